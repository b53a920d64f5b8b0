set_option maxHeartbeats 4000000 in
set_option maxRecDepth 100000 in
theorem L_Q_elementBalances_59 (g : zG) {ad : Nat → Nat} {t : zTT} {u : zNN} {w : zW} (hI : IV g ad t u w) (e : Nat) (he : e < 4) : ∀ (d i : Nat) (s9 : Int64), i ≤ u.1 1 → u.1 1 < i + d → DW g M_Ip_elementBalances (fun o w1 => (∃ v : Int32, o = .inl (some (.int v))) ∧ w1 = w) w 59 [(4, .int (nI i)), (2, .long s9), (0, .ref (ad 0)), (1, .int (nI e))] [] 0 0 := by
  intro d
  induction d with
  | zero => intro i s9 h1 h2 ; exact absurd h2 (by omega)
  | succ d ih =>
    intro i s9 h1 h2 
    obtain ⟨e_a, wf_a, k_a⟩ := hI.1.2 0 (by decide)
    obtain rfl := kd_0.mp k_a
    obtain ⟨e_fu, wf_fu, k_fu⟩ := hI.1.2 36 (by decide)
    obtain rfl := kd_36.mp k_fu
    obtain ⟨e_fub, wf_fub, k_fub⟩ := hI.1.2 37 (by decide)
    obtain rfl := kd_37.mp k_fub
    obtain ⟨e_fubg, wf_fubg, k_fubg⟩ := hI.1.2 38 (by decide)
    obtain rfl := kd_38.mp k_fubg
    obtain ⟨e_fut1, wf_fut1, k_fut1⟩ := hI.1.2 39 (by decide)
    obtain rfl := kd_39.mp k_fut1
    obtain ⟨e_fut2, wf_fut2, k_fut2⟩ := hI.1.2 40 (by decide)
    obtain rfl := kd_40.mp k_fut2
    obtain ⟨e_fut3, wf_fut3, k_fut3⟩ := hI.1.2 41 (by decide)
    obtain rfl := kd_41.mp k_fut3
    obtain ⟨e_la, wf_la, k_la⟩ := hI.1.2 42 (by decide)
    obtain ⟨c_la_0, rfl⟩ := kd_42.mp k_la
    obtain ⟨e_lab, wf_lab, k_lab⟩ := hI.1.2 43 (by decide)
    obtain ⟨c_lab_0, rfl⟩ := kd_43.mp k_lab
    obtain ⟨e_labg, wf_labg, k_labg⟩ := hI.1.2 44 (by decide)
    obtain rfl := kd_44.mp k_labg
    obtain ⟨e_gy, wf_gy, k_gy⟩ := hI.1.2 45 (by decide)
    obtain rfl := kd_45.mp k_gy
    obtain ⟨e_gyg, wf_gyg, k_gyg⟩ := hI.1.2 46 (by decide)
    obtain rfl := kd_46.mp k_gyg
    obtain ⟨e_du, wf_du, k_du⟩ := hI.1.2 47 (by decide)
    obtain rfl := kd_47.mp k_du
    obtain ⟨e_dug, wf_dug, k_dug⟩ := hI.1.2 48 (by decide)
    obtain rfl := kd_48.mp k_dug
    have h33 := hI.n5 1 (by decide)
    have hJ := hI.1.I [0, 36, 37, 38, 39, 40, 41, 42, 43, 44, 45, 46, 47, 48] [((ad 0), .inr (11, [.ref (ad 1), .ref (ad 5), .ref (ad 18), .ref (ad 31), .ref (ad 32), .ref (ad 36), .ref (ad 42), .ref (ad 45), .ref (ad 47), .ref (ad 49), .ref (ad 50), .ref (ad 51)])), ((ad 36), .inr (3, [.ref (ad 37), .ref (ad 39), .ref (ad 40), .ref (ad 41), .long ((t.1 36).2.1 0)])), ((ad 37), .inr (6, [.ref (ad 38), .int ((t.1 37).1 0)])), ((ad 38), .inl (3, 4, .inr (.inl ((t.1 38).2.1)))), ((ad 39), .inl (3, 4, .inr (.inl ((t.1 39).2.1)))), ((ad 40), .inl (3, 4, .inr (.inl ((t.1 40).2.1)))), ((ad 41), .inl (3, 4, .inr (.inl ((t.1 41).2.1)))), ((ad 42), .inr (5, [.ref (ad 43), .int ((t.1 42).1 0), .int ((t.1 42).1 1), .int ((t.1 42).1 2)])), ((ad 43), .inr (6, [.ref (ad 44), .int ((t.1 43).1 0)])), ((ad 44), .inl (3, 4, .inr (.inl ((t.1 44).2.1)))), ((ad 45), .inr (6, [.ref (ad 46), .int ((t.1 45).1 0)])), ((ad 46), .inl (3, 4, .inr (.inl ((t.1 46).2.1)))), ((ad 47), .inr (6, [.ref (ad 48), .int ((t.1 47).1 0)])), ((ad 48), .inl (3, 4, .inr (.inl ((t.1 48).2.1))))] rfl (by decide) (by decide) (List.forall_mem_cons.mpr ⟨wf_a, (List.forall_mem_cons.mpr ⟨wf_fu, (List.forall_mem_cons.mpr ⟨wf_fub, (List.forall_mem_cons.mpr ⟨wf_fubg, (List.forall_mem_cons.mpr ⟨wf_fut1, (List.forall_mem_cons.mpr ⟨wf_fut2, (List.forall_mem_cons.mpr ⟨wf_fut3, (List.forall_mem_cons.mpr ⟨wf_la, (List.forall_mem_cons.mpr ⟨wf_lab, (List.forall_mem_cons.mpr ⟨wf_labg, (List.forall_mem_cons.mpr ⟨wf_gy, (List.forall_mem_cons.mpr ⟨wf_gyg, (List.forall_mem_cons.mpr ⟨wf_du, (List.forall_mem_cons.mpr ⟨wf_dug, (fun _ h => nomatch h)⟩)⟩)⟩)⟩)⟩)⟩)⟩)⟩)⟩)⟩)⟩)⟩)⟩)⟩)
    refine y_base hJ ?_
    refine y_iload d_Ip_elementBalances_59 0 rfl ?_
    refine y_aload_n d_Ip_elementBalances_61 rfl 2 rfl ?_
    refine y_get fs_Ip_78 d_Ip_elementBalances_62 (q0 := 0) rfl rfl ?_
    refine yw_callVL (As := []) (rest := [.int (nI i)]) (ci := 13) rfl (fun wA hA => ((hI.gen (t2 := t) (is := [0, 36, 37, 38, 39, 40, 41, 42, 43, 44, 45, 46, 47, 48]) (L2 := []) hA rfl ⟨kd_0.mpr rfl, kd_36.mpr rfl, kd_37.mpr rfl, kd_38.mpr rfl, kd_39.mpr rfl, kd_40.mpr rfl, kd_41.mpr rfl, kd_42.mpr ⟨c_la_0, rfl⟩, kd_43.mpr ⟨c_lab_0, rfl⟩, kd_44.mpr rfl, kd_45.mpr rfl, kd_46.mpr rfl, kd_47.mpr rfl, kd_48.mpr rfl, trivial⟩ (by decide) (by decide) (fun _ h => nomatch h) (fun _ h => nomatch h) (fun _ _ _ => rfl) (fun h => h) rfl).2.1.1 1 (by decide)).ob) ln_Ip_341 w_im_AL_size w_se_AL_size ok_Ip_elementBalances_AL_size d_Ip_elementBalances_65 (fun wA hA => Q_size ((hI.gen (t2 := t) (is := [0, 36, 37, 38, 39, 40, 41, 42, 43, 44, 45, 46, 47, 48]) (L2 := []) hA rfl ⟨kd_0.mpr rfl, kd_36.mpr rfl, kd_37.mpr rfl, kd_38.mpr rfl, kd_39.mpr rfl, kd_40.mpr rfl, kd_41.mpr rfl, kd_42.mpr ⟨c_la_0, rfl⟩, kd_43.mpr ⟨c_lab_0, rfl⟩, kd_44.mpr rfl, kd_45.mpr rfl, kd_46.mpr rfl, kd_47.mpr rfl, kd_48.mpr rfl, trivial⟩ (by decide) (by decide) (fun _ h => nomatch h) (fun _ h => nomatch h) (fun _ _ _ => rfl) (fun h => h) rfl).2.1.1 1 (by decide))) rfl rfl (Nat.le_of_ble_eq_true rfl) (by omega) (by omega) (fun wA65 hA65 E wB65 hx => ?_) (fun wA65 hA65 v wB65 hx => ?_)
    · exact absurd hx.1 (by simp)
    · obtain ⟨e1, e2⟩ := hx
      cases e1
      refine yw_st (st2 := [.int (nI (u.1 1)), .int (nI i)]) rfl ?_
      subst e2
      refine y_go hA65 ?_
      refine y_icmp_ge (tgt := 112) d_Ip_elementBalances_68 (by decide) (fun c_68 => ?_) (fun c_68 => ?_)
      · have hn := z_le (a := (u.1 1)) (b := i) (by omega) (by omega) c_68
        refine y_lload_n d_Ip_elementBalances_112 rfl 1 rfl ?_
        refine y_ldc2 ct_Ip_567 d_Ip_elementBalances_113 ?_
        refine y_lmul d_Ip_elementBalances_116 (v := s9 * 10) rfl ?_
        refine y_aload_n d_Ip_elementBalances_117 rfl 2 rfl ?_
        refine y_get fs_Ip_43 d_Ip_elementBalances_118 (q0 := 0) rfl rfl ?_
        refine y_get fs_Ip_569 d_Ip_elementBalances_121 (q0 := 1) rfl rfl ?_
        refine y_iload_n d_Ip_elementBalances_124 rfl 3 rfl ?_
        refine y_lald d_Ip_elementBalances_125 (q0 := 5) rfl (vp_in_nI (by omega) (by omega)) (v := ((t.1 40).2.1) e) (by rw [nI_clamp (by omega)]) ?_
        refine y_ladd d_Ip_elementBalances_126 (v := (s9 * 10) + (((t.1 40).2.1) e)) rfl ?_
        refine y_aload_n d_Ip_elementBalances_127 rfl 2 rfl ?_
        refine y_get fs_Ip_43 d_Ip_elementBalances_128 (q0 := 0) rfl rfl ?_
        refine y_get fs_Ip_572 d_Ip_elementBalances_131 (q0 := 1) rfl rfl ?_
        refine y_iload_n d_Ip_elementBalances_134 rfl 3 rfl ?_
        refine y_lald d_Ip_elementBalances_135 (q0 := 4) rfl (vp_in_nI (by omega) (by omega)) (v := ((t.1 39).2.1) e) (by rw [nI_clamp (by omega)]) ?_
        refine y_lcmp d_Ip_elementBalances_136 (v := lg_cmp ((s9 * 10) + (((t.1 40).2.1) e)) (((t.1 39).2.1) e)) rfl ?_
        refine y_if_ne (tgt := 144) d_Ip_elementBalances_137 (by decide) (fun c_137 => ?_) (fun c_137 => ?_)
        · refine y_iconst d_Ip_elementBalances_144 (v := 0) (by decide) ?_
          refine y_iret d_Ip_elementBalances_145 rfl rfl ?_
          exact fun w1 h1 => ⟨⟨_, rfl⟩, z_I.same hJ h1⟩
        · refine y_iconst d_Ip_elementBalances_140 (v := 1) (by decide) ?_
          refine y_goto (tgt := 145) d_Ip_elementBalances_141 (by decide) ?_
          refine y_iret d_Ip_elementBalances_145 rfl rfl ?_
          exact fun w1 h1 => ⟨⟨_, rfl⟩, z_I.same hJ h1⟩
      · have hn := z_nle (a := (u.1 1)) (b := i) (by omega) (by omega) c_68
        refine y_aload_n d_Ip_elementBalances_71 rfl 2 rfl ?_
        refine y_get fs_Ip_78 d_Ip_elementBalances_72 (q0 := 0) rfl rfl ?_
        refine y_iload d_Ip_elementBalances_75 0 rfl ?_
        refine yw_callVL (As := [.int (nI i)]) (rest := []) (ci := 13) rfl (fun wA hA => ((hI.gen (t2 := t) (is := [0, 36, 37, 38, 39, 40, 41, 42, 43, 44, 45, 46, 47, 48]) (L2 := []) hA rfl ⟨kd_0.mpr rfl, kd_36.mpr rfl, kd_37.mpr rfl, kd_38.mpr rfl, kd_39.mpr rfl, kd_40.mpr rfl, kd_41.mpr rfl, kd_42.mpr ⟨c_la_0, rfl⟩, kd_43.mpr ⟨c_lab_0, rfl⟩, kd_44.mpr rfl, kd_45.mpr rfl, kd_46.mpr rfl, kd_47.mpr rfl, kd_48.mpr rfl, trivial⟩ (by decide) (by decide) (fun _ h => nomatch h) (fun _ h => nomatch h) (fun _ _ _ => rfl) (fun h => h) rfl).2.1.1 1 (by decide)).ob) ln_Ip_344 w_im_AL_get w_se_AL_get ok_Ip_elementBalances_AL_get d_Ip_elementBalances_77 (fun wA hA => Q_get ((hI.gen (t2 := t) (is := [0, 36, 37, 38, 39, 40, 41, 42, 43, 44, 45, 46, 47, 48]) (L2 := []) hA rfl ⟨kd_0.mpr rfl, kd_36.mpr rfl, kd_37.mpr rfl, kd_38.mpr rfl, kd_39.mpr rfl, kd_40.mpr rfl, kd_41.mpr rfl, kd_42.mpr ⟨c_la_0, rfl⟩, kd_43.mpr ⟨c_lab_0, rfl⟩, kd_44.mpr rfl, kd_45.mpr rfl, kd_46.mpr rfl, kd_47.mpr rfl, kd_48.mpr rfl, trivial⟩ (by decide) (by decide) (fun _ h => nomatch h) (fun _ h => nomatch h) (fun _ _ _ => rfl) (fun h => h) rfl).2.1.1 1 (by decide)) hn) rfl rfl (Nat.le_of_ble_eq_true rfl) (by omega) (by omega) (fun wA77 hA77 E wB77 hx => ?_) (fun wA77 hA77 v wB77 hx => ?_)
        · exact absurd hx.1 (by simp)
        · obtain ⟨e1, e2⟩ := hx
          cases e1
          refine yw_st (st2 := [.ref (u.2.2 1 i)]) rfl ?_
          subst e2
          refine y_go hA77 ?_
          refine y_end (fun wC1 hC1 => ?_)
          obtain rfl := z_I.same hJ hC1
          obtain ⟨nf_c, me_c, gr_c, hw_c, nfm_c, hwm_c, nfg_c, hwg_c⟩ := hI.2.1.2.1 1 (by decide) i hn
          have hJ : z_I _ _ ([((ad 0), .inr (11, [.ref (ad 1), .ref (ad 5), .ref (ad 18), .ref (ad 31), .ref (ad 32), .ref (ad 36), .ref (ad 42), .ref (ad 45), .ref (ad 47), .ref (ad 49), .ref (ad 50), .ref (ad 51)])), ((ad 36), .inr (3, [.ref (ad 37), .ref (ad 39), .ref (ad 40), .ref (ad 41), .long ((t.1 36).2.1 0)])), ((ad 37), .inr (6, [.ref (ad 38), .int ((t.1 37).1 0)])), ((ad 38), .inl (3, 4, .inr (.inl ((t.1 38).2.1)))), ((ad 39), .inl (3, 4, .inr (.inl ((t.1 39).2.1)))), ((ad 40), .inl (3, 4, .inr (.inl ((t.1 40).2.1)))), ((ad 41), .inl (3, 4, .inr (.inl ((t.1 41).2.1)))), ((ad 42), .inr (5, [.ref (ad 43), .int ((t.1 42).1 0), .int ((t.1 42).1 1), .int ((t.1 42).1 2)])), ((ad 43), .inr (6, [.ref (ad 44), .int ((t.1 43).1 0)])), ((ad 44), .inl (3, 4, .inr (.inl ((t.1 44).2.1)))), ((ad 45), .inr (6, [.ref (ad 46), .int ((t.1 45).1 0)])), ((ad 46), .inl (3, 4, .inr (.inl ((t.1 46).2.1)))), ((ad 47), .inr (6, [.ref (ad 48), .int ((t.1 47).1 0)])), ((ad 48), .inl (3, 4, .inr (.inl ((t.1 48).2.1)))), ((u.2.2 1 i), .inr (0, [.ref me_c, .int ((t.2 1 i).1 0), .int ((t.2 1 i).1 1), .int ((t.2 1 i).1 2), .int ((t.2 1 i).1 3), .int ((t.2 1 i).1 4)])), (me_c, .inr (6, [.ref gr_c, .int ((t.2 1 i).1 5)])), (gr_c, .inl (3, 4, .inr (.inl ((t.2 1 i).2.2.1))))] : zC).length [((ad 0), .inr (11, [.ref (ad 1), .ref (ad 5), .ref (ad 18), .ref (ad 31), .ref (ad 32), .ref (ad 36), .ref (ad 42), .ref (ad 45), .ref (ad 47), .ref (ad 49), .ref (ad 50), .ref (ad 51)])), ((ad 36), .inr (3, [.ref (ad 37), .ref (ad 39), .ref (ad 40), .ref (ad 41), .long ((t.1 36).2.1 0)])), ((ad 37), .inr (6, [.ref (ad 38), .int ((t.1 37).1 0)])), ((ad 38), .inl (3, 4, .inr (.inl ((t.1 38).2.1)))), ((ad 39), .inl (3, 4, .inr (.inl ((t.1 39).2.1)))), ((ad 40), .inl (3, 4, .inr (.inl ((t.1 40).2.1)))), ((ad 41), .inl (3, 4, .inr (.inl ((t.1 41).2.1)))), ((ad 42), .inr (5, [.ref (ad 43), .int ((t.1 42).1 0), .int ((t.1 42).1 1), .int ((t.1 42).1 2)])), ((ad 43), .inr (6, [.ref (ad 44), .int ((t.1 43).1 0)])), ((ad 44), .inl (3, 4, .inr (.inl ((t.1 44).2.1)))), ((ad 45), .inr (6, [.ref (ad 46), .int ((t.1 45).1 0)])), ((ad 46), .inl (3, 4, .inr (.inl ((t.1 46).2.1)))), ((ad 47), .inr (6, [.ref (ad 48), .int ((t.1 47).1 0)])), ((ad 48), .inl (3, 4, .inr (.inl ((t.1 48).2.1)))), ((u.2.2 1 i), .inr (0, [.ref me_c, .int ((t.2 1 i).1 0), .int ((t.2 1 i).1 1), .int ((t.2 1 i).1 2), .int ((t.2 1 i).1 3), .int ((t.2 1 i).1 4)])), (me_c, .inr (6, [.ref gr_c, .int ((t.2 1 i).1 5)])), (gr_c, .inl (3, 4, .inr (.inl ((t.2 1 i).2.2.1))))] := hI.1.B [0, 36, 37, 38, 39, 40, 41, 42, 43, 44, 45, 46, 47, 48] [((ad 0), .inr (11, [.ref (ad 1), .ref (ad 5), .ref (ad 18), .ref (ad 31), .ref (ad 32), .ref (ad 36), .ref (ad 42), .ref (ad 45), .ref (ad 47), .ref (ad 49), .ref (ad 50), .ref (ad 51)])), ((ad 36), .inr (3, [.ref (ad 37), .ref (ad 39), .ref (ad 40), .ref (ad 41), .long ((t.1 36).2.1 0)])), ((ad 37), .inr (6, [.ref (ad 38), .int ((t.1 37).1 0)])), ((ad 38), .inl (3, 4, .inr (.inl ((t.1 38).2.1)))), ((ad 39), .inl (3, 4, .inr (.inl ((t.1 39).2.1)))), ((ad 40), .inl (3, 4, .inr (.inl ((t.1 40).2.1)))), ((ad 41), .inl (3, 4, .inr (.inl ((t.1 41).2.1)))), ((ad 42), .inr (5, [.ref (ad 43), .int ((t.1 42).1 0), .int ((t.1 42).1 1), .int ((t.1 42).1 2)])), ((ad 43), .inr (6, [.ref (ad 44), .int ((t.1 43).1 0)])), ((ad 44), .inl (3, 4, .inr (.inl ((t.1 44).2.1)))), ((ad 45), .inr (6, [.ref (ad 46), .int ((t.1 45).1 0)])), ((ad 46), .inl (3, 4, .inr (.inl ((t.1 46).2.1)))), ((ad 47), .inr (6, [.ref (ad 48), .int ((t.1 47).1 0)])), ((ad 48), .inl (3, 4, .inr (.inl ((t.1 48).2.1))))] [((u.2.2 1 i), .inr (0, [.ref me_c, .int ((t.2 1 i).1 0), .int ((t.2 1 i).1 1), .int ((t.2 1 i).1 2), .int ((t.2 1 i).1 3), .int ((t.2 1 i).1 4)])), (me_c, .inr (6, [.ref gr_c, .int ((t.2 1 i).1 5)])), (gr_c, .inl (3, 4, .inr (.inl ((t.2 1 i).2.2.1))))] rfl (by decide) (by decide) (List.forall_mem_cons.mpr ⟨wf_a, (List.forall_mem_cons.mpr ⟨wf_fu, (List.forall_mem_cons.mpr ⟨wf_fub, (List.forall_mem_cons.mpr ⟨wf_fubg, (List.forall_mem_cons.mpr ⟨wf_fut1, (List.forall_mem_cons.mpr ⟨wf_fut2, (List.forall_mem_cons.mpr ⟨wf_fut3, (List.forall_mem_cons.mpr ⟨wf_la, (List.forall_mem_cons.mpr ⟨wf_lab, (List.forall_mem_cons.mpr ⟨wf_labg, (List.forall_mem_cons.mpr ⟨wf_gy, (List.forall_mem_cons.mpr ⟨wf_gyg, (List.forall_mem_cons.mpr ⟨wf_du, (List.forall_mem_cons.mpr ⟨wf_dug, (fun _ h => nomatch h)⟩)⟩)⟩)⟩)⟩)⟩)⟩)⟩)⟩)⟩)⟩)⟩)⟩)⟩) (List.forall_mem_cons.mpr ⟨hw_c, (List.forall_mem_cons.mpr ⟨hwm_c, (List.forall_mem_cons.mpr ⟨hwg_c, (fun _ h => nomatch h)⟩)⟩)⟩) (List.forall_mem_cons.mpr ⟨nf_c, (List.forall_mem_cons.mpr ⟨nfm_c, (List.forall_mem_cons.mpr ⟨nfg_c, (fun _ h => nomatch h)⟩)⟩)⟩) (by simp [z_kd])
          refine y_base hJ ?_
          refine y_castO lk_Ip_441 d_Ip_elementBalances_80 (q0 := 14) rfl rfl ?_
          refine y_astore (lv' := [(5, .ref (u.2.2 1 i)), (4, .int (nI i)), (2, .long s9), (0, .ref (ad 0)), (1, .int (nI e))]) d_Ip_elementBalances_83 (by decide) rfl ?_
          refine y_aload d_Ip_elementBalances_85 0 rfl ?_
          refine y_get fs_Ip_469 d_Ip_elementBalances_87 (q0 := 14) rfl rfl ?_
          refine y_if_ne (tgt := 106) d_Ip_elementBalances_90 (by decide) (fun c_90 => ?_) (fun c_90 => ?_)
          · refine y_iinc (lv' := [(4, .int (nI (i + 1))), (5, .ref (u.2.2 1 i)), (2, .long s9), (0, .ref (ad 0)), (1, .int (nI e))]) (v := nI (i + 1)) d_Ip_elementBalances_106 (j := 1) rfl (nI_add _ _) (by decide) rfl ?_
            refine y_goto (tgt := 59) d_Ip_elementBalances_109 (by decide) ?_
            refine y_lv (lv' := [(4, .int (nI (i + 1))), (2, .long s9), (0, .ref (ad 0)), (1, .int (nI e))]) [0, 2, 3, 4] rfl ?_
            refine y_end (fun wC2 hC2 => ?_)
            obtain rfl := z_I.same hJ hC2
            exact ih (i + 1) _ (by omega) (by omega) 
          · refine y_lload_n d_Ip_elementBalances_93 rfl 2 rfl ?_
            refine y_aload d_Ip_elementBalances_94 0 rfl ?_
            refine y_get fs_Ip_450 d_Ip_elementBalances_96 (q0 := 14) rfl rfl ?_
            refine y_get fs_Ip_308 d_Ip_elementBalances_99 (q0 := 15) rfl rfl ?_
            refine y_iload_n d_Ip_elementBalances_102 rfl 4 rfl ?_
            refine y_lald d_Ip_elementBalances_103 (q0 := 16) rfl (vp_in_nI (by omega) (by omega)) (v := ((t.2 1 i).2.2.1) e) (by rw [nI_clamp (by omega)]) ?_
            refine y_ladd d_Ip_elementBalances_104 (v := s9 + (((t.2 1 i).2.2.1) e)) rfl ?_
            refine y_lstore_n (lv' := [(2, .long (s9 + (((t.2 1 i).2.2.1) e))), (5, .ref (u.2.2 1 i)), (4, .int (nI i)), (0, .ref (ad 0)), (1, .int (nI e))]) d_Ip_elementBalances_105 rfl (by decide) rfl ?_
            refine y_iinc (lv' := [(4, .int (nI (i + 1))), (2, .long (s9 + (((t.2 1 i).2.2.1) e))), (5, .ref (u.2.2 1 i)), (0, .ref (ad 0)), (1, .int (nI e))]) (v := nI (i + 1)) d_Ip_elementBalances_106 (j := 2) rfl (nI_add _ _) (by decide) rfl ?_
            refine y_goto (tgt := 59) d_Ip_elementBalances_109 (by decide) ?_
            refine y_lv (lv' := [(4, .int (nI (i + 1))), (2, .long (s9 + (((t.2 1 i).2.2.1) e))), (0, .ref (ad 0)), (1, .int (nI e))]) [0, 1, 3, 4] rfl ?_
            refine y_end (fun wC3 hC3 => ?_)
            obtain rfl := z_I.same hJ hC3
            exact ih (i + 1) _ (by omega) (by omega) 
set_option maxHeartbeats 4000000 in
set_option maxRecDepth 100000 in
theorem Q_elementBalances {g : zG} {ad : Nat → Nat} {t : zTT} {u : zNN} {w : zW} (hI : IV g ad t u w) (e : Nat) (he : e < 4) : zMB g M_Ip_elementBalances [.ref (ad 0), .int (nI e)] w (fun o w1 => (∃ v : Int32, o = .inl (some (.int v))) ∧ w1 = w) 0 0 := by
  obtain ⟨e_a, wf_a, k_a⟩ := hI.1.2 0 (by decide)
  obtain rfl := kd_0.mp k_a
  obtain ⟨e_fu, wf_fu, k_fu⟩ := hI.1.2 36 (by decide)
  obtain rfl := kd_36.mp k_fu
  obtain ⟨e_fub, wf_fub, k_fub⟩ := hI.1.2 37 (by decide)
  obtain rfl := kd_37.mp k_fub
  obtain ⟨e_fubg, wf_fubg, k_fubg⟩ := hI.1.2 38 (by decide)
  obtain rfl := kd_38.mp k_fubg
  obtain ⟨e_fut1, wf_fut1, k_fut1⟩ := hI.1.2 39 (by decide)
  obtain rfl := kd_39.mp k_fut1
  obtain ⟨e_fut2, wf_fut2, k_fut2⟩ := hI.1.2 40 (by decide)
  obtain rfl := kd_40.mp k_fut2
  obtain ⟨e_fut3, wf_fut3, k_fut3⟩ := hI.1.2 41 (by decide)
  obtain rfl := kd_41.mp k_fut3
  obtain ⟨e_la, wf_la, k_la⟩ := hI.1.2 42 (by decide)
  obtain ⟨c_la_0, rfl⟩ := kd_42.mp k_la
  obtain ⟨e_lab, wf_lab, k_lab⟩ := hI.1.2 43 (by decide)
  obtain ⟨c_lab_0, rfl⟩ := kd_43.mp k_lab
  obtain ⟨e_labg, wf_labg, k_labg⟩ := hI.1.2 44 (by decide)
  obtain rfl := kd_44.mp k_labg
  obtain ⟨e_gy, wf_gy, k_gy⟩ := hI.1.2 45 (by decide)
  obtain rfl := kd_45.mp k_gy
  obtain ⟨e_gyg, wf_gyg, k_gyg⟩ := hI.1.2 46 (by decide)
  obtain rfl := kd_46.mp k_gyg
  obtain ⟨e_du, wf_du, k_du⟩ := hI.1.2 47 (by decide)
  obtain rfl := kd_47.mp k_du
  obtain ⟨e_dug, wf_dug, k_dug⟩ := hI.1.2 48 (by decide)
  obtain rfl := kd_48.mp k_dug
  have hJ := hI.1.I [0, 36, 37, 38, 39, 40, 41, 42, 43, 44, 45, 46, 47, 48] [((ad 0), .inr (11, [.ref (ad 1), .ref (ad 5), .ref (ad 18), .ref (ad 31), .ref (ad 32), .ref (ad 36), .ref (ad 42), .ref (ad 45), .ref (ad 47), .ref (ad 49), .ref (ad 50), .ref (ad 51)])), ((ad 36), .inr (3, [.ref (ad 37), .ref (ad 39), .ref (ad 40), .ref (ad 41), .long ((t.1 36).2.1 0)])), ((ad 37), .inr (6, [.ref (ad 38), .int ((t.1 37).1 0)])), ((ad 38), .inl (3, 4, .inr (.inl ((t.1 38).2.1)))), ((ad 39), .inl (3, 4, .inr (.inl ((t.1 39).2.1)))), ((ad 40), .inl (3, 4, .inr (.inl ((t.1 40).2.1)))), ((ad 41), .inl (3, 4, .inr (.inl ((t.1 41).2.1)))), ((ad 42), .inr (5, [.ref (ad 43), .int ((t.1 42).1 0), .int ((t.1 42).1 1), .int ((t.1 42).1 2)])), ((ad 43), .inr (6, [.ref (ad 44), .int ((t.1 43).1 0)])), ((ad 44), .inl (3, 4, .inr (.inl ((t.1 44).2.1)))), ((ad 45), .inr (6, [.ref (ad 46), .int ((t.1 45).1 0)])), ((ad 46), .inl (3, 4, .inr (.inl ((t.1 46).2.1)))), ((ad 47), .inr (6, [.ref (ad 48), .int ((t.1 47).1 0)])), ((ad 48), .inl (3, 4, .inr (.inl ((t.1 48).2.1))))] rfl (by decide) (by decide) (List.forall_mem_cons.mpr ⟨wf_a, (List.forall_mem_cons.mpr ⟨wf_fu, (List.forall_mem_cons.mpr ⟨wf_fub, (List.forall_mem_cons.mpr ⟨wf_fubg, (List.forall_mem_cons.mpr ⟨wf_fut1, (List.forall_mem_cons.mpr ⟨wf_fut2, (List.forall_mem_cons.mpr ⟨wf_fut3, (List.forall_mem_cons.mpr ⟨wf_la, (List.forall_mem_cons.mpr ⟨wf_lab, (List.forall_mem_cons.mpr ⟨wf_labg, (List.forall_mem_cons.mpr ⟨wf_gy, (List.forall_mem_cons.mpr ⟨wf_gyg, (List.forall_mem_cons.mpr ⟨wf_du, (List.forall_mem_cons.mpr ⟨wf_dug, (fun _ h => nomatch h)⟩)⟩)⟩)⟩)⟩)⟩)⟩)⟩)⟩)⟩)⟩)⟩)⟩)⟩)
  refine y_of (by decide) rfl (Nat.le_of_ble_eq_true rfl) (y_base (cs := [((ad 0), .inr (11, [.ref (ad 1), .ref (ad 5), .ref (ad 18), .ref (ad 31), .ref (ad 32), .ref (ad 36), .ref (ad 42), .ref (ad 45), .ref (ad 47), .ref (ad 49), .ref (ad 50), .ref (ad 51)])), ((ad 36), .inr (3, [.ref (ad 37), .ref (ad 39), .ref (ad 40), .ref (ad 41), .long ((t.1 36).2.1 0)])), ((ad 37), .inr (6, [.ref (ad 38), .int ((t.1 37).1 0)])), ((ad 38), .inl (3, 4, .inr (.inl ((t.1 38).2.1)))), ((ad 39), .inl (3, 4, .inr (.inl ((t.1 39).2.1)))), ((ad 40), .inl (3, 4, .inr (.inl ((t.1 40).2.1)))), ((ad 41), .inl (3, 4, .inr (.inl ((t.1 41).2.1)))), ((ad 42), .inr (5, [.ref (ad 43), .int ((t.1 42).1 0), .int ((t.1 42).1 1), .int ((t.1 42).1 2)])), ((ad 43), .inr (6, [.ref (ad 44), .int ((t.1 43).1 0)])), ((ad 44), .inl (3, 4, .inr (.inl ((t.1 44).2.1)))), ((ad 45), .inr (6, [.ref (ad 46), .int ((t.1 45).1 0)])), ((ad 46), .inl (3, 4, .inr (.inl ((t.1 46).2.1)))), ((ad 47), .inr (6, [.ref (ad 48), .int ((t.1 47).1 0)])), ((ad 48), .inl (3, 4, .inr (.inl ((t.1 48).2.1))))]) hJ ?_)
  refine y_lvE (lv2 := [(0, .ref (ad 0)), (1, .int (nI e))]) rfl ?_
  refine y_aload_n d_Ip_elementBalances_0 rfl 0 rfl ?_
  refine y_get fs_Ip_43 d_Ip_elementBalances_1 (q0 := 0) rfl rfl ?_
  refine y_get fs_Ip_277 d_Ip_elementBalances_4 (q0 := 1) rfl rfl ?_
  refine y_get fs_Ip_308 d_Ip_elementBalances_7 (q0 := 2) rfl rfl ?_
  refine y_iload_n d_Ip_elementBalances_10 rfl 1 rfl ?_
  refine y_lald d_Ip_elementBalances_11 (q0 := 3) rfl (vp_in_nI (by omega) (by omega)) (v := ((t.1 38).2.1) e) (by rw [nI_clamp (by omega)]) ?_
  refine y_aload_n d_Ip_elementBalances_12 rfl 0 rfl ?_
  refine y_get fs_Ip_50 d_Ip_elementBalances_13 (q0 := 0) rfl rfl ?_
  refine y_get fs_Ip_359 d_Ip_elementBalances_16 (q0 := 7) rfl rfl ?_
  refine y_get fs_Ip_308 d_Ip_elementBalances_19 (q0 := 8) rfl rfl ?_
  refine y_iload_n d_Ip_elementBalances_22 rfl 1 rfl ?_
  refine y_lald d_Ip_elementBalances_23 (q0 := 9) rfl (vp_in_nI (by omega) (by omega)) (v := ((t.1 44).2.1) e) (by rw [nI_clamp (by omega)]) ?_
  refine y_ladd d_Ip_elementBalances_24 (v := (((t.1 38).2.1) e) + (((t.1 44).2.1) e)) rfl ?_
  refine y_aload_n d_Ip_elementBalances_25 rfl 0 rfl ?_
  refine y_get fs_Ip_57 d_Ip_elementBalances_26 (q0 := 0) rfl rfl ?_
  refine y_get fs_Ip_308 d_Ip_elementBalances_29 (q0 := 10) rfl rfl ?_
  refine y_iload_n d_Ip_elementBalances_32 rfl 1 rfl ?_
  refine y_lald d_Ip_elementBalances_33 (q0 := 11) rfl (vp_in_nI (by omega) (by omega)) (v := ((t.1 46).2.1) e) (by rw [nI_clamp (by omega)]) ?_
  refine y_ladd d_Ip_elementBalances_34 (v := ((((t.1 38).2.1) e) + (((t.1 44).2.1) e)) + (((t.1 46).2.1) e)) rfl ?_
  refine y_aload_n d_Ip_elementBalances_35 rfl 0 rfl ?_
  refine y_get fs_Ip_61 d_Ip_elementBalances_36 (q0 := 0) rfl rfl ?_
  refine y_get fs_Ip_308 d_Ip_elementBalances_39 (q0 := 12) rfl rfl ?_
  refine y_iload_n d_Ip_elementBalances_42 rfl 1 rfl ?_
  refine y_lald d_Ip_elementBalances_43 (q0 := 13) rfl (vp_in_nI (by omega) (by omega)) (v := ((t.1 48).2.1) e) (by rw [nI_clamp (by omega)]) ?_
  refine y_ladd d_Ip_elementBalances_44 (v := (((((t.1 38).2.1) e) + (((t.1 44).2.1) e)) + (((t.1 46).2.1) e)) + (((t.1 48).2.1) e)) rfl ?_
  refine y_aload_n d_Ip_elementBalances_45 rfl 0 rfl ?_
  refine y_get fs_Ip_43 d_Ip_elementBalances_46 (q0 := 0) rfl rfl ?_
  refine y_get fs_Ip_564 d_Ip_elementBalances_49 (q0 := 1) rfl rfl ?_
  refine y_iload_n d_Ip_elementBalances_52 rfl 1 rfl ?_
  refine y_lald d_Ip_elementBalances_53 (q0 := 6) rfl (vp_in_nI (by omega) (by omega)) (v := ((t.1 41).2.1) e) (by rw [nI_clamp (by omega)]) ?_
  refine y_ladd d_Ip_elementBalances_54 (v := ((((((t.1 38).2.1) e) + (((t.1 44).2.1) e)) + (((t.1 46).2.1) e)) + (((t.1 48).2.1) e)) + (((t.1 41).2.1) e)) rfl ?_
  refine y_lstore_n (lv' := [(2, .long (((((((t.1 38).2.1) e) + (((t.1 44).2.1) e)) + (((t.1 46).2.1) e)) + (((t.1 48).2.1) e)) + (((t.1 41).2.1) e))), (0, .ref (ad 0)), (1, .int (nI e))]) d_Ip_elementBalances_55 rfl (by decide) rfl ?_
  refine y_iconst d_Ip_elementBalances_56 (v := 0) (by decide) ?_
  refine y_istore (lv' := [(4, .int 0), (2, .long (((((((t.1 38).2.1) e) + (((t.1 44).2.1) e)) + (((t.1 46).2.1) e)) + (((t.1 48).2.1) e)) + (((t.1 41).2.1) e))), (0, .ref (ad 0)), (1, .int (nI e))]) d_Ip_elementBalances_57 (by decide) rfl ?_
  refine y_end (fun wC4 hC4 => ?_)
  obtain rfl := z_I.same hJ hC4
  exact L_Q_elementBalances_59 g hI e he (u.1 1 + 1) 0 _ (Nat.zero_le _) (by omega) 
set_option maxHeartbeats 4000000 in
set_option maxRecDepth 100000 in
theorem C_Ip_checkStandsN (g : zG) (a ab : Nat) (mg sh fb dl bk : Int32) (h1 : dl = 0) (h2 : bk = 0) : CT g M_Ip_checkStands [.ref a] [(a, .inr (0, [.ref ab, .int mg, .int sh, .int fb, .int dl, .int bk]))] (fun o cs1 => o = .inl none ∧ cs1 = [(a, .inr (0, [.ref ab, .int mg, .int sh, .int fb, .int dl, .int bk]))]) 1 6 := by
  refine z_of (by decide) rfl (Nat.le_of_ble_eq_true rfl) (fun w0 => ?_)
  refine r_lvE (lv2 := [(0, .ref a)]) rfl ?_
  refine r_aload_n d_Ip_checkStands_0 rfl 0 rfl ?_
  refine r_get fs_Ip_466 d_Ip_checkStands_1 (q0 := 0) rfl rfl ?_
  refine r_if_ne (tgt := 14) d_Ip_checkStands_4 (by decide) (fun c_4 => ?_) (fun c_4 => ?_)
  · exact absurd h1 c_4
  · refine r_aload_n d_Ip_checkStands_7 rfl 0 rfl ?_
    refine r_get fs_Ip_469 d_Ip_checkStands_8 (q0 := 0) rfl rfl ?_
    refine r_if_eq (tgt := 25) d_Ip_checkStands_11 (by decide) (fun c_11 => ?_) (fun c_11 => ?_)
    · refine r_vret d_Ip_checkStands_25 rfl ?_
      exact ⟨rfl, rfl⟩
    · exact absurd h2 c_11
