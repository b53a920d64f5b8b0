set_option maxHeartbeats 4000000 in
set_option maxRecDepth 100000 in
theorem L_Q_ironBalances_44 (g : zG) {ad : Nat → Nat} {t : zTT} {u : zNN} {w : zW} (hI : IV g ad t u w) : ∀ (d i : Nat) (s9 : Int64), i ≤ u.1 1 → u.1 1 < i + d → DW g M_Ip_ironBalances (fun o w1 => (∃ v : Int32, o = .inl (some (.int v))) ∧ w1 = w) w 44 [(3, .int (nI i)), (1, .long s9), (0, .ref (ad 0))] [] 0 0 := by
  intro d
  induction d with
  | zero => intro i s9 h1 h2 ; exact absurd h2 (by omega)
  | succ d ih =>
    intro i s9 h1 h2 
    obtain ⟨e_a, wf_a, k_a⟩ := hI.1.2 0 (by decide)
    obtain rfl := kd_0.mp k_a
    obtain ⟨e_fu, wf_fu, k_fu⟩ := hI.1.2 36 (by decide)
    obtain rfl := kd_36.mp k_fu
    obtain ⟨e_fub, wf_fub, k_fub⟩ := hI.1.2 37 (by decide)
    obtain rfl := kd_37.mp k_fub
    obtain ⟨e_la, wf_la, k_la⟩ := hI.1.2 42 (by decide)
    obtain ⟨c_la_0, rfl⟩ := kd_42.mp k_la
    obtain ⟨e_lab, wf_lab, k_lab⟩ := hI.1.2 43 (by decide)
    obtain ⟨c_lab_0, rfl⟩ := kd_43.mp k_lab
    obtain ⟨e_gy, wf_gy, k_gy⟩ := hI.1.2 45 (by decide)
    obtain rfl := kd_45.mp k_gy
    obtain ⟨e_du, wf_du, k_du⟩ := hI.1.2 47 (by decide)
    obtain rfl := kd_47.mp k_du
    have h33 := hI.n5 1 (by decide)
    have hJ := hI.1.I [0, 36, 37, 42, 43, 45, 47] [((ad 0), .inr (11, [.ref (ad 1), .ref (ad 5), .ref (ad 18), .ref (ad 31), .ref (ad 32), .ref (ad 36), .ref (ad 42), .ref (ad 45), .ref (ad 47), .ref (ad 49), .ref (ad 50), .ref (ad 51)])), ((ad 36), .inr (3, [.ref (ad 37), .ref (ad 39), .ref (ad 40), .ref (ad 41), .long ((t.1 36).2.1 0)])), ((ad 37), .inr (6, [.ref (ad 38), .int ((t.1 37).1 0)])), ((ad 42), .inr (5, [.ref (ad 43), .int ((t.1 42).1 0), .int ((t.1 42).1 1), .int ((t.1 42).1 2)])), ((ad 43), .inr (6, [.ref (ad 44), .int ((t.1 43).1 0)])), ((ad 45), .inr (6, [.ref (ad 46), .int ((t.1 45).1 0)])), ((ad 47), .inr (6, [.ref (ad 48), .int ((t.1 47).1 0)]))] rfl (by decide) (by decide) (List.forall_mem_cons.mpr ⟨wf_a, (List.forall_mem_cons.mpr ⟨wf_fu, (List.forall_mem_cons.mpr ⟨wf_fub, (List.forall_mem_cons.mpr ⟨wf_la, (List.forall_mem_cons.mpr ⟨wf_lab, (List.forall_mem_cons.mpr ⟨wf_gy, (List.forall_mem_cons.mpr ⟨wf_du, (fun _ h => nomatch h)⟩)⟩)⟩)⟩)⟩)⟩)⟩)
    refine y_base hJ ?_
    refine y_iload_n d_Ip_ironBalances_44 rfl 0 rfl ?_
    refine y_aload_n d_Ip_ironBalances_45 rfl 2 rfl ?_
    refine y_get fs_Ip_78 d_Ip_ironBalances_46 (q0 := 0) rfl rfl ?_
    refine yw_callVL (As := []) (rest := [.int (nI i)]) (ci := 13) rfl (fun wA hA => ((hI.gen (t2 := t) (is := [0, 36, 37, 42, 43, 45, 47]) (L2 := []) hA rfl ⟨kd_0.mpr rfl, kd_36.mpr rfl, kd_37.mpr rfl, kd_42.mpr ⟨c_la_0, rfl⟩, kd_43.mpr ⟨c_lab_0, rfl⟩, kd_45.mpr rfl, kd_47.mpr rfl, trivial⟩ (by decide) (by decide) (fun _ h => nomatch h) (fun _ h => nomatch h) (fun _ _ _ => rfl) (fun h => h) rfl).2.1.1 1 (by decide)).ob) ln_Ip_341 w_im_AL_size w_se_AL_size ok_Ip_ironBalances_AL_size d_Ip_ironBalances_49 (fun wA hA => Q_size ((hI.gen (t2 := t) (is := [0, 36, 37, 42, 43, 45, 47]) (L2 := []) hA rfl ⟨kd_0.mpr rfl, kd_36.mpr rfl, kd_37.mpr rfl, kd_42.mpr ⟨c_la_0, rfl⟩, kd_43.mpr ⟨c_lab_0, rfl⟩, kd_45.mpr rfl, kd_47.mpr rfl, trivial⟩ (by decide) (by decide) (fun _ h => nomatch h) (fun _ h => nomatch h) (fun _ _ _ => rfl) (fun h => h) rfl).2.1.1 1 (by decide))) rfl rfl (Nat.le_of_ble_eq_true rfl) (by omega) (by omega) (fun wA49 hA49 E wB49 hx => ?_) (fun wA49 hA49 v wB49 hx => ?_)
    · exact absurd hx.1 (by simp)
    · obtain ⟨e1, e2⟩ := hx
      cases e1
      refine yw_st (st2 := [.int (nI (u.1 1)), .int (nI i)]) rfl ?_
      subst e2
      refine y_go hA49 ?_
      refine y_icmp_ge (tgt := 94) d_Ip_ironBalances_52 (by decide) (fun c_52 => ?_) (fun c_52 => ?_)
      · have hn := z_le (a := (u.1 1)) (b := i) (by omega) (by omega) c_52
        refine y_lload_n d_Ip_ironBalances_94 rfl 1 rfl ?_
        refine y_aload_n d_Ip_ironBalances_95 rfl 2 rfl ?_
        refine y_get fs_Ip_43 d_Ip_ironBalances_96 (q0 := 0) rfl rfl ?_
        refine y_get fs_Ip_560 d_Ip_ironBalances_99 (q0 := 1) rfl rfl ?_
        refine y_lcmp d_Ip_ironBalances_102 (v := lg_cmp s9 ((t.1 36).2.1 0)) rfl ?_
        refine y_if_ne (tgt := 110) d_Ip_ironBalances_103 (by decide) (fun c_103 => ?_) (fun c_103 => ?_)
        · refine y_iconst d_Ip_ironBalances_110 (v := 0) (by decide) ?_
          refine y_iret d_Ip_ironBalances_111 rfl rfl ?_
          exact fun w1 h1 => ⟨⟨_, rfl⟩, z_I.same hJ h1⟩
        · refine y_iconst d_Ip_ironBalances_106 (v := 1) (by decide) ?_
          refine y_goto (tgt := 111) d_Ip_ironBalances_107 (by decide) ?_
          refine y_iret d_Ip_ironBalances_111 rfl rfl ?_
          exact fun w1 h1 => ⟨⟨_, rfl⟩, z_I.same hJ h1⟩
      · have hn := z_nle (a := (u.1 1)) (b := i) (by omega) (by omega) c_52
        refine y_aload_n d_Ip_ironBalances_55 rfl 2 rfl ?_
        refine y_get fs_Ip_78 d_Ip_ironBalances_56 (q0 := 0) rfl rfl ?_
        refine y_iload_n d_Ip_ironBalances_59 rfl 0 rfl ?_
        refine yw_callVL (As := [.int (nI i)]) (rest := []) (ci := 13) rfl (fun wA hA => ((hI.gen (t2 := t) (is := [0, 36, 37, 42, 43, 45, 47]) (L2 := []) hA rfl ⟨kd_0.mpr rfl, kd_36.mpr rfl, kd_37.mpr rfl, kd_42.mpr ⟨c_la_0, rfl⟩, kd_43.mpr ⟨c_lab_0, rfl⟩, kd_45.mpr rfl, kd_47.mpr rfl, trivial⟩ (by decide) (by decide) (fun _ h => nomatch h) (fun _ h => nomatch h) (fun _ _ _ => rfl) (fun h => h) rfl).2.1.1 1 (by decide)).ob) ln_Ip_344 w_im_AL_get w_se_AL_get ok_Ip_ironBalances_AL_get d_Ip_ironBalances_60 (fun wA hA => Q_get ((hI.gen (t2 := t) (is := [0, 36, 37, 42, 43, 45, 47]) (L2 := []) hA rfl ⟨kd_0.mpr rfl, kd_36.mpr rfl, kd_37.mpr rfl, kd_42.mpr ⟨c_la_0, rfl⟩, kd_43.mpr ⟨c_lab_0, rfl⟩, kd_45.mpr rfl, kd_47.mpr rfl, trivial⟩ (by decide) (by decide) (fun _ h => nomatch h) (fun _ h => nomatch h) (fun _ _ _ => rfl) (fun h => h) rfl).2.1.1 1 (by decide)) hn) rfl rfl (Nat.le_of_ble_eq_true rfl) (by omega) (by omega) (fun wA60 hA60 E wB60 hx => ?_) (fun wA60 hA60 v wB60 hx => ?_)
        · exact absurd hx.1 (by simp)
        · obtain ⟨e1, e2⟩ := hx
          cases e1
          refine yw_st (st2 := [.ref (u.2.2 1 i)]) rfl ?_
          subst e2
          refine y_go hA60 ?_
          refine y_end (fun wC1 hC1 => ?_)
          obtain rfl := z_I.same hJ hC1
          obtain ⟨nf_c, me_c, gr_c, hw_c, nfm_c, hwm_c, nfg_c, hwg_c⟩ := hI.2.1.2.1 1 (by decide) i hn
          have hJ : z_I _ _ ([((ad 0), .inr (11, [.ref (ad 1), .ref (ad 5), .ref (ad 18), .ref (ad 31), .ref (ad 32), .ref (ad 36), .ref (ad 42), .ref (ad 45), .ref (ad 47), .ref (ad 49), .ref (ad 50), .ref (ad 51)])), ((ad 36), .inr (3, [.ref (ad 37), .ref (ad 39), .ref (ad 40), .ref (ad 41), .long ((t.1 36).2.1 0)])), ((ad 37), .inr (6, [.ref (ad 38), .int ((t.1 37).1 0)])), ((ad 42), .inr (5, [.ref (ad 43), .int ((t.1 42).1 0), .int ((t.1 42).1 1), .int ((t.1 42).1 2)])), ((ad 43), .inr (6, [.ref (ad 44), .int ((t.1 43).1 0)])), ((ad 45), .inr (6, [.ref (ad 46), .int ((t.1 45).1 0)])), ((ad 47), .inr (6, [.ref (ad 48), .int ((t.1 47).1 0)])), ((u.2.2 1 i), .inr (0, [.ref me_c, .int ((t.2 1 i).1 0), .int ((t.2 1 i).1 1), .int ((t.2 1 i).1 2), .int ((t.2 1 i).1 3), .int ((t.2 1 i).1 4)])), (me_c, .inr (6, [.ref gr_c, .int ((t.2 1 i).1 5)])), (gr_c, .inl (3, 4, .inr (.inl ((t.2 1 i).2.2.1))))] : zC).length [((ad 0), .inr (11, [.ref (ad 1), .ref (ad 5), .ref (ad 18), .ref (ad 31), .ref (ad 32), .ref (ad 36), .ref (ad 42), .ref (ad 45), .ref (ad 47), .ref (ad 49), .ref (ad 50), .ref (ad 51)])), ((ad 36), .inr (3, [.ref (ad 37), .ref (ad 39), .ref (ad 40), .ref (ad 41), .long ((t.1 36).2.1 0)])), ((ad 37), .inr (6, [.ref (ad 38), .int ((t.1 37).1 0)])), ((ad 42), .inr (5, [.ref (ad 43), .int ((t.1 42).1 0), .int ((t.1 42).1 1), .int ((t.1 42).1 2)])), ((ad 43), .inr (6, [.ref (ad 44), .int ((t.1 43).1 0)])), ((ad 45), .inr (6, [.ref (ad 46), .int ((t.1 45).1 0)])), ((ad 47), .inr (6, [.ref (ad 48), .int ((t.1 47).1 0)])), ((u.2.2 1 i), .inr (0, [.ref me_c, .int ((t.2 1 i).1 0), .int ((t.2 1 i).1 1), .int ((t.2 1 i).1 2), .int ((t.2 1 i).1 3), .int ((t.2 1 i).1 4)])), (me_c, .inr (6, [.ref gr_c, .int ((t.2 1 i).1 5)])), (gr_c, .inl (3, 4, .inr (.inl ((t.2 1 i).2.2.1))))] := hI.1.B [0, 36, 37, 42, 43, 45, 47] [((ad 0), .inr (11, [.ref (ad 1), .ref (ad 5), .ref (ad 18), .ref (ad 31), .ref (ad 32), .ref (ad 36), .ref (ad 42), .ref (ad 45), .ref (ad 47), .ref (ad 49), .ref (ad 50), .ref (ad 51)])), ((ad 36), .inr (3, [.ref (ad 37), .ref (ad 39), .ref (ad 40), .ref (ad 41), .long ((t.1 36).2.1 0)])), ((ad 37), .inr (6, [.ref (ad 38), .int ((t.1 37).1 0)])), ((ad 42), .inr (5, [.ref (ad 43), .int ((t.1 42).1 0), .int ((t.1 42).1 1), .int ((t.1 42).1 2)])), ((ad 43), .inr (6, [.ref (ad 44), .int ((t.1 43).1 0)])), ((ad 45), .inr (6, [.ref (ad 46), .int ((t.1 45).1 0)])), ((ad 47), .inr (6, [.ref (ad 48), .int ((t.1 47).1 0)]))] [((u.2.2 1 i), .inr (0, [.ref me_c, .int ((t.2 1 i).1 0), .int ((t.2 1 i).1 1), .int ((t.2 1 i).1 2), .int ((t.2 1 i).1 3), .int ((t.2 1 i).1 4)])), (me_c, .inr (6, [.ref gr_c, .int ((t.2 1 i).1 5)])), (gr_c, .inl (3, 4, .inr (.inl ((t.2 1 i).2.2.1))))] rfl (by decide) (by decide) (List.forall_mem_cons.mpr ⟨wf_a, (List.forall_mem_cons.mpr ⟨wf_fu, (List.forall_mem_cons.mpr ⟨wf_fub, (List.forall_mem_cons.mpr ⟨wf_la, (List.forall_mem_cons.mpr ⟨wf_lab, (List.forall_mem_cons.mpr ⟨wf_gy, (List.forall_mem_cons.mpr ⟨wf_du, (fun _ h => nomatch h)⟩)⟩)⟩)⟩)⟩)⟩)⟩) (List.forall_mem_cons.mpr ⟨hw_c, (List.forall_mem_cons.mpr ⟨hwm_c, (List.forall_mem_cons.mpr ⟨hwg_c, (fun _ h => nomatch h)⟩)⟩)⟩) (List.forall_mem_cons.mpr ⟨nf_c, (List.forall_mem_cons.mpr ⟨nfm_c, (List.forall_mem_cons.mpr ⟨nfg_c, (fun _ h => nomatch h)⟩)⟩)⟩) (by simp [z_kd])
          refine y_base hJ ?_
          refine y_castO lk_Ip_441 d_Ip_ironBalances_63 (q0 := 7) rfl rfl ?_
          refine y_astore (lv' := [(4, .ref (u.2.2 1 i)), (3, .int (nI i)), (1, .long s9), (0, .ref (ad 0))]) d_Ip_ironBalances_66 (by decide) rfl ?_
          refine y_aload d_Ip_ironBalances_68 0 rfl ?_
          refine y_get fs_Ip_469 d_Ip_ironBalances_70 (q0 := 7) rfl rfl ?_
          refine y_if_ne (tgt := 88) d_Ip_ironBalances_73 (by decide) (fun c_73 => ?_) (fun c_73 => ?_)
          · refine y_iinc (lv' := [(3, .int (nI (i + 1))), (4, .ref (u.2.2 1 i)), (1, .long s9), (0, .ref (ad 0))]) (v := nI (i + 1)) d_Ip_ironBalances_88 (j := 1) rfl (nI_add _ _) (by decide) rfl ?_
            refine y_goto (tgt := 44) d_Ip_ironBalances_91 (by decide) ?_
            refine y_lv (lv' := [(3, .int (nI (i + 1))), (1, .long s9), (0, .ref (ad 0))]) [0, 2, 3] rfl ?_
            refine y_end (fun wC2 hC2 => ?_)
            obtain rfl := z_I.same hJ hC2
            exact ih (i + 1) _ (by omega) (by omega) 
          · refine y_lload_n d_Ip_ironBalances_76 rfl 2 rfl ?_
            refine y_aload d_Ip_ironBalances_77 0 rfl ?_
            refine y_get fs_Ip_450 d_Ip_ironBalances_79 (q0 := 7) rfl rfl ?_
            refine y_get fs_Ip_269 d_Ip_ironBalances_82 (q0 := 8) rfl rfl ?_
            refine y_i2l d_Ip_ironBalances_85 (v := ((t.2 1 i).1 5).toInt64) rfl ?_
            refine y_ladd d_Ip_ironBalances_86 (v := s9 + (((t.2 1 i).1 5).toInt64)) rfl ?_
            refine y_lstore_n (lv' := [(1, .long (s9 + (((t.2 1 i).1 5).toInt64))), (4, .ref (u.2.2 1 i)), (3, .int (nI i)), (0, .ref (ad 0))]) d_Ip_ironBalances_87 rfl (by decide) rfl ?_
            refine y_iinc (lv' := [(3, .int (nI (i + 1))), (1, .long (s9 + (((t.2 1 i).1 5).toInt64))), (4, .ref (u.2.2 1 i)), (0, .ref (ad 0))]) (v := nI (i + 1)) d_Ip_ironBalances_88 (j := 2) rfl (nI_add _ _) (by decide) rfl ?_
            refine y_goto (tgt := 44) d_Ip_ironBalances_91 (by decide) ?_
            refine y_lv (lv' := [(3, .int (nI (i + 1))), (1, .long (s9 + (((t.2 1 i).1 5).toInt64))), (0, .ref (ad 0))]) [0, 1, 3] rfl ?_
            refine y_end (fun wC3 hC3 => ?_)
            obtain rfl := z_I.same hJ hC3
            exact ih (i + 1) _ (by omega) (by omega) 
set_option maxHeartbeats 4000000 in
set_option maxRecDepth 100000 in
theorem Q_ironBalances {g : zG} {ad : Nat → Nat} {t : zTT} {u : zNN} {w : zW} (hI : IV g ad t u w) : zMB g M_Ip_ironBalances [.ref (ad 0)] w (fun o w1 => (∃ v : Int32, o = .inl (some (.int v))) ∧ w1 = w) 0 0 := by
  obtain ⟨e_a, wf_a, k_a⟩ := hI.1.2 0 (by decide)
  obtain rfl := kd_0.mp k_a
  obtain ⟨e_fu, wf_fu, k_fu⟩ := hI.1.2 36 (by decide)
  obtain rfl := kd_36.mp k_fu
  obtain ⟨e_fub, wf_fub, k_fub⟩ := hI.1.2 37 (by decide)
  obtain rfl := kd_37.mp k_fub
  obtain ⟨e_la, wf_la, k_la⟩ := hI.1.2 42 (by decide)
  obtain ⟨c_la_0, rfl⟩ := kd_42.mp k_la
  obtain ⟨e_lab, wf_lab, k_lab⟩ := hI.1.2 43 (by decide)
  obtain ⟨c_lab_0, rfl⟩ := kd_43.mp k_lab
  obtain ⟨e_gy, wf_gy, k_gy⟩ := hI.1.2 45 (by decide)
  obtain rfl := kd_45.mp k_gy
  obtain ⟨e_du, wf_du, k_du⟩ := hI.1.2 47 (by decide)
  obtain rfl := kd_47.mp k_du
  have hJ := hI.1.I [0, 36, 37, 42, 43, 45, 47] [((ad 0), .inr (11, [.ref (ad 1), .ref (ad 5), .ref (ad 18), .ref (ad 31), .ref (ad 32), .ref (ad 36), .ref (ad 42), .ref (ad 45), .ref (ad 47), .ref (ad 49), .ref (ad 50), .ref (ad 51)])), ((ad 36), .inr (3, [.ref (ad 37), .ref (ad 39), .ref (ad 40), .ref (ad 41), .long ((t.1 36).2.1 0)])), ((ad 37), .inr (6, [.ref (ad 38), .int ((t.1 37).1 0)])), ((ad 42), .inr (5, [.ref (ad 43), .int ((t.1 42).1 0), .int ((t.1 42).1 1), .int ((t.1 42).1 2)])), ((ad 43), .inr (6, [.ref (ad 44), .int ((t.1 43).1 0)])), ((ad 45), .inr (6, [.ref (ad 46), .int ((t.1 45).1 0)])), ((ad 47), .inr (6, [.ref (ad 48), .int ((t.1 47).1 0)]))] rfl (by decide) (by decide) (List.forall_mem_cons.mpr ⟨wf_a, (List.forall_mem_cons.mpr ⟨wf_fu, (List.forall_mem_cons.mpr ⟨wf_fub, (List.forall_mem_cons.mpr ⟨wf_la, (List.forall_mem_cons.mpr ⟨wf_lab, (List.forall_mem_cons.mpr ⟨wf_gy, (List.forall_mem_cons.mpr ⟨wf_du, (fun _ h => nomatch h)⟩)⟩)⟩)⟩)⟩)⟩)⟩)
  refine y_of (by decide) rfl (Nat.le_of_ble_eq_true rfl) (y_base (cs := [((ad 0), .inr (11, [.ref (ad 1), .ref (ad 5), .ref (ad 18), .ref (ad 31), .ref (ad 32), .ref (ad 36), .ref (ad 42), .ref (ad 45), .ref (ad 47), .ref (ad 49), .ref (ad 50), .ref (ad 51)])), ((ad 36), .inr (3, [.ref (ad 37), .ref (ad 39), .ref (ad 40), .ref (ad 41), .long ((t.1 36).2.1 0)])), ((ad 37), .inr (6, [.ref (ad 38), .int ((t.1 37).1 0)])), ((ad 42), .inr (5, [.ref (ad 43), .int ((t.1 42).1 0), .int ((t.1 42).1 1), .int ((t.1 42).1 2)])), ((ad 43), .inr (6, [.ref (ad 44), .int ((t.1 43).1 0)])), ((ad 45), .inr (6, [.ref (ad 46), .int ((t.1 45).1 0)])), ((ad 47), .inr (6, [.ref (ad 48), .int ((t.1 47).1 0)]))]) hJ ?_)
  refine y_lvE (lv2 := [(0, .ref (ad 0))]) rfl ?_
  refine y_aload_n d_Ip_ironBalances_0 rfl 0 rfl ?_
  refine y_get fs_Ip_43 d_Ip_ironBalances_1 (q0 := 0) rfl rfl ?_
  refine y_get fs_Ip_277 d_Ip_ironBalances_4 (q0 := 1) rfl rfl ?_
  refine y_get fs_Ip_269 d_Ip_ironBalances_7 (q0 := 2) rfl rfl ?_
  refine y_i2l d_Ip_ironBalances_10 (v := ((t.1 37).1 0).toInt64) rfl ?_
  refine y_aload_n d_Ip_ironBalances_11 rfl 0 rfl ?_
  refine y_get fs_Ip_50 d_Ip_ironBalances_12 (q0 := 0) rfl rfl ?_
  refine y_get fs_Ip_359 d_Ip_ironBalances_15 (q0 := 3) rfl rfl ?_
  refine y_get fs_Ip_269 d_Ip_ironBalances_18 (q0 := 4) rfl rfl ?_
  refine y_i2l d_Ip_ironBalances_21 (v := ((t.1 43).1 0).toInt64) rfl ?_
  refine y_ladd d_Ip_ironBalances_22 (v := (((t.1 37).1 0).toInt64) + (((t.1 43).1 0).toInt64)) rfl ?_
  refine y_aload_n d_Ip_ironBalances_23 rfl 0 rfl ?_
  refine y_get fs_Ip_57 d_Ip_ironBalances_24 (q0 := 0) rfl rfl ?_
  refine y_get fs_Ip_269 d_Ip_ironBalances_27 (q0 := 5) rfl rfl ?_
  refine y_i2l d_Ip_ironBalances_30 (v := ((t.1 45).1 0).toInt64) rfl ?_
  refine y_ladd d_Ip_ironBalances_31 (v := ((((t.1 37).1 0).toInt64) + (((t.1 43).1 0).toInt64)) + (((t.1 45).1 0).toInt64)) rfl ?_
  refine y_aload_n d_Ip_ironBalances_32 rfl 0 rfl ?_
  refine y_get fs_Ip_61 d_Ip_ironBalances_33 (q0 := 0) rfl rfl ?_
  refine y_get fs_Ip_269 d_Ip_ironBalances_36 (q0 := 6) rfl rfl ?_
  refine y_i2l d_Ip_ironBalances_39 (v := ((t.1 47).1 0).toInt64) rfl ?_
  refine y_ladd d_Ip_ironBalances_40 (v := (((((t.1 37).1 0).toInt64) + (((t.1 43).1 0).toInt64)) + (((t.1 45).1 0).toInt64)) + (((t.1 47).1 0).toInt64)) rfl ?_
  refine y_lstore_n (lv' := [(1, .long ((((((t.1 37).1 0).toInt64) + (((t.1 43).1 0).toInt64)) + (((t.1 45).1 0).toInt64)) + (((t.1 47).1 0).toInt64))), (0, .ref (ad 0))]) d_Ip_ironBalances_41 rfl (by decide) rfl ?_
  refine y_iconst d_Ip_ironBalances_42 (v := 0) (by decide) ?_
  refine y_istore_n (lv' := [(3, .int 0), (1, .long ((((((t.1 37).1 0).toInt64) + (((t.1 43).1 0).toInt64)) + (((t.1 45).1 0).toInt64)) + (((t.1 47).1 0).toInt64))), (0, .ref (ad 0))]) d_Ip_ironBalances_43 rfl (by decide) rfl ?_
  refine y_end (fun wC4 hC4 => ?_)
  obtain rfl := z_I.same hJ hC4
  exact L_Q_ironBalances_44 g hI  (u.1 1 + 1) 0 _ (Nat.zero_le _) (by omega) 
theorem d_Ip_elementBalances_144 : decode prog_1_method_69_code 144 = .ok (.iconst 0, 1) := zo_3 (zd_b zq_prog_1_method_69_code_4 16 rfl rfl rfl)
theorem d_Ip_elementBalances_71 : decode prog_1_method_69_code 71 = .ok (.aload_n 0, 1) := zo_42 (zd_b zq_prog_1_method_69_code_2 7 rfl rfl rfl)
theorem d_Ip_elementBalances_72 : decode prog_1_method_69_code 72 = .ok (.getfield 78, 3) := zo_180 (d := 0) (e := 78) (zd_b zq_prog_1_method_69_code_2 8 rfl rfl rfl) (zd_b zq_prog_1_method_69_code_2 9 rfl rfl rfl) (zd_b zq_prog_1_method_69_code_2 10 rfl rfl rfl)
theorem d_Ip_elementBalances_75 : decode prog_1_method_69_code 75 = .ok (.iload 4, 2) := zo_21 (d := 4) (zd_b zq_prog_1_method_69_code_2 11 rfl rfl rfl) (zd_b zq_prog_1_method_69_code_2 12 rfl rfl rfl)
theorem d_Ip_elementBalances_77 : decode prog_1_method_69_code 77 = .ok (.invokevirtual 344, 3) := zo_182 (d := 1) (e := 88) (zd_b zq_prog_1_method_69_code_2 13 rfl rfl rfl) (zd_b zq_prog_1_method_69_code_2 14 rfl rfl rfl) (zd_b zq_prog_1_method_69_code_2 15 rfl rfl rfl)
theorem ok_Ip_elementBalances_AL_get : z_ok M_Ip_elementBalances M_AL_get 1 := ⟨z_mj2 (i := 180) rfl (by decide +kernel), rfl, ⟨by decide +kernel, by decide +kernel, by decide +kernel⟩, ⟨by decide, by decide⟩, z_mj1 (i := 13) rfl (by decide +kernel), rfl⟩
theorem d_Ip_elementBalances_80 : decode prog_1_method_69_code 80 = .ok (.checkcast 441, 3) := zo_192 (d := 1) (e := 185) (zd_b zq_prog_1_method_69_code_2 16 rfl rfl rfl) (zd_b zq_prog_1_method_69_code_2 17 rfl rfl rfl) (zd_b zq_prog_1_method_69_code_2 18 rfl rfl rfl)
theorem d_Ip_elementBalances_83 : decode prog_1_method_69_code 83 = .ok (.astore 5, 2) := zo_58 (d := 5) (zd_b zq_prog_1_method_69_code_2 19 rfl rfl rfl) (zd_b zq_prog_1_method_69_code_2 20 rfl rfl rfl)
theorem d_Ip_elementBalances_85 : decode prog_1_method_69_code 85 = .ok (.aload 5, 2) := zo_25 (d := 5) (zd_b zq_prog_1_method_69_code_2 21 rfl rfl rfl) (zd_b zq_prog_1_method_69_code_2 22 rfl rfl rfl)
theorem d_Ip_elementBalances_87 : decode prog_1_method_69_code 87 = .ok (.getfield 469, 3) := zo_180 (d := 1) (e := 213) (zd_b zq_prog_1_method_69_code_2 23 rfl rfl rfl) (zd_b zq_prog_1_method_69_code_2 24 rfl rfl rfl) (zd_b zq_prog_1_method_69_code_2 25 rfl rfl rfl)
theorem d_Ip_elementBalances_90 : decode prog_1_method_69_code 90 = .ok (.ifCond .ne 16, 3) := zo_154 (d := 0) (e := 16) (zd_b zq_prog_1_method_69_code_2 26 rfl rfl rfl) (zd_b zq_prog_1_method_69_code_2 27 rfl rfl rfl) (zd_b zq_prog_1_method_69_code_2 28 rfl rfl rfl) (by decide +kernel)
theorem d_Ip_elementBalances_106 : decode prog_1_method_69_code 106 = .ok (.iinc 4 1, 3) := by decide +kernel
theorem d_Ip_elementBalances_109 : decode prog_1_method_69_code 109 = .ok (.goto (-50), 3) := zo_167 (d := 255) (e := 206) (zd_b zq_prog_1_method_69_code_3 13 rfl rfl rfl) (zd_b zq_prog_1_method_69_code_3 14 rfl rfl rfl) (zd_b zq_prog_1_method_69_code_3 15 rfl rfl rfl) (by decide +kernel)
theorem d_Ip_elementBalances_93 : decode prog_1_method_69_code 93 = .ok (.lload_n 2, 1) := zo_32 (zd_b zq_prog_1_method_69_code_2 29 rfl rfl rfl)
theorem d_Ip_elementBalances_94 : decode prog_1_method_69_code 94 = .ok (.aload 5, 2) := zo_25 (d := 5) (zd_b zq_prog_1_method_69_code_2 30 rfl rfl rfl) (zd_b zq_prog_1_method_69_code_2 31 rfl rfl rfl)
theorem d_Ip_elementBalances_96 : decode prog_1_method_69_code 96 = .ok (.getfield 450, 3) := zo_180 (d := 1) (e := 194) (zd_b zq_prog_1_method_69_code_3 0 rfl rfl rfl) (zd_b zq_prog_1_method_69_code_3 1 rfl rfl rfl) (zd_b zq_prog_1_method_69_code_3 2 rfl rfl rfl)
theorem d_Ip_elementBalances_99 : decode prog_1_method_69_code 99 = .ok (.getfield 308, 3) := zo_180 (d := 1) (e := 52) (zd_b zq_prog_1_method_69_code_3 3 rfl rfl rfl) (zd_b zq_prog_1_method_69_code_3 4 rfl rfl rfl) (zd_b zq_prog_1_method_69_code_3 5 rfl rfl rfl)
theorem d_Ip_elementBalances_102 : decode prog_1_method_69_code 102 = .ok (.iload_n 1, 1) := zo_27 (zd_b zq_prog_1_method_69_code_3 6 rfl rfl rfl)
theorem d_Ip_elementBalances_103 : decode prog_1_method_69_code 103 = .ok (.laload, 1) := zo_47 (zd_b zq_prog_1_method_69_code_3 7 rfl rfl rfl)
theorem d_Ip_elementBalances_104 : decode prog_1_method_69_code 104 = .ok (.ladd, 1) := zo_97 (zd_b zq_prog_1_method_69_code_3 8 rfl rfl rfl)
theorem d_Ip_elementBalances_105 : decode prog_1_method_69_code 105 = .ok (.lstore_n 2, 1) := zo_65 (zd_b zq_prog_1_method_69_code_3 9 rfl rfl rfl)
