set_option maxHeartbeats 4000000 in
set_option maxRecDepth 100000 in
theorem Qx_Ip_breakUpD {g : zG} {ad : Nat → Nat} {t : zTT} {u : zNN} {w : zW} (hI : IV g ad t u w) (k : Nat) (hk : k < u.1 1) (h3 : (t.2 1 k).1 3 = 0) (h4 : (t.2 1 k).1 4 = 0) (h5 : ¬ (t.2 1 k).1 0 < 20) : zMB g M_Ip_breakUp [.ref (ad 0), .int (nI k)] w (fun o w1 => o = .inl (some (.int ((t.1 47).1 0 + (t.2 1 k).1 5))) ∧ IV g ad (zup t.1 [(47, (upd ((t.1 47).1) 0 ((t.1 47).1 0 + (t.2 1 k).1 5), (t.1 47).2.1, (t.1 47).2.2)), (48, ((t.1 48).1, lfd ((t.1 48).2.1) ((t.2 1 k).2.2.1) 4, (t.1 48).2.2))], vup t.2 1 k (upd ((t.2 1 k).1) 4 (1), (t.2 1 k).2)) u w1) 3 18 := by
  obtain ⟨e_a, wf_a, k_a⟩ := hI.1.2 0 (by decide)
  obtain rfl := kd_0.mp k_a
  obtain ⟨e_gy, wf_gy, k_gy⟩ := hI.1.2 45 (by decide)
  obtain rfl := kd_45.mp k_gy
  obtain ⟨e_gyg, wf_gyg, k_gyg⟩ := hI.1.2 46 (by decide)
  obtain rfl := kd_46.mp k_gyg
  obtain ⟨e_du, wf_du, k_du⟩ := hI.1.2 47 (by decide)
  obtain rfl := kd_47.mp k_du
  obtain ⟨e_dug, wf_dug, k_dug⟩ := hI.1.2 48 (by decide)
  obtain rfl := kd_48.mp k_dug
  refine y_of (by decide) rfl (Nat.le_of_ble_eq_true rfl) (y_base (cs := [((ad 0), .inr (11, [.ref (ad 1), .ref (ad 5), .ref (ad 18), .ref (ad 31), .ref (ad 32), .ref (ad 36), .ref (ad 42), .ref (ad 45), .ref (ad 47), .ref (ad 49), .ref (ad 50), .ref (ad 51)])), ((ad 45), .inr (6, [.ref (ad 46), .int ((t.1 45).1 0)])), ((ad 46), .inl (3, 4, .inr (.inl ((t.1 46).2.1)))), ((ad 47), .inr (6, [.ref (ad 48), .int ((t.1 47).1 0)])), ((ad 48), .inl (3, 4, .inr (.inl ((t.1 48).2.1))))]) (hI.1.I [0, 45, 46, 47, 48] _ rfl (by decide) (by decide) (List.forall_mem_cons.mpr ⟨wf_a, (List.forall_mem_cons.mpr ⟨wf_gy, (List.forall_mem_cons.mpr ⟨wf_gyg, (List.forall_mem_cons.mpr ⟨wf_du, (List.forall_mem_cons.mpr ⟨wf_dug, (fun _ h => nomatch h)⟩)⟩)⟩)⟩)⟩)) ?_)
  refine y_lvE (lv2 := [(0, .ref (ad 0)), (1, .int (nI k))]) rfl ?_
  refine y_aload_n d_Ip_breakUp_0 rfl 0 rfl ?_
  refine y_iload_n d_Ip_breakUp_1 rfl 1 rfl ?_
  refine yw_callV (As := [.int (nI k)]) (rest := []) (q0 := 0) rfl rfl ln_Ip_436 w_im_Ip_castingAt w_se_Ip_castingAt ok_Ip_breakUp_Ip_castingAt d_Ip_breakUp_2 (fun wA hA => Q_castingAtN (hI.gen (t2 := t) (is := [0, 45, 46, 47, 48]) (L2 := []) hA rfl ⟨kd_0.mpr rfl, kd_45.mpr rfl, kd_46.mpr rfl, kd_47.mpr rfl, kd_48.mpr rfl, trivial⟩ (by decide) (by decide) (fun _ h => nomatch h) (fun _ h => nomatch h) (fun _ _ _ => rfl) (fun h => h) rfl) k hk) rfl rfl (Nat.le_of_ble_eq_true rfl) (by omega) (by omega) (fun wA2 hA2 E wB2 hx => ?_) (fun wA2 hA2 v wB2 hx => ?_)
  · exact absurd hx.1 (by simp)
  · obtain ⟨e1, e2⟩ := hx
    cases e1
    refine yw_st (st2 := [.ref (u.2.2 1 k)]) rfl ?_
    subst e2
    refine y_go hA2 ?_
    refine y_end (fun wC1 hC1 => ?_)
    have hI9 := (hI.gen (t2 := t) (is := [0, 45, 46, 47, 48]) (L2 := []) hC1 rfl ⟨kd_0.mpr rfl, kd_45.mpr rfl, kd_46.mpr rfl, kd_47.mpr rfl, kd_48.mpr rfl, trivial⟩ (by decide) (by decide) (fun _ h => nomatch h) (fun _ h => nomatch h) (fun _ _ _ => rfl) (fun h => h) rfl)
    have hI := hI9
    obtain ⟨nf_c, me_c, gr_c, hw_c, nfm_c, hwm_c, nfg_c, hwg_c⟩ := hI.2.1.2.1 1 (by decide) k hk
    refine y_base (cs := [((ad 0), .inr (11, [.ref (ad 1), .ref (ad 5), .ref (ad 18), .ref (ad 31), .ref (ad 32), .ref (ad 36), .ref (ad 42), .ref (ad 45), .ref (ad 47), .ref (ad 49), .ref (ad 50), .ref (ad 51)])), ((ad 45), .inr (6, [.ref (ad 46), .int ((t.1 45).1 0)])), ((ad 46), .inl (3, 4, .inr (.inl ((t.1 46).2.1)))), ((ad 47), .inr (6, [.ref (ad 48), .int ((t.1 47).1 0)])), ((ad 48), .inl (3, 4, .inr (.inl ((t.1 48).2.1)))), ((u.2.2 1 k), .inr (0, [.ref me_c, .int ((t.2 1 k).1 0), .int ((t.2 1 k).1 1), .int ((t.2 1 k).1 2), .int ((t.2 1 k).1 3), .int ((t.2 1 k).1 4)])), (me_c, .inr (6, [.ref gr_c, .int ((t.2 1 k).1 5)])), (gr_c, .inl (3, 4, .inr (.inl ((t.2 1 k).2.2.1))))]) (hI.1.B [0, 45, 46, 47, 48] [((ad 0), .inr (11, [.ref (ad 1), .ref (ad 5), .ref (ad 18), .ref (ad 31), .ref (ad 32), .ref (ad 36), .ref (ad 42), .ref (ad 45), .ref (ad 47), .ref (ad 49), .ref (ad 50), .ref (ad 51)])), ((ad 45), .inr (6, [.ref (ad 46), .int ((t.1 45).1 0)])), ((ad 46), .inl (3, 4, .inr (.inl ((t.1 46).2.1)))), ((ad 47), .inr (6, [.ref (ad 48), .int ((t.1 47).1 0)])), ((ad 48), .inl (3, 4, .inr (.inl ((t.1 48).2.1))))] [((u.2.2 1 k), .inr (0, [.ref me_c, .int ((t.2 1 k).1 0), .int ((t.2 1 k).1 1), .int ((t.2 1 k).1 2), .int ((t.2 1 k).1 3), .int ((t.2 1 k).1 4)])), (me_c, .inr (6, [.ref gr_c, .int ((t.2 1 k).1 5)])), (gr_c, .inl (3, 4, .inr (.inl ((t.2 1 k).2.2.1))))] rfl (by decide) (by decide) (List.forall_mem_cons.mpr ⟨hC1.at (q0 := 0) rfl, (List.forall_mem_cons.mpr ⟨hC1.at (q0 := 1) rfl, (List.forall_mem_cons.mpr ⟨hC1.at (q0 := 2) rfl, (List.forall_mem_cons.mpr ⟨hC1.at (q0 := 3) rfl, (List.forall_mem_cons.mpr ⟨hC1.at (q0 := 4) rfl, (fun _ h => nomatch h)⟩)⟩)⟩)⟩)⟩) (List.forall_mem_cons.mpr ⟨hw_c, (List.forall_mem_cons.mpr ⟨hwm_c, (List.forall_mem_cons.mpr ⟨hwg_c, (fun _ h => nomatch h)⟩)⟩)⟩) (List.forall_mem_cons.mpr ⟨nf_c, (List.forall_mem_cons.mpr ⟨nfm_c, (List.forall_mem_cons.mpr ⟨nfg_c, (fun _ h => nomatch h)⟩)⟩)⟩) (by simp [z_kd])) ?_
    refine y_astore_n (lv' := [(2, .ref (u.2.2 1 k)), (0, .ref (ad 0)), (1, .int (nI k))]) d_Ip_breakUp_5 rfl (by decide) rfl ?_
    refine y_aload_n d_Ip_breakUp_6 rfl 0 rfl ?_
    refine y_callS (As := [.ref (u.2.2 1 k)]) (rest := []) (csC := [((u.2.2 1 k), .inr (0, [.ref me_c, .int ((t.2 1 k).1 0), .int ((t.2 1 k).1 1), .int ((t.2 1 k).1 2), .int ((t.2 1 k).1 3), .int ((t.2 1 k).1 4)]))]) (is := [5]) ln_Ip_462 w_st_Ip_checkStands ok_Ip_breakUp_Ip_checkStands d_Ip_breakUp_7 (C_Ip_checkStandsN g (u.2.2 1 k) me_c ((t.2 1 k).1 0) ((t.2 1 k).1 1) ((t.2 1 k).1 2) ((t.2 1 k).1 3) ((t.2 1 k).1 4) h3 h4) rfl rfl (Nat.le_of_ble_eq_true rfl) rfl (by decide) (by omega) (by omega) (fun E cs1 hx => ?_) (fun v cs1 hx => ?_)
    · exact absurd hx.1 (by simp)
    · obtain ⟨e1, rfl⟩ := hx
      cases e1
      refine ⟨rfl, ?_⟩
      refine y_st (st2 := []) rfl ?_
      refine y_cs (cs2 := [((ad 0), .inr (11, [.ref (ad 1), .ref (ad 5), .ref (ad 18), .ref (ad 31), .ref (ad 32), .ref (ad 36), .ref (ad 42), .ref (ad 45), .ref (ad 47), .ref (ad 49), .ref (ad 50), .ref (ad 51)])), ((ad 45), .inr (6, [.ref (ad 46), .int ((t.1 45).1 0)])), ((ad 46), .inl (3, 4, .inr (.inl ((t.1 46).2.1)))), ((ad 47), .inr (6, [.ref (ad 48), .int ((t.1 47).1 0)])), ((ad 48), .inl (3, 4, .inr (.inl ((t.1 48).2.1)))), ((u.2.2 1 k), .inr (0, [.ref me_c, .int ((t.2 1 k).1 0), .int ((t.2 1 k).1 1), .int ((t.2 1 k).1 2), .int ((t.2 1 k).1 3), .int ((t.2 1 k).1 4)])), (me_c, .inr (6, [.ref gr_c, .int ((t.2 1 k).1 5)])), (gr_c, .inl (3, 4, .inr (.inl ((t.2 1 k).2.2.1))))]) rfl ?_
      refine y_aload_n d_Ip_breakUp_10 rfl 0 rfl ?_
      refine y_iconst d_Ip_breakUp_11 (v := 1) (by decide) ?_
      refine y_put fp_Ip_469 d_Ip_breakUp_12 (fun h => nomatch h) (by decide) (by decide) (q0 := 5) rfl (Nat.le_of_ble_eq_true rfl) (cs' := [((ad 0), .inr (11, [.ref (ad 1), .ref (ad 5), .ref (ad 18), .ref (ad 31), .ref (ad 32), .ref (ad 36), .ref (ad 42), .ref (ad 45), .ref (ad 47), .ref (ad 49), .ref (ad 50), .ref (ad 51)])), ((ad 45), .inr (6, [.ref (ad 46), .int ((t.1 45).1 0)])), ((ad 46), .inl (3, 4, .inr (.inl ((t.1 46).2.1)))), ((ad 47), .inr (6, [.ref (ad 48), .int ((t.1 47).1 0)])), ((ad 48), .inl (3, 4, .inr (.inl ((t.1 48).2.1)))), ((u.2.2 1 k), .inr (0, [.ref me_c, .int ((t.2 1 k).1 0), .int ((t.2 1 k).1 1), .int ((t.2 1 k).1 2), .int ((t.2 1 k).1 3), .int 1])), (me_c, .inr (6, [.ref gr_c, .int ((t.2 1 k).1 5)])), (gr_c, .inl (3, 4, .inr (.inl ((t.2 1 k).2.2.1))))]) rfl ?_
      refine y_aload_n d_Ip_breakUp_15 rfl 0 rfl ?_
      refine y_callV (As := []) (rest := []) (csC := [((u.2.2 1 k), .inr (0, [.ref me_c, .int ((t.2 1 k).1 0), .int ((t.2 1 k).1 1), .int ((t.2 1 k).1 2), .int ((t.2 1 k).1 3), .int 1])), (me_c, .inr (6, [.ref gr_c, .int ((t.2 1 k).1 5)])), (gr_c, .inl (3, 4, .inr (.inl ((t.2 1 k).2.2.1))))]) (is := [5, 6, 7]) (q0 := 5) rfl rfl ln_Ip_440 w_im_Ca_isDuctile w_se_Ca_isDuctile ok_Ip_breakUp_Ca_isDuctile d_Ip_breakUp_16 (C_Ca_isDuctile g (u.2.2 1 k) me_c gr_c ((t.2 1 k).2.2.1) ((t.2 1 k).1 5) ((t.2 1 k).1 0) ((t.2 1 k).1 1) ((t.2 1 k).1 2) ((t.2 1 k).1 3) 1) rfl rfl (Nat.le_of_ble_eq_true rfl) rfl (by decide) (by omega) (by omega) (fun E cs1 hx => ?_) (fun v cs1 hx => ?_)
      · exact absurd hx.1 (by simp)
      · obtain ⟨e1, rfl⟩ := hx
        cases e1
        refine ⟨rfl, ?_⟩
        refine y_st (st2 := [.int (if ((t.2 1 k).1 0) < 20 then 0 else 1)]) rfl ?_
        refine y_cs (cs2 := [((ad 0), .inr (11, [.ref (ad 1), .ref (ad 5), .ref (ad 18), .ref (ad 31), .ref (ad 32), .ref (ad 36), .ref (ad 42), .ref (ad 45), .ref (ad 47), .ref (ad 49), .ref (ad 50), .ref (ad 51)])), ((ad 45), .inr (6, [.ref (ad 46), .int ((t.1 45).1 0)])), ((ad 46), .inl (3, 4, .inr (.inl ((t.1 46).2.1)))), ((ad 47), .inr (6, [.ref (ad 48), .int ((t.1 47).1 0)])), ((ad 48), .inl (3, 4, .inr (.inl ((t.1 48).2.1)))), ((u.2.2 1 k), .inr (0, [.ref me_c, .int ((t.2 1 k).1 0), .int ((t.2 1 k).1 1), .int ((t.2 1 k).1 2), .int ((t.2 1 k).1 3), .int 1])), (me_c, .inr (6, [.ref gr_c, .int ((t.2 1 k).1 5)])), (gr_c, .inl (3, 4, .inr (.inl ((t.2 1 k).2.2.1))))]) rfl ?_
        refine y_if_eq (tgt := 29) d_Ip_breakUp_19 (by decide) (fun c_19 => ?_) (fun c_19 => ?_)
        · exact absurd (du_0 c_19) h5
        · refine y_aload_n d_Ip_breakUp_22 rfl 1 rfl ?_
          refine y_get fs_Ip_61 d_Ip_breakUp_23 (q0 := 0) rfl rfl ?_
          refine y_goto (tgt := 33) d_Ip_breakUp_26 (by decide) ?_
          refine y_astore_n (lv' := [(3, .ref (ad 47)), (2, .ref (u.2.2 1 k)), (0, .ref (ad 0)), (1, .int (nI k))]) d_Ip_breakUp_33 rfl (by decide) rfl ?_
          refine y_aload_n d_Ip_breakUp_34 rfl 0 rfl ?_
          refine y_aload_n d_Ip_breakUp_35 rfl 1 rfl ?_
          refine y_get fs_Ip_450 d_Ip_breakUp_36 (q0 := 5) rfl rfl ?_
          refine y_callV (As := [.ref me_c]) (rest := []) (csC := [((ad 47), .inr (6, [.ref (ad 48), .int ((t.1 47).1 0)])), ((ad 48), .inl (3, 4, .inr (.inl ((t.1 48).2.1)))), (me_c, .inr (6, [.ref gr_c, .int ((t.2 1 k).1 5)])), (gr_c, .inl (3, 4, .inr (.inl ((t.2 1 k).2.2.1))))]) (is := [3, 4, 6, 7]) (q0 := 3) rfl rfl ln_Ip_472 w_im_Me_addAll w_se_Me_addAll ok_Ip_breakUp_Me_addAll d_Ip_breakUp_39 (C_Me_addAll g (ad 47) (ad 48) ((t.1 48).2.1) ((t.1 47).1 0) me_c gr_c ((t.2 1 k).2.2.1) ((t.2 1 k).1 5)) rfl rfl (Nat.le_of_ble_eq_true rfl) rfl (by decide) (by omega) (by omega) (fun E cs1 hx => ?_) (fun v cs1 hx => ?_)
          · exact absurd hx.1 (by simp)
          · obtain ⟨e1, rfl⟩ := hx
            cases e1
            refine ⟨rfl, ?_⟩
            refine y_st (st2 := []) rfl ?_
            refine y_cs (cs2 := [((ad 0), .inr (11, [.ref (ad 1), .ref (ad 5), .ref (ad 18), .ref (ad 31), .ref (ad 32), .ref (ad 36), .ref (ad 42), .ref (ad 45), .ref (ad 47), .ref (ad 49), .ref (ad 50), .ref (ad 51)])), ((ad 45), .inr (6, [.ref (ad 46), .int ((t.1 45).1 0)])), ((ad 46), .inl (3, 4, .inr (.inl ((t.1 46).2.1)))), ((ad 47), .inr (6, [.ref (ad 48), .int (((t.1 47).1 0) + ((t.2 1 k).1 5))])), ((ad 48), .inl (3, 4, .inr (.inl (lfd ((t.1 48).2.1) ((t.2 1 k).2.2.1) 4)))), ((u.2.2 1 k), .inr (0, [.ref me_c, .int ((t.2 1 k).1 0), .int ((t.2 1 k).1 1), .int ((t.2 1 k).1 2), .int ((t.2 1 k).1 3), .int 1])), (me_c, .inr (6, [.ref gr_c, .int ((t.2 1 k).1 5)])), (gr_c, .inl (3, 4, .inr (.inl ((t.2 1 k).2.2.1))))]) rfl ?_
            refine y_aload_n d_Ip_breakUp_42 rfl 0 rfl ?_
            refine y_get fs_Ip_269 d_Ip_breakUp_43 (q0 := 3) rfl rfl ?_
            refine y_iret d_Ip_breakUp_46 rfl rfl ?_
            exact fun w1 h1 => ⟨rfl, (hI.gen1 (M := 1) (j := k) (v2 := (upd ((t.2 1 k).1) 4 1, (t.2 1 k).2)) (t2 := (zup t.1 [(47, (upd ((t.1 47).1) 0 ((t.1 47).1 0 + (t.2 1 k).1 5), (t.1 47).2.1, (t.1 47).2.2)), (48, ((t.1 48).1, lfd ((t.1 48).2.1) ((t.2 1 k).2.2.1) 4, (t.1 48).2.2))], vup t.2 1 k (upd ((t.2 1 k).1) 4 (1), (t.2 1 k).2))) (is := [0, 45, 46, 47, 48]) (L2 := [(u.2.2 1 k), me_c, gr_c]) (by decide) hk (Or.inr (Or.inl rfl)) h1 rfl ⟨kd_0.mpr rfl, kd_45.mpr rfl, kd_46.mpr rfl, kd_47.mpr rfl, kd_48.mpr rfl, trivial⟩ (by decide) (by decide) (List.forall_mem_cons.mpr ⟨nf_c, (List.forall_mem_cons.mpr ⟨nfm_c, (List.forall_mem_cons.mpr ⟨nfg_c, (fun _ h => nomatch h)⟩)⟩)⟩) (List.forall_mem_cons.mpr ⟨(Or.inl rfl), (List.forall_mem_cons.mpr ⟨(Or.inr ⟨_, hwm_c, h1.at (q0 := 6) rfl⟩), (List.forall_mem_cons.mpr ⟨(Or.inr ⟨_, hwg_c, h1.at (q0 := 7) rfl⟩), (fun _ h => nomatch h)⟩)⟩)⟩) (fun i hi hn => zup_out (fun q => hn ((by decide : ∀ j ∈ ([47, 48] : List Nat), j ∈ ([0, 45, 46, 47, 48] : List Nat)) i q))) (fun h => h) ⟨nf_c, me_c, gr_c, h1.at (q0 := 5) rfl, nfm_c, h1.at (q0 := 6) rfl, nfg_c, h1.at (q0 := 7) rfl⟩ rfl)⟩
set_option maxHeartbeats 4000000 in
set_option maxRecDepth 100000 in
theorem Qx_Ip_breakUpS {g : zG} {ad : Nat → Nat} {t : zTT} {u : zNN} {w : zW} (hI : IV g ad t u w) (k : Nat) (hk : k < u.1 1) (hE : ¬ ((t.2 1 k).1 3 = 0 ∧ (t.2 1 k).1 4 = 0)) : zMB g M_Ip_breakUp [.ref (ad 0), .int (nI k)] w (fun o w1 => o = .inr "java/lang/IllegalStateException" ∧ IV g ad t u w1) 3 18 := by
  obtain ⟨e_a, wf_a, k_a⟩ := hI.1.2 0 (by decide)
  obtain rfl := kd_0.mp k_a
  obtain ⟨e_gy, wf_gy, k_gy⟩ := hI.1.2 45 (by decide)
  obtain rfl := kd_45.mp k_gy
  obtain ⟨e_gyg, wf_gyg, k_gyg⟩ := hI.1.2 46 (by decide)
  obtain rfl := kd_46.mp k_gyg
  obtain ⟨e_du, wf_du, k_du⟩ := hI.1.2 47 (by decide)
  obtain rfl := kd_47.mp k_du
  obtain ⟨e_dug, wf_dug, k_dug⟩ := hI.1.2 48 (by decide)
  obtain rfl := kd_48.mp k_dug
  refine y_of (by decide) rfl (Nat.le_of_ble_eq_true rfl) (y_base (cs := [((ad 0), .inr (11, [.ref (ad 1), .ref (ad 5), .ref (ad 18), .ref (ad 31), .ref (ad 32), .ref (ad 36), .ref (ad 42), .ref (ad 45), .ref (ad 47), .ref (ad 49), .ref (ad 50), .ref (ad 51)])), ((ad 45), .inr (6, [.ref (ad 46), .int ((t.1 45).1 0)])), ((ad 46), .inl (3, 4, .inr (.inl ((t.1 46).2.1)))), ((ad 47), .inr (6, [.ref (ad 48), .int ((t.1 47).1 0)])), ((ad 48), .inl (3, 4, .inr (.inl ((t.1 48).2.1))))]) (hI.1.I [0, 45, 46, 47, 48] _ rfl (by decide) (by decide) (List.forall_mem_cons.mpr ⟨wf_a, (List.forall_mem_cons.mpr ⟨wf_gy, (List.forall_mem_cons.mpr ⟨wf_gyg, (List.forall_mem_cons.mpr ⟨wf_du, (List.forall_mem_cons.mpr ⟨wf_dug, (fun _ h => nomatch h)⟩)⟩)⟩)⟩)⟩)) ?_)
  refine y_lvE (lv2 := [(0, .ref (ad 0)), (1, .int (nI k))]) rfl ?_
  refine y_aload_n d_Ip_breakUp_0 rfl 0 rfl ?_
  refine y_iload_n d_Ip_breakUp_1 rfl 1 rfl ?_
  refine yw_callV (As := [.int (nI k)]) (rest := []) (q0 := 0) rfl rfl ln_Ip_436 w_im_Ip_castingAt w_se_Ip_castingAt ok_Ip_breakUp_Ip_castingAt d_Ip_breakUp_2 (fun wA hA => Q_castingAtN (hI.gen (t2 := t) (is := [0, 45, 46, 47, 48]) (L2 := []) hA rfl ⟨kd_0.mpr rfl, kd_45.mpr rfl, kd_46.mpr rfl, kd_47.mpr rfl, kd_48.mpr rfl, trivial⟩ (by decide) (by decide) (fun _ h => nomatch h) (fun _ h => nomatch h) (fun _ _ _ => rfl) (fun h => h) rfl) k hk) rfl rfl (Nat.le_of_ble_eq_true rfl) (by omega) (by omega) (fun wA2 hA2 E wB2 hx => ?_) (fun wA2 hA2 v wB2 hx => ?_)
  · exact absurd hx.1 (by simp)
  · obtain ⟨e1, e2⟩ := hx
    cases e1
    refine yw_st (st2 := [.ref (u.2.2 1 k)]) rfl ?_
    subst e2
    refine y_go hA2 ?_
    refine y_end (fun wC1 hC1 => ?_)
    have hI9 := (hI.gen (t2 := t) (is := [0, 45, 46, 47, 48]) (L2 := []) hC1 rfl ⟨kd_0.mpr rfl, kd_45.mpr rfl, kd_46.mpr rfl, kd_47.mpr rfl, kd_48.mpr rfl, trivial⟩ (by decide) (by decide) (fun _ h => nomatch h) (fun _ h => nomatch h) (fun _ _ _ => rfl) (fun h => h) rfl)
    have hI := hI9
    obtain ⟨nf_c, me_c, gr_c, hw_c, nfm_c, hwm_c, nfg_c, hwg_c⟩ := hI.2.1.2.1 1 (by decide) k hk
    refine y_base (cs := [((ad 0), .inr (11, [.ref (ad 1), .ref (ad 5), .ref (ad 18), .ref (ad 31), .ref (ad 32), .ref (ad 36), .ref (ad 42), .ref (ad 45), .ref (ad 47), .ref (ad 49), .ref (ad 50), .ref (ad 51)])), ((ad 45), .inr (6, [.ref (ad 46), .int ((t.1 45).1 0)])), ((ad 46), .inl (3, 4, .inr (.inl ((t.1 46).2.1)))), ((ad 47), .inr (6, [.ref (ad 48), .int ((t.1 47).1 0)])), ((ad 48), .inl (3, 4, .inr (.inl ((t.1 48).2.1)))), ((u.2.2 1 k), .inr (0, [.ref me_c, .int ((t.2 1 k).1 0), .int ((t.2 1 k).1 1), .int ((t.2 1 k).1 2), .int ((t.2 1 k).1 3), .int ((t.2 1 k).1 4)])), (me_c, .inr (6, [.ref gr_c, .int ((t.2 1 k).1 5)])), (gr_c, .inl (3, 4, .inr (.inl ((t.2 1 k).2.2.1))))]) (hI.1.B [0, 45, 46, 47, 48] [((ad 0), .inr (11, [.ref (ad 1), .ref (ad 5), .ref (ad 18), .ref (ad 31), .ref (ad 32), .ref (ad 36), .ref (ad 42), .ref (ad 45), .ref (ad 47), .ref (ad 49), .ref (ad 50), .ref (ad 51)])), ((ad 45), .inr (6, [.ref (ad 46), .int ((t.1 45).1 0)])), ((ad 46), .inl (3, 4, .inr (.inl ((t.1 46).2.1)))), ((ad 47), .inr (6, [.ref (ad 48), .int ((t.1 47).1 0)])), ((ad 48), .inl (3, 4, .inr (.inl ((t.1 48).2.1))))] [((u.2.2 1 k), .inr (0, [.ref me_c, .int ((t.2 1 k).1 0), .int ((t.2 1 k).1 1), .int ((t.2 1 k).1 2), .int ((t.2 1 k).1 3), .int ((t.2 1 k).1 4)])), (me_c, .inr (6, [.ref gr_c, .int ((t.2 1 k).1 5)])), (gr_c, .inl (3, 4, .inr (.inl ((t.2 1 k).2.2.1))))] rfl (by decide) (by decide) (List.forall_mem_cons.mpr ⟨hC1.at (q0 := 0) rfl, (List.forall_mem_cons.mpr ⟨hC1.at (q0 := 1) rfl, (List.forall_mem_cons.mpr ⟨hC1.at (q0 := 2) rfl, (List.forall_mem_cons.mpr ⟨hC1.at (q0 := 3) rfl, (List.forall_mem_cons.mpr ⟨hC1.at (q0 := 4) rfl, (fun _ h => nomatch h)⟩)⟩)⟩)⟩)⟩) (List.forall_mem_cons.mpr ⟨hw_c, (List.forall_mem_cons.mpr ⟨hwm_c, (List.forall_mem_cons.mpr ⟨hwg_c, (fun _ h => nomatch h)⟩)⟩)⟩) (List.forall_mem_cons.mpr ⟨nf_c, (List.forall_mem_cons.mpr ⟨nfm_c, (List.forall_mem_cons.mpr ⟨nfg_c, (fun _ h => nomatch h)⟩)⟩)⟩) (by simp [z_kd])) ?_
    refine y_astore_n (lv' := [(2, .ref (u.2.2 1 k)), (0, .ref (ad 0)), (1, .int (nI k))]) d_Ip_breakUp_5 rfl (by decide) rfl ?_
    refine y_aload_n d_Ip_breakUp_6 rfl 0 rfl ?_
    refine y_callS (As := [.ref (u.2.2 1 k)]) (rest := []) (csC := [((u.2.2 1 k), .inr (0, [.ref me_c, .int ((t.2 1 k).1 0), .int ((t.2 1 k).1 1), .int ((t.2 1 k).1 2), .int ((t.2 1 k).1 3), .int ((t.2 1 k).1 4)]))]) (is := [5]) ln_Ip_462 w_st_Ip_checkStands ok_Ip_breakUp_Ip_checkStands d_Ip_breakUp_7 (C_Ip_checkStandsE g (u.2.2 1 k) me_c ((t.2 1 k).1 0) ((t.2 1 k).1 1) ((t.2 1 k).1 2) ((t.2 1 k).1 3) ((t.2 1 k).1 4) hE) rfl rfl (Nat.le_of_ble_eq_true rfl) rfl (by decide) (by omega) (by omega) (fun E cs1 hx => ?_) (fun v cs1 hx => ?_)
    · obtain ⟨e1, rfl⟩ := hx
      cases e1
      exact ⟨rfl, fun w1 h1 => ⟨rfl, (hI.gen (t2 := t) (is := [0, 45, 46, 47, 48]) (L2 := [(u.2.2 1 k), me_c, gr_c]) h1 rfl ⟨kd_0.mpr rfl, kd_45.mpr rfl, kd_46.mpr rfl, kd_47.mpr rfl, kd_48.mpr rfl, trivial⟩ (by decide) (by decide) (List.forall_mem_cons.mpr ⟨nf_c, (List.forall_mem_cons.mpr ⟨nfm_c, (List.forall_mem_cons.mpr ⟨nfg_c, (fun _ h => nomatch h)⟩)⟩)⟩) (List.forall_mem_cons.mpr ⟨⟨_, hw_c, h1.at (q0 := 5) rfl⟩, (List.forall_mem_cons.mpr ⟨⟨_, hwm_c, h1.at (q0 := 6) rfl⟩, (List.forall_mem_cons.mpr ⟨⟨_, hwg_c, h1.at (q0 := 7) rfl⟩, (fun _ h => nomatch h)⟩)⟩)⟩) (fun _ _ _ => rfl) (fun h => h) rfl)⟩⟩
    · exact absurd hx.1 (by simp)
theorem d_Ip_minutes_42 : decode prog_1_method_28_code 42 = .ok (.aload_n 0, 1) := zo_42 (zd_b zq_prog_1_method_28_code_1 10 rfl rfl rfl)
theorem d_Ip_minutes_43 : decode prog_1_method_28_code 43 = .ok (.getfield 74, 3) := zo_180 (d := 0) (e := 74) (zd_b zq_prog_1_method_28_code_1 11 rfl rfl rfl) (zd_b zq_prog_1_method_28_code_1 12 rfl rfl rfl) (zd_b zq_prog_1_method_28_code_1 13 rfl rfl rfl)
theorem d_Ip_minutes_46 : decode prog_1_method_28_code 46 = .ok (.iload_n 2, 1) := zo_28 (zd_b zq_prog_1_method_28_code_1 14 rfl rfl rfl)
theorem d_Ip_minutes_47 : decode prog_1_method_28_code 47 = .ok (.invokevirtual 344, 3) := zo_182 (d := 1) (e := 88) (zd_b zq_prog_1_method_28_code_1 15 rfl rfl rfl) (zd_b zq_prog_1_method_28_code_1 16 rfl rfl rfl) (zd_b zq_prog_1_method_28_code_1 17 rfl rfl rfl)
theorem ok_Ip_minutes_AL_get : z_ok M_Ip_minutes M_AL_get 1 := ⟨z_mj2 (i := 180) rfl (by decide +kernel), rfl, ⟨by decide +kernel, by decide +kernel, by decide +kernel⟩, ⟨by decide, by decide⟩, z_mj1 (i := 13) rfl (by decide +kernel), rfl⟩
theorem d_Ip_minutes_50 : decode prog_1_method_28_code 50 = .ok (.checkcast 348, 3) := zo_192 (d := 1) (e := 92) (zd_b zq_prog_1_method_28_code_1 18 rfl rfl rfl) (zd_b zq_prog_1_method_28_code_1 19 rfl rfl rfl) (zd_b zq_prog_1_method_28_code_1 20 rfl rfl rfl)
theorem d_Ip_minutes_53 : decode prog_1_method_28_code 53 = .ok (.dup, 1) := zo_89 (zd_b zq_prog_1_method_28_code_1 21 rfl rfl rfl)
theorem d_Ip_minutes_54 : decode prog_1_method_28_code 54 = .ok (.getfield 350, 3) := zo_180 (d := 1) (e := 94) (zd_b zq_prog_1_method_28_code_1 22 rfl rfl rfl) (zd_b zq_prog_1_method_28_code_1 23 rfl rfl rfl) (zd_b zq_prog_1_method_28_code_1 24 rfl rfl rfl)
theorem d_Ip_minutes_57 : decode prog_1_method_28_code 57 = .ok (.iload_n 1, 1) := zo_27 (zd_b zq_prog_1_method_28_code_1 25 rfl rfl rfl)
theorem d_Ip_minutes_58 : decode prog_1_method_28_code 58 = .ok (.iadd, 1) := zo_96 (zd_b zq_prog_1_method_28_code_1 26 rfl rfl rfl)
theorem d_Ip_minutes_59 : decode prog_1_method_28_code 59 = .ok (.putfield 350, 3) := zo_181 (d := 1) (e := 94) (zd_b zq_prog_1_method_28_code_1 27 rfl rfl rfl) (zd_b zq_prog_1_method_28_code_1 28 rfl rfl rfl) (zd_b zq_prog_1_method_28_code_1 29 rfl rfl rfl)
theorem fp_Ip_350 : z_fp "Ironpour" 350 7 7 false .int := ⟨R_Mo, "Ironpour$Mould", F_Mo, 8, t_Mo, rfl, u_Mo, by decide, t_Mo_ok, n_Mo, rfl, rfl, Or.inr ⟨rfl, "Ironpour", z_mk6 (i := 13) rfl (by decide +kernel), rfl⟩⟩
theorem d_Ip_minutes_62 : decode prog_1_method_28_code 62 = .ok (.iinc 2 1, 3) := by decide +kernel
theorem d_Ip_minutes_65 : decode prog_1_method_28_code 65 = .ok (.goto (-34), 3) := zo_167 (d := 255) (e := 222) (zd_b zq_prog_1_method_28_code_2 1 rfl rfl rfl) (zd_b zq_prog_1_method_28_code_2 2 rfl rfl rfl) (zd_b zq_prog_1_method_28_code_2 3 rfl rfl rfl) (by decide +kernel)
