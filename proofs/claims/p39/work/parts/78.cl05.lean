set_option maxHeartbeats 4000000 in
set_option maxRecDepth 100000 in
theorem Qx_Ip_deliverS {g : zG} {ad : Nat → Nat} {t : zTT} {u : zNN} {w : zW} (hI : IV g ad t u w) (k : Nat) (hk : k < u.1 1) (hE : ¬ ((t.2 1 k).1 3 = 0 ∧ (t.2 1 k).1 4 = 0)) : zMB g M_Ip_deliver [.ref (ad 0), .int (nI k)] w (fun o w1 => o = .inr "java/lang/IllegalStateException" ∧ IV g ad t u w1) 3 18 := by
  obtain ⟨e_a, wf_a, k_a⟩ := hI.1.2 0 (by decide)
  obtain rfl := kd_0.mp k_a
  refine y_of (by decide) rfl (Nat.le_of_ble_eq_true rfl) (y_base (cs := [((ad 0), .inr (11, [.ref (ad 1), .ref (ad 5), .ref (ad 18), .ref (ad 31), .ref (ad 32), .ref (ad 36), .ref (ad 42), .ref (ad 45), .ref (ad 47), .ref (ad 49), .ref (ad 50), .ref (ad 51)]))]) (hI.1.I [0] _ rfl (by decide) (by decide) (List.forall_mem_cons.mpr ⟨wf_a, (fun _ h => nomatch h)⟩)) ?_)
  refine y_lvE (lv2 := [(0, .ref (ad 0)), (1, .int (nI k))]) rfl ?_
  refine y_aload_n d_Ip_deliver_0 rfl 0 rfl ?_
  refine y_iload_n d_Ip_deliver_1 rfl 1 rfl ?_
  refine yw_callV (As := [.int (nI k)]) (rest := []) (q0 := 0) rfl rfl ln_Ip_436 w_im_Ip_castingAt w_se_Ip_castingAt ok_Ip_deliver_Ip_castingAt d_Ip_deliver_2 (fun wA hA => Q_castingAtN (hI.gen (t2 := t) (is := [0]) (L2 := []) hA rfl ⟨kd_0.mpr rfl, trivial⟩ (by decide) (by decide) (fun _ h => nomatch h) (fun _ h => nomatch h) (fun _ _ _ => rfl) (fun h => h) rfl) k hk) rfl rfl (Nat.le_of_ble_eq_true rfl) (by omega) (by omega) (fun wA2 hA2 E wB2 hx => ?_) (fun wA2 hA2 v wB2 hx => ?_)
  · exact absurd hx.1 (by simp)
  · obtain ⟨e1, e2⟩ := hx
    cases e1
    refine yw_st (st2 := [.ref (u.2.2 1 k)]) rfl ?_
    subst e2
    refine y_go hA2 ?_
    refine y_end (fun wC1 hC1 => ?_)
    have hI9 := (hI.gen (t2 := t) (is := [0]) (L2 := []) hC1 rfl ⟨kd_0.mpr rfl, trivial⟩ (by decide) (by decide) (fun _ h => nomatch h) (fun _ h => nomatch h) (fun _ _ _ => rfl) (fun h => h) rfl)
    have hI := hI9
    obtain ⟨nf_c, me_c, gr_c, hw_c, nfm_c, hwm_c, nfg_c, hwg_c⟩ := hI.2.1.2.1 1 (by decide) k hk
    refine y_base (cs := [((ad 0), .inr (11, [.ref (ad 1), .ref (ad 5), .ref (ad 18), .ref (ad 31), .ref (ad 32), .ref (ad 36), .ref (ad 42), .ref (ad 45), .ref (ad 47), .ref (ad 49), .ref (ad 50), .ref (ad 51)])), ((u.2.2 1 k), .inr (0, [.ref me_c, .int ((t.2 1 k).1 0), .int ((t.2 1 k).1 1), .int ((t.2 1 k).1 2), .int ((t.2 1 k).1 3), .int ((t.2 1 k).1 4)])), (me_c, .inr (6, [.ref gr_c, .int ((t.2 1 k).1 5)])), (gr_c, .inl (3, 4, .inr (.inl ((t.2 1 k).2.2.1))))]) (z_I.kd (List.forall_mem_cons.mpr ⟨hC1.at (q0 := 0) rfl, (List.forall_mem_cons.mpr ⟨hw_c, (List.forall_mem_cons.mpr ⟨hwm_c, (List.forall_mem_cons.mpr ⟨hwg_c, (fun _ h => nomatch h)⟩)⟩)⟩)⟩) (by simp [z_kd])) ?_
    refine y_astore_n (lv' := [(2, .ref (u.2.2 1 k)), (0, .ref (ad 0)), (1, .int (nI k))]) d_Ip_deliver_5 rfl (by decide) rfl ?_
    refine y_aload_n d_Ip_deliver_6 rfl 0 rfl ?_
    refine y_callS (As := [.ref (u.2.2 1 k)]) (rest := []) (csC := [((u.2.2 1 k), .inr (0, [.ref me_c, .int ((t.2 1 k).1 0), .int ((t.2 1 k).1 1), .int ((t.2 1 k).1 2), .int ((t.2 1 k).1 3), .int ((t.2 1 k).1 4)]))]) (is := [1]) ln_Ip_462 w_st_Ip_checkStands ok_Ip_deliver_Ip_checkStands d_Ip_deliver_7 (C_Ip_checkStandsE g (u.2.2 1 k) me_c ((t.2 1 k).1 0) ((t.2 1 k).1 1) ((t.2 1 k).1 2) ((t.2 1 k).1 3) ((t.2 1 k).1 4) hE) rfl rfl (Nat.le_of_ble_eq_true rfl) rfl (by decide) (by omega) (by omega) (fun E cs1 hx => ?_) (fun v cs1 hx => ?_)
    · obtain ⟨e1, rfl⟩ := hx
      cases e1
      exact ⟨rfl, fun w1 h1 => ⟨rfl, (hI.gen (t2 := t) (is := [0]) (L2 := [(u.2.2 1 k), me_c, gr_c]) h1 rfl ⟨kd_0.mpr rfl, trivial⟩ (by decide) (by decide) (List.forall_mem_cons.mpr ⟨nf_c, (List.forall_mem_cons.mpr ⟨nfm_c, (List.forall_mem_cons.mpr ⟨nfg_c, (fun _ h => nomatch h)⟩)⟩)⟩) (List.forall_mem_cons.mpr ⟨⟨_, hw_c, h1.at (q0 := 1) rfl⟩, (List.forall_mem_cons.mpr ⟨⟨_, hwm_c, h1.at (q0 := 2) rfl⟩, (List.forall_mem_cons.mpr ⟨⟨_, hwg_c, h1.at (q0 := 3) rfl⟩, (fun _ h => nomatch h)⟩)⟩)⟩) (fun _ _ _ => rfl) (fun h => h) rfl)⟩⟩
    · exact absurd hx.1 (by simp)
theorem d_Ip_breakUp_5 : decode prog_1_method_46_code 5 = .ok (.astore_n 2, 1) := zo_77 (zd_b zq_prog_1_method_46_code_0 5 rfl rfl rfl)
theorem d_Ip_breakUp_6 : decode prog_1_method_46_code 6 = .ok (.aload_n 2, 1) := zo_44 (zd_b zq_prog_1_method_46_code_0 6 rfl rfl rfl)
theorem d_Ip_breakUp_7 : decode prog_1_method_46_code 7 = .ok (.invokestatic 462, 3) := zo_184 (d := 1) (e := 206) (zd_b zq_prog_1_method_46_code_0 7 rfl rfl rfl) (zd_b zq_prog_1_method_46_code_0 8 rfl rfl rfl) (zd_b zq_prog_1_method_46_code_0 9 rfl rfl rfl)
theorem ok_Ip_breakUp_Ip_checkStands : z_ok M_Ip_breakUp M_Ip_checkStands 1 := ⟨z_mj7 (i := 9) rfl (by decide +kernel), rfl, ⟨by decide +kernel, by decide +kernel, by decide +kernel⟩, ⟨by decide, by decide⟩, z_mj1 (i := 1) rfl (by decide +kernel), rfl⟩
theorem d_Ip_breakUp_10 : decode prog_1_method_46_code 10 = .ok (.aload_n 2, 1) := zo_44 (zd_b zq_prog_1_method_46_code_0 10 rfl rfl rfl)
theorem d_Ip_breakUp_11 : decode prog_1_method_46_code 11 = .ok (.iconst 1, 1) := zo_4 (zd_b zq_prog_1_method_46_code_0 11 rfl rfl rfl)
theorem d_Ip_breakUp_12 : decode prog_1_method_46_code 12 = .ok (.putfield 469, 3) := zo_181 (d := 1) (e := 213) (zd_b zq_prog_1_method_46_code_0 12 rfl rfl rfl) (zd_b zq_prog_1_method_46_code_0 13 rfl rfl rfl) (zd_b zq_prog_1_method_46_code_0 14 rfl rfl rfl)
theorem fp_Ip_469 : z_fp "Ironpour" 469 0 5 false .boolean := ⟨R_Ca, "Ironpour$Casting", F_Ca, 6, t_Ca, rfl, u_Ca, by decide, t_Ca_ok, n_Ca, rfl, rfl, Or.inr ⟨rfl, "Ironpour", z_mk6 (i := 147) rfl (by decide +kernel), rfl⟩⟩
theorem d_Ip_breakUp_15 : decode prog_1_method_46_code 15 = .ok (.aload_n 2, 1) := zo_44 (zd_b zq_prog_1_method_46_code_0 15 rfl rfl rfl)
theorem d_Ip_breakUp_16 : decode prog_1_method_46_code 16 = .ok (.invokevirtual 440, 3) := zo_182 (d := 1) (e := 184) (zd_b zq_prog_1_method_46_code_0 16 rfl rfl rfl) (zd_b zq_prog_1_method_46_code_0 17 rfl rfl rfl) (zd_b zq_prog_1_method_46_code_0 18 rfl rfl rfl)
theorem ok_Ip_breakUp_Ca_isDuctile : z_ok M_Ip_breakUp M_Ca_isDuctile 0 := ⟨z_mj6 (i := 182) rfl (by decide +kernel), rfl, ⟨by decide +kernel, by decide +kernel, by decide +kernel⟩, ⟨by decide, by decide⟩, z_mj1 (i := 35) rfl (by decide +kernel), rfl⟩
theorem d_Ip_breakUp_19 : decode prog_1_method_46_code 19 = .ok (.ifCond .eq 10, 3) := zo_153 (d := 0) (e := 10) (zd_b zq_prog_1_method_46_code_0 19 rfl rfl rfl) (zd_b zq_prog_1_method_46_code_0 20 rfl rfl rfl) (zd_b zq_prog_1_method_46_code_0 21 rfl rfl rfl) (by decide +kernel)
theorem d_Ip_breakUp_29 : decode prog_1_method_46_code 29 = .ok (.aload_n 0, 1) := zo_42 (zd_b zq_prog_1_method_46_code_0 29 rfl rfl rfl)
theorem d_Ip_breakUp_30 : decode prog_1_method_46_code 30 = .ok (.getfield 57, 3) := zo_180 (d := 0) (e := 57) (zd_b zq_prog_1_method_46_code_0 30 rfl rfl rfl) (zd_b zq_prog_1_method_46_code_0 31 rfl rfl rfl) (zd_b zq_prog_1_method_46_code_1 0 rfl rfl rfl)
theorem d_Ip_breakUp_33 : decode prog_1_method_46_code 33 = .ok (.astore_n 3, 1) := zo_78 (zd_b zq_prog_1_method_46_code_1 1 rfl rfl rfl)
theorem d_Ip_breakUp_34 : decode prog_1_method_46_code 34 = .ok (.aload_n 3, 1) := zo_45 (zd_b zq_prog_1_method_46_code_1 2 rfl rfl rfl)
theorem d_Ip_breakUp_35 : decode prog_1_method_46_code 35 = .ok (.aload_n 2, 1) := zo_44 (zd_b zq_prog_1_method_46_code_1 3 rfl rfl rfl)
theorem d_Ip_breakUp_36 : decode prog_1_method_46_code 36 = .ok (.getfield 450, 3) := zo_180 (d := 1) (e := 194) (zd_b zq_prog_1_method_46_code_1 4 rfl rfl rfl) (zd_b zq_prog_1_method_46_code_1 5 rfl rfl rfl) (zd_b zq_prog_1_method_46_code_1 6 rfl rfl rfl)
theorem d_Ip_breakUp_39 : decode prog_1_method_46_code 39 = .ok (.invokevirtual 472, 3) := zo_182 (d := 1) (e := 216) (zd_b zq_prog_1_method_46_code_1 7 rfl rfl rfl) (zd_b zq_prog_1_method_46_code_1 8 rfl rfl rfl) (zd_b zq_prog_1_method_46_code_1 9 rfl rfl rfl)
theorem ok_Ip_breakUp_Me_addAll : z_ok M_Ip_breakUp M_Me_addAll 1 := ⟨z_mj7 (i := 28) rfl (by decide +kernel), rfl, ⟨by decide +kernel, by decide +kernel, by decide +kernel⟩, ⟨by decide, by decide⟩, z_mj1 (i := 8) rfl (by decide +kernel), rfl⟩
theorem ln_Ip_472 : Cond.methodLink "Ironpour" 472 M_Me_addAll.1 ∈ z_gw := z_mj7 (i := 25) rfl (by decide +kernel)
theorem w_im_Me_addAll : Cond.instanceMethod M_Me_addAll.1 ∈ z_gw := z_mj7 (i := 26) rfl (by decide +kernel)
theorem w_se_Me_addAll : Cond.selects M_Me_addAll.1.cls M_Me_addAll.1 M_Me_addAll.1 ∈ z_gw := z_mj7 (i := 27) rfl (by decide +kernel)
theorem d_Ip_breakUp_42 : decode prog_1_method_46_code 42 = .ok (.aload_n 3, 1) := zo_45 (zd_b zq_prog_1_method_46_code_1 10 rfl rfl rfl)
theorem d_Ip_breakUp_43 : decode prog_1_method_46_code 43 = .ok (.getfield 269, 3) := zo_180 (d := 1) (e := 13) (zd_b zq_prog_1_method_46_code_1 11 rfl rfl rfl) (zd_b zq_prog_1_method_46_code_1 12 rfl rfl rfl) (zd_b zq_prog_1_method_46_code_1 13 rfl rfl rfl)
theorem d_Ip_breakUp_46 : decode prog_1_method_46_code 46 = .ok (.ireturn, 1) := zo_172 (zd_b zq_prog_1_method_46_code_1 14 rfl rfl rfl)
set_option maxHeartbeats 4000000 in
set_option maxRecDepth 100000 in
theorem Qx_Ip_breakUpG {g : zG} {ad : Nat → Nat} {t : zTT} {u : zNN} {w : zW} (hI : IV g ad t u w) (k : Nat) (hk : k < u.1 1) (h3 : (t.2 1 k).1 3 = 0) (h4 : (t.2 1 k).1 4 = 0) (h5 : (t.2 1 k).1 0 < 20) : zMB g M_Ip_breakUp [.ref (ad 0), .int (nI k)] w (fun o w1 => o = .inl (some (.int ((t.1 45).1 0 + (t.2 1 k).1 5))) ∧ IV g ad (zup t.1 [(45, (upd ((t.1 45).1) 0 ((t.1 45).1 0 + (t.2 1 k).1 5), (t.1 45).2.1, (t.1 45).2.2)), (46, ((t.1 46).1, lfd ((t.1 46).2.1) ((t.2 1 k).2.2.1) 4, (t.1 46).2.2))], vup t.2 1 k (upd ((t.2 1 k).1) 4 (1), (t.2 1 k).2)) u w1) 3 18 := by
  obtain ⟨e_a, wf_a, k_a⟩ := hI.1.2 0 (by decide)
  obtain rfl := kd_0.mp k_a
  obtain ⟨e_gy, wf_gy, k_gy⟩ := hI.1.2 45 (by decide)
  obtain rfl := kd_45.mp k_gy
  obtain ⟨e_gyg, wf_gyg, k_gyg⟩ := hI.1.2 46 (by decide)
  obtain rfl := kd_46.mp k_gyg
  obtain ⟨e_du, wf_du, k_du⟩ := hI.1.2 47 (by decide)
  obtain rfl := kd_47.mp k_du
  obtain ⟨e_dug, wf_dug, k_dug⟩ := hI.1.2 48 (by decide)
  obtain rfl := kd_48.mp k_dug
  refine y_of (by decide) rfl (Nat.le_of_ble_eq_true rfl) (y_base (cs := [((ad 0), .inr (11, [.ref (ad 1), .ref (ad 5), .ref (ad 18), .ref (ad 31), .ref (ad 32), .ref (ad 36), .ref (ad 42), .ref (ad 45), .ref (ad 47), .ref (ad 49), .ref (ad 50), .ref (ad 51)])), ((ad 45), .inr (6, [.ref (ad 46), .int ((t.1 45).1 0)])), ((ad 46), .inl (3, 4, .inr (.inl ((t.1 46).2.1)))), ((ad 47), .inr (6, [.ref (ad 48), .int ((t.1 47).1 0)])), ((ad 48), .inl (3, 4, .inr (.inl ((t.1 48).2.1))))]) (hI.1.I [0, 45, 46, 47, 48] _ rfl (by decide) (by decide) (List.forall_mem_cons.mpr ⟨wf_a, (List.forall_mem_cons.mpr ⟨wf_gy, (List.forall_mem_cons.mpr ⟨wf_gyg, (List.forall_mem_cons.mpr ⟨wf_du, (List.forall_mem_cons.mpr ⟨wf_dug, (fun _ h => nomatch h)⟩)⟩)⟩)⟩)⟩)) ?_)
  refine y_lvE (lv2 := [(0, .ref (ad 0)), (1, .int (nI k))]) rfl ?_
  refine y_aload_n d_Ip_breakUp_0 rfl 0 rfl ?_
  refine y_iload_n d_Ip_breakUp_1 rfl 1 rfl ?_
  refine yw_callV (As := [.int (nI k)]) (rest := []) (q0 := 0) rfl rfl ln_Ip_436 w_im_Ip_castingAt w_se_Ip_castingAt ok_Ip_breakUp_Ip_castingAt d_Ip_breakUp_2 (fun wA hA => Q_castingAtN (hI.gen (t2 := t) (is := [0, 45, 46, 47, 48]) (L2 := []) hA rfl ⟨kd_0.mpr rfl, kd_45.mpr rfl, kd_46.mpr rfl, kd_47.mpr rfl, kd_48.mpr rfl, trivial⟩ (by decide) (by decide) (fun _ h => nomatch h) (fun _ h => nomatch h) (fun _ _ _ => rfl) (fun h => h) rfl) k hk) rfl rfl (Nat.le_of_ble_eq_true rfl) (by omega) (by omega) (fun wA2 hA2 E wB2 hx => ?_) (fun wA2 hA2 v wB2 hx => ?_)
  · exact absurd hx.1 (by simp)
  · obtain ⟨e1, e2⟩ := hx
    cases e1
    refine yw_st (st2 := [.ref (u.2.2 1 k)]) rfl ?_
    subst e2
    refine y_go hA2 ?_
    refine y_end (fun wC1 hC1 => ?_)
    have hI9 := (hI.gen (t2 := t) (is := [0, 45, 46, 47, 48]) (L2 := []) hC1 rfl ⟨kd_0.mpr rfl, kd_45.mpr rfl, kd_46.mpr rfl, kd_47.mpr rfl, kd_48.mpr rfl, trivial⟩ (by decide) (by decide) (fun _ h => nomatch h) (fun _ h => nomatch h) (fun _ _ _ => rfl) (fun h => h) rfl)
    have hI := hI9
    obtain ⟨nf_c, me_c, gr_c, hw_c, nfm_c, hwm_c, nfg_c, hwg_c⟩ := hI.2.1.2.1 1 (by decide) k hk
    refine y_base (cs := [((ad 0), .inr (11, [.ref (ad 1), .ref (ad 5), .ref (ad 18), .ref (ad 31), .ref (ad 32), .ref (ad 36), .ref (ad 42), .ref (ad 45), .ref (ad 47), .ref (ad 49), .ref (ad 50), .ref (ad 51)])), ((ad 45), .inr (6, [.ref (ad 46), .int ((t.1 45).1 0)])), ((ad 46), .inl (3, 4, .inr (.inl ((t.1 46).2.1)))), ((ad 47), .inr (6, [.ref (ad 48), .int ((t.1 47).1 0)])), ((ad 48), .inl (3, 4, .inr (.inl ((t.1 48).2.1)))), ((u.2.2 1 k), .inr (0, [.ref me_c, .int ((t.2 1 k).1 0), .int ((t.2 1 k).1 1), .int ((t.2 1 k).1 2), .int ((t.2 1 k).1 3), .int ((t.2 1 k).1 4)])), (me_c, .inr (6, [.ref gr_c, .int ((t.2 1 k).1 5)])), (gr_c, .inl (3, 4, .inr (.inl ((t.2 1 k).2.2.1))))]) (hI.1.B [0, 45, 46, 47, 48] [((ad 0), .inr (11, [.ref (ad 1), .ref (ad 5), .ref (ad 18), .ref (ad 31), .ref (ad 32), .ref (ad 36), .ref (ad 42), .ref (ad 45), .ref (ad 47), .ref (ad 49), .ref (ad 50), .ref (ad 51)])), ((ad 45), .inr (6, [.ref (ad 46), .int ((t.1 45).1 0)])), ((ad 46), .inl (3, 4, .inr (.inl ((t.1 46).2.1)))), ((ad 47), .inr (6, [.ref (ad 48), .int ((t.1 47).1 0)])), ((ad 48), .inl (3, 4, .inr (.inl ((t.1 48).2.1))))] [((u.2.2 1 k), .inr (0, [.ref me_c, .int ((t.2 1 k).1 0), .int ((t.2 1 k).1 1), .int ((t.2 1 k).1 2), .int ((t.2 1 k).1 3), .int ((t.2 1 k).1 4)])), (me_c, .inr (6, [.ref gr_c, .int ((t.2 1 k).1 5)])), (gr_c, .inl (3, 4, .inr (.inl ((t.2 1 k).2.2.1))))] rfl (by decide) (by decide) (List.forall_mem_cons.mpr ⟨hC1.at (q0 := 0) rfl, (List.forall_mem_cons.mpr ⟨hC1.at (q0 := 1) rfl, (List.forall_mem_cons.mpr ⟨hC1.at (q0 := 2) rfl, (List.forall_mem_cons.mpr ⟨hC1.at (q0 := 3) rfl, (List.forall_mem_cons.mpr ⟨hC1.at (q0 := 4) rfl, (fun _ h => nomatch h)⟩)⟩)⟩)⟩)⟩) (List.forall_mem_cons.mpr ⟨hw_c, (List.forall_mem_cons.mpr ⟨hwm_c, (List.forall_mem_cons.mpr ⟨hwg_c, (fun _ h => nomatch h)⟩)⟩)⟩) (List.forall_mem_cons.mpr ⟨nf_c, (List.forall_mem_cons.mpr ⟨nfm_c, (List.forall_mem_cons.mpr ⟨nfg_c, (fun _ h => nomatch h)⟩)⟩)⟩) (by simp [z_kd])) ?_
    refine y_astore_n (lv' := [(2, .ref (u.2.2 1 k)), (0, .ref (ad 0)), (1, .int (nI k))]) d_Ip_breakUp_5 rfl (by decide) rfl ?_
    refine y_aload_n d_Ip_breakUp_6 rfl 0 rfl ?_
    refine y_callS (As := [.ref (u.2.2 1 k)]) (rest := []) (csC := [((u.2.2 1 k), .inr (0, [.ref me_c, .int ((t.2 1 k).1 0), .int ((t.2 1 k).1 1), .int ((t.2 1 k).1 2), .int ((t.2 1 k).1 3), .int ((t.2 1 k).1 4)]))]) (is := [5]) ln_Ip_462 w_st_Ip_checkStands ok_Ip_breakUp_Ip_checkStands d_Ip_breakUp_7 (C_Ip_checkStandsN g (u.2.2 1 k) me_c ((t.2 1 k).1 0) ((t.2 1 k).1 1) ((t.2 1 k).1 2) ((t.2 1 k).1 3) ((t.2 1 k).1 4) h3 h4) rfl rfl (Nat.le_of_ble_eq_true rfl) rfl (by decide) (by omega) (by omega) (fun E cs1 hx => ?_) (fun v cs1 hx => ?_)
    · exact absurd hx.1 (by simp)
    · obtain ⟨e1, rfl⟩ := hx
      cases e1
      refine ⟨rfl, ?_⟩
      refine y_st (st2 := []) rfl ?_
      refine y_cs (cs2 := [((ad 0), .inr (11, [.ref (ad 1), .ref (ad 5), .ref (ad 18), .ref (ad 31), .ref (ad 32), .ref (ad 36), .ref (ad 42), .ref (ad 45), .ref (ad 47), .ref (ad 49), .ref (ad 50), .ref (ad 51)])), ((ad 45), .inr (6, [.ref (ad 46), .int ((t.1 45).1 0)])), ((ad 46), .inl (3, 4, .inr (.inl ((t.1 46).2.1)))), ((ad 47), .inr (6, [.ref (ad 48), .int ((t.1 47).1 0)])), ((ad 48), .inl (3, 4, .inr (.inl ((t.1 48).2.1)))), ((u.2.2 1 k), .inr (0, [.ref me_c, .int ((t.2 1 k).1 0), .int ((t.2 1 k).1 1), .int ((t.2 1 k).1 2), .int ((t.2 1 k).1 3), .int ((t.2 1 k).1 4)])), (me_c, .inr (6, [.ref gr_c, .int ((t.2 1 k).1 5)])), (gr_c, .inl (3, 4, .inr (.inl ((t.2 1 k).2.2.1))))]) rfl ?_
      refine y_aload_n d_Ip_breakUp_10 rfl 0 rfl ?_
      refine y_iconst d_Ip_breakUp_11 (v := 1) (by decide) ?_
      refine y_put fp_Ip_469 d_Ip_breakUp_12 (fun h => nomatch h) (by decide) (by decide) (q0 := 5) rfl (Nat.le_of_ble_eq_true rfl) (cs' := [((ad 0), .inr (11, [.ref (ad 1), .ref (ad 5), .ref (ad 18), .ref (ad 31), .ref (ad 32), .ref (ad 36), .ref (ad 42), .ref (ad 45), .ref (ad 47), .ref (ad 49), .ref (ad 50), .ref (ad 51)])), ((ad 45), .inr (6, [.ref (ad 46), .int ((t.1 45).1 0)])), ((ad 46), .inl (3, 4, .inr (.inl ((t.1 46).2.1)))), ((ad 47), .inr (6, [.ref (ad 48), .int ((t.1 47).1 0)])), ((ad 48), .inl (3, 4, .inr (.inl ((t.1 48).2.1)))), ((u.2.2 1 k), .inr (0, [.ref me_c, .int ((t.2 1 k).1 0), .int ((t.2 1 k).1 1), .int ((t.2 1 k).1 2), .int ((t.2 1 k).1 3), .int 1])), (me_c, .inr (6, [.ref gr_c, .int ((t.2 1 k).1 5)])), (gr_c, .inl (3, 4, .inr (.inl ((t.2 1 k).2.2.1))))]) rfl ?_
      refine y_aload_n d_Ip_breakUp_15 rfl 0 rfl ?_
      refine y_callV (As := []) (rest := []) (csC := [((u.2.2 1 k), .inr (0, [.ref me_c, .int ((t.2 1 k).1 0), .int ((t.2 1 k).1 1), .int ((t.2 1 k).1 2), .int ((t.2 1 k).1 3), .int 1])), (me_c, .inr (6, [.ref gr_c, .int ((t.2 1 k).1 5)])), (gr_c, .inl (3, 4, .inr (.inl ((t.2 1 k).2.2.1))))]) (is := [5, 6, 7]) (q0 := 5) rfl rfl ln_Ip_440 w_im_Ca_isDuctile w_se_Ca_isDuctile ok_Ip_breakUp_Ca_isDuctile d_Ip_breakUp_16 (C_Ca_isDuctile g (u.2.2 1 k) me_c gr_c ((t.2 1 k).2.2.1) ((t.2 1 k).1 5) ((t.2 1 k).1 0) ((t.2 1 k).1 1) ((t.2 1 k).1 2) ((t.2 1 k).1 3) 1) rfl rfl (Nat.le_of_ble_eq_true rfl) rfl (by decide) (by omega) (by omega) (fun E cs1 hx => ?_) (fun v cs1 hx => ?_)
      · exact absurd hx.1 (by simp)
      · obtain ⟨e1, rfl⟩ := hx
        cases e1
        refine ⟨rfl, ?_⟩
        refine y_st (st2 := [.int (if ((t.2 1 k).1 0) < 20 then 0 else 1)]) rfl ?_
        refine y_cs (cs2 := [((ad 0), .inr (11, [.ref (ad 1), .ref (ad 5), .ref (ad 18), .ref (ad 31), .ref (ad 32), .ref (ad 36), .ref (ad 42), .ref (ad 45), .ref (ad 47), .ref (ad 49), .ref (ad 50), .ref (ad 51)])), ((ad 45), .inr (6, [.ref (ad 46), .int ((t.1 45).1 0)])), ((ad 46), .inl (3, 4, .inr (.inl ((t.1 46).2.1)))), ((ad 47), .inr (6, [.ref (ad 48), .int ((t.1 47).1 0)])), ((ad 48), .inl (3, 4, .inr (.inl ((t.1 48).2.1)))), ((u.2.2 1 k), .inr (0, [.ref me_c, .int ((t.2 1 k).1 0), .int ((t.2 1 k).1 1), .int ((t.2 1 k).1 2), .int ((t.2 1 k).1 3), .int 1])), (me_c, .inr (6, [.ref gr_c, .int ((t.2 1 k).1 5)])), (gr_c, .inl (3, 4, .inr (.inl ((t.2 1 k).2.2.1))))]) rfl ?_
        refine y_if_eq (tgt := 29) d_Ip_breakUp_19 (by decide) (fun c_19 => ?_) (fun c_19 => ?_)
        · refine y_aload_n d_Ip_breakUp_29 rfl 1 rfl ?_
          refine y_get fs_Ip_57 d_Ip_breakUp_30 (q0 := 0) rfl rfl ?_
          refine y_astore_n (lv' := [(3, .ref (ad 45)), (2, .ref (u.2.2 1 k)), (0, .ref (ad 0)), (1, .int (nI k))]) d_Ip_breakUp_33 rfl (by decide) rfl ?_
          refine y_aload_n d_Ip_breakUp_34 rfl 0 rfl ?_
          refine y_aload_n d_Ip_breakUp_35 rfl 1 rfl ?_
          refine y_get fs_Ip_450 d_Ip_breakUp_36 (q0 := 5) rfl rfl ?_
          refine y_callV (As := [.ref me_c]) (rest := []) (csC := [((ad 45), .inr (6, [.ref (ad 46), .int ((t.1 45).1 0)])), ((ad 46), .inl (3, 4, .inr (.inl ((t.1 46).2.1)))), (me_c, .inr (6, [.ref gr_c, .int ((t.2 1 k).1 5)])), (gr_c, .inl (3, 4, .inr (.inl ((t.2 1 k).2.2.1))))]) (is := [1, 2, 6, 7]) (q0 := 1) rfl rfl ln_Ip_472 w_im_Me_addAll w_se_Me_addAll ok_Ip_breakUp_Me_addAll d_Ip_breakUp_39 (C_Me_addAll g (ad 45) (ad 46) ((t.1 46).2.1) ((t.1 45).1 0) me_c gr_c ((t.2 1 k).2.2.1) ((t.2 1 k).1 5)) rfl rfl (Nat.le_of_ble_eq_true rfl) rfl (by decide) (by omega) (by omega) (fun E cs1 hx => ?_) (fun v cs1 hx => ?_)
          · exact absurd hx.1 (by simp)
          · obtain ⟨e1, rfl⟩ := hx
            cases e1
            refine ⟨rfl, ?_⟩
            refine y_st (st2 := []) rfl ?_
            refine y_cs (cs2 := [((ad 0), .inr (11, [.ref (ad 1), .ref (ad 5), .ref (ad 18), .ref (ad 31), .ref (ad 32), .ref (ad 36), .ref (ad 42), .ref (ad 45), .ref (ad 47), .ref (ad 49), .ref (ad 50), .ref (ad 51)])), ((ad 45), .inr (6, [.ref (ad 46), .int (((t.1 45).1 0) + ((t.2 1 k).1 5))])), ((ad 46), .inl (3, 4, .inr (.inl (lfd ((t.1 46).2.1) ((t.2 1 k).2.2.1) 4)))), ((ad 47), .inr (6, [.ref (ad 48), .int ((t.1 47).1 0)])), ((ad 48), .inl (3, 4, .inr (.inl ((t.1 48).2.1)))), ((u.2.2 1 k), .inr (0, [.ref me_c, .int ((t.2 1 k).1 0), .int ((t.2 1 k).1 1), .int ((t.2 1 k).1 2), .int ((t.2 1 k).1 3), .int 1])), (me_c, .inr (6, [.ref gr_c, .int ((t.2 1 k).1 5)])), (gr_c, .inl (3, 4, .inr (.inl ((t.2 1 k).2.2.1))))]) rfl ?_
            refine y_aload_n d_Ip_breakUp_42 rfl 0 rfl ?_
            refine y_get fs_Ip_269 d_Ip_breakUp_43 (q0 := 1) rfl rfl ?_
            refine y_iret d_Ip_breakUp_46 rfl rfl ?_
            exact fun w1 h1 => ⟨rfl, (hI.gen1 (M := 1) (j := k) (v2 := (upd ((t.2 1 k).1) 4 1, (t.2 1 k).2)) (t2 := (zup t.1 [(45, (upd ((t.1 45).1) 0 ((t.1 45).1 0 + (t.2 1 k).1 5), (t.1 45).2.1, (t.1 45).2.2)), (46, ((t.1 46).1, lfd ((t.1 46).2.1) ((t.2 1 k).2.2.1) 4, (t.1 46).2.2))], vup t.2 1 k (upd ((t.2 1 k).1) 4 (1), (t.2 1 k).2))) (is := [0, 45, 46, 47, 48]) (L2 := [(u.2.2 1 k), me_c, gr_c]) (by decide) hk (Or.inr (Or.inl rfl)) h1 rfl ⟨kd_0.mpr rfl, kd_45.mpr rfl, kd_46.mpr rfl, kd_47.mpr rfl, kd_48.mpr rfl, trivial⟩ (by decide) (by decide) (List.forall_mem_cons.mpr ⟨nf_c, (List.forall_mem_cons.mpr ⟨nfm_c, (List.forall_mem_cons.mpr ⟨nfg_c, (fun _ h => nomatch h)⟩)⟩)⟩) (List.forall_mem_cons.mpr ⟨(Or.inl rfl), (List.forall_mem_cons.mpr ⟨(Or.inr ⟨_, hwm_c, h1.at (q0 := 6) rfl⟩), (List.forall_mem_cons.mpr ⟨(Or.inr ⟨_, hwg_c, h1.at (q0 := 7) rfl⟩), (fun _ h => nomatch h)⟩)⟩)⟩) (fun i hi hn => zup_out (fun q => hn ((by decide : ∀ j ∈ ([45, 46] : List Nat), j ∈ ([0, 45, 46, 47, 48] : List Nat)) i q))) (fun h => h) ⟨nf_c, me_c, gr_c, h1.at (q0 := 5) rfl, nfm_c, h1.at (q0 := 6) rfl, nfg_c, h1.at (q0 := 7) rfl⟩ rfl)⟩
        · exact absurd h5 (du_1 c_19)
theorem d_Ip_breakUp_22 : decode prog_1_method_46_code 22 = .ok (.aload_n 0, 1) := zo_42 (zd_b zq_prog_1_method_46_code_0 22 rfl rfl rfl)
theorem d_Ip_breakUp_23 : decode prog_1_method_46_code 23 = .ok (.getfield 61, 3) := zo_180 (d := 0) (e := 61) (zd_b zq_prog_1_method_46_code_0 23 rfl rfl rfl) (zd_b zq_prog_1_method_46_code_0 24 rfl rfl rfl) (zd_b zq_prog_1_method_46_code_0 25 rfl rfl rfl)
theorem d_Ip_breakUp_26 : decode prog_1_method_46_code 26 = .ok (.goto 7, 3) := zo_167 (d := 0) (e := 7) (zd_b zq_prog_1_method_46_code_0 26 rfl rfl rfl) (zd_b zq_prog_1_method_46_code_0 27 rfl rfl rfl) (zd_b zq_prog_1_method_46_code_0 28 rfl rfl rfl) (by decide +kernel)
