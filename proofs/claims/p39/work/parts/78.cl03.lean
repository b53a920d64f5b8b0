set_option maxHeartbeats 4000000 in
set_option maxRecDepth 100000 in
theorem C_Ip_checkStandsE (g : zG) (a ab : Nat) (mg sh fb dl bk : Int32) (hE : ¬ (dl = 0 ∧ bk = 0)) : CT g M_Ip_checkStands [.ref a] [(a, .inr (0, [.ref ab, .int mg, .int sh, .int fb, .int dl, .int bk]))] (fun o cs1 => o = .inr "java/lang/IllegalStateException" ∧ cs1 = [(a, .inr (0, [.ref ab, .int mg, .int sh, .int fb, .int dl, .int bk]))]) 1 6 := by
  refine z_of (by decide) rfl (Nat.le_of_ble_eq_true rfl) (fun w0 => ?_)
  refine r_lvE (lv2 := [(0, .ref a)]) rfl ?_
  refine r_aload_n d_Ip_checkStands_0 rfl 0 rfl ?_
  refine r_get fs_Ip_466 d_Ip_checkStands_1 (q0 := 0) rfl rfl ?_
  refine r_if_ne (tgt := 14) d_Ip_checkStands_4 (by decide) (fun c_4 => ?_) (fun c_4 => ?_)
  · refine r_throwW tb_Ip_242_246 sr_Ip_542 d_Ip_checkStands_14 d_Ip_checkStands_17 d_Ip_checkStands_18 d_Ip_checkStands_21 d_Ip_checkStands_24 rfl (by decide) (by decide) (Nat.le_of_ble_eq_true rfl) (by omega) (by omega) ?_
    exact ⟨rfl, rfl⟩
  · refine r_aload_n d_Ip_checkStands_7 rfl 0 rfl ?_
    refine r_get fs_Ip_469 d_Ip_checkStands_8 (q0 := 0) rfl rfl ?_
    refine r_if_eq (tgt := 25) d_Ip_checkStands_11 (by decide) (fun c_11 => ?_) (fun c_11 => ?_)
    · exact absurd ⟨c_4, c_11⟩ hE
    · refine r_throwW tb_Ip_242_246 sr_Ip_542 d_Ip_checkStands_14 d_Ip_checkStands_17 d_Ip_checkStands_18 d_Ip_checkStands_21 d_Ip_checkStands_24 rfl (by decide) (by decide) (Nat.le_of_ble_eq_true rfl) (by omega) (by omega) ?_
      exact ⟨rfl, rfl⟩
theorem d_Ip_weld_5 : decode prog_1_method_44_code 5 = .ok (.astore_n 2, 1) := zo_77 (zd_b zq_prog_1_method_44_code_0 5 rfl rfl rfl)
theorem d_Ip_weld_6 : decode prog_1_method_44_code 6 = .ok (.aload_n 2, 1) := zo_44 (zd_b zq_prog_1_method_44_code_0 6 rfl rfl rfl)
theorem d_Ip_weld_7 : decode prog_1_method_44_code 7 = .ok (.invokevirtual 440, 3) := zo_182 (d := 1) (e := 184) (zd_b zq_prog_1_method_44_code_0 7 rfl rfl rfl) (zd_b zq_prog_1_method_44_code_0 8 rfl rfl rfl) (zd_b zq_prog_1_method_44_code_0 9 rfl rfl rfl)
theorem ok_Ip_weld_Ca_isDuctile : z_ok M_Ip_weld M_Ca_isDuctile 0 := ⟨z_mj6 (i := 182) rfl (by decide +kernel), rfl, ⟨by decide +kernel, by decide +kernel, by decide +kernel⟩, ⟨by decide, by decide⟩, z_mj1 (i := 35) rfl (by decide +kernel), rfl⟩
theorem d_Ip_weld_10 : decode prog_1_method_44_code 10 = .ok (.ifCond .ne 12, 3) := zo_154 (d := 0) (e := 12) (zd_b zq_prog_1_method_44_code_0 10 rfl rfl rfl) (zd_b zq_prog_1_method_44_code_0 11 rfl rfl rfl) (zd_b zq_prog_1_method_44_code_0 12 rfl rfl rfl) (by decide +kernel)
theorem d_Ip_weld_13 : decode prog_1_method_44_code 13 = .ok (.aload_n 2, 1) := zo_44 (zd_b zq_prog_1_method_44_code_0 13 rfl rfl rfl)
theorem d_Ip_weld_14 : decode prog_1_method_44_code 14 = .ok (.bipush 32, 2) := zo_16 (d := 32) (zd_b zq_prog_1_method_44_code_0 14 rfl rfl rfl) (zd_b zq_prog_1_method_44_code_0 15 rfl rfl rfl) (by decide +kernel)
theorem d_Ip_weld_16 : decode prog_1_method_44_code 16 = .ok (.invokevirtual 456, 3) := zo_182 (d := 1) (e := 200) (zd_b zq_prog_1_method_44_code_0 16 rfl rfl rfl) (zd_b zq_prog_1_method_44_code_0 17 rfl rfl rfl) (zd_b zq_prog_1_method_44_code_0 18 rfl rfl rfl)
theorem ok_Ip_weld_Ca_hasFault : z_ok M_Ip_weld M_Ca_hasFault 1 := ⟨z_mj7 (i := 5) rfl (by decide +kernel), rfl, ⟨by decide +kernel, by decide +kernel, by decide +kernel⟩, ⟨by decide, by decide⟩, z_mj1 (i := 35) rfl (by decide +kernel), rfl⟩
theorem d_Ip_weld_19 : decode prog_1_method_44_code 19 = .ok (.ifCond .eq 14, 3) := zo_153 (d := 0) (e := 14) (zd_b zq_prog_1_method_44_code_0 19 rfl rfl rfl) (zd_b zq_prog_1_method_44_code_0 20 rfl rfl rfl) (zd_b zq_prog_1_method_44_code_0 21 rfl rfl rfl) (by decide +kernel)
theorem d_Ip_weld_33 : decode prog_1_method_44_code 33 = .ok (.aload_n 2, 1) := zo_44 (zd_b zq_prog_1_method_44_code_1 1 rfl rfl rfl)
theorem d_Ip_weld_34 : decode prog_1_method_44_code 34 = .ok (.invokestatic 462, 3) := zo_184 (d := 1) (e := 206) (zd_b zq_prog_1_method_44_code_1 2 rfl rfl rfl) (zd_b zq_prog_1_method_44_code_1 3 rfl rfl rfl) (zd_b zq_prog_1_method_44_code_1 4 rfl rfl rfl)
theorem ok_Ip_weld_Ip_checkStands : z_ok M_Ip_weld M_Ip_checkStands 1 := ⟨z_mj7 (i := 9) rfl (by decide +kernel), rfl, ⟨by decide +kernel, by decide +kernel, by decide +kernel⟩, ⟨by decide, by decide⟩, z_mj1 (i := 1) rfl (by decide +kernel), rfl⟩
theorem ln_Ip_462 : Cond.methodLink "Ironpour" 462 M_Ip_checkStands.1 ∈ z_gw := z_mj7 (i := 7) rfl (by decide +kernel)
theorem w_st_Ip_checkStands : Cond.static M_Ip_checkStands.1 ∈ z_gw := z_mj7 (i := 8) rfl (by decide +kernel)
theorem d_Ip_weld_37 : decode prog_1_method_44_code 37 = .ok (.aload_n 2, 1) := zo_44 (zd_b zq_prog_1_method_44_code_1 5 rfl rfl rfl)
theorem d_Ip_weld_38 : decode prog_1_method_44_code 38 = .ok (.iconst 4, 1) := zo_7 (zd_b zq_prog_1_method_44_code_1 6 rfl rfl rfl)
theorem d_Ip_weld_39 : decode prog_1_method_44_code 39 = .ok (.invokevirtual 456, 3) := zo_182 (d := 1) (e := 200) (zd_b zq_prog_1_method_44_code_1 7 rfl rfl rfl) (zd_b zq_prog_1_method_44_code_1 8 rfl rfl rfl) (zd_b zq_prog_1_method_44_code_1 9 rfl rfl rfl)
theorem d_Ip_weld_42 : decode prog_1_method_44_code 42 = .ok (.istore_n 3, 1) := zo_62 (zd_b zq_prog_1_method_44_code_1 10 rfl rfl rfl)
theorem d_Ip_weld_43 : decode prog_1_method_44_code 43 = .ok (.aload_n 2, 1) := zo_44 (zd_b zq_prog_1_method_44_code_1 11 rfl rfl rfl)
theorem d_Ip_weld_44 : decode prog_1_method_44_code 44 = .ok (.dup, 1) := zo_89 (zd_b zq_prog_1_method_44_code_1 12 rfl rfl rfl)
theorem d_Ip_weld_45 : decode prog_1_method_44_code 45 = .ok (.getfield 445, 3) := zo_180 (d := 1) (e := 189) (zd_b zq_prog_1_method_44_code_1 13 rfl rfl rfl) (zd_b zq_prog_1_method_44_code_1 14 rfl rfl rfl) (zd_b zq_prog_1_method_44_code_1 15 rfl rfl rfl)
theorem d_Ip_weld_48 : decode prog_1_method_44_code 48 = .ok (.bipush (-5), 2) := zo_16 (d := 251) (zd_b zq_prog_1_method_44_code_1 16 rfl rfl rfl) (zd_b zq_prog_1_method_44_code_1 17 rfl rfl rfl) (by decide +kernel)
theorem d_Ip_weld_50 : decode prog_1_method_44_code 50 = .ok (.iand, 1) := zo_126 (zd_b zq_prog_1_method_44_code_1 18 rfl rfl rfl)
theorem d_Ip_weld_51 : decode prog_1_method_44_code 51 = .ok (.putfield 445, 3) := zo_181 (d := 1) (e := 189) (zd_b zq_prog_1_method_44_code_1 19 rfl rfl rfl) (zd_b zq_prog_1_method_44_code_1 20 rfl rfl rfl) (zd_b zq_prog_1_method_44_code_1 21 rfl rfl rfl)
theorem fp_Ip_445 : z_fp "Ironpour" 445 0 3 false .int := ⟨R_Ca, "Ironpour$Casting", F_Ca, 6, t_Ca, rfl, u_Ca, by decide, t_Ca_ok, n_Ca, rfl, rfl, Or.inr ⟨rfl, "Ironpour", z_mk6 (i := 145) rfl (by decide +kernel), rfl⟩⟩
theorem d_Ip_weld_54 : decode prog_1_method_44_code 54 = .ok (.iload_n 3, 1) := zo_29 (zd_b zq_prog_1_method_44_code_1 22 rfl rfl rfl)
theorem d_Ip_weld_55 : decode prog_1_method_44_code 55 = .ok (.ireturn, 1) := zo_172 (zd_b zq_prog_1_method_44_code_1 23 rfl rfl rfl)
set_option maxHeartbeats 4000000 in
set_option maxRecDepth 100000 in
theorem Qx_Ip_weldN {g : zG} {ad : Nat → Nat} {t : zTT} {u : zNN} {w : zW} (hI : IV g ad t u w) (k : Nat) (hk : k < u.1 1) (h1 : (t.2 1 k).1 0 < 20) (h2 : (t.2 1 k).1 2 &&& 32 = 0) (h3 : (t.2 1 k).1 3 = 0) (h4 : (t.2 1 k).1 4 = 0) : zMB g M_Ip_weld [.ref (ad 0), .int (nI k)] w (fun o w1 => o = .inl (some (.int (z_bi (hfB ((t.2 1 k).1 2) 4)))) ∧ IV g ad (t.1, vup t.2 1 k (upd ((t.2 1 k).1) 2 ((t.2 1 k).1 2 &&& (-5)), (t.2 1 k).2)) u w1) 3 18 := by
  obtain ⟨e_a, wf_a, k_a⟩ := hI.1.2 0 (by decide)
  obtain rfl := kd_0.mp k_a
  refine y_of (by decide) rfl (Nat.le_of_ble_eq_true rfl) (y_base (cs := [((ad 0), .inr (11, [.ref (ad 1), .ref (ad 5), .ref (ad 18), .ref (ad 31), .ref (ad 32), .ref (ad 36), .ref (ad 42), .ref (ad 45), .ref (ad 47), .ref (ad 49), .ref (ad 50), .ref (ad 51)]))]) (hI.1.I [0] _ rfl (by decide) (by decide) (List.forall_mem_cons.mpr ⟨wf_a, (fun _ h => nomatch h)⟩)) ?_)
  refine y_lvE (lv2 := [(0, .ref (ad 0)), (1, .int (nI k))]) rfl ?_
  refine y_aload_n d_Ip_weld_0 rfl 0 rfl ?_
  refine y_iload_n d_Ip_weld_1 rfl 1 rfl ?_
  refine yw_callV (As := [.int (nI k)]) (rest := []) (q0 := 0) rfl rfl ln_Ip_436 w_im_Ip_castingAt w_se_Ip_castingAt ok_Ip_weld_Ip_castingAt d_Ip_weld_2 (fun wA hA => Q_castingAtN (hI.gen (t2 := t) (is := [0]) (L2 := []) hA rfl ⟨kd_0.mpr rfl, trivial⟩ (by decide) (by decide) (fun _ h => nomatch h) (fun _ h => nomatch h) (fun _ _ _ => rfl) (fun h => h) rfl) k hk) rfl rfl (Nat.le_of_ble_eq_true rfl) (by omega) (by omega) (fun wA2 hA2 E wB2 hx => ?_) (fun wA2 hA2 v wB2 hx => ?_)
  · exact absurd hx.1 (by simp)
  · obtain ⟨e1, e2⟩ := hx
    cases e1
    refine yw_st (st2 := [.ref (u.2.2 1 k)]) rfl ?_
    subst e2
    refine y_go hA2 ?_
    refine y_end (fun wC1 hC1 => ?_)
    have hI9 := (hI.gen (t2 := t) (is := [0]) (L2 := []) hC1 rfl ⟨kd_0.mpr rfl, trivial⟩ (by decide) (by decide) (fun _ h => nomatch h) (fun _ h => nomatch h) (fun _ _ _ => rfl) (fun h => h) rfl)
    have hI := hI9
    obtain ⟨nf_c, me_c, gr_c, hw_c, nfm_c, hwm_c, nfg_c, hwg_c⟩ := hI.2.1.2.1 1 (by decide) k hk
    refine y_base (cs := [((ad 0), .inr (11, [.ref (ad 1), .ref (ad 5), .ref (ad 18), .ref (ad 31), .ref (ad 32), .ref (ad 36), .ref (ad 42), .ref (ad 45), .ref (ad 47), .ref (ad 49), .ref (ad 50), .ref (ad 51)])), ((u.2.2 1 k), .inr (0, [.ref me_c, .int ((t.2 1 k).1 0), .int ((t.2 1 k).1 1), .int ((t.2 1 k).1 2), .int ((t.2 1 k).1 3), .int ((t.2 1 k).1 4)])), (me_c, .inr (6, [.ref gr_c, .int ((t.2 1 k).1 5)])), (gr_c, .inl (3, 4, .inr (.inl ((t.2 1 k).2.2.1))))]) (z_I.kd (List.forall_mem_cons.mpr ⟨hC1.at (q0 := 0) rfl, (List.forall_mem_cons.mpr ⟨hw_c, (List.forall_mem_cons.mpr ⟨hwm_c, (List.forall_mem_cons.mpr ⟨hwg_c, (fun _ h => nomatch h)⟩)⟩)⟩)⟩) (by simp [z_kd])) ?_
    refine y_astore_n (lv' := [(2, .ref (u.2.2 1 k)), (0, .ref (ad 0)), (1, .int (nI k))]) d_Ip_weld_5 rfl (by decide) rfl ?_
    refine y_aload_n d_Ip_weld_6 rfl 0 rfl ?_
    refine y_callV (As := []) (rest := []) (csC := [((u.2.2 1 k), .inr (0, [.ref me_c, .int ((t.2 1 k).1 0), .int ((t.2 1 k).1 1), .int ((t.2 1 k).1 2), .int ((t.2 1 k).1 3), .int ((t.2 1 k).1 4)])), (me_c, .inr (6, [.ref gr_c, .int ((t.2 1 k).1 5)])), (gr_c, .inl (3, 4, .inr (.inl ((t.2 1 k).2.2.1))))]) (is := [1, 2, 3]) (q0 := 1) rfl rfl ln_Ip_440 w_im_Ca_isDuctile w_se_Ca_isDuctile ok_Ip_weld_Ca_isDuctile d_Ip_weld_7 (C_Ca_isDuctile g (u.2.2 1 k) me_c gr_c ((t.2 1 k).2.2.1) ((t.2 1 k).1 5) ((t.2 1 k).1 0) ((t.2 1 k).1 1) ((t.2 1 k).1 2) ((t.2 1 k).1 3) ((t.2 1 k).1 4)) rfl rfl (Nat.le_of_ble_eq_true rfl) rfl (by decide) (by omega) (by omega) (fun E cs1 hx => ?_) (fun v cs1 hx => ?_)
    · exact absurd hx.1 (by simp)
    · obtain ⟨e1, rfl⟩ := hx
      cases e1
      refine ⟨rfl, ?_⟩
      refine y_st (st2 := [.int (if ((t.2 1 k).1 0) < 20 then 0 else 1)]) rfl ?_
      refine y_cs (cs2 := [((ad 0), .inr (11, [.ref (ad 1), .ref (ad 5), .ref (ad 18), .ref (ad 31), .ref (ad 32), .ref (ad 36), .ref (ad 42), .ref (ad 45), .ref (ad 47), .ref (ad 49), .ref (ad 50), .ref (ad 51)])), ((u.2.2 1 k), .inr (0, [.ref me_c, .int ((t.2 1 k).1 0), .int ((t.2 1 k).1 1), .int ((t.2 1 k).1 2), .int ((t.2 1 k).1 3), .int ((t.2 1 k).1 4)])), (me_c, .inr (6, [.ref gr_c, .int ((t.2 1 k).1 5)])), (gr_c, .inl (3, 4, .inr (.inl ((t.2 1 k).2.2.1))))]) rfl ?_
      refine y_if_ne (tgt := 22) d_Ip_weld_10 (by decide) (fun c_10 => ?_) (fun c_10 => ?_)
      · exact absurd h1 (du_1 c_10)
      · refine y_aload_n d_Ip_weld_13 rfl 0 rfl ?_
        refine y_bipush d_Ip_weld_14 (v := 32) (by decide) ?_
        refine y_callV (As := [.int 32]) (rest := []) (csC := [((u.2.2 1 k), .inr (0, [.ref me_c, .int ((t.2 1 k).1 0), .int ((t.2 1 k).1 1), .int ((t.2 1 k).1 2), .int ((t.2 1 k).1 3), .int ((t.2 1 k).1 4)])), (me_c, .inr (6, [.ref gr_c, .int ((t.2 1 k).1 5)])), (gr_c, .inl (3, 4, .inr (.inl ((t.2 1 k).2.2.1))))]) (is := [1, 2, 3]) (q0 := 1) rfl rfl ln_Ip_456 w_im_Ca_hasFault w_se_Ca_hasFault ok_Ip_weld_Ca_hasFault d_Ip_weld_16 (C_Ca_hasFault g (u.2.2 1 k) me_c gr_c ((t.2 1 k).2.2.1) ((t.2 1 k).1 5) ((t.2 1 k).1 0) ((t.2 1 k).1 1) ((t.2 1 k).1 2) ((t.2 1 k).1 3) ((t.2 1 k).1 4) 32) rfl rfl (Nat.le_of_ble_eq_true rfl) rfl (by decide) (by omega) (by omega) (fun E cs1 hx => ?_) (fun v cs1 hx => ?_)
        · exact absurd hx.1 (by simp)
        · obtain ⟨e1, rfl⟩ := hx
          cases e1
          refine ⟨rfl, ?_⟩
          refine y_st (st2 := [.int (z_bi (hfB ((t.2 1 k).1 2) 32))]) rfl ?_
          refine y_cs (cs2 := [((ad 0), .inr (11, [.ref (ad 1), .ref (ad 5), .ref (ad 18), .ref (ad 31), .ref (ad 32), .ref (ad 36), .ref (ad 42), .ref (ad 45), .ref (ad 47), .ref (ad 49), .ref (ad 50), .ref (ad 51)])), ((u.2.2 1 k), .inr (0, [.ref me_c, .int ((t.2 1 k).1 0), .int ((t.2 1 k).1 1), .int ((t.2 1 k).1 2), .int ((t.2 1 k).1 3), .int ((t.2 1 k).1 4)])), (me_c, .inr (6, [.ref gr_c, .int ((t.2 1 k).1 5)])), (gr_c, .inl (3, 4, .inr (.inl ((t.2 1 k).2.2.1))))]) rfl ?_
          refine y_if_eq (tgt := 33) d_Ip_weld_19 (by decide) (fun c_19 => ?_) (fun c_19 => ?_)
          · refine y_aload_n d_Ip_weld_33 rfl 0 rfl ?_
            refine y_callS (As := [.ref (u.2.2 1 k)]) (rest := []) (csC := [((u.2.2 1 k), .inr (0, [.ref me_c, .int ((t.2 1 k).1 0), .int ((t.2 1 k).1 1), .int ((t.2 1 k).1 2), .int ((t.2 1 k).1 3), .int ((t.2 1 k).1 4)]))]) (is := [1]) ln_Ip_462 w_st_Ip_checkStands ok_Ip_weld_Ip_checkStands d_Ip_weld_34 (C_Ip_checkStandsN g (u.2.2 1 k) me_c ((t.2 1 k).1 0) ((t.2 1 k).1 1) ((t.2 1 k).1 2) ((t.2 1 k).1 3) ((t.2 1 k).1 4) h3 h4) rfl rfl (Nat.le_of_ble_eq_true rfl) rfl (by decide) (by omega) (by omega) (fun E cs1 hx => ?_) (fun v cs1 hx => ?_)
            · exact absurd hx.1 (by simp)
            · obtain ⟨e1, rfl⟩ := hx
              cases e1
              refine ⟨rfl, ?_⟩
              refine y_st (st2 := []) rfl ?_
              refine y_cs (cs2 := [((ad 0), .inr (11, [.ref (ad 1), .ref (ad 5), .ref (ad 18), .ref (ad 31), .ref (ad 32), .ref (ad 36), .ref (ad 42), .ref (ad 45), .ref (ad 47), .ref (ad 49), .ref (ad 50), .ref (ad 51)])), ((u.2.2 1 k), .inr (0, [.ref me_c, .int ((t.2 1 k).1 0), .int ((t.2 1 k).1 1), .int ((t.2 1 k).1 2), .int ((t.2 1 k).1 3), .int ((t.2 1 k).1 4)])), (me_c, .inr (6, [.ref gr_c, .int ((t.2 1 k).1 5)])), (gr_c, .inl (3, 4, .inr (.inl ((t.2 1 k).2.2.1))))]) rfl ?_
              refine y_aload_n d_Ip_weld_37 rfl 0 rfl ?_
              refine y_iconst d_Ip_weld_38 (v := 4) (by decide) ?_
              refine y_callV (As := [.int 4]) (rest := []) (csC := [((u.2.2 1 k), .inr (0, [.ref me_c, .int ((t.2 1 k).1 0), .int ((t.2 1 k).1 1), .int ((t.2 1 k).1 2), .int ((t.2 1 k).1 3), .int ((t.2 1 k).1 4)])), (me_c, .inr (6, [.ref gr_c, .int ((t.2 1 k).1 5)])), (gr_c, .inl (3, 4, .inr (.inl ((t.2 1 k).2.2.1))))]) (is := [1, 2, 3]) (q0 := 1) rfl rfl ln_Ip_456 w_im_Ca_hasFault w_se_Ca_hasFault ok_Ip_weld_Ca_hasFault d_Ip_weld_39 (C_Ca_hasFault g (u.2.2 1 k) me_c gr_c ((t.2 1 k).2.2.1) ((t.2 1 k).1 5) ((t.2 1 k).1 0) ((t.2 1 k).1 1) ((t.2 1 k).1 2) ((t.2 1 k).1 3) ((t.2 1 k).1 4) 4) rfl rfl (Nat.le_of_ble_eq_true rfl) rfl (by decide) (by omega) (by omega) (fun E cs1 hx => ?_) (fun v cs1 hx => ?_)
              · exact absurd hx.1 (by simp)
              · obtain ⟨e1, rfl⟩ := hx
                cases e1
                refine ⟨rfl, ?_⟩
                refine y_st (st2 := [.int (z_bi (hfB ((t.2 1 k).1 2) 4))]) rfl ?_
                refine y_cs (cs2 := [((ad 0), .inr (11, [.ref (ad 1), .ref (ad 5), .ref (ad 18), .ref (ad 31), .ref (ad 32), .ref (ad 36), .ref (ad 42), .ref (ad 45), .ref (ad 47), .ref (ad 49), .ref (ad 50), .ref (ad 51)])), ((u.2.2 1 k), .inr (0, [.ref me_c, .int ((t.2 1 k).1 0), .int ((t.2 1 k).1 1), .int ((t.2 1 k).1 2), .int ((t.2 1 k).1 3), .int ((t.2 1 k).1 4)])), (me_c, .inr (6, [.ref gr_c, .int ((t.2 1 k).1 5)])), (gr_c, .inl (3, 4, .inr (.inl ((t.2 1 k).2.2.1))))]) rfl ?_
                refine y_istore_n (lv' := [(3, .int (z_bi (hfB ((t.2 1 k).1 2) 4))), (2, .ref (u.2.2 1 k)), (0, .ref (ad 0)), (1, .int (nI k))]) d_Ip_weld_42 rfl (by decide) rfl ?_
                refine y_aload_n d_Ip_weld_43 rfl 1 rfl ?_
                refine y_dup d_Ip_weld_44 rfl ?_
                refine y_get fs_Ip_445 d_Ip_weld_45 (q0 := 1) rfl rfl ?_
                refine y_bipush d_Ip_weld_48 (v := (-5)) (by decide) ?_
                refine y_iand d_Ip_weld_50 (v := ((t.2 1 k).1 2) &&& (-5)) rfl ?_
                refine y_put fp_Ip_445 d_Ip_weld_51 (fun h => nomatch h) rfl rfl (q0 := 1) rfl (Nat.le_of_ble_eq_true rfl) (cs' := [((ad 0), .inr (11, [.ref (ad 1), .ref (ad 5), .ref (ad 18), .ref (ad 31), .ref (ad 32), .ref (ad 36), .ref (ad 42), .ref (ad 45), .ref (ad 47), .ref (ad 49), .ref (ad 50), .ref (ad 51)])), ((u.2.2 1 k), .inr (0, [.ref me_c, .int ((t.2 1 k).1 0), .int ((t.2 1 k).1 1), .int (((t.2 1 k).1 2) &&& (-5)), .int ((t.2 1 k).1 3), .int ((t.2 1 k).1 4)])), (me_c, .inr (6, [.ref gr_c, .int ((t.2 1 k).1 5)])), (gr_c, .inl (3, 4, .inr (.inl ((t.2 1 k).2.2.1))))]) rfl ?_
                refine y_iload_n d_Ip_weld_54 rfl 0 rfl ?_
                refine y_iret d_Ip_weld_55 rfl (z_narB _) ?_
                exact fun w1 h1 => ⟨rfl, (hI.gen1 (M := 1) (j := k) (v2 := (upd ((t.2 1 k).1) 2 (((t.2 1 k).1 2) &&& (-5)), (t.2 1 k).2)) (t2 := (t.1, vup t.2 1 k (upd ((t.2 1 k).1) 2 ((t.2 1 k).1 2 &&& (-5)), (t.2 1 k).2))) (is := [0]) (L2 := [(u.2.2 1 k), me_c, gr_c]) (by decide) hk (Or.inr (Or.inl rfl)) h1 rfl ⟨kd_0.mpr rfl, trivial⟩ (by decide) (by decide) (List.forall_mem_cons.mpr ⟨nf_c, (List.forall_mem_cons.mpr ⟨nfm_c, (List.forall_mem_cons.mpr ⟨nfg_c, (fun _ h => nomatch h)⟩)⟩)⟩) (List.forall_mem_cons.mpr ⟨(Or.inl rfl), (List.forall_mem_cons.mpr ⟨(Or.inr ⟨_, hwm_c, h1.at (q0 := 2) rfl⟩), (List.forall_mem_cons.mpr ⟨(Or.inr ⟨_, hwg_c, h1.at (q0 := 3) rfl⟩), (fun _ h => nomatch h)⟩)⟩)⟩) (fun _ _ _ => rfl) (fun h => h) ⟨nf_c, me_c, gr_c, h1.at (q0 := 1) rfl, nfm_c, h1.at (q0 := 2) rfl, nfg_c, h1.at (q0 := 3) rfl⟩ rfl)⟩
          · exact absurd h2 (hf_1 c_19)
set_option maxHeartbeats 4000000 in
set_option maxRecDepth 100000 in
theorem Qx_Ip_weldS {g : zG} {ad : Nat → Nat} {t : zTT} {u : zNN} {w : zW} (hI : IV g ad t u w) (k : Nat) (hk : k < u.1 1) (h1 : (t.2 1 k).1 0 < 20) (h2 : (t.2 1 k).1 2 &&& 32 = 0) (hE : ¬ ((t.2 1 k).1 3 = 0 ∧ (t.2 1 k).1 4 = 0)) : zMB g M_Ip_weld [.ref (ad 0), .int (nI k)] w (fun o w1 => o = .inr "java/lang/IllegalStateException" ∧ IV g ad t u w1) 3 18 := by
  obtain ⟨e_a, wf_a, k_a⟩ := hI.1.2 0 (by decide)
  obtain rfl := kd_0.mp k_a
  refine y_of (by decide) rfl (Nat.le_of_ble_eq_true rfl) (y_base (cs := [((ad 0), .inr (11, [.ref (ad 1), .ref (ad 5), .ref (ad 18), .ref (ad 31), .ref (ad 32), .ref (ad 36), .ref (ad 42), .ref (ad 45), .ref (ad 47), .ref (ad 49), .ref (ad 50), .ref (ad 51)]))]) (hI.1.I [0] _ rfl (by decide) (by decide) (List.forall_mem_cons.mpr ⟨wf_a, (fun _ h => nomatch h)⟩)) ?_)
  refine y_lvE (lv2 := [(0, .ref (ad 0)), (1, .int (nI k))]) rfl ?_
  refine y_aload_n d_Ip_weld_0 rfl 0 rfl ?_
  refine y_iload_n d_Ip_weld_1 rfl 1 rfl ?_
  refine yw_callV (As := [.int (nI k)]) (rest := []) (q0 := 0) rfl rfl ln_Ip_436 w_im_Ip_castingAt w_se_Ip_castingAt ok_Ip_weld_Ip_castingAt d_Ip_weld_2 (fun wA hA => Q_castingAtN (hI.gen (t2 := t) (is := [0]) (L2 := []) hA rfl ⟨kd_0.mpr rfl, trivial⟩ (by decide) (by decide) (fun _ h => nomatch h) (fun _ h => nomatch h) (fun _ _ _ => rfl) (fun h => h) rfl) k hk) rfl rfl (Nat.le_of_ble_eq_true rfl) (by omega) (by omega) (fun wA2 hA2 E wB2 hx => ?_) (fun wA2 hA2 v wB2 hx => ?_)
  · exact absurd hx.1 (by simp)
  · obtain ⟨e1, e2⟩ := hx
    cases e1
    refine yw_st (st2 := [.ref (u.2.2 1 k)]) rfl ?_
    subst e2
    refine y_go hA2 ?_
    refine y_end (fun wC1 hC1 => ?_)
    have hI9 := (hI.gen (t2 := t) (is := [0]) (L2 := []) hC1 rfl ⟨kd_0.mpr rfl, trivial⟩ (by decide) (by decide) (fun _ h => nomatch h) (fun _ h => nomatch h) (fun _ _ _ => rfl) (fun h => h) rfl)
    have hI := hI9
    obtain ⟨nf_c, me_c, gr_c, hw_c, nfm_c, hwm_c, nfg_c, hwg_c⟩ := hI.2.1.2.1 1 (by decide) k hk
    refine y_base (cs := [((ad 0), .inr (11, [.ref (ad 1), .ref (ad 5), .ref (ad 18), .ref (ad 31), .ref (ad 32), .ref (ad 36), .ref (ad 42), .ref (ad 45), .ref (ad 47), .ref (ad 49), .ref (ad 50), .ref (ad 51)])), ((u.2.2 1 k), .inr (0, [.ref me_c, .int ((t.2 1 k).1 0), .int ((t.2 1 k).1 1), .int ((t.2 1 k).1 2), .int ((t.2 1 k).1 3), .int ((t.2 1 k).1 4)])), (me_c, .inr (6, [.ref gr_c, .int ((t.2 1 k).1 5)])), (gr_c, .inl (3, 4, .inr (.inl ((t.2 1 k).2.2.1))))]) (z_I.kd (List.forall_mem_cons.mpr ⟨hC1.at (q0 := 0) rfl, (List.forall_mem_cons.mpr ⟨hw_c, (List.forall_mem_cons.mpr ⟨hwm_c, (List.forall_mem_cons.mpr ⟨hwg_c, (fun _ h => nomatch h)⟩)⟩)⟩)⟩) (by simp [z_kd])) ?_
    refine y_astore_n (lv' := [(2, .ref (u.2.2 1 k)), (0, .ref (ad 0)), (1, .int (nI k))]) d_Ip_weld_5 rfl (by decide) rfl ?_
    refine y_aload_n d_Ip_weld_6 rfl 0 rfl ?_
    refine y_callV (As := []) (rest := []) (csC := [((u.2.2 1 k), .inr (0, [.ref me_c, .int ((t.2 1 k).1 0), .int ((t.2 1 k).1 1), .int ((t.2 1 k).1 2), .int ((t.2 1 k).1 3), .int ((t.2 1 k).1 4)])), (me_c, .inr (6, [.ref gr_c, .int ((t.2 1 k).1 5)])), (gr_c, .inl (3, 4, .inr (.inl ((t.2 1 k).2.2.1))))]) (is := [1, 2, 3]) (q0 := 1) rfl rfl ln_Ip_440 w_im_Ca_isDuctile w_se_Ca_isDuctile ok_Ip_weld_Ca_isDuctile d_Ip_weld_7 (C_Ca_isDuctile g (u.2.2 1 k) me_c gr_c ((t.2 1 k).2.2.1) ((t.2 1 k).1 5) ((t.2 1 k).1 0) ((t.2 1 k).1 1) ((t.2 1 k).1 2) ((t.2 1 k).1 3) ((t.2 1 k).1 4)) rfl rfl (Nat.le_of_ble_eq_true rfl) rfl (by decide) (by omega) (by omega) (fun E cs1 hx => ?_) (fun v cs1 hx => ?_)
    · exact absurd hx.1 (by simp)
    · obtain ⟨e1, rfl⟩ := hx
      cases e1
      refine ⟨rfl, ?_⟩
      refine y_st (st2 := [.int (if ((t.2 1 k).1 0) < 20 then 0 else 1)]) rfl ?_
      refine y_cs (cs2 := [((ad 0), .inr (11, [.ref (ad 1), .ref (ad 5), .ref (ad 18), .ref (ad 31), .ref (ad 32), .ref (ad 36), .ref (ad 42), .ref (ad 45), .ref (ad 47), .ref (ad 49), .ref (ad 50), .ref (ad 51)])), ((u.2.2 1 k), .inr (0, [.ref me_c, .int ((t.2 1 k).1 0), .int ((t.2 1 k).1 1), .int ((t.2 1 k).1 2), .int ((t.2 1 k).1 3), .int ((t.2 1 k).1 4)])), (me_c, .inr (6, [.ref gr_c, .int ((t.2 1 k).1 5)])), (gr_c, .inl (3, 4, .inr (.inl ((t.2 1 k).2.2.1))))]) rfl ?_
      refine y_if_ne (tgt := 22) d_Ip_weld_10 (by decide) (fun c_10 => ?_) (fun c_10 => ?_)
      · exact absurd h1 (du_1 c_10)
      · refine y_aload_n d_Ip_weld_13 rfl 0 rfl ?_
        refine y_bipush d_Ip_weld_14 (v := 32) (by decide) ?_
        refine y_callV (As := [.int 32]) (rest := []) (csC := [((u.2.2 1 k), .inr (0, [.ref me_c, .int ((t.2 1 k).1 0), .int ((t.2 1 k).1 1), .int ((t.2 1 k).1 2), .int ((t.2 1 k).1 3), .int ((t.2 1 k).1 4)])), (me_c, .inr (6, [.ref gr_c, .int ((t.2 1 k).1 5)])), (gr_c, .inl (3, 4, .inr (.inl ((t.2 1 k).2.2.1))))]) (is := [1, 2, 3]) (q0 := 1) rfl rfl ln_Ip_456 w_im_Ca_hasFault w_se_Ca_hasFault ok_Ip_weld_Ca_hasFault d_Ip_weld_16 (C_Ca_hasFault g (u.2.2 1 k) me_c gr_c ((t.2 1 k).2.2.1) ((t.2 1 k).1 5) ((t.2 1 k).1 0) ((t.2 1 k).1 1) ((t.2 1 k).1 2) ((t.2 1 k).1 3) ((t.2 1 k).1 4) 32) rfl rfl (Nat.le_of_ble_eq_true rfl) rfl (by decide) (by omega) (by omega) (fun E cs1 hx => ?_) (fun v cs1 hx => ?_)
        · exact absurd hx.1 (by simp)
        · obtain ⟨e1, rfl⟩ := hx
          cases e1
          refine ⟨rfl, ?_⟩
          refine y_st (st2 := [.int (z_bi (hfB ((t.2 1 k).1 2) 32))]) rfl ?_
          refine y_cs (cs2 := [((ad 0), .inr (11, [.ref (ad 1), .ref (ad 5), .ref (ad 18), .ref (ad 31), .ref (ad 32), .ref (ad 36), .ref (ad 42), .ref (ad 45), .ref (ad 47), .ref (ad 49), .ref (ad 50), .ref (ad 51)])), ((u.2.2 1 k), .inr (0, [.ref me_c, .int ((t.2 1 k).1 0), .int ((t.2 1 k).1 1), .int ((t.2 1 k).1 2), .int ((t.2 1 k).1 3), .int ((t.2 1 k).1 4)])), (me_c, .inr (6, [.ref gr_c, .int ((t.2 1 k).1 5)])), (gr_c, .inl (3, 4, .inr (.inl ((t.2 1 k).2.2.1))))]) rfl ?_
          refine y_if_eq (tgt := 33) d_Ip_weld_19 (by decide) (fun c_19 => ?_) (fun c_19 => ?_)
          · refine y_aload_n d_Ip_weld_33 rfl 0 rfl ?_
            refine y_callS (As := [.ref (u.2.2 1 k)]) (rest := []) (csC := [((u.2.2 1 k), .inr (0, [.ref me_c, .int ((t.2 1 k).1 0), .int ((t.2 1 k).1 1), .int ((t.2 1 k).1 2), .int ((t.2 1 k).1 3), .int ((t.2 1 k).1 4)]))]) (is := [1]) ln_Ip_462 w_st_Ip_checkStands ok_Ip_weld_Ip_checkStands d_Ip_weld_34 (C_Ip_checkStandsE g (u.2.2 1 k) me_c ((t.2 1 k).1 0) ((t.2 1 k).1 1) ((t.2 1 k).1 2) ((t.2 1 k).1 3) ((t.2 1 k).1 4) hE) rfl rfl (Nat.le_of_ble_eq_true rfl) rfl (by decide) (by omega) (by omega) (fun E cs1 hx => ?_) (fun v cs1 hx => ?_)
            · obtain ⟨e1, rfl⟩ := hx
              cases e1
              exact ⟨rfl, fun w1 h1 => ⟨rfl, (hI.gen (t2 := t) (is := [0]) (L2 := [(u.2.2 1 k), me_c, gr_c]) h1 rfl ⟨kd_0.mpr rfl, trivial⟩ (by decide) (by decide) (List.forall_mem_cons.mpr ⟨nf_c, (List.forall_mem_cons.mpr ⟨nfm_c, (List.forall_mem_cons.mpr ⟨nfg_c, (fun _ h => nomatch h)⟩)⟩)⟩) (List.forall_mem_cons.mpr ⟨⟨_, hw_c, h1.at (q0 := 1) rfl⟩, (List.forall_mem_cons.mpr ⟨⟨_, hwm_c, h1.at (q0 := 2) rfl⟩, (List.forall_mem_cons.mpr ⟨⟨_, hwg_c, h1.at (q0 := 3) rfl⟩, (fun _ h => nomatch h)⟩)⟩)⟩) (fun _ _ _ => rfl) (fun h => h) rfl)⟩⟩
            · exact absurd hx.1 (by simp)
          · exact absurd h2 (hf_1 c_19)
