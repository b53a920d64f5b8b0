theorem X_shrunkCells (g : zG) (a a1 a2 az az1 az2 az3 az4 az5 az6 a4 a5 a6 : Nat) (X : zTr) : CT g M_Tr_shrunkCells [.ref a] [(a, .inr (10, [.ref a1, .ref a2, .ref az, .ref a4, .ref a5, .ref a6, .int X.1.2.2.1, .int X.1.2.2.2])), (a1, .inl (1, 108, .inl X.1.1)), (a2, .inl (0, 108, .inl X.1.2.1)), (az, .inr (2, [.ref az1, .ref az2, .ref az3, .ref az4, .ref az5, .ref az6, .int X.2.1.1.1.2.2.2])), (az4, .inl (0, 108, .inl X.2.1.1.1.2.2.1)), (a4, .inl (2, 108, .inl X.2.2.1)), (a5, .inl (2, 108, .inl X.2.2.2.1)), (a6, .inl (0, 108, .inl (fun k => nI (X.2.2.2.2 k))))] (fun o cs1 => o = .inl (some (.int (nI (shN X)))) ∧ cs1 = [(a, .inr (10, [.ref a1, .ref a2, .ref az, .ref a4, .ref a5, .ref a6, .int X.1.2.2.1, .int X.1.2.2.2])), (a1, .inl (1, 108, .inl X.1.1)), (a2, .inl (0, 108, .inl X.1.2.1)), (az, .inr (2, [.ref az1, .ref az2, .ref az3, .ref az4, .ref az5, .ref az6, .int X.2.1.1.1.2.2.2])), (az4, .inl (0, 108, .inl X.2.1.1.1.2.2.1)), (a4, .inl (2, 108, .inl X.2.2.1)), (a5, .inl (2, 108, .inl X.2.2.2.1)), (a6, .inl (0, 108, .inl (fun k => nI (X.2.2.2.2 k))))]) 0 0 := C_Tr_shrunkCells g a a1 a2 az az1 az2 az3 az4 az5 az6 a4 a5 a6 X.1.2.2.1 X.1.2.2.2 X.2.1.1.1.2.2.2 X.1.1 X.1.2.1 X.2.1.1.1.2.2.1 X.2.2.1 X.2.2.2.1 X.2.2.2.2
abbrev M_Ip_undercut : zM := (⟨"Ironpour", "undercut", "()I"⟩, prog_1_method_5_code, 1, (Option.some FieldType.int), 4, 90, [])
theorem d_Ip_undercut_0 : decode prog_1_method_5_code 0 = .ok (.aload_n 0, 1) := zo_42 (zd_b zq_prog_1_method_5_code_0 0 rfl rfl rfl)
theorem d_Ip_undercut_1 : decode prog_1_method_5_code 1 = .ok (.getfield 10, 3) := zo_180 (d := 0) (e := 10) (zd_b zq_prog_1_method_5_code_0 1 rfl rfl rfl) (zd_b zq_prog_1_method_5_code_0 2 rfl rfl rfl) (zd_b zq_prog_1_method_5_code_0 3 rfl rfl rfl)
theorem u_Ip : ∀ x ∈ u_ws R_Ip F_Ip 12, x ∈ z_gw := fun x hx => List.mem_filter.mpr ⟨(z_au [(2, 75), (2, 77), (2, 79), (2, 81), (2, 83), (2, 85), (2, 87), (2, 89), (2, 91), (2, 93), (2, 95), (2, 97)] (by decide +kernel) : ∀ x ∈ u_ws R_Ip F_Ip 12, x ∈ lw_tbl) x hx, (show ∀ x ∈ u_ws R_Ip F_Ip 12, goodWord x = true by decide +kernel) x hx⟩
theorem fs_Ip_10 : z_fs "Ironpour" 10 11 0 := ⟨R_Ip, "Ironpour", F_Ip, 12, rfl, u_Ip, by decide, Or.inl ⟨z_mj2 (i := 63) rfl (by decide +kernel), Or.inl rfl⟩⟩
theorem d_Ip_undercut_4 : decode prog_1_method_5_code 4 = .ok (.invokevirtual 124, 3) := zo_182 (d := 0) (e := 124) (zd_b zq_prog_1_method_5_code_0 4 rfl rfl rfl) (zd_b zq_prog_1_method_5_code_0 5 rfl rfl rfl) (zd_b zq_prog_1_method_5_code_0 6 rfl rfl rfl)
theorem ok_Ip_undercut_Pa_undercutCells : z_ok M_Ip_undercut M_Pa_undercutCells 0 := ⟨z_mj2 (i := 107) rfl (by decide +kernel), rfl, ⟨by decide +kernel, by decide +kernel, by decide +kernel⟩, ⟨by decide, by decide⟩, z_mj1 (i := 2) rfl (by decide +kernel), rfl⟩
theorem ln_Ip_124 : Cond.methodLink "Ironpour" 124 M_Pa_undercutCells.1 ∈ z_gw := z_mj2 (i := 104) rfl (by decide +kernel)
theorem d_Ip_undercut_7 : decode prog_1_method_5_code 7 = .ok (.ireturn, 1) := zo_172 (zd_b zq_prog_1_method_5_code_0 7 rfl rfl rfl)
set_option maxHeartbeats 4000000 in
set_option maxRecDepth 100000 in
theorem C_Ip_undercut (g : zG) (a pa ta sa gs co fu la gy du re wm ac : Nat) (pa1 pa2 pa3 : Nat) (f sn : Nat → Int32) (qn : Nat → Nat) (p : Nat) (hp1 : 1 ≤ p) (hp : p < 9) : CT g M_Ip_undercut [.ref a] [(a, .inr (11, [.ref pa, .ref ta, .ref sa, .ref gs, .ref co, .ref fu, .ref la, .ref gy, .ref du, .ref re, .ref wm, .ref ac])), (pa, .inr (8, [.ref pa1, .ref pa2, .ref pa3, .int (nI p)])), (pa1, .inl (1, 108, .inl f)), (pa2, .inl (2, 108, .inl sn)), (pa3, .inl (0, 108, .inl (fun k => nI (qn k))))] (fun o cs1 => o = .inl (some (.int (nI (ucT f p 12)))) ∧ cs1 = [(a, .inr (11, [.ref pa, .ref ta, .ref sa, .ref gs, .ref co, .ref fu, .ref la, .ref gy, .ref du, .ref re, .ref wm, .ref ac])), (pa, .inr (8, [.ref pa1, .ref pa2, .ref pa3, .int (nI p)])), (pa1, .inl (1, 108, .inl f)), (pa2, .inl (2, 108, .inl sn)), (pa3, .inl (0, 108, .inl (fun k => nI (qn k))))]) 0 0 := by
  refine z_of (by decide) rfl (Nat.le_of_ble_eq_true rfl) (fun w0 => ?_)
  refine r_lvE (lv2 := [(0, .ref a)]) rfl ?_
  refine r_aload_n d_Ip_undercut_0 rfl 0 rfl ?_
  refine r_get fs_Ip_10 d_Ip_undercut_1 (q0 := 0) rfl rfl ?_
  refine r_callV (As := []) (rest := []) (csC := [(pa, .inr (8, [.ref pa1, .ref pa2, .ref pa3, .int (nI p)])), (pa1, .inl (1, 108, .inl f)), (pa2, .inl (2, 108, .inl sn)), (pa3, .inl (0, 108, .inl (fun k => nI (qn k))))]) (is := [1, 2, 3, 4]) (q0 := 1) rfl rfl ln_Ip_124 w_im_Pa_undercutCells w_se_Pa_undercutCells ok_Ip_undercut_Pa_undercutCells d_Ip_undercut_4 (C_Pa_undercutCells g pa pa1 pa2 pa3 f sn (fun k => nI (qn k)) p hp1 hp) rfl rfl (Nat.le_of_ble_eq_true rfl) rfl (by decide) (by omega) (by omega) (fun E cs1 hx => ?_) (fun v cs1 hx => ?_)
  · exact absurd hx.1 (by simp)
  · obtain ⟨e1, rfl⟩ := hx
    cases e1
    refine ⟨rfl, ?_⟩
    refine r_st (st2 := [.int (nI (ucT f p 12))]) rfl ?_
    refine r_cs (cs2 := [(a, .inr (11, [.ref pa, .ref ta, .ref sa, .ref gs, .ref co, .ref fu, .ref la, .ref gy, .ref du, .ref re, .ref wm, .ref ac])), (pa, .inr (8, [.ref pa1, .ref pa2, .ref pa3, .int (nI p)])), (pa1, .inl (1, 108, .inl f)), (pa2, .inl (2, 108, .inl sn)), (pa3, .inl (0, 108, .inl (fun k => nI (qn k))))]) rfl ?_
    refine r_iret d_Ip_undercut_7 rfl rfl ?_
    exact ⟨rfl, rfl⟩
abbrev M_Ip_cores : zM := (⟨"Ironpour", "cores", "()I"⟩, prog_1_method_6_code, 1, (Option.some FieldType.int), 5, 111, [])
theorem d_Ip_cores_0 : decode prog_1_method_6_code 0 = .ok (.aload_n 0, 1) := zo_42 (zd_b zq_prog_1_method_6_code_0 0 rfl rfl rfl)
theorem d_Ip_cores_1 : decode prog_1_method_6_code 1 = .ok (.getfield 10, 3) := zo_180 (d := 0) (e := 10) (zd_b zq_prog_1_method_6_code_0 1 rfl rfl rfl) (zd_b zq_prog_1_method_6_code_0 2 rfl rfl rfl) (zd_b zq_prog_1_method_6_code_0 3 rfl rfl rfl)
theorem d_Ip_cores_4 : decode prog_1_method_6_code 4 = .ok (.invokevirtual 128, 3) := zo_182 (d := 0) (e := 128) (zd_b zq_prog_1_method_6_code_0 4 rfl rfl rfl) (zd_b zq_prog_1_method_6_code_0 5 rfl rfl rfl) (zd_b zq_prog_1_method_6_code_0 6 rfl rfl rfl)
theorem ok_Ip_cores_Pa_coreGroups : z_ok M_Ip_cores M_Pa_coreGroups 0 := ⟨z_mj2 (i := 122) rfl (by decide +kernel), rfl, ⟨by decide +kernel, by decide +kernel, by decide +kernel⟩, ⟨by decide, by decide⟩, z_mj1 (i := 2) rfl (by decide +kernel), rfl⟩
theorem ln_Ip_128 : Cond.methodLink "Ironpour" 128 M_Pa_coreGroups.1 ∈ z_gw := z_mj2 (i := 119) rfl (by decide +kernel)
theorem w_im_Pa_coreGroups : Cond.instanceMethod M_Pa_coreGroups.1 ∈ z_gw := z_mj2 (i := 120) rfl (by decide +kernel)
theorem w_se_Pa_coreGroups : Cond.selects M_Pa_coreGroups.1.cls M_Pa_coreGroups.1 M_Pa_coreGroups.1 ∈ z_gw := z_mj2 (i := 121) rfl (by decide +kernel)
theorem d_Ip_cores_7 : decode prog_1_method_6_code 7 = .ok (.ireturn, 1) := zo_172 (zd_b zq_prog_1_method_6_code_0 7 rfl rfl rfl)
set_option maxHeartbeats 4000000 in
set_option maxRecDepth 100000 in
theorem C_Ip_cores (g : zG) (a pa ta sa gs co fu la gy du re wm ac : Nat) (pa1 pa2 pa3 : Nat) (f sn : Nat → Int32) (qn : Nat → Nat) (p : Nat) : CT g M_Ip_cores [.ref a] [(a, .inr (11, [.ref pa, .ref ta, .ref sa, .ref gs, .ref co, .ref fu, .ref la, .ref gy, .ref du, .ref re, .ref wm, .ref ac])), (pa, .inr (8, [.ref pa1, .ref pa2, .ref pa3, .int (nI p)])), (pa1, .inl (1, 108, .inl f)), (pa2, .inl (2, 108, .inl sn)), (pa3, .inl (0, 108, .inl (fun k => nI (qn k))))] (fun o cs1 => o = .inl (some (.int (nI (grS f 109 (fa_fill (fun _ => 0) sn 108, qn, 0) 108).2.2))) ∧ cs1 = [(a, .inr (11, [.ref pa, .ref ta, .ref sa, .ref gs, .ref co, .ref fu, .ref la, .ref gy, .ref du, .ref re, .ref wm, .ref ac])), (pa, .inr (8, [.ref pa1, .ref pa2, .ref pa3, .int (nI p)])), (pa1, .inl (1, 108, .inl f)), (pa2, .inl (2, 108, .inl ((grS f 109 (fa_fill (fun _ => 0) sn 108, qn, 0) 108).1))), (pa3, .inl (0, 108, .inl (fun k => nI ((grS f 109 (fa_fill (fun _ => 0) sn 108, qn, 0) 108).2.1 k))))]) 0 0 := by
  refine z_of (by decide) rfl (Nat.le_of_ble_eq_true rfl) (fun w0 => ?_)
  refine r_lvE (lv2 := [(0, .ref a)]) rfl ?_
  refine r_aload_n d_Ip_cores_0 rfl 0 rfl ?_
  refine r_get fs_Ip_10 d_Ip_cores_1 (q0 := 0) rfl rfl ?_
  refine r_callV (As := []) (rest := []) (csC := [(pa, .inr (8, [.ref pa1, .ref pa2, .ref pa3, .int (nI p)])), (pa1, .inl (1, 108, .inl f)), (pa2, .inl (2, 108, .inl sn)), (pa3, .inl (0, 108, .inl (fun k => nI (qn k))))]) (is := [1, 2, 3, 4]) (q0 := 1) rfl rfl ln_Ip_128 w_im_Pa_coreGroups w_se_Pa_coreGroups ok_Ip_cores_Pa_coreGroups d_Ip_cores_4 (C_Pa_coreGroups g pa pa1 pa2 pa3 f sn qn (nI p)) rfl rfl (Nat.le_of_ble_eq_true rfl) rfl (by decide) (by omega) (by omega) (fun E cs1 hx => ?_) (fun v cs1 hx => ?_)
  · exact absurd hx.1 (by simp)
  · obtain ⟨e1, rfl⟩ := hx
    cases e1
    refine ⟨rfl, ?_⟩
    refine r_st (st2 := [.int (nI (grS f 109 (fa_fill (fun _ => 0) sn 108, qn, 0) 108).2.2)]) rfl ?_
    refine r_cs (cs2 := [(a, .inr (11, [.ref pa, .ref ta, .ref sa, .ref gs, .ref co, .ref fu, .ref la, .ref gy, .ref du, .ref re, .ref wm, .ref ac])), (pa, .inr (8, [.ref pa1, .ref pa2, .ref pa3, .int (nI p)])), (pa1, .inl (1, 108, .inl f)), (pa2, .inl (2, 108, .inl ((grS f 109 (fa_fill (fun _ => 0) sn 108, qn, 0) 108).1))), (pa3, .inl (0, 108, .inl (fun k => nI ((grS f 109 (fa_fill (fun _ => 0) sn 108, qn, 0) 108).2.1 k))))]) rfl ?_
    refine r_iret d_Ip_cores_7 rfl rfl ?_
    exact ⟨rfl, rfl⟩
abbrev M_Ip_loose : zM := (⟨"Ironpour", "loose", "()I"⟩, prog_1_method_7_code, 1, (Option.some FieldType.int), 5, 111, [])
theorem d_Ip_loose_0 : decode prog_1_method_7_code 0 = .ok (.aload_n 0, 1) := zo_42 (zd_b zq_prog_1_method_7_code_0 0 rfl rfl rfl)
theorem d_Ip_loose_1 : decode prog_1_method_7_code 1 = .ok (.getfield 10, 3) := zo_180 (d := 0) (e := 10) (zd_b zq_prog_1_method_7_code_0 1 rfl rfl rfl) (zd_b zq_prog_1_method_7_code_0 2 rfl rfl rfl) (zd_b zq_prog_1_method_7_code_0 3 rfl rfl rfl)
theorem d_Ip_loose_4 : decode prog_1_method_7_code 4 = .ok (.invokevirtual 131, 3) := zo_182 (d := 0) (e := 131) (zd_b zq_prog_1_method_7_code_0 4 rfl rfl rfl) (zd_b zq_prog_1_method_7_code_0 5 rfl rfl rfl) (zd_b zq_prog_1_method_7_code_0 6 rfl rfl rfl)
theorem ok_Ip_loose_Pa_looseGroups : z_ok M_Ip_loose M_Pa_looseGroups 0 := ⟨z_mj2 (i := 141) rfl (by decide +kernel), rfl, ⟨by decide +kernel, by decide +kernel, by decide +kernel⟩, ⟨by decide, by decide⟩, z_mj1 (i := 2) rfl (by decide +kernel), rfl⟩
theorem ln_Ip_131 : Cond.methodLink "Ironpour" 131 M_Pa_looseGroups.1 ∈ z_gw := z_mj2 (i := 138) rfl (by decide +kernel)
theorem d_Ip_loose_7 : decode prog_1_method_7_code 7 = .ok (.ireturn, 1) := zo_172 (zd_b zq_prog_1_method_7_code_0 7 rfl rfl rfl)
set_option maxHeartbeats 4000000 in
set_option maxRecDepth 100000 in
theorem C_Ip_loose (g : zG) (a pa ta sa gs co fu la gy du re wm ac : Nat) (pa1 pa2 pa3 : Nat) (f sn : Nat → Int32) (qn : Nat → Nat) (p : Nat) : CT g M_Ip_loose [.ref a] [(a, .inr (11, [.ref pa, .ref ta, .ref sa, .ref gs, .ref co, .ref fu, .ref la, .ref gy, .ref du, .ref re, .ref wm, .ref ac])), (pa, .inr (8, [.ref pa1, .ref pa2, .ref pa3, .int (nI p)])), (pa1, .inl (1, 108, .inl f)), (pa2, .inl (2, 108, .inl sn)), (pa3, .inl (0, 108, .inl (fun k => nI (qn k))))] (fun o cs1 => o = .inl (some (.int (nI (grS f 2 (fa_fill (fun _ => 0) sn 108, qn, 0) 108).2.2))) ∧ cs1 = [(a, .inr (11, [.ref pa, .ref ta, .ref sa, .ref gs, .ref co, .ref fu, .ref la, .ref gy, .ref du, .ref re, .ref wm, .ref ac])), (pa, .inr (8, [.ref pa1, .ref pa2, .ref pa3, .int (nI p)])), (pa1, .inl (1, 108, .inl f)), (pa2, .inl (2, 108, .inl ((grS f 2 (fa_fill (fun _ => 0) sn 108, qn, 0) 108).1))), (pa3, .inl (0, 108, .inl (fun k => nI ((grS f 2 (fa_fill (fun _ => 0) sn 108, qn, 0) 108).2.1 k))))]) 0 0 := by
  refine z_of (by decide) rfl (Nat.le_of_ble_eq_true rfl) (fun w0 => ?_)
  refine r_lvE (lv2 := [(0, .ref a)]) rfl ?_
  refine r_aload_n d_Ip_loose_0 rfl 0 rfl ?_
  refine r_get fs_Ip_10 d_Ip_loose_1 (q0 := 0) rfl rfl ?_
  refine r_callV (As := []) (rest := []) (csC := [(pa, .inr (8, [.ref pa1, .ref pa2, .ref pa3, .int (nI p)])), (pa1, .inl (1, 108, .inl f)), (pa2, .inl (2, 108, .inl sn)), (pa3, .inl (0, 108, .inl (fun k => nI (qn k))))]) (is := [1, 2, 3, 4]) (q0 := 1) rfl rfl ln_Ip_131 w_im_Pa_looseGroups w_se_Pa_looseGroups ok_Ip_loose_Pa_looseGroups d_Ip_loose_4 (C_Pa_looseGroups g pa pa1 pa2 pa3 f sn qn (nI p)) rfl rfl (Nat.le_of_ble_eq_true rfl) rfl (by decide) (by omega) (by omega) (fun E cs1 hx => ?_) (fun v cs1 hx => ?_)
  · exact absurd hx.1 (by simp)
  · obtain ⟨e1, rfl⟩ := hx
    cases e1
    refine ⟨rfl, ?_⟩
    refine r_st (st2 := [.int (nI (grS f 2 (fa_fill (fun _ => 0) sn 108, qn, 0) 108).2.2)]) rfl ?_
    refine r_cs (cs2 := [(a, .inr (11, [.ref pa, .ref ta, .ref sa, .ref gs, .ref co, .ref fu, .ref la, .ref gy, .ref du, .ref re, .ref wm, .ref ac])), (pa, .inr (8, [.ref pa1, .ref pa2, .ref pa3, .int (nI p)])), (pa1, .inl (1, 108, .inl f)), (pa2, .inl (2, 108, .inl ((grS f 2 (fa_fill (fun _ => 0) sn 108, qn, 0) 108).1))), (pa3, .inl (0, 108, .inl (fun k => nI ((grS f 2 (fa_fill (fun _ => 0) sn 108, qn, 0) 108).2.1 k))))]) rfl ?_
    refine r_iret d_Ip_loose_7 rfl rfl ?_
    exact ⟨rfl, rfl⟩
abbrev M_Ip_weight : zM := (⟨"Ironpour", "weight", "()I"⟩, prog_1_method_8_code, 1, (Option.some FieldType.int), 3, 62, [])
theorem d_Ip_weight_0 : decode prog_1_method_8_code 0 = .ok (.aload_n 0, 1) := zo_42 (zd_b zq_prog_1_method_8_code_0 0 rfl rfl rfl)
theorem d_Ip_weight_1 : decode prog_1_method_8_code 1 = .ok (.getfield 10, 3) := zo_180 (d := 0) (e := 10) (zd_b zq_prog_1_method_8_code_0 1 rfl rfl rfl) (zd_b zq_prog_1_method_8_code_0 2 rfl rfl rfl) (zd_b zq_prog_1_method_8_code_0 3 rfl rfl rfl)
theorem d_Ip_weight_4 : decode prog_1_method_8_code 4 = .ok (.invokevirtual 134, 3) := zo_182 (d := 0) (e := 134) (zd_b zq_prog_1_method_8_code_0 4 rfl rfl rfl) (zd_b zq_prog_1_method_8_code_0 5 rfl rfl rfl) (zd_b zq_prog_1_method_8_code_0 6 rfl rfl rfl)
theorem ok_Ip_weight_Pa_metalCells : z_ok M_Ip_weight M_Pa_metalCells 0 := ⟨z_mj2 (i := 149) rfl (by decide +kernel), rfl, ⟨by decide +kernel, by decide +kernel, by decide +kernel⟩, ⟨by decide, by decide⟩, z_mj1 (i := 2) rfl (by decide +kernel), rfl⟩
theorem ln_Ip_134 : Cond.methodLink "Ironpour" 134 M_Pa_metalCells.1 ∈ z_gw := z_mj2 (i := 146) rfl (by decide +kernel)
theorem d_Ip_weight_7 : decode prog_1_method_8_code 7 = .ok (.invokestatic 137, 3) := zo_184 (d := 0) (e := 137) (zd_b zq_prog_1_method_8_code_0 7 rfl rfl rfl) (zd_b zq_prog_1_method_8_code_0 8 rfl rfl rfl) (zd_b zq_prog_1_method_8_code_0 9 rfl rfl rfl)
theorem ok_Ip_weight_Ip_kilogramsFor : z_ok M_Ip_weight M_Ip_kilogramsFor 1 := ⟨z_mj2 (i := 152) rfl (by decide +kernel), rfl, ⟨by decide +kernel, by decide +kernel, by decide +kernel⟩, ⟨by decide, by decide⟩, z_mj1 (i := 1) rfl (by decide +kernel), rfl⟩
theorem ln_Ip_137 : Cond.methodLink "Ironpour" 137 M_Ip_kilogramsFor.1 ∈ z_gw := z_mj2 (i := 150) rfl (by decide +kernel)
theorem w_st_Ip_kilogramsFor : Cond.static M_Ip_kilogramsFor.1 ∈ z_gw := z_mj2 (i := 151) rfl (by decide +kernel)
theorem d_Ip_weight_10 : decode prog_1_method_8_code 10 = .ok (.ireturn, 1) := zo_172 (zd_b zq_prog_1_method_8_code_0 10 rfl rfl rfl)
set_option maxHeartbeats 4000000 in
set_option maxRecDepth 100000 in
theorem C_Ip_weight (g : zG) (a pa ta sa gs co fu la gy du re wm ac : Nat) (pa1 pa2 pa3 : Nat) (f sn : Nat → Int32) (qn : Nat → Nat) (p : Nat) : CT g M_Ip_weight [.ref a] [(a, .inr (11, [.ref pa, .ref ta, .ref sa, .ref gs, .ref co, .ref fu, .ref la, .ref gy, .ref du, .ref re, .ref wm, .ref ac])), (pa, .inr (8, [.ref pa1, .ref pa2, .ref pa3, .int (nI p)])), (pa1, .inl (1, 108, .inl f)), (pa2, .inl (2, 108, .inl sn)), (pa3, .inl (0, 108, .inl (fun k => nI (qn k))))] (fun o cs1 => o = .inl (some (.int (2 * nI (fa_cnt (fun k => tmB (f k)) 108)))) ∧ cs1 = [(a, .inr (11, [.ref pa, .ref ta, .ref sa, .ref gs, .ref co, .ref fu, .ref la, .ref gy, .ref du, .ref re, .ref wm, .ref ac])), (pa, .inr (8, [.ref pa1, .ref pa2, .ref pa3, .int (nI p)])), (pa1, .inl (1, 108, .inl f)), (pa2, .inl (2, 108, .inl sn)), (pa3, .inl (0, 108, .inl (fun k => nI (qn k))))]) 0 0 := by
  refine z_of (by decide) rfl (Nat.le_of_ble_eq_true rfl) (fun w0 => ?_)
  refine r_lvE (lv2 := [(0, .ref a)]) rfl ?_
  refine r_aload_n d_Ip_weight_0 rfl 0 rfl ?_
  refine r_get fs_Ip_10 d_Ip_weight_1 (q0 := 0) rfl rfl ?_
  refine r_callV (As := []) (rest := []) (csC := [(pa, .inr (8, [.ref pa1, .ref pa2, .ref pa3, .int (nI p)])), (pa1, .inl (1, 108, .inl f)), (pa2, .inl (2, 108, .inl sn)), (pa3, .inl (0, 108, .inl (fun k => nI (qn k))))]) (is := [1, 2, 3, 4]) (q0 := 1) rfl rfl ln_Ip_134 w_im_Pa_metalCells w_se_Pa_metalCells ok_Ip_weight_Pa_metalCells d_Ip_weight_4 (C_Pa_metalCells g pa pa1 pa2 pa3 f sn (fun k => nI (qn k)) (nI p)) rfl rfl (Nat.le_of_ble_eq_true rfl) rfl (by decide) (by omega) (by omega) (fun E cs1 hx => ?_) (fun v cs1 hx => ?_)
  · exact absurd hx.1 (by simp)
  · obtain ⟨e1, rfl⟩ := hx
    cases e1
    refine ⟨rfl, ?_⟩
    refine r_st (st2 := [.int (nI (fa_cnt (fun k => tmB (f k)) 108))]) rfl ?_
    refine r_cs (cs2 := [(a, .inr (11, [.ref pa, .ref ta, .ref sa, .ref gs, .ref co, .ref fu, .ref la, .ref gy, .ref du, .ref re, .ref wm, .ref ac])), (pa, .inr (8, [.ref pa1, .ref pa2, .ref pa3, .int (nI p)])), (pa1, .inl (1, 108, .inl f)), (pa2, .inl (2, 108, .inl sn)), (pa3, .inl (0, 108, .inl (fun k => nI (qn k))))]) rfl ?_
    refine r_callS (As := [.int (nI (fa_cnt (fun k => tmB (f k)) 108))]) (rest := []) (csC := []) (is := []) ln_Ip_137 w_st_Ip_kilogramsFor ok_Ip_weight_Ip_kilogramsFor d_Ip_weight_7 (C_Ip_kilogramsFor g (nI (fa_cnt (fun k => tmB (f k)) 108))) rfl rfl (Nat.le_of_ble_eq_true rfl) rfl (by decide) (by omega) (by omega) (fun E cs1 hx => ?_) (fun v cs1 hx => ?_)
    · exact absurd hx.1 (by simp)
    · obtain ⟨e1, rfl⟩ := hx
      cases e1
      refine ⟨rfl, ?_⟩
      refine r_st (st2 := [.int (2 * nI (fa_cnt (fun k => tmB (f k)) 108))]) rfl ?_
      refine r_cs (cs2 := [(a, .inr (11, [.ref pa, .ref ta, .ref sa, .ref gs, .ref co, .ref fu, .ref la, .ref gy, .ref du, .ref re, .ref wm, .ref ac])), (pa, .inr (8, [.ref pa1, .ref pa2, .ref pa3, .int (nI p)])), (pa1, .inl (1, 108, .inl f)), (pa2, .inl (2, 108, .inl sn)), (pa3, .inl (0, 108, .inl (fun k => nI (qn k))))]) rfl ?_
      refine r_iret d_Ip_weight_10 rfl rfl ?_
      exact ⟨rfl, rfl⟩
abbrev M_Ip_cell : zM := (⟨"Ironpour", "cell", "(II)C"⟩, prog_1_method_3_code, 3, (Option.some FieldType.char), 7, 121, [])
theorem d_Ip_cell_0 : decode prog_1_method_3_code 0 = .ok (.aload_n 0, 1) := zo_42 (zd_b zq_prog_1_method_3_code_0 0 rfl rfl rfl)
theorem d_Ip_cell_1 : decode prog_1_method_3_code 1 = .ok (.getfield 10, 3) := zo_180 (d := 0) (e := 10) (zd_b zq_prog_1_method_3_code_0 1 rfl rfl rfl) (zd_b zq_prog_1_method_3_code_0 2 rfl rfl rfl) (zd_b zq_prog_1_method_3_code_0 3 rfl rfl rfl)
theorem d_Ip_cell_4 : decode prog_1_method_3_code 4 = .ok (.getfield 106, 3) := zo_180 (d := 0) (e := 106) (zd_b zq_prog_1_method_3_code_0 4 rfl rfl rfl) (zd_b zq_prog_1_method_3_code_0 5 rfl rfl rfl) (zd_b zq_prog_1_method_3_code_0 6 rfl rfl rfl)
theorem fs_Ip_106 : z_fs "Ironpour" 106 8 0 := ⟨R_Pa, "Ironpour$Pattern", F_Pa, 4, rfl, u_Pa, by decide, Or.inr ⟨"Ironpour", z_mk1 (i := 54) rfl (by decide +kernel), rfl⟩⟩
theorem d_Ip_cell_7 : decode prog_1_method_3_code 7 = .ok (.iload_n 1, 1) := zo_27 (zd_b zq_prog_1_method_3_code_0 7 rfl rfl rfl)
theorem d_Ip_cell_8 : decode prog_1_method_3_code 8 = .ok (.iload_n 2, 1) := zo_28 (zd_b zq_prog_1_method_3_code_0 8 rfl rfl rfl)
theorem d_Ip_cell_9 : decode prog_1_method_3_code 9 = .ok (.invokestatic 114, 3) := zo_184 (d := 0) (e := 114) (zd_b zq_prog_1_method_3_code_0 9 rfl rfl rfl) (zd_b zq_prog_1_method_3_code_0 10 rfl rfl rfl) (zd_b zq_prog_1_method_3_code_0 11 rfl rfl rfl)
theorem ok_Ip_cell_Ip_cellAt : z_ok M_Ip_cell M_Ip_cellAt 2 := ⟨z_mj4 (i := 22) rfl (by decide +kernel), rfl, ⟨by decide +kernel, by decide +kernel, by decide +kernel⟩, ⟨by decide, by decide⟩, z_mj1 (i := 1) rfl (by decide +kernel), rfl⟩
theorem ln_Ip_114 : Cond.methodLink "Ironpour" 114 M_Ip_cellAt.1 ∈ z_gw := z_mj4 (i := 20) rfl (by decide +kernel)
theorem w_st_Ip_cellAt : Cond.static M_Ip_cellAt.1 ∈ z_gw := z_mj4 (i := 21) rfl (by decide +kernel)
set_option maxHeartbeats 4000000 in
set_option maxRecDepth 100000 in
theorem C_Ip_cellE (g : zG) (a pa ta sa gs co fu la gy du re wm ac : Nat) (pa1 pa2 pa3 : Nat) (f sn : Nat → Int32) (qn : Nat → Nat) (p : Nat) (x y : Int32) (hz : z_cl x y = none) : CT g M_Ip_cell [.ref a, .int x, .int y] [(a, .inr (11, [.ref pa, .ref ta, .ref sa, .ref gs, .ref co, .ref fu, .ref la, .ref gy, .ref du, .ref re, .ref wm, .ref ac])), (pa, .inr (8, [.ref pa1, .ref pa2, .ref pa3, .int (nI p)])), (pa1, .inl (1, 108, .inl f)), (pa2, .inl (2, 108, .inl sn)), (pa3, .inl (0, 108, .inl (fun k => nI (qn k))))] (fun o cs1 => o = .inr "java/lang/IndexOutOfBoundsException" ∧ cs1 = [(a, .inr (11, [.ref pa, .ref ta, .ref sa, .ref gs, .ref co, .ref fu, .ref la, .ref gy, .ref du, .ref re, .ref wm, .ref ac])), (pa, .inr (8, [.ref pa1, .ref pa2, .ref pa3, .int (nI p)])), (pa1, .inl (1, 108, .inl f)), (pa2, .inl (2, 108, .inl sn)), (pa3, .inl (0, 108, .inl (fun k => nI (qn k))))]) 1 6 := by
  refine z_of (by decide) rfl (Nat.le_of_ble_eq_true rfl) (fun w0 => ?_)
  refine r_lvE (lv2 := [(0, .ref a), (1, .int x), (2, .int y)]) rfl ?_
  refine r_aload_n d_Ip_cell_0 rfl 0 rfl ?_
  refine r_get fs_Ip_10 d_Ip_cell_1 (q0 := 0) rfl rfl ?_
  refine r_get fs_Ip_106 d_Ip_cell_4 (q0 := 1) rfl rfl ?_
  refine r_iload_n d_Ip_cell_7 rfl 1 rfl ?_
  refine r_iload_n d_Ip_cell_8 rfl 2 rfl ?_
  refine r_callS (As := [.int x, .int y]) (rest := [.ref pa1]) (csC := []) (is := []) ln_Ip_114 w_st_Ip_cellAt ok_Ip_cell_Ip_cellAt d_Ip_cell_9 (C_Ip_cellAt g x y) rfl rfl (Nat.le_of_ble_eq_true rfl) rfl (by decide) (by omega) (by omega) (fun E cs1 hx => ?_) (fun v cs1 hx => ?_)
  · simp only [hz] at hx
    obtain ⟨e1, rfl⟩ := hx
    cases e1
    exact ⟨rfl, rfl, rfl⟩
  · simp only [hz] at hx
    exact absurd hx.1 (by simp)
theorem d_Ip_cell_12 : decode prog_1_method_3_code 12 = .ok (.caload, 1) := zo_52 (zd_b zq_prog_1_method_3_code_0 12 rfl rfl rfl)
theorem d_Ip_cell_13 : decode prog_1_method_3_code 13 = .ok (.ireturn, 1) := zo_172 (zd_b zq_prog_1_method_3_code_0 13 rfl rfl rfl)
set_option maxHeartbeats 4000000 in
set_option maxRecDepth 100000 in
theorem C_Ip_cellN (g : zG) (a pa ta sa gs co fu la gy du re wm ac : Nat) (pa1 pa2 pa3 : Nat) (f sn : Nat → Int32) (qn : Nat → Nat) (p : Nat) (x y : Int32) (c : Nat) (hz : z_cl x y = some c) (hf : z_ch f) : CT g M_Ip_cell [.ref a, .int x, .int y] [(a, .inr (11, [.ref pa, .ref ta, .ref sa, .ref gs, .ref co, .ref fu, .ref la, .ref gy, .ref du, .ref re, .ref wm, .ref ac])), (pa, .inr (8, [.ref pa1, .ref pa2, .ref pa3, .int (nI p)])), (pa1, .inl (1, 108, .inl f)), (pa2, .inl (2, 108, .inl sn)), (pa3, .inl (0, 108, .inl (fun k => nI (qn k))))] (fun o cs1 => o = .inl (some (.int (f c))) ∧ cs1 = [(a, .inr (11, [.ref pa, .ref ta, .ref sa, .ref gs, .ref co, .ref fu, .ref la, .ref gy, .ref du, .ref re, .ref wm, .ref ac])), (pa, .inr (8, [.ref pa1, .ref pa2, .ref pa3, .int (nI p)])), (pa1, .inl (1, 108, .inl f)), (pa2, .inl (2, 108, .inl sn)), (pa3, .inl (0, 108, .inl (fun k => nI (qn k))))]) 1 6 := by
  refine z_of (by decide) rfl (Nat.le_of_ble_eq_true rfl) (fun w0 => ?_)
  refine r_lvE (lv2 := [(0, .ref a), (1, .int x), (2, .int y)]) rfl ?_
  have hc := z_cl_lt hz
  refine r_aload_n d_Ip_cell_0 rfl 0 rfl ?_
  refine r_get fs_Ip_10 d_Ip_cell_1 (q0 := 0) rfl rfl ?_
  refine r_get fs_Ip_106 d_Ip_cell_4 (q0 := 1) rfl rfl ?_
  refine r_iload_n d_Ip_cell_7 rfl 1 rfl ?_
  refine r_iload_n d_Ip_cell_8 rfl 2 rfl ?_
  refine r_callS (As := [.int x, .int y]) (rest := [.ref pa1]) (csC := []) (is := []) ln_Ip_114 w_st_Ip_cellAt ok_Ip_cell_Ip_cellAt d_Ip_cell_9 (C_Ip_cellAt g x y) rfl rfl (Nat.le_of_ble_eq_true rfl) rfl (by decide) (by omega) (by omega) (fun E cs1 hx => ?_) (fun v cs1 hx => ?_)
  · simp only [hz] at hx
    exact absurd hx.1 (by simp)
  · simp only [hz] at hx
    obtain ⟨e1, rfl⟩ := hx
    cases e1
    refine ⟨rfl, ?_⟩
    refine r_st (st2 := [.int (nI c), .ref pa1]) rfl ?_
    refine r_cs (cs2 := [(a, .inr (11, [.ref pa, .ref ta, .ref sa, .ref gs, .ref co, .ref fu, .ref la, .ref gy, .ref du, .ref re, .ref wm, .ref ac])), (pa, .inr (8, [.ref pa1, .ref pa2, .ref pa3, .int (nI p)])), (pa1, .inl (1, 108, .inl f)), (pa2, .inl (2, 108, .inl sn)), (pa3, .inl (0, 108, .inl (fun k => nI (qn k))))]) rfl ?_
    refine r_cald d_Ip_cell_12 (q0 := 2) rfl (vp_in_nI (by omega) (by omega)) (v := f c) (by rw [nI_clamp (by omega)]) ?_
    refine r_iret d_Ip_cell_13 rfl (congrArg Value.int (z_kind_c (hf c hc))) ?_
    exact ⟨rfl, rfl⟩
abbrev M_Ip_part : zM := (⟨"Ironpour", "part", "(I)I"⟩, prog_1_method_4_code, 3, (Option.some FieldType.int), 6, 100, [])
theorem d_Ip_part_0 : decode prog_1_method_4_code 0 = .ok (.iload_n 1, 1) := zo_27 (zd_b zq_prog_1_method_4_code_0 0 rfl rfl rfl)
theorem d_Ip_part_1 : decode prog_1_method_4_code 1 = .ok (.iconst 1, 1) := zo_4 (zd_b zq_prog_1_method_4_code_0 1 rfl rfl rfl)
theorem d_Ip_part_2 : decode prog_1_method_4_code 2 = .ok (.if_icmp .lt 9, 3) := zo_161 (d := 0) (e := 9) (zd_b zq_prog_1_method_4_code_0 2 rfl rfl rfl) (zd_b zq_prog_1_method_4_code_0 3 rfl rfl rfl) (zd_b zq_prog_1_method_4_code_0 4 rfl rfl rfl) (by decide +kernel)
theorem d_Ip_part_11 : decode prog_1_method_4_code 11 = .ok (.new 89, 3) := zo_187 (d := 0) (e := 89) (zd_b zq_prog_1_method_4_code_0 11 rfl rfl rfl) (zd_b zq_prog_1_method_4_code_0 12 rfl rfl rfl) (zd_b zq_prog_1_method_4_code_0 13 rfl rfl rfl)
theorem sr_Ip_118 : Cond.stringRef "Ironpour" 118 "the parting is above a row from 1 to 8" ∈ lw_tbl := z_tb4 (i := 43) rfl
theorem d_Ip_part_14 : decode prog_1_method_4_code 14 = .ok (.dup, 1) := zo_89 (zd_b zq_prog_1_method_4_code_0 14 rfl rfl rfl)
theorem d_Ip_part_15 : decode prog_1_method_4_code 15 = .ok (.ldc 118, 2) := zo_18 (d := 118) (zd_b zq_prog_1_method_4_code_0 15 rfl rfl rfl) (zd_b zq_prog_1_method_4_code_0 16 rfl rfl rfl)
theorem d_Ip_part_17 : decode prog_1_method_4_code 17 = .ok (.invokespecial 93, 3) := zo_183 (d := 0) (e := 93) (zd_b zq_prog_1_method_4_code_0 17 rfl rfl rfl) (zd_b zq_prog_1_method_4_code_0 18 rfl rfl rfl) (zd_b zq_prog_1_method_4_code_0 19 rfl rfl rfl)
theorem d_Ip_part_20 : decode prog_1_method_4_code 20 = .ok (.athrow, 1) := zo_191 (zd_b zq_prog_1_method_4_code_0 20 rfl rfl rfl)
theorem d_Ip_part_5 : decode prog_1_method_4_code 5 = .ok (.iload_n 1, 1) := zo_27 (zd_b zq_prog_1_method_4_code_0 5 rfl rfl rfl)
theorem d_Ip_part_6 : decode prog_1_method_4_code 6 = .ok (.bipush 9, 2) := zo_16 (d := 9) (zd_b zq_prog_1_method_4_code_0 6 rfl rfl rfl) (zd_b zq_prog_1_method_4_code_0 7 rfl rfl rfl) (by decide +kernel)
theorem d_Ip_part_8 : decode prog_1_method_4_code 8 = .ok (.if_icmp .lt 13, 3) := zo_161 (d := 0) (e := 13) (zd_b zq_prog_1_method_4_code_0 8 rfl rfl rfl) (zd_b zq_prog_1_method_4_code_0 9 rfl rfl rfl) (zd_b zq_prog_1_method_4_code_0 10 rfl rfl rfl) (by decide +kernel)
set_option maxHeartbeats 4000000 in
set_option maxRecDepth 100000 in
theorem C_Ip_partE (g : zG) (a pa ta sa gs co fu la gy du re wm ac : Nat) (pa1 pa2 pa3 : Nat) (f sn : Nat → Int32) (qn : Nat → Nat) (p : Nat) (r : Int32) (hr : r < 1 ∨ 9 ≤ r) : CT g M_Ip_part [.ref a, .int r] [(a, .inr (11, [.ref pa, .ref ta, .ref sa, .ref gs, .ref co, .ref fu, .ref la, .ref gy, .ref du, .ref re, .ref wm, .ref ac])), (pa, .inr (8, [.ref pa1, .ref pa2, .ref pa3, .int (nI p)])), (pa1, .inl (1, 108, .inl f)), (pa2, .inl (2, 108, .inl sn)), (pa3, .inl (0, 108, .inl (fun k => nI (qn k))))] (fun o cs1 => o = .inr "java/lang/IllegalArgumentException" ∧ cs1 = [(a, .inr (11, [.ref pa, .ref ta, .ref sa, .ref gs, .ref co, .ref fu, .ref la, .ref gy, .ref du, .ref re, .ref wm, .ref ac])), (pa, .inr (8, [.ref pa1, .ref pa2, .ref pa3, .int (nI p)])), (pa1, .inl (1, 108, .inl f)), (pa2, .inl (2, 108, .inl sn)), (pa3, .inl (0, 108, .inl (fun k => nI (qn k))))]) 1 6 := by
  refine z_of (by decide) rfl (Nat.le_of_ble_eq_true rfl) (fun w0 => ?_)
  refine r_lvE (lv2 := [(0, .ref a), (1, .int r)]) rfl ?_
  refine r_iload_n d_Ip_part_0 rfl 1 rfl ?_
  refine r_iconst d_Ip_part_1 (v := 1) (by decide) ?_
  refine r_icmp_lt (tgt := 11) d_Ip_part_2 (by decide) (fun c_2 => ?_) (fun c_2 => ?_)
  · refine r_throw tb_Ip_89_93 sr_Ip_118 d_Ip_part_11 d_Ip_part_14 d_Ip_part_15 d_Ip_part_17 d_Ip_part_20 rfl (by decide) (by decide) (Nat.le_of_ble_eq_true rfl) (by omega) (by omega) ?_
    exact ⟨rfl, rfl⟩
  · refine r_iload_n d_Ip_part_5 rfl 1 rfl ?_
    refine r_bipush d_Ip_part_6 (v := 9) (by decide) ?_
    refine r_icmp_lt (tgt := 21) d_Ip_part_8 (by decide) (fun c_8 => ?_) (fun c_8 => ?_)
    · exact absurd hr (fun q => q.elim c_2 (fun e => absurd c_8 (Int32.not_lt.mpr e)))
    · refine r_throw tb_Ip_89_93 sr_Ip_118 d_Ip_part_11 d_Ip_part_14 d_Ip_part_15 d_Ip_part_17 d_Ip_part_20 rfl (by decide) (by decide) (Nat.le_of_ble_eq_true rfl) (by omega) (by omega) ?_
      exact ⟨rfl, rfl⟩
theorem d_Ip_part_21 : decode prog_1_method_4_code 21 = .ok (.aload_n 0, 1) := zo_42 (zd_b zq_prog_1_method_4_code_0 21 rfl rfl rfl)
theorem d_Ip_part_22 : decode prog_1_method_4_code 22 = .ok (.getfield 10, 3) := zo_180 (d := 0) (e := 10) (zd_b zq_prog_1_method_4_code_0 22 rfl rfl rfl) (zd_b zq_prog_1_method_4_code_0 23 rfl rfl rfl) (zd_b zq_prog_1_method_4_code_0 24 rfl rfl rfl)
theorem d_Ip_part_25 : decode prog_1_method_4_code 25 = .ok (.getfield 120, 3) := zo_180 (d := 0) (e := 120) (zd_b zq_prog_1_method_4_code_0 25 rfl rfl rfl) (zd_b zq_prog_1_method_4_code_0 26 rfl rfl rfl) (zd_b zq_prog_1_method_4_code_0 27 rfl rfl rfl)
theorem fs_Ip_120 : z_fs "Ironpour" 120 8 3 := ⟨R_Pa, "Ironpour$Pattern", F_Pa, 4, rfl, u_Pa, by decide, Or.inr ⟨"Ironpour", z_mk1 (i := 58) rfl (by decide +kernel), rfl⟩⟩
theorem d_Ip_part_28 : decode prog_1_method_4_code 28 = .ok (.istore_n 2, 1) := zo_61 (zd_b zq_prog_1_method_4_code_0 28 rfl rfl rfl)
theorem d_Ip_part_29 : decode prog_1_method_4_code 29 = .ok (.aload_n 0, 1) := zo_42 (zd_b zq_prog_1_method_4_code_0 29 rfl rfl rfl)
theorem d_Ip_part_30 : decode prog_1_method_4_code 30 = .ok (.getfield 10, 3) := zo_180 (d := 0) (e := 10) (zd_b zq_prog_1_method_4_code_0 30 rfl rfl rfl) (zd_b zq_prog_1_method_4_code_0 31 rfl rfl rfl) (zd_b zq_prog_1_method_4_code_1 0 rfl rfl rfl)
theorem d_Ip_part_33 : decode prog_1_method_4_code 33 = .ok (.iload_n 1, 1) := zo_27 (zd_b zq_prog_1_method_4_code_1 1 rfl rfl rfl)
theorem d_Ip_part_34 : decode prog_1_method_4_code 34 = .ok (.putfield 120, 3) := zo_181 (d := 0) (e := 120) (zd_b zq_prog_1_method_4_code_1 2 rfl rfl rfl) (zd_b zq_prog_1_method_4_code_1 3 rfl rfl rfl) (zd_b zq_prog_1_method_4_code_1 4 rfl rfl rfl)
theorem fp_Ip_120 : z_fp "Ironpour" 120 8 3 false .int := ⟨R_Pa, "Ironpour$Pattern", F_Pa, 4, t_Pa, rfl, u_Pa, by decide, t_Pa_ok, n_Pa, rfl, rfl, Or.inr ⟨rfl, "Ironpour", z_mk1 (i := 58) rfl (by decide +kernel), rfl⟩⟩
theorem d_Ip_part_37 : decode prog_1_method_4_code 37 = .ok (.iload_n 2, 1) := zo_28 (zd_b zq_prog_1_method_4_code_1 5 rfl rfl rfl)
theorem d_Ip_part_38 : decode prog_1_method_4_code 38 = .ok (.ireturn, 1) := zo_172 (zd_b zq_prog_1_method_4_code_1 6 rfl rfl rfl)
set_option maxHeartbeats 4000000 in
set_option maxRecDepth 100000 in
theorem C_Ip_partN (g : zG) (a pa ta sa gs co fu la gy du re wm ac : Nat) (pa1 pa2 pa3 : Nat) (f sn : Nat → Int32) (qn : Nat → Nat) (p : Nat) (r : Int32) (hr : ¬ (r < 1 ∨ 9 ≤ r)) : CT g M_Ip_part [.ref a, .int r] [(a, .inr (11, [.ref pa, .ref ta, .ref sa, .ref gs, .ref co, .ref fu, .ref la, .ref gy, .ref du, .ref re, .ref wm, .ref ac])), (pa, .inr (8, [.ref pa1, .ref pa2, .ref pa3, .int (nI p)])), (pa1, .inl (1, 108, .inl f)), (pa2, .inl (2, 108, .inl sn)), (pa3, .inl (0, 108, .inl (fun k => nI (qn k))))] (fun o cs1 => o = .inl (some (.int (nI p))) ∧ cs1 = [(a, .inr (11, [.ref pa, .ref ta, .ref sa, .ref gs, .ref co, .ref fu, .ref la, .ref gy, .ref du, .ref re, .ref wm, .ref ac])), (pa, .inr (8, [.ref pa1, .ref pa2, .ref pa3, .int r])), (pa1, .inl (1, 108, .inl f)), (pa2, .inl (2, 108, .inl sn)), (pa3, .inl (0, 108, .inl (fun k => nI (qn k))))]) 1 6 := by
  refine z_of (by decide) rfl (Nat.le_of_ble_eq_true rfl) (fun w0 => ?_)
  refine r_lvE (lv2 := [(0, .ref a), (1, .int r)]) rfl ?_
  refine r_iload_n d_Ip_part_0 rfl 1 rfl ?_
  refine r_iconst d_Ip_part_1 (v := 1) (by decide) ?_
  refine r_icmp_lt (tgt := 11) d_Ip_part_2 (by decide) (fun c_2 => ?_) (fun c_2 => ?_)
  · exact absurd (Or.inl c_2) hr
  · refine r_iload_n d_Ip_part_5 rfl 1 rfl ?_
    refine r_bipush d_Ip_part_6 (v := 9) (by decide) ?_
    refine r_icmp_lt (tgt := 21) d_Ip_part_8 (by decide) (fun c_8 => ?_) (fun c_8 => ?_)
    · refine r_aload_n d_Ip_part_21 rfl 0 rfl ?_
      refine r_get fs_Ip_10 d_Ip_part_22 (q0 := 0) rfl rfl ?_
      refine r_get fs_Ip_120 d_Ip_part_25 (q0 := 1) rfl rfl ?_
      refine r_istore_n (lv' := [(2, .int (nI p)), (0, .ref a), (1, .int r)]) d_Ip_part_28 rfl (by decide) rfl ?_
      refine r_aload_n d_Ip_part_29 rfl 1 rfl ?_
      refine r_get fs_Ip_10 d_Ip_part_30 (q0 := 0) rfl rfl ?_
      refine r_iload_n d_Ip_part_33 rfl 2 rfl ?_
      refine r_put fp_Ip_120 d_Ip_part_34 (fun h => nomatch h) rfl rfl (q0 := 1) rfl (Nat.le_of_ble_eq_true rfl) (cs' := [(a, .inr (11, [.ref pa, .ref ta, .ref sa, .ref gs, .ref co, .ref fu, .ref la, .ref gy, .ref du, .ref re, .ref wm, .ref ac])), (pa, .inr (8, [.ref pa1, .ref pa2, .ref pa3, .int r])), (pa1, .inl (1, 108, .inl f)), (pa2, .inl (2, 108, .inl sn)), (pa3, .inl (0, 108, .inl (fun k => nI (qn k))))]) rfl ?_
      refine r_iload_n d_Ip_part_37 rfl 0 rfl ?_
      refine r_iret d_Ip_part_38 rfl rfl ?_
      exact ⟨rfl, rfl⟩
    · exact absurd (Or.inr (Int32.not_lt.mp c_8)) hr
abbrev M_Ip_speed : zM := (⟨"Ironpour", "speed", "()I"⟩, prog_1_method_10_code, 1, (Option.some FieldType.int), 6, 100, [])
theorem d_Ip_speed_0 : decode prog_1_method_10_code 0 = .ok (.aload_n 0, 1) := zo_42 (zd_b zq_prog_1_method_10_code_0 0 rfl rfl rfl)
theorem d_Ip_speed_1 : decode prog_1_method_10_code 1 = .ok (.getfield 10, 3) := zo_180 (d := 0) (e := 10) (zd_b zq_prog_1_method_10_code_0 1 rfl rfl rfl) (zd_b zq_prog_1_method_10_code_0 2 rfl rfl rfl) (zd_b zq_prog_1_method_10_code_0 3 rfl rfl rfl)
theorem d_Ip_speed_4 : decode prog_1_method_10_code 4 = .ok (.invokevirtual 147, 3) := zo_182 (d := 0) (e := 147) (zd_b zq_prog_1_method_10_code_0 4 rfl rfl rfl) (zd_b zq_prog_1_method_10_code_0 5 rfl rfl rfl) (zd_b zq_prog_1_method_10_code_0 6 rfl rfl rfl)
theorem ok_Ip_speed_Pa_gatesOnTop : z_ok M_Ip_speed M_Pa_gatesOnTop 0 := ⟨z_mj4 (i := 63) rfl (by decide +kernel), rfl, ⟨by decide +kernel, by decide +kernel, by decide +kernel⟩, ⟨by decide, by decide⟩, z_mj1 (i := 2) rfl (by decide +kernel), rfl⟩
theorem ln_Ip_147 : Cond.methodLink "Ironpour" 147 M_Pa_gatesOnTop.1 ∈ z_gw := z_mj4 (i := 60) rfl (by decide +kernel)
theorem d_Ip_speed_7 : decode prog_1_method_10_code 7 = .ok (.ifCond .ne 13, 3) := zo_154 (d := 0) (e := 13) (zd_b zq_prog_1_method_10_code_0 7 rfl rfl rfl) (zd_b zq_prog_1_method_10_code_0 8 rfl rfl rfl) (zd_b zq_prog_1_method_10_code_0 9 rfl rfl rfl) (by decide +kernel)
theorem d_Ip_speed_10 : decode prog_1_method_10_code 10 = .ok (.new 150, 3) := zo_187 (d := 0) (e := 150) (zd_b zq_prog_1_method_10_code_0 10 rfl rfl rfl) (zd_b zq_prog_1_method_10_code_0 11 rfl rfl rfl) (zd_b zq_prog_1_method_10_code_0 12 rfl rfl rfl)
theorem tb_Ip_150_154 : z_tbX "Ironpour" 150 154 "java/util/NoSuchElementException" := ⟨by decide +kernel, z_mj4 (i := 64) rfl (by decide +kernel), z_mj1 (i := 29) rfl (by decide +kernel), fun w h => ((z_at [(1, 21), (3, 163), (3, 172), (3, 180), (3, 183), (3, 185), (3, 164), (3, 165), (1, 44), (1, 45), (3, 166), (3, 171), (3, 181), (3, 201), (3, 153), (3, 202), (3, 155), (3, 203), (3, 157), (3, 167), (3, 169), (3, 159), (3, 197), (3, 198), (3, 200), (3, 159), (4, 75), (4, 76), (4, 77), (3, 191), (3, 145), (3, 191), (3, 192), (3, 193), (3, 194), (3, 147), (3, 194), (3, 195), (3, 196), (3, 197), (3, 149), (4, 74), (4, 65), (4, 66), (4, 67), (3, 179), (4, 68), (4, 69), (4, 70), (4, 71), (3, 162), (3, 161), (4, 72)] (by decide +kernel) (by decide +kernel) : ∀ w ∈ (zx_at "Ironpour" 154 "java/util/NoSuchElementException" 13 zx_rx "java/lang/RuntimeException" ["java/lang/Exception"]).filter vx_no, w ∈ lw_tbl ∧ (goodWord w || z_isN w) = true) w h).elim (fun h1 h2 => (Bool.or_eq_true _ _ ▸ h2).elim (fun h3 => Or.inl (List.mem_filter.mpr ⟨h1, h3⟩)) (fun h3 => Or.inr (List.mem_filter.mpr ⟨h1, h3⟩))), by decide +kernel⟩
theorem sr_Ip_152 : Cond.stringRef "Ironpour" 152 "no gate in the row 0" ∈ lw_tbl := z_tb4 (i := 73) rfl
theorem d_Ip_speed_13 : decode prog_1_method_10_code 13 = .ok (.dup, 1) := zo_89 (zd_b zq_prog_1_method_10_code_0 13 rfl rfl rfl)
theorem d_Ip_speed_14 : decode prog_1_method_10_code 14 = .ok (.ldc 152, 2) := zo_18 (d := 152) (zd_b zq_prog_1_method_10_code_0 14 rfl rfl rfl) (zd_b zq_prog_1_method_10_code_0 15 rfl rfl rfl)
theorem d_Ip_speed_16 : decode prog_1_method_10_code 16 = .ok (.invokespecial 154, 3) := zo_183 (d := 0) (e := 154) (zd_b zq_prog_1_method_10_code_0 16 rfl rfl rfl) (zd_b zq_prog_1_method_10_code_0 17 rfl rfl rfl) (zd_b zq_prog_1_method_10_code_0 18 rfl rfl rfl)
theorem d_Ip_speed_19 : decode prog_1_method_10_code 19 = .ok (.athrow, 1) := zo_191 (zd_b zq_prog_1_method_10_code_0 19 rfl rfl rfl)
set_option maxHeartbeats 4000000 in
set_option maxRecDepth 100000 in
theorem C_Ip_speedE (g : zG) (a pa ta sa gs co fu la gy du re wm ac : Nat) (pa1 pa2 pa3 : Nat) (f sn : Nat → Int32) (qn : Nat → Nat) (p : Nat) (hg : fa_cnt (fun k => decide (f k = 103)) 12 = 0) : CT g M_Ip_speed [.ref a] [(a, .inr (11, [.ref pa, .ref ta, .ref sa, .ref gs, .ref co, .ref fu, .ref la, .ref gy, .ref du, .ref re, .ref wm, .ref ac])), (pa, .inr (8, [.ref pa1, .ref pa2, .ref pa3, .int (nI p)])), (pa1, .inl (1, 108, .inl f)), (pa2, .inl (2, 108, .inl sn)), (pa3, .inl (0, 108, .inl (fun k => nI (qn k))))] (fun o cs1 => o = .inr "java/util/NoSuchElementException" ∧ cs1 = [(a, .inr (11, [.ref pa, .ref ta, .ref sa, .ref gs, .ref co, .ref fu, .ref la, .ref gy, .ref du, .ref re, .ref wm, .ref ac])), (pa, .inr (8, [.ref pa1, .ref pa2, .ref pa3, .int (nI p)])), (pa1, .inl (1, 108, .inl f)), (pa2, .inl (2, 108, .inl sn)), (pa3, .inl (0, 108, .inl (fun k => nI (qn k))))]) 1 6 := by
  refine z_of (by decide) rfl (Nat.le_of_ble_eq_true rfl) (fun w0 => ?_)
  refine r_lvE (lv2 := [(0, .ref a)]) rfl ?_
  refine r_aload_n d_Ip_speed_0 rfl 0 rfl ?_
  refine r_get fs_Ip_10 d_Ip_speed_1 (q0 := 0) rfl rfl ?_
  refine r_callV (As := []) (rest := []) (csC := [(pa, .inr (8, [.ref pa1, .ref pa2, .ref pa3, .int (nI p)])), (pa1, .inl (1, 108, .inl f)), (pa2, .inl (2, 108, .inl sn)), (pa3, .inl (0, 108, .inl (fun k => nI (qn k))))]) (is := [1, 2, 3, 4]) (q0 := 1) rfl rfl ln_Ip_147 w_im_Pa_gatesOnTop w_se_Pa_gatesOnTop ok_Ip_speed_Pa_gatesOnTop d_Ip_speed_4 (C_Pa_gatesOnTop g pa pa1 pa2 pa3 f sn (fun k => nI (qn k)) (nI p)) rfl rfl (Nat.le_of_ble_eq_true rfl) rfl (by decide) (by omega) (by omega) (fun E cs1 hx => ?_) (fun v cs1 hx => ?_)
  · exact absurd hx.1 (by simp)
  · obtain ⟨e1, rfl⟩ := hx
    cases e1
    refine ⟨rfl, ?_⟩
    refine r_st (st2 := [.int (nI (fa_cnt (fun k => decide (f k = 103)) 12))]) rfl ?_
    refine r_cs (cs2 := [(a, .inr (11, [.ref pa, .ref ta, .ref sa, .ref gs, .ref co, .ref fu, .ref la, .ref gy, .ref du, .ref re, .ref wm, .ref ac])), (pa, .inr (8, [.ref pa1, .ref pa2, .ref pa3, .int (nI p)])), (pa1, .inl (1, 108, .inl f)), (pa2, .inl (2, 108, .inl sn)), (pa3, .inl (0, 108, .inl (fun k => nI (qn k))))]) rfl ?_
    refine r_if_ne (tgt := 20) d_Ip_speed_7 (by decide) (fun c_7 => ?_) (fun c_7 => ?_)
    · exact absurd (by rw [hg]; rfl) c_7
    · refine r_throwX tb_Ip_150_154 sr_Ip_152 d_Ip_speed_10 d_Ip_speed_13 d_Ip_speed_14 d_Ip_speed_16 d_Ip_speed_19 rfl (by decide) (by decide) (Nat.le_of_ble_eq_true rfl) (by omega) (by omega) ?_
      exact ⟨rfl, rfl⟩
theorem d_Ip_speed_20 : decode prog_1_method_10_code 20 = .ok (.aload_n 0, 1) := zo_42 (zd_b zq_prog_1_method_10_code_0 20 rfl rfl rfl)
theorem d_Ip_speed_21 : decode prog_1_method_10_code 21 = .ok (.getfield 10, 3) := zo_180 (d := 0) (e := 10) (zd_b zq_prog_1_method_10_code_0 21 rfl rfl rfl) (zd_b zq_prog_1_method_10_code_0 22 rfl rfl rfl) (zd_b zq_prog_1_method_10_code_0 23 rfl rfl rfl)
theorem d_Ip_speed_24 : decode prog_1_method_10_code 24 = .ok (.invokevirtual 155, 3) := zo_182 (d := 0) (e := 155) (zd_b zq_prog_1_method_10_code_0 24 rfl rfl rfl) (zd_b zq_prog_1_method_10_code_0 25 rfl rfl rfl) (zd_b zq_prog_1_method_10_code_0 26 rfl rfl rfl)
theorem ok_Ip_speed_Pa_runningSpeed : z_ok M_Ip_speed M_Pa_runningSpeed 0 := ⟨z_mj4 (i := 83) rfl (by decide +kernel), rfl, ⟨by decide +kernel, by decide +kernel, by decide +kernel⟩, ⟨by decide, by decide⟩, z_mj1 (i := 2) rfl (by decide +kernel), rfl⟩
theorem ln_Ip_155 : Cond.methodLink "Ironpour" 155 M_Pa_runningSpeed.1 ∈ z_gw := z_mj4 (i := 80) rfl (by decide +kernel)
theorem d_Ip_speed_27 : decode prog_1_method_10_code 27 = .ok (.ireturn, 1) := zo_172 (zd_b zq_prog_1_method_10_code_0 27 rfl rfl rfl)
set_option maxHeartbeats 4000000 in
set_option maxRecDepth 100000 in
theorem C_Ip_speedN (g : zG) (a pa ta sa gs co fu la gy du re wm ac : Nat) (pa1 pa2 pa3 : Nat) (f sn : Nat → Int32) (qn : Nat → Nat) (p : Nat) (hg : ¬ fa_cnt (fun k => decide (f k = 103)) 12 = 0) : CT g M_Ip_speed [.ref a] [(a, .inr (11, [.ref pa, .ref ta, .ref sa, .ref gs, .ref co, .ref fu, .ref la, .ref gy, .ref du, .ref re, .ref wm, .ref ac])), (pa, .inr (8, [.ref pa1, .ref pa2, .ref pa3, .int (nI p)])), (pa1, .inl (1, 108, .inl f)), (pa2, .inl (2, 108, .inl sn)), (pa3, .inl (0, 108, .inl (fun k => nI (qn k))))] (fun o cs1 => o = .inl (some (.int (rsR f))) ∧ cs1 = [(a, .inr (11, [.ref pa, .ref ta, .ref sa, .ref gs, .ref co, .ref fu, .ref la, .ref gy, .ref du, .ref re, .ref wm, .ref ac])), (pa, .inr (8, [.ref pa1, .ref pa2, .ref pa3, .int (nI p)])), (pa1, .inl (1, 108, .inl f)), (pa2, .inl (2, 108, .inl sn)), (pa3, .inl (0, 108, .inl (fun k => nI (qn k))))]) 1 6 := by
  refine z_of (by decide) rfl (Nat.le_of_ble_eq_true rfl) (fun w0 => ?_)
  refine r_lvE (lv2 := [(0, .ref a)]) rfl ?_
  refine r_aload_n d_Ip_speed_0 rfl 0 rfl ?_
  refine r_get fs_Ip_10 d_Ip_speed_1 (q0 := 0) rfl rfl ?_
  refine r_callV (As := []) (rest := []) (csC := [(pa, .inr (8, [.ref pa1, .ref pa2, .ref pa3, .int (nI p)])), (pa1, .inl (1, 108, .inl f)), (pa2, .inl (2, 108, .inl sn)), (pa3, .inl (0, 108, .inl (fun k => nI (qn k))))]) (is := [1, 2, 3, 4]) (q0 := 1) rfl rfl ln_Ip_147 w_im_Pa_gatesOnTop w_se_Pa_gatesOnTop ok_Ip_speed_Pa_gatesOnTop d_Ip_speed_4 (C_Pa_gatesOnTop g pa pa1 pa2 pa3 f sn (fun k => nI (qn k)) (nI p)) rfl rfl (Nat.le_of_ble_eq_true rfl) rfl (by decide) (by omega) (by omega) (fun E cs1 hx => ?_) (fun v cs1 hx => ?_)
  · exact absurd hx.1 (by simp)
  · obtain ⟨e1, rfl⟩ := hx
    cases e1
    refine ⟨rfl, ?_⟩
    refine r_st (st2 := [.int (nI (fa_cnt (fun k => decide (f k = 103)) 12))]) rfl ?_
    refine r_cs (cs2 := [(a, .inr (11, [.ref pa, .ref ta, .ref sa, .ref gs, .ref co, .ref fu, .ref la, .ref gy, .ref du, .ref re, .ref wm, .ref ac])), (pa, .inr (8, [.ref pa1, .ref pa2, .ref pa3, .int (nI p)])), (pa1, .inl (1, 108, .inl f)), (pa2, .inl (2, 108, .inl sn)), (pa3, .inl (0, 108, .inl (fun k => nI (qn k))))]) rfl ?_
    refine r_if_ne (tgt := 20) d_Ip_speed_7 (by decide) (fun c_7 => ?_) (fun c_7 => ?_)
    · refine r_aload_n d_Ip_speed_20 rfl 0 rfl ?_
      refine r_get fs_Ip_10 d_Ip_speed_21 (q0 := 0) rfl rfl ?_
      refine r_callV (As := []) (rest := []) (csC := [(pa, .inr (8, [.ref pa1, .ref pa2, .ref pa3, .int (nI p)])), (pa1, .inl (1, 108, .inl f)), (pa2, .inl (2, 108, .inl sn)), (pa3, .inl (0, 108, .inl (fun k => nI (qn k))))]) (is := [1, 2, 3, 4]) (q0 := 1) rfl rfl ln_Ip_155 w_im_Pa_runningSpeed w_se_Pa_runningSpeed ok_Ip_speed_Pa_runningSpeed d_Ip_speed_24 (C_Pa_runningSpeed g pa pa1 pa2 pa3 f sn (fun k => nI (qn k)) (nI p)) rfl rfl (Nat.le_of_ble_eq_true rfl) rfl (by decide) (by omega) (by omega) (fun E cs1 hx => ?_) (fun v cs1 hx => ?_)
      · exact absurd hx.1 (by simp)
      · obtain ⟨e1, rfl⟩ := hx
        cases e1
        refine ⟨rfl, ?_⟩
        refine r_st (st2 := [.int (rsR f)]) rfl ?_
        refine r_cs (cs2 := [(a, .inr (11, [.ref pa, .ref ta, .ref sa, .ref gs, .ref co, .ref fu, .ref la, .ref gy, .ref du, .ref re, .ref wm, .ref ac])), (pa, .inr (8, [.ref pa1, .ref pa2, .ref pa3, .int (nI p)])), (pa1, .inl (1, 108, .inl f)), (pa2, .inl (2, 108, .inl sn)), (pa3, .inl (0, 108, .inl (fun k => nI (qn k))))]) rfl ?_
        refine r_iret d_Ip_speed_27 rfl rfl ?_
        exact ⟨rfl, rfl⟩
    · exact absurd (z_eqn (b := 0) (by have := fa_cnt_le (fun k => decide (f k = 103)) 12; omega) (by decide) c_7) hg
abbrev M_Ip_filledIn : zM := (⟨"Ironpour", "filledIn", "(II)I"⟩, prog_1_method_9_code, 4, (Option.some FieldType.int), 7, 121, [])
theorem d_Ip_filledIn_0 : decode prog_1_method_9_code 0 = .ok (.iload_n 1, 1) := zo_27 (zd_b zq_prog_1_method_9_code_0 0 rfl rfl rfl)
theorem d_Ip_filledIn_1 : decode prog_1_method_9_code 1 = .ok (.iload_n 2, 1) := zo_28 (zd_b zq_prog_1_method_9_code_0 1 rfl rfl rfl)
theorem d_Ip_filledIn_2 : decode prog_1_method_9_code 2 = .ok (.invokestatic 114, 3) := zo_184 (d := 0) (e := 114) (zd_b zq_prog_1_method_9_code_0 2 rfl rfl rfl) (zd_b zq_prog_1_method_9_code_0 3 rfl rfl rfl) (zd_b zq_prog_1_method_9_code_0 4 rfl rfl rfl)
theorem ok_Ip_filledIn_Ip_cellAt : z_ok M_Ip_filledIn M_Ip_cellAt 2 := ⟨z_mj4 (i := 22) rfl (by decide +kernel), rfl, ⟨by decide +kernel, by decide +kernel, by decide +kernel⟩, ⟨by decide, by decide⟩, z_mj1 (i := 1) rfl (by decide +kernel), rfl⟩
set_option maxHeartbeats 4000000 in
set_option maxRecDepth 100000 in
theorem C_Ip_filledInE (g : zG) (a pa ta sa gs co fu la gy du re wm ac : Nat) (ta1 ta2 taz taz1 taz2 taz3 taz4 taz5 taz6 ta4 ta5 ta6 : Nat) (X : zTr) (x y : Int32) (hz : z_cl x y = none) : CT g M_Ip_filledIn [.ref a, .int x, .int y] [(a, .inr (11, [.ref pa, .ref ta, .ref sa, .ref gs, .ref co, .ref fu, .ref la, .ref gy, .ref du, .ref re, .ref wm, .ref ac])), (ta, .inr (10, [.ref ta1, .ref ta2, .ref taz, .ref ta4, .ref ta5, .ref ta6, .int X.1.2.2.1, .int X.1.2.2.2])), (ta1, .inl (1, 108, .inl X.1.1)), (ta2, .inl (0, 108, .inl X.1.2.1)), (taz, .inr (2, [.ref taz1, .ref taz2, .ref taz3, .ref taz4, .ref taz5, .ref taz6, .int X.2.1.1.1.2.2.2])), (taz1, .inl (0, 108, .inl X.2.1.1.1.1)), (taz2, .inl (0, 108, .inl X.2.1.1.2)), (taz3, .inl (0, 108, .inl X.2.1.1.1.2.1)), (taz4, .inl (0, 108, .inl X.2.1.1.1.2.2.1)), (taz5, .inl (0, 108, .inl X.2.1.2.1)), (taz6, .inl (0, 108, .inl X.2.1.2.2)), (ta4, .inl (2, 108, .inl X.2.2.1)), (ta5, .inl (2, 108, .inl X.2.2.2.1)), (ta6, .inl (0, 108, .inl (fun k => nI (X.2.2.2.2 k))))] (fun o cs1 => o = .inr "java/lang/IndexOutOfBoundsException" ∧ cs1 = [(a, .inr (11, [.ref pa, .ref ta, .ref sa, .ref gs, .ref co, .ref fu, .ref la, .ref gy, .ref du, .ref re, .ref wm, .ref ac])), (ta, .inr (10, [.ref ta1, .ref ta2, .ref taz, .ref ta4, .ref ta5, .ref ta6, .int X.1.2.2.1, .int X.1.2.2.2])), (ta1, .inl (1, 108, .inl X.1.1)), (ta2, .inl (0, 108, .inl X.1.2.1)), (taz, .inr (2, [.ref taz1, .ref taz2, .ref taz3, .ref taz4, .ref taz5, .ref taz6, .int X.2.1.1.1.2.2.2])), (taz1, .inl (0, 108, .inl X.2.1.1.1.1)), (taz2, .inl (0, 108, .inl X.2.1.1.2)), (taz3, .inl (0, 108, .inl X.2.1.1.1.2.1)), (taz4, .inl (0, 108, .inl X.2.1.1.1.2.2.1)), (taz5, .inl (0, 108, .inl X.2.1.2.1)), (taz6, .inl (0, 108, .inl X.2.1.2.2)), (ta4, .inl (2, 108, .inl X.2.2.1)), (ta5, .inl (2, 108, .inl X.2.2.2.1)), (ta6, .inl (0, 108, .inl (fun k => nI (X.2.2.2.2 k))))]) 1 6 := by
  refine z_of (by decide) rfl (Nat.le_of_ble_eq_true rfl) (fun w0 => ?_)
  refine r_lvE (lv2 := [(0, .ref a), (1, .int x), (2, .int y)]) rfl ?_
  refine r_iload_n d_Ip_filledIn_0 rfl 1 rfl ?_
  refine r_iload_n d_Ip_filledIn_1 rfl 2 rfl ?_
  refine r_callS (As := [.int x, .int y]) (rest := []) (csC := []) (is := []) ln_Ip_114 w_st_Ip_cellAt ok_Ip_filledIn_Ip_cellAt d_Ip_filledIn_2 (C_Ip_cellAt g x y) rfl rfl (Nat.le_of_ble_eq_true rfl) rfl (by decide) (by omega) (by omega) (fun E cs1 hx => ?_) (fun v cs1 hx => ?_)
  · simp only [hz] at hx
    obtain ⟨e1, rfl⟩ := hx
    cases e1
    exact ⟨rfl, rfl, rfl⟩
  · simp only [hz] at hx
    exact absurd hx.1 (by simp)
theorem d_Ip_filledIn_5 : decode prog_1_method_9_code 5 = .ok (.istore_n 3, 1) := zo_62 (zd_b zq_prog_1_method_9_code_0 5 rfl rfl rfl)
theorem d_Ip_filledIn_6 : decode prog_1_method_9_code 6 = .ok (.aload_n 0, 1) := zo_42 (zd_b zq_prog_1_method_9_code_0 6 rfl rfl rfl)
theorem d_Ip_filledIn_7 : decode prog_1_method_9_code 7 = .ok (.getfield 19, 3) := zo_180 (d := 0) (e := 19) (zd_b zq_prog_1_method_9_code_0 7 rfl rfl rfl) (zd_b zq_prog_1_method_9_code_0 8 rfl rfl rfl) (zd_b zq_prog_1_method_9_code_0 9 rfl rfl rfl)
theorem fs_Ip_19 : z_fs "Ironpour" 19 11 1 := ⟨R_Ip, "Ironpour", F_Ip, 12, rfl, u_Ip, by decide, Or.inl ⟨z_mj2 (i := 64) rfl (by decide +kernel), Or.inl rfl⟩⟩
theorem d_Ip_filledIn_10 : decode prog_1_method_9_code 10 = .ok (.invokevirtual 140, 3) := zo_182 (d := 0) (e := 140) (zd_b zq_prog_1_method_9_code_0 10 rfl rfl rfl) (zd_b zq_prog_1_method_9_code_0 11 rfl rfl rfl) (zd_b zq_prog_1_method_9_code_0 12 rfl rfl rfl)
theorem ok_Ip_filledIn_Tr_fill : z_ok M_Ip_filledIn M_Tr_fill 0 := ⟨z_mj2 (i := 212) rfl (by decide +kernel), rfl, ⟨by decide +kernel, by decide +kernel, by decide +kernel⟩, ⟨by decide, by decide⟩, z_mj1 (i := 3) rfl (by decide +kernel), rfl⟩
theorem ln_Ip_140 : Cond.methodLink "Ironpour" 140 M_Tr_fill.1 ∈ z_gw := z_mj4 (i := 51) rfl (by decide +kernel)
theorem d_Ip_filledIn_13 : decode prog_1_method_9_code 13 = .ok (.aload_n 0, 1) := zo_42 (zd_b zq_prog_1_method_9_code_0 13 rfl rfl rfl)
theorem d_Ip_filledIn_14 : decode prog_1_method_9_code 14 = .ok (.getfield 19, 3) := zo_180 (d := 0) (e := 19) (zd_b zq_prog_1_method_9_code_0 14 rfl rfl rfl) (zd_b zq_prog_1_method_9_code_0 15 rfl rfl rfl) (zd_b zq_prog_1_method_9_code_0 16 rfl rfl rfl)
theorem d_Ip_filledIn_17 : decode prog_1_method_9_code 17 = .ok (.getfield 143, 3) := zo_180 (d := 0) (e := 143) (zd_b zq_prog_1_method_9_code_0 17 rfl rfl rfl) (zd_b zq_prog_1_method_9_code_0 18 rfl rfl rfl) (zd_b zq_prog_1_method_9_code_0 19 rfl rfl rfl)
theorem fs_Ip_143 : z_fs "Ironpour" 143 10 1 := ⟨R_Tr, "Ironpour$Trial", F_Tr, 8, rfl, u_Tr, by decide, Or.inr ⟨"Ironpour", z_mk1 (i := 112) rfl (by decide +kernel), rfl⟩⟩
theorem d_Ip_filledIn_20 : decode prog_1_method_9_code 20 = .ok (.iload_n 3, 1) := zo_29 (zd_b zq_prog_1_method_9_code_0 20 rfl rfl rfl)
theorem d_Ip_filledIn_21 : decode prog_1_method_9_code 21 = .ok (.iaload, 1) := zo_46 (zd_b zq_prog_1_method_9_code_0 21 rfl rfl rfl)
theorem d_Ip_filledIn_22 : decode prog_1_method_9_code 22 = .ok (.ireturn, 1) := zo_172 (zd_b zq_prog_1_method_9_code_0 22 rfl rfl rfl)
set_option maxHeartbeats 4000000 in
set_option maxRecDepth 100000 in
theorem C_Ip_filledInN (g : zG) (a pa ta sa gs co fu la gy du re wm ac : Nat) (ta1 ta2 taz taz1 taz2 taz3 taz4 taz5 taz6 ta4 ta5 ta6 : Nat) (X : zTr) (x y : Int32) (c : Nat) (hz : z_cl x y = some c) : CT g M_Ip_filledIn [.ref a, .int x, .int y] [(a, .inr (11, [.ref pa, .ref ta, .ref sa, .ref gs, .ref co, .ref fu, .ref la, .ref gy, .ref du, .ref re, .ref wm, .ref ac])), (ta, .inr (10, [.ref ta1, .ref ta2, .ref taz, .ref ta4, .ref ta5, .ref ta6, .int X.1.2.2.1, .int X.1.2.2.2])), (ta1, .inl (1, 108, .inl X.1.1)), (ta2, .inl (0, 108, .inl X.1.2.1)), (taz, .inr (2, [.ref taz1, .ref taz2, .ref taz3, .ref taz4, .ref taz5, .ref taz6, .int X.2.1.1.1.2.2.2])), (taz1, .inl (0, 108, .inl X.2.1.1.1.1)), (taz2, .inl (0, 108, .inl X.2.1.1.2)), (taz3, .inl (0, 108, .inl X.2.1.1.1.2.1)), (taz4, .inl (0, 108, .inl X.2.1.1.1.2.2.1)), (taz5, .inl (0, 108, .inl X.2.1.2.1)), (taz6, .inl (0, 108, .inl X.2.1.2.2)), (ta4, .inl (2, 108, .inl X.2.2.1)), (ta5, .inl (2, 108, .inl X.2.2.2.1)), (ta6, .inl (0, 108, .inl (fun k => nI (X.2.2.2.2 k))))] (fun o cs1 => o = .inl (some (.int ((flT X).1.2.1 c))) ∧ cs1 = [(a, .inr (11, [.ref pa, .ref ta, .ref sa, .ref gs, .ref co, .ref fu, .ref la, .ref gy, .ref du, .ref re, .ref wm, .ref ac])), (ta, .inr (10, [.ref ta1, .ref ta2, .ref taz, .ref ta4, .ref ta5, .ref ta6, .int ((flT X).1.2.2.1), .int ((flT X).1.2.2.2)])), (ta1, .inl (1, 108, .inl ((flT X).1.1))), (ta2, .inl (0, 108, .inl ((flT X).1.2.1))), (taz, .inr (2, [.ref taz1, .ref taz2, .ref taz3, .ref taz4, .ref taz5, .ref taz6, .int ((flT X).2.1.1.1.2.2.2)])), (taz1, .inl (0, 108, .inl ((flT X).2.1.1.1.1))), (taz2, .inl (0, 108, .inl ((flT X).2.1.1.2))), (taz3, .inl (0, 108, .inl ((flT X).2.1.1.1.2.1))), (taz4, .inl (0, 108, .inl ((flT X).2.1.1.1.2.2.1))), (taz5, .inl (0, 108, .inl ((flT X).2.1.2.1))), (taz6, .inl (0, 108, .inl ((flT X).2.1.2.2))), (ta4, .inl (2, 108, .inl ((flT X).2.2.1))), (ta5, .inl (2, 108, .inl ((flT X).2.2.2.1))), (ta6, .inl (0, 108, .inl (fun k => nI ((flT X).2.2.2.2 k))))]) 1 6 := by
  refine z_of (by decide) rfl (Nat.le_of_ble_eq_true rfl) (fun w0 => ?_)
  refine r_lvE (lv2 := [(0, .ref a), (1, .int x), (2, .int y)]) rfl ?_
  have hc := z_cl_lt hz
  refine r_iload_n d_Ip_filledIn_0 rfl 1 rfl ?_
  refine r_iload_n d_Ip_filledIn_1 rfl 2 rfl ?_
  refine r_callS (As := [.int x, .int y]) (rest := []) (csC := []) (is := []) ln_Ip_114 w_st_Ip_cellAt ok_Ip_filledIn_Ip_cellAt d_Ip_filledIn_2 (C_Ip_cellAt g x y) rfl rfl (Nat.le_of_ble_eq_true rfl) rfl (by decide) (by omega) (by omega) (fun E cs1 hx => ?_) (fun v cs1 hx => ?_)
  · simp only [hz] at hx
    exact absurd hx.1 (by simp)
  · simp only [hz] at hx
    obtain ⟨e1, rfl⟩ := hx
    cases e1
    refine ⟨rfl, ?_⟩
    refine r_st (st2 := [.int (nI c)]) rfl ?_
    refine r_cs (cs2 := [(a, .inr (11, [.ref pa, .ref ta, .ref sa, .ref gs, .ref co, .ref fu, .ref la, .ref gy, .ref du, .ref re, .ref wm, .ref ac])), (ta, .inr (10, [.ref ta1, .ref ta2, .ref taz, .ref ta4, .ref ta5, .ref ta6, .int X.1.2.2.1, .int X.1.2.2.2])), (ta1, .inl (1, 108, .inl X.1.1)), (ta2, .inl (0, 108, .inl X.1.2.1)), (taz, .inr (2, [.ref taz1, .ref taz2, .ref taz3, .ref taz4, .ref taz5, .ref taz6, .int X.2.1.1.1.2.2.2])), (taz1, .inl (0, 108, .inl X.2.1.1.1.1)), (taz2, .inl (0, 108, .inl X.2.1.1.2)), (taz3, .inl (0, 108, .inl X.2.1.1.1.2.1)), (taz4, .inl (0, 108, .inl X.2.1.1.1.2.2.1)), (taz5, .inl (0, 108, .inl X.2.1.2.1)), (taz6, .inl (0, 108, .inl X.2.1.2.2)), (ta4, .inl (2, 108, .inl X.2.2.1)), (ta5, .inl (2, 108, .inl X.2.2.2.1)), (ta6, .inl (0, 108, .inl (fun k => nI (X.2.2.2.2 k))))]) rfl ?_
    refine r_istore_n (lv' := [(3, .int (nI c)), (0, .ref a), (1, .int x), (2, .int y)]) d_Ip_filledIn_5 rfl (by decide) rfl ?_
    refine r_aload_n d_Ip_filledIn_6 rfl 1 rfl ?_
    refine r_get fs_Ip_19 d_Ip_filledIn_7 (q0 := 0) rfl rfl ?_
    refine r_callV (As := []) (rest := []) (csC := [(ta, .inr (10, [.ref ta1, .ref ta2, .ref taz, .ref ta4, .ref ta5, .ref ta6, .int X.1.2.2.1, .int X.1.2.2.2])), (ta1, .inl (1, 108, .inl X.1.1)), (ta2, .inl (0, 108, .inl X.1.2.1))]) (is := [1, 2, 3]) (q0 := 1) rfl rfl ln_Ip_140 w_im_Tr_fill w_se_Tr_fill ok_Ip_filledIn_Tr_fill d_Ip_filledIn_10 (C_Tr_fillU g ta ta1 ta2 taz ta4 ta5 ta6 X.1.2.2.1 X.1.2.2.2 X.1.1 X.1.2.1) rfl rfl (Nat.le_of_ble_eq_true rfl) rfl (by decide) (by omega) (by omega) (fun E cs1 hx => ?_) (fun v cs1 hx => ?_)
    · exact absurd hx.1 (by simp)
    · obtain ⟨e1, rfl⟩ := hx
      cases e1
      refine ⟨rfl, ?_⟩
      refine r_st (st2 := []) rfl ?_
      refine r_cs (cs2 := [(a, .inr (11, [.ref pa, .ref ta, .ref sa, .ref gs, .ref co, .ref fu, .ref la, .ref gy, .ref du, .ref re, .ref wm, .ref ac])), (ta, .inr (10, [.ref ta1, .ref ta2, .ref taz, .ref ta4, .ref ta5, .ref ta6, .int ((flT X).1.2.2.1), .int ((flT X).1.2.2.2)])), (ta1, .inl (1, 108, .inl ((flT X).1.1))), (ta2, .inl (0, 108, .inl ((flT X).1.2.1))), (taz, .inr (2, [.ref taz1, .ref taz2, .ref taz3, .ref taz4, .ref taz5, .ref taz6, .int X.2.1.1.1.2.2.2])), (taz1, .inl (0, 108, .inl X.2.1.1.1.1)), (taz2, .inl (0, 108, .inl X.2.1.1.2)), (taz3, .inl (0, 108, .inl X.2.1.1.1.2.1)), (taz4, .inl (0, 108, .inl X.2.1.1.1.2.2.1)), (taz5, .inl (0, 108, .inl X.2.1.2.1)), (taz6, .inl (0, 108, .inl X.2.1.2.2)), (ta4, .inl (2, 108, .inl X.2.2.1)), (ta5, .inl (2, 108, .inl X.2.2.2.1)), (ta6, .inl (0, 108, .inl (fun k => nI (X.2.2.2.2 k))))]) rfl ?_
      refine r_aload_n d_Ip_filledIn_13 rfl 1 rfl ?_
      refine r_get fs_Ip_19 d_Ip_filledIn_14 (q0 := 0) rfl rfl ?_
      refine r_get fs_Ip_143 d_Ip_filledIn_17 (q0 := 1) rfl rfl ?_
      refine r_iload_n d_Ip_filledIn_20 rfl 0 rfl ?_
      refine r_iald d_Ip_filledIn_21 (q0 := 3) rfl (vp_in_nI (by omega) (by omega)) (v := ((flT X).1.2.1) c) (by rw [nI_clamp (by omega)]) ?_
      refine r_iret d_Ip_filledIn_22 rfl rfl ?_
      exact ⟨rfl, rfl⟩
abbrev M_Ip_frozenIn : zM := (⟨"Ironpour", "frozenIn", "(III)I"⟩, prog_1_method_11_code, 5, (Option.some FieldType.int), 7, 136, [])
theorem d_Ip_frozenIn_0 : decode prog_1_method_11_code 0 = .ok (.iload_n 1, 1) := zo_27 (zd_b zq_prog_1_method_11_code_0 0 rfl rfl rfl)
theorem d_Ip_frozenIn_1 : decode prog_1_method_11_code 1 = .ok (.iload_n 2, 1) := zo_28 (zd_b zq_prog_1_method_11_code_0 1 rfl rfl rfl)
theorem d_Ip_frozenIn_2 : decode prog_1_method_11_code 2 = .ok (.invokestatic 114, 3) := zo_184 (d := 0) (e := 114) (zd_b zq_prog_1_method_11_code_0 2 rfl rfl rfl) (zd_b zq_prog_1_method_11_code_0 3 rfl rfl rfl) (zd_b zq_prog_1_method_11_code_0 4 rfl rfl rfl)
theorem ok_Ip_frozenIn_Ip_cellAt : z_ok M_Ip_frozenIn M_Ip_cellAt 2 := ⟨z_mj4 (i := 22) rfl (by decide +kernel), rfl, ⟨by decide +kernel, by decide +kernel, by decide +kernel⟩, ⟨by decide, by decide⟩, z_mj1 (i := 1) rfl (by decide +kernel), rfl⟩
set_option maxHeartbeats 4000000 in
set_option maxRecDepth 100000 in
theorem C_Ip_frozenInE (g : zG) (a pa ta sa gs co fu la gy du re wm ac : Nat) (ta1 ta2 taz taz1 taz2 taz3 taz4 taz5 taz6 ta4 ta5 ta6 : Nat) (X : zTr) (x y : Int32) (h : Int32) (hz : z_cl x y = none) : CT g M_Ip_frozenIn [.ref a, .int x, .int y, .int h] [(a, .inr (11, [.ref pa, .ref ta, .ref sa, .ref gs, .ref co, .ref fu, .ref la, .ref gy, .ref du, .ref re, .ref wm, .ref ac])), (ta, .inr (10, [.ref ta1, .ref ta2, .ref taz, .ref ta4, .ref ta5, .ref ta6, .int X.1.2.2.1, .int X.1.2.2.2])), (ta1, .inl (1, 108, .inl X.1.1)), (ta2, .inl (0, 108, .inl X.1.2.1)), (taz, .inr (2, [.ref taz1, .ref taz2, .ref taz3, .ref taz4, .ref taz5, .ref taz6, .int X.2.1.1.1.2.2.2])), (taz1, .inl (0, 108, .inl X.2.1.1.1.1)), (taz2, .inl (0, 108, .inl X.2.1.1.2)), (taz3, .inl (0, 108, .inl X.2.1.1.1.2.1)), (taz4, .inl (0, 108, .inl X.2.1.1.1.2.2.1)), (taz5, .inl (0, 108, .inl X.2.1.2.1)), (taz6, .inl (0, 108, .inl X.2.1.2.2)), (ta4, .inl (2, 108, .inl X.2.2.1)), (ta5, .inl (2, 108, .inl X.2.2.2.1)), (ta6, .inl (0, 108, .inl (fun k => nI (X.2.2.2.2 k))))] (fun o cs1 => o = .inr "java/lang/IndexOutOfBoundsException" ∧ cs1 = [(a, .inr (11, [.ref pa, .ref ta, .ref sa, .ref gs, .ref co, .ref fu, .ref la, .ref gy, .ref du, .ref re, .ref wm, .ref ac])), (ta, .inr (10, [.ref ta1, .ref ta2, .ref taz, .ref ta4, .ref ta5, .ref ta6, .int X.1.2.2.1, .int X.1.2.2.2])), (ta1, .inl (1, 108, .inl X.1.1)), (ta2, .inl (0, 108, .inl X.1.2.1)), (taz, .inr (2, [.ref taz1, .ref taz2, .ref taz3, .ref taz4, .ref taz5, .ref taz6, .int X.2.1.1.1.2.2.2])), (taz1, .inl (0, 108, .inl X.2.1.1.1.1)), (taz2, .inl (0, 108, .inl X.2.1.1.2)), (taz3, .inl (0, 108, .inl X.2.1.1.1.2.1)), (taz4, .inl (0, 108, .inl X.2.1.1.1.2.2.1)), (taz5, .inl (0, 108, .inl X.2.1.2.1)), (taz6, .inl (0, 108, .inl X.2.1.2.2)), (ta4, .inl (2, 108, .inl X.2.2.1)), (ta5, .inl (2, 108, .inl X.2.2.2.1)), (ta6, .inl (0, 108, .inl (fun k => nI (X.2.2.2.2 k))))]) 2 12 := by
  refine z_of (by decide) rfl (Nat.le_of_ble_eq_true rfl) (fun w0 => ?_)
  refine r_lvE (lv2 := [(0, .ref a), (1, .int x), (2, .int y), (3, .int h)]) rfl ?_
  refine r_iload_n d_Ip_frozenIn_0 rfl 1 rfl ?_
  refine r_iload_n d_Ip_frozenIn_1 rfl 2 rfl ?_
  refine r_callS (As := [.int x, .int y]) (rest := []) (csC := []) (is := []) ln_Ip_114 w_st_Ip_cellAt ok_Ip_frozenIn_Ip_cellAt d_Ip_frozenIn_2 (C_Ip_cellAt g x y) rfl rfl (Nat.le_of_ble_eq_true rfl) rfl (by decide) (by omega) (by omega) (fun E cs1 hx => ?_) (fun v cs1 hx => ?_)
  · simp only [hz] at hx
    obtain ⟨e1, rfl⟩ := hx
    cases e1
    exact ⟨rfl, rfl, rfl⟩
  · simp only [hz] at hx
    exact absurd hx.1 (by simp)
theorem d_Ip_frozenIn_5 : decode prog_1_method_11_code 5 = .ok (.istore 4, 2) := zo_54 (d := 4) (zd_b zq_prog_1_method_11_code_0 5 rfl rfl rfl) (zd_b zq_prog_1_method_11_code_0 6 rfl rfl rfl)
theorem d_Ip_frozenIn_7 : decode prog_1_method_11_code 7 = .ok (.iload_n 3, 1) := zo_29 (zd_b zq_prog_1_method_11_code_0 7 rfl rfl rfl)
theorem d_Ip_frozenIn_8 : decode prog_1_method_11_code 8 = .ok (.invokestatic 158, 3) := zo_184 (d := 0) (e := 158) (zd_b zq_prog_1_method_11_code_0 8 rfl rfl rfl) (zd_b zq_prog_1_method_11_code_0 9 rfl rfl rfl) (zd_b zq_prog_1_method_11_code_0 10 rfl rfl rfl)
theorem ok_Ip_frozenIn_Ip_checkHeat : z_ok M_Ip_frozenIn M_Ip_checkHeat 1 := ⟨z_mj4 (i := 94) rfl (by decide +kernel), rfl, ⟨by decide +kernel, by decide +kernel, by decide +kernel⟩, ⟨by decide, by decide⟩, z_mj1 (i := 1) rfl (by decide +kernel), rfl⟩
theorem ln_Ip_158 : Cond.methodLink "Ironpour" 158 M_Ip_checkHeat.1 ∈ z_gw := z_mj4 (i := 92) rfl (by decide +kernel)
theorem w_st_Ip_checkHeat : Cond.static M_Ip_checkHeat.1 ∈ z_gw := z_mj4 (i := 93) rfl (by decide +kernel)
set_option maxHeartbeats 4000000 in
set_option maxRecDepth 100000 in
theorem C_Ip_frozenInF (g : zG) (a pa ta sa gs co fu la gy du re wm ac : Nat) (ta1 ta2 taz taz1 taz2 taz3 taz4 taz5 taz6 ta4 ta5 ta6 : Nat) (X : zTr) (x y : Int32) (h : Int32) (c : Nat) (hz : z_cl x y = some c) (hh : ¬ (1200 ≤ h ∧ h ≤ 1500)) : CT g M_Ip_frozenIn [.ref a, .int x, .int y, .int h] [(a, .inr (11, [.ref pa, .ref ta, .ref sa, .ref gs, .ref co, .ref fu, .ref la, .ref gy, .ref du, .ref re, .ref wm, .ref ac])), (ta, .inr (10, [.ref ta1, .ref ta2, .ref taz, .ref ta4, .ref ta5, .ref ta6, .int X.1.2.2.1, .int X.1.2.2.2])), (ta1, .inl (1, 108, .inl X.1.1)), (ta2, .inl (0, 108, .inl X.1.2.1)), (taz, .inr (2, [.ref taz1, .ref taz2, .ref taz3, .ref taz4, .ref taz5, .ref taz6, .int X.2.1.1.1.2.2.2])), (taz1, .inl (0, 108, .inl X.2.1.1.1.1)), (taz2, .inl (0, 108, .inl X.2.1.1.2)), (taz3, .inl (0, 108, .inl X.2.1.1.1.2.1)), (taz4, .inl (0, 108, .inl X.2.1.1.1.2.2.1)), (taz5, .inl (0, 108, .inl X.2.1.2.1)), (taz6, .inl (0, 108, .inl X.2.1.2.2)), (ta4, .inl (2, 108, .inl X.2.2.1)), (ta5, .inl (2, 108, .inl X.2.2.2.1)), (ta6, .inl (0, 108, .inl (fun k => nI (X.2.2.2.2 k))))] (fun o cs1 => o = .inr "java/lang/IllegalArgumentException" ∧ cs1 = [(a, .inr (11, [.ref pa, .ref ta, .ref sa, .ref gs, .ref co, .ref fu, .ref la, .ref gy, .ref du, .ref re, .ref wm, .ref ac])), (ta, .inr (10, [.ref ta1, .ref ta2, .ref taz, .ref ta4, .ref ta5, .ref ta6, .int X.1.2.2.1, .int X.1.2.2.2])), (ta1, .inl (1, 108, .inl X.1.1)), (ta2, .inl (0, 108, .inl X.1.2.1)), (taz, .inr (2, [.ref taz1, .ref taz2, .ref taz3, .ref taz4, .ref taz5, .ref taz6, .int X.2.1.1.1.2.2.2])), (taz1, .inl (0, 108, .inl X.2.1.1.1.1)), (taz2, .inl (0, 108, .inl X.2.1.1.2)), (taz3, .inl (0, 108, .inl X.2.1.1.1.2.1)), (taz4, .inl (0, 108, .inl X.2.1.1.1.2.2.1)), (taz5, .inl (0, 108, .inl X.2.1.2.1)), (taz6, .inl (0, 108, .inl X.2.1.2.2)), (ta4, .inl (2, 108, .inl X.2.2.1)), (ta5, .inl (2, 108, .inl X.2.2.2.1)), (ta6, .inl (0, 108, .inl (fun k => nI (X.2.2.2.2 k))))]) 2 12 := by
  refine z_of (by decide) rfl (Nat.le_of_ble_eq_true rfl) (fun w0 => ?_)
  refine r_lvE (lv2 := [(0, .ref a), (1, .int x), (2, .int y), (3, .int h)]) rfl ?_
  refine r_iload_n d_Ip_frozenIn_0 rfl 1 rfl ?_
  refine r_iload_n d_Ip_frozenIn_1 rfl 2 rfl ?_
  refine r_callS (As := [.int x, .int y]) (rest := []) (csC := []) (is := []) ln_Ip_114 w_st_Ip_cellAt ok_Ip_frozenIn_Ip_cellAt d_Ip_frozenIn_2 (C_Ip_cellAt g x y) rfl rfl (Nat.le_of_ble_eq_true rfl) rfl (by decide) (by omega) (by omega) (fun E cs1 hx => ?_) (fun v cs1 hx => ?_)
  · simp only [hz] at hx
    exact absurd hx.1 (by simp)
  · simp only [hz] at hx
    obtain ⟨e1, rfl⟩ := hx
    cases e1
    refine ⟨rfl, ?_⟩
    refine r_st (st2 := [.int (nI c)]) rfl ?_
    refine r_cs (cs2 := [(a, .inr (11, [.ref pa, .ref ta, .ref sa, .ref gs, .ref co, .ref fu, .ref la, .ref gy, .ref du, .ref re, .ref wm, .ref ac])), (ta, .inr (10, [.ref ta1, .ref ta2, .ref taz, .ref ta4, .ref ta5, .ref ta6, .int X.1.2.2.1, .int X.1.2.2.2])), (ta1, .inl (1, 108, .inl X.1.1)), (ta2, .inl (0, 108, .inl X.1.2.1)), (taz, .inr (2, [.ref taz1, .ref taz2, .ref taz3, .ref taz4, .ref taz5, .ref taz6, .int X.2.1.1.1.2.2.2])), (taz1, .inl (0, 108, .inl X.2.1.1.1.1)), (taz2, .inl (0, 108, .inl X.2.1.1.2)), (taz3, .inl (0, 108, .inl X.2.1.1.1.2.1)), (taz4, .inl (0, 108, .inl X.2.1.1.1.2.2.1)), (taz5, .inl (0, 108, .inl X.2.1.2.1)), (taz6, .inl (0, 108, .inl X.2.1.2.2)), (ta4, .inl (2, 108, .inl X.2.2.1)), (ta5, .inl (2, 108, .inl X.2.2.2.1)), (ta6, .inl (0, 108, .inl (fun k => nI (X.2.2.2.2 k))))]) rfl ?_
    refine r_istore (lv' := [(4, .int (nI c)), (0, .ref a), (1, .int x), (2, .int y), (3, .int h)]) d_Ip_frozenIn_5 (by decide) rfl ?_
    refine r_iload_n d_Ip_frozenIn_7 rfl 4 rfl ?_
    refine r_callS (As := [.int h]) (rest := []) (csC := []) (is := []) ln_Ip_158 w_st_Ip_checkHeat ok_Ip_frozenIn_Ip_checkHeat d_Ip_frozenIn_8 (C_Ip_checkHeat g h) rfl rfl (Nat.le_of_ble_eq_true rfl) rfl (by decide) (by omega) (by omega) (fun E cs1 hx => ?_) (fun v cs1 hx => ?_)
    · simp only [if_neg hh] at hx
      obtain ⟨e1, rfl⟩ := hx
      cases e1
      exact ⟨rfl, rfl, rfl⟩
    · simp only [if_neg hh] at hx
      exact absurd hx.1 (by simp)
theorem d_Ip_frozenIn_11 : decode prog_1_method_11_code 11 = .ok (.aload_n 0, 1) := zo_42 (zd_b zq_prog_1_method_11_code_0 11 rfl rfl rfl)
theorem d_Ip_frozenIn_12 : decode prog_1_method_11_code 12 = .ok (.getfield 19, 3) := zo_180 (d := 0) (e := 19) (zd_b zq_prog_1_method_11_code_0 12 rfl rfl rfl) (zd_b zq_prog_1_method_11_code_0 13 rfl rfl rfl) (zd_b zq_prog_1_method_11_code_0 14 rfl rfl rfl)
theorem d_Ip_frozenIn_15 : decode prog_1_method_11_code 15 = .ok (.iload_n 3, 1) := zo_29 (zd_b zq_prog_1_method_11_code_0 15 rfl rfl rfl)
theorem d_Ip_frozenIn_16 : decode prog_1_method_11_code 16 = .ok (.invokevirtual 162, 3) := zo_182 (d := 0) (e := 162) (zd_b zq_prog_1_method_11_code_0 16 rfl rfl rfl) (zd_b zq_prog_1_method_11_code_0 17 rfl rfl rfl) (zd_b zq_prog_1_method_11_code_0 18 rfl rfl rfl)
theorem ok_Ip_frozenIn_Tr_freeze : z_ok M_Ip_frozenIn M_Tr_freeze 1 := ⟨z_mj2 (i := 208) rfl (by decide +kernel), rfl, ⟨by decide +kernel, by decide +kernel, by decide +kernel⟩, ⟨by decide, by decide⟩, z_mj1 (i := 3) rfl (by decide +kernel), rfl⟩
theorem ln_Ip_162 : Cond.methodLink "Ironpour" 162 M_Tr_freeze.1 ∈ z_gw := z_mj2 (i := 205) rfl (by decide +kernel)
theorem w_im_Tr_freeze : Cond.instanceMethod M_Tr_freeze.1 ∈ z_gw := z_mj2 (i := 206) rfl (by decide +kernel)
theorem w_se_Tr_freeze : Cond.selects M_Tr_freeze.1.cls M_Tr_freeze.1 M_Tr_freeze.1 ∈ z_gw := z_mj2 (i := 207) rfl (by decide +kernel)
theorem d_Ip_frozenIn_19 : decode prog_1_method_11_code 19 = .ok (.aload_n 0, 1) := zo_42 (zd_b zq_prog_1_method_11_code_0 19 rfl rfl rfl)
theorem d_Ip_frozenIn_20 : decode prog_1_method_11_code 20 = .ok (.getfield 19, 3) := zo_180 (d := 0) (e := 19) (zd_b zq_prog_1_method_11_code_0 20 rfl rfl rfl) (zd_b zq_prog_1_method_11_code_0 21 rfl rfl rfl) (zd_b zq_prog_1_method_11_code_0 22 rfl rfl rfl)
theorem d_Ip_frozenIn_23 : decode prog_1_method_11_code 23 = .ok (.getfield 165, 3) := zo_180 (d := 0) (e := 165) (zd_b zq_prog_1_method_11_code_0 23 rfl rfl rfl) (zd_b zq_prog_1_method_11_code_0 24 rfl rfl rfl) (zd_b zq_prog_1_method_11_code_0 25 rfl rfl rfl)
theorem fs_Ip_165 : z_fs "Ironpour" 165 10 2 := ⟨R_Tr, "Ironpour$Trial", F_Tr, 8, rfl, u_Tr, by decide, Or.inr ⟨"Ironpour", z_mk1 (i := 114) rfl (by decide +kernel), rfl⟩⟩
theorem d_Ip_frozenIn_26 : decode prog_1_method_11_code 26 = .ok (.getfield 169, 3) := zo_180 (d := 0) (e := 169) (zd_b zq_prog_1_method_11_code_0 26 rfl rfl rfl) (zd_b zq_prog_1_method_11_code_0 27 rfl rfl rfl) (zd_b zq_prog_1_method_11_code_0 28 rfl rfl rfl)
theorem fs_Ip_169 : z_fs "Ironpour" 169 2 3 := ⟨R_Fz, "Ironpour$Freezing", F_Fz, 7, rfl, u_Fz, by decide, Or.inr ⟨"Ironpour", z_mk1 (i := 89) rfl (by decide +kernel), rfl⟩⟩
theorem d_Ip_frozenIn_29 : decode prog_1_method_11_code 29 = .ok (.iload 4, 2) := zo_21 (d := 4) (zd_b zq_prog_1_method_11_code_0 29 rfl rfl rfl) (zd_b zq_prog_1_method_11_code_0 30 rfl rfl rfl)
theorem d_Ip_frozenIn_31 : decode prog_1_method_11_code 31 = .ok (.iaload, 1) := zo_46 (zd_b zq_prog_1_method_11_code_0 31 rfl rfl rfl)
theorem d_Ip_frozenIn_32 : decode prog_1_method_11_code 32 = .ok (.ireturn, 1) := zo_172 (zd_b zq_prog_1_method_11_code_1 0 rfl rfl rfl)
set_option maxHeartbeats 4000000 in
set_option maxRecDepth 100000 in
theorem C_Ip_frozenInN (g : zG) (a pa ta sa gs co fu la gy du re wm ac : Nat) (ta1 ta2 taz taz1 taz2 taz3 taz4 taz5 taz6 ta4 ta5 ta6 : Nat) (X : zTr) (x y : Int32) (h : Int32) (c : Nat) (hz : z_cl x y = some c) (hh : 1200 ≤ h ∧ h ≤ 1500) : CT g M_Ip_frozenIn [.ref a, .int x, .int y, .int h] [(a, .inr (11, [.ref pa, .ref ta, .ref sa, .ref gs, .ref co, .ref fu, .ref la, .ref gy, .ref du, .ref re, .ref wm, .ref ac])), (ta, .inr (10, [.ref ta1, .ref ta2, .ref taz, .ref ta4, .ref ta5, .ref ta6, .int X.1.2.2.1, .int X.1.2.2.2])), (ta1, .inl (1, 108, .inl X.1.1)), (ta2, .inl (0, 108, .inl X.1.2.1)), (taz, .inr (2, [.ref taz1, .ref taz2, .ref taz3, .ref taz4, .ref taz5, .ref taz6, .int X.2.1.1.1.2.2.2])), (taz1, .inl (0, 108, .inl X.2.1.1.1.1)), (taz2, .inl (0, 108, .inl X.2.1.1.2)), (taz3, .inl (0, 108, .inl X.2.1.1.1.2.1)), (taz4, .inl (0, 108, .inl X.2.1.1.1.2.2.1)), (taz5, .inl (0, 108, .inl X.2.1.2.1)), (taz6, .inl (0, 108, .inl X.2.1.2.2)), (ta4, .inl (2, 108, .inl X.2.2.1)), (ta5, .inl (2, 108, .inl X.2.2.2.1)), (ta6, .inl (0, 108, .inl (fun k => nI (X.2.2.2.2 k))))] (fun o cs1 => o = .inl (some (.int ((frT h X).2.1.1.1.2.2.1 c))) ∧ cs1 = [(a, .inr (11, [.ref pa, .ref ta, .ref sa, .ref gs, .ref co, .ref fu, .ref la, .ref gy, .ref du, .ref re, .ref wm, .ref ac])), (ta, .inr (10, [.ref ta1, .ref ta2, .ref taz, .ref ta4, .ref ta5, .ref ta6, .int ((frT h X).1.2.2.1), .int ((frT h X).1.2.2.2)])), (ta1, .inl (1, 108, .inl ((frT h X).1.1))), (ta2, .inl (0, 108, .inl ((frT h X).1.2.1))), (taz, .inr (2, [.ref taz1, .ref taz2, .ref taz3, .ref taz4, .ref taz5, .ref taz6, .int ((frT h X).2.1.1.1.2.2.2)])), (taz1, .inl (0, 108, .inl ((frT h X).2.1.1.1.1))), (taz2, .inl (0, 108, .inl ((frT h X).2.1.1.2))), (taz3, .inl (0, 108, .inl ((frT h X).2.1.1.1.2.1))), (taz4, .inl (0, 108, .inl ((frT h X).2.1.1.1.2.2.1))), (taz5, .inl (0, 108, .inl ((frT h X).2.1.2.1))), (taz6, .inl (0, 108, .inl ((frT h X).2.1.2.2))), (ta4, .inl (2, 108, .inl ((frT h X).2.2.1))), (ta5, .inl (2, 108, .inl ((frT h X).2.2.2.1))), (ta6, .inl (0, 108, .inl (fun k => nI ((frT h X).2.2.2.2 k))))]) 2 12 := by
  refine z_of (by decide) rfl (Nat.le_of_ble_eq_true rfl) (fun w0 => ?_)
  refine r_lvE (lv2 := [(0, .ref a), (1, .int x), (2, .int y), (3, .int h)]) rfl ?_
  have hc := z_cl_lt hz
  refine r_iload_n d_Ip_frozenIn_0 rfl 1 rfl ?_
  refine r_iload_n d_Ip_frozenIn_1 rfl 2 rfl ?_
  refine r_callS (As := [.int x, .int y]) (rest := []) (csC := []) (is := []) ln_Ip_114 w_st_Ip_cellAt ok_Ip_frozenIn_Ip_cellAt d_Ip_frozenIn_2 (C_Ip_cellAt g x y) rfl rfl (Nat.le_of_ble_eq_true rfl) rfl (by decide) (by omega) (by omega) (fun E cs1 hx => ?_) (fun v cs1 hx => ?_)
  · simp only [hz] at hx
    exact absurd hx.1 (by simp)
  · simp only [hz] at hx
    obtain ⟨e1, rfl⟩ := hx
    cases e1
    refine ⟨rfl, ?_⟩
    refine r_st (st2 := [.int (nI c)]) rfl ?_
    refine r_cs (cs2 := [(a, .inr (11, [.ref pa, .ref ta, .ref sa, .ref gs, .ref co, .ref fu, .ref la, .ref gy, .ref du, .ref re, .ref wm, .ref ac])), (ta, .inr (10, [.ref ta1, .ref ta2, .ref taz, .ref ta4, .ref ta5, .ref ta6, .int X.1.2.2.1, .int X.1.2.2.2])), (ta1, .inl (1, 108, .inl X.1.1)), (ta2, .inl (0, 108, .inl X.1.2.1)), (taz, .inr (2, [.ref taz1, .ref taz2, .ref taz3, .ref taz4, .ref taz5, .ref taz6, .int X.2.1.1.1.2.2.2])), (taz1, .inl (0, 108, .inl X.2.1.1.1.1)), (taz2, .inl (0, 108, .inl X.2.1.1.2)), (taz3, .inl (0, 108, .inl X.2.1.1.1.2.1)), (taz4, .inl (0, 108, .inl X.2.1.1.1.2.2.1)), (taz5, .inl (0, 108, .inl X.2.1.2.1)), (taz6, .inl (0, 108, .inl X.2.1.2.2)), (ta4, .inl (2, 108, .inl X.2.2.1)), (ta5, .inl (2, 108, .inl X.2.2.2.1)), (ta6, .inl (0, 108, .inl (fun k => nI (X.2.2.2.2 k))))]) rfl ?_
    refine r_istore (lv' := [(4, .int (nI c)), (0, .ref a), (1, .int x), (2, .int y), (3, .int h)]) d_Ip_frozenIn_5 (by decide) rfl ?_
    refine r_iload_n d_Ip_frozenIn_7 rfl 4 rfl ?_
    refine r_callS (As := [.int h]) (rest := []) (csC := []) (is := []) ln_Ip_158 w_st_Ip_checkHeat ok_Ip_frozenIn_Ip_checkHeat d_Ip_frozenIn_8 (C_Ip_checkHeat g h) rfl rfl (Nat.le_of_ble_eq_true rfl) rfl (by decide) (by omega) (by omega) (fun E cs1 hx => ?_) (fun v cs1 hx => ?_)
    · simp only [if_pos hh] at hx
      exact absurd hx.1 (by simp)
    · simp only [if_pos hh] at hx
      obtain ⟨e1, rfl⟩ := hx
      cases e1
      refine ⟨rfl, ?_⟩
      refine r_st (st2 := []) rfl ?_
      refine r_cs (cs2 := [(a, .inr (11, [.ref pa, .ref ta, .ref sa, .ref gs, .ref co, .ref fu, .ref la, .ref gy, .ref du, .ref re, .ref wm, .ref ac])), (ta, .inr (10, [.ref ta1, .ref ta2, .ref taz, .ref ta4, .ref ta5, .ref ta6, .int X.1.2.2.1, .int X.1.2.2.2])), (ta1, .inl (1, 108, .inl X.1.1)), (ta2, .inl (0, 108, .inl X.1.2.1)), (taz, .inr (2, [.ref taz1, .ref taz2, .ref taz3, .ref taz4, .ref taz5, .ref taz6, .int X.2.1.1.1.2.2.2])), (taz1, .inl (0, 108, .inl X.2.1.1.1.1)), (taz2, .inl (0, 108, .inl X.2.1.1.2)), (taz3, .inl (0, 108, .inl X.2.1.1.1.2.1)), (taz4, .inl (0, 108, .inl X.2.1.1.1.2.2.1)), (taz5, .inl (0, 108, .inl X.2.1.2.1)), (taz6, .inl (0, 108, .inl X.2.1.2.2)), (ta4, .inl (2, 108, .inl X.2.2.1)), (ta5, .inl (2, 108, .inl X.2.2.2.1)), (ta6, .inl (0, 108, .inl (fun k => nI (X.2.2.2.2 k))))]) rfl ?_
      refine r_aload_n d_Ip_frozenIn_11 rfl 1 rfl ?_
      refine r_get fs_Ip_19 d_Ip_frozenIn_12 (q0 := 0) rfl rfl ?_
      refine r_iload_n d_Ip_frozenIn_15 rfl 4 rfl ?_
      refine r_callV (As := [.int h]) (rest := []) (csC := [(ta, .inr (10, [.ref ta1, .ref ta2, .ref taz, .ref ta4, .ref ta5, .ref ta6, .int X.1.2.2.1, .int X.1.2.2.2])), (ta1, .inl (1, 108, .inl X.1.1)), (ta2, .inl (0, 108, .inl X.1.2.1)), (taz, .inr (2, [.ref taz1, .ref taz2, .ref taz3, .ref taz4, .ref taz5, .ref taz6, .int X.2.1.1.1.2.2.2])), (taz1, .inl (0, 108, .inl X.2.1.1.1.1)), (taz2, .inl (0, 108, .inl X.2.1.1.2)), (taz3, .inl (0, 108, .inl X.2.1.1.1.2.1)), (taz4, .inl (0, 108, .inl X.2.1.1.1.2.2.1)), (taz5, .inl (0, 108, .inl X.2.1.2.1)), (taz6, .inl (0, 108, .inl X.2.1.2.2)), (ta4, .inl (2, 108, .inl X.2.2.1)), (ta5, .inl (2, 108, .inl X.2.2.2.1)), (ta6, .inl (0, 108, .inl (fun k => nI (X.2.2.2.2 k))))]) (is := [1, 2, 3, 4, 5, 6, 7, 8, 9, 10, 11, 12, 13]) (q0 := 1) rfl rfl ln_Ip_162 w_im_Tr_freeze w_se_Tr_freeze ok_Ip_frozenIn_Tr_freeze d_Ip_frozenIn_16 (X_freeze g ta ta1 ta2 taz taz1 taz2 taz3 taz4 taz5 taz6 ta4 ta5 ta6 h X) rfl rfl (Nat.le_of_ble_eq_true rfl) rfl (by decide) (by omega) (by omega) (fun E cs1 hx => ?_) (fun v cs1 hx => ?_)
      · exact absurd hx.1 (by simp)
      · obtain ⟨e1, rfl⟩ := hx
        cases e1
        refine ⟨rfl, ?_⟩
        refine r_st (st2 := []) rfl ?_
        refine r_cs (cs2 := [(a, .inr (11, [.ref pa, .ref ta, .ref sa, .ref gs, .ref co, .ref fu, .ref la, .ref gy, .ref du, .ref re, .ref wm, .ref ac])), (ta, .inr (10, [.ref ta1, .ref ta2, .ref taz, .ref ta4, .ref ta5, .ref ta6, .int ((frT h X).1.2.2.1), .int ((frT h X).1.2.2.2)])), (ta1, .inl (1, 108, .inl ((frT h X).1.1))), (ta2, .inl (0, 108, .inl ((frT h X).1.2.1))), (taz, .inr (2, [.ref taz1, .ref taz2, .ref taz3, .ref taz4, .ref taz5, .ref taz6, .int ((frT h X).2.1.1.1.2.2.2)])), (taz1, .inl (0, 108, .inl ((frT h X).2.1.1.1.1))), (taz2, .inl (0, 108, .inl ((frT h X).2.1.1.2))), (taz3, .inl (0, 108, .inl ((frT h X).2.1.1.1.2.1))), (taz4, .inl (0, 108, .inl ((frT h X).2.1.1.1.2.2.1))), (taz5, .inl (0, 108, .inl ((frT h X).2.1.2.1))), (taz6, .inl (0, 108, .inl ((frT h X).2.1.2.2))), (ta4, .inl (2, 108, .inl ((frT h X).2.2.1))), (ta5, .inl (2, 108, .inl ((frT h X).2.2.2.1))), (ta6, .inl (0, 108, .inl (fun k => nI ((frT h X).2.2.2.2 k))))]) rfl ?_
        refine r_aload_n d_Ip_frozenIn_19 rfl 1 rfl ?_
        refine r_get fs_Ip_19 d_Ip_frozenIn_20 (q0 := 0) rfl rfl ?_
        refine r_get fs_Ip_165 d_Ip_frozenIn_23 (q0 := 1) rfl rfl ?_
        refine r_get fs_Ip_169 d_Ip_frozenIn_26 (q0 := 4) rfl rfl ?_
        refine r_iload d_Ip_frozenIn_29 0 rfl ?_
        refine r_iald d_Ip_frozenIn_31 (q0 := 8) rfl (vp_in_nI (by omega) (by omega)) (v := ((frT h X).2.1.1.1.2.2.1) c) (by rw [nI_clamp (by omega)]) ?_
        refine r_iret d_Ip_frozenIn_32 rfl rfl ?_
        exact ⟨rfl, rfl⟩
abbrev M_Ip_isFed : zM := (⟨"Ironpour", "isFed", "(III)Z"⟩, prog_1_method_13_code, 5, (Option.some FieldType.boolean), 7, 136, [])
theorem d_Ip_isFed_0 : decode prog_1_method_13_code 0 = .ok (.iload_n 1, 1) := zo_27 (zd_b zq_prog_1_method_13_code_0 0 rfl rfl rfl)
theorem d_Ip_isFed_1 : decode prog_1_method_13_code 1 = .ok (.iload_n 2, 1) := zo_28 (zd_b zq_prog_1_method_13_code_0 1 rfl rfl rfl)
theorem d_Ip_isFed_2 : decode prog_1_method_13_code 2 = .ok (.invokestatic 114, 3) := zo_184 (d := 0) (e := 114) (zd_b zq_prog_1_method_13_code_0 2 rfl rfl rfl) (zd_b zq_prog_1_method_13_code_0 3 rfl rfl rfl) (zd_b zq_prog_1_method_13_code_0 4 rfl rfl rfl)
theorem ok_Ip_isFed_Ip_cellAt : z_ok M_Ip_isFed M_Ip_cellAt 2 := ⟨z_mj4 (i := 22) rfl (by decide +kernel), rfl, ⟨by decide +kernel, by decide +kernel, by decide +kernel⟩, ⟨by decide, by decide⟩, z_mj1 (i := 1) rfl (by decide +kernel), rfl⟩
set_option maxHeartbeats 4000000 in
set_option maxRecDepth 100000 in
theorem C_Ip_isFedE (g : zG) (a pa ta sa gs co fu la gy du re wm ac : Nat) (ta1 ta2 taz taz1 taz2 taz3 taz4 taz5 taz6 ta4 ta5 ta6 : Nat) (X : zTr) (x y : Int32) (h : Int32) (hz : z_cl x y = none) : CT g M_Ip_isFed [.ref a, .int x, .int y, .int h] [(a, .inr (11, [.ref pa, .ref ta, .ref sa, .ref gs, .ref co, .ref fu, .ref la, .ref gy, .ref du, .ref re, .ref wm, .ref ac])), (ta, .inr (10, [.ref ta1, .ref ta2, .ref taz, .ref ta4, .ref ta5, .ref ta6, .int X.1.2.2.1, .int X.1.2.2.2])), (ta1, .inl (1, 108, .inl X.1.1)), (ta2, .inl (0, 108, .inl X.1.2.1)), (taz, .inr (2, [.ref taz1, .ref taz2, .ref taz3, .ref taz4, .ref taz5, .ref taz6, .int X.2.1.1.1.2.2.2])), (taz1, .inl (0, 108, .inl X.2.1.1.1.1)), (taz2, .inl (0, 108, .inl X.2.1.1.2)), (taz3, .inl (0, 108, .inl X.2.1.1.1.2.1)), (taz4, .inl (0, 108, .inl X.2.1.1.1.2.2.1)), (taz5, .inl (0, 108, .inl X.2.1.2.1)), (taz6, .inl (0, 108, .inl X.2.1.2.2)), (ta4, .inl (2, 108, .inl X.2.2.1)), (ta5, .inl (2, 108, .inl X.2.2.2.1)), (ta6, .inl (0, 108, .inl (fun k => nI (X.2.2.2.2 k))))] (fun o cs1 => o = .inr "java/lang/IndexOutOfBoundsException" ∧ cs1 = [(a, .inr (11, [.ref pa, .ref ta, .ref sa, .ref gs, .ref co, .ref fu, .ref la, .ref gy, .ref du, .ref re, .ref wm, .ref ac])), (ta, .inr (10, [.ref ta1, .ref ta2, .ref taz, .ref ta4, .ref ta5, .ref ta6, .int X.1.2.2.1, .int X.1.2.2.2])), (ta1, .inl (1, 108, .inl X.1.1)), (ta2, .inl (0, 108, .inl X.1.2.1)), (taz, .inr (2, [.ref taz1, .ref taz2, .ref taz3, .ref taz4, .ref taz5, .ref taz6, .int X.2.1.1.1.2.2.2])), (taz1, .inl (0, 108, .inl X.2.1.1.1.1)), (taz2, .inl (0, 108, .inl X.2.1.1.2)), (taz3, .inl (0, 108, .inl X.2.1.1.1.2.1)), (taz4, .inl (0, 108, .inl X.2.1.1.1.2.2.1)), (taz5, .inl (0, 108, .inl X.2.1.2.1)), (taz6, .inl (0, 108, .inl X.2.1.2.2)), (ta4, .inl (2, 108, .inl X.2.2.1)), (ta5, .inl (2, 108, .inl X.2.2.2.1)), (ta6, .inl (0, 108, .inl (fun k => nI (X.2.2.2.2 k))))]) 2 12 := by
  refine z_of (by decide) rfl (Nat.le_of_ble_eq_true rfl) (fun w0 => ?_)
  refine r_lvE (lv2 := [(0, .ref a), (1, .int x), (2, .int y), (3, .int h)]) rfl ?_
  refine r_iload_n d_Ip_isFed_0 rfl 1 rfl ?_
  refine r_iload_n d_Ip_isFed_1 rfl 2 rfl ?_
  refine r_callS (As := [.int x, .int y]) (rest := []) (csC := []) (is := []) ln_Ip_114 w_st_Ip_cellAt ok_Ip_isFed_Ip_cellAt d_Ip_isFed_2 (C_Ip_cellAt g x y) rfl rfl (Nat.le_of_ble_eq_true rfl) rfl (by decide) (by omega) (by omega) (fun E cs1 hx => ?_) (fun v cs1 hx => ?_)
  · simp only [hz] at hx
    obtain ⟨e1, rfl⟩ := hx
    cases e1
    exact ⟨rfl, rfl, rfl⟩
  · simp only [hz] at hx
    exact absurd hx.1 (by simp)
theorem d_Ip_isFed_5 : decode prog_1_method_13_code 5 = .ok (.istore 4, 2) := zo_54 (d := 4) (zd_b zq_prog_1_method_13_code_0 5 rfl rfl rfl) (zd_b zq_prog_1_method_13_code_0 6 rfl rfl rfl)
theorem d_Ip_isFed_7 : decode prog_1_method_13_code 7 = .ok (.iload_n 3, 1) := zo_29 (zd_b zq_prog_1_method_13_code_0 7 rfl rfl rfl)
theorem d_Ip_isFed_8 : decode prog_1_method_13_code 8 = .ok (.invokestatic 158, 3) := zo_184 (d := 0) (e := 158) (zd_b zq_prog_1_method_13_code_0 8 rfl rfl rfl) (zd_b zq_prog_1_method_13_code_0 9 rfl rfl rfl) (zd_b zq_prog_1_method_13_code_0 10 rfl rfl rfl)
theorem ok_Ip_isFed_Ip_checkHeat : z_ok M_Ip_isFed M_Ip_checkHeat 1 := ⟨z_mj4 (i := 94) rfl (by decide +kernel), rfl, ⟨by decide +kernel, by decide +kernel, by decide +kernel⟩, ⟨by decide, by decide⟩, z_mj1 (i := 1) rfl (by decide +kernel), rfl⟩
set_option maxHeartbeats 4000000 in
set_option maxRecDepth 100000 in
theorem C_Ip_isFedF (g : zG) (a pa ta sa gs co fu la gy du re wm ac : Nat) (ta1 ta2 taz taz1 taz2 taz3 taz4 taz5 taz6 ta4 ta5 ta6 : Nat) (X : zTr) (x y : Int32) (h : Int32) (c : Nat) (hz : z_cl x y = some c) (hh : ¬ (1200 ≤ h ∧ h ≤ 1500)) : CT g M_Ip_isFed [.ref a, .int x, .int y, .int h] [(a, .inr (11, [.ref pa, .ref ta, .ref sa, .ref gs, .ref co, .ref fu, .ref la, .ref gy, .ref du, .ref re, .ref wm, .ref ac])), (ta, .inr (10, [.ref ta1, .ref ta2, .ref taz, .ref ta4, .ref ta5, .ref ta6, .int X.1.2.2.1, .int X.1.2.2.2])), (ta1, .inl (1, 108, .inl X.1.1)), (ta2, .inl (0, 108, .inl X.1.2.1)), (taz, .inr (2, [.ref taz1, .ref taz2, .ref taz3, .ref taz4, .ref taz5, .ref taz6, .int X.2.1.1.1.2.2.2])), (taz1, .inl (0, 108, .inl X.2.1.1.1.1)), (taz2, .inl (0, 108, .inl X.2.1.1.2)), (taz3, .inl (0, 108, .inl X.2.1.1.1.2.1)), (taz4, .inl (0, 108, .inl X.2.1.1.1.2.2.1)), (taz5, .inl (0, 108, .inl X.2.1.2.1)), (taz6, .inl (0, 108, .inl X.2.1.2.2)), (ta4, .inl (2, 108, .inl X.2.2.1)), (ta5, .inl (2, 108, .inl X.2.2.2.1)), (ta6, .inl (0, 108, .inl (fun k => nI (X.2.2.2.2 k))))] (fun o cs1 => o = .inr "java/lang/IllegalArgumentException" ∧ cs1 = [(a, .inr (11, [.ref pa, .ref ta, .ref sa, .ref gs, .ref co, .ref fu, .ref la, .ref gy, .ref du, .ref re, .ref wm, .ref ac])), (ta, .inr (10, [.ref ta1, .ref ta2, .ref taz, .ref ta4, .ref ta5, .ref ta6, .int X.1.2.2.1, .int X.1.2.2.2])), (ta1, .inl (1, 108, .inl X.1.1)), (ta2, .inl (0, 108, .inl X.1.2.1)), (taz, .inr (2, [.ref taz1, .ref taz2, .ref taz3, .ref taz4, .ref taz5, .ref taz6, .int X.2.1.1.1.2.2.2])), (taz1, .inl (0, 108, .inl X.2.1.1.1.1)), (taz2, .inl (0, 108, .inl X.2.1.1.2)), (taz3, .inl (0, 108, .inl X.2.1.1.1.2.1)), (taz4, .inl (0, 108, .inl X.2.1.1.1.2.2.1)), (taz5, .inl (0, 108, .inl X.2.1.2.1)), (taz6, .inl (0, 108, .inl X.2.1.2.2)), (ta4, .inl (2, 108, .inl X.2.2.1)), (ta5, .inl (2, 108, .inl X.2.2.2.1)), (ta6, .inl (0, 108, .inl (fun k => nI (X.2.2.2.2 k))))]) 2 12 := by
  refine z_of (by decide) rfl (Nat.le_of_ble_eq_true rfl) (fun w0 => ?_)
  refine r_lvE (lv2 := [(0, .ref a), (1, .int x), (2, .int y), (3, .int h)]) rfl ?_
  refine r_iload_n d_Ip_isFed_0 rfl 1 rfl ?_
  refine r_iload_n d_Ip_isFed_1 rfl 2 rfl ?_
  refine r_callS (As := [.int x, .int y]) (rest := []) (csC := []) (is := []) ln_Ip_114 w_st_Ip_cellAt ok_Ip_isFed_Ip_cellAt d_Ip_isFed_2 (C_Ip_cellAt g x y) rfl rfl (Nat.le_of_ble_eq_true rfl) rfl (by decide) (by omega) (by omega) (fun E cs1 hx => ?_) (fun v cs1 hx => ?_)
  · simp only [hz] at hx
    exact absurd hx.1 (by simp)
  · simp only [hz] at hx
    obtain ⟨e1, rfl⟩ := hx
    cases e1
    refine ⟨rfl, ?_⟩
    refine r_st (st2 := [.int (nI c)]) rfl ?_
    refine r_cs (cs2 := [(a, .inr (11, [.ref pa, .ref ta, .ref sa, .ref gs, .ref co, .ref fu, .ref la, .ref gy, .ref du, .ref re, .ref wm, .ref ac])), (ta, .inr (10, [.ref ta1, .ref ta2, .ref taz, .ref ta4, .ref ta5, .ref ta6, .int X.1.2.2.1, .int X.1.2.2.2])), (ta1, .inl (1, 108, .inl X.1.1)), (ta2, .inl (0, 108, .inl X.1.2.1)), (taz, .inr (2, [.ref taz1, .ref taz2, .ref taz3, .ref taz4, .ref taz5, .ref taz6, .int X.2.1.1.1.2.2.2])), (taz1, .inl (0, 108, .inl X.2.1.1.1.1)), (taz2, .inl (0, 108, .inl X.2.1.1.2)), (taz3, .inl (0, 108, .inl X.2.1.1.1.2.1)), (taz4, .inl (0, 108, .inl X.2.1.1.1.2.2.1)), (taz5, .inl (0, 108, .inl X.2.1.2.1)), (taz6, .inl (0, 108, .inl X.2.1.2.2)), (ta4, .inl (2, 108, .inl X.2.2.1)), (ta5, .inl (2, 108, .inl X.2.2.2.1)), (ta6, .inl (0, 108, .inl (fun k => nI (X.2.2.2.2 k))))]) rfl ?_
    refine r_istore (lv' := [(4, .int (nI c)), (0, .ref a), (1, .int x), (2, .int y), (3, .int h)]) d_Ip_isFed_5 (by decide) rfl ?_
    refine r_iload_n d_Ip_isFed_7 rfl 4 rfl ?_
    refine r_callS (As := [.int h]) (rest := []) (csC := []) (is := []) ln_Ip_158 w_st_Ip_checkHeat ok_Ip_isFed_Ip_checkHeat d_Ip_isFed_8 (C_Ip_checkHeat g h) rfl rfl (Nat.le_of_ble_eq_true rfl) rfl (by decide) (by omega) (by omega) (fun E cs1 hx => ?_) (fun v cs1 hx => ?_)
    · simp only [if_neg hh] at hx
      obtain ⟨e1, rfl⟩ := hx
      cases e1
      exact ⟨rfl, rfl, rfl⟩
    · simp only [if_neg hh] at hx
      exact absurd hx.1 (by simp)
theorem d_Ip_isFed_11 : decode prog_1_method_13_code 11 = .ok (.aload_n 0, 1) := zo_42 (zd_b zq_prog_1_method_13_code_0 11 rfl rfl rfl)
theorem d_Ip_isFed_12 : decode prog_1_method_13_code 12 = .ok (.getfield 19, 3) := zo_180 (d := 0) (e := 19) (zd_b zq_prog_1_method_13_code_0 12 rfl rfl rfl) (zd_b zq_prog_1_method_13_code_0 13 rfl rfl rfl) (zd_b zq_prog_1_method_13_code_0 14 rfl rfl rfl)
theorem d_Ip_isFed_15 : decode prog_1_method_13_code 15 = .ok (.iload_n 3, 1) := zo_29 (zd_b zq_prog_1_method_13_code_0 15 rfl rfl rfl)
theorem d_Ip_isFed_16 : decode prog_1_method_13_code 16 = .ok (.invokevirtual 162, 3) := zo_182 (d := 0) (e := 162) (zd_b zq_prog_1_method_13_code_0 16 rfl rfl rfl) (zd_b zq_prog_1_method_13_code_0 17 rfl rfl rfl) (zd_b zq_prog_1_method_13_code_0 18 rfl rfl rfl)
theorem ok_Ip_isFed_Tr_freeze : z_ok M_Ip_isFed M_Tr_freeze 1 := ⟨z_mj2 (i := 208) rfl (by decide +kernel), rfl, ⟨by decide +kernel, by decide +kernel, by decide +kernel⟩, ⟨by decide, by decide⟩, z_mj1 (i := 3) rfl (by decide +kernel), rfl⟩
theorem d_Ip_isFed_19 : decode prog_1_method_13_code 19 = .ok (.aload_n 0, 1) := zo_42 (zd_b zq_prog_1_method_13_code_0 19 rfl rfl rfl)
theorem d_Ip_isFed_20 : decode prog_1_method_13_code 20 = .ok (.getfield 19, 3) := zo_180 (d := 0) (e := 19) (zd_b zq_prog_1_method_13_code_0 20 rfl rfl rfl) (zd_b zq_prog_1_method_13_code_0 21 rfl rfl rfl) (zd_b zq_prog_1_method_13_code_0 22 rfl rfl rfl)
theorem d_Ip_isFed_23 : decode prog_1_method_13_code 23 = .ok (.getfield 183, 3) := zo_180 (d := 0) (e := 183) (zd_b zq_prog_1_method_13_code_0 23 rfl rfl rfl) (zd_b zq_prog_1_method_13_code_0 24 rfl rfl rfl) (zd_b zq_prog_1_method_13_code_0 25 rfl rfl rfl)
theorem fs_Ip_183 : z_fs "Ironpour" 183 10 3 := ⟨R_Tr, "Ironpour$Trial", F_Tr, 8, rfl, u_Tr, by decide, Or.inr ⟨"Ironpour", z_mk1 (i := 116) rfl (by decide +kernel), rfl⟩⟩
theorem d_Ip_isFed_26 : decode prog_1_method_13_code 26 = .ok (.iload 4, 2) := zo_21 (d := 4) (zd_b zq_prog_1_method_13_code_0 26 rfl rfl rfl) (zd_b zq_prog_1_method_13_code_0 27 rfl rfl rfl)
theorem d_Ip_isFed_28 : decode prog_1_method_13_code 28 = .ok (.baload, 1) := zo_51 (zd_b zq_prog_1_method_13_code_0 28 rfl rfl rfl)
theorem d_Ip_isFed_29 : decode prog_1_method_13_code 29 = .ok (.ireturn, 1) := zo_172 (zd_b zq_prog_1_method_13_code_0 29 rfl rfl rfl)
set_option maxHeartbeats 4000000 in
set_option maxRecDepth 100000 in
theorem C_Ip_isFedN (g : zG) (a pa ta sa gs co fu la gy du re wm ac : Nat) (ta1 ta2 taz taz1 taz2 taz3 taz4 taz5 taz6 ta4 ta5 ta6 : Nat) (X : zTr) (x y : Int32) (h : Int32) (c : Nat) (hz : z_cl x y = some c) (hh : 1200 ≤ h ∧ h ≤ 1500) (hb : (frT h X).2.2.1 c = 0 ∨ (frT h X).2.2.1 c = 1) : CT g M_Ip_isFed [.ref a, .int x, .int y, .int h] [(a, .inr (11, [.ref pa, .ref ta, .ref sa, .ref gs, .ref co, .ref fu, .ref la, .ref gy, .ref du, .ref re, .ref wm, .ref ac])), (ta, .inr (10, [.ref ta1, .ref ta2, .ref taz, .ref ta4, .ref ta5, .ref ta6, .int X.1.2.2.1, .int X.1.2.2.2])), (ta1, .inl (1, 108, .inl X.1.1)), (ta2, .inl (0, 108, .inl X.1.2.1)), (taz, .inr (2, [.ref taz1, .ref taz2, .ref taz3, .ref taz4, .ref taz5, .ref taz6, .int X.2.1.1.1.2.2.2])), (taz1, .inl (0, 108, .inl X.2.1.1.1.1)), (taz2, .inl (0, 108, .inl X.2.1.1.2)), (taz3, .inl (0, 108, .inl X.2.1.1.1.2.1)), (taz4, .inl (0, 108, .inl X.2.1.1.1.2.2.1)), (taz5, .inl (0, 108, .inl X.2.1.2.1)), (taz6, .inl (0, 108, .inl X.2.1.2.2)), (ta4, .inl (2, 108, .inl X.2.2.1)), (ta5, .inl (2, 108, .inl X.2.2.2.1)), (ta6, .inl (0, 108, .inl (fun k => nI (X.2.2.2.2 k))))] (fun o cs1 => o = .inl (some (.int ((frT h X).2.2.1 c))) ∧ cs1 = [(a, .inr (11, [.ref pa, .ref ta, .ref sa, .ref gs, .ref co, .ref fu, .ref la, .ref gy, .ref du, .ref re, .ref wm, .ref ac])), (ta, .inr (10, [.ref ta1, .ref ta2, .ref taz, .ref ta4, .ref ta5, .ref ta6, .int ((frT h X).1.2.2.1), .int ((frT h X).1.2.2.2)])), (ta1, .inl (1, 108, .inl ((frT h X).1.1))), (ta2, .inl (0, 108, .inl ((frT h X).1.2.1))), (taz, .inr (2, [.ref taz1, .ref taz2, .ref taz3, .ref taz4, .ref taz5, .ref taz6, .int ((frT h X).2.1.1.1.2.2.2)])), (taz1, .inl (0, 108, .inl ((frT h X).2.1.1.1.1))), (taz2, .inl (0, 108, .inl ((frT h X).2.1.1.2))), (taz3, .inl (0, 108, .inl ((frT h X).2.1.1.1.2.1))), (taz4, .inl (0, 108, .inl ((frT h X).2.1.1.1.2.2.1))), (taz5, .inl (0, 108, .inl ((frT h X).2.1.2.1))), (taz6, .inl (0, 108, .inl ((frT h X).2.1.2.2))), (ta4, .inl (2, 108, .inl ((frT h X).2.2.1))), (ta5, .inl (2, 108, .inl ((frT h X).2.2.2.1))), (ta6, .inl (0, 108, .inl (fun k => nI ((frT h X).2.2.2.2 k))))]) 2 12 := by
  refine z_of (by decide) rfl (Nat.le_of_ble_eq_true rfl) (fun w0 => ?_)
  refine r_lvE (lv2 := [(0, .ref a), (1, .int x), (2, .int y), (3, .int h)]) rfl ?_
  have hc := z_cl_lt hz
  refine r_iload_n d_Ip_isFed_0 rfl 1 rfl ?_
  refine r_iload_n d_Ip_isFed_1 rfl 2 rfl ?_
  refine r_callS (As := [.int x, .int y]) (rest := []) (csC := []) (is := []) ln_Ip_114 w_st_Ip_cellAt ok_Ip_isFed_Ip_cellAt d_Ip_isFed_2 (C_Ip_cellAt g x y) rfl rfl (Nat.le_of_ble_eq_true rfl) rfl (by decide) (by omega) (by omega) (fun E cs1 hx => ?_) (fun v cs1 hx => ?_)
  · simp only [hz] at hx
    exact absurd hx.1 (by simp)
  · simp only [hz] at hx
    obtain ⟨e1, rfl⟩ := hx
    cases e1
    refine ⟨rfl, ?_⟩
    refine r_st (st2 := [.int (nI c)]) rfl ?_
    refine r_cs (cs2 := [(a, .inr (11, [.ref pa, .ref ta, .ref sa, .ref gs, .ref co, .ref fu, .ref la, .ref gy, .ref du, .ref re, .ref wm, .ref ac])), (ta, .inr (10, [.ref ta1, .ref ta2, .ref taz, .ref ta4, .ref ta5, .ref ta6, .int X.1.2.2.1, .int X.1.2.2.2])), (ta1, .inl (1, 108, .inl X.1.1)), (ta2, .inl (0, 108, .inl X.1.2.1)), (taz, .inr (2, [.ref taz1, .ref taz2, .ref taz3, .ref taz4, .ref taz5, .ref taz6, .int X.2.1.1.1.2.2.2])), (taz1, .inl (0, 108, .inl X.2.1.1.1.1)), (taz2, .inl (0, 108, .inl X.2.1.1.2)), (taz3, .inl (0, 108, .inl X.2.1.1.1.2.1)), (taz4, .inl (0, 108, .inl X.2.1.1.1.2.2.1)), (taz5, .inl (0, 108, .inl X.2.1.2.1)), (taz6, .inl (0, 108, .inl X.2.1.2.2)), (ta4, .inl (2, 108, .inl X.2.2.1)), (ta5, .inl (2, 108, .inl X.2.2.2.1)), (ta6, .inl (0, 108, .inl (fun k => nI (X.2.2.2.2 k))))]) rfl ?_
    refine r_istore (lv' := [(4, .int (nI c)), (0, .ref a), (1, .int x), (2, .int y), (3, .int h)]) d_Ip_isFed_5 (by decide) rfl ?_
    refine r_iload_n d_Ip_isFed_7 rfl 4 rfl ?_
    refine r_callS (As := [.int h]) (rest := []) (csC := []) (is := []) ln_Ip_158 w_st_Ip_checkHeat ok_Ip_isFed_Ip_checkHeat d_Ip_isFed_8 (C_Ip_checkHeat g h) rfl rfl (Nat.le_of_ble_eq_true rfl) rfl (by decide) (by omega) (by omega) (fun E cs1 hx => ?_) (fun v cs1 hx => ?_)
    · simp only [if_pos hh] at hx
      exact absurd hx.1 (by simp)
    · simp only [if_pos hh] at hx
      obtain ⟨e1, rfl⟩ := hx
      cases e1
      refine ⟨rfl, ?_⟩
      refine r_st (st2 := []) rfl ?_
      refine r_cs (cs2 := [(a, .inr (11, [.ref pa, .ref ta, .ref sa, .ref gs, .ref co, .ref fu, .ref la, .ref gy, .ref du, .ref re, .ref wm, .ref ac])), (ta, .inr (10, [.ref ta1, .ref ta2, .ref taz, .ref ta4, .ref ta5, .ref ta6, .int X.1.2.2.1, .int X.1.2.2.2])), (ta1, .inl (1, 108, .inl X.1.1)), (ta2, .inl (0, 108, .inl X.1.2.1)), (taz, .inr (2, [.ref taz1, .ref taz2, .ref taz3, .ref taz4, .ref taz5, .ref taz6, .int X.2.1.1.1.2.2.2])), (taz1, .inl (0, 108, .inl X.2.1.1.1.1)), (taz2, .inl (0, 108, .inl X.2.1.1.2)), (taz3, .inl (0, 108, .inl X.2.1.1.1.2.1)), (taz4, .inl (0, 108, .inl X.2.1.1.1.2.2.1)), (taz5, .inl (0, 108, .inl X.2.1.2.1)), (taz6, .inl (0, 108, .inl X.2.1.2.2)), (ta4, .inl (2, 108, .inl X.2.2.1)), (ta5, .inl (2, 108, .inl X.2.2.2.1)), (ta6, .inl (0, 108, .inl (fun k => nI (X.2.2.2.2 k))))]) rfl ?_
      refine r_aload_n d_Ip_isFed_11 rfl 1 rfl ?_
      refine r_get fs_Ip_19 d_Ip_isFed_12 (q0 := 0) rfl rfl ?_
      refine r_iload_n d_Ip_isFed_15 rfl 4 rfl ?_
      refine r_callV (As := [.int h]) (rest := []) (csC := [(ta, .inr (10, [.ref ta1, .ref ta2, .ref taz, .ref ta4, .ref ta5, .ref ta6, .int X.1.2.2.1, .int X.1.2.2.2])), (ta1, .inl (1, 108, .inl X.1.1)), (ta2, .inl (0, 108, .inl X.1.2.1)), (taz, .inr (2, [.ref taz1, .ref taz2, .ref taz3, .ref taz4, .ref taz5, .ref taz6, .int X.2.1.1.1.2.2.2])), (taz1, .inl (0, 108, .inl X.2.1.1.1.1)), (taz2, .inl (0, 108, .inl X.2.1.1.2)), (taz3, .inl (0, 108, .inl X.2.1.1.1.2.1)), (taz4, .inl (0, 108, .inl X.2.1.1.1.2.2.1)), (taz5, .inl (0, 108, .inl X.2.1.2.1)), (taz6, .inl (0, 108, .inl X.2.1.2.2)), (ta4, .inl (2, 108, .inl X.2.2.1)), (ta5, .inl (2, 108, .inl X.2.2.2.1)), (ta6, .inl (0, 108, .inl (fun k => nI (X.2.2.2.2 k))))]) (is := [1, 2, 3, 4, 5, 6, 7, 8, 9, 10, 11, 12, 13]) (q0 := 1) rfl rfl ln_Ip_162 w_im_Tr_freeze w_se_Tr_freeze ok_Ip_isFed_Tr_freeze d_Ip_isFed_16 (X_freeze g ta ta1 ta2 taz taz1 taz2 taz3 taz4 taz5 taz6 ta4 ta5 ta6 h X) rfl rfl (Nat.le_of_ble_eq_true rfl) rfl (by decide) (by omega) (by omega) (fun E cs1 hx => ?_) (fun v cs1 hx => ?_)
      · exact absurd hx.1 (by simp)
      · obtain ⟨e1, rfl⟩ := hx
        cases e1
        refine ⟨rfl, ?_⟩
        refine r_st (st2 := []) rfl ?_
        refine r_cs (cs2 := [(a, .inr (11, [.ref pa, .ref ta, .ref sa, .ref gs, .ref co, .ref fu, .ref la, .ref gy, .ref du, .ref re, .ref wm, .ref ac])), (ta, .inr (10, [.ref ta1, .ref ta2, .ref taz, .ref ta4, .ref ta5, .ref ta6, .int ((frT h X).1.2.2.1), .int ((frT h X).1.2.2.2)])), (ta1, .inl (1, 108, .inl ((frT h X).1.1))), (ta2, .inl (0, 108, .inl ((frT h X).1.2.1))), (taz, .inr (2, [.ref taz1, .ref taz2, .ref taz3, .ref taz4, .ref taz5, .ref taz6, .int ((frT h X).2.1.1.1.2.2.2)])), (taz1, .inl (0, 108, .inl ((frT h X).2.1.1.1.1))), (taz2, .inl (0, 108, .inl ((frT h X).2.1.1.2))), (taz3, .inl (0, 108, .inl ((frT h X).2.1.1.1.2.1))), (taz4, .inl (0, 108, .inl ((frT h X).2.1.1.1.2.2.1))), (taz5, .inl (0, 108, .inl ((frT h X).2.1.2.1))), (taz6, .inl (0, 108, .inl ((frT h X).2.1.2.2))), (ta4, .inl (2, 108, .inl ((frT h X).2.2.1))), (ta5, .inl (2, 108, .inl ((frT h X).2.2.2.1))), (ta6, .inl (0, 108, .inl (fun k => nI ((frT h X).2.2.2.2 k))))]) rfl ?_
        refine r_aload_n d_Ip_isFed_19 rfl 1 rfl ?_
        refine r_get fs_Ip_19 d_Ip_isFed_20 (q0 := 0) rfl rfl ?_
        refine r_get fs_Ip_183 d_Ip_isFed_23 (q0 := 1) rfl rfl ?_
        refine r_iload d_Ip_isFed_26 0 rfl ?_
        refine r_zald d_Ip_isFed_28 (q0 := 11) rfl (vp_in_nI (by omega) (by omega)) (v := ((frT h X).2.2.1) c) (by rw [nI_clamp (by omega)]) ?_
        refine r_iret d_Ip_isFed_29 rfl (by rcases hb with e | e <;> rw [e] <;> rfl) ?_
        exact ⟨rfl, rfl⟩
abbrev M_Ip_shrunk : zM := (⟨"Ironpour", "shrunk", "(I)I"⟩, prog_1_method_14_code, 2, (Option.some FieldType.int), 7, 136, [])
theorem d_Ip_shrunk_0 : decode prog_1_method_14_code 0 = .ok (.iload_n 1, 1) := zo_27 (zd_b zq_prog_1_method_14_code_0 0 rfl rfl rfl)
theorem d_Ip_shrunk_1 : decode prog_1_method_14_code 1 = .ok (.invokestatic 158, 3) := zo_184 (d := 0) (e := 158) (zd_b zq_prog_1_method_14_code_0 1 rfl rfl rfl) (zd_b zq_prog_1_method_14_code_0 2 rfl rfl rfl) (zd_b zq_prog_1_method_14_code_0 3 rfl rfl rfl)
theorem ok_Ip_shrunk_Ip_checkHeat : z_ok M_Ip_shrunk M_Ip_checkHeat 1 := ⟨z_mj4 (i := 94) rfl (by decide +kernel), rfl, ⟨by decide +kernel, by decide +kernel, by decide +kernel⟩, ⟨by decide, by decide⟩, z_mj1 (i := 1) rfl (by decide +kernel), rfl⟩
set_option maxHeartbeats 4000000 in
set_option maxRecDepth 100000 in
theorem C_Ip_shrunkE (g : zG) (a pa ta sa gs co fu la gy du re wm ac : Nat) (ta1 ta2 taz taz1 taz2 taz3 taz4 taz5 taz6 ta4 ta5 ta6 : Nat) (X : zTr) (h : Int32) (hh : ¬ (1200 ≤ h ∧ h ≤ 1500)) : CT g M_Ip_shrunk [.ref a, .int h] [(a, .inr (11, [.ref pa, .ref ta, .ref sa, .ref gs, .ref co, .ref fu, .ref la, .ref gy, .ref du, .ref re, .ref wm, .ref ac])), (ta, .inr (10, [.ref ta1, .ref ta2, .ref taz, .ref ta4, .ref ta5, .ref ta6, .int X.1.2.2.1, .int X.1.2.2.2])), (ta1, .inl (1, 108, .inl X.1.1)), (ta2, .inl (0, 108, .inl X.1.2.1)), (taz, .inr (2, [.ref taz1, .ref taz2, .ref taz3, .ref taz4, .ref taz5, .ref taz6, .int X.2.1.1.1.2.2.2])), (taz1, .inl (0, 108, .inl X.2.1.1.1.1)), (taz2, .inl (0, 108, .inl X.2.1.1.2)), (taz3, .inl (0, 108, .inl X.2.1.1.1.2.1)), (taz4, .inl (0, 108, .inl X.2.1.1.1.2.2.1)), (taz5, .inl (0, 108, .inl X.2.1.2.1)), (taz6, .inl (0, 108, .inl X.2.1.2.2)), (ta4, .inl (2, 108, .inl X.2.2.1)), (ta5, .inl (2, 108, .inl X.2.2.2.1)), (ta6, .inl (0, 108, .inl (fun k => nI (X.2.2.2.2 k))))] (fun o cs1 => o = .inr "java/lang/IllegalArgumentException" ∧ cs1 = [(a, .inr (11, [.ref pa, .ref ta, .ref sa, .ref gs, .ref co, .ref fu, .ref la, .ref gy, .ref du, .ref re, .ref wm, .ref ac])), (ta, .inr (10, [.ref ta1, .ref ta2, .ref taz, .ref ta4, .ref ta5, .ref ta6, .int X.1.2.2.1, .int X.1.2.2.2])), (ta1, .inl (1, 108, .inl X.1.1)), (ta2, .inl (0, 108, .inl X.1.2.1)), (taz, .inr (2, [.ref taz1, .ref taz2, .ref taz3, .ref taz4, .ref taz5, .ref taz6, .int X.2.1.1.1.2.2.2])), (taz1, .inl (0, 108, .inl X.2.1.1.1.1)), (taz2, .inl (0, 108, .inl X.2.1.1.2)), (taz3, .inl (0, 108, .inl X.2.1.1.1.2.1)), (taz4, .inl (0, 108, .inl X.2.1.1.1.2.2.1)), (taz5, .inl (0, 108, .inl X.2.1.2.1)), (taz6, .inl (0, 108, .inl X.2.1.2.2)), (ta4, .inl (2, 108, .inl X.2.2.1)), (ta5, .inl (2, 108, .inl X.2.2.2.1)), (ta6, .inl (0, 108, .inl (fun k => nI (X.2.2.2.2 k))))]) 1 6 := by
  refine z_of (by decide) rfl (Nat.le_of_ble_eq_true rfl) (fun w0 => ?_)
  refine r_lvE (lv2 := [(0, .ref a), (1, .int h)]) rfl ?_
  refine r_iload_n d_Ip_shrunk_0 rfl 1 rfl ?_
  refine r_callS (As := [.int h]) (rest := []) (csC := []) (is := []) ln_Ip_158 w_st_Ip_checkHeat ok_Ip_shrunk_Ip_checkHeat d_Ip_shrunk_1 (C_Ip_checkHeat g h) rfl rfl (Nat.le_of_ble_eq_true rfl) rfl (by decide) (by omega) (by omega) (fun E cs1 hx => ?_) (fun v cs1 hx => ?_)
  · simp only [if_neg hh] at hx
    obtain ⟨e1, rfl⟩ := hx
    cases e1
    exact ⟨rfl, rfl, rfl⟩
  · simp only [if_neg hh] at hx
    exact absurd hx.1 (by simp)
theorem d_Ip_shrunk_4 : decode prog_1_method_14_code 4 = .ok (.aload_n 0, 1) := zo_42 (zd_b zq_prog_1_method_14_code_0 4 rfl rfl rfl)
theorem d_Ip_shrunk_5 : decode prog_1_method_14_code 5 = .ok (.getfield 19, 3) := zo_180 (d := 0) (e := 19) (zd_b zq_prog_1_method_14_code_0 5 rfl rfl rfl) (zd_b zq_prog_1_method_14_code_0 6 rfl rfl rfl) (zd_b zq_prog_1_method_14_code_0 7 rfl rfl rfl)
theorem d_Ip_shrunk_8 : decode prog_1_method_14_code 8 = .ok (.iload_n 1, 1) := zo_27 (zd_b zq_prog_1_method_14_code_0 8 rfl rfl rfl)
theorem d_Ip_shrunk_9 : decode prog_1_method_14_code 9 = .ok (.invokevirtual 162, 3) := zo_182 (d := 0) (e := 162) (zd_b zq_prog_1_method_14_code_0 9 rfl rfl rfl) (zd_b zq_prog_1_method_14_code_0 10 rfl rfl rfl) (zd_b zq_prog_1_method_14_code_0 11 rfl rfl rfl)
theorem ok_Ip_shrunk_Tr_freeze : z_ok M_Ip_shrunk M_Tr_freeze 1 := ⟨z_mj2 (i := 208) rfl (by decide +kernel), rfl, ⟨by decide +kernel, by decide +kernel, by decide +kernel⟩, ⟨by decide, by decide⟩, z_mj1 (i := 3) rfl (by decide +kernel), rfl⟩
theorem d_Ip_shrunk_12 : decode prog_1_method_14_code 12 = .ok (.aload_n 0, 1) := zo_42 (zd_b zq_prog_1_method_14_code_0 12 rfl rfl rfl)
theorem d_Ip_shrunk_13 : decode prog_1_method_14_code 13 = .ok (.getfield 19, 3) := zo_180 (d := 0) (e := 19) (zd_b zq_prog_1_method_14_code_0 13 rfl rfl rfl) (zd_b zq_prog_1_method_14_code_0 14 rfl rfl rfl) (zd_b zq_prog_1_method_14_code_0 15 rfl rfl rfl)
theorem d_Ip_shrunk_16 : decode prog_1_method_14_code 16 = .ok (.invokevirtual 187, 3) := zo_182 (d := 0) (e := 187) (zd_b zq_prog_1_method_14_code_0 16 rfl rfl rfl) (zd_b zq_prog_1_method_14_code_0 17 rfl rfl rfl) (zd_b zq_prog_1_method_14_code_0 18 rfl rfl rfl)
theorem ok_Ip_shrunk_Tr_shrunkCells : z_ok M_Ip_shrunk M_Tr_shrunkCells 0 := ⟨z_mj4 (i := 128) rfl (by decide +kernel), rfl, ⟨by decide +kernel, by decide +kernel, by decide +kernel⟩, ⟨by decide, by decide⟩, z_mj1 (i := 3) rfl (by decide +kernel), rfl⟩
theorem ln_Ip_187 : Cond.methodLink "Ironpour" 187 M_Tr_shrunkCells.1 ∈ z_gw := z_mj4 (i := 125) rfl (by decide +kernel)
theorem w_im_Tr_shrunkCells : Cond.instanceMethod M_Tr_shrunkCells.1 ∈ z_gw := z_mj4 (i := 126) rfl (by decide +kernel)
theorem w_se_Tr_shrunkCells : Cond.selects M_Tr_shrunkCells.1.cls M_Tr_shrunkCells.1 M_Tr_shrunkCells.1 ∈ z_gw := z_mj4 (i := 127) rfl (by decide +kernel)
theorem d_Ip_shrunk_19 : decode prog_1_method_14_code 19 = .ok (.ireturn, 1) := zo_172 (zd_b zq_prog_1_method_14_code_0 19 rfl rfl rfl)
set_option maxHeartbeats 4000000 in
set_option maxRecDepth 100000 in
theorem C_Ip_shrunkN (g : zG) (a pa ta sa gs co fu la gy du re wm ac : Nat) (ta1 ta2 taz taz1 taz2 taz3 taz4 taz5 taz6 ta4 ta5 ta6 : Nat) (X : zTr) (h : Int32) (hh : 1200 ≤ h ∧ h ≤ 1500) : CT g M_Ip_shrunk [.ref a, .int h] [(a, .inr (11, [.ref pa, .ref ta, .ref sa, .ref gs, .ref co, .ref fu, .ref la, .ref gy, .ref du, .ref re, .ref wm, .ref ac])), (ta, .inr (10, [.ref ta1, .ref ta2, .ref taz, .ref ta4, .ref ta5, .ref ta6, .int X.1.2.2.1, .int X.1.2.2.2])), (ta1, .inl (1, 108, .inl X.1.1)), (ta2, .inl (0, 108, .inl X.1.2.1)), (taz, .inr (2, [.ref taz1, .ref taz2, .ref taz3, .ref taz4, .ref taz5, .ref taz6, .int X.2.1.1.1.2.2.2])), (taz1, .inl (0, 108, .inl X.2.1.1.1.1)), (taz2, .inl (0, 108, .inl X.2.1.1.2)), (taz3, .inl (0, 108, .inl X.2.1.1.1.2.1)), (taz4, .inl (0, 108, .inl X.2.1.1.1.2.2.1)), (taz5, .inl (0, 108, .inl X.2.1.2.1)), (taz6, .inl (0, 108, .inl X.2.1.2.2)), (ta4, .inl (2, 108, .inl X.2.2.1)), (ta5, .inl (2, 108, .inl X.2.2.2.1)), (ta6, .inl (0, 108, .inl (fun k => nI (X.2.2.2.2 k))))] (fun o cs1 => o = .inl (some (.int (nI (shN (frT h X))))) ∧ cs1 = [(a, .inr (11, [.ref pa, .ref ta, .ref sa, .ref gs, .ref co, .ref fu, .ref la, .ref gy, .ref du, .ref re, .ref wm, .ref ac])), (ta, .inr (10, [.ref ta1, .ref ta2, .ref taz, .ref ta4, .ref ta5, .ref ta6, .int ((frT h X).1.2.2.1), .int ((frT h X).1.2.2.2)])), (ta1, .inl (1, 108, .inl ((frT h X).1.1))), (ta2, .inl (0, 108, .inl ((frT h X).1.2.1))), (taz, .inr (2, [.ref taz1, .ref taz2, .ref taz3, .ref taz4, .ref taz5, .ref taz6, .int ((frT h X).2.1.1.1.2.2.2)])), (taz1, .inl (0, 108, .inl ((frT h X).2.1.1.1.1))), (taz2, .inl (0, 108, .inl ((frT h X).2.1.1.2))), (taz3, .inl (0, 108, .inl ((frT h X).2.1.1.1.2.1))), (taz4, .inl (0, 108, .inl ((frT h X).2.1.1.1.2.2.1))), (taz5, .inl (0, 108, .inl ((frT h X).2.1.2.1))), (taz6, .inl (0, 108, .inl ((frT h X).2.1.2.2))), (ta4, .inl (2, 108, .inl ((frT h X).2.2.1))), (ta5, .inl (2, 108, .inl ((frT h X).2.2.2.1))), (ta6, .inl (0, 108, .inl (fun k => nI ((frT h X).2.2.2.2 k))))]) 1 6 := by
  refine z_of (by decide) rfl (Nat.le_of_ble_eq_true rfl) (fun w0 => ?_)
  refine r_lvE (lv2 := [(0, .ref a), (1, .int h)]) rfl ?_
  refine r_iload_n d_Ip_shrunk_0 rfl 1 rfl ?_
  refine r_callS (As := [.int h]) (rest := []) (csC := []) (is := []) ln_Ip_158 w_st_Ip_checkHeat ok_Ip_shrunk_Ip_checkHeat d_Ip_shrunk_1 (C_Ip_checkHeat g h) rfl rfl (Nat.le_of_ble_eq_true rfl) rfl (by decide) (by omega) (by omega) (fun E cs1 hx => ?_) (fun v cs1 hx => ?_)
  · simp only [if_pos hh] at hx
    exact absurd hx.1 (by simp)
  · simp only [if_pos hh] at hx
    obtain ⟨e1, rfl⟩ := hx
    cases e1
    refine ⟨rfl, ?_⟩
    refine r_st (st2 := []) rfl ?_
    refine r_cs (cs2 := [(a, .inr (11, [.ref pa, .ref ta, .ref sa, .ref gs, .ref co, .ref fu, .ref la, .ref gy, .ref du, .ref re, .ref wm, .ref ac])), (ta, .inr (10, [.ref ta1, .ref ta2, .ref taz, .ref ta4, .ref ta5, .ref ta6, .int X.1.2.2.1, .int X.1.2.2.2])), (ta1, .inl (1, 108, .inl X.1.1)), (ta2, .inl (0, 108, .inl X.1.2.1)), (taz, .inr (2, [.ref taz1, .ref taz2, .ref taz3, .ref taz4, .ref taz5, .ref taz6, .int X.2.1.1.1.2.2.2])), (taz1, .inl (0, 108, .inl X.2.1.1.1.1)), (taz2, .inl (0, 108, .inl X.2.1.1.2)), (taz3, .inl (0, 108, .inl X.2.1.1.1.2.1)), (taz4, .inl (0, 108, .inl X.2.1.1.1.2.2.1)), (taz5, .inl (0, 108, .inl X.2.1.2.1)), (taz6, .inl (0, 108, .inl X.2.1.2.2)), (ta4, .inl (2, 108, .inl X.2.2.1)), (ta5, .inl (2, 108, .inl X.2.2.2.1)), (ta6, .inl (0, 108, .inl (fun k => nI (X.2.2.2.2 k))))]) rfl ?_
    refine r_aload_n d_Ip_shrunk_4 rfl 0 rfl ?_
    refine r_get fs_Ip_19 d_Ip_shrunk_5 (q0 := 0) rfl rfl ?_
    refine r_iload_n d_Ip_shrunk_8 rfl 1 rfl ?_
    refine r_callV (As := [.int h]) (rest := []) (csC := [(ta, .inr (10, [.ref ta1, .ref ta2, .ref taz, .ref ta4, .ref ta5, .ref ta6, .int X.1.2.2.1, .int X.1.2.2.2])), (ta1, .inl (1, 108, .inl X.1.1)), (ta2, .inl (0, 108, .inl X.1.2.1)), (taz, .inr (2, [.ref taz1, .ref taz2, .ref taz3, .ref taz4, .ref taz5, .ref taz6, .int X.2.1.1.1.2.2.2])), (taz1, .inl (0, 108, .inl X.2.1.1.1.1)), (taz2, .inl (0, 108, .inl X.2.1.1.2)), (taz3, .inl (0, 108, .inl X.2.1.1.1.2.1)), (taz4, .inl (0, 108, .inl X.2.1.1.1.2.2.1)), (taz5, .inl (0, 108, .inl X.2.1.2.1)), (taz6, .inl (0, 108, .inl X.2.1.2.2)), (ta4, .inl (2, 108, .inl X.2.2.1)), (ta5, .inl (2, 108, .inl X.2.2.2.1)), (ta6, .inl (0, 108, .inl (fun k => nI (X.2.2.2.2 k))))]) (is := [1, 2, 3, 4, 5, 6, 7, 8, 9, 10, 11, 12, 13]) (q0 := 1) rfl rfl ln_Ip_162 w_im_Tr_freeze w_se_Tr_freeze ok_Ip_shrunk_Tr_freeze d_Ip_shrunk_9 (X_freeze g ta ta1 ta2 taz taz1 taz2 taz3 taz4 taz5 taz6 ta4 ta5 ta6 h X) rfl rfl (Nat.le_of_ble_eq_true rfl) rfl (by decide) (by omega) (by omega) (fun E cs1 hx => ?_) (fun v cs1 hx => ?_)
    · exact absurd hx.1 (by simp)
    · obtain ⟨e1, rfl⟩ := hx
      cases e1
      refine ⟨rfl, ?_⟩
      refine r_st (st2 := []) rfl ?_
      refine r_cs (cs2 := [(a, .inr (11, [.ref pa, .ref ta, .ref sa, .ref gs, .ref co, .ref fu, .ref la, .ref gy, .ref du, .ref re, .ref wm, .ref ac])), (ta, .inr (10, [.ref ta1, .ref ta2, .ref taz, .ref ta4, .ref ta5, .ref ta6, .int ((frT h X).1.2.2.1), .int ((frT h X).1.2.2.2)])), (ta1, .inl (1, 108, .inl ((frT h X).1.1))), (ta2, .inl (0, 108, .inl ((frT h X).1.2.1))), (taz, .inr (2, [.ref taz1, .ref taz2, .ref taz3, .ref taz4, .ref taz5, .ref taz6, .int ((frT h X).2.1.1.1.2.2.2)])), (taz1, .inl (0, 108, .inl ((frT h X).2.1.1.1.1))), (taz2, .inl (0, 108, .inl ((frT h X).2.1.1.2))), (taz3, .inl (0, 108, .inl ((frT h X).2.1.1.1.2.1))), (taz4, .inl (0, 108, .inl ((frT h X).2.1.1.1.2.2.1))), (taz5, .inl (0, 108, .inl ((frT h X).2.1.2.1))), (taz6, .inl (0, 108, .inl ((frT h X).2.1.2.2))), (ta4, .inl (2, 108, .inl ((frT h X).2.2.1))), (ta5, .inl (2, 108, .inl ((frT h X).2.2.2.1))), (ta6, .inl (0, 108, .inl (fun k => nI ((frT h X).2.2.2.2 k))))]) rfl ?_
      refine r_aload_n d_Ip_shrunk_12 rfl 0 rfl ?_
      refine r_get fs_Ip_19 d_Ip_shrunk_13 (q0 := 0) rfl rfl ?_
      refine r_callV (As := []) (rest := []) (csC := [(ta, .inr (10, [.ref ta1, .ref ta2, .ref taz, .ref ta4, .ref ta5, .ref ta6, .int ((frT h X).1.2.2.1), .int ((frT h X).1.2.2.2)])), (ta1, .inl (1, 108, .inl ((frT h X).1.1))), (ta2, .inl (0, 108, .inl ((frT h X).1.2.1))), (taz, .inr (2, [.ref taz1, .ref taz2, .ref taz3, .ref taz4, .ref taz5, .ref taz6, .int ((frT h X).2.1.1.1.2.2.2)])), (taz4, .inl (0, 108, .inl ((frT h X).2.1.1.1.2.2.1))), (ta4, .inl (2, 108, .inl ((frT h X).2.2.1))), (ta5, .inl (2, 108, .inl ((frT h X).2.2.2.1))), (ta6, .inl (0, 108, .inl (fun k => nI ((frT h X).2.2.2.2 k))))]) (is := [1, 2, 3, 4, 8, 11, 12, 13]) (q0 := 1) rfl rfl ln_Ip_187 w_im_Tr_shrunkCells w_se_Tr_shrunkCells ok_Ip_shrunk_Tr_shrunkCells d_Ip_shrunk_16 (X_shrunkCells g ta ta1 ta2 taz taz1 taz2 taz3 taz4 taz5 taz6 ta4 ta5 ta6 (frT h X)) rfl rfl (Nat.le_of_ble_eq_true rfl) rfl (by decide) (by omega) (by omega) (fun E cs1 hx => ?_) (fun v cs1 hx => ?_)
      · exact absurd hx.1 (by simp)
      · obtain ⟨e1, rfl⟩ := hx
        cases e1
        refine ⟨rfl, ?_⟩
        refine r_st (st2 := [.int (nI (shN (frT h X)))]) rfl ?_
        refine r_cs (cs2 := [(a, .inr (11, [.ref pa, .ref ta, .ref sa, .ref gs, .ref co, .ref fu, .ref la, .ref gy, .ref du, .ref re, .ref wm, .ref ac])), (ta, .inr (10, [.ref ta1, .ref ta2, .ref taz, .ref ta4, .ref ta5, .ref ta6, .int ((frT h X).1.2.2.1), .int ((frT h X).1.2.2.2)])), (ta1, .inl (1, 108, .inl ((frT h X).1.1))), (ta2, .inl (0, 108, .inl ((frT h X).1.2.1))), (taz, .inr (2, [.ref taz1, .ref taz2, .ref taz3, .ref taz4, .ref taz5, .ref taz6, .int ((frT h X).2.1.1.1.2.2.2)])), (taz1, .inl (0, 108, .inl ((frT h X).2.1.1.1.1))), (taz2, .inl (0, 108, .inl ((frT h X).2.1.1.2))), (taz3, .inl (0, 108, .inl ((frT h X).2.1.1.1.2.1))), (taz4, .inl (0, 108, .inl ((frT h X).2.1.1.1.2.2.1))), (taz5, .inl (0, 108, .inl ((frT h X).2.1.2.1))), (taz6, .inl (0, 108, .inl ((frT h X).2.1.2.2))), (ta4, .inl (2, 108, .inl ((frT h X).2.2.1))), (ta5, .inl (2, 108, .inl ((frT h X).2.2.2.1))), (ta6, .inl (0, 108, .inl (fun k => nI ((frT h X).2.2.2.2 k))))]) rfl ?_
        refine r_iret d_Ip_shrunk_19 rfl rfl ?_
        exact ⟨rfl, rfl⟩
