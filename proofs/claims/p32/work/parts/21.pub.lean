section
theorem X_shrunkCells (g : zG) (a a1 a2 az az1 az2 az3 az4 az5 az6 a4 a5 a6 : Nat) (X : zTr) : CT g M_Tr_shrunkCells [.ref a] [(a, .inr (10, [.ref a1, .ref a2, .ref az, .ref a4, .ref a5, .ref a6, .int X.1.2.2.1, .int X.1.2.2.2])), (a1, .inl (1, 108, .inl X.1.1)), (a2, .inl (0, 108, .inl X.1.2.1)), (az, .inr (2, [.ref az1, .ref az2, .ref az3, .ref az4, .ref az5, .ref az6, .int X.2.1.1.1.2.2.2])), (az4, .inl (0, 108, .inl X.2.1.1.1.2.2.1)), (a4, .inl (2, 108, .inl X.2.2.1)), (a5, .inl (2, 108, .inl X.2.2.2.1)), (a6, .inl (0, 108, .inl (fun k => nI (X.2.2.2.2 k))))] (fun o cs1 => o = .inl (some (.int (nI (shN X)))) ∧ cs1 = [(a, .inr (10, [.ref a1, .ref a2, .ref az, .ref a4, .ref a5, .ref a6, .int X.1.2.2.1, .int X.1.2.2.2])), (a1, .inl (1, 108, .inl X.1.1)), (a2, .inl (0, 108, .inl X.1.2.1)), (az, .inr (2, [.ref az1, .ref az2, .ref az3, .ref az4, .ref az5, .ref az6, .int X.2.1.1.1.2.2.2])), (az4, .inl (0, 108, .inl X.2.1.1.1.2.2.1)), (a4, .inl (2, 108, .inl X.2.2.1)), (a5, .inl (2, 108, .inl X.2.2.2.1)), (a6, .inl (0, 108, .inl (fun k => nI (X.2.2.2.2 k))))]) 0 0 := C_Tr_shrunkCells g a a1 a2 az az1 az2 az3 az4 az5 az6 a4 a5 a6 X.1.2.2.1 X.1.2.2.2 X.2.1.1.1.2.2.2 X.1.1 X.1.2.1 X.2.1.1.1.2.2.1 X.2.2.1 X.2.2.2.1 X.2.2.2.2
abbrev M_Ip_undercut : zM := (⟨"Ironpour", "undercut", "()I"⟩, prog_1_method_5_code, 1, (Option.some FieldType.int), 4, 90, [])
theorem d_Ip_undercut_0 : decode prog_1_method_5_code 0 = .ok (.aload_n 0, 1) := zo_42 (zd_b zq_prog_1_method_5_code_0 0 rfl rfl rfl)
theorem d_Ip_undercut_1 : decode prog_1_method_5_code 1 = .ok (.getfield 10, 3) := zo_180 (d := 0) (e := 10) (zd_b zq_prog_1_method_5_code_0 1 rfl rfl rfl) (zd_b zq_prog_1_method_5_code_0 2 rfl rfl rfl) (zd_b zq_prog_1_method_5_code_0 3 rfl rfl rfl)
theorem u_Ip : ∀ x ∈ u_ws R_Ip F_Ip 12, x ∈ z_gw := fun x hx => List.mem_filter.mpr ⟨(z_au [(2, 75), (2, 77), (2, 79), (2, 81), (2, 83), (2, 85), (2, 87), (2, 89), (2, 91), (2, 93), (2, 95), (2, 97)] (by decide +kernel) : ∀ x ∈ u_ws R_Ip F_Ip 12, x ∈ lw_tbl) x hx, (show ∀ x ∈ u_ws R_Ip F_Ip 12, goodWord x = true by decide +kernel) x hx⟩
theorem fs_Ip_10 : z_fs "Ironpour" 10 11 0 := ⟨R_Ip, "Ironpour", F_Ip, 12, rfl, u_Ip, by decide, Or.inl ⟨z_mj2 (i := 63) rfl (by decide +kernel), Or.inl rfl⟩⟩
theorem d_Ip_undercut_4 : decode prog_1_method_5_code 4 = .ok (.invokevirtual 124, 3) := zo_182 (d := 0) (e := 124) (zd_b zq_prog_1_method_5_code_0 4 rfl rfl rfl) (zd_b zq_prog_1_method_5_code_0 5 rfl rfl rfl) (zd_b zq_prog_1_method_5_code_0 6 rfl rfl rfl)
theorem ok_Ip_undercut_Pa_undercutCells : z_ok M_Ip_undercut M_Pa_undercutCells 0 := ⟨z_mj2 (i := 107) rfl (by decide +kernel), rfl, ⟨by decide +kernel, by decide +kernel, by decide +kernel⟩, ⟨by decide, by decide⟩, z_mj1 (i := 2) rfl (by decide +kernel), rfl⟩
theorem ln_Ip_124 : Cond.methodLink "Ironpour" 124 M_Pa_undercutCells.1 ∈ z_gw := z_mj2 (i := 104) rfl (by decide +kernel)
theorem d_Ip_undercut_7 : decode prog_1_method_5_code 7 = .ok (.ireturn, 1) := zo_172 (zd_b zq_prog_1_method_5_code_0 7 rfl rfl rfl)
set_option maxHeartbeats 4000000 in
set_option maxRecDepth 100000 in
theorem C_Ip_undercut (g : zG) (a pa ta sa gs co fu la gy du re wm ac : Nat) (pa1 pa2 pa3 : Nat) (f sn : Nat → Int32) (qn : Nat → Nat) (p : Nat) (hp1 : 1 ≤ p) (hp : p < 9) : CT g M_Ip_undercut [.ref a] [(a, .inr (11, [.ref pa, .ref ta, .ref sa, .ref gs, .ref co, .ref fu, .ref la, .ref gy, .ref du, .ref re, .ref wm, .ref ac])), (pa, .inr (8, [.ref pa1, .ref pa2, .ref pa3, .int (nI p)])), (pa1, .inl (1, 108, .inl f)), (pa2, .inl (2, 108, .inl sn)), (pa3, .inl (0, 108, .inl (fun k => nI (qn k))))] (fun o cs1 => o = .inl (some (.int (nI (ucT f p 12)))) ∧ cs1 = [(a, .inr (11, [.ref pa, .ref ta, .ref sa, .ref gs, .ref co, .ref fu, .ref la, .ref gy, .ref du, .ref re, .ref wm, .ref ac])), (pa, .inr (8, [.ref pa1, .ref pa2, .ref pa3, .int (nI p)])), (pa1, .inl (1, 108, .inl f)), (pa2, .inl (2, 108, .inl sn)), (pa3, .inl (0, 108, .inl (fun k => nI (qn k))))]) 0 0 := by
  refine z_of (by decide) rfl (Nat.le_of_ble_eq_true rfl) (fun w0 => ?_)
  refine r_lvE (lv2 := [(0, .ref a)]) rfl ?_
  refine r_aload_n d_Ip_undercut_0 rfl 0 rfl ?_
  refine r_get fs_Ip_10 d_Ip_undercut_1 (q0 := 0) rfl rfl ?_
  refine r_callV (As := []) (rest := []) (csC := [(pa, .inr (8, [.ref pa1, .ref pa2, .ref pa3, .int (nI p)])), (pa1, .inl (1, 108, .inl f)), (pa2, .inl (2, 108, .inl sn)), (pa3, .inl (0, 108, .inl (fun k => nI (qn k))))]) (is := [1, 2, 3, 4]) (q0 := 1) rfl rfl ln_Ip_124 w_im_Pa_undercutCells w_se_Pa_undercutCells ok_Ip_undercut_Pa_undercutCells d_Ip_undercut_4 (C_Pa_undercutCells g pa pa1 pa2 pa3 f sn (fun k => nI (qn k)) p hp1 hp) rfl rfl (Nat.le_of_ble_eq_true rfl) rfl (by decide) (by omega) (by omega) (fun E cs1 hx => ?_) (fun v cs1 hx => ?_)
  · exact absurd hx.1 (by simp)
  · obtain ⟨e1, rfl⟩ := hx
    cases e1
    refine ⟨rfl, ?_⟩
    refine r_st (st2 := [.int (nI (ucT f p 12))]) rfl ?_
    refine r_cs (cs2 := [(a, .inr (11, [.ref pa, .ref ta, .ref sa, .ref gs, .ref co, .ref fu, .ref la, .ref gy, .ref du, .ref re, .ref wm, .ref ac])), (pa, .inr (8, [.ref pa1, .ref pa2, .ref pa3, .int (nI p)])), (pa1, .inl (1, 108, .inl f)), (pa2, .inl (2, 108, .inl sn)), (pa3, .inl (0, 108, .inl (fun k => nI (qn k))))]) rfl ?_
    refine r_iret d_Ip_undercut_7 rfl rfl ?_
    exact ⟨rfl, rfl⟩
abbrev M_Ip_cores : zM := (⟨"Ironpour", "cores", "()I"⟩, prog_1_method_6_code, 1, (Option.some FieldType.int), 5, 111, [])
theorem d_Ip_cores_0 : decode prog_1_method_6_code 0 = .ok (.aload_n 0, 1) := zo_42 (zd_b zq_prog_1_method_6_code_0 0 rfl rfl rfl)
theorem d_Ip_cores_1 : decode prog_1_method_6_code 1 = .ok (.getfield 10, 3) := zo_180 (d := 0) (e := 10) (zd_b zq_prog_1_method_6_code_0 1 rfl rfl rfl) (zd_b zq_prog_1_method_6_code_0 2 rfl rfl rfl) (zd_b zq_prog_1_method_6_code_0 3 rfl rfl rfl)
theorem d_Ip_cores_4 : decode prog_1_method_6_code 4 = .ok (.invokevirtual 128, 3) := zo_182 (d := 0) (e := 128) (zd_b zq_prog_1_method_6_code_0 4 rfl rfl rfl) (zd_b zq_prog_1_method_6_code_0 5 rfl rfl rfl) (zd_b zq_prog_1_method_6_code_0 6 rfl rfl rfl)
theorem ok_Ip_cores_Pa_coreGroups : z_ok M_Ip_cores M_Pa_coreGroups 0 := ⟨z_mj2 (i := 122) rfl (by decide +kernel), rfl, ⟨by decide +kernel, by decide +kernel, by decide +kernel⟩, ⟨by decide, by decide⟩, z_mj1 (i := 2) rfl (by decide +kernel), rfl⟩
theorem ln_Ip_128 : Cond.methodLink "Ironpour" 128 M_Pa_coreGroups.1 ∈ z_gw := z_mj2 (i := 119) rfl (by decide +kernel)
theorem w_im_Pa_coreGroups : Cond.instanceMethod M_Pa_coreGroups.1 ∈ z_gw := z_mj2 (i := 120) rfl (by decide +kernel)
theorem w_se_Pa_coreGroups : Cond.selects M_Pa_coreGroups.1.cls M_Pa_coreGroups.1 M_Pa_coreGroups.1 ∈ z_gw := z_mj2 (i := 121) rfl (by decide +kernel)
theorem d_Ip_cores_7 : decode prog_1_method_6_code 7 = .ok (.ireturn, 1) := zo_172 (zd_b zq_prog_1_method_6_code_0 7 rfl rfl rfl)
set_option maxHeartbeats 4000000 in
set_option maxRecDepth 100000 in
theorem C_Ip_cores (g : zG) (a pa ta sa gs co fu la gy du re wm ac : Nat) (pa1 pa2 pa3 : Nat) (f sn : Nat → Int32) (qn : Nat → Nat) (p : Nat) : CT g M_Ip_cores [.ref a] [(a, .inr (11, [.ref pa, .ref ta, .ref sa, .ref gs, .ref co, .ref fu, .ref la, .ref gy, .ref du, .ref re, .ref wm, .ref ac])), (pa, .inr (8, [.ref pa1, .ref pa2, .ref pa3, .int (nI p)])), (pa1, .inl (1, 108, .inl f)), (pa2, .inl (2, 108, .inl sn)), (pa3, .inl (0, 108, .inl (fun k => nI (qn k))))] (fun o cs1 => o = .inl (some (.int (nI (grS f 109 (fa_fill (fun _ => 0) sn 108, qn, 0) 108).2.2))) ∧ cs1 = [(a, .inr (11, [.ref pa, .ref ta, .ref sa, .ref gs, .ref co, .ref fu, .ref la, .ref gy, .ref du, .ref re, .ref wm, .ref ac])), (pa, .inr (8, [.ref pa1, .ref pa2, .ref pa3, .int (nI p)])), (pa1, .inl (1, 108, .inl f)), (pa2, .inl (2, 108, .inl ((grS f 109 (fa_fill (fun _ => 0) sn 108, qn, 0) 108).1))), (pa3, .inl (0, 108, .inl (fun k => nI ((grS f 109 (fa_fill (fun _ => 0) sn 108, qn, 0) 108).2.1 k))))]) 0 0 := by
  refine z_of (by decide) rfl (Nat.le_of_ble_eq_true rfl) (fun w0 => ?_)
  refine r_lvE (lv2 := [(0, .ref a)]) rfl ?_
  refine r_aload_n d_Ip_cores_0 rfl 0 rfl ?_
  refine r_get fs_Ip_10 d_Ip_cores_1 (q0 := 0) rfl rfl ?_
  refine r_callV (As := []) (rest := []) (csC := [(pa, .inr (8, [.ref pa1, .ref pa2, .ref pa3, .int (nI p)])), (pa1, .inl (1, 108, .inl f)), (pa2, .inl (2, 108, .inl sn)), (pa3, .inl (0, 108, .inl (fun k => nI (qn k))))]) (is := [1, 2, 3, 4]) (q0 := 1) rfl rfl ln_Ip_128 w_im_Pa_coreGroups w_se_Pa_coreGroups ok_Ip_cores_Pa_coreGroups d_Ip_cores_4 (C_Pa_coreGroups g pa pa1 pa2 pa3 f sn qn (nI p)) rfl rfl (Nat.le_of_ble_eq_true rfl) rfl (by decide) (by omega) (by omega) (fun E cs1 hx => ?_) (fun v cs1 hx => ?_)
  · exact absurd hx.1 (by simp)
  · obtain ⟨e1, rfl⟩ := hx
    cases e1
    refine ⟨rfl, ?_⟩
    refine r_st (st2 := [.int (nI (grS f 109 (fa_fill (fun _ => 0) sn 108, qn, 0) 108).2.2)]) rfl ?_
    refine r_cs (cs2 := [(a, .inr (11, [.ref pa, .ref ta, .ref sa, .ref gs, .ref co, .ref fu, .ref la, .ref gy, .ref du, .ref re, .ref wm, .ref ac])), (pa, .inr (8, [.ref pa1, .ref pa2, .ref pa3, .int (nI p)])), (pa1, .inl (1, 108, .inl f)), (pa2, .inl (2, 108, .inl ((grS f 109 (fa_fill (fun _ => 0) sn 108, qn, 0) 108).1))), (pa3, .inl (0, 108, .inl (fun k => nI ((grS f 109 (fa_fill (fun _ => 0) sn 108, qn, 0) 108).2.1 k))))]) rfl ?_
    refine r_iret d_Ip_cores_7 rfl rfl ?_
    exact ⟨rfl, rfl⟩
abbrev M_Ip_loose : zM := (⟨"Ironpour", "loose", "()I"⟩, prog_1_method_7_code, 1, (Option.some FieldType.int), 5, 111, [])
theorem d_Ip_loose_0 : decode prog_1_method_7_code 0 = .ok (.aload_n 0, 1) := zo_42 (zd_b zq_prog_1_method_7_code_0 0 rfl rfl rfl)
theorem d_Ip_loose_1 : decode prog_1_method_7_code 1 = .ok (.getfield 10, 3) := zo_180 (d := 0) (e := 10) (zd_b zq_prog_1_method_7_code_0 1 rfl rfl rfl) (zd_b zq_prog_1_method_7_code_0 2 rfl rfl rfl) (zd_b zq_prog_1_method_7_code_0 3 rfl rfl rfl)
theorem d_Ip_loose_4 : decode prog_1_method_7_code 4 = .ok (.invokevirtual 131, 3) := zo_182 (d := 0) (e := 131) (zd_b zq_prog_1_method_7_code_0 4 rfl rfl rfl) (zd_b zq_prog_1_method_7_code_0 5 rfl rfl rfl) (zd_b zq_prog_1_method_7_code_0 6 rfl rfl rfl)
theorem ok_Ip_loose_Pa_looseGroups : z_ok M_Ip_loose M_Pa_looseGroups 0 := ⟨z_mj2 (i := 141) rfl (by decide +kernel), rfl, ⟨by decide +kernel, by decide +kernel, by decide +kernel⟩, ⟨by decide, by decide⟩, z_mj1 (i := 2) rfl (by decide +kernel), rfl⟩
theorem ln_Ip_131 : Cond.methodLink "Ironpour" 131 M_Pa_looseGroups.1 ∈ z_gw := z_mj2 (i := 138) rfl (by decide +kernel)
theorem d_Ip_loose_7 : decode prog_1_method_7_code 7 = .ok (.ireturn, 1) := zo_172 (zd_b zq_prog_1_method_7_code_0 7 rfl rfl rfl)
set_option maxHeartbeats 4000000 in
set_option maxRecDepth 100000 in
theorem C_Ip_loose (g : zG) (a pa ta sa gs co fu la gy du re wm ac : Nat) (pa1 pa2 pa3 : Nat) (f sn : Nat → Int32) (qn : Nat → Nat) (p : Nat) : CT g M_Ip_loose [.ref a] [(a, .inr (11, [.ref pa, .ref ta, .ref sa, .ref gs, .ref co, .ref fu, .ref la, .ref gy, .ref du, .ref re, .ref wm, .ref ac])), (pa, .inr (8, [.ref pa1, .ref pa2, .ref pa3, .int (nI p)])), (pa1, .inl (1, 108, .inl f)), (pa2, .inl (2, 108, .inl sn)), (pa3, .inl (0, 108, .inl (fun k => nI (qn k))))] (fun o cs1 => o = .inl (some (.int (nI (grS f 2 (fa_fill (fun _ => 0) sn 108, qn, 0) 108).2.2))) ∧ cs1 = [(a, .inr (11, [.ref pa, .ref ta, .ref sa, .ref gs, .ref co, .ref fu, .ref la, .ref gy, .ref du, .ref re, .ref wm, .ref ac])), (pa, .inr (8, [.ref pa1, .ref pa2, .ref pa3, .int (nI p)])), (pa1, .inl (1, 108, .inl f)), (pa2, .inl (2, 108, .inl ((grS f 2 (fa_fill (fun _ => 0) sn 108, qn, 0) 108).1))), (pa3, .inl (0, 108, .inl (fun k => nI ((grS f 2 (fa_fill (fun _ => 0) sn 108, qn, 0) 108).2.1 k))))]) 0 0 := by
  refine z_of (by decide) rfl (Nat.le_of_ble_eq_true rfl) (fun w0 => ?_)
  refine r_lvE (lv2 := [(0, .ref a)]) rfl ?_
  refine r_aload_n d_Ip_loose_0 rfl 0 rfl ?_
  refine r_get fs_Ip_10 d_Ip_loose_1 (q0 := 0) rfl rfl ?_
  refine r_callV (As := []) (rest := []) (csC := [(pa, .inr (8, [.ref pa1, .ref pa2, .ref pa3, .int (nI p)])), (pa1, .inl (1, 108, .inl f)), (pa2, .inl (2, 108, .inl sn)), (pa3, .inl (0, 108, .inl (fun k => nI (qn k))))]) (is := [1, 2, 3, 4]) (q0 := 1) rfl rfl ln_Ip_131 w_im_Pa_looseGroups w_se_Pa_looseGroups ok_Ip_loose_Pa_looseGroups d_Ip_loose_4 (C_Pa_looseGroups g pa pa1 pa2 pa3 f sn qn (nI p)) rfl rfl (Nat.le_of_ble_eq_true rfl) rfl (by decide) (by omega) (by omega) (fun E cs1 hx => ?_) (fun v cs1 hx => ?_)
  · exact absurd hx.1 (by simp)
  · obtain ⟨e1, rfl⟩ := hx
    cases e1
    refine ⟨rfl, ?_⟩
    refine r_st (st2 := [.int (nI (grS f 2 (fa_fill (fun _ => 0) sn 108, qn, 0) 108).2.2)]) rfl ?_
    refine r_cs (cs2 := [(a, .inr (11, [.ref pa, .ref ta, .ref sa, .ref gs, .ref co, .ref fu, .ref la, .ref gy, .ref du, .ref re, .ref wm, .ref ac])), (pa, .inr (8, [.ref pa1, .ref pa2, .ref pa3, .int (nI p)])), (pa1, .inl (1, 108, .inl f)), (pa2, .inl (2, 108, .inl ((grS f 2 (fa_fill (fun _ => 0) sn 108, qn, 0) 108).1))), (pa3, .inl (0, 108, .inl (fun k => nI ((grS f 2 (fa_fill (fun _ => 0) sn 108, qn, 0) 108).2.1 k))))]) rfl ?_
    refine r_iret d_Ip_loose_7 rfl rfl ?_
    exact ⟨rfl, rfl⟩
abbrev M_Ip_weight : zM := (⟨"Ironpour", "weight", "()I"⟩, prog_1_method_8_code, 1, (Option.some FieldType.int), 3, 62, [])
theorem d_Ip_weight_0 : decode prog_1_method_8_code 0 = .ok (.aload_n 0, 1) := zo_42 (zd_b zq_prog_1_method_8_code_0 0 rfl rfl rfl)
theorem d_Ip_weight_1 : decode prog_1_method_8_code 1 = .ok (.getfield 10, 3) := zo_180 (d := 0) (e := 10) (zd_b zq_prog_1_method_8_code_0 1 rfl rfl rfl) (zd_b zq_prog_1_method_8_code_0 2 rfl rfl rfl) (zd_b zq_prog_1_method_8_code_0 3 rfl rfl rfl)
theorem d_Ip_weight_4 : decode prog_1_method_8_code 4 = .ok (.invokevirtual 134, 3) := zo_182 (d := 0) (e := 134) (zd_b zq_prog_1_method_8_code_0 4 rfl rfl rfl) (zd_b zq_prog_1_method_8_code_0 5 rfl rfl rfl) (zd_b zq_prog_1_method_8_code_0 6 rfl rfl rfl)
theorem ok_Ip_weight_Pa_metalCells : z_ok M_Ip_weight M_Pa_metalCells 0 := ⟨z_mj2 (i := 149) rfl (by decide +kernel), rfl, ⟨by decide +kernel, by decide +kernel, by decide +kernel⟩, ⟨by decide, by decide⟩, z_mj1 (i := 2) rfl (by decide +kernel), rfl⟩
theorem ln_Ip_134 : Cond.methodLink "Ironpour" 134 M_Pa_metalCells.1 ∈ z_gw := z_mj2 (i := 146) rfl (by decide +kernel)
theorem d_Ip_weight_7 : decode prog_1_method_8_code 7 = .ok (.invokestatic 137, 3) := zo_184 (d := 0) (e := 137) (zd_b zq_prog_1_method_8_code_0 7 rfl rfl rfl) (zd_b zq_prog_1_method_8_code_0 8 rfl rfl rfl) (zd_b zq_prog_1_method_8_code_0 9 rfl rfl rfl)
theorem ok_Ip_weight_Ip_kilogramsFor : z_ok M_Ip_weight M_Ip_kilogramsFor 1 := ⟨z_mj2 (i := 152) rfl (by decide +kernel), rfl, ⟨by decide +kernel, by decide +kernel, by decide +kernel⟩, ⟨by decide, by decide⟩, z_mj1 (i := 1) rfl (by decide +kernel), rfl⟩
theorem ln_Ip_137 : Cond.methodLink "Ironpour" 137 M_Ip_kilogramsFor.1 ∈ z_gw := z_mj2 (i := 150) rfl (by decide +kernel)
theorem w_st_Ip_kilogramsFor : Cond.static M_Ip_kilogramsFor.1 ∈ z_gw := z_mj2 (i := 151) rfl (by decide +kernel)
theorem d_Ip_weight_10 : decode prog_1_method_8_code 10 = .ok (.ireturn, 1) := zo_172 (zd_b zq_prog_1_method_8_code_0 10 rfl rfl rfl)
set_option maxHeartbeats 4000000 in
set_option maxRecDepth 100000 in
theorem C_Ip_weight (g : zG) (a pa ta sa gs co fu la gy du re wm ac : Nat) (pa1 pa2 pa3 : Nat) (f sn : Nat → Int32) (qn : Nat → Nat) (p : Nat) : CT g M_Ip_weight [.ref a] [(a, .inr (11, [.ref pa, .ref ta, .ref sa, .ref gs, .ref co, .ref fu, .ref la, .ref gy, .ref du, .ref re, .ref wm, .ref ac])), (pa, .inr (8, [.ref pa1, .ref pa2, .ref pa3, .int (nI p)])), (pa1, .inl (1, 108, .inl f)), (pa2, .inl (2, 108, .inl sn)), (pa3, .inl (0, 108, .inl (fun k => nI (qn k))))] (fun o cs1 => o = .inl (some (.int (2 * nI (fa_cnt (fun k => tmB (f k)) 108)))) ∧ cs1 = [(a, .inr (11, [.ref pa, .ref ta, .ref sa, .ref gs, .ref co, .ref fu, .ref la, .ref gy, .ref du, .ref re, .ref wm, .ref ac])), (pa, .inr (8, [.ref pa1, .ref pa2, .ref pa3, .int (nI p)])), (pa1, .inl (1, 108, .inl f)), (pa2, .inl (2, 108, .inl sn)), (pa3, .inl (0, 108, .inl (fun k => nI (qn k))))]) 0 0 := by
  refine z_of (by decide) rfl (Nat.le_of_ble_eq_true rfl) (fun w0 => ?_)
  refine r_lvE (lv2 := [(0, .ref a)]) rfl ?_
  refine r_aload_n d_Ip_weight_0 rfl 0 rfl ?_
  refine r_get fs_Ip_10 d_Ip_weight_1 (q0 := 0) rfl rfl ?_
  refine r_callV (As := []) (rest := []) (csC := [(pa, .inr (8, [.ref pa1, .ref pa2, .ref pa3, .int (nI p)])), (pa1, .inl (1, 108, .inl f)), (pa2, .inl (2, 108, .inl sn)), (pa3, .inl (0, 108, .inl (fun k => nI (qn k))))]) (is := [1, 2, 3, 4]) (q0 := 1) rfl rfl ln_Ip_134 w_im_Pa_metalCells w_se_Pa_metalCells ok_Ip_weight_Pa_metalCells d_Ip_weight_4 (C_Pa_metalCells g pa pa1 pa2 pa3 f sn (fun k => nI (qn k)) (nI p)) rfl rfl (Nat.le_of_ble_eq_true rfl) rfl (by decide) (by omega) (by omega) (fun E cs1 hx => ?_) (fun v cs1 hx => ?_)
  · exact absurd hx.1 (by simp)
  · obtain ⟨e1, rfl⟩ := hx
    cases e1
    refine ⟨rfl, ?_⟩
    refine r_st (st2 := [.int (nI (fa_cnt (fun k => tmB (f k)) 108))]) rfl ?_
    refine r_cs (cs2 := [(a, .inr (11, [.ref pa, .ref ta, .ref sa, .ref gs, .ref co, .ref fu, .ref la, .ref gy, .ref du, .ref re, .ref wm, .ref ac])), (pa, .inr (8, [.ref pa1, .ref pa2, .ref pa3, .int (nI p)])), (pa1, .inl (1, 108, .inl f)), (pa2, .inl (2, 108, .inl sn)), (pa3, .inl (0, 108, .inl (fun k => nI (qn k))))]) rfl ?_
    refine r_callS (As := [.int (nI (fa_cnt (fun k => tmB (f k)) 108))]) (rest := []) (csC := []) (is := []) ln_Ip_137 w_st_Ip_kilogramsFor ok_Ip_weight_Ip_kilogramsFor d_Ip_weight_7 (C_Ip_kilogramsFor g (nI (fa_cnt (fun k => tmB (f k)) 108))) rfl rfl (Nat.le_of_ble_eq_true rfl) rfl (by decide) (by omega) (by omega) (fun E cs1 hx => ?_) (fun v cs1 hx => ?_)
    · exact absurd hx.1 (by simp)
    · obtain ⟨e1, rfl⟩ := hx
      cases e1
      refine ⟨rfl, ?_⟩
      refine r_st (st2 := [.int (2 * nI (fa_cnt (fun k => tmB (f k)) 108))]) rfl ?_
      refine r_cs (cs2 := [(a, .inr (11, [.ref pa, .ref ta, .ref sa, .ref gs, .ref co, .ref fu, .ref la, .ref gy, .ref du, .ref re, .ref wm, .ref ac])), (pa, .inr (8, [.ref pa1, .ref pa2, .ref pa3, .int (nI p)])), (pa1, .inl (1, 108, .inl f)), (pa2, .inl (2, 108, .inl sn)), (pa3, .inl (0, 108, .inl (fun k => nI (qn k))))]) rfl ?_
      refine r_iret d_Ip_weight_10 rfl rfl ?_
      exact ⟨rfl, rfl⟩
abbrev M_Ip_cell : zM := (⟨"Ironpour", "cell", "(II)C"⟩, prog_1_method_3_code, 3, (Option.some FieldType.char), 7, 121, [])
theorem d_Ip_cell_0 : decode prog_1_method_3_code 0 = .ok (.aload_n 0, 1) := zo_42 (zd_b zq_prog_1_method_3_code_0 0 rfl rfl rfl)
theorem d_Ip_cell_1 : decode prog_1_method_3_code 1 = .ok (.getfield 10, 3) := zo_180 (d := 0) (e := 10) (zd_b zq_prog_1_method_3_code_0 1 rfl rfl rfl) (zd_b zq_prog_1_method_3_code_0 2 rfl rfl rfl) (zd_b zq_prog_1_method_3_code_0 3 rfl rfl rfl)
theorem d_Ip_cell_4 : decode prog_1_method_3_code 4 = .ok (.getfield 106, 3) := zo_180 (d := 0) (e := 106) (zd_b zq_prog_1_method_3_code_0 4 rfl rfl rfl) (zd_b zq_prog_1_method_3_code_0 5 rfl rfl rfl) (zd_b zq_prog_1_method_3_code_0 6 rfl rfl rfl)
theorem fs_Ip_106 : z_fs "Ironpour" 106 8 0 := ⟨R_Pa, "Ironpour$Pattern", F_Pa, 4, rfl, u_Pa, by decide, Or.inr ⟨"Ironpour", z_mk1 (i := 54) rfl (by decide +kernel), rfl⟩⟩
theorem d_Ip_cell_7 : decode prog_1_method_3_code 7 = .ok (.iload_n 1, 1) := zo_27 (zd_b zq_prog_1_method_3_code_0 7 rfl rfl rfl)
theorem d_Ip_cell_8 : decode prog_1_method_3_code 8 = .ok (.iload_n 2, 1) := zo_28 (zd_b zq_prog_1_method_3_code_0 8 rfl rfl rfl)
theorem d_Ip_cell_9 : decode prog_1_method_3_code 9 = .ok (.invokestatic 114, 3) := zo_184 (d := 0) (e := 114) (zd_b zq_prog_1_method_3_code_0 9 rfl rfl rfl) (zd_b zq_prog_1_method_3_code_0 10 rfl rfl rfl) (zd_b zq_prog_1_method_3_code_0 11 rfl rfl rfl)
theorem ok_Ip_cell_Ip_cellAt : z_ok M_Ip_cell M_Ip_cellAt 2 := ⟨z_mj4 (i := 22) rfl (by decide +kernel), rfl, ⟨by decide +kernel, by decide +kernel, by decide +kernel⟩, ⟨by decide, by decide⟩, z_mj1 (i := 1) rfl (by decide +kernel), rfl⟩
theorem ln_Ip_114 : Cond.methodLink "Ironpour" 114 M_Ip_cellAt.1 ∈ z_gw := z_mj4 (i := 20) rfl (by decide +kernel)
theorem w_st_Ip_cellAt : Cond.static M_Ip_cellAt.1 ∈ z_gw := z_mj4 (i := 21) rfl (by decide +kernel)
set_option maxHeartbeats 4000000 in
set_option maxRecDepth 100000 in
theorem C_Ip_cellE (g : zG) (a pa ta sa gs co fu la gy du re wm ac : Nat) (pa1 pa2 pa3 : Nat) (f sn : Nat → Int32) (qn : Nat → Nat) (p : Nat) (x y : Int32) (hz : z_cl x y = none) : CT g M_Ip_cell [.ref a, .int x, .int y] [(a, .inr (11, [.ref pa, .ref ta, .ref sa, .ref gs, .ref co, .ref fu, .ref la, .ref gy, .ref du, .ref re, .ref wm, .ref ac])), (pa, .inr (8, [.ref pa1, .ref pa2, .ref pa3, .int (nI p)])), (pa1, .inl (1, 108, .inl f)), (pa2, .inl (2, 108, .inl sn)), (pa3, .inl (0, 108, .inl (fun k => nI (qn k))))] (fun o cs1 => o = .inr "java/lang/IndexOutOfBoundsException" ∧ cs1 = [(a, .inr (11, [.ref pa, .ref ta, .ref sa, .ref gs, .ref co, .ref fu, .ref la, .ref gy, .ref du, .ref re, .ref wm, .ref ac])), (pa, .inr (8, [.ref pa1, .ref pa2, .ref pa3, .int (nI p)])), (pa1, .inl (1, 108, .inl f)), (pa2, .inl (2, 108, .inl sn)), (pa3, .inl (0, 108, .inl (fun k => nI (qn k))))]) 1 6 := by
  refine z_of (by decide) rfl (Nat.le_of_ble_eq_true rfl) (fun w0 => ?_)
  refine r_lvE (lv2 := [(0, .ref a), (1, .int x), (2, .int y)]) rfl ?_
  refine r_aload_n d_Ip_cell_0 rfl 0 rfl ?_
  refine r_get fs_Ip_10 d_Ip_cell_1 (q0 := 0) rfl rfl ?_
  refine r_get fs_Ip_106 d_Ip_cell_4 (q0 := 1) rfl rfl ?_
  refine r_iload_n d_Ip_cell_7 rfl 1 rfl ?_
  refine r_iload_n d_Ip_cell_8 rfl 2 rfl ?_
  refine r_callS (As := [.int x, .int y]) (rest := [.ref pa1]) (csC := []) (is := []) ln_Ip_114 w_st_Ip_cellAt ok_Ip_cell_Ip_cellAt d_Ip_cell_9 (C_Ip_cellAt g x y) rfl rfl (Nat.le_of_ble_eq_true rfl) rfl (by decide) (by omega) (by omega) (fun E cs1 hx => ?_) (fun v cs1 hx => ?_)
  · simp only [hz] at hx
    obtain ⟨e1, rfl⟩ := hx
    cases e1
    exact ⟨rfl, rfl, rfl⟩
  · simp only [hz] at hx
    exact absurd hx.1 (by simp)
theorem d_Ip_cell_12 : decode prog_1_method_3_code 12 = .ok (.caload, 1) := zo_52 (zd_b zq_prog_1_method_3_code_0 12 rfl rfl rfl)
theorem d_Ip_cell_13 : decode prog_1_method_3_code 13 = .ok (.ireturn, 1) := zo_172 (zd_b zq_prog_1_method_3_code_0 13 rfl rfl rfl)
set_option maxHeartbeats 4000000 in
set_option maxRecDepth 100000 in
theorem C_Ip_cellN (g : zG) (a pa ta sa gs co fu la gy du re wm ac : Nat) (pa1 pa2 pa3 : Nat) (f sn : Nat → Int32) (qn : Nat → Nat) (p : Nat) (x y : Int32) (c : Nat) (hz : z_cl x y = some c) (hf : z_ch f) : CT g M_Ip_cell [.ref a, .int x, .int y] [(a, .inr (11, [.ref pa, .ref ta, .ref sa, .ref gs, .ref co, .ref fu, .ref la, .ref gy, .ref du, .ref re, .ref wm, .ref ac])), (pa, .inr (8, [.ref pa1, .ref pa2, .ref pa3, .int (nI p)])), (pa1, .inl (1, 108, .inl f)), (pa2, .inl (2, 108, .inl sn)), (pa3, .inl (0, 108, .inl (fun k => nI (qn k))))] (fun o cs1 => o = .inl (some (.int (f c))) ∧ cs1 = [(a, .inr (11, [.ref pa, .ref ta, .ref sa, .ref gs, .ref co, .ref fu, .ref la, .ref gy, .ref du, .ref re, .ref wm, .ref ac])), (pa, .inr (8, [.ref pa1, .ref pa2, .ref pa3, .int (nI p)])), (pa1, .inl (1, 108, .inl f)), (pa2, .inl (2, 108, .inl sn)), (pa3, .inl (0, 108, .inl (fun k => nI (qn k))))]) 1 6 := by
  refine z_of (by decide) rfl (Nat.le_of_ble_eq_true rfl) (fun w0 => ?_)
  refine r_lvE (lv2 := [(0, .ref a), (1, .int x), (2, .int y)]) rfl ?_
  have hc := z_cl_lt hz
  refine r_aload_n d_Ip_cell_0 rfl 0 rfl ?_
  refine r_get fs_Ip_10 d_Ip_cell_1 (q0 := 0) rfl rfl ?_
  refine r_get fs_Ip_106 d_Ip_cell_4 (q0 := 1) rfl rfl ?_
  refine r_iload_n d_Ip_cell_7 rfl 1 rfl ?_
  refine r_iload_n d_Ip_cell_8 rfl 2 rfl ?_
  refine r_callS (As := [.int x, .int y]) (rest := [.ref pa1]) (csC := []) (is := []) ln_Ip_114 w_st_Ip_cellAt ok_Ip_cell_Ip_cellAt d_Ip_cell_9 (C_Ip_cellAt g x y) rfl rfl (Nat.le_of_ble_eq_true rfl) rfl (by decide) (by omega) (by omega) (fun E cs1 hx => ?_) (fun v cs1 hx => ?_)
  · simp only [hz] at hx
    exact absurd hx.1 (by simp)
  · simp only [hz] at hx
    obtain ⟨e1, rfl⟩ := hx
    cases e1
    refine ⟨rfl, ?_⟩
    refine r_st (st2 := [.int (nI c), .ref pa1]) rfl ?_
    refine r_cs (cs2 := [(a, .inr (11, [.ref pa, .ref ta, .ref sa, .ref gs, .ref co, .ref fu, .ref la, .ref gy, .ref du, .ref re, .ref wm, .ref ac])), (pa, .inr (8, [.ref pa1, .ref pa2, .ref pa3, .int (nI p)])), (pa1, .inl (1, 108, .inl f)), (pa2, .inl (2, 108, .inl sn)), (pa3, .inl (0, 108, .inl (fun k => nI (qn k))))]) rfl ?_
    refine r_cald d_Ip_cell_12 (q0 := 2) rfl (vp_in_nI (by omega) (by omega)) (v := f c) (by rw [nI_clamp (by omega)]) ?_
    refine r_iret d_Ip_cell_13 rfl (congrArg Value.int (z_kind_c (hf c hc))) ?_
    exact ⟨rfl, rfl⟩
abbrev M_Ip_part : zM := (⟨"Ironpour", "part", "(I)I"⟩, prog_1_method_4_code, 3, (Option.some FieldType.int), 6, 100, [])
theorem d_Ip_part_0 : decode prog_1_method_4_code 0 = .ok (.iload_n 1, 1) := zo_27 (zd_b zq_prog_1_method_4_code_0 0 rfl rfl rfl)
theorem d_Ip_part_1 : decode prog_1_method_4_code 1 = .ok (.iconst 1, 1) := zo_4 (zd_b zq_prog_1_method_4_code_0 1 rfl rfl rfl)
theorem d_Ip_part_2 : decode prog_1_method_4_code 2 = .ok (.if_icmp .lt 9, 3) := zo_161 (d := 0) (e := 9) (zd_b zq_prog_1_method_4_code_0 2 rfl rfl rfl) (zd_b zq_prog_1_method_4_code_0 3 rfl rfl rfl) (zd_b zq_prog_1_method_4_code_0 4 rfl rfl rfl) (by decide +kernel)
theorem d_Ip_part_11 : decode prog_1_method_4_code 11 = .ok (.new 89, 3) := zo_187 (d := 0) (e := 89) (zd_b zq_prog_1_method_4_code_0 11 rfl rfl rfl) (zd_b zq_prog_1_method_4_code_0 12 rfl rfl rfl) (zd_b zq_prog_1_method_4_code_0 13 rfl rfl rfl)
theorem sr_Ip_118 : Cond.stringRef "Ironpour" 118 "the parting is above a row from 1 to 8" ∈ lw_tbl := z_tb4 (i := 43) rfl
theorem d_Ip_part_14 : decode prog_1_method_4_code 14 = .ok (.dup, 1) := zo_89 (zd_b zq_prog_1_method_4_code_0 14 rfl rfl rfl)
theorem d_Ip_part_15 : decode prog_1_method_4_code 15 = .ok (.ldc 118, 2) := zo_18 (d := 118) (zd_b zq_prog_1_method_4_code_0 15 rfl rfl rfl) (zd_b zq_prog_1_method_4_code_0 16 rfl rfl rfl)
theorem d_Ip_part_17 : decode prog_1_method_4_code 17 = .ok (.invokespecial 93, 3) := zo_183 (d := 0) (e := 93) (zd_b zq_prog_1_method_4_code_0 17 rfl rfl rfl) (zd_b zq_prog_1_method_4_code_0 18 rfl rfl rfl) (zd_b zq_prog_1_method_4_code_0 19 rfl rfl rfl)
theorem d_Ip_part_20 : decode prog_1_method_4_code 20 = .ok (.athrow, 1) := zo_191 (zd_b zq_prog_1_method_4_code_0 20 rfl rfl rfl)
theorem d_Ip_part_5 : decode prog_1_method_4_code 5 = .ok (.iload_n 1, 1) := zo_27 (zd_b zq_prog_1_method_4_code_0 5 rfl rfl rfl)
theorem d_Ip_part_6 : decode prog_1_method_4_code 6 = .ok (.bipush 9, 2) := zo_16 (d := 9) (zd_b zq_prog_1_method_4_code_0 6 rfl rfl rfl) (zd_b zq_prog_1_method_4_code_0 7 rfl rfl rfl) (by decide +kernel)
theorem d_Ip_part_8 : decode prog_1_method_4_code 8 = .ok (.if_icmp .lt 13, 3) := zo_161 (d := 0) (e := 13) (zd_b zq_prog_1_method_4_code_0 8 rfl rfl rfl) (zd_b zq_prog_1_method_4_code_0 9 rfl rfl rfl) (zd_b zq_prog_1_method_4_code_0 10 rfl rfl rfl) (by decide +kernel)
set_option maxHeartbeats 4000000 in
set_option maxRecDepth 100000 in
theorem C_Ip_partE (g : zG) (a pa ta sa gs co fu la gy du re wm ac : Nat) (pa1 pa2 pa3 : Nat) (f sn : Nat → Int32) (qn : Nat → Nat) (p : Nat) (r : Int32) (hr : r < 1 ∨ 9 ≤ r) : CT g M_Ip_part [.ref a, .int r] [(a, .inr (11, [.ref pa, .ref ta, .ref sa, .ref gs, .ref co, .ref fu, .ref la, .ref gy, .ref du, .ref re, .ref wm, .ref ac])), (pa, .inr (8, [.ref pa1, .ref pa2, .ref pa3, .int (nI p)])), (pa1, .inl (1, 108, .inl f)), (pa2, .inl (2, 108, .inl sn)), (pa3, .inl (0, 108, .inl (fun k => nI (qn k))))] (fun o cs1 => o = .inr "java/lang/IllegalArgumentException" ∧ cs1 = [(a, .inr (11, [.ref pa, .ref ta, .ref sa, .ref gs, .ref co, .ref fu, .ref la, .ref gy, .ref du, .ref re, .ref wm, .ref ac])), (pa, .inr (8, [.ref pa1, .ref pa2, .ref pa3, .int (nI p)])), (pa1, .inl (1, 108, .inl f)), (pa2, .inl (2, 108, .inl sn)), (pa3, .inl (0, 108, .inl (fun k => nI (qn k))))]) 1 6 := by
  refine z_of (by decide) rfl (Nat.le_of_ble_eq_true rfl) (fun w0 => ?_)
  refine r_lvE (lv2 := [(0, .ref a), (1, .int r)]) rfl ?_
  refine r_iload_n d_Ip_part_0 rfl 1 rfl ?_
  refine r_iconst d_Ip_part_1 (v := 1) (by decide) ?_
  refine r_icmp_lt (tgt := 11) d_Ip_part_2 (by decide) (fun c_2 => ?_) (fun c_2 => ?_)
  · refine r_throw tb_Ip_89_93 sr_Ip_118 d_Ip_part_11 d_Ip_part_14 d_Ip_part_15 d_Ip_part_17 d_Ip_part_20 rfl (by decide) (by decide) (Nat.le_of_ble_eq_true rfl) (by omega) (by omega) ?_
    exact ⟨rfl, rfl⟩
  · refine r_iload_n d_Ip_part_5 rfl 1 rfl ?_
    refine r_bipush d_Ip_part_6 (v := 9) (by decide) ?_
    refine r_icmp_lt (tgt := 21) d_Ip_part_8 (by decide) (fun c_8 => ?_) (fun c_8 => ?_)
    · exact absurd hr (fun q => q.elim c_2 (fun e => absurd c_8 (Int32.not_lt.mpr e)))
    · refine r_throw tb_Ip_89_93 sr_Ip_118 d_Ip_part_11 d_Ip_part_14 d_Ip_part_15 d_Ip_part_17 d_Ip_part_20 rfl (by decide) (by decide) (Nat.le_of_ble_eq_true rfl) (by omega) (by omega) ?_
      exact ⟨rfl, rfl⟩
theorem d_Ip_part_21 : decode prog_1_method_4_code 21 = .ok (.aload_n 0, 1) := zo_42 (zd_b zq_prog_1_method_4_code_0 21 rfl rfl rfl)
theorem d_Ip_part_22 : decode prog_1_method_4_code 22 = .ok (.getfield 10, 3) := zo_180 (d := 0) (e := 10) (zd_b zq_prog_1_method_4_code_0 22 rfl rfl rfl) (zd_b zq_prog_1_method_4_code_0 23 rfl rfl rfl) (zd_b zq_prog_1_method_4_code_0 24 rfl rfl rfl)
theorem d_Ip_part_25 : decode prog_1_method_4_code 25 = .ok (.getfield 120, 3) := zo_180 (d := 0) (e := 120) (zd_b zq_prog_1_method_4_code_0 25 rfl rfl rfl) (zd_b zq_prog_1_method_4_code_0 26 rfl rfl rfl) (zd_b zq_prog_1_method_4_code_0 27 rfl rfl rfl)
theorem fs_Ip_120 : z_fs "Ironpour" 120 8 3 := ⟨R_Pa, "Ironpour$Pattern", F_Pa, 4, rfl, u_Pa, by decide, Or.inr ⟨"Ironpour", z_mk1 (i := 58) rfl (by decide +kernel), rfl⟩⟩
theorem d_Ip_part_28 : decode prog_1_method_4_code 28 = .ok (.istore_n 2, 1) := zo_61 (zd_b zq_prog_1_method_4_code_0 28 rfl rfl rfl)
theorem d_Ip_part_29 : decode prog_1_method_4_code 29 = .ok (.aload_n 0, 1) := zo_42 (zd_b zq_prog_1_method_4_code_0 29 rfl rfl rfl)
theorem d_Ip_part_30 : decode prog_1_method_4_code 30 = .ok (.getfield 10, 3) := zo_180 (d := 0) (e := 10) (zd_b zq_prog_1_method_4_code_0 30 rfl rfl rfl) (zd_b zq_prog_1_method_4_code_0 31 rfl rfl rfl) (zd_b zq_prog_1_method_4_code_1 0 rfl rfl rfl)
theorem d_Ip_part_33 : decode prog_1_method_4_code 33 = .ok (.iload_n 1, 1) := zo_27 (zd_b zq_prog_1_method_4_code_1 1 rfl rfl rfl)
theorem d_Ip_part_34 : decode prog_1_method_4_code 34 = .ok (.putfield 120, 3) := zo_181 (d := 0) (e := 120) (zd_b zq_prog_1_method_4_code_1 2 rfl rfl rfl) (zd_b zq_prog_1_method_4_code_1 3 rfl rfl rfl) (zd_b zq_prog_1_method_4_code_1 4 rfl rfl rfl)
theorem fp_Ip_120 : z_fp "Ironpour" 120 8 3 false .int := ⟨R_Pa, "Ironpour$Pattern", F_Pa, 4, t_Pa, rfl, u_Pa, by decide, t_Pa_ok, n_Pa, rfl, rfl, Or.inr ⟨rfl, "Ironpour", z_mk1 (i := 58) rfl (by decide +kernel), rfl⟩⟩
theorem d_Ip_part_37 : decode prog_1_method_4_code 37 = .ok (.iload_n 2, 1) := zo_28 (zd_b zq_prog_1_method_4_code_1 5 rfl rfl rfl)
theorem d_Ip_part_38 : decode prog_1_method_4_code 38 = .ok (.ireturn, 1) := zo_172 (zd_b zq_prog_1_method_4_code_1 6 rfl rfl rfl)
set_option maxHeartbeats 4000000 in
set_option maxRecDepth 100000 in
theorem C_Ip_partN (g : zG) (a pa ta sa gs co fu la gy du re wm ac : Nat) (pa1 pa2 pa3 : Nat) (f sn : Nat → Int32) (qn : Nat → Nat) (p : Nat) (r : Int32) (hr : ¬ (r < 1 ∨ 9 ≤ r)) : CT g M_Ip_part [.ref a, .int r] [(a, .inr (11, [.ref pa, .ref ta, .ref sa, .ref gs, .ref co, .ref fu, .ref la, .ref gy, .ref du, .ref re, .ref wm, .ref ac])), (pa, .inr (8, [.ref pa1, .ref pa2, .ref pa3, .int (nI p)])), (pa1, .inl (1, 108, .inl f)), (pa2, .inl (2, 108, .inl sn)), (pa3, .inl (0, 108, .inl (fun k => nI (qn k))))] (fun o cs1 => o = .inl (some (.int (nI p))) ∧ cs1 = [(a, .inr (11, [.ref pa, .ref ta, .ref sa, .ref gs, .ref co, .ref fu, .ref la, .ref gy, .ref du, .ref re, .ref wm, .ref ac])), (pa, .inr (8, [.ref pa1, .ref pa2, .ref pa3, .int r])), (pa1, .inl (1, 108, .inl f)), (pa2, .inl (2, 108, .inl sn)), (pa3, .inl (0, 108, .inl (fun k => nI (qn k))))]) 1 6 := by
  refine z_of (by decide) rfl (Nat.le_of_ble_eq_true rfl) (fun w0 => ?_)
  refine r_lvE (lv2 := [(0, .ref a), (1, .int r)]) rfl ?_
  refine r_iload_n d_Ip_part_0 rfl 1 rfl ?_
  refine r_iconst d_Ip_part_1 (v := 1) (by decide) ?_
  refine r_icmp_lt (tgt := 11) d_Ip_part_2 (by decide) (fun c_2 => ?_) (fun c_2 => ?_)
  · exact absurd (Or.inl c_2) hr
  · refine r_iload_n d_Ip_part_5 rfl 1 rfl ?_
    refine r_bipush d_Ip_part_6 (v := 9) (by decide) ?_
    refine r_icmp_lt (tgt := 21) d_Ip_part_8 (by decide) (fun c_8 => ?_) (fun c_8 => ?_)
    · refine r_aload_n d_Ip_part_21 rfl 0 rfl ?_
      refine r_get fs_Ip_10 d_Ip_part_22 (q0 := 0) rfl rfl ?_
      refine r_get fs_Ip_120 d_Ip_part_25 (q0 := 1) rfl rfl ?_
      refine r_istore_n (lv' := [(2, .int (nI p)), (0, .ref a), (1, .int r)]) d_Ip_part_28 rfl (by decide) rfl ?_
      refine r_aload_n d_Ip_part_29 rfl 1 rfl ?_
      refine r_get fs_Ip_10 d_Ip_part_30 (q0 := 0) rfl rfl ?_
      refine r_iload_n d_Ip_part_33 rfl 2 rfl ?_
      refine r_put fp_Ip_120 d_Ip_part_34 (fun h => nomatch h) rfl rfl (q0 := 1) rfl (Nat.le_of_ble_eq_true rfl) (cs' := [(a, .inr (11, [.ref pa, .ref ta, .ref sa, .ref gs, .ref co, .ref fu, .ref la, .ref gy, .ref du, .ref re, .ref wm, .ref ac])), (pa, .inr (8, [.ref pa1, .ref pa2, .ref pa3, .int r])), (pa1, .inl (1, 108, .inl f)), (pa2, .inl (2, 108, .inl sn)), (pa3, .inl (0, 108, .inl (fun k => nI (qn k))))]) rfl ?_
      refine r_iload_n d_Ip_part_37 rfl 0 rfl ?_
      refine r_iret d_Ip_part_38 rfl rfl ?_
      exact ⟨rfl, rfl⟩
    · exact absurd (Or.inr (Int32.not_lt.mp c_8)) hr
abbrev M_Ip_speed : zM := (⟨"Ironpour", "speed", "()I"⟩, prog_1_method_10_code, 1, (Option.some FieldType.int), 6, 100, [])
theorem d_Ip_speed_0 : decode prog_1_method_10_code 0 = .ok (.aload_n 0, 1) := zo_42 (zd_b zq_prog_1_method_10_code_0 0 rfl rfl rfl)
theorem d_Ip_speed_1 : decode prog_1_method_10_code 1 = .ok (.getfield 10, 3) := zo_180 (d := 0) (e := 10) (zd_b zq_prog_1_method_10_code_0 1 rfl rfl rfl) (zd_b zq_prog_1_method_10_code_0 2 rfl rfl rfl) (zd_b zq_prog_1_method_10_code_0 3 rfl rfl rfl)
theorem d_Ip_speed_4 : decode prog_1_method_10_code 4 = .ok (.invokevirtual 147, 3) := zo_182 (d := 0) (e := 147) (zd_b zq_prog_1_method_10_code_0 4 rfl rfl rfl) (zd_b zq_prog_1_method_10_code_0 5 rfl rfl rfl) (zd_b zq_prog_1_method_10_code_0 6 rfl rfl rfl)
theorem ok_Ip_speed_Pa_gatesOnTop : z_ok M_Ip_speed M_Pa_gatesOnTop 0 := ⟨z_mj4 (i := 63) rfl (by decide +kernel), rfl, ⟨by decide +kernel, by decide +kernel, by decide +kernel⟩, ⟨by decide, by decide⟩, z_mj1 (i := 2) rfl (by decide +kernel), rfl⟩
theorem ln_Ip_147 : Cond.methodLink "Ironpour" 147 M_Pa_gatesOnTop.1 ∈ z_gw := z_mj4 (i := 60) rfl (by decide +kernel)
theorem d_Ip_speed_7 : decode prog_1_method_10_code 7 = .ok (.ifCond .ne 13, 3) := zo_154 (d := 0) (e := 13) (zd_b zq_prog_1_method_10_code_0 7 rfl rfl rfl) (zd_b zq_prog_1_method_10_code_0 8 rfl rfl rfl) (zd_b zq_prog_1_method_10_code_0 9 rfl rfl rfl) (by decide +kernel)
theorem d_Ip_speed_10 : decode prog_1_method_10_code 10 = .ok (.new 150, 3) := zo_187 (d := 0) (e := 150) (zd_b zq_prog_1_method_10_code_0 10 rfl rfl rfl) (zd_b zq_prog_1_method_10_code_0 11 rfl rfl rfl) (zd_b zq_prog_1_method_10_code_0 12 rfl rfl rfl)
theorem tb_Ip_150_154 : z_tbX "Ironpour" 150 154 "java/util/NoSuchElementException" := ⟨by decide +kernel, z_mj4 (i := 64) rfl (by decide +kernel), z_mj1 (i := 29) rfl (by decide +kernel), fun w h => ((z_at [(1, 21), (3, 163), (3, 172), (3, 180), (3, 183), (3, 185), (3, 164), (3, 165), (1, 44), (1, 45), (3, 166), (3, 171), (3, 181), (3, 201), (3, 153), (3, 202), (3, 155), (3, 203), (3, 157), (3, 167), (3, 169), (3, 159), (3, 197), (3, 198), (3, 200), (3, 159), (4, 75), (4, 76), (4, 77), (3, 191), (3, 145), (3, 191), (3, 192), (3, 193), (3, 194), (3, 147), (3, 194), (3, 195), (3, 196), (3, 197), (3, 149), (4, 74), (4, 65), (4, 66), (4, 67), (3, 179), (4, 68), (4, 69), (4, 70), (4, 71), (3, 162), (3, 161), (4, 72)] (by decide +kernel) (by decide +kernel) : ∀ w ∈ (zx_at "Ironpour" 154 "java/util/NoSuchElementException" 13 zx_rx "java/lang/RuntimeException" ["java/lang/Exception"]).filter vx_no, w ∈ lw_tbl ∧ (goodWord w || z_isN w) = true) w h).elim (fun h1 h2 => (Bool.or_eq_true _ _ ▸ h2).elim (fun h3 => Or.inl (List.mem_filter.mpr ⟨h1, h3⟩)) (fun h3 => Or.inr (List.mem_filter.mpr ⟨h1, h3⟩))), by decide +kernel⟩
theorem sr_Ip_152 : Cond.stringRef "Ironpour" 152 "no gate in the row 0" ∈ lw_tbl := z_tb4 (i := 73) rfl
theorem d_Ip_speed_13 : decode prog_1_method_10_code 13 = .ok (.dup, 1) := zo_89 (zd_b zq_prog_1_method_10_code_0 13 rfl rfl rfl)
theorem d_Ip_speed_14 : decode prog_1_method_10_code 14 = .ok (.ldc 152, 2) := zo_18 (d := 152) (zd_b zq_prog_1_method_10_code_0 14 rfl rfl rfl) (zd_b zq_prog_1_method_10_code_0 15 rfl rfl rfl)
theorem d_Ip_speed_16 : decode prog_1_method_10_code 16 = .ok (.invokespecial 154, 3) := zo_183 (d := 0) (e := 154) (zd_b zq_prog_1_method_10_code_0 16 rfl rfl rfl) (zd_b zq_prog_1_method_10_code_0 17 rfl rfl rfl) (zd_b zq_prog_1_method_10_code_0 18 rfl rfl rfl)
theorem d_Ip_speed_19 : decode prog_1_method_10_code 19 = .ok (.athrow, 1) := zo_191 (zd_b zq_prog_1_method_10_code_0 19 rfl rfl rfl)
set_option maxHeartbeats 4000000 in
set_option maxRecDepth 100000 in
theorem C_Ip_speedE (g : zG) (a pa ta sa gs co fu la gy du re wm ac : Nat) (pa1 pa2 pa3 : Nat) (f sn : Nat → Int32) (qn : Nat → Nat) (p : Nat) (hg : fa_cnt (fun k => decide (f k = 103)) 12 = 0) : CT g M_Ip_speed [.ref a] [(a, .inr (11, [.ref pa, .ref ta, .ref sa, .ref gs, .ref co, .ref fu, .ref la, .ref gy, .ref du, .ref re, .ref wm, .ref ac])), (pa, .inr (8, [.ref pa1, .ref pa2, .ref pa3, .int (nI p)])), (pa1, .inl (1, 108, .inl f)), (pa2, .inl (2, 108, .inl sn)), (pa3, .inl (0, 108, .inl (fun k => nI (qn k))))] (fun o cs1 => o = .inr "java/util/NoSuchElementException" ∧ cs1 = [(a, .inr (11, [.ref pa, .ref ta, .ref sa, .ref gs, .ref co, .ref fu, .ref la, .ref gy, .ref du, .ref re, .ref wm, .ref ac])), (pa, .inr (8, [.ref pa1, .ref pa2, .ref pa3, .int (nI p)])), (pa1, .inl (1, 108, .inl f)), (pa2, .inl (2, 108, .inl sn)), (pa3, .inl (0, 108, .inl (fun k => nI (qn k))))]) 1 6 := by
  refine z_of (by decide) rfl (Nat.le_of_ble_eq_true rfl) (fun w0 => ?_)
  refine r_lvE (lv2 := [(0, .ref a)]) rfl ?_
  refine r_aload_n d_Ip_speed_0 rfl 0 rfl ?_
  refine r_get fs_Ip_10 d_Ip_speed_1 (q0 := 0) rfl rfl ?_
  refine r_callV (As := []) (rest := []) (csC := [(pa, .inr (8, [.ref pa1, .ref pa2, .ref pa3, .int (nI p)])), (pa1, .inl (1, 108, .inl f)), (pa2, .inl (2, 108, .inl sn)), (pa3, .inl (0, 108, .inl (fun k => nI (qn k))))]) (is := [1, 2, 3, 4]) (q0 := 1) rfl rfl ln_Ip_147 w_im_Pa_gatesOnTop w_se_Pa_gatesOnTop ok_Ip_speed_Pa_gatesOnTop d_Ip_speed_4 (C_Pa_gatesOnTop g pa pa1 pa2 pa3 f sn (fun k => nI (qn k)) (nI p)) rfl rfl (Nat.le_of_ble_eq_true rfl) rfl (by decide) (by omega) (by omega) (fun E cs1 hx => ?_) (fun v cs1 hx => ?_)
  · exact absurd hx.1 (by simp)
  · obtain ⟨e1, rfl⟩ := hx
    cases e1
    refine ⟨rfl, ?_⟩
    refine r_st (st2 := [.int (nI (fa_cnt (fun k => decide (f k = 103)) 12))]) rfl ?_
    refine r_cs (cs2 := [(a, .inr (11, [.ref pa, .ref ta, .ref sa, .ref gs, .ref co, .ref fu, .ref la, .ref gy, .ref du, .ref re, .ref wm, .ref ac])), (pa, .inr (8, [.ref pa1, .ref pa2, .ref pa3, .int (nI p)])), (pa1, .inl (1, 108, .inl f)), (pa2, .inl (2, 108, .inl sn)), (pa3, .inl (0, 108, .inl (fun k => nI (qn k))))]) rfl ?_
    refine r_if_ne (tgt := 20) d_Ip_speed_7 (by decide) (fun c_7 => ?_) (fun c_7 => ?_)
    · exact absurd (by rw [hg]; rfl) c_7
    · refine r_throwX tb_Ip_150_154 sr_Ip_152 d_Ip_speed_10 d_Ip_speed_13 d_Ip_speed_14 d_Ip_speed_16 d_Ip_speed_19 rfl (by decide) (by decide) (Nat.le_of_ble_eq_true rfl) (by omega) (by omega) ?_
      exact ⟨rfl, rfl⟩
theorem d_Ip_speed_20 : decode prog_1_method_10_code 20 = .ok (.aload_n 0, 1) := zo_42 (zd_b zq_prog_1_method_10_code_0 20 rfl rfl rfl)
theorem d_Ip_speed_21 : decode prog_1_method_10_code 21 = .ok (.getfield 10, 3) := zo_180 (d := 0) (e := 10) (zd_b zq_prog_1_method_10_code_0 21 rfl rfl rfl) (zd_b zq_prog_1_method_10_code_0 22 rfl rfl rfl) (zd_b zq_prog_1_method_10_code_0 23 rfl rfl rfl)
theorem d_Ip_speed_24 : decode prog_1_method_10_code 24 = .ok (.invokevirtual 155, 3) := zo_182 (d := 0) (e := 155) (zd_b zq_prog_1_method_10_code_0 24 rfl rfl rfl) (zd_b zq_prog_1_method_10_code_0 25 rfl rfl rfl) (zd_b zq_prog_1_method_10_code_0 26 rfl rfl rfl)
theorem ok_Ip_speed_Pa_runningSpeed : z_ok M_Ip_speed M_Pa_runningSpeed 0 := ⟨z_mj4 (i := 83) rfl (by decide +kernel), rfl, ⟨by decide +kernel, by decide +kernel, by decide +kernel⟩, ⟨by decide, by decide⟩, z_mj1 (i := 2) rfl (by decide +kernel), rfl⟩
theorem ln_Ip_155 : Cond.methodLink "Ironpour" 155 M_Pa_runningSpeed.1 ∈ z_gw := z_mj4 (i := 80) rfl (by decide +kernel)
theorem d_Ip_speed_27 : decode prog_1_method_10_code 27 = .ok (.ireturn, 1) := zo_172 (zd_b zq_prog_1_method_10_code_0 27 rfl rfl rfl)
set_option maxHeartbeats 4000000 in
set_option maxRecDepth 100000 in
theorem C_Ip_speedN (g : zG) (a pa ta sa gs co fu la gy du re wm ac : Nat) (pa1 pa2 pa3 : Nat) (f sn : Nat → Int32) (qn : Nat → Nat) (p : Nat) (hg : ¬ fa_cnt (fun k => decide (f k = 103)) 12 = 0) : CT g M_Ip_speed [.ref a] [(a, .inr (11, [.ref pa, .ref ta, .ref sa, .ref gs, .ref co, .ref fu, .ref la, .ref gy, .ref du, .ref re, .ref wm, .ref ac])), (pa, .inr (8, [.ref pa1, .ref pa2, .ref pa3, .int (nI p)])), (pa1, .inl (1, 108, .inl f)), (pa2, .inl (2, 108, .inl sn)), (pa3, .inl (0, 108, .inl (fun k => nI (qn k))))] (fun o cs1 => o = .inl (some (.int (rsR f))) ∧ cs1 = [(a, .inr (11, [.ref pa, .ref ta, .ref sa, .ref gs, .ref co, .ref fu, .ref la, .ref gy, .ref du, .ref re, .ref wm, .ref ac])), (pa, .inr (8, [.ref pa1, .ref pa2, .ref pa3, .int (nI p)])), (pa1, .inl (1, 108, .inl f)), (pa2, .inl (2, 108, .inl sn)), (pa3, .inl (0, 108, .inl (fun k => nI (qn k))))]) 1 6 := by
  refine z_of (by decide) rfl (Nat.le_of_ble_eq_true rfl) (fun w0 => ?_)
  refine r_lvE (lv2 := [(0, .ref a)]) rfl ?_
  refine r_aload_n d_Ip_speed_0 rfl 0 rfl ?_
  refine r_get fs_Ip_10 d_Ip_speed_1 (q0 := 0) rfl rfl ?_
  refine r_callV (As := []) (rest := []) (csC := [(pa, .inr (8, [.ref pa1, .ref pa2, .ref pa3, .int (nI p)])), (pa1, .inl (1, 108, .inl f)), (pa2, .inl (2, 108, .inl sn)), (pa3, .inl (0, 108, .inl (fun k => nI (qn k))))]) (is := [1, 2, 3, 4]) (q0 := 1) rfl rfl ln_Ip_147 w_im_Pa_gatesOnTop w_se_Pa_gatesOnTop ok_Ip_speed_Pa_gatesOnTop d_Ip_speed_4 (C_Pa_gatesOnTop g pa pa1 pa2 pa3 f sn (fun k => nI (qn k)) (nI p)) rfl rfl (Nat.le_of_ble_eq_true rfl) rfl (by decide) (by omega) (by omega) (fun E cs1 hx => ?_) (fun v cs1 hx => ?_)
  · exact absurd hx.1 (by simp)
  · obtain ⟨e1, rfl⟩ := hx
    cases e1
    refine ⟨rfl, ?_⟩
    refine r_st (st2 := [.int (nI (fa_cnt (fun k => decide (f k = 103)) 12))]) rfl ?_
    refine r_cs (cs2 := [(a, .inr (11, [.ref pa, .ref ta, .ref sa, .ref gs, .ref co, .ref fu, .ref la, .ref gy, .ref du, .ref re, .ref wm, .ref ac])), (pa, .inr (8, [.ref pa1, .ref pa2, .ref pa3, .int (nI p)])), (pa1, .inl (1, 108, .inl f)), (pa2, .inl (2, 108, .inl sn)), (pa3, .inl (0, 108, .inl (fun k => nI (qn k))))]) rfl ?_
    refine r_if_ne (tgt := 20) d_Ip_speed_7 (by decide) (fun c_7 => ?_) (fun c_7 => ?_)
    · refine r_aload_n d_Ip_speed_20 rfl 0 rfl ?_
      refine r_get fs_Ip_10 d_Ip_speed_21 (q0 := 0) rfl rfl ?_
      refine r_callV (As := []) (rest := []) (csC := [(pa, .inr (8, [.ref pa1, .ref pa2, .ref pa3, .int (nI p)])), (pa1, .inl (1, 108, .inl f)), (pa2, .inl (2, 108, .inl sn)), (pa3, .inl (0, 108, .inl (fun k => nI (qn k))))]) (is := [1, 2, 3, 4]) (q0 := 1) rfl rfl ln_Ip_155 w_im_Pa_runningSpeed w_se_Pa_runningSpeed ok_Ip_speed_Pa_runningSpeed d_Ip_speed_24 (C_Pa_runningSpeed g pa pa1 pa2 pa3 f sn (fun k => nI (qn k)) (nI p)) rfl rfl (Nat.le_of_ble_eq_true rfl) rfl (by decide) (by omega) (by omega) (fun E cs1 hx => ?_) (fun v cs1 hx => ?_)
      · exact absurd hx.1 (by simp)
      · obtain ⟨e1, rfl⟩ := hx
        cases e1
        refine ⟨rfl, ?_⟩
        refine r_st (st2 := [.int (rsR f)]) rfl ?_
        refine r_cs (cs2 := [(a, .inr (11, [.ref pa, .ref ta, .ref sa, .ref gs, .ref co, .ref fu, .ref la, .ref gy, .ref du, .ref re, .ref wm, .ref ac])), (pa, .inr (8, [.ref pa1, .ref pa2, .ref pa3, .int (nI p)])), (pa1, .inl (1, 108, .inl f)), (pa2, .inl (2, 108, .inl sn)), (pa3, .inl (0, 108, .inl (fun k => nI (qn k))))]) rfl ?_
        refine r_iret d_Ip_speed_27 rfl rfl ?_
        exact ⟨rfl, rfl⟩
    · exact absurd (z_eqn (b := 0) (by have := fa_cnt_le (fun k => decide (f k = 103)) 12; omega) (by decide) c_7) hg
abbrev M_Ip_filledIn : zM := (⟨"Ironpour", "filledIn", "(II)I"⟩, prog_1_method_9_code, 4, (Option.some FieldType.int), 7, 121, [])
theorem d_Ip_filledIn_0 : decode prog_1_method_9_code 0 = .ok (.iload_n 1, 1) := zo_27 (zd_b zq_prog_1_method_9_code_0 0 rfl rfl rfl)
theorem d_Ip_filledIn_1 : decode prog_1_method_9_code 1 = .ok (.iload_n 2, 1) := zo_28 (zd_b zq_prog_1_method_9_code_0 1 rfl rfl rfl)
theorem d_Ip_filledIn_2 : decode prog_1_method_9_code 2 = .ok (.invokestatic 114, 3) := zo_184 (d := 0) (e := 114) (zd_b zq_prog_1_method_9_code_0 2 rfl rfl rfl) (zd_b zq_prog_1_method_9_code_0 3 rfl rfl rfl) (zd_b zq_prog_1_method_9_code_0 4 rfl rfl rfl)
theorem ok_Ip_filledIn_Ip_cellAt : z_ok M_Ip_filledIn M_Ip_cellAt 2 := ⟨z_mj4 (i := 22) rfl (by decide +kernel), rfl, ⟨by decide +kernel, by decide +kernel, by decide +kernel⟩, ⟨by decide, by decide⟩, z_mj1 (i := 1) rfl (by decide +kernel), rfl⟩
set_option maxHeartbeats 4000000 in
set_option maxRecDepth 100000 in
theorem C_Ip_filledInE (g : zG) (a pa ta sa gs co fu la gy du re wm ac : Nat) (ta1 ta2 taz taz1 taz2 taz3 taz4 taz5 taz6 ta4 ta5 ta6 : Nat) (X : zTr) (x y : Int32) (hz : z_cl x y = none) : CT g M_Ip_filledIn [.ref a, .int x, .int y] [(a, .inr (11, [.ref pa, .ref ta, .ref sa, .ref gs, .ref co, .ref fu, .ref la, .ref gy, .ref du, .ref re, .ref wm, .ref ac])), (ta, .inr (10, [.ref ta1, .ref ta2, .ref taz, .ref ta4, .ref ta5, .ref ta6, .int X.1.2.2.1, .int X.1.2.2.2])), (ta1, .inl (1, 108, .inl X.1.1)), (ta2, .inl (0, 108, .inl X.1.2.1)), (taz, .inr (2, [.ref taz1, .ref taz2, .ref taz3, .ref taz4, .ref taz5, .ref taz6, .int X.2.1.1.1.2.2.2])), (taz1, .inl (0, 108, .inl X.2.1.1.1.1)), (taz2, .inl (0, 108, .inl X.2.1.1.2)), (taz3, .inl (0, 108, .inl X.2.1.1.1.2.1)), (taz4, .inl (0, 108, .inl X.2.1.1.1.2.2.1)), (taz5, .inl (0, 108, .inl X.2.1.2.1)), (taz6, .inl (0, 108, .inl X.2.1.2.2)), (ta4, .inl (2, 108, .inl X.2.2.1)), (ta5, .inl (2, 108, .inl X.2.2.2.1)), (ta6, .inl (0, 108, .inl (fun k => nI (X.2.2.2.2 k))))] (fun o cs1 => o = .inr "java/lang/IndexOutOfBoundsException" ∧ cs1 = [(a, .inr (11, [.ref pa, .ref ta, .ref sa, .ref gs, .ref co, .ref fu, .ref la, .ref gy, .ref du, .ref re, .ref wm, .ref ac])), (ta, .inr (10, [.ref ta1, .ref ta2, .ref taz, .ref ta4, .ref ta5, .ref ta6, .int X.1.2.2.1, .int X.1.2.2.2])), (ta1, .inl (1, 108, .inl X.1.1)), (ta2, .inl (0, 108, .inl X.1.2.1)), (taz, .inr (2, [.ref taz1, .ref taz2, .ref taz3, .ref taz4, .ref taz5, .ref taz6, .int X.2.1.1.1.2.2.2])), (taz1, .inl (0, 108, .inl X.2.1.1.1.1)), (taz2, .inl (0, 108, .inl X.2.1.1.2)), (taz3, .inl (0, 108, .inl X.2.1.1.1.2.1)), (taz4, .inl (0, 108, .inl X.2.1.1.1.2.2.1)), (taz5, .inl (0, 108, .inl X.2.1.2.1)), (taz6, .inl (0, 108, .inl X.2.1.2.2)), (ta4, .inl (2, 108, .inl X.2.2.1)), (ta5, .inl (2, 108, .inl X.2.2.2.1)), (ta6, .inl (0, 108, .inl (fun k => nI (X.2.2.2.2 k))))]) 1 6 := by
  refine z_of (by decide) rfl (Nat.le_of_ble_eq_true rfl) (fun w0 => ?_)
  refine r_lvE (lv2 := [(0, .ref a), (1, .int x), (2, .int y)]) rfl ?_
  refine r_iload_n d_Ip_filledIn_0 rfl 1 rfl ?_
  refine r_iload_n d_Ip_filledIn_1 rfl 2 rfl ?_
  refine r_callS (As := [.int x, .int y]) (rest := []) (csC := []) (is := []) ln_Ip_114 w_st_Ip_cellAt ok_Ip_filledIn_Ip_cellAt d_Ip_filledIn_2 (C_Ip_cellAt g x y) rfl rfl (Nat.le_of_ble_eq_true rfl) rfl (by decide) (by omega) (by omega) (fun E cs1 hx => ?_) (fun v cs1 hx => ?_)
  · simp only [hz] at hx
    obtain ⟨e1, rfl⟩ := hx
    cases e1
    exact ⟨rfl, rfl, rfl⟩
  · simp only [hz] at hx
    exact absurd hx.1 (by simp)
theorem d_Ip_filledIn_5 : decode prog_1_method_9_code 5 = .ok (.istore_n 3, 1) := zo_62 (zd_b zq_prog_1_method_9_code_0 5 rfl rfl rfl)
theorem d_Ip_filledIn_6 : decode prog_1_method_9_code 6 = .ok (.aload_n 0, 1) := zo_42 (zd_b zq_prog_1_method_9_code_0 6 rfl rfl rfl)
theorem d_Ip_filledIn_7 : decode prog_1_method_9_code 7 = .ok (.getfield 19, 3) := zo_180 (d := 0) (e := 19) (zd_b zq_prog_1_method_9_code_0 7 rfl rfl rfl) (zd_b zq_prog_1_method_9_code_0 8 rfl rfl rfl) (zd_b zq_prog_1_method_9_code_0 9 rfl rfl rfl)
theorem fs_Ip_19 : z_fs "Ironpour" 19 11 1 := ⟨R_Ip, "Ironpour", F_Ip, 12, rfl, u_Ip, by decide, Or.inl ⟨z_mj2 (i := 64) rfl (by decide +kernel), Or.inl rfl⟩⟩
theorem d_Ip_filledIn_10 : decode prog_1_method_9_code 10 = .ok (.invokevirtual 140, 3) := zo_182 (d := 0) (e := 140) (zd_b zq_prog_1_method_9_code_0 10 rfl rfl rfl) (zd_b zq_prog_1_method_9_code_0 11 rfl rfl rfl) (zd_b zq_prog_1_method_9_code_0 12 rfl rfl rfl)
theorem ok_Ip_filledIn_Tr_fill : z_ok M_Ip_filledIn M_Tr_fill 0 := ⟨z_mj2 (i := 212) rfl (by decide +kernel), rfl, ⟨by decide +kernel, by decide +kernel, by decide +kernel⟩, ⟨by decide, by decide⟩, z_mj1 (i := 3) rfl (by decide +kernel), rfl⟩
theorem ln_Ip_140 : Cond.methodLink "Ironpour" 140 M_Tr_fill.1 ∈ z_gw := z_mj4 (i := 51) rfl (by decide +kernel)
theorem d_Ip_filledIn_13 : decode prog_1_method_9_code 13 = .ok (.aload_n 0, 1) := zo_42 (zd_b zq_prog_1_method_9_code_0 13 rfl rfl rfl)
theorem d_Ip_filledIn_14 : decode prog_1_method_9_code 14 = .ok (.getfield 19, 3) := zo_180 (d := 0) (e := 19) (zd_b zq_prog_1_method_9_code_0 14 rfl rfl rfl) (zd_b zq_prog_1_method_9_code_0 15 rfl rfl rfl) (zd_b zq_prog_1_method_9_code_0 16 rfl rfl rfl)
theorem d_Ip_filledIn_17 : decode prog_1_method_9_code 17 = .ok (.getfield 143, 3) := zo_180 (d := 0) (e := 143) (zd_b zq_prog_1_method_9_code_0 17 rfl rfl rfl) (zd_b zq_prog_1_method_9_code_0 18 rfl rfl rfl) (zd_b zq_prog_1_method_9_code_0 19 rfl rfl rfl)
theorem fs_Ip_143 : z_fs "Ironpour" 143 10 1 := ⟨R_Tr, "Ironpour$Trial", F_Tr, 8, rfl, u_Tr, by decide, Or.inr ⟨"Ironpour", z_mk1 (i := 112) rfl (by decide +kernel), rfl⟩⟩
theorem d_Ip_filledIn_20 : decode prog_1_method_9_code 20 = .ok (.iload_n 3, 1) := zo_29 (zd_b zq_prog_1_method_9_code_0 20 rfl rfl rfl)
theorem d_Ip_filledIn_21 : decode prog_1_method_9_code 21 = .ok (.iaload, 1) := zo_46 (zd_b zq_prog_1_method_9_code_0 21 rfl rfl rfl)
theorem d_Ip_filledIn_22 : decode prog_1_method_9_code 22 = .ok (.ireturn, 1) := zo_172 (zd_b zq_prog_1_method_9_code_0 22 rfl rfl rfl)
set_option maxHeartbeats 4000000 in
set_option maxRecDepth 100000 in
theorem C_Ip_filledInN (g : zG) (a pa ta sa gs co fu la gy du re wm ac : Nat) (ta1 ta2 taz taz1 taz2 taz3 taz4 taz5 taz6 ta4 ta5 ta6 : Nat) (X : zTr) (x y : Int32) (c : Nat) (hz : z_cl x y = some c) : CT g M_Ip_filledIn [.ref a, .int x, .int y] [(a, .inr (11, [.ref pa, .ref ta, .ref sa, .ref gs, .ref co, .ref fu, .ref la, .ref gy, .ref du, .ref re, .ref wm, .ref ac])), (ta, .inr (10, [.ref ta1, .ref ta2, .ref taz, .ref ta4, .ref ta5, .ref ta6, .int X.1.2.2.1, .int X.1.2.2.2])), (ta1, .inl (1, 108, .inl X.1.1)), (ta2, .inl (0, 108, .inl X.1.2.1)), (taz, .inr (2, [.ref taz1, .ref taz2, .ref taz3, .ref taz4, .ref taz5, .ref taz6, .int X.2.1.1.1.2.2.2])), (taz1, .inl (0, 108, .inl X.2.1.1.1.1)), (taz2, .inl (0, 108, .inl X.2.1.1.2)), (taz3, .inl (0, 108, .inl X.2.1.1.1.2.1)), (taz4, .inl (0, 108, .inl X.2.1.1.1.2.2.1)), (taz5, .inl (0, 108, .inl X.2.1.2.1)), (taz6, .inl (0, 108, .inl X.2.1.2.2)), (ta4, .inl (2, 108, .inl X.2.2.1)), (ta5, .inl (2, 108, .inl X.2.2.2.1)), (ta6, .inl (0, 108, .inl (fun k => nI (X.2.2.2.2 k))))] (fun o cs1 => o = .inl (some (.int ((flT X).1.2.1 c))) ∧ cs1 = [(a, .inr (11, [.ref pa, .ref ta, .ref sa, .ref gs, .ref co, .ref fu, .ref la, .ref gy, .ref du, .ref re, .ref wm, .ref ac])), (ta, .inr (10, [.ref ta1, .ref ta2, .ref taz, .ref ta4, .ref ta5, .ref ta6, .int ((flT X).1.2.2.1), .int ((flT X).1.2.2.2)])), (ta1, .inl (1, 108, .inl ((flT X).1.1))), (ta2, .inl (0, 108, .inl ((flT X).1.2.1))), (taz, .inr (2, [.ref taz1, .ref taz2, .ref taz3, .ref taz4, .ref taz5, .ref taz6, .int ((flT X).2.1.1.1.2.2.2)])), (taz1, .inl (0, 108, .inl ((flT X).2.1.1.1.1))), (taz2, .inl (0, 108, .inl ((flT X).2.1.1.2))), (taz3, .inl (0, 108, .inl ((flT X).2.1.1.1.2.1))), (taz4, .inl (0, 108, .inl ((flT X).2.1.1.1.2.2.1))), (taz5, .inl (0, 108, .inl ((flT X).2.1.2.1))), (taz6, .inl (0, 108, .inl ((flT X).2.1.2.2))), (ta4, .inl (2, 108, .inl ((flT X).2.2.1))), (ta5, .inl (2, 108, .inl ((flT X).2.2.2.1))), (ta6, .inl (0, 108, .inl (fun k => nI ((flT X).2.2.2.2 k))))]) 1 6 := by
  refine z_of (by decide) rfl (Nat.le_of_ble_eq_true rfl) (fun w0 => ?_)
  refine r_lvE (lv2 := [(0, .ref a), (1, .int x), (2, .int y)]) rfl ?_
  have hc := z_cl_lt hz
  refine r_iload_n d_Ip_filledIn_0 rfl 1 rfl ?_
  refine r_iload_n d_Ip_filledIn_1 rfl 2 rfl ?_
  refine r_callS (As := [.int x, .int y]) (rest := []) (csC := []) (is := []) ln_Ip_114 w_st_Ip_cellAt ok_Ip_filledIn_Ip_cellAt d_Ip_filledIn_2 (C_Ip_cellAt g x y) rfl rfl (Nat.le_of_ble_eq_true rfl) rfl (by decide) (by omega) (by omega) (fun E cs1 hx => ?_) (fun v cs1 hx => ?_)
  · simp only [hz] at hx
    exact absurd hx.1 (by simp)
  · simp only [hz] at hx
    obtain ⟨e1, rfl⟩ := hx
    cases e1
    refine ⟨rfl, ?_⟩
    refine r_st (st2 := [.int (nI c)]) rfl ?_
    refine r_cs (cs2 := [(a, .inr (11, [.ref pa, .ref ta, .ref sa, .ref gs, .ref co, .ref fu, .ref la, .ref gy, .ref du, .ref re, .ref wm, .ref ac])), (ta, .inr (10, [.ref ta1, .ref ta2, .ref taz, .ref ta4, .ref ta5, .ref ta6, .int X.1.2.2.1, .int X.1.2.2.2])), (ta1, .inl (1, 108, .inl X.1.1)), (ta2, .inl (0, 108, .inl X.1.2.1)), (taz, .inr (2, [.ref taz1, .ref taz2, .ref taz3, .ref taz4, .ref taz5, .ref taz6, .int X.2.1.1.1.2.2.2])), (taz1, .inl (0, 108, .inl X.2.1.1.1.1)), (taz2, .inl (0, 108, .inl X.2.1.1.2)), (taz3, .inl (0, 108, .inl X.2.1.1.1.2.1)), (taz4, .inl (0, 108, .inl X.2.1.1.1.2.2.1)), (taz5, .inl (0, 108, .inl X.2.1.2.1)), (taz6, .inl (0, 108, .inl X.2.1.2.2)), (ta4, .inl (2, 108, .inl X.2.2.1)), (ta5, .inl (2, 108, .inl X.2.2.2.1)), (ta6, .inl (0, 108, .inl (fun k => nI (X.2.2.2.2 k))))]) rfl ?_
    refine r_istore_n (lv' := [(3, .int (nI c)), (0, .ref a), (1, .int x), (2, .int y)]) d_Ip_filledIn_5 rfl (by decide) rfl ?_
    refine r_aload_n d_Ip_filledIn_6 rfl 1 rfl ?_
    refine r_get fs_Ip_19 d_Ip_filledIn_7 (q0 := 0) rfl rfl ?_
    refine r_callV (As := []) (rest := []) (csC := [(ta, .inr (10, [.ref ta1, .ref ta2, .ref taz, .ref ta4, .ref ta5, .ref ta6, .int X.1.2.2.1, .int X.1.2.2.2])), (ta1, .inl (1, 108, .inl X.1.1)), (ta2, .inl (0, 108, .inl X.1.2.1))]) (is := [1, 2, 3]) (q0 := 1) rfl rfl ln_Ip_140 w_im_Tr_fill w_se_Tr_fill ok_Ip_filledIn_Tr_fill d_Ip_filledIn_10 (C_Tr_fillU g ta ta1 ta2 taz ta4 ta5 ta6 X.1.2.2.1 X.1.2.2.2 X.1.1 X.1.2.1) rfl rfl (Nat.le_of_ble_eq_true rfl) rfl (by decide) (by omega) (by omega) (fun E cs1 hx => ?_) (fun v cs1 hx => ?_)
    · exact absurd hx.1 (by simp)
    · obtain ⟨e1, rfl⟩ := hx
      cases e1
      refine ⟨rfl, ?_⟩
      refine r_st (st2 := []) rfl ?_
      refine r_cs (cs2 := [(a, .inr (11, [.ref pa, .ref ta, .ref sa, .ref gs, .ref co, .ref fu, .ref la, .ref gy, .ref du, .ref re, .ref wm, .ref ac])), (ta, .inr (10, [.ref ta1, .ref ta2, .ref taz, .ref ta4, .ref ta5, .ref ta6, .int ((flT X).1.2.2.1), .int ((flT X).1.2.2.2)])), (ta1, .inl (1, 108, .inl ((flT X).1.1))), (ta2, .inl (0, 108, .inl ((flT X).1.2.1))), (taz, .inr (2, [.ref taz1, .ref taz2, .ref taz3, .ref taz4, .ref taz5, .ref taz6, .int X.2.1.1.1.2.2.2])), (taz1, .inl (0, 108, .inl X.2.1.1.1.1)), (taz2, .inl (0, 108, .inl X.2.1.1.2)), (taz3, .inl (0, 108, .inl X.2.1.1.1.2.1)), (taz4, .inl (0, 108, .inl X.2.1.1.1.2.2.1)), (taz5, .inl (0, 108, .inl X.2.1.2.1)), (taz6, .inl (0, 108, .inl X.2.1.2.2)), (ta4, .inl (2, 108, .inl X.2.2.1)), (ta5, .inl (2, 108, .inl X.2.2.2.1)), (ta6, .inl (0, 108, .inl (fun k => nI (X.2.2.2.2 k))))]) rfl ?_
      refine r_aload_n d_Ip_filledIn_13 rfl 1 rfl ?_
      refine r_get fs_Ip_19 d_Ip_filledIn_14 (q0 := 0) rfl rfl ?_
      refine r_get fs_Ip_143 d_Ip_filledIn_17 (q0 := 1) rfl rfl ?_
      refine r_iload_n d_Ip_filledIn_20 rfl 0 rfl ?_
      refine r_iald d_Ip_filledIn_21 (q0 := 3) rfl (vp_in_nI (by omega) (by omega)) (v := ((flT X).1.2.1) c) (by rw [nI_clamp (by omega)]) ?_
      refine r_iret d_Ip_filledIn_22 rfl rfl ?_
      exact ⟨rfl, rfl⟩
abbrev M_Ip_frozenIn : zM := (⟨"Ironpour", "frozenIn", "(III)I"⟩, prog_1_method_11_code, 5, (Option.some FieldType.int), 7, 136, [])
theorem d_Ip_frozenIn_0 : decode prog_1_method_11_code 0 = .ok (.iload_n 1, 1) := zo_27 (zd_b zq_prog_1_method_11_code_0 0 rfl rfl rfl)
theorem d_Ip_frozenIn_1 : decode prog_1_method_11_code 1 = .ok (.iload_n 2, 1) := zo_28 (zd_b zq_prog_1_method_11_code_0 1 rfl rfl rfl)
theorem d_Ip_frozenIn_2 : decode prog_1_method_11_code 2 = .ok (.invokestatic 114, 3) := zo_184 (d := 0) (e := 114) (zd_b zq_prog_1_method_11_code_0 2 rfl rfl rfl) (zd_b zq_prog_1_method_11_code_0 3 rfl rfl rfl) (zd_b zq_prog_1_method_11_code_0 4 rfl rfl rfl)
theorem ok_Ip_frozenIn_Ip_cellAt : z_ok M_Ip_frozenIn M_Ip_cellAt 2 := ⟨z_mj4 (i := 22) rfl (by decide +kernel), rfl, ⟨by decide +kernel, by decide +kernel, by decide +kernel⟩, ⟨by decide, by decide⟩, z_mj1 (i := 1) rfl (by decide +kernel), rfl⟩
set_option maxHeartbeats 4000000 in
set_option maxRecDepth 100000 in
theorem C_Ip_frozenInE (g : zG) (a pa ta sa gs co fu la gy du re wm ac : Nat) (ta1 ta2 taz taz1 taz2 taz3 taz4 taz5 taz6 ta4 ta5 ta6 : Nat) (X : zTr) (x y : Int32) (h : Int32) (hz : z_cl x y = none) : CT g M_Ip_frozenIn [.ref a, .int x, .int y, .int h] [(a, .inr (11, [.ref pa, .ref ta, .ref sa, .ref gs, .ref co, .ref fu, .ref la, .ref gy, .ref du, .ref re, .ref wm, .ref ac])), (ta, .inr (10, [.ref ta1, .ref ta2, .ref taz, .ref ta4, .ref ta5, .ref ta6, .int X.1.2.2.1, .int X.1.2.2.2])), (ta1, .inl (1, 108, .inl X.1.1)), (ta2, .inl (0, 108, .inl X.1.2.1)), (taz, .inr (2, [.ref taz1, .ref taz2, .ref taz3, .ref taz4, .ref taz5, .ref taz6, .int X.2.1.1.1.2.2.2])), (taz1, .inl (0, 108, .inl X.2.1.1.1.1)), (taz2, .inl (0, 108, .inl X.2.1.1.2)), (taz3, .inl (0, 108, .inl X.2.1.1.1.2.1)), (taz4, .inl (0, 108, .inl X.2.1.1.1.2.2.1)), (taz5, .inl (0, 108, .inl X.2.1.2.1)), (taz6, .inl (0, 108, .inl X.2.1.2.2)), (ta4, .inl (2, 108, .inl X.2.2.1)), (ta5, .inl (2, 108, .inl X.2.2.2.1)), (ta6, .inl (0, 108, .inl (fun k => nI (X.2.2.2.2 k))))] (fun o cs1 => o = .inr "java/lang/IndexOutOfBoundsException" ∧ cs1 = [(a, .inr (11, [.ref pa, .ref ta, .ref sa, .ref gs, .ref co, .ref fu, .ref la, .ref gy, .ref du, .ref re, .ref wm, .ref ac])), (ta, .inr (10, [.ref ta1, .ref ta2, .ref taz, .ref ta4, .ref ta5, .ref ta6, .int X.1.2.2.1, .int X.1.2.2.2])), (ta1, .inl (1, 108, .inl X.1.1)), (ta2, .inl (0, 108, .inl X.1.2.1)), (taz, .inr (2, [.ref taz1, .ref taz2, .ref taz3, .ref taz4, .ref taz5, .ref taz6, .int X.2.1.1.1.2.2.2])), (taz1, .inl (0, 108, .inl X.2.1.1.1.1)), (taz2, .inl (0, 108, .inl X.2.1.1.2)), (taz3, .inl (0, 108, .inl X.2.1.1.1.2.1)), (taz4, .inl (0, 108, .inl X.2.1.1.1.2.2.1)), (taz5, .inl (0, 108, .inl X.2.1.2.1)), (taz6, .inl (0, 108, .inl X.2.1.2.2)), (ta4, .inl (2, 108, .inl X.2.2.1)), (ta5, .inl (2, 108, .inl X.2.2.2.1)), (ta6, .inl (0, 108, .inl (fun k => nI (X.2.2.2.2 k))))]) 2 12 := by
  refine z_of (by decide) rfl (Nat.le_of_ble_eq_true rfl) (fun w0 => ?_)
  refine r_lvE (lv2 := [(0, .ref a), (1, .int x), (2, .int y), (3, .int h)]) rfl ?_
  refine r_iload_n d_Ip_frozenIn_0 rfl 1 rfl ?_
  refine r_iload_n d_Ip_frozenIn_1 rfl 2 rfl ?_
  refine r_callS (As := [.int x, .int y]) (rest := []) (csC := []) (is := []) ln_Ip_114 w_st_Ip_cellAt ok_Ip_frozenIn_Ip_cellAt d_Ip_frozenIn_2 (C_Ip_cellAt g x y) rfl rfl (Nat.le_of_ble_eq_true rfl) rfl (by decide) (by omega) (by omega) (fun E cs1 hx => ?_) (fun v cs1 hx => ?_)
  · simp only [hz] at hx
    obtain ⟨e1, rfl⟩ := hx
    cases e1
    exact ⟨rfl, rfl, rfl⟩
  · simp only [hz] at hx
    exact absurd hx.1 (by simp)
theorem d_Ip_frozenIn_5 : decode prog_1_method_11_code 5 = .ok (.istore 4, 2) := zo_54 (d := 4) (zd_b zq_prog_1_method_11_code_0 5 rfl rfl rfl) (zd_b zq_prog_1_method_11_code_0 6 rfl rfl rfl)
theorem d_Ip_frozenIn_7 : decode prog_1_method_11_code 7 = .ok (.iload_n 3, 1) := zo_29 (zd_b zq_prog_1_method_11_code_0 7 rfl rfl rfl)
theorem d_Ip_frozenIn_8 : decode prog_1_method_11_code 8 = .ok (.invokestatic 158, 3) := zo_184 (d := 0) (e := 158) (zd_b zq_prog_1_method_11_code_0 8 rfl rfl rfl) (zd_b zq_prog_1_method_11_code_0 9 rfl rfl rfl) (zd_b zq_prog_1_method_11_code_0 10 rfl rfl rfl)
theorem ok_Ip_frozenIn_Ip_checkHeat : z_ok M_Ip_frozenIn M_Ip_checkHeat 1 := ⟨z_mj4 (i := 94) rfl (by decide +kernel), rfl, ⟨by decide +kernel, by decide +kernel, by decide +kernel⟩, ⟨by decide, by decide⟩, z_mj1 (i := 1) rfl (by decide +kernel), rfl⟩
theorem ln_Ip_158 : Cond.methodLink "Ironpour" 158 M_Ip_checkHeat.1 ∈ z_gw := z_mj4 (i := 92) rfl (by decide +kernel)
theorem w_st_Ip_checkHeat : Cond.static M_Ip_checkHeat.1 ∈ z_gw := z_mj4 (i := 93) rfl (by decide +kernel)
set_option maxHeartbeats 4000000 in
set_option maxRecDepth 100000 in
theorem C_Ip_frozenInF (g : zG) (a pa ta sa gs co fu la gy du re wm ac : Nat) (ta1 ta2 taz taz1 taz2 taz3 taz4 taz5 taz6 ta4 ta5 ta6 : Nat) (X : zTr) (x y : Int32) (h : Int32) (c : Nat) (hz : z_cl x y = some c) (hh : ¬ (1200 ≤ h ∧ h ≤ 1500)) : CT g M_Ip_frozenIn [.ref a, .int x, .int y, .int h] [(a, .inr (11, [.ref pa, .ref ta, .ref sa, .ref gs, .ref co, .ref fu, .ref la, .ref gy, .ref du, .ref re, .ref wm, .ref ac])), (ta, .inr (10, [.ref ta1, .ref ta2, .ref taz, .ref ta4, .ref ta5, .ref ta6, .int X.1.2.2.1, .int X.1.2.2.2])), (ta1, .inl (1, 108, .inl X.1.1)), (ta2, .inl (0, 108, .inl X.1.2.1)), (taz, .inr (2, [.ref taz1, .ref taz2, .ref taz3, .ref taz4, .ref taz5, .ref taz6, .int X.2.1.1.1.2.2.2])), (taz1, .inl (0, 108, .inl X.2.1.1.1.1)), (taz2, .inl (0, 108, .inl X.2.1.1.2)), (taz3, .inl (0, 108, .inl X.2.1.1.1.2.1)), (taz4, .inl (0, 108, .inl X.2.1.1.1.2.2.1)), (taz5, .inl (0, 108, .inl X.2.1.2.1)), (taz6, .inl (0, 108, .inl X.2.1.2.2)), (ta4, .inl (2, 108, .inl X.2.2.1)), (ta5, .inl (2, 108, .inl X.2.2.2.1)), (ta6, .inl (0, 108, .inl (fun k => nI (X.2.2.2.2 k))))] (fun o cs1 => o = .inr "java/lang/IllegalArgumentException" ∧ cs1 = [(a, .inr (11, [.ref pa, .ref ta, .ref sa, .ref gs, .ref co, .ref fu, .ref la, .ref gy, .ref du, .ref re, .ref wm, .ref ac])), (ta, .inr (10, [.ref ta1, .ref ta2, .ref taz, .ref ta4, .ref ta5, .ref ta6, .int X.1.2.2.1, .int X.1.2.2.2])), (ta1, .inl (1, 108, .inl X.1.1)), (ta2, .inl (0, 108, .inl X.1.2.1)), (taz, .inr (2, [.ref taz1, .ref taz2, .ref taz3, .ref taz4, .ref taz5, .ref taz6, .int X.2.1.1.1.2.2.2])), (taz1, .inl (0, 108, .inl X.2.1.1.1.1)), (taz2, .inl (0, 108, .inl X.2.1.1.2)), (taz3, .inl (0, 108, .inl X.2.1.1.1.2.1)), (taz4, .inl (0, 108, .inl X.2.1.1.1.2.2.1)), (taz5, .inl (0, 108, .inl X.2.1.2.1)), (taz6, .inl (0, 108, .inl X.2.1.2.2)), (ta4, .inl (2, 108, .inl X.2.2.1)), (ta5, .inl (2, 108, .inl X.2.2.2.1)), (ta6, .inl (0, 108, .inl (fun k => nI (X.2.2.2.2 k))))]) 2 12 := by
  refine z_of (by decide) rfl (Nat.le_of_ble_eq_true rfl) (fun w0 => ?_)
  refine r_lvE (lv2 := [(0, .ref a), (1, .int x), (2, .int y), (3, .int h)]) rfl ?_
  refine r_iload_n d_Ip_frozenIn_0 rfl 1 rfl ?_
  refine r_iload_n d_Ip_frozenIn_1 rfl 2 rfl ?_
  refine r_callS (As := [.int x, .int y]) (rest := []) (csC := []) (is := []) ln_Ip_114 w_st_Ip_cellAt ok_Ip_frozenIn_Ip_cellAt d_Ip_frozenIn_2 (C_Ip_cellAt g x y) rfl rfl (Nat.le_of_ble_eq_true rfl) rfl (by decide) (by omega) (by omega) (fun E cs1 hx => ?_) (fun v cs1 hx => ?_)
  · simp only [hz] at hx
    exact absurd hx.1 (by simp)
  · simp only [hz] at hx
    obtain ⟨e1, rfl⟩ := hx
    cases e1
    refine ⟨rfl, ?_⟩
    refine r_st (st2 := [.int (nI c)]) rfl ?_
    refine r_cs (cs2 := [(a, .inr (11, [.ref pa, .ref ta, .ref sa, .ref gs, .ref co, .ref fu, .ref la, .ref gy, .ref du, .ref re, .ref wm, .ref ac])), (ta, .inr (10, [.ref ta1, .ref ta2, .ref taz, .ref ta4, .ref ta5, .ref ta6, .int X.1.2.2.1, .int X.1.2.2.2])), (ta1, .inl (1, 108, .inl X.1.1)), (ta2, .inl (0, 108, .inl X.1.2.1)), (taz, .inr (2, [.ref taz1, .ref taz2, .ref taz3, .ref taz4, .ref taz5, .ref taz6, .int X.2.1.1.1.2.2.2])), (taz1, .inl (0, 108, .inl X.2.1.1.1.1)), (taz2, .inl (0, 108, .inl X.2.1.1.2)), (taz3, .inl (0, 108, .inl X.2.1.1.1.2.1)), (taz4, .inl (0, 108, .inl X.2.1.1.1.2.2.1)), (taz5, .inl (0, 108, .inl X.2.1.2.1)), (taz6, .inl (0, 108, .inl X.2.1.2.2)), (ta4, .inl (2, 108, .inl X.2.2.1)), (ta5, .inl (2, 108, .inl X.2.2.2.1)), (ta6, .inl (0, 108, .inl (fun k => nI (X.2.2.2.2 k))))]) rfl ?_
    refine r_istore (lv' := [(4, .int (nI c)), (0, .ref a), (1, .int x), (2, .int y), (3, .int h)]) d_Ip_frozenIn_5 (by decide) rfl ?_
    refine r_iload_n d_Ip_frozenIn_7 rfl 4 rfl ?_
    refine r_callS (As := [.int h]) (rest := []) (csC := []) (is := []) ln_Ip_158 w_st_Ip_checkHeat ok_Ip_frozenIn_Ip_checkHeat d_Ip_frozenIn_8 (C_Ip_checkHeat g h) rfl rfl (Nat.le_of_ble_eq_true rfl) rfl (by decide) (by omega) (by omega) (fun E cs1 hx => ?_) (fun v cs1 hx => ?_)
    · simp only [if_neg hh] at hx
      obtain ⟨e1, rfl⟩ := hx
      cases e1
      exact ⟨rfl, rfl, rfl⟩
    · simp only [if_neg hh] at hx
      exact absurd hx.1 (by simp)
theorem d_Ip_frozenIn_11 : decode prog_1_method_11_code 11 = .ok (.aload_n 0, 1) := zo_42 (zd_b zq_prog_1_method_11_code_0 11 rfl rfl rfl)
theorem d_Ip_frozenIn_12 : decode prog_1_method_11_code 12 = .ok (.getfield 19, 3) := zo_180 (d := 0) (e := 19) (zd_b zq_prog_1_method_11_code_0 12 rfl rfl rfl) (zd_b zq_prog_1_method_11_code_0 13 rfl rfl rfl) (zd_b zq_prog_1_method_11_code_0 14 rfl rfl rfl)
theorem d_Ip_frozenIn_15 : decode prog_1_method_11_code 15 = .ok (.iload_n 3, 1) := zo_29 (zd_b zq_prog_1_method_11_code_0 15 rfl rfl rfl)
theorem d_Ip_frozenIn_16 : decode prog_1_method_11_code 16 = .ok (.invokevirtual 162, 3) := zo_182 (d := 0) (e := 162) (zd_b zq_prog_1_method_11_code_0 16 rfl rfl rfl) (zd_b zq_prog_1_method_11_code_0 17 rfl rfl rfl) (zd_b zq_prog_1_method_11_code_0 18 rfl rfl rfl)
theorem ok_Ip_frozenIn_Tr_freeze : z_ok M_Ip_frozenIn M_Tr_freeze 1 := ⟨z_mj2 (i := 208) rfl (by decide +kernel), rfl, ⟨by decide +kernel, by decide +kernel, by decide +kernel⟩, ⟨by decide, by decide⟩, z_mj1 (i := 3) rfl (by decide +kernel), rfl⟩
theorem ln_Ip_162 : Cond.methodLink "Ironpour" 162 M_Tr_freeze.1 ∈ z_gw := z_mj2 (i := 205) rfl (by decide +kernel)
theorem w_im_Tr_freeze : Cond.instanceMethod M_Tr_freeze.1 ∈ z_gw := z_mj2 (i := 206) rfl (by decide +kernel)
theorem w_se_Tr_freeze : Cond.selects M_Tr_freeze.1.cls M_Tr_freeze.1 M_Tr_freeze.1 ∈ z_gw := z_mj2 (i := 207) rfl (by decide +kernel)
theorem d_Ip_frozenIn_19 : decode prog_1_method_11_code 19 = .ok (.aload_n 0, 1) := zo_42 (zd_b zq_prog_1_method_11_code_0 19 rfl rfl rfl)
theorem d_Ip_frozenIn_20 : decode prog_1_method_11_code 20 = .ok (.getfield 19, 3) := zo_180 (d := 0) (e := 19) (zd_b zq_prog_1_method_11_code_0 20 rfl rfl rfl) (zd_b zq_prog_1_method_11_code_0 21 rfl rfl rfl) (zd_b zq_prog_1_method_11_code_0 22 rfl rfl rfl)
theorem d_Ip_frozenIn_23 : decode prog_1_method_11_code 23 = .ok (.getfield 165, 3) := zo_180 (d := 0) (e := 165) (zd_b zq_prog_1_method_11_code_0 23 rfl rfl rfl) (zd_b zq_prog_1_method_11_code_0 24 rfl rfl rfl) (zd_b zq_prog_1_method_11_code_0 25 rfl rfl rfl)
theorem fs_Ip_165 : z_fs "Ironpour" 165 10 2 := ⟨R_Tr, "Ironpour$Trial", F_Tr, 8, rfl, u_Tr, by decide, Or.inr ⟨"Ironpour", z_mk1 (i := 114) rfl (by decide +kernel), rfl⟩⟩
theorem d_Ip_frozenIn_26 : decode prog_1_method_11_code 26 = .ok (.getfield 169, 3) := zo_180 (d := 0) (e := 169) (zd_b zq_prog_1_method_11_code_0 26 rfl rfl rfl) (zd_b zq_prog_1_method_11_code_0 27 rfl rfl rfl) (zd_b zq_prog_1_method_11_code_0 28 rfl rfl rfl)
theorem fs_Ip_169 : z_fs "Ironpour" 169 2 3 := ⟨R_Fz, "Ironpour$Freezing", F_Fz, 7, rfl, u_Fz, by decide, Or.inr ⟨"Ironpour", z_mk1 (i := 89) rfl (by decide +kernel), rfl⟩⟩
theorem d_Ip_frozenIn_29 : decode prog_1_method_11_code 29 = .ok (.iload 4, 2) := zo_21 (d := 4) (zd_b zq_prog_1_method_11_code_0 29 rfl rfl rfl) (zd_b zq_prog_1_method_11_code_0 30 rfl rfl rfl)
theorem d_Ip_frozenIn_31 : decode prog_1_method_11_code 31 = .ok (.iaload, 1) := zo_46 (zd_b zq_prog_1_method_11_code_0 31 rfl rfl rfl)
theorem d_Ip_frozenIn_32 : decode prog_1_method_11_code 32 = .ok (.ireturn, 1) := zo_172 (zd_b zq_prog_1_method_11_code_1 0 rfl rfl rfl)
set_option maxHeartbeats 4000000 in
set_option maxRecDepth 100000 in
theorem C_Ip_frozenInN (g : zG) (a pa ta sa gs co fu la gy du re wm ac : Nat) (ta1 ta2 taz taz1 taz2 taz3 taz4 taz5 taz6 ta4 ta5 ta6 : Nat) (X : zTr) (x y : Int32) (h : Int32) (c : Nat) (hz : z_cl x y = some c) (hh : 1200 ≤ h ∧ h ≤ 1500) : CT g M_Ip_frozenIn [.ref a, .int x, .int y, .int h] [(a, .inr (11, [.ref pa, .ref ta, .ref sa, .ref gs, .ref co, .ref fu, .ref la, .ref gy, .ref du, .ref re, .ref wm, .ref ac])), (ta, .inr (10, [.ref ta1, .ref ta2, .ref taz, .ref ta4, .ref ta5, .ref ta6, .int X.1.2.2.1, .int X.1.2.2.2])), (ta1, .inl (1, 108, .inl X.1.1)), (ta2, .inl (0, 108, .inl X.1.2.1)), (taz, .inr (2, [.ref taz1, .ref taz2, .ref taz3, .ref taz4, .ref taz5, .ref taz6, .int X.2.1.1.1.2.2.2])), (taz1, .inl (0, 108, .inl X.2.1.1.1.1)), (taz2, .inl (0, 108, .inl X.2.1.1.2)), (taz3, .inl (0, 108, .inl X.2.1.1.1.2.1)), (taz4, .inl (0, 108, .inl X.2.1.1.1.2.2.1)), (taz5, .inl (0, 108, .inl X.2.1.2.1)), (taz6, .inl (0, 108, .inl X.2.1.2.2)), (ta4, .inl (2, 108, .inl X.2.2.1)), (ta5, .inl (2, 108, .inl X.2.2.2.1)), (ta6, .inl (0, 108, .inl (fun k => nI (X.2.2.2.2 k))))] (fun o cs1 => o = .inl (some (.int ((frT h X).2.1.1.1.2.2.1 c))) ∧ cs1 = [(a, .inr (11, [.ref pa, .ref ta, .ref sa, .ref gs, .ref co, .ref fu, .ref la, .ref gy, .ref du, .ref re, .ref wm, .ref ac])), (ta, .inr (10, [.ref ta1, .ref ta2, .ref taz, .ref ta4, .ref ta5, .ref ta6, .int ((frT h X).1.2.2.1), .int ((frT h X).1.2.2.2)])), (ta1, .inl (1, 108, .inl ((frT h X).1.1))), (ta2, .inl (0, 108, .inl ((frT h X).1.2.1))), (taz, .inr (2, [.ref taz1, .ref taz2, .ref taz3, .ref taz4, .ref taz5, .ref taz6, .int ((frT h X).2.1.1.1.2.2.2)])), (taz1, .inl (0, 108, .inl ((frT h X).2.1.1.1.1))), (taz2, .inl (0, 108, .inl ((frT h X).2.1.1.2))), (taz3, .inl (0, 108, .inl ((frT h X).2.1.1.1.2.1))), (taz4, .inl (0, 108, .inl ((frT h X).2.1.1.1.2.2.1))), (taz5, .inl (0, 108, .inl ((frT h X).2.1.2.1))), (taz6, .inl (0, 108, .inl ((frT h X).2.1.2.2))), (ta4, .inl (2, 108, .inl ((frT h X).2.2.1))), (ta5, .inl (2, 108, .inl ((frT h X).2.2.2.1))), (ta6, .inl (0, 108, .inl (fun k => nI ((frT h X).2.2.2.2 k))))]) 2 12 := by
  refine z_of (by decide) rfl (Nat.le_of_ble_eq_true rfl) (fun w0 => ?_)
  refine r_lvE (lv2 := [(0, .ref a), (1, .int x), (2, .int y), (3, .int h)]) rfl ?_
  have hc := z_cl_lt hz
  refine r_iload_n d_Ip_frozenIn_0 rfl 1 rfl ?_
  refine r_iload_n d_Ip_frozenIn_1 rfl 2 rfl ?_
  refine r_callS (As := [.int x, .int y]) (rest := []) (csC := []) (is := []) ln_Ip_114 w_st_Ip_cellAt ok_Ip_frozenIn_Ip_cellAt d_Ip_frozenIn_2 (C_Ip_cellAt g x y) rfl rfl (Nat.le_of_ble_eq_true rfl) rfl (by decide) (by omega) (by omega) (fun E cs1 hx => ?_) (fun v cs1 hx => ?_)
  · simp only [hz] at hx
    exact absurd hx.1 (by simp)
  · simp only [hz] at hx
    obtain ⟨e1, rfl⟩ := hx
    cases e1
    refine ⟨rfl, ?_⟩
    refine r_st (st2 := [.int (nI c)]) rfl ?_
    refine r_cs (cs2 := [(a, .inr (11, [.ref pa, .ref ta, .ref sa, .ref gs, .ref co, .ref fu, .ref la, .ref gy, .ref du, .ref re, .ref wm, .ref ac])), (ta, .inr (10, [.ref ta1, .ref ta2, .ref taz, .ref ta4, .ref ta5, .ref ta6, .int X.1.2.2.1, .int X.1.2.2.2])), (ta1, .inl (1, 108, .inl X.1.1)), (ta2, .inl (0, 108, .inl X.1.2.1)), (taz, .inr (2, [.ref taz1, .ref taz2, .ref taz3, .ref taz4, .ref taz5, .ref taz6, .int X.2.1.1.1.2.2.2])), (taz1, .inl (0, 108, .inl X.2.1.1.1.1)), (taz2, .inl (0, 108, .inl X.2.1.1.2)), (taz3, .inl (0, 108, .inl X.2.1.1.1.2.1)), (taz4, .inl (0, 108, .inl X.2.1.1.1.2.2.1)), (taz5, .inl (0, 108, .inl X.2.1.2.1)), (taz6, .inl (0, 108, .inl X.2.1.2.2)), (ta4, .inl (2, 108, .inl X.2.2.1)), (ta5, .inl (2, 108, .inl X.2.2.2.1)), (ta6, .inl (0, 108, .inl (fun k => nI (X.2.2.2.2 k))))]) rfl ?_
    refine r_istore (lv' := [(4, .int (nI c)), (0, .ref a), (1, .int x), (2, .int y), (3, .int h)]) d_Ip_frozenIn_5 (by decide) rfl ?_
    refine r_iload_n d_Ip_frozenIn_7 rfl 4 rfl ?_
    refine r_callS (As := [.int h]) (rest := []) (csC := []) (is := []) ln_Ip_158 w_st_Ip_checkHeat ok_Ip_frozenIn_Ip_checkHeat d_Ip_frozenIn_8 (C_Ip_checkHeat g h) rfl rfl (Nat.le_of_ble_eq_true rfl) rfl (by decide) (by omega) (by omega) (fun E cs1 hx => ?_) (fun v cs1 hx => ?_)
    · simp only [if_pos hh] at hx
      exact absurd hx.1 (by simp)
    · simp only [if_pos hh] at hx
      obtain ⟨e1, rfl⟩ := hx
      cases e1
      refine ⟨rfl, ?_⟩
      refine r_st (st2 := []) rfl ?_
      refine r_cs (cs2 := [(a, .inr (11, [.ref pa, .ref ta, .ref sa, .ref gs, .ref co, .ref fu, .ref la, .ref gy, .ref du, .ref re, .ref wm, .ref ac])), (ta, .inr (10, [.ref ta1, .ref ta2, .ref taz, .ref ta4, .ref ta5, .ref ta6, .int X.1.2.2.1, .int X.1.2.2.2])), (ta1, .inl (1, 108, .inl X.1.1)), (ta2, .inl (0, 108, .inl X.1.2.1)), (taz, .inr (2, [.ref taz1, .ref taz2, .ref taz3, .ref taz4, .ref taz5, .ref taz6, .int X.2.1.1.1.2.2.2])), (taz1, .inl (0, 108, .inl X.2.1.1.1.1)), (taz2, .inl (0, 108, .inl X.2.1.1.2)), (taz3, .inl (0, 108, .inl X.2.1.1.1.2.1)), (taz4, .inl (0, 108, .inl X.2.1.1.1.2.2.1)), (taz5, .inl (0, 108, .inl X.2.1.2.1)), (taz6, .inl (0, 108, .inl X.2.1.2.2)), (ta4, .inl (2, 108, .inl X.2.2.1)), (ta5, .inl (2, 108, .inl X.2.2.2.1)), (ta6, .inl (0, 108, .inl (fun k => nI (X.2.2.2.2 k))))]) rfl ?_
      refine r_aload_n d_Ip_frozenIn_11 rfl 1 rfl ?_
      refine r_get fs_Ip_19 d_Ip_frozenIn_12 (q0 := 0) rfl rfl ?_
      refine r_iload_n d_Ip_frozenIn_15 rfl 4 rfl ?_
      refine r_callV (As := [.int h]) (rest := []) (csC := [(ta, .inr (10, [.ref ta1, .ref ta2, .ref taz, .ref ta4, .ref ta5, .ref ta6, .int X.1.2.2.1, .int X.1.2.2.2])), (ta1, .inl (1, 108, .inl X.1.1)), (ta2, .inl (0, 108, .inl X.1.2.1)), (taz, .inr (2, [.ref taz1, .ref taz2, .ref taz3, .ref taz4, .ref taz5, .ref taz6, .int X.2.1.1.1.2.2.2])), (taz1, .inl (0, 108, .inl X.2.1.1.1.1)), (taz2, .inl (0, 108, .inl X.2.1.1.2)), (taz3, .inl (0, 108, .inl X.2.1.1.1.2.1)), (taz4, .inl (0, 108, .inl X.2.1.1.1.2.2.1)), (taz5, .inl (0, 108, .inl X.2.1.2.1)), (taz6, .inl (0, 108, .inl X.2.1.2.2)), (ta4, .inl (2, 108, .inl X.2.2.1)), (ta5, .inl (2, 108, .inl X.2.2.2.1)), (ta6, .inl (0, 108, .inl (fun k => nI (X.2.2.2.2 k))))]) (is := [1, 2, 3, 4, 5, 6, 7, 8, 9, 10, 11, 12, 13]) (q0 := 1) rfl rfl ln_Ip_162 w_im_Tr_freeze w_se_Tr_freeze ok_Ip_frozenIn_Tr_freeze d_Ip_frozenIn_16 (X_freeze g ta ta1 ta2 taz taz1 taz2 taz3 taz4 taz5 taz6 ta4 ta5 ta6 h X) rfl rfl (Nat.le_of_ble_eq_true rfl) rfl (by decide) (by omega) (by omega) (fun E cs1 hx => ?_) (fun v cs1 hx => ?_)
      · exact absurd hx.1 (by simp)
      · obtain ⟨e1, rfl⟩ := hx
        cases e1
        refine ⟨rfl, ?_⟩
        refine r_st (st2 := []) rfl ?_
        refine r_cs (cs2 := [(a, .inr (11, [.ref pa, .ref ta, .ref sa, .ref gs, .ref co, .ref fu, .ref la, .ref gy, .ref du, .ref re, .ref wm, .ref ac])), (ta, .inr (10, [.ref ta1, .ref ta2, .ref taz, .ref ta4, .ref ta5, .ref ta6, .int ((frT h X).1.2.2.1), .int ((frT h X).1.2.2.2)])), (ta1, .inl (1, 108, .inl ((frT h X).1.1))), (ta2, .inl (0, 108, .inl ((frT h X).1.2.1))), (taz, .inr (2, [.ref taz1, .ref taz2, .ref taz3, .ref taz4, .ref taz5, .ref taz6, .int ((frT h X).2.1.1.1.2.2.2)])), (taz1, .inl (0, 108, .inl ((frT h X).2.1.1.1.1))), (taz2, .inl (0, 108, .inl ((frT h X).2.1.1.2))), (taz3, .inl (0, 108, .inl ((frT h X).2.1.1.1.2.1))), (taz4, .inl (0, 108, .inl ((frT h X).2.1.1.1.2.2.1))), (taz5, .inl (0, 108, .inl ((frT h X).2.1.2.1))), (taz6, .inl (0, 108, .inl ((frT h X).2.1.2.2))), (ta4, .inl (2, 108, .inl ((frT h X).2.2.1))), (ta5, .inl (2, 108, .inl ((frT h X).2.2.2.1))), (ta6, .inl (0, 108, .inl (fun k => nI ((frT h X).2.2.2.2 k))))]) rfl ?_
        refine r_aload_n d_Ip_frozenIn_19 rfl 1 rfl ?_
        refine r_get fs_Ip_19 d_Ip_frozenIn_20 (q0 := 0) rfl rfl ?_
        refine r_get fs_Ip_165 d_Ip_frozenIn_23 (q0 := 1) rfl rfl ?_
        refine r_get fs_Ip_169 d_Ip_frozenIn_26 (q0 := 4) rfl rfl ?_
        refine r_iload d_Ip_frozenIn_29 0 rfl ?_
        refine r_iald d_Ip_frozenIn_31 (q0 := 8) rfl (vp_in_nI (by omega) (by omega)) (v := ((frT h X).2.1.1.1.2.2.1) c) (by rw [nI_clamp (by omega)]) ?_
        refine r_iret d_Ip_frozenIn_32 rfl rfl ?_
        exact ⟨rfl, rfl⟩
abbrev M_Ip_isFed : zM := (⟨"Ironpour", "isFed", "(III)Z"⟩, prog_1_method_13_code, 5, (Option.some FieldType.boolean), 7, 136, [])
theorem d_Ip_isFed_0 : decode prog_1_method_13_code 0 = .ok (.iload_n 1, 1) := zo_27 (zd_b zq_prog_1_method_13_code_0 0 rfl rfl rfl)
theorem d_Ip_isFed_1 : decode prog_1_method_13_code 1 = .ok (.iload_n 2, 1) := zo_28 (zd_b zq_prog_1_method_13_code_0 1 rfl rfl rfl)
theorem d_Ip_isFed_2 : decode prog_1_method_13_code 2 = .ok (.invokestatic 114, 3) := zo_184 (d := 0) (e := 114) (zd_b zq_prog_1_method_13_code_0 2 rfl rfl rfl) (zd_b zq_prog_1_method_13_code_0 3 rfl rfl rfl) (zd_b zq_prog_1_method_13_code_0 4 rfl rfl rfl)
theorem ok_Ip_isFed_Ip_cellAt : z_ok M_Ip_isFed M_Ip_cellAt 2 := ⟨z_mj4 (i := 22) rfl (by decide +kernel), rfl, ⟨by decide +kernel, by decide +kernel, by decide +kernel⟩, ⟨by decide, by decide⟩, z_mj1 (i := 1) rfl (by decide +kernel), rfl⟩
set_option maxHeartbeats 4000000 in
set_option maxRecDepth 100000 in
theorem C_Ip_isFedE (g : zG) (a pa ta sa gs co fu la gy du re wm ac : Nat) (ta1 ta2 taz taz1 taz2 taz3 taz4 taz5 taz6 ta4 ta5 ta6 : Nat) (X : zTr) (x y : Int32) (h : Int32) (hz : z_cl x y = none) : CT g M_Ip_isFed [.ref a, .int x, .int y, .int h] [(a, .inr (11, [.ref pa, .ref ta, .ref sa, .ref gs, .ref co, .ref fu, .ref la, .ref gy, .ref du, .ref re, .ref wm, .ref ac])), (ta, .inr (10, [.ref ta1, .ref ta2, .ref taz, .ref ta4, .ref ta5, .ref ta6, .int X.1.2.2.1, .int X.1.2.2.2])), (ta1, .inl (1, 108, .inl X.1.1)), (ta2, .inl (0, 108, .inl X.1.2.1)), (taz, .inr (2, [.ref taz1, .ref taz2, .ref taz3, .ref taz4, .ref taz5, .ref taz6, .int X.2.1.1.1.2.2.2])), (taz1, .inl (0, 108, .inl X.2.1.1.1.1)), (taz2, .inl (0, 108, .inl X.2.1.1.2)), (taz3, .inl (0, 108, .inl X.2.1.1.1.2.1)), (taz4, .inl (0, 108, .inl X.2.1.1.1.2.2.1)), (taz5, .inl (0, 108, .inl X.2.1.2.1)), (taz6, .inl (0, 108, .inl X.2.1.2.2)), (ta4, .inl (2, 108, .inl X.2.2.1)), (ta5, .inl (2, 108, .inl X.2.2.2.1)), (ta6, .inl (0, 108, .inl (fun k => nI (X.2.2.2.2 k))))] (fun o cs1 => o = .inr "java/lang/IndexOutOfBoundsException" ∧ cs1 = [(a, .inr (11, [.ref pa, .ref ta, .ref sa, .ref gs, .ref co, .ref fu, .ref la, .ref gy, .ref du, .ref re, .ref wm, .ref ac])), (ta, .inr (10, [.ref ta1, .ref ta2, .ref taz, .ref ta4, .ref ta5, .ref ta6, .int X.1.2.2.1, .int X.1.2.2.2])), (ta1, .inl (1, 108, .inl X.1.1)), (ta2, .inl (0, 108, .inl X.1.2.1)), (taz, .inr (2, [.ref taz1, .ref taz2, .ref taz3, .ref taz4, .ref taz5, .ref taz6, .int X.2.1.1.1.2.2.2])), (taz1, .inl (0, 108, .inl X.2.1.1.1.1)), (taz2, .inl (0, 108, .inl X.2.1.1.2)), (taz3, .inl (0, 108, .inl X.2.1.1.1.2.1)), (taz4, .inl (0, 108, .inl X.2.1.1.1.2.2.1)), (taz5, .inl (0, 108, .inl X.2.1.2.1)), (taz6, .inl (0, 108, .inl X.2.1.2.2)), (ta4, .inl (2, 108, .inl X.2.2.1)), (ta5, .inl (2, 108, .inl X.2.2.2.1)), (ta6, .inl (0, 108, .inl (fun k => nI (X.2.2.2.2 k))))]) 2 12 := by
  refine z_of (by decide) rfl (Nat.le_of_ble_eq_true rfl) (fun w0 => ?_)
  refine r_lvE (lv2 := [(0, .ref a), (1, .int x), (2, .int y), (3, .int h)]) rfl ?_
  refine r_iload_n d_Ip_isFed_0 rfl 1 rfl ?_
  refine r_iload_n d_Ip_isFed_1 rfl 2 rfl ?_
  refine r_callS (As := [.int x, .int y]) (rest := []) (csC := []) (is := []) ln_Ip_114 w_st_Ip_cellAt ok_Ip_isFed_Ip_cellAt d_Ip_isFed_2 (C_Ip_cellAt g x y) rfl rfl (Nat.le_of_ble_eq_true rfl) rfl (by decide) (by omega) (by omega) (fun E cs1 hx => ?_) (fun v cs1 hx => ?_)
  · simp only [hz] at hx
    obtain ⟨e1, rfl⟩ := hx
    cases e1
    exact ⟨rfl, rfl, rfl⟩
  · simp only [hz] at hx
    exact absurd hx.1 (by simp)
theorem d_Ip_isFed_5 : decode prog_1_method_13_code 5 = .ok (.istore 4, 2) := zo_54 (d := 4) (zd_b zq_prog_1_method_13_code_0 5 rfl rfl rfl) (zd_b zq_prog_1_method_13_code_0 6 rfl rfl rfl)
theorem d_Ip_isFed_7 : decode prog_1_method_13_code 7 = .ok (.iload_n 3, 1) := zo_29 (zd_b zq_prog_1_method_13_code_0 7 rfl rfl rfl)
theorem d_Ip_isFed_8 : decode prog_1_method_13_code 8 = .ok (.invokestatic 158, 3) := zo_184 (d := 0) (e := 158) (zd_b zq_prog_1_method_13_code_0 8 rfl rfl rfl) (zd_b zq_prog_1_method_13_code_0 9 rfl rfl rfl) (zd_b zq_prog_1_method_13_code_0 10 rfl rfl rfl)
theorem ok_Ip_isFed_Ip_checkHeat : z_ok M_Ip_isFed M_Ip_checkHeat 1 := ⟨z_mj4 (i := 94) rfl (by decide +kernel), rfl, ⟨by decide +kernel, by decide +kernel, by decide +kernel⟩, ⟨by decide, by decide⟩, z_mj1 (i := 1) rfl (by decide +kernel), rfl⟩
set_option maxHeartbeats 4000000 in
set_option maxRecDepth 100000 in
theorem C_Ip_isFedF (g : zG) (a pa ta sa gs co fu la gy du re wm ac : Nat) (ta1 ta2 taz taz1 taz2 taz3 taz4 taz5 taz6 ta4 ta5 ta6 : Nat) (X : zTr) (x y : Int32) (h : Int32) (c : Nat) (hz : z_cl x y = some c) (hh : ¬ (1200 ≤ h ∧ h ≤ 1500)) : CT g M_Ip_isFed [.ref a, .int x, .int y, .int h] [(a, .inr (11, [.ref pa, .ref ta, .ref sa, .ref gs, .ref co, .ref fu, .ref la, .ref gy, .ref du, .ref re, .ref wm, .ref ac])), (ta, .inr (10, [.ref ta1, .ref ta2, .ref taz, .ref ta4, .ref ta5, .ref ta6, .int X.1.2.2.1, .int X.1.2.2.2])), (ta1, .inl (1, 108, .inl X.1.1)), (ta2, .inl (0, 108, .inl X.1.2.1)), (taz, .inr (2, [.ref taz1, .ref taz2, .ref taz3, .ref taz4, .ref taz5, .ref taz6, .int X.2.1.1.1.2.2.2])), (taz1, .inl (0, 108, .inl X.2.1.1.1.1)), (taz2, .inl (0, 108, .inl X.2.1.1.2)), (taz3, .inl (0, 108, .inl X.2.1.1.1.2.1)), (taz4, .inl (0, 108, .inl X.2.1.1.1.2.2.1)), (taz5, .inl (0, 108, .inl X.2.1.2.1)), (taz6, .inl (0, 108, .inl X.2.1.2.2)), (ta4, .inl (2, 108, .inl X.2.2.1)), (ta5, .inl (2, 108, .inl X.2.2.2.1)), (ta6, .inl (0, 108, .inl (fun k => nI (X.2.2.2.2 k))))] (fun o cs1 => o = .inr "java/lang/IllegalArgumentException" ∧ cs1 = [(a, .inr (11, [.ref pa, .ref ta, .ref sa, .ref gs, .ref co, .ref fu, .ref la, .ref gy, .ref du, .ref re, .ref wm, .ref ac])), (ta, .inr (10, [.ref ta1, .ref ta2, .ref taz, .ref ta4, .ref ta5, .ref ta6, .int X.1.2.2.1, .int X.1.2.2.2])), (ta1, .inl (1, 108, .inl X.1.1)), (ta2, .inl (0, 108, .inl X.1.2.1)), (taz, .inr (2, [.ref taz1, .ref taz2, .ref taz3, .ref taz4, .ref taz5, .ref taz6, .int X.2.1.1.1.2.2.2])), (taz1, .inl (0, 108, .inl X.2.1.1.1.1)), (taz2, .inl (0, 108, .inl X.2.1.1.2)), (taz3, .inl (0, 108, .inl X.2.1.1.1.2.1)), (taz4, .inl (0, 108, .inl X.2.1.1.1.2.2.1)), (taz5, .inl (0, 108, .inl X.2.1.2.1)), (taz6, .inl (0, 108, .inl X.2.1.2.2)), (ta4, .inl (2, 108, .inl X.2.2.1)), (ta5, .inl (2, 108, .inl X.2.2.2.1)), (ta6, .inl (0, 108, .inl (fun k => nI (X.2.2.2.2 k))))]) 2 12 := by
  refine z_of (by decide) rfl (Nat.le_of_ble_eq_true rfl) (fun w0 => ?_)
  refine r_lvE (lv2 := [(0, .ref a), (1, .int x), (2, .int y), (3, .int h)]) rfl ?_
  refine r_iload_n d_Ip_isFed_0 rfl 1 rfl ?_
  refine r_iload_n d_Ip_isFed_1 rfl 2 rfl ?_
  refine r_callS (As := [.int x, .int y]) (rest := []) (csC := []) (is := []) ln_Ip_114 w_st_Ip_cellAt ok_Ip_isFed_Ip_cellAt d_Ip_isFed_2 (C_Ip_cellAt g x y) rfl rfl (Nat.le_of_ble_eq_true rfl) rfl (by decide) (by omega) (by omega) (fun E cs1 hx => ?_) (fun v cs1 hx => ?_)
  · simp only [hz] at hx
    exact absurd hx.1 (by simp)
  · simp only [hz] at hx
    obtain ⟨e1, rfl⟩ := hx
    cases e1
    refine ⟨rfl, ?_⟩
    refine r_st (st2 := [.int (nI c)]) rfl ?_
    refine r_cs (cs2 := [(a, .inr (11, [.ref pa, .ref ta, .ref sa, .ref gs, .ref co, .ref fu, .ref la, .ref gy, .ref du, .ref re, .ref wm, .ref ac])), (ta, .inr (10, [.ref ta1, .ref ta2, .ref taz, .ref ta4, .ref ta5, .ref ta6, .int X.1.2.2.1, .int X.1.2.2.2])), (ta1, .inl (1, 108, .inl X.1.1)), (ta2, .inl (0, 108, .inl X.1.2.1)), (taz, .inr (2, [.ref taz1, .ref taz2, .ref taz3, .ref taz4, .ref taz5, .ref taz6, .int X.2.1.1.1.2.2.2])), (taz1, .inl (0, 108, .inl X.2.1.1.1.1)), (taz2, .inl (0, 108, .inl X.2.1.1.2)), (taz3, .inl (0, 108, .inl X.2.1.1.1.2.1)), (taz4, .inl (0, 108, .inl X.2.1.1.1.2.2.1)), (taz5, .inl (0, 108, .inl X.2.1.2.1)), (taz6, .inl (0, 108, .inl X.2.1.2.2)), (ta4, .inl (2, 108, .inl X.2.2.1)), (ta5, .inl (2, 108, .inl X.2.2.2.1)), (ta6, .inl (0, 108, .inl (fun k => nI (X.2.2.2.2 k))))]) rfl ?_
    refine r_istore (lv' := [(4, .int (nI c)), (0, .ref a), (1, .int x), (2, .int y), (3, .int h)]) d_Ip_isFed_5 (by decide) rfl ?_
    refine r_iload_n d_Ip_isFed_7 rfl 4 rfl ?_
    refine r_callS (As := [.int h]) (rest := []) (csC := []) (is := []) ln_Ip_158 w_st_Ip_checkHeat ok_Ip_isFed_Ip_checkHeat d_Ip_isFed_8 (C_Ip_checkHeat g h) rfl rfl (Nat.le_of_ble_eq_true rfl) rfl (by decide) (by omega) (by omega) (fun E cs1 hx => ?_) (fun v cs1 hx => ?_)
    · simp only [if_neg hh] at hx
      obtain ⟨e1, rfl⟩ := hx
      cases e1
      exact ⟨rfl, rfl, rfl⟩
    · simp only [if_neg hh] at hx
      exact absurd hx.1 (by simp)
theorem d_Ip_isFed_11 : decode prog_1_method_13_code 11 = .ok (.aload_n 0, 1) := zo_42 (zd_b zq_prog_1_method_13_code_0 11 rfl rfl rfl)
theorem d_Ip_isFed_12 : decode prog_1_method_13_code 12 = .ok (.getfield 19, 3) := zo_180 (d := 0) (e := 19) (zd_b zq_prog_1_method_13_code_0 12 rfl rfl rfl) (zd_b zq_prog_1_method_13_code_0 13 rfl rfl rfl) (zd_b zq_prog_1_method_13_code_0 14 rfl rfl rfl)
theorem d_Ip_isFed_15 : decode prog_1_method_13_code 15 = .ok (.iload_n 3, 1) := zo_29 (zd_b zq_prog_1_method_13_code_0 15 rfl rfl rfl)
theorem d_Ip_isFed_16 : decode prog_1_method_13_code 16 = .ok (.invokevirtual 162, 3) := zo_182 (d := 0) (e := 162) (zd_b zq_prog_1_method_13_code_0 16 rfl rfl rfl) (zd_b zq_prog_1_method_13_code_0 17 rfl rfl rfl) (zd_b zq_prog_1_method_13_code_0 18 rfl rfl rfl)
theorem ok_Ip_isFed_Tr_freeze : z_ok M_Ip_isFed M_Tr_freeze 1 := ⟨z_mj2 (i := 208) rfl (by decide +kernel), rfl, ⟨by decide +kernel, by decide +kernel, by decide +kernel⟩, ⟨by decide, by decide⟩, z_mj1 (i := 3) rfl (by decide +kernel), rfl⟩
theorem d_Ip_isFed_19 : decode prog_1_method_13_code 19 = .ok (.aload_n 0, 1) := zo_42 (zd_b zq_prog_1_method_13_code_0 19 rfl rfl rfl)
theorem d_Ip_isFed_20 : decode prog_1_method_13_code 20 = .ok (.getfield 19, 3) := zo_180 (d := 0) (e := 19) (zd_b zq_prog_1_method_13_code_0 20 rfl rfl rfl) (zd_b zq_prog_1_method_13_code_0 21 rfl rfl rfl) (zd_b zq_prog_1_method_13_code_0 22 rfl rfl rfl)
theorem d_Ip_isFed_23 : decode prog_1_method_13_code 23 = .ok (.getfield 183, 3) := zo_180 (d := 0) (e := 183) (zd_b zq_prog_1_method_13_code_0 23 rfl rfl rfl) (zd_b zq_prog_1_method_13_code_0 24 rfl rfl rfl) (zd_b zq_prog_1_method_13_code_0 25 rfl rfl rfl)
theorem fs_Ip_183 : z_fs "Ironpour" 183 10 3 := ⟨R_Tr, "Ironpour$Trial", F_Tr, 8, rfl, u_Tr, by decide, Or.inr ⟨"Ironpour", z_mk1 (i := 116) rfl (by decide +kernel), rfl⟩⟩
theorem d_Ip_isFed_26 : decode prog_1_method_13_code 26 = .ok (.iload 4, 2) := zo_21 (d := 4) (zd_b zq_prog_1_method_13_code_0 26 rfl rfl rfl) (zd_b zq_prog_1_method_13_code_0 27 rfl rfl rfl)
theorem d_Ip_isFed_28 : decode prog_1_method_13_code 28 = .ok (.baload, 1) := zo_51 (zd_b zq_prog_1_method_13_code_0 28 rfl rfl rfl)
theorem d_Ip_isFed_29 : decode prog_1_method_13_code 29 = .ok (.ireturn, 1) := zo_172 (zd_b zq_prog_1_method_13_code_0 29 rfl rfl rfl)
set_option maxHeartbeats 4000000 in
set_option maxRecDepth 100000 in
theorem C_Ip_isFedN (g : zG) (a pa ta sa gs co fu la gy du re wm ac : Nat) (ta1 ta2 taz taz1 taz2 taz3 taz4 taz5 taz6 ta4 ta5 ta6 : Nat) (X : zTr) (x y : Int32) (h : Int32) (c : Nat) (hz : z_cl x y = some c) (hh : 1200 ≤ h ∧ h ≤ 1500) (hb : (frT h X).2.2.1 c = 0 ∨ (frT h X).2.2.1 c = 1) : CT g M_Ip_isFed [.ref a, .int x, .int y, .int h] [(a, .inr (11, [.ref pa, .ref ta, .ref sa, .ref gs, .ref co, .ref fu, .ref la, .ref gy, .ref du, .ref re, .ref wm, .ref ac])), (ta, .inr (10, [.ref ta1, .ref ta2, .ref taz, .ref ta4, .ref ta5, .ref ta6, .int X.1.2.2.1, .int X.1.2.2.2])), (ta1, .inl (1, 108, .inl X.1.1)), (ta2, .inl (0, 108, .inl X.1.2.1)), (taz, .inr (2, [.ref taz1, .ref taz2, .ref taz3, .ref taz4, .ref taz5, .ref taz6, .int X.2.1.1.1.2.2.2])), (taz1, .inl (0, 108, .inl X.2.1.1.1.1)), (taz2, .inl (0, 108, .inl X.2.1.1.2)), (taz3, .inl (0, 108, .inl X.2.1.1.1.2.1)), (taz4, .inl (0, 108, .inl X.2.1.1.1.2.2.1)), (taz5, .inl (0, 108, .inl X.2.1.2.1)), (taz6, .inl (0, 108, .inl X.2.1.2.2)), (ta4, .inl (2, 108, .inl X.2.2.1)), (ta5, .inl (2, 108, .inl X.2.2.2.1)), (ta6, .inl (0, 108, .inl (fun k => nI (X.2.2.2.2 k))))] (fun o cs1 => o = .inl (some (.int ((frT h X).2.2.1 c))) ∧ cs1 = [(a, .inr (11, [.ref pa, .ref ta, .ref sa, .ref gs, .ref co, .ref fu, .ref la, .ref gy, .ref du, .ref re, .ref wm, .ref ac])), (ta, .inr (10, [.ref ta1, .ref ta2, .ref taz, .ref ta4, .ref ta5, .ref ta6, .int ((frT h X).1.2.2.1), .int ((frT h X).1.2.2.2)])), (ta1, .inl (1, 108, .inl ((frT h X).1.1))), (ta2, .inl (0, 108, .inl ((frT h X).1.2.1))), (taz, .inr (2, [.ref taz1, .ref taz2, .ref taz3, .ref taz4, .ref taz5, .ref taz6, .int ((frT h X).2.1.1.1.2.2.2)])), (taz1, .inl (0, 108, .inl ((frT h X).2.1.1.1.1))), (taz2, .inl (0, 108, .inl ((frT h X).2.1.1.2))), (taz3, .inl (0, 108, .inl ((frT h X).2.1.1.1.2.1))), (taz4, .inl (0, 108, .inl ((frT h X).2.1.1.1.2.2.1))), (taz5, .inl (0, 108, .inl ((frT h X).2.1.2.1))), (taz6, .inl (0, 108, .inl ((frT h X).2.1.2.2))), (ta4, .inl (2, 108, .inl ((frT h X).2.2.1))), (ta5, .inl (2, 108, .inl ((frT h X).2.2.2.1))), (ta6, .inl (0, 108, .inl (fun k => nI ((frT h X).2.2.2.2 k))))]) 2 12 := by
  refine z_of (by decide) rfl (Nat.le_of_ble_eq_true rfl) (fun w0 => ?_)
  refine r_lvE (lv2 := [(0, .ref a), (1, .int x), (2, .int y), (3, .int h)]) rfl ?_
  have hc := z_cl_lt hz
  refine r_iload_n d_Ip_isFed_0 rfl 1 rfl ?_
  refine r_iload_n d_Ip_isFed_1 rfl 2 rfl ?_
  refine r_callS (As := [.int x, .int y]) (rest := []) (csC := []) (is := []) ln_Ip_114 w_st_Ip_cellAt ok_Ip_isFed_Ip_cellAt d_Ip_isFed_2 (C_Ip_cellAt g x y) rfl rfl (Nat.le_of_ble_eq_true rfl) rfl (by decide) (by omega) (by omega) (fun E cs1 hx => ?_) (fun v cs1 hx => ?_)
  · simp only [hz] at hx
    exact absurd hx.1 (by simp)
  · simp only [hz] at hx
    obtain ⟨e1, rfl⟩ := hx
    cases e1
    refine ⟨rfl, ?_⟩
    refine r_st (st2 := [.int (nI c)]) rfl ?_
    refine r_cs (cs2 := [(a, .inr (11, [.ref pa, .ref ta, .ref sa, .ref gs, .ref co, .ref fu, .ref la, .ref gy, .ref du, .ref re, .ref wm, .ref ac])), (ta, .inr (10, [.ref ta1, .ref ta2, .ref taz, .ref ta4, .ref ta5, .ref ta6, .int X.1.2.2.1, .int X.1.2.2.2])), (ta1, .inl (1, 108, .inl X.1.1)), (ta2, .inl (0, 108, .inl X.1.2.1)), (taz, .inr (2, [.ref taz1, .ref taz2, .ref taz3, .ref taz4, .ref taz5, .ref taz6, .int X.2.1.1.1.2.2.2])), (taz1, .inl (0, 108, .inl X.2.1.1.1.1)), (taz2, .inl (0, 108, .inl X.2.1.1.2)), (taz3, .inl (0, 108, .inl X.2.1.1.1.2.1)), (taz4, .inl (0, 108, .inl X.2.1.1.1.2.2.1)), (taz5, .inl (0, 108, .inl X.2.1.2.1)), (taz6, .inl (0, 108, .inl X.2.1.2.2)), (ta4, .inl (2, 108, .inl X.2.2.1)), (ta5, .inl (2, 108, .inl X.2.2.2.1)), (ta6, .inl (0, 108, .inl (fun k => nI (X.2.2.2.2 k))))]) rfl ?_
    refine r_istore (lv' := [(4, .int (nI c)), (0, .ref a), (1, .int x), (2, .int y), (3, .int h)]) d_Ip_isFed_5 (by decide) rfl ?_
    refine r_iload_n d_Ip_isFed_7 rfl 4 rfl ?_
    refine r_callS (As := [.int h]) (rest := []) (csC := []) (is := []) ln_Ip_158 w_st_Ip_checkHeat ok_Ip_isFed_Ip_checkHeat d_Ip_isFed_8 (C_Ip_checkHeat g h) rfl rfl (Nat.le_of_ble_eq_true rfl) rfl (by decide) (by omega) (by omega) (fun E cs1 hx => ?_) (fun v cs1 hx => ?_)
    · simp only [if_pos hh] at hx
      exact absurd hx.1 (by simp)
    · simp only [if_pos hh] at hx
      obtain ⟨e1, rfl⟩ := hx
      cases e1
      refine ⟨rfl, ?_⟩
      refine r_st (st2 := []) rfl ?_
      refine r_cs (cs2 := [(a, .inr (11, [.ref pa, .ref ta, .ref sa, .ref gs, .ref co, .ref fu, .ref la, .ref gy, .ref du, .ref re, .ref wm, .ref ac])), (ta, .inr (10, [.ref ta1, .ref ta2, .ref taz, .ref ta4, .ref ta5, .ref ta6, .int X.1.2.2.1, .int X.1.2.2.2])), (ta1, .inl (1, 108, .inl X.1.1)), (ta2, .inl (0, 108, .inl X.1.2.1)), (taz, .inr (2, [.ref taz1, .ref taz2, .ref taz3, .ref taz4, .ref taz5, .ref taz6, .int X.2.1.1.1.2.2.2])), (taz1, .inl (0, 108, .inl X.2.1.1.1.1)), (taz2, .inl (0, 108, .inl X.2.1.1.2)), (taz3, .inl (0, 108, .inl X.2.1.1.1.2.1)), (taz4, .inl (0, 108, .inl X.2.1.1.1.2.2.1)), (taz5, .inl (0, 108, .inl X.2.1.2.1)), (taz6, .inl (0, 108, .inl X.2.1.2.2)), (ta4, .inl (2, 108, .inl X.2.2.1)), (ta5, .inl (2, 108, .inl X.2.2.2.1)), (ta6, .inl (0, 108, .inl (fun k => nI (X.2.2.2.2 k))))]) rfl ?_
      refine r_aload_n d_Ip_isFed_11 rfl 1 rfl ?_
      refine r_get fs_Ip_19 d_Ip_isFed_12 (q0 := 0) rfl rfl ?_
      refine r_iload_n d_Ip_isFed_15 rfl 4 rfl ?_
      refine r_callV (As := [.int h]) (rest := []) (csC := [(ta, .inr (10, [.ref ta1, .ref ta2, .ref taz, .ref ta4, .ref ta5, .ref ta6, .int X.1.2.2.1, .int X.1.2.2.2])), (ta1, .inl (1, 108, .inl X.1.1)), (ta2, .inl (0, 108, .inl X.1.2.1)), (taz, .inr (2, [.ref taz1, .ref taz2, .ref taz3, .ref taz4, .ref taz5, .ref taz6, .int X.2.1.1.1.2.2.2])), (taz1, .inl (0, 108, .inl X.2.1.1.1.1)), (taz2, .inl (0, 108, .inl X.2.1.1.2)), (taz3, .inl (0, 108, .inl X.2.1.1.1.2.1)), (taz4, .inl (0, 108, .inl X.2.1.1.1.2.2.1)), (taz5, .inl (0, 108, .inl X.2.1.2.1)), (taz6, .inl (0, 108, .inl X.2.1.2.2)), (ta4, .inl (2, 108, .inl X.2.2.1)), (ta5, .inl (2, 108, .inl X.2.2.2.1)), (ta6, .inl (0, 108, .inl (fun k => nI (X.2.2.2.2 k))))]) (is := [1, 2, 3, 4, 5, 6, 7, 8, 9, 10, 11, 12, 13]) (q0 := 1) rfl rfl ln_Ip_162 w_im_Tr_freeze w_se_Tr_freeze ok_Ip_isFed_Tr_freeze d_Ip_isFed_16 (X_freeze g ta ta1 ta2 taz taz1 taz2 taz3 taz4 taz5 taz6 ta4 ta5 ta6 h X) rfl rfl (Nat.le_of_ble_eq_true rfl) rfl (by decide) (by omega) (by omega) (fun E cs1 hx => ?_) (fun v cs1 hx => ?_)
      · exact absurd hx.1 (by simp)
      · obtain ⟨e1, rfl⟩ := hx
        cases e1
        refine ⟨rfl, ?_⟩
        refine r_st (st2 := []) rfl ?_
        refine r_cs (cs2 := [(a, .inr (11, [.ref pa, .ref ta, .ref sa, .ref gs, .ref co, .ref fu, .ref la, .ref gy, .ref du, .ref re, .ref wm, .ref ac])), (ta, .inr (10, [.ref ta1, .ref ta2, .ref taz, .ref ta4, .ref ta5, .ref ta6, .int ((frT h X).1.2.2.1), .int ((frT h X).1.2.2.2)])), (ta1, .inl (1, 108, .inl ((frT h X).1.1))), (ta2, .inl (0, 108, .inl ((frT h X).1.2.1))), (taz, .inr (2, [.ref taz1, .ref taz2, .ref taz3, .ref taz4, .ref taz5, .ref taz6, .int ((frT h X).2.1.1.1.2.2.2)])), (taz1, .inl (0, 108, .inl ((frT h X).2.1.1.1.1))), (taz2, .inl (0, 108, .inl ((frT h X).2.1.1.2))), (taz3, .inl (0, 108, .inl ((frT h X).2.1.1.1.2.1))), (taz4, .inl (0, 108, .inl ((frT h X).2.1.1.1.2.2.1))), (taz5, .inl (0, 108, .inl ((frT h X).2.1.2.1))), (taz6, .inl (0, 108, .inl ((frT h X).2.1.2.2))), (ta4, .inl (2, 108, .inl ((frT h X).2.2.1))), (ta5, .inl (2, 108, .inl ((frT h X).2.2.2.1))), (ta6, .inl (0, 108, .inl (fun k => nI ((frT h X).2.2.2.2 k))))]) rfl ?_
        refine r_aload_n d_Ip_isFed_19 rfl 1 rfl ?_
        refine r_get fs_Ip_19 d_Ip_isFed_20 (q0 := 0) rfl rfl ?_
        refine r_get fs_Ip_183 d_Ip_isFed_23 (q0 := 1) rfl rfl ?_
        refine r_iload d_Ip_isFed_26 0 rfl ?_
        refine r_zald d_Ip_isFed_28 (q0 := 11) rfl (vp_in_nI (by omega) (by omega)) (v := ((frT h X).2.2.1) c) (by rw [nI_clamp (by omega)]) ?_
        refine r_iret d_Ip_isFed_29 rfl (by rcases hb with e | e <;> rw [e] <;> rfl) ?_
        exact ⟨rfl, rfl⟩
abbrev M_Ip_shrunk : zM := (⟨"Ironpour", "shrunk", "(I)I"⟩, prog_1_method_14_code, 2, (Option.some FieldType.int), 7, 136, [])
theorem d_Ip_shrunk_0 : decode prog_1_method_14_code 0 = .ok (.iload_n 1, 1) := zo_27 (zd_b zq_prog_1_method_14_code_0 0 rfl rfl rfl)
theorem d_Ip_shrunk_1 : decode prog_1_method_14_code 1 = .ok (.invokestatic 158, 3) := zo_184 (d := 0) (e := 158) (zd_b zq_prog_1_method_14_code_0 1 rfl rfl rfl) (zd_b zq_prog_1_method_14_code_0 2 rfl rfl rfl) (zd_b zq_prog_1_method_14_code_0 3 rfl rfl rfl)
theorem ok_Ip_shrunk_Ip_checkHeat : z_ok M_Ip_shrunk M_Ip_checkHeat 1 := ⟨z_mj4 (i := 94) rfl (by decide +kernel), rfl, ⟨by decide +kernel, by decide +kernel, by decide +kernel⟩, ⟨by decide, by decide⟩, z_mj1 (i := 1) rfl (by decide +kernel), rfl⟩
set_option maxHeartbeats 4000000 in
set_option maxRecDepth 100000 in
theorem C_Ip_shrunkE (g : zG) (a pa ta sa gs co fu la gy du re wm ac : Nat) (ta1 ta2 taz taz1 taz2 taz3 taz4 taz5 taz6 ta4 ta5 ta6 : Nat) (X : zTr) (h : Int32) (hh : ¬ (1200 ≤ h ∧ h ≤ 1500)) : CT g M_Ip_shrunk [.ref a, .int h] [(a, .inr (11, [.ref pa, .ref ta, .ref sa, .ref gs, .ref co, .ref fu, .ref la, .ref gy, .ref du, .ref re, .ref wm, .ref ac])), (ta, .inr (10, [.ref ta1, .ref ta2, .ref taz, .ref ta4, .ref ta5, .ref ta6, .int X.1.2.2.1, .int X.1.2.2.2])), (ta1, .inl (1, 108, .inl X.1.1)), (ta2, .inl (0, 108, .inl X.1.2.1)), (taz, .inr (2, [.ref taz1, .ref taz2, .ref taz3, .ref taz4, .ref taz5, .ref taz6, .int X.2.1.1.1.2.2.2])), (taz1, .inl (0, 108, .inl X.2.1.1.1.1)), (taz2, .inl (0, 108, .inl X.2.1.1.2)), (taz3, .inl (0, 108, .inl X.2.1.1.1.2.1)), (taz4, .inl (0, 108, .inl X.2.1.1.1.2.2.1)), (taz5, .inl (0, 108, .inl X.2.1.2.1)), (taz6, .inl (0, 108, .inl X.2.1.2.2)), (ta4, .inl (2, 108, .inl X.2.2.1)), (ta5, .inl (2, 108, .inl X.2.2.2.1)), (ta6, .inl (0, 108, .inl (fun k => nI (X.2.2.2.2 k))))] (fun o cs1 => o = .inr "java/lang/IllegalArgumentException" ∧ cs1 = [(a, .inr (11, [.ref pa, .ref ta, .ref sa, .ref gs, .ref co, .ref fu, .ref la, .ref gy, .ref du, .ref re, .ref wm, .ref ac])), (ta, .inr (10, [.ref ta1, .ref ta2, .ref taz, .ref ta4, .ref ta5, .ref ta6, .int X.1.2.2.1, .int X.1.2.2.2])), (ta1, .inl (1, 108, .inl X.1.1)), (ta2, .inl (0, 108, .inl X.1.2.1)), (taz, .inr (2, [.ref taz1, .ref taz2, .ref taz3, .ref taz4, .ref taz5, .ref taz6, .int X.2.1.1.1.2.2.2])), (taz1, .inl (0, 108, .inl X.2.1.1.1.1)), (taz2, .inl (0, 108, .inl X.2.1.1.2)), (taz3, .inl (0, 108, .inl X.2.1.1.1.2.1)), (taz4, .inl (0, 108, .inl X.2.1.1.1.2.2.1)), (taz5, .inl (0, 108, .inl X.2.1.2.1)), (taz6, .inl (0, 108, .inl X.2.1.2.2)), (ta4, .inl (2, 108, .inl X.2.2.1)), (ta5, .inl (2, 108, .inl X.2.2.2.1)), (ta6, .inl (0, 108, .inl (fun k => nI (X.2.2.2.2 k))))]) 1 6 := by
  refine z_of (by decide) rfl (Nat.le_of_ble_eq_true rfl) (fun w0 => ?_)
  refine r_lvE (lv2 := [(0, .ref a), (1, .int h)]) rfl ?_
  refine r_iload_n d_Ip_shrunk_0 rfl 1 rfl ?_
  refine r_callS (As := [.int h]) (rest := []) (csC := []) (is := []) ln_Ip_158 w_st_Ip_checkHeat ok_Ip_shrunk_Ip_checkHeat d_Ip_shrunk_1 (C_Ip_checkHeat g h) rfl rfl (Nat.le_of_ble_eq_true rfl) rfl (by decide) (by omega) (by omega) (fun E cs1 hx => ?_) (fun v cs1 hx => ?_)
  · simp only [if_neg hh] at hx
    obtain ⟨e1, rfl⟩ := hx
    cases e1
    exact ⟨rfl, rfl, rfl⟩
  · simp only [if_neg hh] at hx
    exact absurd hx.1 (by simp)
theorem d_Ip_shrunk_4 : decode prog_1_method_14_code 4 = .ok (.aload_n 0, 1) := zo_42 (zd_b zq_prog_1_method_14_code_0 4 rfl rfl rfl)
theorem d_Ip_shrunk_5 : decode prog_1_method_14_code 5 = .ok (.getfield 19, 3) := zo_180 (d := 0) (e := 19) (zd_b zq_prog_1_method_14_code_0 5 rfl rfl rfl) (zd_b zq_prog_1_method_14_code_0 6 rfl rfl rfl) (zd_b zq_prog_1_method_14_code_0 7 rfl rfl rfl)
theorem d_Ip_shrunk_8 : decode prog_1_method_14_code 8 = .ok (.iload_n 1, 1) := zo_27 (zd_b zq_prog_1_method_14_code_0 8 rfl rfl rfl)
theorem d_Ip_shrunk_9 : decode prog_1_method_14_code 9 = .ok (.invokevirtual 162, 3) := zo_182 (d := 0) (e := 162) (zd_b zq_prog_1_method_14_code_0 9 rfl rfl rfl) (zd_b zq_prog_1_method_14_code_0 10 rfl rfl rfl) (zd_b zq_prog_1_method_14_code_0 11 rfl rfl rfl)
theorem ok_Ip_shrunk_Tr_freeze : z_ok M_Ip_shrunk M_Tr_freeze 1 := ⟨z_mj2 (i := 208) rfl (by decide +kernel), rfl, ⟨by decide +kernel, by decide +kernel, by decide +kernel⟩, ⟨by decide, by decide⟩, z_mj1 (i := 3) rfl (by decide +kernel), rfl⟩
theorem d_Ip_shrunk_12 : decode prog_1_method_14_code 12 = .ok (.aload_n 0, 1) := zo_42 (zd_b zq_prog_1_method_14_code_0 12 rfl rfl rfl)
theorem d_Ip_shrunk_13 : decode prog_1_method_14_code 13 = .ok (.getfield 19, 3) := zo_180 (d := 0) (e := 19) (zd_b zq_prog_1_method_14_code_0 13 rfl rfl rfl) (zd_b zq_prog_1_method_14_code_0 14 rfl rfl rfl) (zd_b zq_prog_1_method_14_code_0 15 rfl rfl rfl)
theorem d_Ip_shrunk_16 : decode prog_1_method_14_code 16 = .ok (.invokevirtual 187, 3) := zo_182 (d := 0) (e := 187) (zd_b zq_prog_1_method_14_code_0 16 rfl rfl rfl) (zd_b zq_prog_1_method_14_code_0 17 rfl rfl rfl) (zd_b zq_prog_1_method_14_code_0 18 rfl rfl rfl)
theorem ok_Ip_shrunk_Tr_shrunkCells : z_ok M_Ip_shrunk M_Tr_shrunkCells 0 := ⟨z_mj4 (i := 128) rfl (by decide +kernel), rfl, ⟨by decide +kernel, by decide +kernel, by decide +kernel⟩, ⟨by decide, by decide⟩, z_mj1 (i := 3) rfl (by decide +kernel), rfl⟩
theorem ln_Ip_187 : Cond.methodLink "Ironpour" 187 M_Tr_shrunkCells.1 ∈ z_gw := z_mj4 (i := 125) rfl (by decide +kernel)
theorem w_im_Tr_shrunkCells : Cond.instanceMethod M_Tr_shrunkCells.1 ∈ z_gw := z_mj4 (i := 126) rfl (by decide +kernel)
theorem w_se_Tr_shrunkCells : Cond.selects M_Tr_shrunkCells.1.cls M_Tr_shrunkCells.1 M_Tr_shrunkCells.1 ∈ z_gw := z_mj4 (i := 127) rfl (by decide +kernel)
theorem d_Ip_shrunk_19 : decode prog_1_method_14_code 19 = .ok (.ireturn, 1) := zo_172 (zd_b zq_prog_1_method_14_code_0 19 rfl rfl rfl)
set_option maxHeartbeats 4000000 in
set_option maxRecDepth 100000 in
theorem C_Ip_shrunkN (g : zG) (a pa ta sa gs co fu la gy du re wm ac : Nat) (ta1 ta2 taz taz1 taz2 taz3 taz4 taz5 taz6 ta4 ta5 ta6 : Nat) (X : zTr) (h : Int32) (hh : 1200 ≤ h ∧ h ≤ 1500) : CT g M_Ip_shrunk [.ref a, .int h] [(a, .inr (11, [.ref pa, .ref ta, .ref sa, .ref gs, .ref co, .ref fu, .ref la, .ref gy, .ref du, .ref re, .ref wm, .ref ac])), (ta, .inr (10, [.ref ta1, .ref ta2, .ref taz, .ref ta4, .ref ta5, .ref ta6, .int X.1.2.2.1, .int X.1.2.2.2])), (ta1, .inl (1, 108, .inl X.1.1)), (ta2, .inl (0, 108, .inl X.1.2.1)), (taz, .inr (2, [.ref taz1, .ref taz2, .ref taz3, .ref taz4, .ref taz5, .ref taz6, .int X.2.1.1.1.2.2.2])), (taz1, .inl (0, 108, .inl X.2.1.1.1.1)), (taz2, .inl (0, 108, .inl X.2.1.1.2)), (taz3, .inl (0, 108, .inl X.2.1.1.1.2.1)), (taz4, .inl (0, 108, .inl X.2.1.1.1.2.2.1)), (taz5, .inl (0, 108, .inl X.2.1.2.1)), (taz6, .inl (0, 108, .inl X.2.1.2.2)), (ta4, .inl (2, 108, .inl X.2.2.1)), (ta5, .inl (2, 108, .inl X.2.2.2.1)), (ta6, .inl (0, 108, .inl (fun k => nI (X.2.2.2.2 k))))] (fun o cs1 => o = .inl (some (.int (nI (shN (frT h X))))) ∧ cs1 = [(a, .inr (11, [.ref pa, .ref ta, .ref sa, .ref gs, .ref co, .ref fu, .ref la, .ref gy, .ref du, .ref re, .ref wm, .ref ac])), (ta, .inr (10, [.ref ta1, .ref ta2, .ref taz, .ref ta4, .ref ta5, .ref ta6, .int ((frT h X).1.2.2.1), .int ((frT h X).1.2.2.2)])), (ta1, .inl (1, 108, .inl ((frT h X).1.1))), (ta2, .inl (0, 108, .inl ((frT h X).1.2.1))), (taz, .inr (2, [.ref taz1, .ref taz2, .ref taz3, .ref taz4, .ref taz5, .ref taz6, .int ((frT h X).2.1.1.1.2.2.2)])), (taz1, .inl (0, 108, .inl ((frT h X).2.1.1.1.1))), (taz2, .inl (0, 108, .inl ((frT h X).2.1.1.2))), (taz3, .inl (0, 108, .inl ((frT h X).2.1.1.1.2.1))), (taz4, .inl (0, 108, .inl ((frT h X).2.1.1.1.2.2.1))), (taz5, .inl (0, 108, .inl ((frT h X).2.1.2.1))), (taz6, .inl (0, 108, .inl ((frT h X).2.1.2.2))), (ta4, .inl (2, 108, .inl ((frT h X).2.2.1))), (ta5, .inl (2, 108, .inl ((frT h X).2.2.2.1))), (ta6, .inl (0, 108, .inl (fun k => nI ((frT h X).2.2.2.2 k))))]) 1 6 := by
  refine z_of (by decide) rfl (Nat.le_of_ble_eq_true rfl) (fun w0 => ?_)
  refine r_lvE (lv2 := [(0, .ref a), (1, .int h)]) rfl ?_
  refine r_iload_n d_Ip_shrunk_0 rfl 1 rfl ?_
  refine r_callS (As := [.int h]) (rest := []) (csC := []) (is := []) ln_Ip_158 w_st_Ip_checkHeat ok_Ip_shrunk_Ip_checkHeat d_Ip_shrunk_1 (C_Ip_checkHeat g h) rfl rfl (Nat.le_of_ble_eq_true rfl) rfl (by decide) (by omega) (by omega) (fun E cs1 hx => ?_) (fun v cs1 hx => ?_)
  · simp only [if_pos hh] at hx
    exact absurd hx.1 (by simp)
  · simp only [if_pos hh] at hx
    obtain ⟨e1, rfl⟩ := hx
    cases e1
    refine ⟨rfl, ?_⟩
    refine r_st (st2 := []) rfl ?_
    refine r_cs (cs2 := [(a, .inr (11, [.ref pa, .ref ta, .ref sa, .ref gs, .ref co, .ref fu, .ref la, .ref gy, .ref du, .ref re, .ref wm, .ref ac])), (ta, .inr (10, [.ref ta1, .ref ta2, .ref taz, .ref ta4, .ref ta5, .ref ta6, .int X.1.2.2.1, .int X.1.2.2.2])), (ta1, .inl (1, 108, .inl X.1.1)), (ta2, .inl (0, 108, .inl X.1.2.1)), (taz, .inr (2, [.ref taz1, .ref taz2, .ref taz3, .ref taz4, .ref taz5, .ref taz6, .int X.2.1.1.1.2.2.2])), (taz1, .inl (0, 108, .inl X.2.1.1.1.1)), (taz2, .inl (0, 108, .inl X.2.1.1.2)), (taz3, .inl (0, 108, .inl X.2.1.1.1.2.1)), (taz4, .inl (0, 108, .inl X.2.1.1.1.2.2.1)), (taz5, .inl (0, 108, .inl X.2.1.2.1)), (taz6, .inl (0, 108, .inl X.2.1.2.2)), (ta4, .inl (2, 108, .inl X.2.2.1)), (ta5, .inl (2, 108, .inl X.2.2.2.1)), (ta6, .inl (0, 108, .inl (fun k => nI (X.2.2.2.2 k))))]) rfl ?_
    refine r_aload_n d_Ip_shrunk_4 rfl 0 rfl ?_
    refine r_get fs_Ip_19 d_Ip_shrunk_5 (q0 := 0) rfl rfl ?_
    refine r_iload_n d_Ip_shrunk_8 rfl 1 rfl ?_
    refine r_callV (As := [.int h]) (rest := []) (csC := [(ta, .inr (10, [.ref ta1, .ref ta2, .ref taz, .ref ta4, .ref ta5, .ref ta6, .int X.1.2.2.1, .int X.1.2.2.2])), (ta1, .inl (1, 108, .inl X.1.1)), (ta2, .inl (0, 108, .inl X.1.2.1)), (taz, .inr (2, [.ref taz1, .ref taz2, .ref taz3, .ref taz4, .ref taz5, .ref taz6, .int X.2.1.1.1.2.2.2])), (taz1, .inl (0, 108, .inl X.2.1.1.1.1)), (taz2, .inl (0, 108, .inl X.2.1.1.2)), (taz3, .inl (0, 108, .inl X.2.1.1.1.2.1)), (taz4, .inl (0, 108, .inl X.2.1.1.1.2.2.1)), (taz5, .inl (0, 108, .inl X.2.1.2.1)), (taz6, .inl (0, 108, .inl X.2.1.2.2)), (ta4, .inl (2, 108, .inl X.2.2.1)), (ta5, .inl (2, 108, .inl X.2.2.2.1)), (ta6, .inl (0, 108, .inl (fun k => nI (X.2.2.2.2 k))))]) (is := [1, 2, 3, 4, 5, 6, 7, 8, 9, 10, 11, 12, 13]) (q0 := 1) rfl rfl ln_Ip_162 w_im_Tr_freeze w_se_Tr_freeze ok_Ip_shrunk_Tr_freeze d_Ip_shrunk_9 (X_freeze g ta ta1 ta2 taz taz1 taz2 taz3 taz4 taz5 taz6 ta4 ta5 ta6 h X) rfl rfl (Nat.le_of_ble_eq_true rfl) rfl (by decide) (by omega) (by omega) (fun E cs1 hx => ?_) (fun v cs1 hx => ?_)
    · exact absurd hx.1 (by simp)
    · obtain ⟨e1, rfl⟩ := hx
      cases e1
      refine ⟨rfl, ?_⟩
      refine r_st (st2 := []) rfl ?_
      refine r_cs (cs2 := [(a, .inr (11, [.ref pa, .ref ta, .ref sa, .ref gs, .ref co, .ref fu, .ref la, .ref gy, .ref du, .ref re, .ref wm, .ref ac])), (ta, .inr (10, [.ref ta1, .ref ta2, .ref taz, .ref ta4, .ref ta5, .ref ta6, .int ((frT h X).1.2.2.1), .int ((frT h X).1.2.2.2)])), (ta1, .inl (1, 108, .inl ((frT h X).1.1))), (ta2, .inl (0, 108, .inl ((frT h X).1.2.1))), (taz, .inr (2, [.ref taz1, .ref taz2, .ref taz3, .ref taz4, .ref taz5, .ref taz6, .int ((frT h X).2.1.1.1.2.2.2)])), (taz1, .inl (0, 108, .inl ((frT h X).2.1.1.1.1))), (taz2, .inl (0, 108, .inl ((frT h X).2.1.1.2))), (taz3, .inl (0, 108, .inl ((frT h X).2.1.1.1.2.1))), (taz4, .inl (0, 108, .inl ((frT h X).2.1.1.1.2.2.1))), (taz5, .inl (0, 108, .inl ((frT h X).2.1.2.1))), (taz6, .inl (0, 108, .inl ((frT h X).2.1.2.2))), (ta4, .inl (2, 108, .inl ((frT h X).2.2.1))), (ta5, .inl (2, 108, .inl ((frT h X).2.2.2.1))), (ta6, .inl (0, 108, .inl (fun k => nI ((frT h X).2.2.2.2 k))))]) rfl ?_
      refine r_aload_n d_Ip_shrunk_12 rfl 0 rfl ?_
      refine r_get fs_Ip_19 d_Ip_shrunk_13 (q0 := 0) rfl rfl ?_
      refine r_callV (As := []) (rest := []) (csC := [(ta, .inr (10, [.ref ta1, .ref ta2, .ref taz, .ref ta4, .ref ta5, .ref ta6, .int ((frT h X).1.2.2.1), .int ((frT h X).1.2.2.2)])), (ta1, .inl (1, 108, .inl ((frT h X).1.1))), (ta2, .inl (0, 108, .inl ((frT h X).1.2.1))), (taz, .inr (2, [.ref taz1, .ref taz2, .ref taz3, .ref taz4, .ref taz5, .ref taz6, .int ((frT h X).2.1.1.1.2.2.2)])), (taz4, .inl (0, 108, .inl ((frT h X).2.1.1.1.2.2.1))), (ta4, .inl (2, 108, .inl ((frT h X).2.2.1))), (ta5, .inl (2, 108, .inl ((frT h X).2.2.2.1))), (ta6, .inl (0, 108, .inl (fun k => nI ((frT h X).2.2.2.2 k))))]) (is := [1, 2, 3, 4, 8, 11, 12, 13]) (q0 := 1) rfl rfl ln_Ip_187 w_im_Tr_shrunkCells w_se_Tr_shrunkCells ok_Ip_shrunk_Tr_shrunkCells d_Ip_shrunk_16 (X_shrunkCells g ta ta1 ta2 taz taz1 taz2 taz3 taz4 taz5 taz6 ta4 ta5 ta6 (frT h X)) rfl rfl (Nat.le_of_ble_eq_true rfl) rfl (by decide) (by omega) (by omega) (fun E cs1 hx => ?_) (fun v cs1 hx => ?_)
      · exact absurd hx.1 (by simp)
      · obtain ⟨e1, rfl⟩ := hx
        cases e1
        refine ⟨rfl, ?_⟩
        refine r_st (st2 := [.int (nI (shN (frT h X)))]) rfl ?_
        refine r_cs (cs2 := [(a, .inr (11, [.ref pa, .ref ta, .ref sa, .ref gs, .ref co, .ref fu, .ref la, .ref gy, .ref du, .ref re, .ref wm, .ref ac])), (ta, .inr (10, [.ref ta1, .ref ta2, .ref taz, .ref ta4, .ref ta5, .ref ta6, .int ((frT h X).1.2.2.1), .int ((frT h X).1.2.2.2)])), (ta1, .inl (1, 108, .inl ((frT h X).1.1))), (ta2, .inl (0, 108, .inl ((frT h X).1.2.1))), (taz, .inr (2, [.ref taz1, .ref taz2, .ref taz3, .ref taz4, .ref taz5, .ref taz6, .int ((frT h X).2.1.1.1.2.2.2)])), (taz1, .inl (0, 108, .inl ((frT h X).2.1.1.1.1))), (taz2, .inl (0, 108, .inl ((frT h X).2.1.1.2))), (taz3, .inl (0, 108, .inl ((frT h X).2.1.1.1.2.1))), (taz4, .inl (0, 108, .inl ((frT h X).2.1.1.1.2.2.1))), (taz5, .inl (0, 108, .inl ((frT h X).2.1.2.1))), (taz6, .inl (0, 108, .inl ((frT h X).2.1.2.2))), (ta4, .inl (2, 108, .inl ((frT h X).2.2.1))), (ta5, .inl (2, 108, .inl ((frT h X).2.2.2.1))), (ta6, .inl (0, 108, .inl (fun k => nI ((frT h X).2.2.2.2 k))))]) rfl ?_
        refine r_iret d_Ip_shrunk_19 rfl rfl ?_
        exact ⟨rfl, rfl⟩
end
section
abbrev M_Ip_goodCores : zM := (⟨"Ironpour", "goodCores", "()I"⟩, prog_1_method_21_code, 1, (Option.some FieldType.int), 3, 63, [])
theorem d_Ip_goodCores_0 : decode prog_1_method_21_code 0 = .ok (.aload_n 0, 1) := zo_42 (zd_b zq_prog_1_method_21_code_0 0 rfl rfl rfl)
theorem d_Ip_goodCores_1 : decode prog_1_method_21_code 1 = .ok (.getfield 36, 3) := zo_180 (d := 0) (e := 36) (zd_b zq_prog_1_method_21_code_0 1 rfl rfl rfl) (zd_b zq_prog_1_method_21_code_0 2 rfl rfl rfl) (zd_b zq_prog_1_method_21_code_0 3 rfl rfl rfl)
theorem fs_Ip_36 : z_fs "Ironpour" 36 11 4 := ⟨R_Ip, "Ironpour", F_Ip, 12, rfl, u_Ip, by decide, Or.inl ⟨z_mj2 (i := 67) rfl (by decide +kernel), Or.inl rfl⟩⟩
theorem d_Ip_goodCores_4 : decode prog_1_method_21_code 4 = .ok (.invokevirtual 253, 3) := zo_182 (d := 0) (e := 253) (zd_b zq_prog_1_method_21_code_0 4 rfl rfl rfl) (zd_b zq_prog_1_method_21_code_0 5 rfl rfl rfl) (zd_b zq_prog_1_method_21_code_0 6 rfl rfl rfl)
theorem ok_Ip_goodCores_CS_allGood : z_ok M_Ip_goodCores M_CS_allGood 0 := ⟨z_mj2 (i := 160) rfl (by decide +kernel), rfl, ⟨by decide +kernel, by decide +kernel, by decide +kernel⟩, ⟨by decide, by decide⟩, z_mj1 (i := 6) rfl (by decide +kernel), rfl⟩
theorem ln_Ip_253 : Cond.methodLink "Ironpour" 253 M_CS_allGood.1 ∈ z_gw := z_mj2 (i := 157) rfl (by decide +kernel)
theorem w_im_CS_allGood : Cond.instanceMethod M_CS_allGood.1 ∈ z_gw := z_mj2 (i := 158) rfl (by decide +kernel)
theorem w_se_CS_allGood : Cond.selects M_CS_allGood.1.cls M_CS_allGood.1 M_CS_allGood.1 ∈ z_gw := z_mj2 (i := 159) rfl (by decide +kernel)
theorem d_Ip_goodCores_7 : decode prog_1_method_21_code 7 = .ok (.ireturn, 1) := zo_172 (zd_b zq_prog_1_method_21_code_0 7 rfl rfl rfl)
set_option maxHeartbeats 4000000 in
set_option maxRecDepth 100000 in
theorem C_Ip_goodCores (g : zG) (a pa ta sa gs co fu la gy du re wm ac : Nat) (co1 co2 co3 : Nat) (cn cu ag : Nat → Int32) (nl : Nat) (hnl : nl ≤ 20) : CT g M_Ip_goodCores [.ref a] [(a, .inr (11, [.ref pa, .ref ta, .ref sa, .ref gs, .ref co, .ref fu, .ref la, .ref gy, .ref du, .ref re, .ref wm, .ref ac])), (co, .inr (1, [.ref co1, .ref co2, .ref co3, .int (nI nl)])), (co1, .inl (0, 20, .inl cn)), (co2, .inl (0, 20, .inl cu)), (co3, .inl (0, 20, .inl ag))] (fun o cs1 => o = .inl (some (.int (bx_sum (fun k => if gdB cu ag k then cn k else 0) nl))) ∧ cs1 = [(a, .inr (11, [.ref pa, .ref ta, .ref sa, .ref gs, .ref co, .ref fu, .ref la, .ref gy, .ref du, .ref re, .ref wm, .ref ac])), (co, .inr (1, [.ref co1, .ref co2, .ref co3, .int (nI nl)])), (co1, .inl (0, 20, .inl cn)), (co2, .inl (0, 20, .inl cu)), (co3, .inl (0, 20, .inl ag))]) 0 0 := by
  refine z_of (by decide) rfl (Nat.le_of_ble_eq_true rfl) (fun w0 => ?_)
  refine r_lvE (lv2 := [(0, .ref a)]) rfl ?_
  refine r_aload_n d_Ip_goodCores_0 rfl 0 rfl ?_
  refine r_get fs_Ip_36 d_Ip_goodCores_1 (q0 := 0) rfl rfl ?_
  refine r_callV (As := []) (rest := []) (csC := [(co, .inr (1, [.ref co1, .ref co2, .ref co3, .int (nI nl)])), (co1, .inl (0, 20, .inl cn)), (co2, .inl (0, 20, .inl cu)), (co3, .inl (0, 20, .inl ag))]) (is := [1, 2, 3, 4]) (q0 := 1) rfl rfl ln_Ip_253 w_im_CS_allGood w_se_CS_allGood ok_Ip_goodCores_CS_allGood d_Ip_goodCores_4 (C_CS_allGood g co co1 co2 co3 cn cu ag nl hnl) rfl rfl (Nat.le_of_ble_eq_true rfl) rfl (by decide) (by omega) (by omega) (fun E cs1 hx => ?_) (fun v cs1 hx => ?_)
  · exact absurd hx.1 (by simp)
  · obtain ⟨e1, rfl⟩ := hx
    cases e1
    refine ⟨rfl, ?_⟩
    refine r_st (st2 := [.int (bx_sum (fun k => if gdB cu ag k then cn k else 0) nl)]) rfl ?_
    refine r_cs (cs2 := [(a, .inr (11, [.ref pa, .ref ta, .ref sa, .ref gs, .ref co, .ref fu, .ref la, .ref gy, .ref du, .ref re, .ref wm, .ref ac])), (co, .inr (1, [.ref co1, .ref co2, .ref co3, .int (nI nl)])), (co1, .inl (0, 20, .inl cn)), (co2, .inl (0, 20, .inl cu)), (co3, .inl (0, 20, .inl ag))]) rfl ?_
    refine r_iret d_Ip_goodCores_7 rfl rfl ?_
    exact ⟨rfl, rfl⟩
abbrev M_Ip_hours : zM := (⟨"Ironpour", "hours", "(I)I"⟩, prog_1_method_22_code, 2, (Option.some FieldType.int), 6, 100, [])
theorem d_Ip_hours_0 : decode prog_1_method_22_code 0 = .ok (.iload_n 1, 1) := zo_27 (zd_b zq_prog_1_method_22_code_0 0 rfl rfl rfl)
theorem d_Ip_hours_1 : decode prog_1_method_22_code 1 = .ok (.iconst 1, 1) := zo_4 (zd_b zq_prog_1_method_22_code_0 1 rfl rfl rfl)
theorem d_Ip_hours_2 : decode prog_1_method_22_code 2 = .ok (.bipush 48, 2) := zo_16 (d := 48) (zd_b zq_prog_1_method_22_code_0 2 rfl rfl rfl) (zd_b zq_prog_1_method_22_code_0 3 rfl rfl rfl) (by decide +kernel)
theorem d_Ip_hours_4 : decode prog_1_method_22_code 4 = .ok (.invokestatic 203, 3) := zo_184 (d := 0) (e := 203) (zd_b zq_prog_1_method_22_code_0 4 rfl rfl rfl) (zd_b zq_prog_1_method_22_code_0 5 rfl rfl rfl) (zd_b zq_prog_1_method_22_code_0 6 rfl rfl rfl)
theorem ok_Ip_hours_Ip_isWithin : z_ok M_Ip_hours M_Ip_isWithin 3 := ⟨z_mj4 (i := 97) rfl (by decide +kernel), rfl, ⟨by decide +kernel, by decide +kernel, by decide +kernel⟩, ⟨by decide, by decide⟩, z_mj1 (i := 1) rfl (by decide +kernel), rfl⟩
theorem d_Ip_hours_7 : decode prog_1_method_22_code 7 = .ok (.ifCond .ne 14, 3) := zo_154 (d := 0) (e := 14) (zd_b zq_prog_1_method_22_code_0 7 rfl rfl rfl) (zd_b zq_prog_1_method_22_code_0 8 rfl rfl rfl) (zd_b zq_prog_1_method_22_code_0 9 rfl rfl rfl) (by decide +kernel)
theorem d_Ip_hours_10 : decode prog_1_method_22_code 10 = .ok (.new 89, 3) := zo_187 (d := 0) (e := 89) (zd_b zq_prog_1_method_22_code_0 10 rfl rfl rfl) (zd_b zq_prog_1_method_22_code_0 11 rfl rfl rfl) (zd_b zq_prog_1_method_22_code_0 12 rfl rfl rfl)
theorem sr_Ip_256 : Cond.stringRef "Ironpour" 256 "1 to 48 hours go by" ∈ lw_tbl := z_tb5 (i := 5) rfl
theorem d_Ip_hours_13 : decode prog_1_method_22_code 13 = .ok (.dup, 1) := zo_89 (zd_b zq_prog_1_method_22_code_0 13 rfl rfl rfl)
theorem d_Ip_hours_14 : decode prog_1_method_22_code 14 = .ok (.ldc_w 256, 3) := zo_19 (d := 1) (e := 0) (zd_b zq_prog_1_method_22_code_0 14 rfl rfl rfl) (zd_b zq_prog_1_method_22_code_0 15 rfl rfl rfl) (zd_b zq_prog_1_method_22_code_0 16 rfl rfl rfl)
theorem d_Ip_hours_17 : decode prog_1_method_22_code 17 = .ok (.invokespecial 93, 3) := zo_183 (d := 0) (e := 93) (zd_b zq_prog_1_method_22_code_0 17 rfl rfl rfl) (zd_b zq_prog_1_method_22_code_0 18 rfl rfl rfl) (zd_b zq_prog_1_method_22_code_0 19 rfl rfl rfl)
theorem d_Ip_hours_20 : decode prog_1_method_22_code 20 = .ok (.athrow, 1) := zo_191 (zd_b zq_prog_1_method_22_code_0 20 rfl rfl rfl)
set_option maxHeartbeats 4000000 in
set_option maxRecDepth 100000 in
theorem C_Ip_hoursE (g : zG) (a pa ta sa gs co fu la gy du re wm ac : Nat) (co1 co2 co3 : Nat) (cn cu ag : Nat → Int32) (nl : Nat) (hnl : nl ≤ 20) (h : Int32) (hw : ¬ (1 ≤ h ∧ h ≤ 48)) : CT g M_Ip_hours [.ref a, .int h] [(a, .inr (11, [.ref pa, .ref ta, .ref sa, .ref gs, .ref co, .ref fu, .ref la, .ref gy, .ref du, .ref re, .ref wm, .ref ac])), (co, .inr (1, [.ref co1, .ref co2, .ref co3, .int (nI nl)])), (co1, .inl (0, 20, .inl cn)), (co2, .inl (0, 20, .inl cu)), (co3, .inl (0, 20, .inl ag))] (fun o cs1 => o = .inr "java/lang/IllegalArgumentException" ∧ cs1 = [(a, .inr (11, [.ref pa, .ref ta, .ref sa, .ref gs, .ref co, .ref fu, .ref la, .ref gy, .ref du, .ref re, .ref wm, .ref ac])), (co, .inr (1, [.ref co1, .ref co2, .ref co3, .int (nI nl)])), (co1, .inl (0, 20, .inl cn)), (co2, .inl (0, 20, .inl cu)), (co3, .inl (0, 20, .inl ag))]) 1 6 := by
  refine z_of (by decide) rfl (Nat.le_of_ble_eq_true rfl) (fun w0 => ?_)
  refine r_lvE (lv2 := [(0, .ref a), (1, .int h)]) rfl ?_
  refine r_iload_n d_Ip_hours_0 rfl 1 rfl ?_
  refine r_iconst d_Ip_hours_1 (v := 1) (by decide) ?_
  refine r_bipush d_Ip_hours_2 (v := 48) (by decide) ?_
  refine r_callS (As := [.int h, .int 1, .int 48]) (rest := []) (csC := []) (is := []) ln_Ip_203 w_st_Ip_isWithin ok_Ip_hours_Ip_isWithin d_Ip_hours_4 (C_Ip_isWithin g h 1 48) rfl rfl (Nat.le_of_ble_eq_true rfl) rfl (by decide) (by omega) (by omega) (fun E cs1 hx => ?_) (fun v cs1 hx => ?_)
  · exact absurd hx.1 (by simp)
  · obtain ⟨e1, rfl⟩ := hx
    cases e1
    refine ⟨rfl, ?_⟩
    refine r_st (st2 := [.int (if 1 ≤ h ∧ h ≤ 48 then 1 else 0)]) rfl ?_
    refine r_cs (cs2 := [(a, .inr (11, [.ref pa, .ref ta, .ref sa, .ref gs, .ref co, .ref fu, .ref la, .ref gy, .ref du, .ref re, .ref wm, .ref ac])), (co, .inr (1, [.ref co1, .ref co2, .ref co3, .int (nI nl)])), (co1, .inl (0, 20, .inl cn)), (co2, .inl (0, 20, .inl cu)), (co3, .inl (0, 20, .inl ag))]) rfl ?_
    refine r_if_ne (tgt := 21) d_Ip_hours_7 (by decide) (fun c_7 => ?_) (fun c_7 => ?_)
    · exact absurd (z_b1 c_7) hw
    · refine r_throwW tb_Ip_89_93 sr_Ip_256 d_Ip_hours_10 d_Ip_hours_13 d_Ip_hours_14 d_Ip_hours_17 d_Ip_hours_20 rfl (by decide) (by decide) (Nat.le_of_ble_eq_true rfl) (by omega) (by omega) ?_
      exact ⟨rfl, rfl⟩
theorem d_Ip_hours_21 : decode prog_1_method_22_code 21 = .ok (.aload_n 0, 1) := zo_42 (zd_b zq_prog_1_method_22_code_0 21 rfl rfl rfl)
theorem d_Ip_hours_22 : decode prog_1_method_22_code 22 = .ok (.getfield 36, 3) := zo_180 (d := 0) (e := 36) (zd_b zq_prog_1_method_22_code_0 22 rfl rfl rfl) (zd_b zq_prog_1_method_22_code_0 23 rfl rfl rfl) (zd_b zq_prog_1_method_22_code_0 24 rfl rfl rfl)
theorem d_Ip_hours_25 : decode prog_1_method_22_code 25 = .ok (.iload_n 1, 1) := zo_27 (zd_b zq_prog_1_method_22_code_0 25 rfl rfl rfl)
theorem d_Ip_hours_26 : decode prog_1_method_22_code 26 = .ok (.invokevirtual 258, 3) := zo_182 (d := 1) (e := 2) (zd_b zq_prog_1_method_22_code_0 26 rfl rfl rfl) (zd_b zq_prog_1_method_22_code_0 27 rfl rfl rfl) (zd_b zq_prog_1_method_22_code_0 28 rfl rfl rfl)
theorem ok_Ip_hours_CS_growOlder : z_ok M_Ip_hours M_CS_growOlder 1 := ⟨z_mj5 (i := 9) rfl (by decide +kernel), rfl, ⟨by decide +kernel, by decide +kernel, by decide +kernel⟩, ⟨by decide, by decide⟩, z_mj1 (i := 6) rfl (by decide +kernel), rfl⟩
theorem ln_Ip_258 : Cond.methodLink "Ironpour" 258 M_CS_growOlder.1 ∈ z_gw := z_mj5 (i := 6) rfl (by decide +kernel)
theorem w_im_CS_growOlder : Cond.instanceMethod M_CS_growOlder.1 ∈ z_gw := z_mj5 (i := 7) rfl (by decide +kernel)
theorem w_se_CS_growOlder : Cond.selects M_CS_growOlder.1.cls M_CS_growOlder.1 M_CS_growOlder.1 ∈ z_gw := z_mj5 (i := 8) rfl (by decide +kernel)
theorem d_Ip_hours_29 : decode prog_1_method_22_code 29 = .ok (.ireturn, 1) := zo_172 (zd_b zq_prog_1_method_22_code_0 29 rfl rfl rfl)
set_option maxHeartbeats 4000000 in
set_option maxRecDepth 100000 in
theorem C_Ip_hoursN (g : zG) (a pa ta sa gs co fu la gy du re wm ac : Nat) (co1 co2 co3 : Nat) (cn cu ag : Nat → Int32) (nl : Nat) (hnl : nl ≤ 20) (h : Int32) (hw : (1 ≤ h ∧ h ≤ 48)) : CT g M_Ip_hours [.ref a, .int h] [(a, .inr (11, [.ref pa, .ref ta, .ref sa, .ref gs, .ref co, .ref fu, .ref la, .ref gy, .ref du, .ref re, .ref wm, .ref ac])), (co, .inr (1, [.ref co1, .ref co2, .ref co3, .int (nI nl)])), (co1, .inl (0, 20, .inl cn)), (co2, .inl (0, 20, .inl cu)), (co3, .inl (0, 20, .inl ag))] (fun o cs1 => o = .inl (some (.int ((gwS cn cu ag h nl).2.2))) ∧ cs1 = [(a, .inr (11, [.ref pa, .ref ta, .ref sa, .ref gs, .ref co, .ref fu, .ref la, .ref gy, .ref du, .ref re, .ref wm, .ref ac])), (co, .inr (1, [.ref co1, .ref co2, .ref co3, .int (nI (dlS (gwS cn cu ag h nl).1 cu (gwS cn cu ag h nl).2.1 nl).1)])), (co1, .inl (0, 20, .inl ((dlS (gwS cn cu ag h nl).1 cu (gwS cn cu ag h nl).2.1 nl).2.1))), (co2, .inl (0, 20, .inl ((dlS (gwS cn cu ag h nl).1 cu (gwS cn cu ag h nl).2.1 nl).2.2.1))), (co3, .inl (0, 20, .inl ((dlS (gwS cn cu ag h nl).1 cu (gwS cn cu ag h nl).2.1 nl).2.2.2)))]) 1 6 := by
  refine z_of (by decide) rfl (Nat.le_of_ble_eq_true rfl) (fun w0 => ?_)
  refine r_lvE (lv2 := [(0, .ref a), (1, .int h)]) rfl ?_
  refine r_iload_n d_Ip_hours_0 rfl 1 rfl ?_
  refine r_iconst d_Ip_hours_1 (v := 1) (by decide) ?_
  refine r_bipush d_Ip_hours_2 (v := 48) (by decide) ?_
  refine r_callS (As := [.int h, .int 1, .int 48]) (rest := []) (csC := []) (is := []) ln_Ip_203 w_st_Ip_isWithin ok_Ip_hours_Ip_isWithin d_Ip_hours_4 (C_Ip_isWithin g h 1 48) rfl rfl (Nat.le_of_ble_eq_true rfl) rfl (by decide) (by omega) (by omega) (fun E cs1 hx => ?_) (fun v cs1 hx => ?_)
  · exact absurd hx.1 (by simp)
  · obtain ⟨e1, rfl⟩ := hx
    cases e1
    refine ⟨rfl, ?_⟩
    refine r_st (st2 := [.int (if 1 ≤ h ∧ h ≤ 48 then 1 else 0)]) rfl ?_
    refine r_cs (cs2 := [(a, .inr (11, [.ref pa, .ref ta, .ref sa, .ref gs, .ref co, .ref fu, .ref la, .ref gy, .ref du, .ref re, .ref wm, .ref ac])), (co, .inr (1, [.ref co1, .ref co2, .ref co3, .int (nI nl)])), (co1, .inl (0, 20, .inl cn)), (co2, .inl (0, 20, .inl cu)), (co3, .inl (0, 20, .inl ag))]) rfl ?_
    refine r_if_ne (tgt := 21) d_Ip_hours_7 (by decide) (fun c_7 => ?_) (fun c_7 => ?_)
    · refine r_aload_n d_Ip_hours_21 rfl 0 rfl ?_
      refine r_get fs_Ip_36 d_Ip_hours_22 (q0 := 0) rfl rfl ?_
      refine r_iload_n d_Ip_hours_25 rfl 1 rfl ?_
      refine r_callV (As := [.int h]) (rest := []) (csC := [(co, .inr (1, [.ref co1, .ref co2, .ref co3, .int (nI nl)])), (co1, .inl (0, 20, .inl cn)), (co2, .inl (0, 20, .inl cu)), (co3, .inl (0, 20, .inl ag))]) (is := [1, 2, 3, 4]) (q0 := 1) rfl rfl ln_Ip_258 w_im_CS_growOlder w_se_CS_growOlder ok_Ip_hours_CS_growOlder d_Ip_hours_26 (C_CS_growOlder g co co1 co2 co3 cn cu ag nl hnl h) rfl rfl (Nat.le_of_ble_eq_true rfl) rfl (by decide) (by omega) (by omega) (fun E cs1 hx => ?_) (fun v cs1 hx => ?_)
      · exact absurd hx.1 (by simp)
      · obtain ⟨e1, rfl⟩ := hx
        cases e1
        refine ⟨rfl, ?_⟩
        refine r_st (st2 := [.int ((gwS cn cu ag h nl).2.2)]) rfl ?_
        refine r_cs (cs2 := [(a, .inr (11, [.ref pa, .ref ta, .ref sa, .ref gs, .ref co, .ref fu, .ref la, .ref gy, .ref du, .ref re, .ref wm, .ref ac])), (co, .inr (1, [.ref co1, .ref co2, .ref co3, .int (nI (dlS (gwS cn cu ag h nl).1 cu (gwS cn cu ag h nl).2.1 nl).1)])), (co1, .inl (0, 20, .inl ((dlS (gwS cn cu ag h nl).1 cu (gwS cn cu ag h nl).2.1 nl).2.1))), (co2, .inl (0, 20, .inl ((dlS (gwS cn cu ag h nl).1 cu (gwS cn cu ag h nl).2.1 nl).2.2.1))), (co3, .inl (0, 20, .inl ((dlS (gwS cn cu ag h nl).1 cu (gwS cn cu ag h nl).2.1 nl).2.2.2)))]) rfl ?_
        refine r_iret d_Ip_hours_29 rfl rfl ?_
        exact ⟨rfl, rfl⟩
    · exact absurd hw (z_b0 c_7)
abbrev M_Ip_makeCores : zM := (⟨"Ironpour", "makeCores", "(II)I"⟩, prog_1_method_20_code, 3, (Option.some FieldType.int), 6, 100, [])
theorem d_Ip_makeCores_0 : decode prog_1_method_20_code 0 = .ok (.iload_n 1, 1) := zo_27 (zd_b zq_prog_1_method_20_code_0 0 rfl rfl rfl)
theorem d_Ip_makeCores_1 : decode prog_1_method_20_code 1 = .ok (.iconst 1, 1) := zo_4 (zd_b zq_prog_1_method_20_code_0 1 rfl rfl rfl)
theorem d_Ip_makeCores_2 : decode prog_1_method_20_code 2 = .ok (.bipush 10, 2) := zo_16 (d := 10) (zd_b zq_prog_1_method_20_code_0 2 rfl rfl rfl) (zd_b zq_prog_1_method_20_code_0 3 rfl rfl rfl) (by decide +kernel)
theorem d_Ip_makeCores_4 : decode prog_1_method_20_code 4 = .ok (.invokestatic 203, 3) := zo_184 (d := 0) (e := 203) (zd_b zq_prog_1_method_20_code_0 4 rfl rfl rfl) (zd_b zq_prog_1_method_20_code_0 5 rfl rfl rfl) (zd_b zq_prog_1_method_20_code_0 6 rfl rfl rfl)
theorem ok_Ip_makeCores_Ip_isWithin : z_ok M_Ip_makeCores M_Ip_isWithin 3 := ⟨z_mj4 (i := 97) rfl (by decide +kernel), rfl, ⟨by decide +kernel, by decide +kernel, by decide +kernel⟩, ⟨by decide, by decide⟩, z_mj1 (i := 1) rfl (by decide +kernel), rfl⟩
theorem d_Ip_makeCores_7 : decode prog_1_method_20_code 7 = .ok (.ifCond .eq 13, 3) := zo_153 (d := 0) (e := 13) (zd_b zq_prog_1_method_20_code_0 7 rfl rfl rfl) (zd_b zq_prog_1_method_20_code_0 8 rfl rfl rfl) (zd_b zq_prog_1_method_20_code_0 9 rfl rfl rfl) (by decide +kernel)
theorem d_Ip_makeCores_20 : decode prog_1_method_20_code 20 = .ok (.new 89, 3) := zo_187 (d := 0) (e := 89) (zd_b zq_prog_1_method_20_code_0 20 rfl rfl rfl) (zd_b zq_prog_1_method_20_code_0 21 rfl rfl rfl) (zd_b zq_prog_1_method_20_code_0 22 rfl rfl rfl)
theorem sr_Ip_236 : Cond.stringRef "Ironpour" 236 "a lot has 1 to 10 cores, and 1 to 24 hours to cure" ∈ lw_tbl := z_tb4 (i := 209) rfl
theorem d_Ip_makeCores_23 : decode prog_1_method_20_code 23 = .ok (.dup, 1) := zo_89 (zd_b zq_prog_1_method_20_code_0 23 rfl rfl rfl)
theorem d_Ip_makeCores_24 : decode prog_1_method_20_code 24 = .ok (.ldc 236, 2) := zo_18 (d := 236) (zd_b zq_prog_1_method_20_code_0 24 rfl rfl rfl) (zd_b zq_prog_1_method_20_code_0 25 rfl rfl rfl)
theorem d_Ip_makeCores_26 : decode prog_1_method_20_code 26 = .ok (.invokespecial 93, 3) := zo_183 (d := 0) (e := 93) (zd_b zq_prog_1_method_20_code_0 26 rfl rfl rfl) (zd_b zq_prog_1_method_20_code_0 27 rfl rfl rfl) (zd_b zq_prog_1_method_20_code_0 28 rfl rfl rfl)
theorem d_Ip_makeCores_29 : decode prog_1_method_20_code 29 = .ok (.athrow, 1) := zo_191 (zd_b zq_prog_1_method_20_code_0 29 rfl rfl rfl)
theorem d_Ip_makeCores_10 : decode prog_1_method_20_code 10 = .ok (.iload_n 2, 1) := zo_28 (zd_b zq_prog_1_method_20_code_0 10 rfl rfl rfl)
theorem d_Ip_makeCores_11 : decode prog_1_method_20_code 11 = .ok (.iconst 1, 1) := zo_4 (zd_b zq_prog_1_method_20_code_0 11 rfl rfl rfl)
theorem d_Ip_makeCores_12 : decode prog_1_method_20_code 12 = .ok (.bipush 24, 2) := zo_16 (d := 24) (zd_b zq_prog_1_method_20_code_0 12 rfl rfl rfl) (zd_b zq_prog_1_method_20_code_0 13 rfl rfl rfl) (by decide +kernel)
theorem d_Ip_makeCores_14 : decode prog_1_method_20_code 14 = .ok (.invokestatic 203, 3) := zo_184 (d := 0) (e := 203) (zd_b zq_prog_1_method_20_code_0 14 rfl rfl rfl) (zd_b zq_prog_1_method_20_code_0 15 rfl rfl rfl) (zd_b zq_prog_1_method_20_code_0 16 rfl rfl rfl)
theorem d_Ip_makeCores_17 : decode prog_1_method_20_code 17 = .ok (.ifCond .ne 13, 3) := zo_154 (d := 0) (e := 13) (zd_b zq_prog_1_method_20_code_0 17 rfl rfl rfl) (zd_b zq_prog_1_method_20_code_0 18 rfl rfl rfl) (zd_b zq_prog_1_method_20_code_0 19 rfl rfl rfl) (by decide +kernel)
set_option maxHeartbeats 4000000 in
set_option maxRecDepth 100000 in
theorem C_Ip_makeCoresE (g : zG) (a pa ta sa gs co fu la gy du re wm ac : Nat) (co1 co2 co3 : Nat) (cn cu ag : Nat → Int32) (nl : Nat) (hnl : nl ≤ 20) (c k : Int32) (hw : ¬ ((1 ≤ c ∧ c ≤ 10) ∧ (1 ≤ k ∧ k ≤ 24))) : CT g M_Ip_makeCores [.ref a, .int c, .int k] [(a, .inr (11, [.ref pa, .ref ta, .ref sa, .ref gs, .ref co, .ref fu, .ref la, .ref gy, .ref du, .ref re, .ref wm, .ref ac])), (co, .inr (1, [.ref co1, .ref co2, .ref co3, .int (nI nl)])), (co1, .inl (0, 20, .inl cn)), (co2, .inl (0, 20, .inl cu)), (co3, .inl (0, 20, .inl ag))] (fun o cs1 => o = .inr "java/lang/IllegalArgumentException" ∧ cs1 = [(a, .inr (11, [.ref pa, .ref ta, .ref sa, .ref gs, .ref co, .ref fu, .ref la, .ref gy, .ref du, .ref re, .ref wm, .ref ac])), (co, .inr (1, [.ref co1, .ref co2, .ref co3, .int (nI nl)])), (co1, .inl (0, 20, .inl cn)), (co2, .inl (0, 20, .inl cu)), (co3, .inl (0, 20, .inl ag))]) 1 6 := by
  refine z_of (by decide) rfl (Nat.le_of_ble_eq_true rfl) (fun w0 => ?_)
  refine r_lvE (lv2 := [(0, .ref a), (1, .int c), (2, .int k)]) rfl ?_
  refine r_iload_n d_Ip_makeCores_0 rfl 1 rfl ?_
  refine r_iconst d_Ip_makeCores_1 (v := 1) (by decide) ?_
  refine r_bipush d_Ip_makeCores_2 (v := 10) (by decide) ?_
  refine r_callS (As := [.int c, .int 1, .int 10]) (rest := []) (csC := []) (is := []) ln_Ip_203 w_st_Ip_isWithin ok_Ip_makeCores_Ip_isWithin d_Ip_makeCores_4 (C_Ip_isWithin g c 1 10) rfl rfl (Nat.le_of_ble_eq_true rfl) rfl (by decide) (by omega) (by omega) (fun E cs1 hx => ?_) (fun v cs1 hx => ?_)
  · exact absurd hx.1 (by simp)
  · obtain ⟨e1, rfl⟩ := hx
    cases e1
    refine ⟨rfl, ?_⟩
    refine r_st (st2 := [.int (if 1 ≤ c ∧ c ≤ 10 then 1 else 0)]) rfl ?_
    refine r_cs (cs2 := [(a, .inr (11, [.ref pa, .ref ta, .ref sa, .ref gs, .ref co, .ref fu, .ref la, .ref gy, .ref du, .ref re, .ref wm, .ref ac])), (co, .inr (1, [.ref co1, .ref co2, .ref co3, .int (nI nl)])), (co1, .inl (0, 20, .inl cn)), (co2, .inl (0, 20, .inl cu)), (co3, .inl (0, 20, .inl ag))]) rfl ?_
    refine r_if_eq (tgt := 20) d_Ip_makeCores_7 (by decide) (fun c_7 => ?_) (fun c_7 => ?_)
    · refine r_throw tb_Ip_89_93 sr_Ip_236 d_Ip_makeCores_20 d_Ip_makeCores_23 d_Ip_makeCores_24 d_Ip_makeCores_26 d_Ip_makeCores_29 rfl (by decide) (by decide) (Nat.le_of_ble_eq_true rfl) (by omega) (by omega) ?_
      exact ⟨rfl, rfl⟩
    · refine r_iload_n d_Ip_makeCores_10 rfl 2 rfl ?_
      refine r_iconst d_Ip_makeCores_11 (v := 1) (by decide) ?_
      refine r_bipush d_Ip_makeCores_12 (v := 24) (by decide) ?_
      refine r_callS (As := [.int k, .int 1, .int 24]) (rest := []) (csC := []) (is := []) ln_Ip_203 w_st_Ip_isWithin ok_Ip_makeCores_Ip_isWithin d_Ip_makeCores_14 (C_Ip_isWithin g k 1 24) rfl rfl (Nat.le_of_ble_eq_true rfl) rfl (by decide) (by omega) (by omega) (fun E cs1 hx => ?_) (fun v cs1 hx => ?_)
      · exact absurd hx.1 (by simp)
      · obtain ⟨e1, rfl⟩ := hx
        cases e1
        refine ⟨rfl, ?_⟩
        refine r_st (st2 := [.int (if 1 ≤ k ∧ k ≤ 24 then 1 else 0)]) rfl ?_
        refine r_cs (cs2 := [(a, .inr (11, [.ref pa, .ref ta, .ref sa, .ref gs, .ref co, .ref fu, .ref la, .ref gy, .ref du, .ref re, .ref wm, .ref ac])), (co, .inr (1, [.ref co1, .ref co2, .ref co3, .int (nI nl)])), (co1, .inl (0, 20, .inl cn)), (co2, .inl (0, 20, .inl cu)), (co3, .inl (0, 20, .inl ag))]) rfl ?_
        refine r_if_ne (tgt := 30) d_Ip_makeCores_17 (by decide) (fun c_17 => ?_) (fun c_17 => ?_)
        · exact absurd ⟨z_b1 c_7, z_b1 c_17⟩ hw
        · refine r_throw tb_Ip_89_93 sr_Ip_236 d_Ip_makeCores_20 d_Ip_makeCores_23 d_Ip_makeCores_24 d_Ip_makeCores_26 d_Ip_makeCores_29 rfl (by decide) (by decide) (Nat.le_of_ble_eq_true rfl) (by omega) (by omega) ?_
          exact ⟨rfl, rfl⟩
theorem d_Ip_makeCores_30 : decode prog_1_method_20_code 30 = .ok (.aload_n 0, 1) := zo_42 (zd_b zq_prog_1_method_20_code_0 30 rfl rfl rfl)
theorem d_Ip_makeCores_31 : decode prog_1_method_20_code 31 = .ok (.getfield 36, 3) := zo_180 (d := 0) (e := 36) (zd_b zq_prog_1_method_20_code_0 31 rfl rfl rfl) (zd_b zq_prog_1_method_20_code_1 0 rfl rfl rfl) (zd_b zq_prog_1_method_20_code_1 1 rfl rfl rfl)
theorem d_Ip_makeCores_34 : decode prog_1_method_20_code 34 = .ok (.invokevirtual 238, 3) := zo_182 (d := 0) (e := 238) (zd_b zq_prog_1_method_20_code_1 2 rfl rfl rfl) (zd_b zq_prog_1_method_20_code_1 3 rfl rfl rfl) (zd_b zq_prog_1_method_20_code_1 4 rfl rfl rfl)
theorem ok_Ip_makeCores_CS_isFull : z_ok M_Ip_makeCores M_CS_isFull 0 := ⟨z_mj4 (i := 213) rfl (by decide +kernel), rfl, ⟨by decide +kernel, by decide +kernel, by decide +kernel⟩, ⟨by decide, by decide⟩, z_mj1 (i := 6) rfl (by decide +kernel), rfl⟩
theorem ln_Ip_238 : Cond.methodLink "Ironpour" 238 M_CS_isFull.1 ∈ z_gw := z_mj4 (i := 210) rfl (by decide +kernel)
theorem w_im_CS_isFull : Cond.instanceMethod M_CS_isFull.1 ∈ z_gw := z_mj4 (i := 211) rfl (by decide +kernel)
theorem w_se_CS_isFull : Cond.selects M_CS_isFull.1.cls M_CS_isFull.1 M_CS_isFull.1 ∈ z_gw := z_mj4 (i := 212) rfl (by decide +kernel)
theorem d_Ip_makeCores_37 : decode prog_1_method_20_code 37 = .ok (.ifCond .eq 13, 3) := zo_153 (d := 0) (e := 13) (zd_b zq_prog_1_method_20_code_1 5 rfl rfl rfl) (zd_b zq_prog_1_method_20_code_1 6 rfl rfl rfl) (zd_b zq_prog_1_method_20_code_1 7 rfl rfl rfl) (by decide +kernel)
theorem d_Ip_makeCores_40 : decode prog_1_method_20_code 40 = .ok (.new 242, 3) := zo_187 (d := 0) (e := 242) (zd_b zq_prog_1_method_20_code_1 8 rfl rfl rfl) (zd_b zq_prog_1_method_20_code_1 9 rfl rfl rfl) (zd_b zq_prog_1_method_20_code_1 10 rfl rfl rfl)
theorem tb_Ip_242_246 : z_tb "Ironpour" 242 246 "java/lang/IllegalStateException" := ⟨by decide +kernel, z_mj4 (i := 214) rfl (by decide +kernel), z_mj1 (i := 30) rfl (by decide +kernel), fun w h => ((z_at [(1, 21), (3, 163), (3, 172), (3, 180), (3, 183), (3, 185), (3, 164), (3, 165), (1, 44), (1, 45), (3, 166), (3, 171), (3, 181), (3, 201), (3, 153), (3, 202), (3, 155), (3, 203), (3, 157), (3, 167), (3, 169), (3, 159), (3, 197), (3, 198), (3, 200), (3, 159), (4, 225), (4, 226), (4, 227), (3, 191), (3, 145), (3, 191), (3, 192), (3, 193), (3, 194), (3, 147), (3, 194), (3, 195), (3, 196), (3, 197), (3, 149), (4, 224), (4, 215), (4, 216), (4, 217), (3, 176), (4, 218), (4, 219), (4, 220), (4, 221), (3, 162), (3, 161), (4, 222)] (by decide +kernel) (by decide +kernel) : ∀ w ∈ vx_atS "Ironpour" 246 "java/lang/IllegalStateException" ["java/lang/RuntimeException", "java/lang/Exception"], w ∈ lw_tbl ∧ (goodWord w || z_isN w) = true) w h).elim (fun h1 h2 => (Bool.or_eq_true _ _ ▸ h2).elim (fun h3 => Or.inl (List.mem_filter.mpr ⟨h1, h3⟩)) (fun h3 => Or.inr (List.mem_filter.mpr ⟨h1, h3⟩))), by decide +kernel⟩
theorem sr_Ip_244 : Cond.stringRef "Ironpour" 244 "there are 20 lots" ∈ lw_tbl := z_tb4 (i := 223) rfl
theorem d_Ip_makeCores_43 : decode prog_1_method_20_code 43 = .ok (.dup, 1) := zo_89 (zd_b zq_prog_1_method_20_code_1 11 rfl rfl rfl)
theorem d_Ip_makeCores_44 : decode prog_1_method_20_code 44 = .ok (.ldc 244, 2) := zo_18 (d := 244) (zd_b zq_prog_1_method_20_code_1 12 rfl rfl rfl) (zd_b zq_prog_1_method_20_code_1 13 rfl rfl rfl)
theorem d_Ip_makeCores_46 : decode prog_1_method_20_code 46 = .ok (.invokespecial 246, 3) := zo_183 (d := 0) (e := 246) (zd_b zq_prog_1_method_20_code_1 14 rfl rfl rfl) (zd_b zq_prog_1_method_20_code_1 15 rfl rfl rfl) (zd_b zq_prog_1_method_20_code_1 16 rfl rfl rfl)
theorem d_Ip_makeCores_49 : decode prog_1_method_20_code 49 = .ok (.athrow, 1) := zo_191 (zd_b zq_prog_1_method_20_code_1 17 rfl rfl rfl)
set_option maxHeartbeats 4000000 in
set_option maxRecDepth 100000 in
theorem C_Ip_makeCoresF (g : zG) (a pa ta sa gs co fu la gy du re wm ac : Nat) (co1 co2 co3 : Nat) (cn cu ag : Nat → Int32) (nl : Nat) (hnl : nl ≤ 20) (c k : Int32) (hw : (1 ≤ c ∧ c ≤ 10) ∧ (1 ≤ k ∧ k ≤ 24)) (hf : ¬ nl < 20) : CT g M_Ip_makeCores [.ref a, .int c, .int k] [(a, .inr (11, [.ref pa, .ref ta, .ref sa, .ref gs, .ref co, .ref fu, .ref la, .ref gy, .ref du, .ref re, .ref wm, .ref ac])), (co, .inr (1, [.ref co1, .ref co2, .ref co3, .int (nI nl)])), (co1, .inl (0, 20, .inl cn)), (co2, .inl (0, 20, .inl cu)), (co3, .inl (0, 20, .inl ag))] (fun o cs1 => o = .inr "java/lang/IllegalStateException" ∧ cs1 = [(a, .inr (11, [.ref pa, .ref ta, .ref sa, .ref gs, .ref co, .ref fu, .ref la, .ref gy, .ref du, .ref re, .ref wm, .ref ac])), (co, .inr (1, [.ref co1, .ref co2, .ref co3, .int (nI nl)])), (co1, .inl (0, 20, .inl cn)), (co2, .inl (0, 20, .inl cu)), (co3, .inl (0, 20, .inl ag))]) 1 6 := by
  refine z_of (by decide) rfl (Nat.le_of_ble_eq_true rfl) (fun w0 => ?_)
  refine r_lvE (lv2 := [(0, .ref a), (1, .int c), (2, .int k)]) rfl ?_
  refine r_iload_n d_Ip_makeCores_0 rfl 1 rfl ?_
  refine r_iconst d_Ip_makeCores_1 (v := 1) (by decide) ?_
  refine r_bipush d_Ip_makeCores_2 (v := 10) (by decide) ?_
  refine r_callS (As := [.int c, .int 1, .int 10]) (rest := []) (csC := []) (is := []) ln_Ip_203 w_st_Ip_isWithin ok_Ip_makeCores_Ip_isWithin d_Ip_makeCores_4 (C_Ip_isWithin g c 1 10) rfl rfl (Nat.le_of_ble_eq_true rfl) rfl (by decide) (by omega) (by omega) (fun E cs1 hx => ?_) (fun v cs1 hx => ?_)
  · exact absurd hx.1 (by simp)
  · obtain ⟨e1, rfl⟩ := hx
    cases e1
    refine ⟨rfl, ?_⟩
    refine r_st (st2 := [.int (if 1 ≤ c ∧ c ≤ 10 then 1 else 0)]) rfl ?_
    refine r_cs (cs2 := [(a, .inr (11, [.ref pa, .ref ta, .ref sa, .ref gs, .ref co, .ref fu, .ref la, .ref gy, .ref du, .ref re, .ref wm, .ref ac])), (co, .inr (1, [.ref co1, .ref co2, .ref co3, .int (nI nl)])), (co1, .inl (0, 20, .inl cn)), (co2, .inl (0, 20, .inl cu)), (co3, .inl (0, 20, .inl ag))]) rfl ?_
    refine r_if_eq (tgt := 20) d_Ip_makeCores_7 (by decide) (fun c_7 => ?_) (fun c_7 => ?_)
    · exact absurd hw.1 (z_b0 c_7)
    · refine r_iload_n d_Ip_makeCores_10 rfl 2 rfl ?_
      refine r_iconst d_Ip_makeCores_11 (v := 1) (by decide) ?_
      refine r_bipush d_Ip_makeCores_12 (v := 24) (by decide) ?_
      refine r_callS (As := [.int k, .int 1, .int 24]) (rest := []) (csC := []) (is := []) ln_Ip_203 w_st_Ip_isWithin ok_Ip_makeCores_Ip_isWithin d_Ip_makeCores_14 (C_Ip_isWithin g k 1 24) rfl rfl (Nat.le_of_ble_eq_true rfl) rfl (by decide) (by omega) (by omega) (fun E cs1 hx => ?_) (fun v cs1 hx => ?_)
      · exact absurd hx.1 (by simp)
      · obtain ⟨e1, rfl⟩ := hx
        cases e1
        refine ⟨rfl, ?_⟩
        refine r_st (st2 := [.int (if 1 ≤ k ∧ k ≤ 24 then 1 else 0)]) rfl ?_
        refine r_cs (cs2 := [(a, .inr (11, [.ref pa, .ref ta, .ref sa, .ref gs, .ref co, .ref fu, .ref la, .ref gy, .ref du, .ref re, .ref wm, .ref ac])), (co, .inr (1, [.ref co1, .ref co2, .ref co3, .int (nI nl)])), (co1, .inl (0, 20, .inl cn)), (co2, .inl (0, 20, .inl cu)), (co3, .inl (0, 20, .inl ag))]) rfl ?_
        refine r_if_ne (tgt := 30) d_Ip_makeCores_17 (by decide) (fun c_17 => ?_) (fun c_17 => ?_)
        · refine r_aload_n d_Ip_makeCores_30 rfl 0 rfl ?_
          refine r_get fs_Ip_36 d_Ip_makeCores_31 (q0 := 0) rfl rfl ?_
          refine r_callV (As := []) (rest := []) (csC := [(co, .inr (1, [.ref co1, .ref co2, .ref co3, .int (nI nl)])), (co1, .inl (0, 20, .inl cn)), (co2, .inl (0, 20, .inl cu)), (co3, .inl (0, 20, .inl ag))]) (is := [1, 2, 3, 4]) (q0 := 1) rfl rfl ln_Ip_238 w_im_CS_isFull w_se_CS_isFull ok_Ip_makeCores_CS_isFull d_Ip_makeCores_34 (C_CS_isFull g co co1 co2 co3 cn cu ag nl hnl) rfl rfl (Nat.le_of_ble_eq_true rfl) rfl (by decide) (by omega) (by omega) (fun E cs1 hx => ?_) (fun v cs1 hx => ?_)
          · exact absurd hx.1 (by simp)
          · obtain ⟨e1, rfl⟩ := hx
            cases e1
            refine ⟨rfl, ?_⟩
            refine r_st (st2 := [.int (if nl < 20 then 0 else 1)]) rfl ?_
            refine r_cs (cs2 := [(a, .inr (11, [.ref pa, .ref ta, .ref sa, .ref gs, .ref co, .ref fu, .ref la, .ref gy, .ref du, .ref re, .ref wm, .ref ac])), (co, .inr (1, [.ref co1, .ref co2, .ref co3, .int (nI nl)])), (co1, .inl (0, 20, .inl cn)), (co2, .inl (0, 20, .inl cu)), (co3, .inl (0, 20, .inl ag))]) rfl ?_
            refine r_if_eq (tgt := 50) d_Ip_makeCores_37 (by decide) (fun c_37 => ?_) (fun c_37 => ?_)
            · exact absurd ((if_neg hf).symm.trans c_37) one_z
            · refine r_throw tb_Ip_242_246 sr_Ip_244 d_Ip_makeCores_40 d_Ip_makeCores_43 d_Ip_makeCores_44 d_Ip_makeCores_46 d_Ip_makeCores_49 rfl (by decide) (by decide) (Nat.le_of_ble_eq_true rfl) (by omega) (by omega) ?_
              exact ⟨rfl, rfl⟩
        · exact absurd hw.2 (z_b0 c_17)
theorem d_Ip_makeCores_50 : decode prog_1_method_20_code 50 = .ok (.aload_n 0, 1) := zo_42 (zd_b zq_prog_1_method_20_code_1 18 rfl rfl rfl)
theorem d_Ip_makeCores_51 : decode prog_1_method_20_code 51 = .ok (.getfield 36, 3) := zo_180 (d := 0) (e := 36) (zd_b zq_prog_1_method_20_code_1 19 rfl rfl rfl) (zd_b zq_prog_1_method_20_code_1 20 rfl rfl rfl) (zd_b zq_prog_1_method_20_code_1 21 rfl rfl rfl)
theorem d_Ip_makeCores_54 : decode prog_1_method_20_code 54 = .ok (.iload_n 1, 1) := zo_27 (zd_b zq_prog_1_method_20_code_1 22 rfl rfl rfl)
theorem d_Ip_makeCores_55 : decode prog_1_method_20_code 55 = .ok (.iload_n 2, 1) := zo_28 (zd_b zq_prog_1_method_20_code_1 23 rfl rfl rfl)
theorem d_Ip_makeCores_56 : decode prog_1_method_20_code 56 = .ok (.invokevirtual 247, 3) := zo_182 (d := 0) (e := 247) (zd_b zq_prog_1_method_20_code_1 24 rfl rfl rfl) (zd_b zq_prog_1_method_20_code_1 25 rfl rfl rfl) (zd_b zq_prog_1_method_20_code_1 26 rfl rfl rfl)
theorem ok_Ip_makeCores_CS_addLot : z_ok M_Ip_makeCores M_CS_addLot 2 := ⟨z_mj4 (i := 233) rfl (by decide +kernel), rfl, ⟨by decide +kernel, by decide +kernel, by decide +kernel⟩, ⟨by decide, by decide⟩, z_mj1 (i := 6) rfl (by decide +kernel), rfl⟩
theorem ln_Ip_247 : Cond.methodLink "Ironpour" 247 M_CS_addLot.1 ∈ z_gw := z_mj4 (i := 230) rfl (by decide +kernel)
theorem w_im_CS_addLot : Cond.instanceMethod M_CS_addLot.1 ∈ z_gw := z_mj4 (i := 231) rfl (by decide +kernel)
theorem w_se_CS_addLot : Cond.selects M_CS_addLot.1.cls M_CS_addLot.1 M_CS_addLot.1 ∈ z_gw := z_mj4 (i := 232) rfl (by decide +kernel)
theorem d_Ip_makeCores_59 : decode prog_1_method_20_code 59 = .ok (.aload_n 0, 1) := zo_42 (zd_b zq_prog_1_method_20_code_1 27 rfl rfl rfl)
theorem d_Ip_makeCores_60 : decode prog_1_method_20_code 60 = .ok (.getfield 36, 3) := zo_180 (d := 0) (e := 36) (zd_b zq_prog_1_method_20_code_1 28 rfl rfl rfl) (zd_b zq_prog_1_method_20_code_1 29 rfl rfl rfl) (zd_b zq_prog_1_method_20_code_1 30 rfl rfl rfl)
theorem d_Ip_makeCores_63 : decode prog_1_method_20_code 63 = .ok (.invokevirtual 250, 3) := zo_182 (d := 0) (e := 250) (zd_b zq_prog_1_method_20_code_1 31 rfl rfl rfl) (zd_b zq_prog_1_method_20_code_2 0 rfl rfl rfl) (zd_b zq_prog_1_method_20_code_2 1 rfl rfl rfl)
theorem ok_Ip_makeCores_CS_allCores : z_ok M_Ip_makeCores M_CS_allCores 0 := ⟨z_mj4 (i := 237) rfl (by decide +kernel), rfl, ⟨by decide +kernel, by decide +kernel, by decide +kernel⟩, ⟨by decide, by decide⟩, z_mj1 (i := 6) rfl (by decide +kernel), rfl⟩
theorem ln_Ip_250 : Cond.methodLink "Ironpour" 250 M_CS_allCores.1 ∈ z_gw := z_mj4 (i := 234) rfl (by decide +kernel)
theorem w_im_CS_allCores : Cond.instanceMethod M_CS_allCores.1 ∈ z_gw := z_mj4 (i := 235) rfl (by decide +kernel)
theorem w_se_CS_allCores : Cond.selects M_CS_allCores.1.cls M_CS_allCores.1 M_CS_allCores.1 ∈ z_gw := z_mj4 (i := 236) rfl (by decide +kernel)
theorem d_Ip_makeCores_66 : decode prog_1_method_20_code 66 = .ok (.ireturn, 1) := zo_172 (zd_b zq_prog_1_method_20_code_2 2 rfl rfl rfl)
set_option maxHeartbeats 4000000 in
set_option maxRecDepth 100000 in
theorem C_Ip_makeCoresN (g : zG) (a pa ta sa gs co fu la gy du re wm ac : Nat) (co1 co2 co3 : Nat) (cn cu ag : Nat → Int32) (nl : Nat) (hnl : nl ≤ 20) (c k : Int32) (hw : (1 ≤ c ∧ c ≤ 10) ∧ (1 ≤ k ∧ k ≤ 24)) (hf : nl < 20) : CT g M_Ip_makeCores [.ref a, .int c, .int k] [(a, .inr (11, [.ref pa, .ref ta, .ref sa, .ref gs, .ref co, .ref fu, .ref la, .ref gy, .ref du, .ref re, .ref wm, .ref ac])), (co, .inr (1, [.ref co1, .ref co2, .ref co3, .int (nI nl)])), (co1, .inl (0, 20, .inl cn)), (co2, .inl (0, 20, .inl cu)), (co3, .inl (0, 20, .inl ag))] (fun o cs1 => o = .inl (some (.int (bx_sum (upd cn nl c) (nl + 1)))) ∧ cs1 = [(a, .inr (11, [.ref pa, .ref ta, .ref sa, .ref gs, .ref co, .ref fu, .ref la, .ref gy, .ref du, .ref re, .ref wm, .ref ac])), (co, .inr (1, [.ref co1, .ref co2, .ref co3, .int (nI (nl + 1))])), (co1, .inl (0, 20, .inl (upd cn nl c))), (co2, .inl (0, 20, .inl (upd cu nl k))), (co3, .inl (0, 20, .inl (upd ag nl 0)))]) 1 6 := by
  refine z_of (by decide) rfl (Nat.le_of_ble_eq_true rfl) (fun w0 => ?_)
  refine r_lvE (lv2 := [(0, .ref a), (1, .int c), (2, .int k)]) rfl ?_
  refine r_iload_n d_Ip_makeCores_0 rfl 1 rfl ?_
  refine r_iconst d_Ip_makeCores_1 (v := 1) (by decide) ?_
  refine r_bipush d_Ip_makeCores_2 (v := 10) (by decide) ?_
  refine r_callS (As := [.int c, .int 1, .int 10]) (rest := []) (csC := []) (is := []) ln_Ip_203 w_st_Ip_isWithin ok_Ip_makeCores_Ip_isWithin d_Ip_makeCores_4 (C_Ip_isWithin g c 1 10) rfl rfl (Nat.le_of_ble_eq_true rfl) rfl (by decide) (by omega) (by omega) (fun E cs1 hx => ?_) (fun v cs1 hx => ?_)
  · exact absurd hx.1 (by simp)
  · obtain ⟨e1, rfl⟩ := hx
    cases e1
    refine ⟨rfl, ?_⟩
    refine r_st (st2 := [.int (if 1 ≤ c ∧ c ≤ 10 then 1 else 0)]) rfl ?_
    refine r_cs (cs2 := [(a, .inr (11, [.ref pa, .ref ta, .ref sa, .ref gs, .ref co, .ref fu, .ref la, .ref gy, .ref du, .ref re, .ref wm, .ref ac])), (co, .inr (1, [.ref co1, .ref co2, .ref co3, .int (nI nl)])), (co1, .inl (0, 20, .inl cn)), (co2, .inl (0, 20, .inl cu)), (co3, .inl (0, 20, .inl ag))]) rfl ?_
    refine r_if_eq (tgt := 20) d_Ip_makeCores_7 (by decide) (fun c_7 => ?_) (fun c_7 => ?_)
    · exact absurd hw.1 (z_b0 c_7)
    · refine r_iload_n d_Ip_makeCores_10 rfl 2 rfl ?_
      refine r_iconst d_Ip_makeCores_11 (v := 1) (by decide) ?_
      refine r_bipush d_Ip_makeCores_12 (v := 24) (by decide) ?_
      refine r_callS (As := [.int k, .int 1, .int 24]) (rest := []) (csC := []) (is := []) ln_Ip_203 w_st_Ip_isWithin ok_Ip_makeCores_Ip_isWithin d_Ip_makeCores_14 (C_Ip_isWithin g k 1 24) rfl rfl (Nat.le_of_ble_eq_true rfl) rfl (by decide) (by omega) (by omega) (fun E cs1 hx => ?_) (fun v cs1 hx => ?_)
      · exact absurd hx.1 (by simp)
      · obtain ⟨e1, rfl⟩ := hx
        cases e1
        refine ⟨rfl, ?_⟩
        refine r_st (st2 := [.int (if 1 ≤ k ∧ k ≤ 24 then 1 else 0)]) rfl ?_
        refine r_cs (cs2 := [(a, .inr (11, [.ref pa, .ref ta, .ref sa, .ref gs, .ref co, .ref fu, .ref la, .ref gy, .ref du, .ref re, .ref wm, .ref ac])), (co, .inr (1, [.ref co1, .ref co2, .ref co3, .int (nI nl)])), (co1, .inl (0, 20, .inl cn)), (co2, .inl (0, 20, .inl cu)), (co3, .inl (0, 20, .inl ag))]) rfl ?_
        refine r_if_ne (tgt := 30) d_Ip_makeCores_17 (by decide) (fun c_17 => ?_) (fun c_17 => ?_)
        · refine r_aload_n d_Ip_makeCores_30 rfl 0 rfl ?_
          refine r_get fs_Ip_36 d_Ip_makeCores_31 (q0 := 0) rfl rfl ?_
          refine r_callV (As := []) (rest := []) (csC := [(co, .inr (1, [.ref co1, .ref co2, .ref co3, .int (nI nl)])), (co1, .inl (0, 20, .inl cn)), (co2, .inl (0, 20, .inl cu)), (co3, .inl (0, 20, .inl ag))]) (is := [1, 2, 3, 4]) (q0 := 1) rfl rfl ln_Ip_238 w_im_CS_isFull w_se_CS_isFull ok_Ip_makeCores_CS_isFull d_Ip_makeCores_34 (C_CS_isFull g co co1 co2 co3 cn cu ag nl hnl) rfl rfl (Nat.le_of_ble_eq_true rfl) rfl (by decide) (by omega) (by omega) (fun E cs1 hx => ?_) (fun v cs1 hx => ?_)
          · exact absurd hx.1 (by simp)
          · obtain ⟨e1, rfl⟩ := hx
            cases e1
            refine ⟨rfl, ?_⟩
            refine r_st (st2 := [.int (if nl < 20 then 0 else 1)]) rfl ?_
            refine r_cs (cs2 := [(a, .inr (11, [.ref pa, .ref ta, .ref sa, .ref gs, .ref co, .ref fu, .ref la, .ref gy, .ref du, .ref re, .ref wm, .ref ac])), (co, .inr (1, [.ref co1, .ref co2, .ref co3, .int (nI nl)])), (co1, .inl (0, 20, .inl cn)), (co2, .inl (0, 20, .inl cu)), (co3, .inl (0, 20, .inl ag))]) rfl ?_
            refine r_if_eq (tgt := 50) d_Ip_makeCores_37 (by decide) (fun c_37 => ?_) (fun c_37 => ?_)
            · refine r_aload_n d_Ip_makeCores_50 rfl 0 rfl ?_
              refine r_get fs_Ip_36 d_Ip_makeCores_51 (q0 := 0) rfl rfl ?_
              refine r_iload_n d_Ip_makeCores_54 rfl 1 rfl ?_
              refine r_iload_n d_Ip_makeCores_55 rfl 2 rfl ?_
              refine r_callV (As := [.int c, .int k]) (rest := []) (csC := [(co, .inr (1, [.ref co1, .ref co2, .ref co3, .int (nI nl)])), (co1, .inl (0, 20, .inl cn)), (co2, .inl (0, 20, .inl cu)), (co3, .inl (0, 20, .inl ag))]) (is := [1, 2, 3, 4]) (q0 := 1) rfl rfl ln_Ip_247 w_im_CS_addLot w_se_CS_addLot ok_Ip_makeCores_CS_addLot d_Ip_makeCores_56 (C_CS_addLot g co co1 co2 co3 cn cu ag nl hnl hf c k) rfl rfl (Nat.le_of_ble_eq_true rfl) rfl (by decide) (by omega) (by omega) (fun E cs1 hx => ?_) (fun v cs1 hx => ?_)
              · exact absurd hx.1 (by simp)
              · obtain ⟨e1, rfl⟩ := hx
                cases e1
                refine ⟨rfl, ?_⟩
                refine r_st (st2 := []) rfl ?_
                refine r_cs (cs2 := [(a, .inr (11, [.ref pa, .ref ta, .ref sa, .ref gs, .ref co, .ref fu, .ref la, .ref gy, .ref du, .ref re, .ref wm, .ref ac])), (co, .inr (1, [.ref co1, .ref co2, .ref co3, .int (nI (nl + 1))])), (co1, .inl (0, 20, .inl (upd cn nl c))), (co2, .inl (0, 20, .inl (upd cu nl k))), (co3, .inl (0, 20, .inl (upd ag nl 0)))]) rfl ?_
                refine r_aload_n d_Ip_makeCores_59 rfl 0 rfl ?_
                refine r_get fs_Ip_36 d_Ip_makeCores_60 (q0 := 0) rfl rfl ?_
                refine r_callV (As := []) (rest := []) (csC := [(co, .inr (1, [.ref co1, .ref co2, .ref co3, .int (nI (nl + 1))])), (co1, .inl (0, 20, .inl (upd cn nl c))), (co2, .inl (0, 20, .inl (upd cu nl k))), (co3, .inl (0, 20, .inl (upd ag nl 0)))]) (is := [1, 2, 3, 4]) (q0 := 1) rfl rfl ln_Ip_250 w_im_CS_allCores w_se_CS_allCores ok_Ip_makeCores_CS_allCores d_Ip_makeCores_63 (C_CS_allCores g co co1 co2 co3 (upd cn nl c) (upd cu nl k) (upd ag nl 0) (nl + 1) hf) rfl rfl (Nat.le_of_ble_eq_true rfl) rfl (by decide) (by omega) (by omega) (fun E cs1 hx => ?_) (fun v cs1 hx => ?_)
                · exact absurd hx.1 (by simp)
                · obtain ⟨e1, rfl⟩ := hx
                  cases e1
                  refine ⟨rfl, ?_⟩
                  refine r_st (st2 := [.int (bx_sum (upd cn nl c) (nl + 1))]) rfl ?_
                  refine r_cs (cs2 := [(a, .inr (11, [.ref pa, .ref ta, .ref sa, .ref gs, .ref co, .ref fu, .ref la, .ref gy, .ref du, .ref re, .ref wm, .ref ac])), (co, .inr (1, [.ref co1, .ref co2, .ref co3, .int (nI (nl + 1))])), (co1, .inl (0, 20, .inl (upd cn nl c))), (co2, .inl (0, 20, .inl (upd cu nl k))), (co3, .inl (0, 20, .inl (upd ag nl 0)))]) rfl ?_
                  refine r_iret d_Ip_makeCores_66 rfl rfl ?_
                  exact ⟨rfl, rfl⟩
            · exact absurd (if_pos hf) c_37
        · exact absurd hw.2 (z_b0 c_17)
abbrev M_Ip_lastPlace : zM := (⟨"Ironpour", "lastPlace", "(I)I"⟩, prog_1_method_16_code, 3, (Option.some FieldType.int), 7, 136, [])
theorem d_Ip_lastPlace_0 : decode prog_1_method_16_code 0 = .ok (.iload_n 1, 1) := zo_27 (zd_b zq_prog_1_method_16_code_0 0 rfl rfl rfl)
theorem d_Ip_lastPlace_1 : decode prog_1_method_16_code 1 = .ok (.invokestatic 158, 3) := zo_184 (d := 0) (e := 158) (zd_b zq_prog_1_method_16_code_0 1 rfl rfl rfl) (zd_b zq_prog_1_method_16_code_0 2 rfl rfl rfl) (zd_b zq_prog_1_method_16_code_0 3 rfl rfl rfl)
theorem ok_Ip_lastPlace_Ip_checkHeat : z_ok M_Ip_lastPlace M_Ip_checkHeat 1 := ⟨z_mj4 (i := 94) rfl (by decide +kernel), rfl, ⟨by decide +kernel, by decide +kernel, by decide +kernel⟩, ⟨by decide, by decide⟩, z_mj1 (i := 1) rfl (by decide +kernel), rfl⟩
set_option maxHeartbeats 4000000 in
set_option maxRecDepth 100000 in
theorem C_Ip_lastPlaceE (g : zG) (a pa ta sa gs co fu la gy du re wm ac : Nat) (ta1 ta2 taz taz1 taz2 taz3 taz4 taz5 taz6 ta4 ta5 ta6 : Nat) (X : zTr) (h : Int32) (hh : ¬ (1200 ≤ h ∧ h ≤ 1500)) : CT g M_Ip_lastPlace [.ref a, .int h] [(a, .inr (11, [.ref pa, .ref ta, .ref sa, .ref gs, .ref co, .ref fu, .ref la, .ref gy, .ref du, .ref re, .ref wm, .ref ac])), (ta, .inr (10, [.ref ta1, .ref ta2, .ref taz, .ref ta4, .ref ta5, .ref ta6, .int X.1.2.2.1, .int X.1.2.2.2])), (ta1, .inl (1, 108, .inl X.1.1)), (ta2, .inl (0, 108, .inl X.1.2.1)), (taz, .inr (2, [.ref taz1, .ref taz2, .ref taz3, .ref taz4, .ref taz5, .ref taz6, .int X.2.1.1.1.2.2.2])), (taz1, .inl (0, 108, .inl X.2.1.1.1.1)), (taz2, .inl (0, 108, .inl X.2.1.1.2)), (taz3, .inl (0, 108, .inl X.2.1.1.1.2.1)), (taz4, .inl (0, 108, .inl X.2.1.1.1.2.2.1)), (taz5, .inl (0, 108, .inl X.2.1.2.1)), (taz6, .inl (0, 108, .inl X.2.1.2.2)), (ta4, .inl (2, 108, .inl X.2.2.1)), (ta5, .inl (2, 108, .inl X.2.2.2.1)), (ta6, .inl (0, 108, .inl (fun k => nI (X.2.2.2.2 k))))] (fun o cs1 => o = .inr "java/lang/IllegalArgumentException" ∧ cs1 = [(a, .inr (11, [.ref pa, .ref ta, .ref sa, .ref gs, .ref co, .ref fu, .ref la, .ref gy, .ref du, .ref re, .ref wm, .ref ac])), (ta, .inr (10, [.ref ta1, .ref ta2, .ref taz, .ref ta4, .ref ta5, .ref ta6, .int X.1.2.2.1, .int X.1.2.2.2])), (ta1, .inl (1, 108, .inl X.1.1)), (ta2, .inl (0, 108, .inl X.1.2.1)), (taz, .inr (2, [.ref taz1, .ref taz2, .ref taz3, .ref taz4, .ref taz5, .ref taz6, .int X.2.1.1.1.2.2.2])), (taz1, .inl (0, 108, .inl X.2.1.1.1.1)), (taz2, .inl (0, 108, .inl X.2.1.1.2)), (taz3, .inl (0, 108, .inl X.2.1.1.1.2.1)), (taz4, .inl (0, 108, .inl X.2.1.1.1.2.2.1)), (taz5, .inl (0, 108, .inl X.2.1.2.1)), (taz6, .inl (0, 108, .inl X.2.1.2.2)), (ta4, .inl (2, 108, .inl X.2.2.1)), (ta5, .inl (2, 108, .inl X.2.2.2.1)), (ta6, .inl (0, 108, .inl (fun k => nI (X.2.2.2.2 k))))]) 1 6 := by
  refine z_of (by decide) rfl (Nat.le_of_ble_eq_true rfl) (fun w0 => ?_)
  refine r_lvE (lv2 := [(0, .ref a), (1, .int h)]) rfl ?_
  refine r_iload_n d_Ip_lastPlace_0 rfl 1 rfl ?_
  refine r_callS (As := [.int h]) (rest := []) (csC := []) (is := []) ln_Ip_158 w_st_Ip_checkHeat ok_Ip_lastPlace_Ip_checkHeat d_Ip_lastPlace_1 (C_Ip_checkHeat g h) rfl rfl (Nat.le_of_ble_eq_true rfl) rfl (by decide) (by omega) (by omega) (fun E cs1 hx => ?_) (fun v cs1 hx => ?_)
  · simp only [if_neg hh] at hx
    obtain ⟨e1, rfl⟩ := hx
    cases e1
    exact ⟨rfl, rfl, rfl⟩
  · simp only [if_neg hh] at hx
    exact absurd hx.1 (by simp)
abbrev M_Ip_shrunkAnew : zM := (⟨"Ironpour", "shrunkAnew", "(I)I"⟩, prog_1_method_15_code, 2, (Option.some FieldType.int), 7, 136, [])
theorem d_Ip_shrunkAnew_0 : decode prog_1_method_15_code 0 = .ok (.iload_n 1, 1) := zo_27 (zd_b zq_prog_1_method_15_code_0 0 rfl rfl rfl)
theorem d_Ip_shrunkAnew_1 : decode prog_1_method_15_code 1 = .ok (.invokestatic 158, 3) := zo_184 (d := 0) (e := 158) (zd_b zq_prog_1_method_15_code_0 1 rfl rfl rfl) (zd_b zq_prog_1_method_15_code_0 2 rfl rfl rfl) (zd_b zq_prog_1_method_15_code_0 3 rfl rfl rfl)
theorem ok_Ip_shrunkAnew_Ip_checkHeat : z_ok M_Ip_shrunkAnew M_Ip_checkHeat 1 := ⟨z_mj4 (i := 94) rfl (by decide +kernel), rfl, ⟨by decide +kernel, by decide +kernel, by decide +kernel⟩, ⟨by decide, by decide⟩, z_mj1 (i := 1) rfl (by decide +kernel), rfl⟩
set_option maxHeartbeats 4000000 in
set_option maxRecDepth 100000 in
theorem C_Ip_shrunkAnewE (g : zG) (a pa ta sa gs co fu la gy du re wm ac : Nat) (ta1 ta2 taz taz1 taz2 taz3 taz4 taz5 taz6 ta4 ta5 ta6 : Nat) (X : zTr) (h : Int32) (hh : ¬ (1200 ≤ h ∧ h ≤ 1500)) : CT g M_Ip_shrunkAnew [.ref a, .int h] [(a, .inr (11, [.ref pa, .ref ta, .ref sa, .ref gs, .ref co, .ref fu, .ref la, .ref gy, .ref du, .ref re, .ref wm, .ref ac])), (ta, .inr (10, [.ref ta1, .ref ta2, .ref taz, .ref ta4, .ref ta5, .ref ta6, .int X.1.2.2.1, .int X.1.2.2.2])), (ta1, .inl (1, 108, .inl X.1.1)), (ta2, .inl (0, 108, .inl X.1.2.1)), (taz, .inr (2, [.ref taz1, .ref taz2, .ref taz3, .ref taz4, .ref taz5, .ref taz6, .int X.2.1.1.1.2.2.2])), (taz1, .inl (0, 108, .inl X.2.1.1.1.1)), (taz2, .inl (0, 108, .inl X.2.1.1.2)), (taz3, .inl (0, 108, .inl X.2.1.1.1.2.1)), (taz4, .inl (0, 108, .inl X.2.1.1.1.2.2.1)), (taz5, .inl (0, 108, .inl X.2.1.2.1)), (taz6, .inl (0, 108, .inl X.2.1.2.2)), (ta4, .inl (2, 108, .inl X.2.2.1)), (ta5, .inl (2, 108, .inl X.2.2.2.1)), (ta6, .inl (0, 108, .inl (fun k => nI (X.2.2.2.2 k))))] (fun o cs1 => o = .inr "java/lang/IllegalArgumentException" ∧ cs1 = [(a, .inr (11, [.ref pa, .ref ta, .ref sa, .ref gs, .ref co, .ref fu, .ref la, .ref gy, .ref du, .ref re, .ref wm, .ref ac])), (ta, .inr (10, [.ref ta1, .ref ta2, .ref taz, .ref ta4, .ref ta5, .ref ta6, .int X.1.2.2.1, .int X.1.2.2.2])), (ta1, .inl (1, 108, .inl X.1.1)), (ta2, .inl (0, 108, .inl X.1.2.1)), (taz, .inr (2, [.ref taz1, .ref taz2, .ref taz3, .ref taz4, .ref taz5, .ref taz6, .int X.2.1.1.1.2.2.2])), (taz1, .inl (0, 108, .inl X.2.1.1.1.1)), (taz2, .inl (0, 108, .inl X.2.1.1.2)), (taz3, .inl (0, 108, .inl X.2.1.1.1.2.1)), (taz4, .inl (0, 108, .inl X.2.1.1.1.2.2.1)), (taz5, .inl (0, 108, .inl X.2.1.2.1)), (taz6, .inl (0, 108, .inl X.2.1.2.2)), (ta4, .inl (2, 108, .inl X.2.2.1)), (ta5, .inl (2, 108, .inl X.2.2.2.1)), (ta6, .inl (0, 108, .inl (fun k => nI (X.2.2.2.2 k))))]) 1 6 := by
  refine z_of (by decide) rfl (Nat.le_of_ble_eq_true rfl) (fun w0 => ?_)
  refine r_lvE (lv2 := [(0, .ref a), (1, .int h)]) rfl ?_
  refine r_iload_n d_Ip_shrunkAnew_0 rfl 1 rfl ?_
  refine r_callS (As := [.int h]) (rest := []) (csC := []) (is := []) ln_Ip_158 w_st_Ip_checkHeat ok_Ip_shrunkAnew_Ip_checkHeat d_Ip_shrunkAnew_1 (C_Ip_checkHeat g h) rfl rfl (Nat.le_of_ble_eq_true rfl) rfl (by decide) (by omega) (by omega) (fun E cs1 hx => ?_) (fun v cs1 hx => ?_)
  · simp only [if_neg hh] at hx
    obtain ⟨e1, rfl⟩ := hx
    cases e1
    exact ⟨rfl, rfl, rfl⟩
  · simp only [if_neg hh] at hx
    exact absurd hx.1 (by simp)
end
section
def lfX (X : zTr) : Int32 := (lfS X.1.1 X.1.2.1 X.2.1.1.1.2.2.1 108).1
theorem X_lastFrozen (g : zG) (a a1 a2 az az1 az2 az3 az4 az5 az6 a4 a5 a6 : Nat) (X : zTr) : CT g M_Tr_lastFrozen [.ref a] [(a, .inr (10, [.ref a1, .ref a2, .ref az, .ref a4, .ref a5, .ref a6, .int X.1.2.2.1, .int X.1.2.2.2])), (a1, .inl (1, 108, .inl X.1.1)), (a2, .inl (0, 108, .inl X.1.2.1)), (az, .inr (2, [.ref az1, .ref az2, .ref az3, .ref az4, .ref az5, .ref az6, .int X.2.1.1.1.2.2.2])), (az4, .inl (0, 108, .inl X.2.1.1.1.2.2.1)), (a4, .inl (2, 108, .inl X.2.2.1)), (a5, .inl (2, 108, .inl X.2.2.2.1)), (a6, .inl (0, 108, .inl (fun k => nI (X.2.2.2.2 k))))] (fun o cs1 => o = .inl (some (.int (lfX X))) ∧ cs1 = [(a, .inr (10, [.ref a1, .ref a2, .ref az, .ref a4, .ref a5, .ref a6, .int X.1.2.2.1, .int X.1.2.2.2])), (a1, .inl (1, 108, .inl X.1.1)), (a2, .inl (0, 108, .inl X.1.2.1)), (az, .inr (2, [.ref az1, .ref az2, .ref az3, .ref az4, .ref az5, .ref az6, .int X.2.1.1.1.2.2.2])), (az4, .inl (0, 108, .inl X.2.1.1.1.2.2.1)), (a4, .inl (2, 108, .inl X.2.2.1)), (a5, .inl (2, 108, .inl X.2.2.2.1)), (a6, .inl (0, 108, .inl (fun k => nI (X.2.2.2.2 k))))]) 0 0 := by
  unfold lfX
  exact C_Tr_lastFrozen g a a1 a2 az az1 az2 az3 az4 az5 az6 a4 a5 a6 X.1.2.2.1 X.1.2.2.2 X.2.1.1.1.2.2.2 X.1.1 X.1.2.1 X.2.1.1.1.2.2.1 X.2.2.1 X.2.2.2.1 X.2.2.2.2
theorem X_cellsWithoutWay (g : zG) (a a1 a2 az az1 az2 az3 az4 az5 az6 a4 a5 a6 : Nat) (X : zTr) : CT g M_Tr_cellsWithoutWay [.ref a] [(a, .inr (10, [.ref a1, .ref a2, .ref az, .ref a4, .ref a5, .ref a6, .int X.1.2.2.1, .int X.1.2.2.2])), (a1, .inl (1, 108, .inl X.1.1)), (a2, .inl (0, 108, .inl X.1.2.1)), (az, .inr (2, [.ref az1, .ref az2, .ref az3, .ref az4, .ref az5, .ref az6, .int X.2.1.1.1.2.2.2])), (az4, .inl (0, 108, .inl X.2.1.1.1.2.2.1)), (a4, .inl (2, 108, .inl X.2.2.1)), (a5, .inl (2, 108, .inl X.2.2.2.1)), (a6, .inl (0, 108, .inl (fun k => nI (X.2.2.2.2 k))))] (fun o cs1 => o = .inl (some (.int (nI (cwX X).2.2))) ∧ cs1 = [(a, .inr (10, [.ref a1, .ref a2, .ref az, .ref a4, .ref a5, .ref a6, .int ((swT X (cwX X).1 (cwX X).2.1).1.2.2.1), .int ((swT X (cwX X).1 (cwX X).2.1).1.2.2.2)])), (a1, .inl (1, 108, .inl ((swT X (cwX X).1 (cwX X).2.1).1.1))), (a2, .inl (0, 108, .inl ((swT X (cwX X).1 (cwX X).2.1).1.2.1))), (az, .inr (2, [.ref az1, .ref az2, .ref az3, .ref az4, .ref az5, .ref az6, .int ((swT X (cwX X).1 (cwX X).2.1).2.1.1.1.2.2.2)])), (az4, .inl (0, 108, .inl ((swT X (cwX X).1 (cwX X).2.1).2.1.1.1.2.2.1))), (a4, .inl (2, 108, .inl ((swT X (cwX X).1 (cwX X).2.1).2.2.1))), (a5, .inl (2, 108, .inl ((swT X (cwX X).1 (cwX X).2.1).2.2.2.1))), (a6, .inl (0, 108, .inl (fun k => nI ((swT X (cwX X).1 (cwX X).2.1).2.2.2.2 k))))]) 0 0 := by
  unfold swT cwX
  dsimp only
  exact C_Tr_cellsWithoutWay g a a1 a2 az az1 az2 az3 az4 az5 az6 a4 a5 a6 X.1.2.2.1 X.1.2.2.2 X.2.1.1.1.2.2.2 X.1.1 X.1.2.1 X.2.1.1.1.2.2.1 X.2.2.1 X.2.2.2.1 X.2.2.2.2
theorem d_Ip_lastPlace_4 : decode prog_1_method_16_code 4 = .ok (.aload_n 0, 1) := zo_42 (zd_b zq_prog_1_method_16_code_0 4 rfl rfl rfl)
theorem d_Ip_lastPlace_5 : decode prog_1_method_16_code 5 = .ok (.getfield 19, 3) := zo_180 (d := 0) (e := 19) (zd_b zq_prog_1_method_16_code_0 5 rfl rfl rfl) (zd_b zq_prog_1_method_16_code_0 6 rfl rfl rfl) (zd_b zq_prog_1_method_16_code_0 7 rfl rfl rfl)
theorem d_Ip_lastPlace_8 : decode prog_1_method_16_code 8 = .ok (.iload_n 1, 1) := zo_27 (zd_b zq_prog_1_method_16_code_0 8 rfl rfl rfl)
theorem d_Ip_lastPlace_9 : decode prog_1_method_16_code 9 = .ok (.invokevirtual 162, 3) := zo_182 (d := 0) (e := 162) (zd_b zq_prog_1_method_16_code_0 9 rfl rfl rfl) (zd_b zq_prog_1_method_16_code_0 10 rfl rfl rfl) (zd_b zq_prog_1_method_16_code_0 11 rfl rfl rfl)
theorem ok_Ip_lastPlace_Tr_freeze : z_ok M_Ip_lastPlace M_Tr_freeze 1 := ⟨z_mj2 (i := 208) rfl (by decide +kernel), rfl, ⟨by decide +kernel, by decide +kernel, by decide +kernel⟩, ⟨by decide, by decide⟩, z_mj1 (i := 3) rfl (by decide +kernel), rfl⟩
theorem d_Ip_lastPlace_12 : decode prog_1_method_16_code 12 = .ok (.aload_n 0, 1) := zo_42 (zd_b zq_prog_1_method_16_code_0 12 rfl rfl rfl)
theorem d_Ip_lastPlace_13 : decode prog_1_method_16_code 13 = .ok (.getfield 19, 3) := zo_180 (d := 0) (e := 19) (zd_b zq_prog_1_method_16_code_0 13 rfl rfl rfl) (zd_b zq_prog_1_method_16_code_0 14 rfl rfl rfl) (zd_b zq_prog_1_method_16_code_0 15 rfl rfl rfl)
theorem d_Ip_lastPlace_16 : decode prog_1_method_16_code 16 = .ok (.invokevirtual 193, 3) := zo_182 (d := 0) (e := 193) (zd_b zq_prog_1_method_16_code_0 16 rfl rfl rfl) (zd_b zq_prog_1_method_16_code_0 17 rfl rfl rfl) (zd_b zq_prog_1_method_16_code_0 18 rfl rfl rfl)
theorem ok_Ip_lastPlace_Tr_lastFrozen : z_ok M_Ip_lastPlace M_Tr_lastFrozen 0 := ⟨z_mj4 (i := 150) rfl (by decide +kernel), rfl, ⟨by decide +kernel, by decide +kernel, by decide +kernel⟩, ⟨by decide, by decide⟩, z_mj1 (i := 3) rfl (by decide +kernel), rfl⟩
theorem ln_Ip_193 : Cond.methodLink "Ironpour" 193 M_Tr_lastFrozen.1 ∈ z_gw := z_mj4 (i := 147) rfl (by decide +kernel)
theorem w_im_Tr_lastFrozen : Cond.instanceMethod M_Tr_lastFrozen.1 ∈ z_gw := z_mj4 (i := 148) rfl (by decide +kernel)
theorem w_se_Tr_lastFrozen : Cond.selects M_Tr_lastFrozen.1.cls M_Tr_lastFrozen.1 M_Tr_lastFrozen.1 ∈ z_gw := z_mj4 (i := 149) rfl (by decide +kernel)
theorem d_Ip_lastPlace_19 : decode prog_1_method_16_code 19 = .ok (.istore_n 2, 1) := zo_61 (zd_b zq_prog_1_method_16_code_0 19 rfl rfl rfl)
theorem d_Ip_lastPlace_20 : decode prog_1_method_16_code 20 = .ok (.iload_n 2, 1) := zo_28 (zd_b zq_prog_1_method_16_code_0 20 rfl rfl rfl)
theorem d_Ip_lastPlace_21 : decode prog_1_method_16_code 21 = .ok (.ifCond .ge 13, 3) := zo_156 (d := 0) (e := 13) (zd_b zq_prog_1_method_16_code_0 21 rfl rfl rfl) (zd_b zq_prog_1_method_16_code_0 22 rfl rfl rfl) (zd_b zq_prog_1_method_16_code_0 23 rfl rfl rfl) (by decide +kernel)
theorem d_Ip_lastPlace_24 : decode prog_1_method_16_code 24 = .ok (.new 150, 3) := zo_187 (d := 0) (e := 150) (zd_b zq_prog_1_method_16_code_0 24 rfl rfl rfl) (zd_b zq_prog_1_method_16_code_0 25 rfl rfl rfl) (zd_b zq_prog_1_method_16_code_0 26 rfl rfl rfl)
theorem sr_Ip_196 : Cond.stringRef "Ironpour" 196 "no cell of the casting is filled" ∈ lw_tbl := z_tb4 (i := 151) rfl
theorem d_Ip_lastPlace_27 : decode prog_1_method_16_code 27 = .ok (.dup, 1) := zo_89 (zd_b zq_prog_1_method_16_code_0 27 rfl rfl rfl)
theorem d_Ip_lastPlace_28 : decode prog_1_method_16_code 28 = .ok (.ldc 196, 2) := zo_18 (d := 196) (zd_b zq_prog_1_method_16_code_0 28 rfl rfl rfl) (zd_b zq_prog_1_method_16_code_0 29 rfl rfl rfl)
theorem d_Ip_lastPlace_30 : decode prog_1_method_16_code 30 = .ok (.invokespecial 154, 3) := zo_183 (d := 0) (e := 154) (zd_b zq_prog_1_method_16_code_0 30 rfl rfl rfl) (zd_b zq_prog_1_method_16_code_0 31 rfl rfl rfl) (zd_b zq_prog_1_method_16_code_1 0 rfl rfl rfl)
theorem d_Ip_lastPlace_33 : decode prog_1_method_16_code 33 = .ok (.athrow, 1) := zo_191 (zd_b zq_prog_1_method_16_code_1 1 rfl rfl rfl)
set_option maxHeartbeats 4000000 in
set_option maxRecDepth 100000 in
theorem C_Ip_lastPlaceF (g : zG) (a pa ta sa gs co fu la gy du re wm ac : Nat) (ta1 ta2 taz taz1 taz2 taz3 taz4 taz5 taz6 ta4 ta5 ta6 : Nat) (X : zTr) (h : Int32) (hh : 1200 ≤ h ∧ h ≤ 1500) (hl : lfX (frT h X) < 0) : CT g M_Ip_lastPlace [.ref a, .int h] [(a, .inr (11, [.ref pa, .ref ta, .ref sa, .ref gs, .ref co, .ref fu, .ref la, .ref gy, .ref du, .ref re, .ref wm, .ref ac])), (ta, .inr (10, [.ref ta1, .ref ta2, .ref taz, .ref ta4, .ref ta5, .ref ta6, .int X.1.2.2.1, .int X.1.2.2.2])), (ta1, .inl (1, 108, .inl X.1.1)), (ta2, .inl (0, 108, .inl X.1.2.1)), (taz, .inr (2, [.ref taz1, .ref taz2, .ref taz3, .ref taz4, .ref taz5, .ref taz6, .int X.2.1.1.1.2.2.2])), (taz1, .inl (0, 108, .inl X.2.1.1.1.1)), (taz2, .inl (0, 108, .inl X.2.1.1.2)), (taz3, .inl (0, 108, .inl X.2.1.1.1.2.1)), (taz4, .inl (0, 108, .inl X.2.1.1.1.2.2.1)), (taz5, .inl (0, 108, .inl X.2.1.2.1)), (taz6, .inl (0, 108, .inl X.2.1.2.2)), (ta4, .inl (2, 108, .inl X.2.2.1)), (ta5, .inl (2, 108, .inl X.2.2.2.1)), (ta6, .inl (0, 108, .inl (fun k => nI (X.2.2.2.2 k))))] (fun o cs1 => o = .inr "java/util/NoSuchElementException" ∧ cs1 = [(a, .inr (11, [.ref pa, .ref ta, .ref sa, .ref gs, .ref co, .ref fu, .ref la, .ref gy, .ref du, .ref re, .ref wm, .ref ac])), (ta, .inr (10, [.ref ta1, .ref ta2, .ref taz, .ref ta4, .ref ta5, .ref ta6, .int ((frT h X).1.2.2.1), .int ((frT h X).1.2.2.2)])), (ta1, .inl (1, 108, .inl ((frT h X).1.1))), (ta2, .inl (0, 108, .inl ((frT h X).1.2.1))), (taz, .inr (2, [.ref taz1, .ref taz2, .ref taz3, .ref taz4, .ref taz5, .ref taz6, .int ((frT h X).2.1.1.1.2.2.2)])), (taz1, .inl (0, 108, .inl ((frT h X).2.1.1.1.1))), (taz2, .inl (0, 108, .inl ((frT h X).2.1.1.2))), (taz3, .inl (0, 108, .inl ((frT h X).2.1.1.1.2.1))), (taz4, .inl (0, 108, .inl ((frT h X).2.1.1.1.2.2.1))), (taz5, .inl (0, 108, .inl ((frT h X).2.1.2.1))), (taz6, .inl (0, 108, .inl ((frT h X).2.1.2.2))), (ta4, .inl (2, 108, .inl ((frT h X).2.2.1))), (ta5, .inl (2, 108, .inl ((frT h X).2.2.2.1))), (ta6, .inl (0, 108, .inl (fun k => nI ((frT h X).2.2.2.2 k))))]) 2 12 := by
  refine z_of (by decide) rfl (Nat.le_of_ble_eq_true rfl) (fun w0 => ?_)
  refine r_lvE (lv2 := [(0, .ref a), (1, .int h)]) rfl ?_
  refine r_iload_n d_Ip_lastPlace_0 rfl 1 rfl ?_
  refine r_callS (As := [.int h]) (rest := []) (csC := []) (is := []) ln_Ip_158 w_st_Ip_checkHeat ok_Ip_lastPlace_Ip_checkHeat d_Ip_lastPlace_1 (C_Ip_checkHeat g h) rfl rfl (Nat.le_of_ble_eq_true rfl) rfl (by decide) (by omega) (by omega) (fun E cs1 hx => ?_) (fun v cs1 hx => ?_)
  · simp only [if_pos hh] at hx
    exact absurd hx.1 (by simp)
  · simp only [if_pos hh] at hx
    obtain ⟨e1, rfl⟩ := hx
    cases e1
    refine ⟨rfl, ?_⟩
    refine r_st (st2 := []) rfl ?_
    refine r_cs (cs2 := [(a, .inr (11, [.ref pa, .ref ta, .ref sa, .ref gs, .ref co, .ref fu, .ref la, .ref gy, .ref du, .ref re, .ref wm, .ref ac])), (ta, .inr (10, [.ref ta1, .ref ta2, .ref taz, .ref ta4, .ref ta5, .ref ta6, .int X.1.2.2.1, .int X.1.2.2.2])), (ta1, .inl (1, 108, .inl X.1.1)), (ta2, .inl (0, 108, .inl X.1.2.1)), (taz, .inr (2, [.ref taz1, .ref taz2, .ref taz3, .ref taz4, .ref taz5, .ref taz6, .int X.2.1.1.1.2.2.2])), (taz1, .inl (0, 108, .inl X.2.1.1.1.1)), (taz2, .inl (0, 108, .inl X.2.1.1.2)), (taz3, .inl (0, 108, .inl X.2.1.1.1.2.1)), (taz4, .inl (0, 108, .inl X.2.1.1.1.2.2.1)), (taz5, .inl (0, 108, .inl X.2.1.2.1)), (taz6, .inl (0, 108, .inl X.2.1.2.2)), (ta4, .inl (2, 108, .inl X.2.2.1)), (ta5, .inl (2, 108, .inl X.2.2.2.1)), (ta6, .inl (0, 108, .inl (fun k => nI (X.2.2.2.2 k))))]) rfl ?_
    refine r_aload_n d_Ip_lastPlace_4 rfl 0 rfl ?_
    refine r_get fs_Ip_19 d_Ip_lastPlace_5 (q0 := 0) rfl rfl ?_
    refine r_iload_n d_Ip_lastPlace_8 rfl 1 rfl ?_
    refine r_callV (As := [.int h]) (rest := []) (csC := [(ta, .inr (10, [.ref ta1, .ref ta2, .ref taz, .ref ta4, .ref ta5, .ref ta6, .int X.1.2.2.1, .int X.1.2.2.2])), (ta1, .inl (1, 108, .inl X.1.1)), (ta2, .inl (0, 108, .inl X.1.2.1)), (taz, .inr (2, [.ref taz1, .ref taz2, .ref taz3, .ref taz4, .ref taz5, .ref taz6, .int X.2.1.1.1.2.2.2])), (taz1, .inl (0, 108, .inl X.2.1.1.1.1)), (taz2, .inl (0, 108, .inl X.2.1.1.2)), (taz3, .inl (0, 108, .inl X.2.1.1.1.2.1)), (taz4, .inl (0, 108, .inl X.2.1.1.1.2.2.1)), (taz5, .inl (0, 108, .inl X.2.1.2.1)), (taz6, .inl (0, 108, .inl X.2.1.2.2)), (ta4, .inl (2, 108, .inl X.2.2.1)), (ta5, .inl (2, 108, .inl X.2.2.2.1)), (ta6, .inl (0, 108, .inl (fun k => nI (X.2.2.2.2 k))))]) (is := [1, 2, 3, 4, 5, 6, 7, 8, 9, 10, 11, 12, 13]) (q0 := 1) rfl rfl ln_Ip_162 w_im_Tr_freeze w_se_Tr_freeze ok_Ip_lastPlace_Tr_freeze d_Ip_lastPlace_9 (X_freeze g ta ta1 ta2 taz taz1 taz2 taz3 taz4 taz5 taz6 ta4 ta5 ta6 h X) rfl rfl (Nat.le_of_ble_eq_true rfl) rfl (by decide) (by omega) (by omega) (fun E cs1 hx => ?_) (fun v cs1 hx => ?_)
    · exact absurd hx.1 (by simp)
    · obtain ⟨e1, rfl⟩ := hx
      cases e1
      refine ⟨rfl, ?_⟩
      refine r_st (st2 := []) rfl ?_
      refine r_cs (cs2 := [(a, .inr (11, [.ref pa, .ref ta, .ref sa, .ref gs, .ref co, .ref fu, .ref la, .ref gy, .ref du, .ref re, .ref wm, .ref ac])), (ta, .inr (10, [.ref ta1, .ref ta2, .ref taz, .ref ta4, .ref ta5, .ref ta6, .int ((frT h X).1.2.2.1), .int ((frT h X).1.2.2.2)])), (ta1, .inl (1, 108, .inl ((frT h X).1.1))), (ta2, .inl (0, 108, .inl ((frT h X).1.2.1))), (taz, .inr (2, [.ref taz1, .ref taz2, .ref taz3, .ref taz4, .ref taz5, .ref taz6, .int ((frT h X).2.1.1.1.2.2.2)])), (taz1, .inl (0, 108, .inl ((frT h X).2.1.1.1.1))), (taz2, .inl (0, 108, .inl ((frT h X).2.1.1.2))), (taz3, .inl (0, 108, .inl ((frT h X).2.1.1.1.2.1))), (taz4, .inl (0, 108, .inl ((frT h X).2.1.1.1.2.2.1))), (taz5, .inl (0, 108, .inl ((frT h X).2.1.2.1))), (taz6, .inl (0, 108, .inl ((frT h X).2.1.2.2))), (ta4, .inl (2, 108, .inl ((frT h X).2.2.1))), (ta5, .inl (2, 108, .inl ((frT h X).2.2.2.1))), (ta6, .inl (0, 108, .inl (fun k => nI ((frT h X).2.2.2.2 k))))]) rfl ?_
      refine r_aload_n d_Ip_lastPlace_12 rfl 0 rfl ?_
      refine r_get fs_Ip_19 d_Ip_lastPlace_13 (q0 := 0) rfl rfl ?_
      refine r_callV (As := []) (rest := []) (csC := [(ta, .inr (10, [.ref ta1, .ref ta2, .ref taz, .ref ta4, .ref ta5, .ref ta6, .int ((frT h X).1.2.2.1), .int ((frT h X).1.2.2.2)])), (ta1, .inl (1, 108, .inl ((frT h X).1.1))), (ta2, .inl (0, 108, .inl ((frT h X).1.2.1))), (taz, .inr (2, [.ref taz1, .ref taz2, .ref taz3, .ref taz4, .ref taz5, .ref taz6, .int ((frT h X).2.1.1.1.2.2.2)])), (taz4, .inl (0, 108, .inl ((frT h X).2.1.1.1.2.2.1))), (ta4, .inl (2, 108, .inl ((frT h X).2.2.1))), (ta5, .inl (2, 108, .inl ((frT h X).2.2.2.1))), (ta6, .inl (0, 108, .inl (fun k => nI ((frT h X).2.2.2.2 k))))]) (is := [1, 2, 3, 4, 8, 11, 12, 13]) (q0 := 1) rfl rfl ln_Ip_193 w_im_Tr_lastFrozen w_se_Tr_lastFrozen ok_Ip_lastPlace_Tr_lastFrozen d_Ip_lastPlace_16 (X_lastFrozen g ta ta1 ta2 taz taz1 taz2 taz3 taz4 taz5 taz6 ta4 ta5 ta6 (frT h X)) rfl rfl (Nat.le_of_ble_eq_true rfl) rfl (by decide) (by omega) (by omega) (fun E cs1 hx => ?_) (fun v cs1 hx => ?_)
      · exact absurd hx.1 (by simp)
      · obtain ⟨e1, rfl⟩ := hx
        cases e1
        refine ⟨rfl, ?_⟩
        refine r_st (st2 := [.int (lfX (frT h X))]) rfl ?_
        refine r_cs (cs2 := [(a, .inr (11, [.ref pa, .ref ta, .ref sa, .ref gs, .ref co, .ref fu, .ref la, .ref gy, .ref du, .ref re, .ref wm, .ref ac])), (ta, .inr (10, [.ref ta1, .ref ta2, .ref taz, .ref ta4, .ref ta5, .ref ta6, .int ((frT h X).1.2.2.1), .int ((frT h X).1.2.2.2)])), (ta1, .inl (1, 108, .inl ((frT h X).1.1))), (ta2, .inl (0, 108, .inl ((frT h X).1.2.1))), (taz, .inr (2, [.ref taz1, .ref taz2, .ref taz3, .ref taz4, .ref taz5, .ref taz6, .int ((frT h X).2.1.1.1.2.2.2)])), (taz1, .inl (0, 108, .inl ((frT h X).2.1.1.1.1))), (taz2, .inl (0, 108, .inl ((frT h X).2.1.1.2))), (taz3, .inl (0, 108, .inl ((frT h X).2.1.1.1.2.1))), (taz4, .inl (0, 108, .inl ((frT h X).2.1.1.1.2.2.1))), (taz5, .inl (0, 108, .inl ((frT h X).2.1.2.1))), (taz6, .inl (0, 108, .inl ((frT h X).2.1.2.2))), (ta4, .inl (2, 108, .inl ((frT h X).2.2.1))), (ta5, .inl (2, 108, .inl ((frT h X).2.2.2.1))), (ta6, .inl (0, 108, .inl (fun k => nI ((frT h X).2.2.2.2 k))))]) rfl ?_
        refine r_istore_n (lv' := [(2, .int (lfX (frT h X))), (0, .ref a), (1, .int h)]) d_Ip_lastPlace_19 rfl (by decide) rfl ?_
        refine r_iload_n d_Ip_lastPlace_20 rfl 0 rfl ?_
        refine r_if_ge (tgt := 34) d_Ip_lastPlace_21 (by decide) (fun c_21 => ?_) (fun c_21 => ?_)
        · exact absurd hl (Int32.not_lt.mpr c_21)
        · refine r_throwX tb_Ip_150_154 sr_Ip_196 d_Ip_lastPlace_24 d_Ip_lastPlace_27 d_Ip_lastPlace_28 d_Ip_lastPlace_30 d_Ip_lastPlace_33 rfl (by decide) (by decide) (Nat.le_of_ble_eq_true rfl) (by omega) (by omega) ?_
          exact ⟨rfl, rfl⟩
theorem d_Ip_lastPlace_34 : decode prog_1_method_16_code 34 = .ok (.iload_n 2, 1) := zo_28 (zd_b zq_prog_1_method_16_code_1 2 rfl rfl rfl)
theorem d_Ip_lastPlace_35 : decode prog_1_method_16_code 35 = .ok (.ireturn, 1) := zo_172 (zd_b zq_prog_1_method_16_code_1 3 rfl rfl rfl)
set_option maxHeartbeats 4000000 in
set_option maxRecDepth 100000 in
theorem C_Ip_lastPlaceN (g : zG) (a pa ta sa gs co fu la gy du re wm ac : Nat) (ta1 ta2 taz taz1 taz2 taz3 taz4 taz5 taz6 ta4 ta5 ta6 : Nat) (X : zTr) (h : Int32) (hh : 1200 ≤ h ∧ h ≤ 1500) (hl : ¬ lfX (frT h X) < 0) : CT g M_Ip_lastPlace [.ref a, .int h] [(a, .inr (11, [.ref pa, .ref ta, .ref sa, .ref gs, .ref co, .ref fu, .ref la, .ref gy, .ref du, .ref re, .ref wm, .ref ac])), (ta, .inr (10, [.ref ta1, .ref ta2, .ref taz, .ref ta4, .ref ta5, .ref ta6, .int X.1.2.2.1, .int X.1.2.2.2])), (ta1, .inl (1, 108, .inl X.1.1)), (ta2, .inl (0, 108, .inl X.1.2.1)), (taz, .inr (2, [.ref taz1, .ref taz2, .ref taz3, .ref taz4, .ref taz5, .ref taz6, .int X.2.1.1.1.2.2.2])), (taz1, .inl (0, 108, .inl X.2.1.1.1.1)), (taz2, .inl (0, 108, .inl X.2.1.1.2)), (taz3, .inl (0, 108, .inl X.2.1.1.1.2.1)), (taz4, .inl (0, 108, .inl X.2.1.1.1.2.2.1)), (taz5, .inl (0, 108, .inl X.2.1.2.1)), (taz6, .inl (0, 108, .inl X.2.1.2.2)), (ta4, .inl (2, 108, .inl X.2.2.1)), (ta5, .inl (2, 108, .inl X.2.2.2.1)), (ta6, .inl (0, 108, .inl (fun k => nI (X.2.2.2.2 k))))] (fun o cs1 => o = .inl (some (.int (lfX (frT h X)))) ∧ cs1 = [(a, .inr (11, [.ref pa, .ref ta, .ref sa, .ref gs, .ref co, .ref fu, .ref la, .ref gy, .ref du, .ref re, .ref wm, .ref ac])), (ta, .inr (10, [.ref ta1, .ref ta2, .ref taz, .ref ta4, .ref ta5, .ref ta6, .int ((frT h X).1.2.2.1), .int ((frT h X).1.2.2.2)])), (ta1, .inl (1, 108, .inl ((frT h X).1.1))), (ta2, .inl (0, 108, .inl ((frT h X).1.2.1))), (taz, .inr (2, [.ref taz1, .ref taz2, .ref taz3, .ref taz4, .ref taz5, .ref taz6, .int ((frT h X).2.1.1.1.2.2.2)])), (taz1, .inl (0, 108, .inl ((frT h X).2.1.1.1.1))), (taz2, .inl (0, 108, .inl ((frT h X).2.1.1.2))), (taz3, .inl (0, 108, .inl ((frT h X).2.1.1.1.2.1))), (taz4, .inl (0, 108, .inl ((frT h X).2.1.1.1.2.2.1))), (taz5, .inl (0, 108, .inl ((frT h X).2.1.2.1))), (taz6, .inl (0, 108, .inl ((frT h X).2.1.2.2))), (ta4, .inl (2, 108, .inl ((frT h X).2.2.1))), (ta5, .inl (2, 108, .inl ((frT h X).2.2.2.1))), (ta6, .inl (0, 108, .inl (fun k => nI ((frT h X).2.2.2.2 k))))]) 2 12 := by
  refine z_of (by decide) rfl (Nat.le_of_ble_eq_true rfl) (fun w0 => ?_)
  refine r_lvE (lv2 := [(0, .ref a), (1, .int h)]) rfl ?_
  refine r_iload_n d_Ip_lastPlace_0 rfl 1 rfl ?_
  refine r_callS (As := [.int h]) (rest := []) (csC := []) (is := []) ln_Ip_158 w_st_Ip_checkHeat ok_Ip_lastPlace_Ip_checkHeat d_Ip_lastPlace_1 (C_Ip_checkHeat g h) rfl rfl (Nat.le_of_ble_eq_true rfl) rfl (by decide) (by omega) (by omega) (fun E cs1 hx => ?_) (fun v cs1 hx => ?_)
  · simp only [if_pos hh] at hx
    exact absurd hx.1 (by simp)
  · simp only [if_pos hh] at hx
    obtain ⟨e1, rfl⟩ := hx
    cases e1
    refine ⟨rfl, ?_⟩
    refine r_st (st2 := []) rfl ?_
    refine r_cs (cs2 := [(a, .inr (11, [.ref pa, .ref ta, .ref sa, .ref gs, .ref co, .ref fu, .ref la, .ref gy, .ref du, .ref re, .ref wm, .ref ac])), (ta, .inr (10, [.ref ta1, .ref ta2, .ref taz, .ref ta4, .ref ta5, .ref ta6, .int X.1.2.2.1, .int X.1.2.2.2])), (ta1, .inl (1, 108, .inl X.1.1)), (ta2, .inl (0, 108, .inl X.1.2.1)), (taz, .inr (2, [.ref taz1, .ref taz2, .ref taz3, .ref taz4, .ref taz5, .ref taz6, .int X.2.1.1.1.2.2.2])), (taz1, .inl (0, 108, .inl X.2.1.1.1.1)), (taz2, .inl (0, 108, .inl X.2.1.1.2)), (taz3, .inl (0, 108, .inl X.2.1.1.1.2.1)), (taz4, .inl (0, 108, .inl X.2.1.1.1.2.2.1)), (taz5, .inl (0, 108, .inl X.2.1.2.1)), (taz6, .inl (0, 108, .inl X.2.1.2.2)), (ta4, .inl (2, 108, .inl X.2.2.1)), (ta5, .inl (2, 108, .inl X.2.2.2.1)), (ta6, .inl (0, 108, .inl (fun k => nI (X.2.2.2.2 k))))]) rfl ?_
    refine r_aload_n d_Ip_lastPlace_4 rfl 0 rfl ?_
    refine r_get fs_Ip_19 d_Ip_lastPlace_5 (q0 := 0) rfl rfl ?_
    refine r_iload_n d_Ip_lastPlace_8 rfl 1 rfl ?_
    refine r_callV (As := [.int h]) (rest := []) (csC := [(ta, .inr (10, [.ref ta1, .ref ta2, .ref taz, .ref ta4, .ref ta5, .ref ta6, .int X.1.2.2.1, .int X.1.2.2.2])), (ta1, .inl (1, 108, .inl X.1.1)), (ta2, .inl (0, 108, .inl X.1.2.1)), (taz, .inr (2, [.ref taz1, .ref taz2, .ref taz3, .ref taz4, .ref taz5, .ref taz6, .int X.2.1.1.1.2.2.2])), (taz1, .inl (0, 108, .inl X.2.1.1.1.1)), (taz2, .inl (0, 108, .inl X.2.1.1.2)), (taz3, .inl (0, 108, .inl X.2.1.1.1.2.1)), (taz4, .inl (0, 108, .inl X.2.1.1.1.2.2.1)), (taz5, .inl (0, 108, .inl X.2.1.2.1)), (taz6, .inl (0, 108, .inl X.2.1.2.2)), (ta4, .inl (2, 108, .inl X.2.2.1)), (ta5, .inl (2, 108, .inl X.2.2.2.1)), (ta6, .inl (0, 108, .inl (fun k => nI (X.2.2.2.2 k))))]) (is := [1, 2, 3, 4, 5, 6, 7, 8, 9, 10, 11, 12, 13]) (q0 := 1) rfl rfl ln_Ip_162 w_im_Tr_freeze w_se_Tr_freeze ok_Ip_lastPlace_Tr_freeze d_Ip_lastPlace_9 (X_freeze g ta ta1 ta2 taz taz1 taz2 taz3 taz4 taz5 taz6 ta4 ta5 ta6 h X) rfl rfl (Nat.le_of_ble_eq_true rfl) rfl (by decide) (by omega) (by omega) (fun E cs1 hx => ?_) (fun v cs1 hx => ?_)
    · exact absurd hx.1 (by simp)
    · obtain ⟨e1, rfl⟩ := hx
      cases e1
      refine ⟨rfl, ?_⟩
      refine r_st (st2 := []) rfl ?_
      refine r_cs (cs2 := [(a, .inr (11, [.ref pa, .ref ta, .ref sa, .ref gs, .ref co, .ref fu, .ref la, .ref gy, .ref du, .ref re, .ref wm, .ref ac])), (ta, .inr (10, [.ref ta1, .ref ta2, .ref taz, .ref ta4, .ref ta5, .ref ta6, .int ((frT h X).1.2.2.1), .int ((frT h X).1.2.2.2)])), (ta1, .inl (1, 108, .inl ((frT h X).1.1))), (ta2, .inl (0, 108, .inl ((frT h X).1.2.1))), (taz, .inr (2, [.ref taz1, .ref taz2, .ref taz3, .ref taz4, .ref taz5, .ref taz6, .int ((frT h X).2.1.1.1.2.2.2)])), (taz1, .inl (0, 108, .inl ((frT h X).2.1.1.1.1))), (taz2, .inl (0, 108, .inl ((frT h X).2.1.1.2))), (taz3, .inl (0, 108, .inl ((frT h X).2.1.1.1.2.1))), (taz4, .inl (0, 108, .inl ((frT h X).2.1.1.1.2.2.1))), (taz5, .inl (0, 108, .inl ((frT h X).2.1.2.1))), (taz6, .inl (0, 108, .inl ((frT h X).2.1.2.2))), (ta4, .inl (2, 108, .inl ((frT h X).2.2.1))), (ta5, .inl (2, 108, .inl ((frT h X).2.2.2.1))), (ta6, .inl (0, 108, .inl (fun k => nI ((frT h X).2.2.2.2 k))))]) rfl ?_
      refine r_aload_n d_Ip_lastPlace_12 rfl 0 rfl ?_
      refine r_get fs_Ip_19 d_Ip_lastPlace_13 (q0 := 0) rfl rfl ?_
      refine r_callV (As := []) (rest := []) (csC := [(ta, .inr (10, [.ref ta1, .ref ta2, .ref taz, .ref ta4, .ref ta5, .ref ta6, .int ((frT h X).1.2.2.1), .int ((frT h X).1.2.2.2)])), (ta1, .inl (1, 108, .inl ((frT h X).1.1))), (ta2, .inl (0, 108, .inl ((frT h X).1.2.1))), (taz, .inr (2, [.ref taz1, .ref taz2, .ref taz3, .ref taz4, .ref taz5, .ref taz6, .int ((frT h X).2.1.1.1.2.2.2)])), (taz4, .inl (0, 108, .inl ((frT h X).2.1.1.1.2.2.1))), (ta4, .inl (2, 108, .inl ((frT h X).2.2.1))), (ta5, .inl (2, 108, .inl ((frT h X).2.2.2.1))), (ta6, .inl (0, 108, .inl (fun k => nI ((frT h X).2.2.2.2 k))))]) (is := [1, 2, 3, 4, 8, 11, 12, 13]) (q0 := 1) rfl rfl ln_Ip_193 w_im_Tr_lastFrozen w_se_Tr_lastFrozen ok_Ip_lastPlace_Tr_lastFrozen d_Ip_lastPlace_16 (X_lastFrozen g ta ta1 ta2 taz taz1 taz2 taz3 taz4 taz5 taz6 ta4 ta5 ta6 (frT h X)) rfl rfl (Nat.le_of_ble_eq_true rfl) rfl (by decide) (by omega) (by omega) (fun E cs1 hx => ?_) (fun v cs1 hx => ?_)
      · exact absurd hx.1 (by simp)
      · obtain ⟨e1, rfl⟩ := hx
        cases e1
        refine ⟨rfl, ?_⟩
        refine r_st (st2 := [.int (lfX (frT h X))]) rfl ?_
        refine r_cs (cs2 := [(a, .inr (11, [.ref pa, .ref ta, .ref sa, .ref gs, .ref co, .ref fu, .ref la, .ref gy, .ref du, .ref re, .ref wm, .ref ac])), (ta, .inr (10, [.ref ta1, .ref ta2, .ref taz, .ref ta4, .ref ta5, .ref ta6, .int ((frT h X).1.2.2.1), .int ((frT h X).1.2.2.2)])), (ta1, .inl (1, 108, .inl ((frT h X).1.1))), (ta2, .inl (0, 108, .inl ((frT h X).1.2.1))), (taz, .inr (2, [.ref taz1, .ref taz2, .ref taz3, .ref taz4, .ref taz5, .ref taz6, .int ((frT h X).2.1.1.1.2.2.2)])), (taz1, .inl (0, 108, .inl ((frT h X).2.1.1.1.1))), (taz2, .inl (0, 108, .inl ((frT h X).2.1.1.2))), (taz3, .inl (0, 108, .inl ((frT h X).2.1.1.1.2.1))), (taz4, .inl (0, 108, .inl ((frT h X).2.1.1.1.2.2.1))), (taz5, .inl (0, 108, .inl ((frT h X).2.1.2.1))), (taz6, .inl (0, 108, .inl ((frT h X).2.1.2.2))), (ta4, .inl (2, 108, .inl ((frT h X).2.2.1))), (ta5, .inl (2, 108, .inl ((frT h X).2.2.2.1))), (ta6, .inl (0, 108, .inl (fun k => nI ((frT h X).2.2.2.2 k))))]) rfl ?_
        refine r_istore_n (lv' := [(2, .int (lfX (frT h X))), (0, .ref a), (1, .int h)]) d_Ip_lastPlace_19 rfl (by decide) rfl ?_
        refine r_iload_n d_Ip_lastPlace_20 rfl 0 rfl ?_
        refine r_if_ge (tgt := 34) d_Ip_lastPlace_21 (by decide) (fun c_21 => ?_) (fun c_21 => ?_)
        · refine r_iload_n d_Ip_lastPlace_34 rfl 0 rfl ?_
          refine r_iret d_Ip_lastPlace_35 rfl rfl ?_
          exact ⟨rfl, rfl⟩
        · exact absurd (Int32.not_le.mp c_21) hl
theorem d_Ip_shrunkAnew_4 : decode prog_1_method_15_code 4 = .ok (.aload_n 0, 1) := zo_42 (zd_b zq_prog_1_method_15_code_0 4 rfl rfl rfl)
theorem d_Ip_shrunkAnew_5 : decode prog_1_method_15_code 5 = .ok (.getfield 19, 3) := zo_180 (d := 0) (e := 19) (zd_b zq_prog_1_method_15_code_0 5 rfl rfl rfl) (zd_b zq_prog_1_method_15_code_0 6 rfl rfl rfl) (zd_b zq_prog_1_method_15_code_0 7 rfl rfl rfl)
theorem d_Ip_shrunkAnew_8 : decode prog_1_method_15_code 8 = .ok (.iload_n 1, 1) := zo_27 (zd_b zq_prog_1_method_15_code_0 8 rfl rfl rfl)
theorem d_Ip_shrunkAnew_9 : decode prog_1_method_15_code 9 = .ok (.invokevirtual 162, 3) := zo_182 (d := 0) (e := 162) (zd_b zq_prog_1_method_15_code_0 9 rfl rfl rfl) (zd_b zq_prog_1_method_15_code_0 10 rfl rfl rfl) (zd_b zq_prog_1_method_15_code_0 11 rfl rfl rfl)
theorem ok_Ip_shrunkAnew_Tr_freeze : z_ok M_Ip_shrunkAnew M_Tr_freeze 1 := ⟨z_mj2 (i := 208) rfl (by decide +kernel), rfl, ⟨by decide +kernel, by decide +kernel, by decide +kernel⟩, ⟨by decide, by decide⟩, z_mj1 (i := 3) rfl (by decide +kernel), rfl⟩
theorem d_Ip_shrunkAnew_12 : decode prog_1_method_15_code 12 = .ok (.aload_n 0, 1) := zo_42 (zd_b zq_prog_1_method_15_code_0 12 rfl rfl rfl)
theorem d_Ip_shrunkAnew_13 : decode prog_1_method_15_code 13 = .ok (.getfield 19, 3) := zo_180 (d := 0) (e := 19) (zd_b zq_prog_1_method_15_code_0 13 rfl rfl rfl) (zd_b zq_prog_1_method_15_code_0 14 rfl rfl rfl) (zd_b zq_prog_1_method_15_code_0 15 rfl rfl rfl)
theorem d_Ip_shrunkAnew_16 : decode prog_1_method_15_code 16 = .ok (.invokevirtual 190, 3) := zo_182 (d := 0) (e := 190) (zd_b zq_prog_1_method_15_code_0 16 rfl rfl rfl) (zd_b zq_prog_1_method_15_code_0 17 rfl rfl rfl) (zd_b zq_prog_1_method_15_code_0 18 rfl rfl rfl)
theorem ok_Ip_shrunkAnew_Tr_cellsWithoutWay : z_ok M_Ip_shrunkAnew M_Tr_cellsWithoutWay 0 := ⟨z_mj4 (i := 139) rfl (by decide +kernel), rfl, ⟨by decide +kernel, by decide +kernel, by decide +kernel⟩, ⟨by decide, by decide⟩, z_mj1 (i := 3) rfl (by decide +kernel), rfl⟩
theorem ln_Ip_190 : Cond.methodLink "Ironpour" 190 M_Tr_cellsWithoutWay.1 ∈ z_gw := z_mj4 (i := 136) rfl (by decide +kernel)
theorem w_im_Tr_cellsWithoutWay : Cond.instanceMethod M_Tr_cellsWithoutWay.1 ∈ z_gw := z_mj4 (i := 137) rfl (by decide +kernel)
theorem w_se_Tr_cellsWithoutWay : Cond.selects M_Tr_cellsWithoutWay.1.cls M_Tr_cellsWithoutWay.1 M_Tr_cellsWithoutWay.1 ∈ z_gw := z_mj4 (i := 138) rfl (by decide +kernel)
theorem d_Ip_shrunkAnew_19 : decode prog_1_method_15_code 19 = .ok (.ireturn, 1) := zo_172 (zd_b zq_prog_1_method_15_code_0 19 rfl rfl rfl)
set_option maxHeartbeats 4000000 in
set_option maxRecDepth 100000 in
theorem C_Ip_shrunkAnewN (g : zG) (a pa ta sa gs co fu la gy du re wm ac : Nat) (ta1 ta2 taz taz1 taz2 taz3 taz4 taz5 taz6 ta4 ta5 ta6 : Nat) (X : zTr) (h : Int32) (hh : 1200 ≤ h ∧ h ≤ 1500) : CT g M_Ip_shrunkAnew [.ref a, .int h] [(a, .inr (11, [.ref pa, .ref ta, .ref sa, .ref gs, .ref co, .ref fu, .ref la, .ref gy, .ref du, .ref re, .ref wm, .ref ac])), (ta, .inr (10, [.ref ta1, .ref ta2, .ref taz, .ref ta4, .ref ta5, .ref ta6, .int X.1.2.2.1, .int X.1.2.2.2])), (ta1, .inl (1, 108, .inl X.1.1)), (ta2, .inl (0, 108, .inl X.1.2.1)), (taz, .inr (2, [.ref taz1, .ref taz2, .ref taz3, .ref taz4, .ref taz5, .ref taz6, .int X.2.1.1.1.2.2.2])), (taz1, .inl (0, 108, .inl X.2.1.1.1.1)), (taz2, .inl (0, 108, .inl X.2.1.1.2)), (taz3, .inl (0, 108, .inl X.2.1.1.1.2.1)), (taz4, .inl (0, 108, .inl X.2.1.1.1.2.2.1)), (taz5, .inl (0, 108, .inl X.2.1.2.1)), (taz6, .inl (0, 108, .inl X.2.1.2.2)), (ta4, .inl (2, 108, .inl X.2.2.1)), (ta5, .inl (2, 108, .inl X.2.2.2.1)), (ta6, .inl (0, 108, .inl (fun k => nI (X.2.2.2.2 k))))] (fun o cs1 => o = .inl (some (.int (nI (cwX (frT h X)).2.2))) ∧ cs1 = [(a, .inr (11, [.ref pa, .ref ta, .ref sa, .ref gs, .ref co, .ref fu, .ref la, .ref gy, .ref du, .ref re, .ref wm, .ref ac])), (ta, .inr (10, [.ref ta1, .ref ta2, .ref taz, .ref ta4, .ref ta5, .ref ta6, .int ((swT (frT h X) (cwX (frT h X)).1 (cwX (frT h X)).2.1).1.2.2.1), .int ((swT (frT h X) (cwX (frT h X)).1 (cwX (frT h X)).2.1).1.2.2.2)])), (ta1, .inl (1, 108, .inl ((swT (frT h X) (cwX (frT h X)).1 (cwX (frT h X)).2.1).1.1))), (ta2, .inl (0, 108, .inl ((swT (frT h X) (cwX (frT h X)).1 (cwX (frT h X)).2.1).1.2.1))), (taz, .inr (2, [.ref taz1, .ref taz2, .ref taz3, .ref taz4, .ref taz5, .ref taz6, .int ((swT (frT h X) (cwX (frT h X)).1 (cwX (frT h X)).2.1).2.1.1.1.2.2.2)])), (taz1, .inl (0, 108, .inl ((swT (frT h X) (cwX (frT h X)).1 (cwX (frT h X)).2.1).2.1.1.1.1))), (taz2, .inl (0, 108, .inl ((swT (frT h X) (cwX (frT h X)).1 (cwX (frT h X)).2.1).2.1.1.2))), (taz3, .inl (0, 108, .inl ((swT (frT h X) (cwX (frT h X)).1 (cwX (frT h X)).2.1).2.1.1.1.2.1))), (taz4, .inl (0, 108, .inl ((swT (frT h X) (cwX (frT h X)).1 (cwX (frT h X)).2.1).2.1.1.1.2.2.1))), (taz5, .inl (0, 108, .inl ((swT (frT h X) (cwX (frT h X)).1 (cwX (frT h X)).2.1).2.1.2.1))), (taz6, .inl (0, 108, .inl ((swT (frT h X) (cwX (frT h X)).1 (cwX (frT h X)).2.1).2.1.2.2))), (ta4, .inl (2, 108, .inl ((swT (frT h X) (cwX (frT h X)).1 (cwX (frT h X)).2.1).2.2.1))), (ta5, .inl (2, 108, .inl ((swT (frT h X) (cwX (frT h X)).1 (cwX (frT h X)).2.1).2.2.2.1))), (ta6, .inl (0, 108, .inl (fun k => nI ((swT (frT h X) (cwX (frT h X)).1 (cwX (frT h X)).2.1).2.2.2.2 k))))]) 1 6 := by
  refine z_of (by decide) rfl (Nat.le_of_ble_eq_true rfl) (fun w0 => ?_)
  refine r_lvE (lv2 := [(0, .ref a), (1, .int h)]) rfl ?_
  refine r_iload_n d_Ip_shrunkAnew_0 rfl 1 rfl ?_
  refine r_callS (As := [.int h]) (rest := []) (csC := []) (is := []) ln_Ip_158 w_st_Ip_checkHeat ok_Ip_shrunkAnew_Ip_checkHeat d_Ip_shrunkAnew_1 (C_Ip_checkHeat g h) rfl rfl (Nat.le_of_ble_eq_true rfl) rfl (by decide) (by omega) (by omega) (fun E cs1 hx => ?_) (fun v cs1 hx => ?_)
  · simp only [if_pos hh] at hx
    exact absurd hx.1 (by simp)
  · simp only [if_pos hh] at hx
    obtain ⟨e1, rfl⟩ := hx
    cases e1
    refine ⟨rfl, ?_⟩
    refine r_st (st2 := []) rfl ?_
    refine r_cs (cs2 := [(a, .inr (11, [.ref pa, .ref ta, .ref sa, .ref gs, .ref co, .ref fu, .ref la, .ref gy, .ref du, .ref re, .ref wm, .ref ac])), (ta, .inr (10, [.ref ta1, .ref ta2, .ref taz, .ref ta4, .ref ta5, .ref ta6, .int X.1.2.2.1, .int X.1.2.2.2])), (ta1, .inl (1, 108, .inl X.1.1)), (ta2, .inl (0, 108, .inl X.1.2.1)), (taz, .inr (2, [.ref taz1, .ref taz2, .ref taz3, .ref taz4, .ref taz5, .ref taz6, .int X.2.1.1.1.2.2.2])), (taz1, .inl (0, 108, .inl X.2.1.1.1.1)), (taz2, .inl (0, 108, .inl X.2.1.1.2)), (taz3, .inl (0, 108, .inl X.2.1.1.1.2.1)), (taz4, .inl (0, 108, .inl X.2.1.1.1.2.2.1)), (taz5, .inl (0, 108, .inl X.2.1.2.1)), (taz6, .inl (0, 108, .inl X.2.1.2.2)), (ta4, .inl (2, 108, .inl X.2.2.1)), (ta5, .inl (2, 108, .inl X.2.2.2.1)), (ta6, .inl (0, 108, .inl (fun k => nI (X.2.2.2.2 k))))]) rfl ?_
    refine r_aload_n d_Ip_shrunkAnew_4 rfl 0 rfl ?_
    refine r_get fs_Ip_19 d_Ip_shrunkAnew_5 (q0 := 0) rfl rfl ?_
    refine r_iload_n d_Ip_shrunkAnew_8 rfl 1 rfl ?_
    refine r_callV (As := [.int h]) (rest := []) (csC := [(ta, .inr (10, [.ref ta1, .ref ta2, .ref taz, .ref ta4, .ref ta5, .ref ta6, .int X.1.2.2.1, .int X.1.2.2.2])), (ta1, .inl (1, 108, .inl X.1.1)), (ta2, .inl (0, 108, .inl X.1.2.1)), (taz, .inr (2, [.ref taz1, .ref taz2, .ref taz3, .ref taz4, .ref taz5, .ref taz6, .int X.2.1.1.1.2.2.2])), (taz1, .inl (0, 108, .inl X.2.1.1.1.1)), (taz2, .inl (0, 108, .inl X.2.1.1.2)), (taz3, .inl (0, 108, .inl X.2.1.1.1.2.1)), (taz4, .inl (0, 108, .inl X.2.1.1.1.2.2.1)), (taz5, .inl (0, 108, .inl X.2.1.2.1)), (taz6, .inl (0, 108, .inl X.2.1.2.2)), (ta4, .inl (2, 108, .inl X.2.2.1)), (ta5, .inl (2, 108, .inl X.2.2.2.1)), (ta6, .inl (0, 108, .inl (fun k => nI (X.2.2.2.2 k))))]) (is := [1, 2, 3, 4, 5, 6, 7, 8, 9, 10, 11, 12, 13]) (q0 := 1) rfl rfl ln_Ip_162 w_im_Tr_freeze w_se_Tr_freeze ok_Ip_shrunkAnew_Tr_freeze d_Ip_shrunkAnew_9 (X_freeze g ta ta1 ta2 taz taz1 taz2 taz3 taz4 taz5 taz6 ta4 ta5 ta6 h X) rfl rfl (Nat.le_of_ble_eq_true rfl) rfl (by decide) (by omega) (by omega) (fun E cs1 hx => ?_) (fun v cs1 hx => ?_)
    · exact absurd hx.1 (by simp)
    · obtain ⟨e1, rfl⟩ := hx
      cases e1
      refine ⟨rfl, ?_⟩
      refine r_st (st2 := []) rfl ?_
      refine r_cs (cs2 := [(a, .inr (11, [.ref pa, .ref ta, .ref sa, .ref gs, .ref co, .ref fu, .ref la, .ref gy, .ref du, .ref re, .ref wm, .ref ac])), (ta, .inr (10, [.ref ta1, .ref ta2, .ref taz, .ref ta4, .ref ta5, .ref ta6, .int ((frT h X).1.2.2.1), .int ((frT h X).1.2.2.2)])), (ta1, .inl (1, 108, .inl ((frT h X).1.1))), (ta2, .inl (0, 108, .inl ((frT h X).1.2.1))), (taz, .inr (2, [.ref taz1, .ref taz2, .ref taz3, .ref taz4, .ref taz5, .ref taz6, .int ((frT h X).2.1.1.1.2.2.2)])), (taz1, .inl (0, 108, .inl ((frT h X).2.1.1.1.1))), (taz2, .inl (0, 108, .inl ((frT h X).2.1.1.2))), (taz3, .inl (0, 108, .inl ((frT h X).2.1.1.1.2.1))), (taz4, .inl (0, 108, .inl ((frT h X).2.1.1.1.2.2.1))), (taz5, .inl (0, 108, .inl ((frT h X).2.1.2.1))), (taz6, .inl (0, 108, .inl ((frT h X).2.1.2.2))), (ta4, .inl (2, 108, .inl ((frT h X).2.2.1))), (ta5, .inl (2, 108, .inl ((frT h X).2.2.2.1))), (ta6, .inl (0, 108, .inl (fun k => nI ((frT h X).2.2.2.2 k))))]) rfl ?_
      refine r_aload_n d_Ip_shrunkAnew_12 rfl 0 rfl ?_
      refine r_get fs_Ip_19 d_Ip_shrunkAnew_13 (q0 := 0) rfl rfl ?_
      refine r_callV (As := []) (rest := []) (csC := [(ta, .inr (10, [.ref ta1, .ref ta2, .ref taz, .ref ta4, .ref ta5, .ref ta6, .int ((frT h X).1.2.2.1), .int ((frT h X).1.2.2.2)])), (ta1, .inl (1, 108, .inl ((frT h X).1.1))), (ta2, .inl (0, 108, .inl ((frT h X).1.2.1))), (taz, .inr (2, [.ref taz1, .ref taz2, .ref taz3, .ref taz4, .ref taz5, .ref taz6, .int ((frT h X).2.1.1.1.2.2.2)])), (taz4, .inl (0, 108, .inl ((frT h X).2.1.1.1.2.2.1))), (ta4, .inl (2, 108, .inl ((frT h X).2.2.1))), (ta5, .inl (2, 108, .inl ((frT h X).2.2.2.1))), (ta6, .inl (0, 108, .inl (fun k => nI ((frT h X).2.2.2.2 k))))]) (is := [1, 2, 3, 4, 8, 11, 12, 13]) (q0 := 1) rfl rfl ln_Ip_190 w_im_Tr_cellsWithoutWay w_se_Tr_cellsWithoutWay ok_Ip_shrunkAnew_Tr_cellsWithoutWay d_Ip_shrunkAnew_16 (X_cellsWithoutWay g ta ta1 ta2 taz taz1 taz2 taz3 taz4 taz5 taz6 ta4 ta5 ta6 (frT h X)) rfl rfl (Nat.le_of_ble_eq_true rfl) rfl (by decide) (by omega) (by omega) (fun E cs1 hx => ?_) (fun v cs1 hx => ?_)
      · exact absurd hx.1 (by simp)
      · obtain ⟨e1, rfl⟩ := hx
        cases e1
        refine ⟨rfl, ?_⟩
        refine r_st (st2 := [.int (nI (cwX (frT h X)).2.2)]) rfl ?_
        refine r_cs (cs2 := [(a, .inr (11, [.ref pa, .ref ta, .ref sa, .ref gs, .ref co, .ref fu, .ref la, .ref gy, .ref du, .ref re, .ref wm, .ref ac])), (ta, .inr (10, [.ref ta1, .ref ta2, .ref taz, .ref ta4, .ref ta5, .ref ta6, .int ((swT (frT h X) (cwX (frT h X)).1 (cwX (frT h X)).2.1).1.2.2.1), .int ((swT (frT h X) (cwX (frT h X)).1 (cwX (frT h X)).2.1).1.2.2.2)])), (ta1, .inl (1, 108, .inl ((swT (frT h X) (cwX (frT h X)).1 (cwX (frT h X)).2.1).1.1))), (ta2, .inl (0, 108, .inl ((swT (frT h X) (cwX (frT h X)).1 (cwX (frT h X)).2.1).1.2.1))), (taz, .inr (2, [.ref taz1, .ref taz2, .ref taz3, .ref taz4, .ref taz5, .ref taz6, .int ((swT (frT h X) (cwX (frT h X)).1 (cwX (frT h X)).2.1).2.1.1.1.2.2.2)])), (taz1, .inl (0, 108, .inl ((frT h X).2.1.1.1.1))), (taz2, .inl (0, 108, .inl ((frT h X).2.1.1.2))), (taz3, .inl (0, 108, .inl ((frT h X).2.1.1.1.2.1))), (taz4, .inl (0, 108, .inl ((swT (frT h X) (cwX (frT h X)).1 (cwX (frT h X)).2.1).2.1.1.1.2.2.1))), (taz5, .inl (0, 108, .inl ((frT h X).2.1.2.1))), (taz6, .inl (0, 108, .inl ((frT h X).2.1.2.2))), (ta4, .inl (2, 108, .inl ((swT (frT h X) (cwX (frT h X)).1 (cwX (frT h X)).2.1).2.2.1))), (ta5, .inl (2, 108, .inl ((swT (frT h X) (cwX (frT h X)).1 (cwX (frT h X)).2.1).2.2.2.1))), (ta6, .inl (0, 108, .inl (fun k => nI ((swT (frT h X) (cwX (frT h X)).1 (cwX (frT h X)).2.1).2.2.2.2 k))))]) rfl ?_
        refine r_iret d_Ip_shrunkAnew_19 rfl rfl ?_
        exact ⟨rfl, rfl⟩
abbrev M_Ip_draw : zM := (⟨"Ironpour", "draw", "(CIIII)I"⟩, prog_1_method_2_code, 7, (Option.some FieldType.int), 8, 179, [])
theorem d_Ip_draw_0 : decode prog_1_method_2_code 0 = .ok (.ldc 81, 2) := zo_18 (d := 81) (zd_b zq_prog_1_method_2_code_0 0 rfl rfl rfl) (zd_b zq_prog_1_method_2_code_0 1 rfl rfl rfl)
theorem d_Ip_draw_2 : decode prog_1_method_2_code 2 = .ok (.iload_n 1, 1) := zo_27 (zd_b zq_prog_1_method_2_code_0 2 rfl rfl rfl)
theorem d_Ip_draw_3 : decode prog_1_method_2_code 3 = .ok (.invokevirtual 83, 3) := zo_182 (d := 0) (e := 83) (zd_b zq_prog_1_method_2_code_0 3 rfl rfl rfl) (zd_b zq_prog_1_method_2_code_0 4 rfl rfl rfl) (zd_b zq_prog_1_method_2_code_0 5 rfl rfl rfl)
theorem ok_Ip_draw_String_indexOf_0 : z_ok M_Ip_draw M_String_indexOf_0 1 := ⟨z_mj3 (i := 58) rfl (by decide +kernel), rfl, ⟨by decide +kernel, by decide +kernel, by decide +kernel⟩, ⟨by decide, by decide⟩, z_mj1 (i := 15) rfl (by decide +kernel), rfl⟩
theorem ln_Ip_83 : Cond.methodLink "Ironpour" 83 M_String_indexOf_0.1 ∈ z_gw := z_mj3 (i := 55) rfl (by decide +kernel)
theorem w_im_String_indexOf_0 : Cond.instanceMethod M_String_indexOf_0.1 ∈ z_gw := z_mj3 (i := 56) rfl (by decide +kernel)
theorem w_se_String_indexOf_0 : Cond.selects M_String_indexOf_0.1.cls M_String_indexOf_0.1 M_String_indexOf_0.1 ∈ z_gw := z_mj3 (i := 57) rfl (by decide +kernel)
theorem d_Ip_draw_6 : decode prog_1_method_2_code 6 = .ok (.ifCond .ge 13, 3) := zo_156 (d := 0) (e := 13) (zd_b zq_prog_1_method_2_code_0 6 rfl rfl rfl) (zd_b zq_prog_1_method_2_code_0 7 rfl rfl rfl) (zd_b zq_prog_1_method_2_code_0 8 rfl rfl rfl) (by decide +kernel)
theorem d_Ip_draw_19 : decode prog_1_method_2_code 19 = .ok (.iload_n 2, 1) := zo_28 (zd_b zq_prog_1_method_2_code_0 19 rfl rfl rfl)
theorem d_Ip_draw_20 : decode prog_1_method_2_code 20 = .ok (.iload_n 3, 1) := zo_29 (zd_b zq_prog_1_method_2_code_0 20 rfl rfl rfl)
theorem d_Ip_draw_21 : decode prog_1_method_2_code 21 = .ok (.invokestatic 96, 3) := zo_184 (d := 0) (e := 96) (zd_b zq_prog_1_method_2_code_0 21 rfl rfl rfl) (zd_b zq_prog_1_method_2_code_0 22 rfl rfl rfl) (zd_b zq_prog_1_method_2_code_0 23 rfl rfl rfl)
theorem ok_Ip_draw_Ip_isCell : z_ok M_Ip_draw M_Ip_isCell 2 := ⟨z_mj3 (i := 215) rfl (by decide +kernel), rfl, ⟨by decide +kernel, by decide +kernel, by decide +kernel⟩, ⟨by decide, by decide⟩, z_mj1 (i := 1) rfl (by decide +kernel), rfl⟩
theorem d_Ip_draw_24 : decode prog_1_method_2_code 24 = .ok (.ifCond .eq 33, 3) := zo_153 (d := 0) (e := 33) (zd_b zq_prog_1_method_2_code_0 24 rfl rfl rfl) (zd_b zq_prog_1_method_2_code_0 25 rfl rfl rfl) (zd_b zq_prog_1_method_2_code_0 26 rfl rfl rfl) (by decide +kernel)
theorem d_Ip_draw_57 : decode prog_1_method_2_code 57 = .ok (.new 89, 3) := zo_187 (d := 0) (e := 89) (zd_b zq_prog_1_method_2_code_1 25 rfl rfl rfl) (zd_b zq_prog_1_method_2_code_1 26 rfl rfl rfl) (zd_b zq_prog_1_method_2_code_1 27 rfl rfl rfl)
theorem sr_Ip_100 : Cond.stringRef "Ironpour" 100 "not all within the pattern" ∈ lw_tbl := z_tb3 (i := 216) rfl
theorem d_Ip_draw_60 : decode prog_1_method_2_code 60 = .ok (.dup, 1) := zo_89 (zd_b zq_prog_1_method_2_code_1 28 rfl rfl rfl)
theorem d_Ip_draw_61 : decode prog_1_method_2_code 61 = .ok (.ldc 100, 2) := zo_18 (d := 100) (zd_b zq_prog_1_method_2_code_1 29 rfl rfl rfl) (zd_b zq_prog_1_method_2_code_1 30 rfl rfl rfl)
theorem d_Ip_draw_63 : decode prog_1_method_2_code 63 = .ok (.invokespecial 93, 3) := zo_183 (d := 0) (e := 93) (zd_b zq_prog_1_method_2_code_1 31 rfl rfl rfl) (zd_b zq_prog_1_method_2_code_2 0 rfl rfl rfl) (zd_b zq_prog_1_method_2_code_2 1 rfl rfl rfl)
theorem d_Ip_draw_66 : decode prog_1_method_2_code 66 = .ok (.athrow, 1) := zo_191 (zd_b zq_prog_1_method_2_code_2 2 rfl rfl rfl)
theorem d_Ip_draw_27 : decode prog_1_method_2_code 27 = .ok (.iload 4, 2) := zo_21 (d := 4) (zd_b zq_prog_1_method_2_code_0 27 rfl rfl rfl) (zd_b zq_prog_1_method_2_code_0 28 rfl rfl rfl)
theorem d_Ip_draw_29 : decode prog_1_method_2_code 29 = .ok (.iconst 1, 1) := zo_4 (zd_b zq_prog_1_method_2_code_0 29 rfl rfl rfl)
theorem d_Ip_draw_30 : decode prog_1_method_2_code 30 = .ok (.if_icmp .lt 27, 3) := zo_161 (d := 0) (e := 27) (zd_b zq_prog_1_method_2_code_0 30 rfl rfl rfl) (zd_b zq_prog_1_method_2_code_0 31 rfl rfl rfl) (zd_b zq_prog_1_method_2_code_1 0 rfl rfl rfl) (by decide +kernel)
theorem d_Ip_draw_33 : decode prog_1_method_2_code 33 = .ok (.iload 4, 2) := zo_21 (d := 4) (zd_b zq_prog_1_method_2_code_1 1 rfl rfl rfl) (zd_b zq_prog_1_method_2_code_1 2 rfl rfl rfl)
theorem d_Ip_draw_35 : decode prog_1_method_2_code 35 = .ok (.bipush 12, 2) := zo_16 (d := 12) (zd_b zq_prog_1_method_2_code_1 3 rfl rfl rfl) (zd_b zq_prog_1_method_2_code_1 4 rfl rfl rfl) (by decide +kernel)
theorem d_Ip_draw_37 : decode prog_1_method_2_code 37 = .ok (.iload_n 2, 1) := zo_28 (zd_b zq_prog_1_method_2_code_1 5 rfl rfl rfl)
theorem d_Ip_draw_38 : decode prog_1_method_2_code 38 = .ok (.isub, 1) := zo_100 (zd_b zq_prog_1_method_2_code_1 6 rfl rfl rfl)
theorem d_Ip_draw_39 : decode prog_1_method_2_code 39 = .ok (.if_icmp .gt 18, 3) := zo_163 (d := 0) (e := 18) (zd_b zq_prog_1_method_2_code_1 7 rfl rfl rfl) (zd_b zq_prog_1_method_2_code_1 8 rfl rfl rfl) (zd_b zq_prog_1_method_2_code_1 9 rfl rfl rfl) (by decide +kernel)
theorem d_Ip_draw_42 : decode prog_1_method_2_code 42 = .ok (.iload 5, 2) := zo_21 (d := 5) (zd_b zq_prog_1_method_2_code_1 10 rfl rfl rfl) (zd_b zq_prog_1_method_2_code_1 11 rfl rfl rfl)
theorem d_Ip_draw_44 : decode prog_1_method_2_code 44 = .ok (.iconst 1, 1) := zo_4 (zd_b zq_prog_1_method_2_code_1 12 rfl rfl rfl)
theorem d_Ip_draw_45 : decode prog_1_method_2_code 45 = .ok (.if_icmp .lt 12, 3) := zo_161 (d := 0) (e := 12) (zd_b zq_prog_1_method_2_code_1 13 rfl rfl rfl) (zd_b zq_prog_1_method_2_code_1 14 rfl rfl rfl) (zd_b zq_prog_1_method_2_code_1 15 rfl rfl rfl) (by decide +kernel)
theorem d_Ip_draw_48 : decode prog_1_method_2_code 48 = .ok (.iload 5, 2) := zo_21 (d := 5) (zd_b zq_prog_1_method_2_code_1 16 rfl rfl rfl) (zd_b zq_prog_1_method_2_code_1 17 rfl rfl rfl)
theorem d_Ip_draw_50 : decode prog_1_method_2_code 50 = .ok (.bipush 9, 2) := zo_16 (d := 9) (zd_b zq_prog_1_method_2_code_1 18 rfl rfl rfl) (zd_b zq_prog_1_method_2_code_1 19 rfl rfl rfl) (by decide +kernel)
theorem d_Ip_draw_52 : decode prog_1_method_2_code 52 = .ok (.iload_n 3, 1) := zo_29 (zd_b zq_prog_1_method_2_code_1 20 rfl rfl rfl)
theorem d_Ip_draw_53 : decode prog_1_method_2_code 53 = .ok (.isub, 1) := zo_100 (zd_b zq_prog_1_method_2_code_1 21 rfl rfl rfl)
theorem d_Ip_draw_54 : decode prog_1_method_2_code 54 = .ok (.if_icmp .le 13, 3) := zo_164 (d := 0) (e := 13) (zd_b zq_prog_1_method_2_code_1 22 rfl rfl rfl) (zd_b zq_prog_1_method_2_code_1 23 rfl rfl rfl) (zd_b zq_prog_1_method_2_code_1 24 rfl rfl rfl) (by decide +kernel)
theorem d_Ip_draw_9 : decode prog_1_method_2_code 9 = .ok (.new 89, 3) := zo_187 (d := 0) (e := 89) (zd_b zq_prog_1_method_2_code_0 9 rfl rfl rfl) (zd_b zq_prog_1_method_2_code_0 10 rfl rfl rfl) (zd_b zq_prog_1_method_2_code_0 11 rfl rfl rfl)
theorem sr_Ip_91 : Cond.stringRef "Ironpour" 91 "no such kind of cell" ∈ lw_tbl := z_tb3 (i := 186) rfl
theorem d_Ip_draw_12 : decode prog_1_method_2_code 12 = .ok (.dup, 1) := zo_89 (zd_b zq_prog_1_method_2_code_0 12 rfl rfl rfl)
theorem d_Ip_draw_13 : decode prog_1_method_2_code 13 = .ok (.ldc 91, 2) := zo_18 (d := 91) (zd_b zq_prog_1_method_2_code_0 13 rfl rfl rfl) (zd_b zq_prog_1_method_2_code_0 14 rfl rfl rfl)
theorem d_Ip_draw_15 : decode prog_1_method_2_code 15 = .ok (.invokespecial 93, 3) := zo_183 (d := 0) (e := 93) (zd_b zq_prog_1_method_2_code_0 15 rfl rfl rfl) (zd_b zq_prog_1_method_2_code_0 16 rfl rfl rfl) (zd_b zq_prog_1_method_2_code_0 17 rfl rfl rfl)
theorem d_Ip_draw_18 : decode prog_1_method_2_code 18 = .ok (.athrow, 1) := zo_191 (zd_b zq_prog_1_method_2_code_0 18 rfl rfl rfl)
set_option maxHeartbeats 4000000 in
set_option maxRecDepth 100000 in
theorem C_Ip_drawE (g : zG) (a pa ta sa gs co fu la gy du re wm ac : Nat) (pa1 pa2 pa3 : Nat) (f sn : Nat → Int32) (qn : Nat → Nat) (p : Nat) (k x y w v : Int32) (hd : ¬ (0 ≤ z_ix 0 k ∧ (0 ≤ x ∧ x < 12 ∧ 0 ≤ y ∧ y < 9) ∧ 1 ≤ w ∧ w ≤ 12 - x ∧ 1 ≤ v ∧ v ≤ 9 - y)) : CT g M_Ip_draw [.ref a, .int k, .int x, .int y, .int w, .int v] [(a, .inr (11, [.ref pa, .ref ta, .ref sa, .ref gs, .ref co, .ref fu, .ref la, .ref gy, .ref du, .ref re, .ref wm, .ref ac])), (pa, .inr (8, [.ref pa1, .ref pa2, .ref pa3, .int (nI p)])), (pa1, .inl (1, 108, .inl f)), (pa2, .inl (2, 108, .inl sn)), (pa3, .inl (0, 108, .inl (fun k => nI (qn k))))] (fun o cs1 => o = .inr "java/lang/IllegalArgumentException" ∧ cs1 = [(a, .inr (11, [.ref pa, .ref ta, .ref sa, .ref gs, .ref co, .ref fu, .ref la, .ref gy, .ref du, .ref re, .ref wm, .ref ac])), (pa, .inr (8, [.ref pa1, .ref pa2, .ref pa3, .int (nI p)])), (pa1, .inl (1, 108, .inl f)), (pa2, .inl (2, 108, .inl sn)), (pa3, .inl (0, 108, .inl (fun k => nI (qn k))))]) 1 6 := by
  refine z_of (by decide) rfl (Nat.le_of_ble_eq_true rfl) (fun w0 => ?_)
  refine r_lvE (lv2 := [(0, .ref a), (1, .int k), (2, .int x), (3, .int y), (4, .int w), (5, .int v)]) rfl ?_
  refine r_ldcS (own := "Ironpour") (i := 0) (by decide) d_Ip_draw_0 ?_
  refine r_iload_n d_Ip_draw_2 rfl 1 rfl ?_
  refine r_callVS (As := [.int k]) (rest := []) (csC := []) (is := []) (i := 0) (by first | assumption | decide) rfl ln_Ip_83 w_im_String_indexOf_0 w_se_String_indexOf_0 ok_Ip_draw_String_indexOf_0 d_Ip_draw_3 (C_St_indexOf g 0 (by decide) k) rfl rfl (Nat.le_of_ble_eq_true rfl) rfl (by decide) (by omega) (by omega) (fun E cs1 hx => ?_) (fun v cs1 hx => ?_)
  · exact absurd hx.1 (by simp)
  · obtain ⟨e1, rfl⟩ := hx
    cases e1
    refine ⟨rfl, ?_⟩
    refine r_st (st2 := [.int (z_ix 0 k)]) rfl ?_
    refine r_cs (cs2 := [(a, .inr (11, [.ref pa, .ref ta, .ref sa, .ref gs, .ref co, .ref fu, .ref la, .ref gy, .ref du, .ref re, .ref wm, .ref ac])), (pa, .inr (8, [.ref pa1, .ref pa2, .ref pa3, .int (nI p)])), (pa1, .inl (1, 108, .inl f)), (pa2, .inl (2, 108, .inl sn)), (pa3, .inl (0, 108, .inl (fun k => nI (qn k))))]) rfl ?_
    refine r_if_ge (tgt := 19) d_Ip_draw_6 (by decide) (fun c_6 => ?_) (fun c_6 => ?_)
    · refine r_iload_n d_Ip_draw_19 rfl 2 rfl ?_
      refine r_iload_n d_Ip_draw_20 rfl 3 rfl ?_
      refine r_callS (As := [.int x, .int y]) (rest := []) (csC := []) (is := []) ln_Ip_96 w_st_Ip_isCell ok_Ip_draw_Ip_isCell d_Ip_draw_21 (C_Ip_isCell g x y) rfl rfl (Nat.le_of_ble_eq_true rfl) rfl (by decide) (by omega) (by omega) (fun E cs1 hx => ?_) (fun v cs1 hx => ?_)
      · exact absurd hx.1 (by simp)
      · obtain ⟨e1, rfl⟩ := hx
        cases e1
        refine ⟨rfl, ?_⟩
        refine r_st (st2 := [.int (if 0 ≤ x ∧ x < 12 ∧ 0 ≤ y ∧ y < 9 then 1 else 0)]) rfl ?_
        refine r_cs (cs2 := [(a, .inr (11, [.ref pa, .ref ta, .ref sa, .ref gs, .ref co, .ref fu, .ref la, .ref gy, .ref du, .ref re, .ref wm, .ref ac])), (pa, .inr (8, [.ref pa1, .ref pa2, .ref pa3, .int (nI p)])), (pa1, .inl (1, 108, .inl f)), (pa2, .inl (2, 108, .inl sn)), (pa3, .inl (0, 108, .inl (fun k => nI (qn k))))]) rfl ?_
        refine r_if_eq (tgt := 57) d_Ip_draw_24 (by decide) (fun c_24 => ?_) (fun c_24 => ?_)
        · refine r_throw tb_Ip_89_93 sr_Ip_100 d_Ip_draw_57 d_Ip_draw_60 d_Ip_draw_61 d_Ip_draw_63 d_Ip_draw_66 rfl (by decide) (by decide) (Nat.le_of_ble_eq_true rfl) (by omega) (by omega) ?_
          exact ⟨rfl, rfl⟩
        · refine r_iload d_Ip_draw_27 4 rfl ?_
          refine r_iconst d_Ip_draw_29 (v := 1) (by decide) ?_
          refine r_icmp_lt (tgt := 57) d_Ip_draw_30 (by decide) (fun c_30 => ?_) (fun c_30 => ?_)
          · refine r_throw tb_Ip_89_93 sr_Ip_100 d_Ip_draw_57 d_Ip_draw_60 d_Ip_draw_61 d_Ip_draw_63 d_Ip_draw_66 rfl (by decide) (by decide) (Nat.le_of_ble_eq_true rfl) (by omega) (by omega) ?_
            exact ⟨rfl, rfl⟩
          · refine r_iload d_Ip_draw_33 4 rfl ?_
            refine r_bipush d_Ip_draw_35 (v := 12) (by decide) ?_
            refine r_iload_n d_Ip_draw_37 rfl 2 rfl ?_
            refine r_isub d_Ip_draw_38 (v := 12 - x) rfl ?_
            refine r_icmp_gt (tgt := 57) d_Ip_draw_39 (by decide) (fun c_39 => ?_) (fun c_39 => ?_)
            · refine r_throw tb_Ip_89_93 sr_Ip_100 d_Ip_draw_57 d_Ip_draw_60 d_Ip_draw_61 d_Ip_draw_63 d_Ip_draw_66 rfl (by decide) (by decide) (Nat.le_of_ble_eq_true rfl) (by omega) (by omega) ?_
              exact ⟨rfl, rfl⟩
            · refine r_iload d_Ip_draw_42 5 rfl ?_
              refine r_iconst d_Ip_draw_44 (v := 1) (by decide) ?_
              refine r_icmp_lt (tgt := 57) d_Ip_draw_45 (by decide) (fun c_45 => ?_) (fun c_45 => ?_)
              · refine r_throw tb_Ip_89_93 sr_Ip_100 d_Ip_draw_57 d_Ip_draw_60 d_Ip_draw_61 d_Ip_draw_63 d_Ip_draw_66 rfl (by decide) (by decide) (Nat.le_of_ble_eq_true rfl) (by omega) (by omega) ?_
                exact ⟨rfl, rfl⟩
              · refine r_iload d_Ip_draw_48 5 rfl ?_
                refine r_bipush d_Ip_draw_50 (v := 9) (by decide) ?_
                refine r_iload_n d_Ip_draw_52 rfl 3 rfl ?_
                refine r_isub d_Ip_draw_53 (v := 9 - y) rfl ?_
                refine r_icmp_le (tgt := 67) d_Ip_draw_54 (by decide) (fun c_54 => ?_) (fun c_54 => ?_)
                · exact absurd ⟨c_6, z_b1 c_24, Int32.not_lt.mp c_30, Int32.not_lt.mp c_39, Int32.not_lt.mp c_45, c_54⟩ hd
                · refine r_throw tb_Ip_89_93 sr_Ip_100 d_Ip_draw_57 d_Ip_draw_60 d_Ip_draw_61 d_Ip_draw_63 d_Ip_draw_66 rfl (by decide) (by decide) (Nat.le_of_ble_eq_true rfl) (by omega) (by omega) ?_
                  exact ⟨rfl, rfl⟩
    · refine r_throw tb_Ip_89_93 sr_Ip_91 d_Ip_draw_9 d_Ip_draw_12 d_Ip_draw_13 d_Ip_draw_15 d_Ip_draw_18 rfl (by decide) (by decide) (Nat.le_of_ble_eq_true rfl) (by omega) (by omega) ?_
      exact ⟨rfl, rfl⟩
end
section
theorem z_cellN {x y : Nat} (hx : x < 12) (hy : y < 9) : 0 ≤ nI x ∧ nI x < 12 ∧ 0 ≤ nI y ∧ nI y < 9 :=
  ⟨Int32.not_lt.mp (nI_nneg (by omega)), (nI_ltI (b := 12) (by omega) (by decide)).mpr hx, Int32.not_lt.mp (nI_nneg (by omega)), (nI_ltI (b := 9) (by omega) (by decide)).mpr hy⟩
theorem d_Ip_draw_67 : decode prog_1_method_2_code 67 = .ok (.aload_n 0, 1) := zo_42 (zd_b zq_prog_1_method_2_code_2 3 rfl rfl rfl)
theorem d_Ip_draw_68 : decode prog_1_method_2_code 68 = .ok (.getfield 10, 3) := zo_180 (d := 0) (e := 10) (zd_b zq_prog_1_method_2_code_2 4 rfl rfl rfl) (zd_b zq_prog_1_method_2_code_2 5 rfl rfl rfl) (zd_b zq_prog_1_method_2_code_2 6 rfl rfl rfl)
theorem d_Ip_draw_71 : decode prog_1_method_2_code 71 = .ok (.iload_n 1, 1) := zo_27 (zd_b zq_prog_1_method_2_code_2 7 rfl rfl rfl)
theorem d_Ip_draw_72 : decode prog_1_method_2_code 72 = .ok (.iload_n 2, 1) := zo_28 (zd_b zq_prog_1_method_2_code_2 8 rfl rfl rfl)
theorem d_Ip_draw_73 : decode prog_1_method_2_code 73 = .ok (.iload_n 3, 1) := zo_29 (zd_b zq_prog_1_method_2_code_2 9 rfl rfl rfl)
theorem d_Ip_draw_74 : decode prog_1_method_2_code 74 = .ok (.iload 4, 2) := zo_21 (d := 4) (zd_b zq_prog_1_method_2_code_2 10 rfl rfl rfl) (zd_b zq_prog_1_method_2_code_2 11 rfl rfl rfl)
theorem d_Ip_draw_76 : decode prog_1_method_2_code 76 = .ok (.iload 5, 2) := zo_21 (d := 5) (zd_b zq_prog_1_method_2_code_2 12 rfl rfl rfl) (zd_b zq_prog_1_method_2_code_2 13 rfl rfl rfl)
theorem d_Ip_draw_78 : decode prog_1_method_2_code 78 = .ok (.invokevirtual 102, 3) := zo_182 (d := 0) (e := 102) (zd_b zq_prog_1_method_2_code_2 14 rfl rfl rfl) (zd_b zq_prog_1_method_2_code_2 15 rfl rfl rfl) (zd_b zq_prog_1_method_2_code_2 16 rfl rfl rfl)
theorem ok_Ip_draw_Pa_paint : z_ok M_Ip_draw M_Pa_paint 5 := ⟨z_mj3 (i := 220) rfl (by decide +kernel), rfl, ⟨by decide +kernel, by decide +kernel, by decide +kernel⟩, ⟨by decide, by decide⟩, z_mj1 (i := 2) rfl (by decide +kernel), rfl⟩
theorem ln_Ip_102 : Cond.methodLink "Ironpour" 102 M_Pa_paint.1 ∈ z_gw := z_mj3 (i := 217) rfl (by decide +kernel)
theorem w_im_Pa_paint : Cond.instanceMethod M_Pa_paint.1 ∈ z_gw := z_mj3 (i := 218) rfl (by decide +kernel)
theorem w_se_Pa_paint : Cond.selects M_Pa_paint.1.cls M_Pa_paint.1 M_Pa_paint.1 ∈ z_gw := z_mj3 (i := 219) rfl (by decide +kernel)
theorem d_Ip_draw_81 : decode prog_1_method_2_code 81 = .ok (.istore 6, 2) := zo_54 (d := 6) (zd_b zq_prog_1_method_2_code_2 17 rfl rfl rfl) (zd_b zq_prog_1_method_2_code_2 18 rfl rfl rfl)
theorem d_Ip_draw_83 : decode prog_1_method_2_code 83 = .ok (.iload 6, 2) := zo_21 (d := 6) (zd_b zq_prog_1_method_2_code_2 19 rfl rfl rfl) (zd_b zq_prog_1_method_2_code_2 20 rfl rfl rfl)
theorem d_Ip_draw_85 : decode prog_1_method_2_code 85 = .ok (.ifCond .le 17, 3) := zo_158 (d := 0) (e := 17) (zd_b zq_prog_1_method_2_code_2 21 rfl rfl rfl) (zd_b zq_prog_1_method_2_code_2 22 rfl rfl rfl) (zd_b zq_prog_1_method_2_code_2 23 rfl rfl rfl) (by decide +kernel)
theorem d_Ip_draw_102 : decode prog_1_method_2_code 102 = .ok (.iload 6, 2) := zo_21 (d := 6) (zd_b zq_prog_1_method_2_code_3 6 rfl rfl rfl) (zd_b zq_prog_1_method_2_code_3 7 rfl rfl rfl)
theorem d_Ip_draw_104 : decode prog_1_method_2_code 104 = .ok (.ireturn, 1) := zo_172 (zd_b zq_prog_1_method_2_code_3 8 rfl rfl rfl)
set_option maxHeartbeats 4000000 in
set_option maxRecDepth 100000 in
theorem C_Ip_drawZ (g : zG) (a pa ta sa gs co fu la gy du re wm ac : Nat) (pa1 pa2 pa3 : Nat) (f sn : Nat → Int32) (qn : Nat → Nat) (p : Nat) (ta1 ta2 taz taz1 taz2 taz3 taz4 taz5 taz6 ta4 ta5 ta6 : Nat) (X : zTr) (kd : Int32) (hk : z_kind kd) (hki : 0 ≤ z_ix 0 kd) (x y u v : Nat) (hx : x + u ≤ 12) (hy : y + v ≤ 9) (hu : 1 ≤ u) (hv : 1 ≤ v) (hz : (prect kd x y u (f, 0) v).2 = 0) : CT g M_Ip_draw [.ref a, .int kd, .int (nI x), .int (nI y), .int (nI u), .int (nI v)] [(a, .inr (11, [.ref pa, .ref ta, .ref sa, .ref gs, .ref co, .ref fu, .ref la, .ref gy, .ref du, .ref re, .ref wm, .ref ac])), (pa, .inr (8, [.ref pa1, .ref pa2, .ref pa3, .int (nI p)])), (pa1, .inl (1, 108, .inl f)), (pa2, .inl (2, 108, .inl sn)), (pa3, .inl (0, 108, .inl (fun k => nI (qn k)))), (ta, .inr (10, [.ref ta1, .ref ta2, .ref taz, .ref ta4, .ref ta5, .ref ta6, .int X.1.2.2.1, .int X.1.2.2.2])), (ta1, .inl (1, 108, .inl X.1.1)), (ta2, .inl (0, 108, .inl X.1.2.1)), (taz, .inr (2, [.ref taz1, .ref taz2, .ref taz3, .ref taz4, .ref taz5, .ref taz6, .int X.2.1.1.1.2.2.2])), (taz1, .inl (0, 108, .inl X.2.1.1.1.1)), (taz2, .inl (0, 108, .inl X.2.1.1.2)), (taz3, .inl (0, 108, .inl X.2.1.1.1.2.1)), (taz4, .inl (0, 108, .inl X.2.1.1.1.2.2.1)), (taz5, .inl (0, 108, .inl X.2.1.2.1)), (taz6, .inl (0, 108, .inl X.2.1.2.2)), (ta4, .inl (2, 108, .inl X.2.2.1)), (ta5, .inl (2, 108, .inl X.2.2.2.1)), (ta6, .inl (0, 108, .inl (fun k => nI (X.2.2.2.2 k))))] (fun o cs1 => o = .inl (some (.int (nI (prect kd x y u (f, 0) v).2))) ∧ cs1 = [(a, .inr (11, [.ref pa, .ref ta, .ref sa, .ref gs, .ref co, .ref fu, .ref la, .ref gy, .ref du, .ref re, .ref wm, .ref ac])), (pa, .inr (8, [.ref pa1, .ref pa2, .ref pa3, .int (nI p)])), (pa1, .inl (1, 108, .inl ((prect kd x y u (f, 0) v).1))), (pa2, .inl (2, 108, .inl sn)), (pa3, .inl (0, 108, .inl (fun k => nI (qn k)))), (ta, .inr (10, [.ref ta1, .ref ta2, .ref taz, .ref ta4, .ref ta5, .ref ta6, .int X.1.2.2.1, .int X.1.2.2.2])), (ta1, .inl (1, 108, .inl X.1.1)), (ta2, .inl (0, 108, .inl X.1.2.1)), (taz, .inr (2, [.ref taz1, .ref taz2, .ref taz3, .ref taz4, .ref taz5, .ref taz6, .int X.2.1.1.1.2.2.2])), (taz1, .inl (0, 108, .inl X.2.1.1.1.1)), (taz2, .inl (0, 108, .inl X.2.1.1.2)), (taz3, .inl (0, 108, .inl X.2.1.1.1.2.1)), (taz4, .inl (0, 108, .inl X.2.1.1.1.2.2.1)), (taz5, .inl (0, 108, .inl X.2.1.2.1)), (taz6, .inl (0, 108, .inl X.2.1.2.2)), (ta4, .inl (2, 108, .inl X.2.2.1)), (ta5, .inl (2, 108, .inl X.2.2.2.1)), (ta6, .inl (0, 108, .inl (fun k => nI (X.2.2.2.2 k))))]) 1 6 := by
  refine z_of (by decide) rfl (Nat.le_of_ble_eq_true rfl) (fun w0 => ?_)
  refine r_lvE (lv2 := [(0, .ref a), (1, .int kd), (2, .int (nI x)), (3, .int (nI y)), (4, .int (nI u)), (5, .int (nI v))]) rfl ?_
  refine r_ldcS (own := "Ironpour") (i := 0) (by decide) d_Ip_draw_0 ?_
  refine r_iload_n d_Ip_draw_2 rfl 1 rfl ?_
  refine r_callVS (As := [.int kd]) (rest := []) (csC := []) (is := []) (i := 0) (by first | assumption | decide) rfl ln_Ip_83 w_im_String_indexOf_0 w_se_String_indexOf_0 ok_Ip_draw_String_indexOf_0 d_Ip_draw_3 (C_St_indexOf g 0 (by decide) kd) rfl rfl (Nat.le_of_ble_eq_true rfl) rfl (by decide) (by omega) (by omega) (fun E cs1 hx => ?_) (fun v cs1 hx => ?_)
  · exact absurd hx.1 (by simp)
  · obtain ⟨e1, rfl⟩ := hx
    cases e1
    refine ⟨rfl, ?_⟩
    refine r_st (st2 := [.int (z_ix 0 kd)]) rfl ?_
    refine r_cs (cs2 := [(a, .inr (11, [.ref pa, .ref ta, .ref sa, .ref gs, .ref co, .ref fu, .ref la, .ref gy, .ref du, .ref re, .ref wm, .ref ac])), (pa, .inr (8, [.ref pa1, .ref pa2, .ref pa3, .int (nI p)])), (pa1, .inl (1, 108, .inl f)), (pa2, .inl (2, 108, .inl sn)), (pa3, .inl (0, 108, .inl (fun k => nI (qn k)))), (ta, .inr (10, [.ref ta1, .ref ta2, .ref taz, .ref ta4, .ref ta5, .ref ta6, .int X.1.2.2.1, .int X.1.2.2.2])), (ta1, .inl (1, 108, .inl X.1.1)), (ta2, .inl (0, 108, .inl X.1.2.1)), (taz, .inr (2, [.ref taz1, .ref taz2, .ref taz3, .ref taz4, .ref taz5, .ref taz6, .int X.2.1.1.1.2.2.2])), (taz1, .inl (0, 108, .inl X.2.1.1.1.1)), (taz2, .inl (0, 108, .inl X.2.1.1.2)), (taz3, .inl (0, 108, .inl X.2.1.1.1.2.1)), (taz4, .inl (0, 108, .inl X.2.1.1.1.2.2.1)), (taz5, .inl (0, 108, .inl X.2.1.2.1)), (taz6, .inl (0, 108, .inl X.2.1.2.2)), (ta4, .inl (2, 108, .inl X.2.2.1)), (ta5, .inl (2, 108, .inl X.2.2.2.1)), (ta6, .inl (0, 108, .inl (fun k => nI (X.2.2.2.2 k))))]) rfl ?_
    refine r_if_ge (tgt := 19) d_Ip_draw_6 (by decide) (fun c_6 => ?_) (fun c_6 => ?_)
    · refine r_iload_n d_Ip_draw_19 rfl 2 rfl ?_
      refine r_iload_n d_Ip_draw_20 rfl 3 rfl ?_
      refine r_callS (As := [.int (nI x), .int (nI y)]) (rest := []) (csC := []) (is := []) ln_Ip_96 w_st_Ip_isCell ok_Ip_draw_Ip_isCell d_Ip_draw_21 (C_Ip_isCell g (nI x) (nI y)) rfl rfl (Nat.le_of_ble_eq_true rfl) rfl (by decide) (by omega) (by omega) (fun E cs1 hx => ?_) (fun v cs1 hx => ?_)
      · exact absurd hx.1 (by simp)
      · obtain ⟨e1, rfl⟩ := hx
        cases e1
        refine ⟨rfl, ?_⟩
        refine r_st (st2 := [.int (if 0 ≤ nI x ∧ nI x < 12 ∧ 0 ≤ nI y ∧ nI y < 9 then 1 else 0)]) rfl ?_
        refine r_cs (cs2 := [(a, .inr (11, [.ref pa, .ref ta, .ref sa, .ref gs, .ref co, .ref fu, .ref la, .ref gy, .ref du, .ref re, .ref wm, .ref ac])), (pa, .inr (8, [.ref pa1, .ref pa2, .ref pa3, .int (nI p)])), (pa1, .inl (1, 108, .inl f)), (pa2, .inl (2, 108, .inl sn)), (pa3, .inl (0, 108, .inl (fun k => nI (qn k)))), (ta, .inr (10, [.ref ta1, .ref ta2, .ref taz, .ref ta4, .ref ta5, .ref ta6, .int X.1.2.2.1, .int X.1.2.2.2])), (ta1, .inl (1, 108, .inl X.1.1)), (ta2, .inl (0, 108, .inl X.1.2.1)), (taz, .inr (2, [.ref taz1, .ref taz2, .ref taz3, .ref taz4, .ref taz5, .ref taz6, .int X.2.1.1.1.2.2.2])), (taz1, .inl (0, 108, .inl X.2.1.1.1.1)), (taz2, .inl (0, 108, .inl X.2.1.1.2)), (taz3, .inl (0, 108, .inl X.2.1.1.1.2.1)), (taz4, .inl (0, 108, .inl X.2.1.1.1.2.2.1)), (taz5, .inl (0, 108, .inl X.2.1.2.1)), (taz6, .inl (0, 108, .inl X.2.1.2.2)), (ta4, .inl (2, 108, .inl X.2.2.1)), (ta5, .inl (2, 108, .inl X.2.2.2.1)), (ta6, .inl (0, 108, .inl (fun k => nI (X.2.2.2.2 k))))]) rfl ?_
        refine r_if_eq (tgt := 57) d_Ip_draw_24 (by decide) (fun c_24 => ?_) (fun c_24 => ?_)
        · exact absurd (z_cellN (by omega) (by omega)) (z_b0 c_24)
        · refine r_iload d_Ip_draw_27 4 rfl ?_
          refine r_iconst d_Ip_draw_29 (v := 1) (by decide) ?_
          refine r_icmp_lt (tgt := 57) d_Ip_draw_30 (by decide) (fun c_30 => ?_) (fun c_30 => ?_)
          · exact absurd (z_lt (b := 1) (by decide) (by omega) c_30) (by omega)
          · refine r_iload d_Ip_draw_33 4 rfl ?_
            refine r_bipush d_Ip_draw_35 (v := 12) (by decide) ?_
            refine r_iload_n d_Ip_draw_37 rfl 2 rfl ?_
            refine r_isub d_Ip_draw_38 (v := nI (12 - x)) (pk_sub (a := 12) (by omega)) ?_
            refine r_icmp_gt (tgt := 57) d_Ip_draw_39 (by decide) (fun c_39 => ?_) (fun c_39 => ?_)
            · exact absurd (z_lt (by omega) (by omega) c_39) (by omega)
            · refine r_iload d_Ip_draw_42 5 rfl ?_
              refine r_iconst d_Ip_draw_44 (v := 1) (by decide) ?_
              refine r_icmp_lt (tgt := 57) d_Ip_draw_45 (by decide) (fun c_45 => ?_) (fun c_45 => ?_)
              · exact absurd (z_lt (b := 1) (by decide) (by omega) c_45) (by omega)
              · refine r_iload d_Ip_draw_48 5 rfl ?_
                refine r_bipush d_Ip_draw_50 (v := 9) (by decide) ?_
                refine r_iload_n d_Ip_draw_52 rfl 3 rfl ?_
                refine r_isub d_Ip_draw_53 (v := nI (9 - y)) (pk_sub (a := 9) (by omega)) ?_
                refine r_icmp_le (tgt := 67) d_Ip_draw_54 (by decide) (fun c_54 => ?_) (fun c_54 => ?_)
                · refine r_aload_n d_Ip_draw_67 rfl 0 rfl ?_
                  refine r_get fs_Ip_10 d_Ip_draw_68 (q0 := 0) rfl rfl ?_
                  refine r_iload_n d_Ip_draw_71 rfl 1 rfl ?_
                  refine r_iload_n d_Ip_draw_72 rfl 2 rfl ?_
                  refine r_iload_n d_Ip_draw_73 rfl 3 rfl ?_
                  refine r_iload d_Ip_draw_74 4 rfl ?_
                  refine r_iload d_Ip_draw_76 5 rfl ?_
                  refine r_callV (As := [.int kd, .int (nI x), .int (nI y), .int (nI u), .int (nI v)]) (rest := []) (csC := [(pa, .inr (8, [.ref pa1, .ref pa2, .ref pa3, .int (nI p)])), (pa1, .inl (1, 108, .inl f)), (pa2, .inl (2, 108, .inl sn)), (pa3, .inl (0, 108, .inl (fun k => nI (qn k))))]) (is := [1, 2, 3, 4]) (q0 := 1) rfl rfl ln_Ip_102 w_im_Pa_paint w_se_Pa_paint ok_Ip_draw_Pa_paint d_Ip_draw_78 (C_Pa_paint g pa pa1 pa2 pa3 f sn (fun k => nI (qn k)) (nI p) kd hk x y u v hx hy) rfl rfl (Nat.le_of_ble_eq_true rfl) rfl (by decide) (by omega) (by omega) (fun E cs1 hx => ?_) (fun v cs1 hx => ?_)
                  · exact absurd hx.1 (by simp)
                  · obtain ⟨e1, rfl⟩ := hx
                    cases e1
                    refine ⟨rfl, ?_⟩
                    refine r_st (st2 := [.int (nI (prect kd x y u (f, 0) v).2)]) rfl ?_
                    refine r_cs (cs2 := [(a, .inr (11, [.ref pa, .ref ta, .ref sa, .ref gs, .ref co, .ref fu, .ref la, .ref gy, .ref du, .ref re, .ref wm, .ref ac])), (pa, .inr (8, [.ref pa1, .ref pa2, .ref pa3, .int (nI p)])), (pa1, .inl (1, 108, .inl ((prect kd x y u (f, 0) v).1))), (pa2, .inl (2, 108, .inl sn)), (pa3, .inl (0, 108, .inl (fun k => nI (qn k)))), (ta, .inr (10, [.ref ta1, .ref ta2, .ref taz, .ref ta4, .ref ta5, .ref ta6, .int X.1.2.2.1, .int X.1.2.2.2])), (ta1, .inl (1, 108, .inl X.1.1)), (ta2, .inl (0, 108, .inl X.1.2.1)), (taz, .inr (2, [.ref taz1, .ref taz2, .ref taz3, .ref taz4, .ref taz5, .ref taz6, .int X.2.1.1.1.2.2.2])), (taz1, .inl (0, 108, .inl X.2.1.1.1.1)), (taz2, .inl (0, 108, .inl X.2.1.1.2)), (taz3, .inl (0, 108, .inl X.2.1.1.1.2.1)), (taz4, .inl (0, 108, .inl X.2.1.1.1.2.2.1)), (taz5, .inl (0, 108, .inl X.2.1.2.1)), (taz6, .inl (0, 108, .inl X.2.1.2.2)), (ta4, .inl (2, 108, .inl X.2.2.1)), (ta5, .inl (2, 108, .inl X.2.2.2.1)), (ta6, .inl (0, 108, .inl (fun k => nI (X.2.2.2.2 k))))]) rfl ?_
                    refine r_istore (lv' := [(6, .int (nI (prect kd x y u (f, 0) v).2)), (0, .ref a), (1, .int kd), (2, .int (nI x)), (3, .int (nI y)), (4, .int (nI u)), (5, .int (nI v))]) d_Ip_draw_81 (by decide) rfl ?_
                    refine r_iload d_Ip_draw_83 0 rfl ?_
                    refine r_if_le (tgt := 102) d_Ip_draw_85 (by decide) (fun c_85 => ?_) (fun c_85 => ?_)
                    · refine r_iload d_Ip_draw_102 0 rfl ?_
                      refine r_iret d_Ip_draw_104 rfl rfl ?_
                      exact ⟨rfl, rfl⟩
                    · exact absurd (by rw [hz]; decide) c_85
                · exact absurd (z_nle (by omega) (by omega) c_54) (by omega)
    · exact absurd hki c_6
theorem d_Ip_draw_88 : decode prog_1_method_2_code 88 = .ok (.aload_n 0, 1) := zo_42 (zd_b zq_prog_1_method_2_code_2 24 rfl rfl rfl)
theorem d_Ip_draw_89 : decode prog_1_method_2_code 89 = .ok (.getfield 19, 3) := zo_180 (d := 0) (e := 19) (zd_b zq_prog_1_method_2_code_2 25 rfl rfl rfl) (zd_b zq_prog_1_method_2_code_2 26 rfl rfl rfl) (zd_b zq_prog_1_method_2_code_2 27 rfl rfl rfl)
theorem d_Ip_draw_92 : decode prog_1_method_2_code 92 = .ok (.aload_n 0, 1) := zo_42 (zd_b zq_prog_1_method_2_code_2 28 rfl rfl rfl)
theorem d_Ip_draw_93 : decode prog_1_method_2_code 93 = .ok (.getfield 10, 3) := zo_180 (d := 0) (e := 10) (zd_b zq_prog_1_method_2_code_2 29 rfl rfl rfl) (zd_b zq_prog_1_method_2_code_2 30 rfl rfl rfl) (zd_b zq_prog_1_method_2_code_2 31 rfl rfl rfl)
theorem d_Ip_draw_96 : decode prog_1_method_2_code 96 = .ok (.getfield 106, 3) := zo_180 (d := 0) (e := 106) (zd_b zq_prog_1_method_2_code_3 0 rfl rfl rfl) (zd_b zq_prog_1_method_2_code_3 1 rfl rfl rfl) (zd_b zq_prog_1_method_2_code_3 2 rfl rfl rfl)
theorem d_Ip_draw_99 : decode prog_1_method_2_code 99 = .ok (.invokevirtual 110, 3) := zo_182 (d := 0) (e := 110) (zd_b zq_prog_1_method_2_code_3 3 rfl rfl rfl) (zd_b zq_prog_1_method_2_code_3 4 rfl rfl rfl) (zd_b zq_prog_1_method_2_code_3 5 rfl rfl rfl)
theorem ok_Ip_draw_Tr_take : z_ok M_Ip_draw M_Tr_take 1 := ⟨z_mj3 (i := 225) rfl (by decide +kernel), rfl, ⟨by decide +kernel, by decide +kernel, by decide +kernel⟩, ⟨by decide, by decide⟩, z_mj1 (i := 3) rfl (by decide +kernel), rfl⟩
theorem ln_Ip_110 : Cond.methodLink "Ironpour" 110 M_Tr_take.1 ∈ z_gw := z_mj3 (i := 222) rfl (by decide +kernel)
theorem w_im_Tr_take : Cond.instanceMethod M_Tr_take.1 ∈ z_gw := z_mj3 (i := 223) rfl (by decide +kernel)
theorem w_se_Tr_take : Cond.selects M_Tr_take.1.cls M_Tr_take.1 M_Tr_take.1 ∈ z_gw := z_mj3 (i := 224) rfl (by decide +kernel)
set_option maxHeartbeats 4000000 in
set_option maxRecDepth 100000 in
theorem C_Ip_drawN (g : zG) (a pa ta sa gs co fu la gy du re wm ac : Nat) (pa1 pa2 pa3 : Nat) (f sn : Nat → Int32) (qn : Nat → Nat) (p : Nat) (ta1 ta2 taz taz1 taz2 taz3 taz4 taz5 taz6 ta4 ta5 ta6 : Nat) (X : zTr) (kd : Int32) (hk : z_kind kd) (hki : 0 ≤ z_ix 0 kd) (x y u v : Nat) (hx : x + u ≤ 12) (hy : y + v ≤ 9) (hu : 1 ≤ u) (hv : 1 ≤ v) (hz : ¬ (prect kd x y u (f, 0) v).2 = 0) (hf : z_ch (prect kd x y u (f, 0) v).1) : CT g M_Ip_draw [.ref a, .int kd, .int (nI x), .int (nI y), .int (nI u), .int (nI v)] [(a, .inr (11, [.ref pa, .ref ta, .ref sa, .ref gs, .ref co, .ref fu, .ref la, .ref gy, .ref du, .ref re, .ref wm, .ref ac])), (pa, .inr (8, [.ref pa1, .ref pa2, .ref pa3, .int (nI p)])), (pa1, .inl (1, 108, .inl f)), (pa2, .inl (2, 108, .inl sn)), (pa3, .inl (0, 108, .inl (fun k => nI (qn k)))), (ta, .inr (10, [.ref ta1, .ref ta2, .ref taz, .ref ta4, .ref ta5, .ref ta6, .int X.1.2.2.1, .int X.1.2.2.2])), (ta1, .inl (1, 108, .inl X.1.1)), (ta2, .inl (0, 108, .inl X.1.2.1)), (taz, .inr (2, [.ref taz1, .ref taz2, .ref taz3, .ref taz4, .ref taz5, .ref taz6, .int X.2.1.1.1.2.2.2])), (taz1, .inl (0, 108, .inl X.2.1.1.1.1)), (taz2, .inl (0, 108, .inl X.2.1.1.2)), (taz3, .inl (0, 108, .inl X.2.1.1.1.2.1)), (taz4, .inl (0, 108, .inl X.2.1.1.1.2.2.1)), (taz5, .inl (0, 108, .inl X.2.1.2.1)), (taz6, .inl (0, 108, .inl X.2.1.2.2)), (ta4, .inl (2, 108, .inl X.2.2.1)), (ta5, .inl (2, 108, .inl X.2.2.2.1)), (ta6, .inl (0, 108, .inl (fun k => nI (X.2.2.2.2 k))))] (fun o cs1 => o = .inl (some (.int (nI (prect kd x y u (f, 0) v).2))) ∧ cs1 = [(a, .inr (11, [.ref pa, .ref ta, .ref sa, .ref gs, .ref co, .ref fu, .ref la, .ref gy, .ref du, .ref re, .ref wm, .ref ac])), (pa, .inr (8, [.ref pa1, .ref pa2, .ref pa3, .int (nI p)])), (pa1, .inl (1, 108, .inl ((prect kd x y u (f, 0) v).1))), (pa2, .inl (2, 108, .inl sn)), (pa3, .inl (0, 108, .inl (fun k => nI (qn k)))), (ta, .inr (10, [.ref ta1, .ref ta2, .ref taz, .ref ta4, .ref ta5, .ref ta6, .int ((tkT (prect kd x y u (f, 0) v).1 X).1.2.2.1), .int ((tkT (prect kd x y u (f, 0) v).1 X).1.2.2.2)])), (ta1, .inl (1, 108, .inl ((tkT (prect kd x y u (f, 0) v).1 X).1.1))), (ta2, .inl (0, 108, .inl ((tkT (prect kd x y u (f, 0) v).1 X).1.2.1))), (taz, .inr (2, [.ref taz1, .ref taz2, .ref taz3, .ref taz4, .ref taz5, .ref taz6, .int ((tkT (prect kd x y u (f, 0) v).1 X).2.1.1.1.2.2.2)])), (taz1, .inl (0, 108, .inl ((tkT (prect kd x y u (f, 0) v).1 X).2.1.1.1.1))), (taz2, .inl (0, 108, .inl ((tkT (prect kd x y u (f, 0) v).1 X).2.1.1.2))), (taz3, .inl (0, 108, .inl ((tkT (prect kd x y u (f, 0) v).1 X).2.1.1.1.2.1))), (taz4, .inl (0, 108, .inl ((tkT (prect kd x y u (f, 0) v).1 X).2.1.1.1.2.2.1))), (taz5, .inl (0, 108, .inl ((tkT (prect kd x y u (f, 0) v).1 X).2.1.2.1))), (taz6, .inl (0, 108, .inl ((tkT (prect kd x y u (f, 0) v).1 X).2.1.2.2))), (ta4, .inl (2, 108, .inl ((tkT (prect kd x y u (f, 0) v).1 X).2.2.1))), (ta5, .inl (2, 108, .inl ((tkT (prect kd x y u (f, 0) v).1 X).2.2.2.1))), (ta6, .inl (0, 108, .inl (fun k => nI ((tkT (prect kd x y u (f, 0) v).1 X).2.2.2.2 k))))]) 1 6 := by
  refine z_of (by decide) rfl (Nat.le_of_ble_eq_true rfl) (fun w0 => ?_)
  refine r_lvE (lv2 := [(0, .ref a), (1, .int kd), (2, .int (nI x)), (3, .int (nI y)), (4, .int (nI u)), (5, .int (nI v))]) rfl ?_
  have hle := prect_le kd x y u (f, 0) v
  have hle2 : v * u ≤ 9 * 12 := Nat.mul_le_mul (by omega) (by omega)
  have hle3 : (prect kd x y u (f, 0) v).2 ≤ 0 + v * u := hle
  refine r_ldcS (own := "Ironpour") (i := 0) (by decide) d_Ip_draw_0 ?_
  refine r_iload_n d_Ip_draw_2 rfl 1 rfl ?_
  refine r_callVS (As := [.int kd]) (rest := []) (csC := []) (is := []) (i := 0) (by first | assumption | decide) rfl ln_Ip_83 w_im_String_indexOf_0 w_se_String_indexOf_0 ok_Ip_draw_String_indexOf_0 d_Ip_draw_3 (C_St_indexOf g 0 (by decide) kd) rfl rfl (Nat.le_of_ble_eq_true rfl) rfl (by decide) (by omega) (by omega) (fun E cs1 hx => ?_) (fun v cs1 hx => ?_)
  · exact absurd hx.1 (by simp)
  · obtain ⟨e1, rfl⟩ := hx
    cases e1
    refine ⟨rfl, ?_⟩
    refine r_st (st2 := [.int (z_ix 0 kd)]) rfl ?_
    refine r_cs (cs2 := [(a, .inr (11, [.ref pa, .ref ta, .ref sa, .ref gs, .ref co, .ref fu, .ref la, .ref gy, .ref du, .ref re, .ref wm, .ref ac])), (pa, .inr (8, [.ref pa1, .ref pa2, .ref pa3, .int (nI p)])), (pa1, .inl (1, 108, .inl f)), (pa2, .inl (2, 108, .inl sn)), (pa3, .inl (0, 108, .inl (fun k => nI (qn k)))), (ta, .inr (10, [.ref ta1, .ref ta2, .ref taz, .ref ta4, .ref ta5, .ref ta6, .int X.1.2.2.1, .int X.1.2.2.2])), (ta1, .inl (1, 108, .inl X.1.1)), (ta2, .inl (0, 108, .inl X.1.2.1)), (taz, .inr (2, [.ref taz1, .ref taz2, .ref taz3, .ref taz4, .ref taz5, .ref taz6, .int X.2.1.1.1.2.2.2])), (taz1, .inl (0, 108, .inl X.2.1.1.1.1)), (taz2, .inl (0, 108, .inl X.2.1.1.2)), (taz3, .inl (0, 108, .inl X.2.1.1.1.2.1)), (taz4, .inl (0, 108, .inl X.2.1.1.1.2.2.1)), (taz5, .inl (0, 108, .inl X.2.1.2.1)), (taz6, .inl (0, 108, .inl X.2.1.2.2)), (ta4, .inl (2, 108, .inl X.2.2.1)), (ta5, .inl (2, 108, .inl X.2.2.2.1)), (ta6, .inl (0, 108, .inl (fun k => nI (X.2.2.2.2 k))))]) rfl ?_
    refine r_if_ge (tgt := 19) d_Ip_draw_6 (by decide) (fun c_6 => ?_) (fun c_6 => ?_)
    · refine r_iload_n d_Ip_draw_19 rfl 2 rfl ?_
      refine r_iload_n d_Ip_draw_20 rfl 3 rfl ?_
      refine r_callS (As := [.int (nI x), .int (nI y)]) (rest := []) (csC := []) (is := []) ln_Ip_96 w_st_Ip_isCell ok_Ip_draw_Ip_isCell d_Ip_draw_21 (C_Ip_isCell g (nI x) (nI y)) rfl rfl (Nat.le_of_ble_eq_true rfl) rfl (by decide) (by omega) (by omega) (fun E cs1 hx => ?_) (fun v cs1 hx => ?_)
      · exact absurd hx.1 (by simp)
      · obtain ⟨e1, rfl⟩ := hx
        cases e1
        refine ⟨rfl, ?_⟩
        refine r_st (st2 := [.int (if 0 ≤ nI x ∧ nI x < 12 ∧ 0 ≤ nI y ∧ nI y < 9 then 1 else 0)]) rfl ?_
        refine r_cs (cs2 := [(a, .inr (11, [.ref pa, .ref ta, .ref sa, .ref gs, .ref co, .ref fu, .ref la, .ref gy, .ref du, .ref re, .ref wm, .ref ac])), (pa, .inr (8, [.ref pa1, .ref pa2, .ref pa3, .int (nI p)])), (pa1, .inl (1, 108, .inl f)), (pa2, .inl (2, 108, .inl sn)), (pa3, .inl (0, 108, .inl (fun k => nI (qn k)))), (ta, .inr (10, [.ref ta1, .ref ta2, .ref taz, .ref ta4, .ref ta5, .ref ta6, .int X.1.2.2.1, .int X.1.2.2.2])), (ta1, .inl (1, 108, .inl X.1.1)), (ta2, .inl (0, 108, .inl X.1.2.1)), (taz, .inr (2, [.ref taz1, .ref taz2, .ref taz3, .ref taz4, .ref taz5, .ref taz6, .int X.2.1.1.1.2.2.2])), (taz1, .inl (0, 108, .inl X.2.1.1.1.1)), (taz2, .inl (0, 108, .inl X.2.1.1.2)), (taz3, .inl (0, 108, .inl X.2.1.1.1.2.1)), (taz4, .inl (0, 108, .inl X.2.1.1.1.2.2.1)), (taz5, .inl (0, 108, .inl X.2.1.2.1)), (taz6, .inl (0, 108, .inl X.2.1.2.2)), (ta4, .inl (2, 108, .inl X.2.2.1)), (ta5, .inl (2, 108, .inl X.2.2.2.1)), (ta6, .inl (0, 108, .inl (fun k => nI (X.2.2.2.2 k))))]) rfl ?_
        refine r_if_eq (tgt := 57) d_Ip_draw_24 (by decide) (fun c_24 => ?_) (fun c_24 => ?_)
        · exact absurd (z_cellN (by omega) (by omega)) (z_b0 c_24)
        · refine r_iload d_Ip_draw_27 4 rfl ?_
          refine r_iconst d_Ip_draw_29 (v := 1) (by decide) ?_
          refine r_icmp_lt (tgt := 57) d_Ip_draw_30 (by decide) (fun c_30 => ?_) (fun c_30 => ?_)
          · exact absurd (z_lt (b := 1) (by decide) (by omega) c_30) (by omega)
          · refine r_iload d_Ip_draw_33 4 rfl ?_
            refine r_bipush d_Ip_draw_35 (v := 12) (by decide) ?_
            refine r_iload_n d_Ip_draw_37 rfl 2 rfl ?_
            refine r_isub d_Ip_draw_38 (v := nI (12 - x)) (pk_sub (a := 12) (by omega)) ?_
            refine r_icmp_gt (tgt := 57) d_Ip_draw_39 (by decide) (fun c_39 => ?_) (fun c_39 => ?_)
            · exact absurd (z_lt (by omega) (by omega) c_39) (by omega)
            · refine r_iload d_Ip_draw_42 5 rfl ?_
              refine r_iconst d_Ip_draw_44 (v := 1) (by decide) ?_
              refine r_icmp_lt (tgt := 57) d_Ip_draw_45 (by decide) (fun c_45 => ?_) (fun c_45 => ?_)
              · exact absurd (z_lt (b := 1) (by decide) (by omega) c_45) (by omega)
              · refine r_iload d_Ip_draw_48 5 rfl ?_
                refine r_bipush d_Ip_draw_50 (v := 9) (by decide) ?_
                refine r_iload_n d_Ip_draw_52 rfl 3 rfl ?_
                refine r_isub d_Ip_draw_53 (v := nI (9 - y)) (pk_sub (a := 9) (by omega)) ?_
                refine r_icmp_le (tgt := 67) d_Ip_draw_54 (by decide) (fun c_54 => ?_) (fun c_54 => ?_)
                · refine r_aload_n d_Ip_draw_67 rfl 0 rfl ?_
                  refine r_get fs_Ip_10 d_Ip_draw_68 (q0 := 0) rfl rfl ?_
                  refine r_iload_n d_Ip_draw_71 rfl 1 rfl ?_
                  refine r_iload_n d_Ip_draw_72 rfl 2 rfl ?_
                  refine r_iload_n d_Ip_draw_73 rfl 3 rfl ?_
                  refine r_iload d_Ip_draw_74 4 rfl ?_
                  refine r_iload d_Ip_draw_76 5 rfl ?_
                  refine r_callV (As := [.int kd, .int (nI x), .int (nI y), .int (nI u), .int (nI v)]) (rest := []) (csC := [(pa, .inr (8, [.ref pa1, .ref pa2, .ref pa3, .int (nI p)])), (pa1, .inl (1, 108, .inl f)), (pa2, .inl (2, 108, .inl sn)), (pa3, .inl (0, 108, .inl (fun k => nI (qn k))))]) (is := [1, 2, 3, 4]) (q0 := 1) rfl rfl ln_Ip_102 w_im_Pa_paint w_se_Pa_paint ok_Ip_draw_Pa_paint d_Ip_draw_78 (C_Pa_paint g pa pa1 pa2 pa3 f sn (fun k => nI (qn k)) (nI p) kd hk x y u v hx hy) rfl rfl (Nat.le_of_ble_eq_true rfl) rfl (by decide) (by omega) (by omega) (fun E cs1 hx => ?_) (fun v cs1 hx => ?_)
                  · exact absurd hx.1 (by simp)
                  · obtain ⟨e1, rfl⟩ := hx
                    cases e1
                    refine ⟨rfl, ?_⟩
                    refine r_st (st2 := [.int (nI (prect kd x y u (f, 0) v).2)]) rfl ?_
                    refine r_cs (cs2 := [(a, .inr (11, [.ref pa, .ref ta, .ref sa, .ref gs, .ref co, .ref fu, .ref la, .ref gy, .ref du, .ref re, .ref wm, .ref ac])), (pa, .inr (8, [.ref pa1, .ref pa2, .ref pa3, .int (nI p)])), (pa1, .inl (1, 108, .inl ((prect kd x y u (f, 0) v).1))), (pa2, .inl (2, 108, .inl sn)), (pa3, .inl (0, 108, .inl (fun k => nI (qn k)))), (ta, .inr (10, [.ref ta1, .ref ta2, .ref taz, .ref ta4, .ref ta5, .ref ta6, .int X.1.2.2.1, .int X.1.2.2.2])), (ta1, .inl (1, 108, .inl X.1.1)), (ta2, .inl (0, 108, .inl X.1.2.1)), (taz, .inr (2, [.ref taz1, .ref taz2, .ref taz3, .ref taz4, .ref taz5, .ref taz6, .int X.2.1.1.1.2.2.2])), (taz1, .inl (0, 108, .inl X.2.1.1.1.1)), (taz2, .inl (0, 108, .inl X.2.1.1.2)), (taz3, .inl (0, 108, .inl X.2.1.1.1.2.1)), (taz4, .inl (0, 108, .inl X.2.1.1.1.2.2.1)), (taz5, .inl (0, 108, .inl X.2.1.2.1)), (taz6, .inl (0, 108, .inl X.2.1.2.2)), (ta4, .inl (2, 108, .inl X.2.2.1)), (ta5, .inl (2, 108, .inl X.2.2.2.1)), (ta6, .inl (0, 108, .inl (fun k => nI (X.2.2.2.2 k))))]) rfl ?_
                    refine r_istore (lv' := [(6, .int (nI (prect kd x y u (f, 0) v).2)), (0, .ref a), (1, .int kd), (2, .int (nI x)), (3, .int (nI y)), (4, .int (nI u)), (5, .int (nI v))]) d_Ip_draw_81 (by decide) rfl ?_
                    refine r_iload d_Ip_draw_83 0 rfl ?_
                    refine r_if_le (tgt := 102) d_Ip_draw_85 (by decide) (fun c_85 => ?_) (fun c_85 => ?_)
                    · exact absurd (Nat.le_zero.mp (z_le (b := 0) (by decide) (by omega) c_85)) hz
                    · refine r_aload_n d_Ip_draw_88 rfl 1 rfl ?_
                      refine r_get fs_Ip_19 d_Ip_draw_89 (q0 := 0) rfl rfl ?_
                      refine r_aload_n d_Ip_draw_92 rfl 1 rfl ?_
                      refine r_get fs_Ip_10 d_Ip_draw_93 (q0 := 0) rfl rfl ?_
                      refine r_get fs_Ip_106 d_Ip_draw_96 (q0 := 1) rfl rfl ?_
                      refine r_callV (As := [.ref pa1]) (rest := []) (csC := [(ta, .inr (10, [.ref ta1, .ref ta2, .ref taz, .ref ta4, .ref ta5, .ref ta6, .int X.1.2.2.1, .int X.1.2.2.2])), (ta1, .inl (1, 108, .inl X.1.1)), (pa1, .inl (1, 108, .inl ((prect kd x y u (f, 0) v).1)))]) (is := [5, 6, 2]) (q0 := 5) rfl rfl ln_Ip_110 w_im_Tr_take w_se_Tr_take ok_Ip_draw_Tr_take d_Ip_draw_99 (C_Tr_take g ta ta1 ta2 taz ta4 ta5 ta6 X.1.2.2.1 X.1.2.2.2 pa1 (prect kd x y u (f, 0) v).1 X.1.1 hf) rfl rfl (Nat.le_of_ble_eq_true rfl) rfl (by decide) (by omega) (by omega) (fun E cs1 hx => ?_) (fun v cs1 hx => ?_)
                      · exact absurd hx.1 (by simp)
                      · obtain ⟨e1, rfl⟩ := hx
                        cases e1
                        refine ⟨rfl, ?_⟩
                        refine r_st (st2 := []) rfl ?_
                        refine r_cs (cs2 := [(a, .inr (11, [.ref pa, .ref ta, .ref sa, .ref gs, .ref co, .ref fu, .ref la, .ref gy, .ref du, .ref re, .ref wm, .ref ac])), (pa, .inr (8, [.ref pa1, .ref pa2, .ref pa3, .int (nI p)])), (pa1, .inl (1, 108, .inl ((prect kd x y u (f, 0) v).1))), (pa2, .inl (2, 108, .inl sn)), (pa3, .inl (0, 108, .inl (fun k => nI (qn k)))), (ta, .inr (10, [.ref ta1, .ref ta2, .ref taz, .ref ta4, .ref ta5, .ref ta6, .int ((tkT (prect kd x y u (f, 0) v).1 X).1.2.2.1), .int ((tkT (prect kd x y u (f, 0) v).1 X).1.2.2.2)])), (ta1, .inl (1, 108, .inl ((tkT (prect kd x y u (f, 0) v).1 X).1.1))), (ta2, .inl (0, 108, .inl X.1.2.1)), (taz, .inr (2, [.ref taz1, .ref taz2, .ref taz3, .ref taz4, .ref taz5, .ref taz6, .int X.2.1.1.1.2.2.2])), (taz1, .inl (0, 108, .inl X.2.1.1.1.1)), (taz2, .inl (0, 108, .inl X.2.1.1.2)), (taz3, .inl (0, 108, .inl X.2.1.1.1.2.1)), (taz4, .inl (0, 108, .inl X.2.1.1.1.2.2.1)), (taz5, .inl (0, 108, .inl X.2.1.2.1)), (taz6, .inl (0, 108, .inl X.2.1.2.2)), (ta4, .inl (2, 108, .inl X.2.2.1)), (ta5, .inl (2, 108, .inl X.2.2.2.1)), (ta6, .inl (0, 108, .inl (fun k => nI (X.2.2.2.2 k))))]) rfl ?_
                        refine r_iload d_Ip_draw_102 0 rfl ?_
                        refine r_iret d_Ip_draw_104 rfl rfl ?_
                        exact ⟨rfl, rfl⟩
                · exact absurd (z_nle (by omega) (by omega) c_54) (by omega)
    · exact absurd hki c_6
end
section
abbrev M_Ip_hold : zM := (⟨"Ironpour", "hold", "(I)I"⟩, prog_1_method_25_code, 2, (Option.some FieldType.int), 6, 100, [])
theorem d_Ip_hold_0 : decode prog_1_method_25_code 0 = .ok (.iload_n 1, 1) := zo_27 (zd_b zq_prog_1_method_25_code_0 0 rfl rfl rfl)
theorem d_Ip_hold_1 : decode prog_1_method_25_code 1 = .ok (.iconst 1, 1) := zo_4 (zd_b zq_prog_1_method_25_code_0 1 rfl rfl rfl)
theorem d_Ip_hold_2 : decode prog_1_method_25_code 2 = .ok (.bipush 120, 2) := zo_16 (d := 120) (zd_b zq_prog_1_method_25_code_0 2 rfl rfl rfl) (zd_b zq_prog_1_method_25_code_0 3 rfl rfl rfl) (by decide +kernel)
theorem d_Ip_hold_4 : decode prog_1_method_25_code 4 = .ok (.invokestatic 203, 3) := zo_184 (d := 0) (e := 203) (zd_b zq_prog_1_method_25_code_0 4 rfl rfl rfl) (zd_b zq_prog_1_method_25_code_0 5 rfl rfl rfl) (zd_b zq_prog_1_method_25_code_0 6 rfl rfl rfl)
theorem ok_Ip_hold_Ip_isWithin : z_ok M_Ip_hold M_Ip_isWithin 3 := ⟨z_mj4 (i := 97) rfl (by decide +kernel), rfl, ⟨by decide +kernel, by decide +kernel, by decide +kernel⟩, ⟨by decide, by decide⟩, z_mj1 (i := 1) rfl (by decide +kernel), rfl⟩
theorem d_Ip_hold_7 : decode prog_1_method_25_code 7 = .ok (.ifCond .ne 14, 3) := zo_154 (d := 0) (e := 14) (zd_b zq_prog_1_method_25_code_0 7 rfl rfl rfl) (zd_b zq_prog_1_method_25_code_0 8 rfl rfl rfl) (zd_b zq_prog_1_method_25_code_0 9 rfl rfl rfl) (by decide +kernel)
theorem d_Ip_hold_10 : decode prog_1_method_25_code 10 = .ok (.new 89, 3) := zo_187 (d := 0) (e := 89) (zd_b zq_prog_1_method_25_code_0 10 rfl rfl rfl) (zd_b zq_prog_1_method_25_code_0 11 rfl rfl rfl) (zd_b zq_prog_1_method_25_code_0 12 rfl rfl rfl)
theorem sr_Ip_303 : Cond.stringRef "Ironpour" 303 "a furnace is held for 1 to 120 minutes" ∈ lw_tbl := z_tb5 (i := 90) rfl
theorem d_Ip_hold_13 : decode prog_1_method_25_code 13 = .ok (.dup, 1) := zo_89 (zd_b zq_prog_1_method_25_code_0 13 rfl rfl rfl)
theorem d_Ip_hold_14 : decode prog_1_method_25_code 14 = .ok (.ldc_w 303, 3) := zo_19 (d := 1) (e := 47) (zd_b zq_prog_1_method_25_code_0 14 rfl rfl rfl) (zd_b zq_prog_1_method_25_code_0 15 rfl rfl rfl) (zd_b zq_prog_1_method_25_code_0 16 rfl rfl rfl)
theorem d_Ip_hold_17 : decode prog_1_method_25_code 17 = .ok (.invokespecial 93, 3) := zo_183 (d := 0) (e := 93) (zd_b zq_prog_1_method_25_code_0 17 rfl rfl rfl) (zd_b zq_prog_1_method_25_code_0 18 rfl rfl rfl) (zd_b zq_prog_1_method_25_code_0 19 rfl rfl rfl)
theorem d_Ip_hold_20 : decode prog_1_method_25_code 20 = .ok (.athrow, 1) := zo_191 (zd_b zq_prog_1_method_25_code_0 20 rfl rfl rfl)
set_option maxHeartbeats 4000000 in
set_option maxRecDepth 100000 in
theorem C_Ip_holdE (g : zG) (a pa ta sa gs co fu la gy du re wm ac : Nat) (fub fubg fut1 fut2 fut3 : Nat) (gr T1 T2 T3 : Nat → Int64) (ir : Int32) (io : Int64) (h : Int32) (hw : ¬ (1 ≤ h ∧ h ≤ 120)) : CT g M_Ip_hold [.ref a, .int h] [(a, .inr (11, [.ref pa, .ref ta, .ref sa, .ref gs, .ref co, .ref fu, .ref la, .ref gy, .ref du, .ref re, .ref wm, .ref ac])), (fu, .inr (3, [.ref fub, .ref fut1, .ref fut2, .ref fut3, .long io])), (fub, .inr (6, [.ref fubg, .int ir])), (fubg, .inl (3, 4, .inr (.inl gr))), (fut1, .inl (3, 4, .inr (.inl T1))), (fut2, .inl (3, 4, .inr (.inl T2))), (fut3, .inl (3, 4, .inr (.inl T3)))] (fun o cs1 => o = .inr "java/lang/IllegalArgumentException" ∧ cs1 = [(a, .inr (11, [.ref pa, .ref ta, .ref sa, .ref gs, .ref co, .ref fu, .ref la, .ref gy, .ref du, .ref re, .ref wm, .ref ac])), (fu, .inr (3, [.ref fub, .ref fut1, .ref fut2, .ref fut3, .long io])), (fub, .inr (6, [.ref fubg, .int ir])), (fubg, .inl (3, 4, .inr (.inl gr))), (fut1, .inl (3, 4, .inr (.inl T1))), (fut2, .inl (3, 4, .inr (.inl T2))), (fut3, .inl (3, 4, .inr (.inl T3)))]) 1 6 := by
  refine z_of (by decide) rfl (Nat.le_of_ble_eq_true rfl) (fun w0 => ?_)
  refine r_lvE (lv2 := [(0, .ref a), (1, .int h)]) rfl ?_
  refine r_iload_n d_Ip_hold_0 rfl 1 rfl ?_
  refine r_iconst d_Ip_hold_1 (v := 1) (by decide) ?_
  refine r_bipush d_Ip_hold_2 (v := 120) (by decide) ?_
  refine r_callS (As := [.int h, .int 1, .int 120]) (rest := []) (csC := []) (is := []) ln_Ip_203 w_st_Ip_isWithin ok_Ip_hold_Ip_isWithin d_Ip_hold_4 (C_Ip_isWithin g h 1 120) rfl rfl (Nat.le_of_ble_eq_true rfl) rfl (by decide) (by omega) (by omega) (fun E cs1 hx => ?_) (fun v cs1 hx => ?_)
  · exact absurd hx.1 (by simp)
  · obtain ⟨e1, rfl⟩ := hx
    cases e1
    refine ⟨rfl, ?_⟩
    refine r_st (st2 := [.int (if 1 ≤ h ∧ h ≤ 120 then 1 else 0)]) rfl ?_
    refine r_cs (cs2 := [(a, .inr (11, [.ref pa, .ref ta, .ref sa, .ref gs, .ref co, .ref fu, .ref la, .ref gy, .ref du, .ref re, .ref wm, .ref ac])), (fu, .inr (3, [.ref fub, .ref fut1, .ref fut2, .ref fut3, .long io])), (fub, .inr (6, [.ref fubg, .int ir])), (fubg, .inl (3, 4, .inr (.inl gr))), (fut1, .inl (3, 4, .inr (.inl T1))), (fut2, .inl (3, 4, .inr (.inl T2))), (fut3, .inl (3, 4, .inr (.inl T3)))]) rfl ?_
    refine r_if_ne (tgt := 21) d_Ip_hold_7 (by decide) (fun c_7 => ?_) (fun c_7 => ?_)
    · exact absurd (z_b1 c_7) hw
    · refine r_throwW tb_Ip_89_93 sr_Ip_303 d_Ip_hold_10 d_Ip_hold_13 d_Ip_hold_14 d_Ip_hold_17 d_Ip_hold_20 rfl (by decide) (by decide) (Nat.le_of_ble_eq_true rfl) (by omega) (by omega) ?_
      exact ⟨rfl, rfl⟩
theorem d_Ip_hold_21 : decode prog_1_method_25_code 21 = .ok (.aload_n 0, 1) := zo_42 (zd_b zq_prog_1_method_25_code_0 21 rfl rfl rfl)
theorem d_Ip_hold_22 : decode prog_1_method_25_code 22 = .ok (.getfield 43, 3) := zo_180 (d := 0) (e := 43) (zd_b zq_prog_1_method_25_code_0 22 rfl rfl rfl) (zd_b zq_prog_1_method_25_code_0 23 rfl rfl rfl) (zd_b zq_prog_1_method_25_code_0 24 rfl rfl rfl)
theorem fs_Ip_43 : z_fs "Ironpour" 43 11 5 := ⟨R_Ip, "Ironpour", F_Ip, 12, rfl, u_Ip, by decide, Or.inl ⟨z_mj2 (i := 68) rfl (by decide +kernel), Or.inl rfl⟩⟩
theorem d_Ip_hold_25 : decode prog_1_method_25_code 25 = .ok (.iload_n 1, 1) := zo_27 (zd_b zq_prog_1_method_25_code_0 25 rfl rfl rfl)
theorem d_Ip_hold_26 : decode prog_1_method_25_code 26 = .ok (.invokevirtual 305, 3) := zo_182 (d := 1) (e := 49) (zd_b zq_prog_1_method_25_code_0 26 rfl rfl rfl) (zd_b zq_prog_1_method_25_code_0 27 rfl rfl rfl) (zd_b zq_prog_1_method_25_code_0 28 rfl rfl rfl)
theorem ok_Ip_hold_Fu_loseFor : z_ok M_Ip_hold M_Fu_loseFor 1 := ⟨z_mj5 (i := 94) rfl (by decide +kernel), rfl, ⟨by decide +kernel, by decide +kernel, by decide +kernel⟩, ⟨by decide, by decide⟩, z_mj1 (i := 7) rfl (by decide +kernel), rfl⟩
theorem ln_Ip_305 : Cond.methodLink "Ironpour" 305 M_Fu_loseFor.1 ∈ z_gw := z_mj5 (i := 91) rfl (by decide +kernel)
theorem w_im_Fu_loseFor : Cond.instanceMethod M_Fu_loseFor.1 ∈ z_gw := z_mj5 (i := 92) rfl (by decide +kernel)
theorem w_se_Fu_loseFor : Cond.selects M_Fu_loseFor.1.cls M_Fu_loseFor.1 M_Fu_loseFor.1 ∈ z_gw := z_mj5 (i := 93) rfl (by decide +kernel)
theorem d_Ip_hold_29 : decode prog_1_method_25_code 29 = .ok (.aload_n 0, 1) := zo_42 (zd_b zq_prog_1_method_25_code_0 29 rfl rfl rfl)
theorem d_Ip_hold_30 : decode prog_1_method_25_code 30 = .ok (.getfield 43, 3) := zo_180 (d := 0) (e := 43) (zd_b zq_prog_1_method_25_code_0 30 rfl rfl rfl) (zd_b zq_prog_1_method_25_code_0 31 rfl rfl rfl) (zd_b zq_prog_1_method_25_code_1 0 rfl rfl rfl)
theorem d_Ip_hold_33 : decode prog_1_method_25_code 33 = .ok (.getfield 277, 3) := zo_180 (d := 1) (e := 21) (zd_b zq_prog_1_method_25_code_1 1 rfl rfl rfl) (zd_b zq_prog_1_method_25_code_1 2 rfl rfl rfl) (zd_b zq_prog_1_method_25_code_1 3 rfl rfl rfl)
theorem fs_Ip_277 : z_fs "Ironpour" 277 3 0 := ⟨R_Fu, "Ironpour$Furnace", F_Fu, 5, rfl, u_Fu, by decide, Or.inr ⟨"Ironpour", z_mk1 (i := 211) rfl (by decide +kernel), rfl⟩⟩
theorem d_Ip_hold_36 : decode prog_1_method_25_code 36 = .ok (.getfield 308, 3) := zo_180 (d := 1) (e := 52) (zd_b zq_prog_1_method_25_code_1 4 rfl rfl rfl) (zd_b zq_prog_1_method_25_code_1 5 rfl rfl rfl) (zd_b zq_prog_1_method_25_code_1 6 rfl rfl rfl)
theorem fs_Ip_308 : z_fs "Ironpour" 308 6 0 := ⟨R_Me, "Ironpour$Metal", F_Me, 2, rfl, u_Me, by decide, Or.inr ⟨"Ironpour", z_mk1 (i := 199) rfl (by decide +kernel), rfl⟩⟩
theorem d_Ip_hold_39 : decode prog_1_method_25_code 39 = .ok (.iconst 0, 1) := zo_3 (zd_b zq_prog_1_method_25_code_1 7 rfl rfl rfl)
theorem d_Ip_hold_40 : decode prog_1_method_25_code 40 = .ok (.laload, 1) := zo_47 (zd_b zq_prog_1_method_25_code_1 8 rfl rfl rfl)
theorem d_Ip_hold_41 : decode prog_1_method_25_code 41 = .ok (.l2i, 1) := zo_136 (zd_b zq_prog_1_method_25_code_1 9 rfl rfl rfl)
theorem d_Ip_hold_42 : decode prog_1_method_25_code 42 = .ok (.ireturn, 1) := zo_172 (zd_b zq_prog_1_method_25_code_1 10 rfl rfl rfl)
set_option maxHeartbeats 4000000 in
set_option maxRecDepth 100000 in
theorem C_Ip_holdN (g : zG) (a pa ta sa gs co fu la gy du re wm ac : Nat) (fub fubg fut1 fut2 fut3 : Nat) (gr T1 T2 T3 : Nat → Int64) (ir : Int32) (io : Int64) (m : Nat) (hm : m < 1000) (hw : (1 ≤ nI m ∧ nI m ≤ 120)) : CT g M_Ip_hold [.ref a, .int (nI m)] [(a, .inr (11, [.ref pa, .ref ta, .ref sa, .ref gs, .ref co, .ref fu, .ref la, .ref gy, .ref du, .ref re, .ref wm, .ref ac])), (fu, .inr (3, [.ref fub, .ref fut1, .ref fut2, .ref fut3, .long io])), (fub, .inr (6, [.ref fubg, .int ir])), (fubg, .inl (3, 4, .inr (.inl gr))), (fut1, .inl (3, 4, .inr (.inl T1))), (fut2, .inl (3, 4, .inr (.inl T2))), (fut3, .inl (3, 4, .inr (.inl T3)))] (fun o cs1 => o = .inl (some (.int (((lmS (gr, T3) m).1 0).toInt32))) ∧ cs1 = [(a, .inr (11, [.ref pa, .ref ta, .ref sa, .ref gs, .ref co, .ref fu, .ref la, .ref gy, .ref du, .ref re, .ref wm, .ref ac])), (fu, .inr (3, [.ref fub, .ref fut1, .ref fut2, .ref fut3, .long io])), (fub, .inr (6, [.ref fubg, .int ir])), (fubg, .inl (3, 4, .inr (.inl ((lmS (gr, T3) m).1)))), (fut1, .inl (3, 4, .inr (.inl T1))), (fut2, .inl (3, 4, .inr (.inl T2))), (fut3, .inl (3, 4, .inr (.inl ((lmS (gr, T3) m).2))))]) 1 6 := by
  refine z_of (by decide) rfl (Nat.le_of_ble_eq_true rfl) (fun w0 => ?_)
  refine r_lvE (lv2 := [(0, .ref a), (1, .int (nI m))]) rfl ?_
  refine r_iload_n d_Ip_hold_0 rfl 1 rfl ?_
  refine r_iconst d_Ip_hold_1 (v := 1) (by decide) ?_
  refine r_bipush d_Ip_hold_2 (v := 120) (by decide) ?_
  refine r_callS (As := [.int (nI m), .int 1, .int 120]) (rest := []) (csC := []) (is := []) ln_Ip_203 w_st_Ip_isWithin ok_Ip_hold_Ip_isWithin d_Ip_hold_4 (C_Ip_isWithin g (nI m) 1 120) rfl rfl (Nat.le_of_ble_eq_true rfl) rfl (by decide) (by omega) (by omega) (fun E cs1 hx => ?_) (fun v cs1 hx => ?_)
  · exact absurd hx.1 (by simp)
  · obtain ⟨e1, rfl⟩ := hx
    cases e1
    refine ⟨rfl, ?_⟩
    refine r_st (st2 := [.int (if 1 ≤ (nI m) ∧ (nI m) ≤ 120 then 1 else 0)]) rfl ?_
    refine r_cs (cs2 := [(a, .inr (11, [.ref pa, .ref ta, .ref sa, .ref gs, .ref co, .ref fu, .ref la, .ref gy, .ref du, .ref re, .ref wm, .ref ac])), (fu, .inr (3, [.ref fub, .ref fut1, .ref fut2, .ref fut3, .long io])), (fub, .inr (6, [.ref fubg, .int ir])), (fubg, .inl (3, 4, .inr (.inl gr))), (fut1, .inl (3, 4, .inr (.inl T1))), (fut2, .inl (3, 4, .inr (.inl T2))), (fut3, .inl (3, 4, .inr (.inl T3)))]) rfl ?_
    refine r_if_ne (tgt := 21) d_Ip_hold_7 (by decide) (fun c_7 => ?_) (fun c_7 => ?_)
    · refine r_aload_n d_Ip_hold_21 rfl 0 rfl ?_
      refine r_get fs_Ip_43 d_Ip_hold_22 (q0 := 0) rfl rfl ?_
      refine r_iload_n d_Ip_hold_25 rfl 1 rfl ?_
      refine r_callV (As := [.int (nI m)]) (rest := []) (csC := [(fu, .inr (3, [.ref fub, .ref fut1, .ref fut2, .ref fut3, .long io])), (fub, .inr (6, [.ref fubg, .int ir])), (fubg, .inl (3, 4, .inr (.inl gr))), (fut1, .inl (3, 4, .inr (.inl T1))), (fut2, .inl (3, 4, .inr (.inl T2))), (fut3, .inl (3, 4, .inr (.inl T3)))]) (is := [1, 2, 3, 4, 5, 6]) (q0 := 1) rfl rfl ln_Ip_305 w_im_Fu_loseFor w_se_Fu_loseFor ok_Ip_hold_Fu_loseFor d_Ip_hold_26 (C_Fu_loseFor g fu fub fubg fut1 fut2 fut3 gr T1 T2 T3 ir io m hm) rfl rfl (Nat.le_of_ble_eq_true rfl) rfl (by decide) (by omega) (by omega) (fun E cs1 hx => ?_) (fun v cs1 hx => ?_)
      · exact absurd hx.1 (by simp)
      · obtain ⟨e1, rfl⟩ := hx
        cases e1
        refine ⟨rfl, ?_⟩
        refine r_st (st2 := []) rfl ?_
        refine r_cs (cs2 := [(a, .inr (11, [.ref pa, .ref ta, .ref sa, .ref gs, .ref co, .ref fu, .ref la, .ref gy, .ref du, .ref re, .ref wm, .ref ac])), (fu, .inr (3, [.ref fub, .ref fut1, .ref fut2, .ref fut3, .long io])), (fub, .inr (6, [.ref fubg, .int ir])), (fubg, .inl (3, 4, .inr (.inl ((lmS (gr, T3) m).1)))), (fut1, .inl (3, 4, .inr (.inl T1))), (fut2, .inl (3, 4, .inr (.inl T2))), (fut3, .inl (3, 4, .inr (.inl ((lmS (gr, T3) m).2))))]) rfl ?_
        refine r_aload_n d_Ip_hold_29 rfl 0 rfl ?_
        refine r_get fs_Ip_43 d_Ip_hold_30 (q0 := 0) rfl rfl ?_
        refine r_get fs_Ip_277 d_Ip_hold_33 (q0 := 1) rfl rfl ?_
        refine r_get fs_Ip_308 d_Ip_hold_36 (q0 := 2) rfl rfl ?_
        refine r_iconst d_Ip_hold_39 (v := 0) (by decide) ?_
        refine r_lald d_Ip_hold_40 (q0 := 3) rfl (fun q => q.elim (by decide) (by decide)) (v := ((lmS (gr, T3) m).1) 0) rfl ?_
        refine r_l2i d_Ip_hold_41 (v := (((lmS (gr, T3) m).1) 0).toInt32) rfl ?_
        refine r_iret d_Ip_hold_42 rfl rfl ?_
        exact ⟨rfl, rfl⟩
    · exact absurd hw (z_b0 c_7)
abbrev M_Ip_treat : zM := (⟨"Ironpour", "treat", "(I)I"⟩, prog_1_method_27_code, 2, (Option.some FieldType.int), 6, 100, [])
theorem d_Ip_treat_0 : decode prog_1_method_27_code 0 = .ok (.iload_n 1, 1) := zo_27 (zd_b zq_prog_1_method_27_code_0 0 rfl rfl rfl)
theorem d_Ip_treat_1 : decode prog_1_method_27_code 1 = .ok (.iconst 1, 1) := zo_4 (zd_b zq_prog_1_method_27_code_0 1 rfl rfl rfl)
theorem d_Ip_treat_2 : decode prog_1_method_27_code 2 = .ok (.bipush 100, 2) := zo_16 (d := 100) (zd_b zq_prog_1_method_27_code_0 2 rfl rfl rfl) (zd_b zq_prog_1_method_27_code_0 3 rfl rfl rfl) (by decide +kernel)
theorem d_Ip_treat_4 : decode prog_1_method_27_code 4 = .ok (.invokestatic 203, 3) := zo_184 (d := 0) (e := 203) (zd_b zq_prog_1_method_27_code_0 4 rfl rfl rfl) (zd_b zq_prog_1_method_27_code_0 5 rfl rfl rfl) (zd_b zq_prog_1_method_27_code_0 6 rfl rfl rfl)
theorem ok_Ip_treat_Ip_isWithin : z_ok M_Ip_treat M_Ip_isWithin 3 := ⟨z_mj4 (i := 97) rfl (by decide +kernel), rfl, ⟨by decide +kernel, by decide +kernel, by decide +kernel⟩, ⟨by decide, by decide⟩, z_mj1 (i := 1) rfl (by decide +kernel), rfl⟩
theorem d_Ip_treat_7 : decode prog_1_method_27_code 7 = .ok (.ifCond .ne 14, 3) := zo_154 (d := 0) (e := 14) (zd_b zq_prog_1_method_27_code_0 7 rfl rfl rfl) (zd_b zq_prog_1_method_27_code_0 8 rfl rfl rfl) (zd_b zq_prog_1_method_27_code_0 9 rfl rfl rfl) (by decide +kernel)
theorem d_Ip_treat_10 : decode prog_1_method_27_code 10 = .ok (.new 89, 3) := zo_187 (d := 0) (e := 89) (zd_b zq_prog_1_method_27_code_0 10 rfl rfl rfl) (zd_b zq_prog_1_method_27_code_0 11 rfl rfl rfl) (zd_b zq_prog_1_method_27_code_0 12 rfl rfl rfl)
theorem sr_Ip_324 : Cond.stringRef "Ironpour" 324 "magnesium is 1 to 100" ∈ lw_tbl := z_tb5 (i := 125) rfl
theorem d_Ip_treat_13 : decode prog_1_method_27_code 13 = .ok (.dup, 1) := zo_89 (zd_b zq_prog_1_method_27_code_0 13 rfl rfl rfl)
theorem d_Ip_treat_14 : decode prog_1_method_27_code 14 = .ok (.ldc_w 324, 3) := zo_19 (d := 1) (e := 68) (zd_b zq_prog_1_method_27_code_0 14 rfl rfl rfl) (zd_b zq_prog_1_method_27_code_0 15 rfl rfl rfl) (zd_b zq_prog_1_method_27_code_0 16 rfl rfl rfl)
theorem d_Ip_treat_17 : decode prog_1_method_27_code 17 = .ok (.invokespecial 93, 3) := zo_183 (d := 0) (e := 93) (zd_b zq_prog_1_method_27_code_0 17 rfl rfl rfl) (zd_b zq_prog_1_method_27_code_0 18 rfl rfl rfl) (zd_b zq_prog_1_method_27_code_0 19 rfl rfl rfl)
theorem d_Ip_treat_20 : decode prog_1_method_27_code 20 = .ok (.athrow, 1) := zo_191 (zd_b zq_prog_1_method_27_code_0 20 rfl rfl rfl)
set_option maxHeartbeats 4000000 in
set_option maxRecDepth 100000 in
theorem C_Ip_treatE (g : zG) (a pa ta sa gs co fu la gy du re wm ac : Nat) (lab labg : Nat) (gr : Nat → Int64) (he mg wd ir : Int32) (m : Int32) (hw : ¬ (1 ≤ m ∧ m ≤ 100)) : CT g M_Ip_treat [.ref a, .int m] [(a, .inr (11, [.ref pa, .ref ta, .ref sa, .ref gs, .ref co, .ref fu, .ref la, .ref gy, .ref du, .ref re, .ref wm, .ref ac])), (la, .inr (5, [.ref lab, .int he, .int mg, .int wd])), (lab, .inr (6, [.ref labg, .int ir])), (labg, .inl (3, 4, .inr (.inl gr)))] (fun o cs1 => o = .inr "java/lang/IllegalArgumentException" ∧ cs1 = [(a, .inr (11, [.ref pa, .ref ta, .ref sa, .ref gs, .ref co, .ref fu, .ref la, .ref gy, .ref du, .ref re, .ref wm, .ref ac])), (la, .inr (5, [.ref lab, .int he, .int mg, .int wd])), (lab, .inr (6, [.ref labg, .int ir])), (labg, .inl (3, 4, .inr (.inl gr)))]) 1 6 := by
  refine z_of (by decide) rfl (Nat.le_of_ble_eq_true rfl) (fun w0 => ?_)
  refine r_lvE (lv2 := [(0, .ref a), (1, .int m)]) rfl ?_
  refine r_iload_n d_Ip_treat_0 rfl 1 rfl ?_
  refine r_iconst d_Ip_treat_1 (v := 1) (by decide) ?_
  refine r_bipush d_Ip_treat_2 (v := 100) (by decide) ?_
  refine r_callS (As := [.int m, .int 1, .int 100]) (rest := []) (csC := []) (is := []) ln_Ip_203 w_st_Ip_isWithin ok_Ip_treat_Ip_isWithin d_Ip_treat_4 (C_Ip_isWithin g m 1 100) rfl rfl (Nat.le_of_ble_eq_true rfl) rfl (by decide) (by omega) (by omega) (fun E cs1 hx => ?_) (fun v cs1 hx => ?_)
  · exact absurd hx.1 (by simp)
  · obtain ⟨e1, rfl⟩ := hx
    cases e1
    refine ⟨rfl, ?_⟩
    refine r_st (st2 := [.int (if 1 ≤ m ∧ m ≤ 100 then 1 else 0)]) rfl ?_
    refine r_cs (cs2 := [(a, .inr (11, [.ref pa, .ref ta, .ref sa, .ref gs, .ref co, .ref fu, .ref la, .ref gy, .ref du, .ref re, .ref wm, .ref ac])), (la, .inr (5, [.ref lab, .int he, .int mg, .int wd])), (lab, .inr (6, [.ref labg, .int ir])), (labg, .inl (3, 4, .inr (.inl gr)))]) rfl ?_
    refine r_if_ne (tgt := 21) d_Ip_treat_7 (by decide) (fun c_7 => ?_) (fun c_7 => ?_)
    · exact absurd (z_b1 c_7) hw
    · refine r_throwW tb_Ip_89_93 sr_Ip_324 d_Ip_treat_10 d_Ip_treat_13 d_Ip_treat_14 d_Ip_treat_17 d_Ip_treat_20 rfl (by decide) (by decide) (Nat.le_of_ble_eq_true rfl) (by omega) (by omega) ?_
      exact ⟨rfl, rfl⟩
theorem d_Ip_treat_21 : decode prog_1_method_27_code 21 = .ok (.aload_n 0, 1) := zo_42 (zd_b zq_prog_1_method_27_code_0 21 rfl rfl rfl)
theorem d_Ip_treat_22 : decode prog_1_method_27_code 22 = .ok (.getfield 50, 3) := zo_180 (d := 0) (e := 50) (zd_b zq_prog_1_method_27_code_0 22 rfl rfl rfl) (zd_b zq_prog_1_method_27_code_0 23 rfl rfl rfl) (zd_b zq_prog_1_method_27_code_0 24 rfl rfl rfl)
theorem fs_Ip_50 : z_fs "Ironpour" 50 11 6 := ⟨R_Ip, "Ironpour", F_Ip, 12, rfl, u_Ip, by decide, Or.inl ⟨z_mj2 (i := 69) rfl (by decide +kernel), Or.inl rfl⟩⟩
theorem d_Ip_treat_25 : decode prog_1_method_27_code 25 = .ok (.invokevirtual 314, 3) := zo_182 (d := 1) (e := 58) (zd_b zq_prog_1_method_27_code_0 25 rfl rfl rfl) (zd_b zq_prog_1_method_27_code_0 26 rfl rfl rfl) (zd_b zq_prog_1_method_27_code_0 27 rfl rfl rfl)
theorem ok_Ip_treat_La_isEmpty : z_ok M_Ip_treat M_La_isEmpty 0 := ⟨z_mj5 (i := 110) rfl (by decide +kernel), rfl, ⟨by decide +kernel, by decide +kernel, by decide +kernel⟩, ⟨by decide, by decide⟩, z_mj1 (i := 9) rfl (by decide +kernel), rfl⟩
theorem ln_Ip_314 : Cond.methodLink "Ironpour" 314 M_La_isEmpty.1 ∈ z_gw := z_mj5 (i := 107) rfl (by decide +kernel)
theorem w_im_La_isEmpty : Cond.instanceMethod M_La_isEmpty.1 ∈ z_gw := z_mj5 (i := 108) rfl (by decide +kernel)
theorem w_se_La_isEmpty : Cond.selects M_La_isEmpty.1.cls M_La_isEmpty.1 M_La_isEmpty.1 ∈ z_gw := z_mj5 (i := 109) rfl (by decide +kernel)
theorem d_Ip_treat_28 : decode prog_1_method_27_code 28 = .ok (.ifCond .eq 14, 3) := zo_153 (d := 0) (e := 14) (zd_b zq_prog_1_method_27_code_0 28 rfl rfl rfl) (zd_b zq_prog_1_method_27_code_0 29 rfl rfl rfl) (zd_b zq_prog_1_method_27_code_0 30 rfl rfl rfl) (by decide +kernel)
theorem d_Ip_treat_31 : decode prog_1_method_27_code 31 = .ok (.new 242, 3) := zo_187 (d := 0) (e := 242) (zd_b zq_prog_1_method_27_code_0 31 rfl rfl rfl) (zd_b zq_prog_1_method_27_code_1 0 rfl rfl rfl) (zd_b zq_prog_1_method_27_code_1 1 rfl rfl rfl)
theorem sr_Ip_326 : Cond.stringRef "Ironpour" 326 "the ladle is empty" ∈ lw_tbl := z_tb5 (i := 126) rfl
theorem d_Ip_treat_34 : decode prog_1_method_27_code 34 = .ok (.dup, 1) := zo_89 (zd_b zq_prog_1_method_27_code_1 2 rfl rfl rfl)
theorem d_Ip_treat_35 : decode prog_1_method_27_code 35 = .ok (.ldc_w 326, 3) := zo_19 (d := 1) (e := 70) (zd_b zq_prog_1_method_27_code_1 3 rfl rfl rfl) (zd_b zq_prog_1_method_27_code_1 4 rfl rfl rfl) (zd_b zq_prog_1_method_27_code_1 5 rfl rfl rfl)
theorem d_Ip_treat_38 : decode prog_1_method_27_code 38 = .ok (.invokespecial 246, 3) := zo_183 (d := 0) (e := 246) (zd_b zq_prog_1_method_27_code_1 6 rfl rfl rfl) (zd_b zq_prog_1_method_27_code_1 7 rfl rfl rfl) (zd_b zq_prog_1_method_27_code_1 8 rfl rfl rfl)
theorem d_Ip_treat_41 : decode prog_1_method_27_code 41 = .ok (.athrow, 1) := zo_191 (zd_b zq_prog_1_method_27_code_1 9 rfl rfl rfl)
set_option maxHeartbeats 4000000 in
set_option maxRecDepth 100000 in
theorem C_Ip_treatF (g : zG) (a pa ta sa gs co fu la gy du re wm ac : Nat) (lab labg : Nat) (gr : Nat → Int64) (he mg wd ir : Int32) (m : Int32) (hw : (1 ≤ m ∧ m ≤ 100)) (he0 : ir = 0) : CT g M_Ip_treat [.ref a, .int m] [(a, .inr (11, [.ref pa, .ref ta, .ref sa, .ref gs, .ref co, .ref fu, .ref la, .ref gy, .ref du, .ref re, .ref wm, .ref ac])), (la, .inr (5, [.ref lab, .int he, .int mg, .int wd])), (lab, .inr (6, [.ref labg, .int ir])), (labg, .inl (3, 4, .inr (.inl gr)))] (fun o cs1 => o = .inr "java/lang/IllegalStateException" ∧ cs1 = [(a, .inr (11, [.ref pa, .ref ta, .ref sa, .ref gs, .ref co, .ref fu, .ref la, .ref gy, .ref du, .ref re, .ref wm, .ref ac])), (la, .inr (5, [.ref lab, .int he, .int mg, .int wd])), (lab, .inr (6, [.ref labg, .int ir])), (labg, .inl (3, 4, .inr (.inl gr)))]) 1 6 := by
  refine z_of (by decide) rfl (Nat.le_of_ble_eq_true rfl) (fun w0 => ?_)
  refine r_lvE (lv2 := [(0, .ref a), (1, .int m)]) rfl ?_
  refine r_iload_n d_Ip_treat_0 rfl 1 rfl ?_
  refine r_iconst d_Ip_treat_1 (v := 1) (by decide) ?_
  refine r_bipush d_Ip_treat_2 (v := 100) (by decide) ?_
  refine r_callS (As := [.int m, .int 1, .int 100]) (rest := []) (csC := []) (is := []) ln_Ip_203 w_st_Ip_isWithin ok_Ip_treat_Ip_isWithin d_Ip_treat_4 (C_Ip_isWithin g m 1 100) rfl rfl (Nat.le_of_ble_eq_true rfl) rfl (by decide) (by omega) (by omega) (fun E cs1 hx => ?_) (fun v cs1 hx => ?_)
  · exact absurd hx.1 (by simp)
  · obtain ⟨e1, rfl⟩ := hx
    cases e1
    refine ⟨rfl, ?_⟩
    refine r_st (st2 := [.int (if 1 ≤ m ∧ m ≤ 100 then 1 else 0)]) rfl ?_
    refine r_cs (cs2 := [(a, .inr (11, [.ref pa, .ref ta, .ref sa, .ref gs, .ref co, .ref fu, .ref la, .ref gy, .ref du, .ref re, .ref wm, .ref ac])), (la, .inr (5, [.ref lab, .int he, .int mg, .int wd])), (lab, .inr (6, [.ref labg, .int ir])), (labg, .inl (3, 4, .inr (.inl gr)))]) rfl ?_
    refine r_if_ne (tgt := 21) d_Ip_treat_7 (by decide) (fun c_7 => ?_) (fun c_7 => ?_)
    · refine r_aload_n d_Ip_treat_21 rfl 0 rfl ?_
      refine r_get fs_Ip_50 d_Ip_treat_22 (q0 := 0) rfl rfl ?_
      refine r_callV (As := []) (rest := []) (csC := [(la, .inr (5, [.ref lab, .int he, .int mg, .int wd])), (lab, .inr (6, [.ref labg, .int ir])), (labg, .inl (3, 4, .inr (.inl gr)))]) (is := [1, 2, 3]) (q0 := 1) rfl rfl ln_Ip_314 w_im_La_isEmpty w_se_La_isEmpty ok_Ip_treat_La_isEmpty d_Ip_treat_25 (C_La_isEmpty g la lab labg gr he mg wd ir) rfl rfl (Nat.le_of_ble_eq_true rfl) rfl (by decide) (by omega) (by omega) (fun E cs1 hx => ?_) (fun v cs1 hx => ?_)
      · exact absurd hx.1 (by simp)
      · obtain ⟨e1, rfl⟩ := hx
        cases e1
        refine ⟨rfl, ?_⟩
        refine r_st (st2 := [.int (if ir = 0 then 1 else 0)]) rfl ?_
        refine r_cs (cs2 := [(a, .inr (11, [.ref pa, .ref ta, .ref sa, .ref gs, .ref co, .ref fu, .ref la, .ref gy, .ref du, .ref re, .ref wm, .ref ac])), (la, .inr (5, [.ref lab, .int he, .int mg, .int wd])), (lab, .inr (6, [.ref labg, .int ir])), (labg, .inl (3, 4, .inr (.inl gr)))]) rfl ?_
        refine r_if_eq (tgt := 42) d_Ip_treat_28 (by decide) (fun c_28 => ?_) (fun c_28 => ?_)
        · exact absurd he0 (z_b0 c_28)
        · refine r_throwW tb_Ip_242_246 sr_Ip_326 d_Ip_treat_31 d_Ip_treat_34 d_Ip_treat_35 d_Ip_treat_38 d_Ip_treat_41 rfl (by decide) (by decide) (Nat.le_of_ble_eq_true rfl) (by omega) (by omega) ?_
          exact ⟨rfl, rfl⟩
    · exact absurd hw (z_b0 c_7)
theorem d_Ip_treat_42 : decode prog_1_method_27_code 42 = .ok (.aload_n 0, 1) := zo_42 (zd_b zq_prog_1_method_27_code_1 10 rfl rfl rfl)
theorem d_Ip_treat_43 : decode prog_1_method_27_code 43 = .ok (.getfield 50, 3) := zo_180 (d := 0) (e := 50) (zd_b zq_prog_1_method_27_code_1 11 rfl rfl rfl) (zd_b zq_prog_1_method_27_code_1 12 rfl rfl rfl) (zd_b zq_prog_1_method_27_code_1 13 rfl rfl rfl)
theorem d_Ip_treat_46 : decode prog_1_method_27_code 46 = .ok (.getfield 328, 3) := zo_180 (d := 1) (e := 72) (zd_b zq_prog_1_method_27_code_1 14 rfl rfl rfl) (zd_b zq_prog_1_method_27_code_1 15 rfl rfl rfl) (zd_b zq_prog_1_method_27_code_1 16 rfl rfl rfl)
theorem fs_Ip_328 : z_fs "Ironpour" 328 5 2 := ⟨R_La, "Ironpour$Ladle", F_La, 4, rfl, u_La, by decide, Or.inr ⟨"Ironpour", z_mk2 (i := 4) rfl (by decide +kernel), rfl⟩⟩
theorem d_Ip_treat_49 : decode prog_1_method_27_code 49 = .ok (.iload_n 1, 1) := zo_27 (zd_b zq_prog_1_method_27_code_1 17 rfl rfl rfl)
theorem d_Ip_treat_50 : decode prog_1_method_27_code 50 = .ok (.iadd, 1) := zo_96 (zd_b zq_prog_1_method_27_code_1 18 rfl rfl rfl)
theorem d_Ip_treat_51 : decode prog_1_method_27_code 51 = .ok (.bipush 100, 2) := zo_16 (d := 100) (zd_b zq_prog_1_method_27_code_1 19 rfl rfl rfl) (zd_b zq_prog_1_method_27_code_1 20 rfl rfl rfl) (by decide +kernel)
theorem d_Ip_treat_53 : decode prog_1_method_27_code 53 = .ok (.if_icmp .le 14, 3) := zo_164 (d := 0) (e := 14) (zd_b zq_prog_1_method_27_code_1 21 rfl rfl rfl) (zd_b zq_prog_1_method_27_code_1 22 rfl rfl rfl) (zd_b zq_prog_1_method_27_code_1 23 rfl rfl rfl) (by decide +kernel)
theorem d_Ip_treat_56 : decode prog_1_method_27_code 56 = .ok (.new 272, 3) := zo_187 (d := 1) (e := 16) (zd_b zq_prog_1_method_27_code_1 24 rfl rfl rfl) (zd_b zq_prog_1_method_27_code_1 25 rfl rfl rfl) (zd_b zq_prog_1_method_27_code_1 26 rfl rfl rfl)
theorem tb_Ip_272_276 : z_tb "Ironpour" 272 276 "java/lang/UnsupportedOperationException" := ⟨by decide +kernel, z_mj5 (i := 28) rfl (by decide +kernel), z_mj1 (i := 33) rfl (by decide +kernel), fun w h => ((z_at [(1, 21), (3, 163), (3, 172), (3, 180), (3, 183), (3, 185), (3, 164), (3, 165), (1, 44), (1, 45), (3, 166), (3, 171), (3, 181), (3, 201), (3, 153), (3, 202), (3, 155), (3, 203), (3, 157), (3, 167), (3, 169), (3, 159), (3, 197), (3, 198), (3, 200), (3, 159), (5, 39), (5, 40), (5, 41), (3, 191), (3, 145), (3, 191), (3, 192), (3, 193), (3, 194), (3, 147), (3, 194), (3, 195), (3, 196), (3, 197), (3, 149), (5, 38), (5, 29), (5, 30), (5, 31), (3, 178), (5, 32), (5, 33), (5, 34), (5, 35), (3, 162), (3, 161), (5, 36)] (by decide +kernel) (by decide +kernel) : ∀ w ∈ vx_atS "Ironpour" 276 "java/lang/UnsupportedOperationException" ["java/lang/RuntimeException", "java/lang/Exception"], w ∈ lw_tbl ∧ (goodWord w || z_isN w) = true) w h).elim (fun h1 h2 => (Bool.or_eq_true _ _ ▸ h2).elim (fun h3 => Or.inl (List.mem_filter.mpr ⟨h1, h3⟩)) (fun h3 => Or.inr (List.mem_filter.mpr ⟨h1, h3⟩))), by decide +kernel⟩
theorem sr_Ip_331 : Cond.stringRef "Ironpour" 331 "it would have more than 100" ∈ lw_tbl := z_tb5 (i := 127) rfl
theorem d_Ip_treat_59 : decode prog_1_method_27_code 59 = .ok (.dup, 1) := zo_89 (zd_b zq_prog_1_method_27_code_1 27 rfl rfl rfl)
theorem d_Ip_treat_60 : decode prog_1_method_27_code 60 = .ok (.ldc_w 331, 3) := zo_19 (d := 1) (e := 75) (zd_b zq_prog_1_method_27_code_1 28 rfl rfl rfl) (zd_b zq_prog_1_method_27_code_1 29 rfl rfl rfl) (zd_b zq_prog_1_method_27_code_1 30 rfl rfl rfl)
theorem d_Ip_treat_63 : decode prog_1_method_27_code 63 = .ok (.invokespecial 276, 3) := zo_183 (d := 1) (e := 20) (zd_b zq_prog_1_method_27_code_1 31 rfl rfl rfl) (zd_b zq_prog_1_method_27_code_2 0 rfl rfl rfl) (zd_b zq_prog_1_method_27_code_2 1 rfl rfl rfl)
theorem d_Ip_treat_66 : decode prog_1_method_27_code 66 = .ok (.athrow, 1) := zo_191 (zd_b zq_prog_1_method_27_code_2 2 rfl rfl rfl)
set_option maxHeartbeats 4000000 in
set_option maxRecDepth 100000 in
theorem C_Ip_treatG (g : zG) (a pa ta sa gs co fu la gy du re wm ac : Nat) (lab labg : Nat) (gr : Nat → Int64) (he mg wd ir : Int32) (m : Int32) (hw : (1 ≤ m ∧ m ≤ 100)) (he0 : ¬ ir = 0) (hg : ¬ mg + m ≤ 100) : CT g M_Ip_treat [.ref a, .int m] [(a, .inr (11, [.ref pa, .ref ta, .ref sa, .ref gs, .ref co, .ref fu, .ref la, .ref gy, .ref du, .ref re, .ref wm, .ref ac])), (la, .inr (5, [.ref lab, .int he, .int mg, .int wd])), (lab, .inr (6, [.ref labg, .int ir])), (labg, .inl (3, 4, .inr (.inl gr)))] (fun o cs1 => o = .inr "java/lang/UnsupportedOperationException" ∧ cs1 = [(a, .inr (11, [.ref pa, .ref ta, .ref sa, .ref gs, .ref co, .ref fu, .ref la, .ref gy, .ref du, .ref re, .ref wm, .ref ac])), (la, .inr (5, [.ref lab, .int he, .int mg, .int wd])), (lab, .inr (6, [.ref labg, .int ir])), (labg, .inl (3, 4, .inr (.inl gr)))]) 1 6 := by
  refine z_of (by decide) rfl (Nat.le_of_ble_eq_true rfl) (fun w0 => ?_)
  refine r_lvE (lv2 := [(0, .ref a), (1, .int m)]) rfl ?_
  refine r_iload_n d_Ip_treat_0 rfl 1 rfl ?_
  refine r_iconst d_Ip_treat_1 (v := 1) (by decide) ?_
  refine r_bipush d_Ip_treat_2 (v := 100) (by decide) ?_
  refine r_callS (As := [.int m, .int 1, .int 100]) (rest := []) (csC := []) (is := []) ln_Ip_203 w_st_Ip_isWithin ok_Ip_treat_Ip_isWithin d_Ip_treat_4 (C_Ip_isWithin g m 1 100) rfl rfl (Nat.le_of_ble_eq_true rfl) rfl (by decide) (by omega) (by omega) (fun E cs1 hx => ?_) (fun v cs1 hx => ?_)
  · exact absurd hx.1 (by simp)
  · obtain ⟨e1, rfl⟩ := hx
    cases e1
    refine ⟨rfl, ?_⟩
    refine r_st (st2 := [.int (if 1 ≤ m ∧ m ≤ 100 then 1 else 0)]) rfl ?_
    refine r_cs (cs2 := [(a, .inr (11, [.ref pa, .ref ta, .ref sa, .ref gs, .ref co, .ref fu, .ref la, .ref gy, .ref du, .ref re, .ref wm, .ref ac])), (la, .inr (5, [.ref lab, .int he, .int mg, .int wd])), (lab, .inr (6, [.ref labg, .int ir])), (labg, .inl (3, 4, .inr (.inl gr)))]) rfl ?_
    refine r_if_ne (tgt := 21) d_Ip_treat_7 (by decide) (fun c_7 => ?_) (fun c_7 => ?_)
    · refine r_aload_n d_Ip_treat_21 rfl 0 rfl ?_
      refine r_get fs_Ip_50 d_Ip_treat_22 (q0 := 0) rfl rfl ?_
      refine r_callV (As := []) (rest := []) (csC := [(la, .inr (5, [.ref lab, .int he, .int mg, .int wd])), (lab, .inr (6, [.ref labg, .int ir])), (labg, .inl (3, 4, .inr (.inl gr)))]) (is := [1, 2, 3]) (q0 := 1) rfl rfl ln_Ip_314 w_im_La_isEmpty w_se_La_isEmpty ok_Ip_treat_La_isEmpty d_Ip_treat_25 (C_La_isEmpty g la lab labg gr he mg wd ir) rfl rfl (Nat.le_of_ble_eq_true rfl) rfl (by decide) (by omega) (by omega) (fun E cs1 hx => ?_) (fun v cs1 hx => ?_)
      · exact absurd hx.1 (by simp)
      · obtain ⟨e1, rfl⟩ := hx
        cases e1
        refine ⟨rfl, ?_⟩
        refine r_st (st2 := [.int (if ir = 0 then 1 else 0)]) rfl ?_
        refine r_cs (cs2 := [(a, .inr (11, [.ref pa, .ref ta, .ref sa, .ref gs, .ref co, .ref fu, .ref la, .ref gy, .ref du, .ref re, .ref wm, .ref ac])), (la, .inr (5, [.ref lab, .int he, .int mg, .int wd])), (lab, .inr (6, [.ref labg, .int ir])), (labg, .inl (3, 4, .inr (.inl gr)))]) rfl ?_
        refine r_if_eq (tgt := 42) d_Ip_treat_28 (by decide) (fun c_28 => ?_) (fun c_28 => ?_)
        · refine r_aload_n d_Ip_treat_42 rfl 0 rfl ?_
          refine r_get fs_Ip_50 d_Ip_treat_43 (q0 := 0) rfl rfl ?_
          refine r_get fs_Ip_328 d_Ip_treat_46 (q0 := 1) rfl rfl ?_
          refine r_iload_n d_Ip_treat_49 rfl 1 rfl ?_
          refine r_iadd d_Ip_treat_50 (v := mg + m) rfl ?_
          refine r_bipush d_Ip_treat_51 (v := 100) (by decide) ?_
          refine r_icmp_le (tgt := 67) d_Ip_treat_53 (by decide) (fun c_53 => ?_) (fun c_53 => ?_)
          · exact absurd c_53 hg
          · refine r_throwW tb_Ip_272_276 sr_Ip_331 d_Ip_treat_56 d_Ip_treat_59 d_Ip_treat_60 d_Ip_treat_63 d_Ip_treat_66 rfl (by decide) (by decide) (Nat.le_of_ble_eq_true rfl) (by omega) (by omega) ?_
            exact ⟨rfl, rfl⟩
        · exact absurd (z_b1 c_28) he0
    · exact absurd hw (z_b0 c_7)
theorem d_Ip_treat_67 : decode prog_1_method_27_code 67 = .ok (.aload_n 0, 1) := zo_42 (zd_b zq_prog_1_method_27_code_2 3 rfl rfl rfl)
theorem d_Ip_treat_68 : decode prog_1_method_27_code 68 = .ok (.getfield 50, 3) := zo_180 (d := 0) (e := 50) (zd_b zq_prog_1_method_27_code_2 4 rfl rfl rfl) (zd_b zq_prog_1_method_27_code_2 5 rfl rfl rfl) (zd_b zq_prog_1_method_27_code_2 6 rfl rfl rfl)
theorem d_Ip_treat_71 : decode prog_1_method_27_code 71 = .ok (.iload_n 1, 1) := zo_27 (zd_b zq_prog_1_method_27_code_2 7 rfl rfl rfl)
theorem d_Ip_treat_72 : decode prog_1_method_27_code 72 = .ok (.invokevirtual 333, 3) := zo_182 (d := 1) (e := 77) (zd_b zq_prog_1_method_27_code_2 8 rfl rfl rfl) (zd_b zq_prog_1_method_27_code_2 9 rfl rfl rfl) (zd_b zq_prog_1_method_27_code_2 10 rfl rfl rfl)
theorem ok_Ip_treat_La_addMagnesium : z_ok M_Ip_treat M_La_addMagnesium 1 := ⟨z_mj5 (i := 131) rfl (by decide +kernel), rfl, ⟨by decide +kernel, by decide +kernel, by decide +kernel⟩, ⟨by decide, by decide⟩, z_mj1 (i := 9) rfl (by decide +kernel), rfl⟩
theorem ln_Ip_333 : Cond.methodLink "Ironpour" 333 M_La_addMagnesium.1 ∈ z_gw := z_mj5 (i := 128) rfl (by decide +kernel)
theorem w_im_La_addMagnesium : Cond.instanceMethod M_La_addMagnesium.1 ∈ z_gw := z_mj5 (i := 129) rfl (by decide +kernel)
theorem w_se_La_addMagnesium : Cond.selects M_La_addMagnesium.1.cls M_La_addMagnesium.1 M_La_addMagnesium.1 ∈ z_gw := z_mj5 (i := 130) rfl (by decide +kernel)
theorem d_Ip_treat_75 : decode prog_1_method_27_code 75 = .ok (.aload_n 0, 1) := zo_42 (zd_b zq_prog_1_method_27_code_2 11 rfl rfl rfl)
theorem d_Ip_treat_76 : decode prog_1_method_27_code 76 = .ok (.getfield 50, 3) := zo_180 (d := 0) (e := 50) (zd_b zq_prog_1_method_27_code_2 12 rfl rfl rfl) (zd_b zq_prog_1_method_27_code_2 13 rfl rfl rfl) (zd_b zq_prog_1_method_27_code_2 14 rfl rfl rfl)
theorem d_Ip_treat_79 : decode prog_1_method_27_code 79 = .ok (.getfield 328, 3) := zo_180 (d := 1) (e := 72) (zd_b zq_prog_1_method_27_code_2 15 rfl rfl rfl) (zd_b zq_prog_1_method_27_code_2 16 rfl rfl rfl) (zd_b zq_prog_1_method_27_code_2 17 rfl rfl rfl)
theorem d_Ip_treat_82 : decode prog_1_method_27_code 82 = .ok (.ireturn, 1) := zo_172 (zd_b zq_prog_1_method_27_code_2 18 rfl rfl rfl)
set_option maxHeartbeats 4000000 in
set_option maxRecDepth 100000 in
theorem C_Ip_treatN (g : zG) (a pa ta sa gs co fu la gy du re wm ac : Nat) (lab labg : Nat) (gr : Nat → Int64) (he mg wd ir : Int32) (m : Int32) (hwd : wd = 0 ∨ wd = 1) (hw : (1 ≤ m ∧ m ≤ 100)) (he0 : ¬ ir = 0) (hg : mg + m ≤ 100) : CT g M_Ip_treat [.ref a, .int m] [(a, .inr (11, [.ref pa, .ref ta, .ref sa, .ref gs, .ref co, .ref fu, .ref la, .ref gy, .ref du, .ref re, .ref wm, .ref ac])), (la, .inr (5, [.ref lab, .int he, .int mg, .int wd])), (lab, .inr (6, [.ref labg, .int ir])), (labg, .inl (3, 4, .inr (.inl gr)))] (fun o cs1 => o = .inl (some (.int (mg + m))) ∧ cs1 = [(a, .inr (11, [.ref pa, .ref ta, .ref sa, .ref gs, .ref co, .ref fu, .ref la, .ref gy, .ref du, .ref re, .ref wm, .ref ac])), (la, .inr (5, [.ref lab, .int he, .int (mg + m), .int (if mg + m < 20 then wd else 1)])), (lab, .inr (6, [.ref labg, .int ir])), (labg, .inl (3, 4, .inr (.inl gr)))]) 1 6 := by
  refine z_of (by decide) rfl (Nat.le_of_ble_eq_true rfl) (fun w0 => ?_)
  refine r_lvE (lv2 := [(0, .ref a), (1, .int m)]) rfl ?_
  refine r_iload_n d_Ip_treat_0 rfl 1 rfl ?_
  refine r_iconst d_Ip_treat_1 (v := 1) (by decide) ?_
  refine r_bipush d_Ip_treat_2 (v := 100) (by decide) ?_
  refine r_callS (As := [.int m, .int 1, .int 100]) (rest := []) (csC := []) (is := []) ln_Ip_203 w_st_Ip_isWithin ok_Ip_treat_Ip_isWithin d_Ip_treat_4 (C_Ip_isWithin g m 1 100) rfl rfl (Nat.le_of_ble_eq_true rfl) rfl (by decide) (by omega) (by omega) (fun E cs1 hx => ?_) (fun v cs1 hx => ?_)
  · exact absurd hx.1 (by simp)
  · obtain ⟨e1, rfl⟩ := hx
    cases e1
    refine ⟨rfl, ?_⟩
    refine r_st (st2 := [.int (if 1 ≤ m ∧ m ≤ 100 then 1 else 0)]) rfl ?_
    refine r_cs (cs2 := [(a, .inr (11, [.ref pa, .ref ta, .ref sa, .ref gs, .ref co, .ref fu, .ref la, .ref gy, .ref du, .ref re, .ref wm, .ref ac])), (la, .inr (5, [.ref lab, .int he, .int mg, .int wd])), (lab, .inr (6, [.ref labg, .int ir])), (labg, .inl (3, 4, .inr (.inl gr)))]) rfl ?_
    refine r_if_ne (tgt := 21) d_Ip_treat_7 (by decide) (fun c_7 => ?_) (fun c_7 => ?_)
    · refine r_aload_n d_Ip_treat_21 rfl 0 rfl ?_
      refine r_get fs_Ip_50 d_Ip_treat_22 (q0 := 0) rfl rfl ?_
      refine r_callV (As := []) (rest := []) (csC := [(la, .inr (5, [.ref lab, .int he, .int mg, .int wd])), (lab, .inr (6, [.ref labg, .int ir])), (labg, .inl (3, 4, .inr (.inl gr)))]) (is := [1, 2, 3]) (q0 := 1) rfl rfl ln_Ip_314 w_im_La_isEmpty w_se_La_isEmpty ok_Ip_treat_La_isEmpty d_Ip_treat_25 (C_La_isEmpty g la lab labg gr he mg wd ir) rfl rfl (Nat.le_of_ble_eq_true rfl) rfl (by decide) (by omega) (by omega) (fun E cs1 hx => ?_) (fun v cs1 hx => ?_)
      · exact absurd hx.1 (by simp)
      · obtain ⟨e1, rfl⟩ := hx
        cases e1
        refine ⟨rfl, ?_⟩
        refine r_st (st2 := [.int (if ir = 0 then 1 else 0)]) rfl ?_
        refine r_cs (cs2 := [(a, .inr (11, [.ref pa, .ref ta, .ref sa, .ref gs, .ref co, .ref fu, .ref la, .ref gy, .ref du, .ref re, .ref wm, .ref ac])), (la, .inr (5, [.ref lab, .int he, .int mg, .int wd])), (lab, .inr (6, [.ref labg, .int ir])), (labg, .inl (3, 4, .inr (.inl gr)))]) rfl ?_
        refine r_if_eq (tgt := 42) d_Ip_treat_28 (by decide) (fun c_28 => ?_) (fun c_28 => ?_)
        · refine r_aload_n d_Ip_treat_42 rfl 0 rfl ?_
          refine r_get fs_Ip_50 d_Ip_treat_43 (q0 := 0) rfl rfl ?_
          refine r_get fs_Ip_328 d_Ip_treat_46 (q0 := 1) rfl rfl ?_
          refine r_iload_n d_Ip_treat_49 rfl 1 rfl ?_
          refine r_iadd d_Ip_treat_50 (v := mg + m) rfl ?_
          refine r_bipush d_Ip_treat_51 (v := 100) (by decide) ?_
          refine r_icmp_le (tgt := 67) d_Ip_treat_53 (by decide) (fun c_53 => ?_) (fun c_53 => ?_)
          · refine r_aload_n d_Ip_treat_67 rfl 0 rfl ?_
            refine r_get fs_Ip_50 d_Ip_treat_68 (q0 := 0) rfl rfl ?_
            refine r_iload_n d_Ip_treat_71 rfl 1 rfl ?_
            refine r_callV (As := [.int m]) (rest := []) (csC := [(la, .inr (5, [.ref lab, .int he, .int mg, .int wd])), (lab, .inr (6, [.ref labg, .int ir])), (labg, .inl (3, 4, .inr (.inl gr)))]) (is := [1, 2, 3]) (q0 := 1) rfl rfl ln_Ip_333 w_im_La_addMagnesium w_se_La_addMagnesium ok_Ip_treat_La_addMagnesium d_Ip_treat_72 (C_La_addMagnesium g la lab labg gr he mg wd ir m hwd) rfl rfl (Nat.le_of_ble_eq_true rfl) rfl (by decide) (by omega) (by omega) (fun E cs1 hx => ?_) (fun v cs1 hx => ?_)
            · exact absurd hx.1 (by simp)
            · obtain ⟨e1, rfl⟩ := hx
              cases e1
              refine ⟨rfl, ?_⟩
              refine r_st (st2 := []) rfl ?_
              refine r_cs (cs2 := [(a, .inr (11, [.ref pa, .ref ta, .ref sa, .ref gs, .ref co, .ref fu, .ref la, .ref gy, .ref du, .ref re, .ref wm, .ref ac])), (la, .inr (5, [.ref lab, .int he, .int (mg + m), .int (if mg + m < 20 then wd else 1)])), (lab, .inr (6, [.ref labg, .int ir])), (labg, .inl (3, 4, .inr (.inl gr)))]) rfl ?_
              refine r_aload_n d_Ip_treat_75 rfl 0 rfl ?_
              refine r_get fs_Ip_50 d_Ip_treat_76 (q0 := 0) rfl rfl ?_
              refine r_get fs_Ip_328 d_Ip_treat_79 (q0 := 1) rfl rfl ?_
              refine r_iret d_Ip_treat_82 rfl rfl ?_
              exact ⟨rfl, rfl⟩
          · exact absurd hg c_53
        · exact absurd (z_b1 c_28) he0
    · exact absurd hw (z_b0 c_7)
end
section
abbrev M_Ip_tap : zM := (⟨"Ironpour", "tap", "(I)I"⟩, prog_1_method_26_code, 2, (Option.some FieldType.int), 6, 100, [])
theorem d_Ip_tap_0 : decode prog_1_method_26_code 0 = .ok (.iload_n 1, 1) := zo_27 (zd_b zq_prog_1_method_26_code_0 0 rfl rfl rfl)
theorem d_Ip_tap_1 : decode prog_1_method_26_code 1 = .ok (.iconst 1, 1) := zo_4 (zd_b zq_prog_1_method_26_code_0 1 rfl rfl rfl)
theorem d_Ip_tap_2 : decode prog_1_method_26_code 2 = .ok (.sipush 500, 3) := zo_17 (d := 1) (e := 244) (zd_b zq_prog_1_method_26_code_0 2 rfl rfl rfl) (zd_b zq_prog_1_method_26_code_0 3 rfl rfl rfl) (zd_b zq_prog_1_method_26_code_0 4 rfl rfl rfl) (by decide +kernel)
theorem d_Ip_tap_5 : decode prog_1_method_26_code 5 = .ok (.invokestatic 203, 3) := zo_184 (d := 0) (e := 203) (zd_b zq_prog_1_method_26_code_0 5 rfl rfl rfl) (zd_b zq_prog_1_method_26_code_0 6 rfl rfl rfl) (zd_b zq_prog_1_method_26_code_0 7 rfl rfl rfl)
theorem ok_Ip_tap_Ip_isWithin : z_ok M_Ip_tap M_Ip_isWithin 3 := ⟨z_mj4 (i := 97) rfl (by decide +kernel), rfl, ⟨by decide +kernel, by decide +kernel, by decide +kernel⟩, ⟨by decide, by decide⟩, z_mj1 (i := 1) rfl (by decide +kernel), rfl⟩
theorem d_Ip_tap_8 : decode prog_1_method_26_code 8 = .ok (.ifCond .ne 14, 3) := zo_154 (d := 0) (e := 14) (zd_b zq_prog_1_method_26_code_0 8 rfl rfl rfl) (zd_b zq_prog_1_method_26_code_0 9 rfl rfl rfl) (zd_b zq_prog_1_method_26_code_0 10 rfl rfl rfl) (by decide +kernel)
theorem d_Ip_tap_11 : decode prog_1_method_26_code 11 = .ok (.new 89, 3) := zo_187 (d := 0) (e := 89) (zd_b zq_prog_1_method_26_code_0 11 rfl rfl rfl) (zd_b zq_prog_1_method_26_code_0 12 rfl rfl rfl) (zd_b zq_prog_1_method_26_code_0 13 rfl rfl rfl)
theorem sr_Ip_312 : Cond.stringRef "Ironpour" 312 "1 to 500 kilograms are tapped" ∈ lw_tbl := z_tb5 (i := 106) rfl
theorem d_Ip_tap_14 : decode prog_1_method_26_code 14 = .ok (.dup, 1) := zo_89 (zd_b zq_prog_1_method_26_code_0 14 rfl rfl rfl)
theorem d_Ip_tap_15 : decode prog_1_method_26_code 15 = .ok (.ldc_w 312, 3) := zo_19 (d := 1) (e := 56) (zd_b zq_prog_1_method_26_code_0 15 rfl rfl rfl) (zd_b zq_prog_1_method_26_code_0 16 rfl rfl rfl) (zd_b zq_prog_1_method_26_code_0 17 rfl rfl rfl)
theorem d_Ip_tap_18 : decode prog_1_method_26_code 18 = .ok (.invokespecial 93, 3) := zo_183 (d := 0) (e := 93) (zd_b zq_prog_1_method_26_code_0 18 rfl rfl rfl) (zd_b zq_prog_1_method_26_code_0 19 rfl rfl rfl) (zd_b zq_prog_1_method_26_code_0 20 rfl rfl rfl)
theorem d_Ip_tap_21 : decode prog_1_method_26_code 21 = .ok (.athrow, 1) := zo_191 (zd_b zq_prog_1_method_26_code_0 21 rfl rfl rfl)
set_option maxHeartbeats 4000000 in
set_option maxRecDepth 100000 in
theorem C_Ip_tapE (g : zG) (a pa ta sa gs co fu la gy du re wm ac : Nat) (lab labg fub fubg fut1 fut2 fut3 : Nat) (gr gb : Nat → Int64) (he mg wd ir ib : Int32) (io : Int64) (m : Int32) (hw : ¬ (1 ≤ m ∧ m ≤ 500)) : CT g M_Ip_tap [.ref a, .int m] [(a, .inr (11, [.ref pa, .ref ta, .ref sa, .ref gs, .ref co, .ref fu, .ref la, .ref gy, .ref du, .ref re, .ref wm, .ref ac])), (la, .inr (5, [.ref lab, .int he, .int mg, .int wd])), (lab, .inr (6, [.ref labg, .int ir])), (labg, .inl (3, 4, .inr (.inl gr))), (fu, .inr (3, [.ref fub, .ref fut1, .ref fut2, .ref fut3, .long io])), (fub, .inr (6, [.ref fubg, .int ib])), (fubg, .inl (3, 4, .inr (.inl gb)))] (fun o cs1 => o = .inr "java/lang/IllegalArgumentException" ∧ cs1 = [(a, .inr (11, [.ref pa, .ref ta, .ref sa, .ref gs, .ref co, .ref fu, .ref la, .ref gy, .ref du, .ref re, .ref wm, .ref ac])), (la, .inr (5, [.ref lab, .int he, .int mg, .int wd])), (lab, .inr (6, [.ref labg, .int ir])), (labg, .inl (3, 4, .inr (.inl gr))), (fu, .inr (3, [.ref fub, .ref fut1, .ref fut2, .ref fut3, .long io])), (fub, .inr (6, [.ref fubg, .int ib])), (fubg, .inl (3, 4, .inr (.inl gb)))]) 1 6 := by
  refine z_of (by decide) rfl (Nat.le_of_ble_eq_true rfl) (fun w0 => ?_)
  refine r_lvE (lv2 := [(0, .ref a), (1, .int m)]) rfl ?_
  refine r_iload_n d_Ip_tap_0 rfl 1 rfl ?_
  refine r_iconst d_Ip_tap_1 (v := 1) (by decide) ?_
  refine r_sipush d_Ip_tap_2 (v := 500) (by decide) ?_
  refine r_callS (As := [.int m, .int 1, .int 500]) (rest := []) (csC := []) (is := []) ln_Ip_203 w_st_Ip_isWithin ok_Ip_tap_Ip_isWithin d_Ip_tap_5 (C_Ip_isWithin g m 1 500) rfl rfl (Nat.le_of_ble_eq_true rfl) rfl (by decide) (by omega) (by omega) (fun E cs1 hx => ?_) (fun v cs1 hx => ?_)
  · exact absurd hx.1 (by simp)
  · obtain ⟨e1, rfl⟩ := hx
    cases e1
    refine ⟨rfl, ?_⟩
    refine r_st (st2 := [.int (if 1 ≤ m ∧ m ≤ 500 then 1 else 0)]) rfl ?_
    refine r_cs (cs2 := [(a, .inr (11, [.ref pa, .ref ta, .ref sa, .ref gs, .ref co, .ref fu, .ref la, .ref gy, .ref du, .ref re, .ref wm, .ref ac])), (la, .inr (5, [.ref lab, .int he, .int mg, .int wd])), (lab, .inr (6, [.ref labg, .int ir])), (labg, .inl (3, 4, .inr (.inl gr))), (fu, .inr (3, [.ref fub, .ref fut1, .ref fut2, .ref fut3, .long io])), (fub, .inr (6, [.ref fubg, .int ib])), (fubg, .inl (3, 4, .inr (.inl gb)))]) rfl ?_
    refine r_if_ne (tgt := 22) d_Ip_tap_8 (by decide) (fun c_8 => ?_) (fun c_8 => ?_)
    · exact absurd (z_b1 c_8) hw
    · refine r_throwW tb_Ip_89_93 sr_Ip_312 d_Ip_tap_11 d_Ip_tap_14 d_Ip_tap_15 d_Ip_tap_18 d_Ip_tap_21 rfl (by decide) (by decide) (Nat.le_of_ble_eq_true rfl) (by omega) (by omega) ?_
      exact ⟨rfl, rfl⟩
theorem d_Ip_tap_22 : decode prog_1_method_26_code 22 = .ok (.aload_n 0, 1) := zo_42 (zd_b zq_prog_1_method_26_code_0 22 rfl rfl rfl)
theorem d_Ip_tap_23 : decode prog_1_method_26_code 23 = .ok (.getfield 50, 3) := zo_180 (d := 0) (e := 50) (zd_b zq_prog_1_method_26_code_0 23 rfl rfl rfl) (zd_b zq_prog_1_method_26_code_0 24 rfl rfl rfl) (zd_b zq_prog_1_method_26_code_0 25 rfl rfl rfl)
theorem d_Ip_tap_26 : decode prog_1_method_26_code 26 = .ok (.invokevirtual 314, 3) := zo_182 (d := 1) (e := 58) (zd_b zq_prog_1_method_26_code_0 26 rfl rfl rfl) (zd_b zq_prog_1_method_26_code_0 27 rfl rfl rfl) (zd_b zq_prog_1_method_26_code_0 28 rfl rfl rfl)
theorem ok_Ip_tap_La_isEmpty : z_ok M_Ip_tap M_La_isEmpty 0 := ⟨z_mj5 (i := 110) rfl (by decide +kernel), rfl, ⟨by decide +kernel, by decide +kernel, by decide +kernel⟩, ⟨by decide, by decide⟩, z_mj1 (i := 9) rfl (by decide +kernel), rfl⟩
theorem d_Ip_tap_29 : decode prog_1_method_26_code 29 = .ok (.ifCond .ne 14, 3) := zo_154 (d := 0) (e := 14) (zd_b zq_prog_1_method_26_code_0 29 rfl rfl rfl) (zd_b zq_prog_1_method_26_code_0 30 rfl rfl rfl) (zd_b zq_prog_1_method_26_code_0 31 rfl rfl rfl) (by decide +kernel)
theorem d_Ip_tap_32 : decode prog_1_method_26_code 32 = .ok (.new 242, 3) := zo_187 (d := 0) (e := 242) (zd_b zq_prog_1_method_26_code_1 0 rfl rfl rfl) (zd_b zq_prog_1_method_26_code_1 1 rfl rfl rfl) (zd_b zq_prog_1_method_26_code_1 2 rfl rfl rfl)
theorem sr_Ip_317 : Cond.stringRef "Ironpour" 317 "the ladle is not empty" ∈ lw_tbl := z_tb5 (i := 111) rfl
theorem d_Ip_tap_35 : decode prog_1_method_26_code 35 = .ok (.dup, 1) := zo_89 (zd_b zq_prog_1_method_26_code_1 3 rfl rfl rfl)
theorem d_Ip_tap_36 : decode prog_1_method_26_code 36 = .ok (.ldc_w 317, 3) := zo_19 (d := 1) (e := 61) (zd_b zq_prog_1_method_26_code_1 4 rfl rfl rfl) (zd_b zq_prog_1_method_26_code_1 5 rfl rfl rfl) (zd_b zq_prog_1_method_26_code_1 6 rfl rfl rfl)
theorem d_Ip_tap_39 : decode prog_1_method_26_code 39 = .ok (.invokespecial 246, 3) := zo_183 (d := 0) (e := 246) (zd_b zq_prog_1_method_26_code_1 7 rfl rfl rfl) (zd_b zq_prog_1_method_26_code_1 8 rfl rfl rfl) (zd_b zq_prog_1_method_26_code_1 9 rfl rfl rfl)
theorem d_Ip_tap_42 : decode prog_1_method_26_code 42 = .ok (.athrow, 1) := zo_191 (zd_b zq_prog_1_method_26_code_1 10 rfl rfl rfl)
set_option maxHeartbeats 4000000 in
set_option maxRecDepth 100000 in
theorem C_Ip_tapF (g : zG) (a pa ta sa gs co fu la gy du re wm ac : Nat) (lab labg fub fubg fut1 fut2 fut3 : Nat) (gr gb : Nat → Int64) (he mg wd ir ib : Int32) (io : Int64) (m : Int32) (hw : (1 ≤ m ∧ m ≤ 500)) (he0 : ¬ ir = 0) : CT g M_Ip_tap [.ref a, .int m] [(a, .inr (11, [.ref pa, .ref ta, .ref sa, .ref gs, .ref co, .ref fu, .ref la, .ref gy, .ref du, .ref re, .ref wm, .ref ac])), (la, .inr (5, [.ref lab, .int he, .int mg, .int wd])), (lab, .inr (6, [.ref labg, .int ir])), (labg, .inl (3, 4, .inr (.inl gr))), (fu, .inr (3, [.ref fub, .ref fut1, .ref fut2, .ref fut3, .long io])), (fub, .inr (6, [.ref fubg, .int ib])), (fubg, .inl (3, 4, .inr (.inl gb)))] (fun o cs1 => o = .inr "java/lang/IllegalStateException" ∧ cs1 = [(a, .inr (11, [.ref pa, .ref ta, .ref sa, .ref gs, .ref co, .ref fu, .ref la, .ref gy, .ref du, .ref re, .ref wm, .ref ac])), (la, .inr (5, [.ref lab, .int he, .int mg, .int wd])), (lab, .inr (6, [.ref labg, .int ir])), (labg, .inl (3, 4, .inr (.inl gr))), (fu, .inr (3, [.ref fub, .ref fut1, .ref fut2, .ref fut3, .long io])), (fub, .inr (6, [.ref fubg, .int ib])), (fubg, .inl (3, 4, .inr (.inl gb)))]) 1 6 := by
  refine z_of (by decide) rfl (Nat.le_of_ble_eq_true rfl) (fun w0 => ?_)
  refine r_lvE (lv2 := [(0, .ref a), (1, .int m)]) rfl ?_
  refine r_iload_n d_Ip_tap_0 rfl 1 rfl ?_
  refine r_iconst d_Ip_tap_1 (v := 1) (by decide) ?_
  refine r_sipush d_Ip_tap_2 (v := 500) (by decide) ?_
  refine r_callS (As := [.int m, .int 1, .int 500]) (rest := []) (csC := []) (is := []) ln_Ip_203 w_st_Ip_isWithin ok_Ip_tap_Ip_isWithin d_Ip_tap_5 (C_Ip_isWithin g m 1 500) rfl rfl (Nat.le_of_ble_eq_true rfl) rfl (by decide) (by omega) (by omega) (fun E cs1 hx => ?_) (fun v cs1 hx => ?_)
  · exact absurd hx.1 (by simp)
  · obtain ⟨e1, rfl⟩ := hx
    cases e1
    refine ⟨rfl, ?_⟩
    refine r_st (st2 := [.int (if 1 ≤ m ∧ m ≤ 500 then 1 else 0)]) rfl ?_
    refine r_cs (cs2 := [(a, .inr (11, [.ref pa, .ref ta, .ref sa, .ref gs, .ref co, .ref fu, .ref la, .ref gy, .ref du, .ref re, .ref wm, .ref ac])), (la, .inr (5, [.ref lab, .int he, .int mg, .int wd])), (lab, .inr (6, [.ref labg, .int ir])), (labg, .inl (3, 4, .inr (.inl gr))), (fu, .inr (3, [.ref fub, .ref fut1, .ref fut2, .ref fut3, .long io])), (fub, .inr (6, [.ref fubg, .int ib])), (fubg, .inl (3, 4, .inr (.inl gb)))]) rfl ?_
    refine r_if_ne (tgt := 22) d_Ip_tap_8 (by decide) (fun c_8 => ?_) (fun c_8 => ?_)
    · refine r_aload_n d_Ip_tap_22 rfl 0 rfl ?_
      refine r_get fs_Ip_50 d_Ip_tap_23 (q0 := 0) rfl rfl ?_
      refine r_callV (As := []) (rest := []) (csC := [(la, .inr (5, [.ref lab, .int he, .int mg, .int wd])), (lab, .inr (6, [.ref labg, .int ir])), (labg, .inl (3, 4, .inr (.inl gr)))]) (is := [1, 2, 3]) (q0 := 1) rfl rfl ln_Ip_314 w_im_La_isEmpty w_se_La_isEmpty ok_Ip_tap_La_isEmpty d_Ip_tap_26 (C_La_isEmpty g la lab labg gr he mg wd ir) rfl rfl (Nat.le_of_ble_eq_true rfl) rfl (by decide) (by omega) (by omega) (fun E cs1 hx => ?_) (fun v cs1 hx => ?_)
      · exact absurd hx.1 (by simp)
      · obtain ⟨e1, rfl⟩ := hx
        cases e1
        refine ⟨rfl, ?_⟩
        refine r_st (st2 := [.int (if ir = 0 then 1 else 0)]) rfl ?_
        refine r_cs (cs2 := [(a, .inr (11, [.ref pa, .ref ta, .ref sa, .ref gs, .ref co, .ref fu, .ref la, .ref gy, .ref du, .ref re, .ref wm, .ref ac])), (la, .inr (5, [.ref lab, .int he, .int mg, .int wd])), (lab, .inr (6, [.ref labg, .int ir])), (labg, .inl (3, 4, .inr (.inl gr))), (fu, .inr (3, [.ref fub, .ref fut1, .ref fut2, .ref fut3, .long io])), (fub, .inr (6, [.ref fubg, .int ib])), (fubg, .inl (3, 4, .inr (.inl gb)))]) rfl ?_
        refine r_if_ne (tgt := 43) d_Ip_tap_29 (by decide) (fun c_29 => ?_) (fun c_29 => ?_)
        · exact absurd (z_b1 c_29) he0
        · refine r_throwW tb_Ip_242_246 sr_Ip_317 d_Ip_tap_32 d_Ip_tap_35 d_Ip_tap_36 d_Ip_tap_39 d_Ip_tap_42 rfl (by decide) (by decide) (Nat.le_of_ble_eq_true rfl) (by omega) (by omega) ?_
          exact ⟨rfl, rfl⟩
    · exact absurd hw (z_b0 c_8)
theorem d_Ip_tap_43 : decode prog_1_method_26_code 43 = .ok (.aload_n 0, 1) := zo_42 (zd_b zq_prog_1_method_26_code_1 11 rfl rfl rfl)
theorem d_Ip_tap_44 : decode prog_1_method_26_code 44 = .ok (.getfield 43, 3) := zo_180 (d := 0) (e := 43) (zd_b zq_prog_1_method_26_code_1 12 rfl rfl rfl) (zd_b zq_prog_1_method_26_code_1 13 rfl rfl rfl) (zd_b zq_prog_1_method_26_code_1 14 rfl rfl rfl)
theorem d_Ip_tap_47 : decode prog_1_method_26_code 47 = .ok (.getfield 277, 3) := zo_180 (d := 1) (e := 21) (zd_b zq_prog_1_method_26_code_1 15 rfl rfl rfl) (zd_b zq_prog_1_method_26_code_1 16 rfl rfl rfl) (zd_b zq_prog_1_method_26_code_1 17 rfl rfl rfl)
theorem d_Ip_tap_50 : decode prog_1_method_26_code 50 = .ok (.getfield 269, 3) := zo_180 (d := 1) (e := 13) (zd_b zq_prog_1_method_26_code_1 18 rfl rfl rfl) (zd_b zq_prog_1_method_26_code_1 19 rfl rfl rfl) (zd_b zq_prog_1_method_26_code_1 20 rfl rfl rfl)
theorem fs_Ip_269 : z_fs "Ironpour" 269 6 1 := ⟨R_Me, "Ironpour$Metal", F_Me, 2, rfl, u_Me, by decide, Or.inr ⟨"Ironpour", z_mk1 (i := 203) rfl (by decide +kernel), rfl⟩⟩
theorem d_Ip_tap_53 : decode prog_1_method_26_code 53 = .ok (.iload_n 1, 1) := zo_27 (zd_b zq_prog_1_method_26_code_1 21 rfl rfl rfl)
theorem d_Ip_tap_54 : decode prog_1_method_26_code 54 = .ok (.if_icmp .ge 14, 3) := zo_162 (d := 0) (e := 14) (zd_b zq_prog_1_method_26_code_1 22 rfl rfl rfl) (zd_b zq_prog_1_method_26_code_1 23 rfl rfl rfl) (zd_b zq_prog_1_method_26_code_1 24 rfl rfl rfl) (by decide +kernel)
theorem d_Ip_tap_57 : decode prog_1_method_26_code 57 = .ok (.new 272, 3) := zo_187 (d := 1) (e := 16) (zd_b zq_prog_1_method_26_code_1 25 rfl rfl rfl) (zd_b zq_prog_1_method_26_code_1 26 rfl rfl rfl) (zd_b zq_prog_1_method_26_code_1 27 rfl rfl rfl)
theorem sr_Ip_319 : Cond.stringRef "Ironpour" 319 "the furnace has not so much" ∈ lw_tbl := z_tb5 (i := 112) rfl
theorem d_Ip_tap_60 : decode prog_1_method_26_code 60 = .ok (.dup, 1) := zo_89 (zd_b zq_prog_1_method_26_code_1 28 rfl rfl rfl)
theorem d_Ip_tap_61 : decode prog_1_method_26_code 61 = .ok (.ldc_w 319, 3) := zo_19 (d := 1) (e := 63) (zd_b zq_prog_1_method_26_code_1 29 rfl rfl rfl) (zd_b zq_prog_1_method_26_code_1 30 rfl rfl rfl) (zd_b zq_prog_1_method_26_code_1 31 rfl rfl rfl)
theorem d_Ip_tap_64 : decode prog_1_method_26_code 64 = .ok (.invokespecial 276, 3) := zo_183 (d := 1) (e := 20) (zd_b zq_prog_1_method_26_code_2 0 rfl rfl rfl) (zd_b zq_prog_1_method_26_code_2 1 rfl rfl rfl) (zd_b zq_prog_1_method_26_code_2 2 rfl rfl rfl)
theorem d_Ip_tap_67 : decode prog_1_method_26_code 67 = .ok (.athrow, 1) := zo_191 (zd_b zq_prog_1_method_26_code_2 3 rfl rfl rfl)
set_option maxHeartbeats 4000000 in
set_option maxRecDepth 100000 in
theorem C_Ip_tapG (g : zG) (a pa ta sa gs co fu la gy du re wm ac : Nat) (lab labg fub fubg fut1 fut2 fut3 : Nat) (gr gb : Nat → Int64) (he mg wd ir ib : Int32) (io : Int64) (m : Int32) (hw : (1 ≤ m ∧ m ≤ 500)) (he0 : ir = 0) (hg : ib < m) : CT g M_Ip_tap [.ref a, .int m] [(a, .inr (11, [.ref pa, .ref ta, .ref sa, .ref gs, .ref co, .ref fu, .ref la, .ref gy, .ref du, .ref re, .ref wm, .ref ac])), (la, .inr (5, [.ref lab, .int he, .int mg, .int wd])), (lab, .inr (6, [.ref labg, .int ir])), (labg, .inl (3, 4, .inr (.inl gr))), (fu, .inr (3, [.ref fub, .ref fut1, .ref fut2, .ref fut3, .long io])), (fub, .inr (6, [.ref fubg, .int ib])), (fubg, .inl (3, 4, .inr (.inl gb)))] (fun o cs1 => o = .inr "java/lang/UnsupportedOperationException" ∧ cs1 = [(a, .inr (11, [.ref pa, .ref ta, .ref sa, .ref gs, .ref co, .ref fu, .ref la, .ref gy, .ref du, .ref re, .ref wm, .ref ac])), (la, .inr (5, [.ref lab, .int he, .int mg, .int wd])), (lab, .inr (6, [.ref labg, .int ir])), (labg, .inl (3, 4, .inr (.inl gr))), (fu, .inr (3, [.ref fub, .ref fut1, .ref fut2, .ref fut3, .long io])), (fub, .inr (6, [.ref fubg, .int ib])), (fubg, .inl (3, 4, .inr (.inl gb)))]) 1 6 := by
  refine z_of (by decide) rfl (Nat.le_of_ble_eq_true rfl) (fun w0 => ?_)
  refine r_lvE (lv2 := [(0, .ref a), (1, .int m)]) rfl ?_
  refine r_iload_n d_Ip_tap_0 rfl 1 rfl ?_
  refine r_iconst d_Ip_tap_1 (v := 1) (by decide) ?_
  refine r_sipush d_Ip_tap_2 (v := 500) (by decide) ?_
  refine r_callS (As := [.int m, .int 1, .int 500]) (rest := []) (csC := []) (is := []) ln_Ip_203 w_st_Ip_isWithin ok_Ip_tap_Ip_isWithin d_Ip_tap_5 (C_Ip_isWithin g m 1 500) rfl rfl (Nat.le_of_ble_eq_true rfl) rfl (by decide) (by omega) (by omega) (fun E cs1 hx => ?_) (fun v cs1 hx => ?_)
  · exact absurd hx.1 (by simp)
  · obtain ⟨e1, rfl⟩ := hx
    cases e1
    refine ⟨rfl, ?_⟩
    refine r_st (st2 := [.int (if 1 ≤ m ∧ m ≤ 500 then 1 else 0)]) rfl ?_
    refine r_cs (cs2 := [(a, .inr (11, [.ref pa, .ref ta, .ref sa, .ref gs, .ref co, .ref fu, .ref la, .ref gy, .ref du, .ref re, .ref wm, .ref ac])), (la, .inr (5, [.ref lab, .int he, .int mg, .int wd])), (lab, .inr (6, [.ref labg, .int ir])), (labg, .inl (3, 4, .inr (.inl gr))), (fu, .inr (3, [.ref fub, .ref fut1, .ref fut2, .ref fut3, .long io])), (fub, .inr (6, [.ref fubg, .int ib])), (fubg, .inl (3, 4, .inr (.inl gb)))]) rfl ?_
    refine r_if_ne (tgt := 22) d_Ip_tap_8 (by decide) (fun c_8 => ?_) (fun c_8 => ?_)
    · refine r_aload_n d_Ip_tap_22 rfl 0 rfl ?_
      refine r_get fs_Ip_50 d_Ip_tap_23 (q0 := 0) rfl rfl ?_
      refine r_callV (As := []) (rest := []) (csC := [(la, .inr (5, [.ref lab, .int he, .int mg, .int wd])), (lab, .inr (6, [.ref labg, .int ir])), (labg, .inl (3, 4, .inr (.inl gr)))]) (is := [1, 2, 3]) (q0 := 1) rfl rfl ln_Ip_314 w_im_La_isEmpty w_se_La_isEmpty ok_Ip_tap_La_isEmpty d_Ip_tap_26 (C_La_isEmpty g la lab labg gr he mg wd ir) rfl rfl (Nat.le_of_ble_eq_true rfl) rfl (by decide) (by omega) (by omega) (fun E cs1 hx => ?_) (fun v cs1 hx => ?_)
      · exact absurd hx.1 (by simp)
      · obtain ⟨e1, rfl⟩ := hx
        cases e1
        refine ⟨rfl, ?_⟩
        refine r_st (st2 := [.int (if ir = 0 then 1 else 0)]) rfl ?_
        refine r_cs (cs2 := [(a, .inr (11, [.ref pa, .ref ta, .ref sa, .ref gs, .ref co, .ref fu, .ref la, .ref gy, .ref du, .ref re, .ref wm, .ref ac])), (la, .inr (5, [.ref lab, .int he, .int mg, .int wd])), (lab, .inr (6, [.ref labg, .int ir])), (labg, .inl (3, 4, .inr (.inl gr))), (fu, .inr (3, [.ref fub, .ref fut1, .ref fut2, .ref fut3, .long io])), (fub, .inr (6, [.ref fubg, .int ib])), (fubg, .inl (3, 4, .inr (.inl gb)))]) rfl ?_
        refine r_if_ne (tgt := 43) d_Ip_tap_29 (by decide) (fun c_29 => ?_) (fun c_29 => ?_)
        · refine r_aload_n d_Ip_tap_43 rfl 0 rfl ?_
          refine r_get fs_Ip_43 d_Ip_tap_44 (q0 := 0) rfl rfl ?_
          refine r_get fs_Ip_277 d_Ip_tap_47 (q0 := 4) rfl rfl ?_
          refine r_get fs_Ip_269 d_Ip_tap_50 (q0 := 5) rfl rfl ?_
          refine r_iload_n d_Ip_tap_53 rfl 1 rfl ?_
          refine r_icmp_ge (tgt := 68) d_Ip_tap_54 (by decide) (fun c_54 => ?_) (fun c_54 => ?_)
          · exact absurd hg (Int32.not_lt.mpr c_54)
          · refine r_throwW tb_Ip_272_276 sr_Ip_319 d_Ip_tap_57 d_Ip_tap_60 d_Ip_tap_61 d_Ip_tap_64 d_Ip_tap_67 rfl (by decide) (by decide) (Nat.le_of_ble_eq_true rfl) (by omega) (by omega) ?_
            exact ⟨rfl, rfl⟩
        · exact absurd he0 (z_b0 c_29)
    · exact absurd hw (z_b0 c_8)
theorem d_Ip_tap_68 : decode prog_1_method_26_code 68 = .ok (.aload_n 0, 1) := zo_42 (zd_b zq_prog_1_method_26_code_2 4 rfl rfl rfl)
theorem d_Ip_tap_69 : decode prog_1_method_26_code 69 = .ok (.getfield 50, 3) := zo_180 (d := 0) (e := 50) (zd_b zq_prog_1_method_26_code_2 5 rfl rfl rfl) (zd_b zq_prog_1_method_26_code_2 6 rfl rfl rfl) (zd_b zq_prog_1_method_26_code_2 7 rfl rfl rfl)
theorem d_Ip_tap_72 : decode prog_1_method_26_code 72 = .ok (.aload_n 0, 1) := zo_42 (zd_b zq_prog_1_method_26_code_2 8 rfl rfl rfl)
theorem d_Ip_tap_73 : decode prog_1_method_26_code 73 = .ok (.getfield 43, 3) := zo_180 (d := 0) (e := 43) (zd_b zq_prog_1_method_26_code_2 9 rfl rfl rfl) (zd_b zq_prog_1_method_26_code_2 10 rfl rfl rfl) (zd_b zq_prog_1_method_26_code_2 11 rfl rfl rfl)
theorem d_Ip_tap_76 : decode prog_1_method_26_code 76 = .ok (.getfield 277, 3) := zo_180 (d := 1) (e := 21) (zd_b zq_prog_1_method_26_code_2 12 rfl rfl rfl) (zd_b zq_prog_1_method_26_code_2 13 rfl rfl rfl) (zd_b zq_prog_1_method_26_code_2 14 rfl rfl rfl)
theorem d_Ip_tap_79 : decode prog_1_method_26_code 79 = .ok (.iload_n 1, 1) := zo_27 (zd_b zq_prog_1_method_26_code_2 15 rfl rfl rfl)
theorem d_Ip_tap_80 : decode prog_1_method_26_code 80 = .ok (.invokevirtual 321, 3) := zo_182 (d := 1) (e := 65) (zd_b zq_prog_1_method_26_code_2 16 rfl rfl rfl) (zd_b zq_prog_1_method_26_code_2 17 rfl rfl rfl) (zd_b zq_prog_1_method_26_code_2 18 rfl rfl rfl)
theorem ok_Ip_tap_La_fillFrom : z_ok M_Ip_tap M_La_fillFrom 2 := ⟨z_mj5 (i := 116) rfl (by decide +kernel), rfl, ⟨by decide +kernel, by decide +kernel, by decide +kernel⟩, ⟨by decide, by decide⟩, z_mj1 (i := 9) rfl (by decide +kernel), rfl⟩
theorem ln_Ip_321 : Cond.methodLink "Ironpour" 321 M_La_fillFrom.1 ∈ z_gw := z_mj5 (i := 113) rfl (by decide +kernel)
theorem w_im_La_fillFrom : Cond.instanceMethod M_La_fillFrom.1 ∈ z_gw := z_mj5 (i := 114) rfl (by decide +kernel)
theorem w_se_La_fillFrom : Cond.selects M_La_fillFrom.1.cls M_La_fillFrom.1 M_La_fillFrom.1 ∈ z_gw := z_mj5 (i := 115) rfl (by decide +kernel)
theorem d_Ip_tap_83 : decode prog_1_method_26_code 83 = .ok (.aload_n 0, 1) := zo_42 (zd_b zq_prog_1_method_26_code_2 19 rfl rfl rfl)
theorem d_Ip_tap_84 : decode prog_1_method_26_code 84 = .ok (.getfield 43, 3) := zo_180 (d := 0) (e := 43) (zd_b zq_prog_1_method_26_code_2 20 rfl rfl rfl) (zd_b zq_prog_1_method_26_code_2 21 rfl rfl rfl) (zd_b zq_prog_1_method_26_code_2 22 rfl rfl rfl)
theorem d_Ip_tap_87 : decode prog_1_method_26_code 87 = .ok (.getfield 277, 3) := zo_180 (d := 1) (e := 21) (zd_b zq_prog_1_method_26_code_2 23 rfl rfl rfl) (zd_b zq_prog_1_method_26_code_2 24 rfl rfl rfl) (zd_b zq_prog_1_method_26_code_2 25 rfl rfl rfl)
theorem d_Ip_tap_90 : decode prog_1_method_26_code 90 = .ok (.getfield 269, 3) := zo_180 (d := 1) (e := 13) (zd_b zq_prog_1_method_26_code_2 26 rfl rfl rfl) (zd_b zq_prog_1_method_26_code_2 27 rfl rfl rfl) (zd_b zq_prog_1_method_26_code_2 28 rfl rfl rfl)
theorem d_Ip_tap_93 : decode prog_1_method_26_code 93 = .ok (.ireturn, 1) := zo_172 (zd_b zq_prog_1_method_26_code_2 29 rfl rfl rfl)
set_option maxHeartbeats 4000000 in
set_option maxRecDepth 100000 in
theorem C_Ip_tapN (g : zG) (a pa ta sa gs co fu la gy du re wm ac : Nat) (lab labg fub fubg fut1 fut2 fut3 : Nat) (gr gb : Nat → Int64) (he mg wd ir ib : Int32) (io : Int64) (m : Int32) (hw : (1 ≤ m ∧ m ≤ 500)) (he0 : ir = 0) (hg : ¬ ib < m) (h0 : ¬ ib ≤ 0) : CT g M_Ip_tap [.ref a, .int m] [(a, .inr (11, [.ref pa, .ref ta, .ref sa, .ref gs, .ref co, .ref fu, .ref la, .ref gy, .ref du, .ref re, .ref wm, .ref ac])), (la, .inr (5, [.ref lab, .int he, .int mg, .int wd])), (lab, .inr (6, [.ref labg, .int ir])), (labg, .inl (3, 4, .inr (.inl gr))), (fu, .inr (3, [.ref fub, .ref fut1, .ref fut2, .ref fut3, .long io])), (fub, .inr (6, [.ref fubg, .int ib])), (fubg, .inl (3, 4, .inr (.inl gb)))] (fun o cs1 => o = .inl (some (.int (ib - m))) ∧ cs1 = [(a, .inr (11, [.ref pa, .ref ta, .ref sa, .ref gs, .ref co, .ref fu, .ref la, .ref gy, .ref du, .ref re, .ref wm, .ref ac])), (la, .inr (5, [.ref lab, .int 1450, .int 0, .int 0])), (lab, .inr (6, [.ref labg, .int (ir + m)])), (labg, .inl (3, 4, .inr (.inl (mvT gb m ib gr 4)))), (fu, .inr (3, [.ref fub, .ref fut1, .ref fut2, .ref fut3, .long io])), (fub, .inr (6, [.ref fubg, .int (ib - m)])), (fubg, .inl (3, 4, .inr (.inl (mvS gb m ib 4))))]) 1 6 := by
  refine z_of (by decide) rfl (Nat.le_of_ble_eq_true rfl) (fun w0 => ?_)
  refine r_lvE (lv2 := [(0, .ref a), (1, .int m)]) rfl ?_
  refine r_iload_n d_Ip_tap_0 rfl 1 rfl ?_
  refine r_iconst d_Ip_tap_1 (v := 1) (by decide) ?_
  refine r_sipush d_Ip_tap_2 (v := 500) (by decide) ?_
  refine r_callS (As := [.int m, .int 1, .int 500]) (rest := []) (csC := []) (is := []) ln_Ip_203 w_st_Ip_isWithin ok_Ip_tap_Ip_isWithin d_Ip_tap_5 (C_Ip_isWithin g m 1 500) rfl rfl (Nat.le_of_ble_eq_true rfl) rfl (by decide) (by omega) (by omega) (fun E cs1 hx => ?_) (fun v cs1 hx => ?_)
  · exact absurd hx.1 (by simp)
  · obtain ⟨e1, rfl⟩ := hx
    cases e1
    refine ⟨rfl, ?_⟩
    refine r_st (st2 := [.int (if 1 ≤ m ∧ m ≤ 500 then 1 else 0)]) rfl ?_
    refine r_cs (cs2 := [(a, .inr (11, [.ref pa, .ref ta, .ref sa, .ref gs, .ref co, .ref fu, .ref la, .ref gy, .ref du, .ref re, .ref wm, .ref ac])), (la, .inr (5, [.ref lab, .int he, .int mg, .int wd])), (lab, .inr (6, [.ref labg, .int ir])), (labg, .inl (3, 4, .inr (.inl gr))), (fu, .inr (3, [.ref fub, .ref fut1, .ref fut2, .ref fut3, .long io])), (fub, .inr (6, [.ref fubg, .int ib])), (fubg, .inl (3, 4, .inr (.inl gb)))]) rfl ?_
    refine r_if_ne (tgt := 22) d_Ip_tap_8 (by decide) (fun c_8 => ?_) (fun c_8 => ?_)
    · refine r_aload_n d_Ip_tap_22 rfl 0 rfl ?_
      refine r_get fs_Ip_50 d_Ip_tap_23 (q0 := 0) rfl rfl ?_
      refine r_callV (As := []) (rest := []) (csC := [(la, .inr (5, [.ref lab, .int he, .int mg, .int wd])), (lab, .inr (6, [.ref labg, .int ir])), (labg, .inl (3, 4, .inr (.inl gr)))]) (is := [1, 2, 3]) (q0 := 1) rfl rfl ln_Ip_314 w_im_La_isEmpty w_se_La_isEmpty ok_Ip_tap_La_isEmpty d_Ip_tap_26 (C_La_isEmpty g la lab labg gr he mg wd ir) rfl rfl (Nat.le_of_ble_eq_true rfl) rfl (by decide) (by omega) (by omega) (fun E cs1 hx => ?_) (fun v cs1 hx => ?_)
      · exact absurd hx.1 (by simp)
      · obtain ⟨e1, rfl⟩ := hx
        cases e1
        refine ⟨rfl, ?_⟩
        refine r_st (st2 := [.int (if ir = 0 then 1 else 0)]) rfl ?_
        refine r_cs (cs2 := [(a, .inr (11, [.ref pa, .ref ta, .ref sa, .ref gs, .ref co, .ref fu, .ref la, .ref gy, .ref du, .ref re, .ref wm, .ref ac])), (la, .inr (5, [.ref lab, .int he, .int mg, .int wd])), (lab, .inr (6, [.ref labg, .int ir])), (labg, .inl (3, 4, .inr (.inl gr))), (fu, .inr (3, [.ref fub, .ref fut1, .ref fut2, .ref fut3, .long io])), (fub, .inr (6, [.ref fubg, .int ib])), (fubg, .inl (3, 4, .inr (.inl gb)))]) rfl ?_
        refine r_if_ne (tgt := 43) d_Ip_tap_29 (by decide) (fun c_29 => ?_) (fun c_29 => ?_)
        · refine r_aload_n d_Ip_tap_43 rfl 0 rfl ?_
          refine r_get fs_Ip_43 d_Ip_tap_44 (q0 := 0) rfl rfl ?_
          refine r_get fs_Ip_277 d_Ip_tap_47 (q0 := 4) rfl rfl ?_
          refine r_get fs_Ip_269 d_Ip_tap_50 (q0 := 5) rfl rfl ?_
          refine r_iload_n d_Ip_tap_53 rfl 1 rfl ?_
          refine r_icmp_ge (tgt := 68) d_Ip_tap_54 (by decide) (fun c_54 => ?_) (fun c_54 => ?_)
          · refine r_aload_n d_Ip_tap_68 rfl 0 rfl ?_
            refine r_get fs_Ip_50 d_Ip_tap_69 (q0 := 0) rfl rfl ?_
            refine r_aload_n d_Ip_tap_72 rfl 0 rfl ?_
            refine r_get fs_Ip_43 d_Ip_tap_73 (q0 := 0) rfl rfl ?_
            refine r_get fs_Ip_277 d_Ip_tap_76 (q0 := 4) rfl rfl ?_
            refine r_iload_n d_Ip_tap_79 rfl 1 rfl ?_
            refine r_callV (As := [.ref fub, .int m]) (rest := []) (csC := [(la, .inr (5, [.ref lab, .int he, .int mg, .int wd])), (lab, .inr (6, [.ref labg, .int ir])), (labg, .inl (3, 4, .inr (.inl gr))), (fub, .inr (6, [.ref fubg, .int ib])), (fubg, .inl (3, 4, .inr (.inl gb)))]) (is := [1, 2, 3, 5, 6]) (q0 := 1) rfl rfl ln_Ip_321 w_im_La_fillFrom w_se_La_fillFrom ok_Ip_tap_La_fillFrom d_Ip_tap_80 (C_La_fillFrom g la lab labg gr he mg wd ir fub fubg gb ib m h0) rfl rfl (Nat.le_of_ble_eq_true rfl) rfl (by decide) (by omega) (by omega) (fun E cs1 hx => ?_) (fun v cs1 hx => ?_)
            · exact absurd hx.1 (by simp)
            · obtain ⟨e1, rfl⟩ := hx
              cases e1
              refine ⟨rfl, ?_⟩
              refine r_st (st2 := []) rfl ?_
              refine r_cs (cs2 := [(a, .inr (11, [.ref pa, .ref ta, .ref sa, .ref gs, .ref co, .ref fu, .ref la, .ref gy, .ref du, .ref re, .ref wm, .ref ac])), (la, .inr (5, [.ref lab, .int 1450, .int 0, .int 0])), (lab, .inr (6, [.ref labg, .int (ir + m)])), (labg, .inl (3, 4, .inr (.inl (mvT gb m ib gr 4)))), (fu, .inr (3, [.ref fub, .ref fut1, .ref fut2, .ref fut3, .long io])), (fub, .inr (6, [.ref fubg, .int (ib - m)])), (fubg, .inl (3, 4, .inr (.inl (mvS gb m ib 4))))]) rfl ?_
              refine r_aload_n d_Ip_tap_83 rfl 0 rfl ?_
              refine r_get fs_Ip_43 d_Ip_tap_84 (q0 := 0) rfl rfl ?_
              refine r_get fs_Ip_277 d_Ip_tap_87 (q0 := 4) rfl rfl ?_
              refine r_get fs_Ip_269 d_Ip_tap_90 (q0 := 5) rfl rfl ?_
              refine r_iret d_Ip_tap_93 rfl rfl ?_
              exact ⟨rfl, rfl⟩
          · exact absurd (Int32.not_le.mp c_54) hg
        · exact absurd he0 (z_b0 c_29)
    · exact absurd hw (z_b0 c_8)
end
section
abbrev M_Ip_heatAt : zM := (⟨"Ironpour", "heatAt", "(IIII)I"⟩, prog_1_method_12_code, 6, (Option.some FieldType.int), 7, 137, [])
theorem d_Ip_heatAt_0 : decode prog_1_method_12_code 0 = .ok (.iload_n 1, 1) := zo_27 (zd_b zq_prog_1_method_12_code_0 0 rfl rfl rfl)
theorem d_Ip_heatAt_1 : decode prog_1_method_12_code 1 = .ok (.iload_n 2, 1) := zo_28 (zd_b zq_prog_1_method_12_code_0 1 rfl rfl rfl)
theorem d_Ip_heatAt_2 : decode prog_1_method_12_code 2 = .ok (.invokestatic 114, 3) := zo_184 (d := 0) (e := 114) (zd_b zq_prog_1_method_12_code_0 2 rfl rfl rfl) (zd_b zq_prog_1_method_12_code_0 3 rfl rfl rfl) (zd_b zq_prog_1_method_12_code_0 4 rfl rfl rfl)
theorem ok_Ip_heatAt_Ip_cellAt : z_ok M_Ip_heatAt M_Ip_cellAt 2 := ⟨z_mj4 (i := 22) rfl (by decide +kernel), rfl, ⟨by decide +kernel, by decide +kernel, by decide +kernel⟩, ⟨by decide, by decide⟩, z_mj1 (i := 1) rfl (by decide +kernel), rfl⟩
set_option maxHeartbeats 4000000 in
set_option maxRecDepth 100000 in
theorem C_Ip_heatAtE (g : zG) (a pa ta sa gs co fu la gy du re wm ac : Nat) (pa1 pa2 pa3 : Nat) (f sn : Nat → Int32) (qn : Nat → Nat) (p : Nat) (sa1 sa2 saz saz1 saz2 saz3 saz4 saz5 saz6 sa4 sa5 sa6 : Nat) (X : zTr) (x y h st : Int32) (hz : z_cl x y = none) : CT g M_Ip_heatAt [.ref a, .int x, .int y, .int h, .int st] [(a, .inr (11, [.ref pa, .ref ta, .ref sa, .ref gs, .ref co, .ref fu, .ref la, .ref gy, .ref du, .ref re, .ref wm, .ref ac])), (pa, .inr (8, [.ref pa1, .ref pa2, .ref pa3, .int (nI p)])), (pa1, .inl (1, 108, .inl f)), (pa2, .inl (2, 108, .inl sn)), (pa3, .inl (0, 108, .inl (fun k => nI (qn k)))), (sa, .inr (10, [.ref sa1, .ref sa2, .ref saz, .ref sa4, .ref sa5, .ref sa6, .int X.1.2.2.1, .int X.1.2.2.2])), (sa1, .inl (1, 108, .inl X.1.1)), (sa2, .inl (0, 108, .inl X.1.2.1)), (saz, .inr (2, [.ref saz1, .ref saz2, .ref saz3, .ref saz4, .ref saz5, .ref saz6, .int X.2.1.1.1.2.2.2])), (saz1, .inl (0, 108, .inl X.2.1.1.1.1)), (saz2, .inl (0, 108, .inl X.2.1.1.2)), (saz3, .inl (0, 108, .inl X.2.1.1.1.2.1)), (saz4, .inl (0, 108, .inl X.2.1.1.1.2.2.1)), (saz5, .inl (0, 108, .inl X.2.1.2.1)), (saz6, .inl (0, 108, .inl X.2.1.2.2)), (sa4, .inl (2, 108, .inl X.2.2.1)), (sa5, .inl (2, 108, .inl X.2.2.2.1)), (sa6, .inl (0, 108, .inl (fun k => nI (X.2.2.2.2 k))))] (fun o cs1 => o = .inr "java/lang/IndexOutOfBoundsException" ∧ cs1 = [(a, .inr (11, [.ref pa, .ref ta, .ref sa, .ref gs, .ref co, .ref fu, .ref la, .ref gy, .ref du, .ref re, .ref wm, .ref ac])), (pa, .inr (8, [.ref pa1, .ref pa2, .ref pa3, .int (nI p)])), (pa1, .inl (1, 108, .inl f)), (pa2, .inl (2, 108, .inl sn)), (pa3, .inl (0, 108, .inl (fun k => nI (qn k)))), (sa, .inr (10, [.ref sa1, .ref sa2, .ref saz, .ref sa4, .ref sa5, .ref sa6, .int X.1.2.2.1, .int X.1.2.2.2])), (sa1, .inl (1, 108, .inl X.1.1)), (sa2, .inl (0, 108, .inl X.1.2.1)), (saz, .inr (2, [.ref saz1, .ref saz2, .ref saz3, .ref saz4, .ref saz5, .ref saz6, .int X.2.1.1.1.2.2.2])), (saz1, .inl (0, 108, .inl X.2.1.1.1.1)), (saz2, .inl (0, 108, .inl X.2.1.1.2)), (saz3, .inl (0, 108, .inl X.2.1.1.1.2.1)), (saz4, .inl (0, 108, .inl X.2.1.1.1.2.2.1)), (saz5, .inl (0, 108, .inl X.2.1.2.1)), (saz6, .inl (0, 108, .inl X.2.1.2.2)), (sa4, .inl (2, 108, .inl X.2.2.1)), (sa5, .inl (2, 108, .inl X.2.2.2.1)), (sa6, .inl (0, 108, .inl (fun k => nI (X.2.2.2.2 k))))]) 1 6 := by
  refine z_of (by decide) rfl (Nat.le_of_ble_eq_true rfl) (fun w0 => ?_)
  refine r_lvE (lv2 := [(0, .ref a), (1, .int x), (2, .int y), (3, .int h), (4, .int st)]) rfl ?_
  refine r_iload_n d_Ip_heatAt_0 rfl 1 rfl ?_
  refine r_iload_n d_Ip_heatAt_1 rfl 2 rfl ?_
  refine r_callS (As := [.int x, .int y]) (rest := []) (csC := []) (is := []) ln_Ip_114 w_st_Ip_cellAt ok_Ip_heatAt_Ip_cellAt d_Ip_heatAt_2 (C_Ip_cellAt g x y) rfl rfl (Nat.le_of_ble_eq_true rfl) rfl (by decide) (by omega) (by omega) (fun E cs1 hx => ?_) (fun v cs1 hx => ?_)
  · simp only [hz] at hx
    obtain ⟨e1, rfl⟩ := hx
    cases e1
    exact ⟨rfl, rfl, rfl⟩
  · simp only [hz] at hx
    exact absurd hx.1 (by simp)
theorem d_Ip_heatAt_5 : decode prog_1_method_12_code 5 = .ok (.istore 5, 2) := zo_54 (d := 5) (zd_b zq_prog_1_method_12_code_0 5 rfl rfl rfl) (zd_b zq_prog_1_method_12_code_0 6 rfl rfl rfl)
theorem d_Ip_heatAt_7 : decode prog_1_method_12_code 7 = .ok (.iload_n 3, 1) := zo_29 (zd_b zq_prog_1_method_12_code_0 7 rfl rfl rfl)
theorem d_Ip_heatAt_8 : decode prog_1_method_12_code 8 = .ok (.invokestatic 158, 3) := zo_184 (d := 0) (e := 158) (zd_b zq_prog_1_method_12_code_0 8 rfl rfl rfl) (zd_b zq_prog_1_method_12_code_0 9 rfl rfl rfl) (zd_b zq_prog_1_method_12_code_0 10 rfl rfl rfl)
theorem ok_Ip_heatAt_Ip_checkHeat : z_ok M_Ip_heatAt M_Ip_checkHeat 1 := ⟨z_mj4 (i := 94) rfl (by decide +kernel), rfl, ⟨by decide +kernel, by decide +kernel, by decide +kernel⟩, ⟨by decide, by decide⟩, z_mj1 (i := 1) rfl (by decide +kernel), rfl⟩
set_option maxHeartbeats 4000000 in
set_option maxRecDepth 100000 in
theorem C_Ip_heatAtF (g : zG) (a pa ta sa gs co fu la gy du re wm ac : Nat) (pa1 pa2 pa3 : Nat) (f sn : Nat → Int32) (qn : Nat → Nat) (p : Nat) (sa1 sa2 saz saz1 saz2 saz3 saz4 saz5 saz6 sa4 sa5 sa6 : Nat) (X : zTr) (x y h st : Int32) (c : Nat) (hz : z_cl x y = some c) (hh : ¬ (1200 ≤ h ∧ h ≤ 1500)) : CT g M_Ip_heatAt [.ref a, .int x, .int y, .int h, .int st] [(a, .inr (11, [.ref pa, .ref ta, .ref sa, .ref gs, .ref co, .ref fu, .ref la, .ref gy, .ref du, .ref re, .ref wm, .ref ac])), (pa, .inr (8, [.ref pa1, .ref pa2, .ref pa3, .int (nI p)])), (pa1, .inl (1, 108, .inl f)), (pa2, .inl (2, 108, .inl sn)), (pa3, .inl (0, 108, .inl (fun k => nI (qn k)))), (sa, .inr (10, [.ref sa1, .ref sa2, .ref saz, .ref sa4, .ref sa5, .ref sa6, .int X.1.2.2.1, .int X.1.2.2.2])), (sa1, .inl (1, 108, .inl X.1.1)), (sa2, .inl (0, 108, .inl X.1.2.1)), (saz, .inr (2, [.ref saz1, .ref saz2, .ref saz3, .ref saz4, .ref saz5, .ref saz6, .int X.2.1.1.1.2.2.2])), (saz1, .inl (0, 108, .inl X.2.1.1.1.1)), (saz2, .inl (0, 108, .inl X.2.1.1.2)), (saz3, .inl (0, 108, .inl X.2.1.1.1.2.1)), (saz4, .inl (0, 108, .inl X.2.1.1.1.2.2.1)), (saz5, .inl (0, 108, .inl X.2.1.2.1)), (saz6, .inl (0, 108, .inl X.2.1.2.2)), (sa4, .inl (2, 108, .inl X.2.2.1)), (sa5, .inl (2, 108, .inl X.2.2.2.1)), (sa6, .inl (0, 108, .inl (fun k => nI (X.2.2.2.2 k))))] (fun o cs1 => o = .inr "java/lang/IllegalArgumentException" ∧ cs1 = [(a, .inr (11, [.ref pa, .ref ta, .ref sa, .ref gs, .ref co, .ref fu, .ref la, .ref gy, .ref du, .ref re, .ref wm, .ref ac])), (pa, .inr (8, [.ref pa1, .ref pa2, .ref pa3, .int (nI p)])), (pa1, .inl (1, 108, .inl f)), (pa2, .inl (2, 108, .inl sn)), (pa3, .inl (0, 108, .inl (fun k => nI (qn k)))), (sa, .inr (10, [.ref sa1, .ref sa2, .ref saz, .ref sa4, .ref sa5, .ref sa6, .int X.1.2.2.1, .int X.1.2.2.2])), (sa1, .inl (1, 108, .inl X.1.1)), (sa2, .inl (0, 108, .inl X.1.2.1)), (saz, .inr (2, [.ref saz1, .ref saz2, .ref saz3, .ref saz4, .ref saz5, .ref saz6, .int X.2.1.1.1.2.2.2])), (saz1, .inl (0, 108, .inl X.2.1.1.1.1)), (saz2, .inl (0, 108, .inl X.2.1.1.2)), (saz3, .inl (0, 108, .inl X.2.1.1.1.2.1)), (saz4, .inl (0, 108, .inl X.2.1.1.1.2.2.1)), (saz5, .inl (0, 108, .inl X.2.1.2.1)), (saz6, .inl (0, 108, .inl X.2.1.2.2)), (sa4, .inl (2, 108, .inl X.2.2.1)), (sa5, .inl (2, 108, .inl X.2.2.2.1)), (sa6, .inl (0, 108, .inl (fun k => nI (X.2.2.2.2 k))))]) 2 12 := by
  refine z_of (by decide) rfl (Nat.le_of_ble_eq_true rfl) (fun w0 => ?_)
  refine r_lvE (lv2 := [(0, .ref a), (1, .int x), (2, .int y), (3, .int h), (4, .int st)]) rfl ?_
  refine r_iload_n d_Ip_heatAt_0 rfl 1 rfl ?_
  refine r_iload_n d_Ip_heatAt_1 rfl 2 rfl ?_
  refine r_callS (As := [.int x, .int y]) (rest := []) (csC := []) (is := []) ln_Ip_114 w_st_Ip_cellAt ok_Ip_heatAt_Ip_cellAt d_Ip_heatAt_2 (C_Ip_cellAt g x y) rfl rfl (Nat.le_of_ble_eq_true rfl) rfl (by decide) (by omega) (by omega) (fun E cs1 hx => ?_) (fun v cs1 hx => ?_)
  · simp only [hz] at hx
    exact absurd hx.1 (by simp)
  · simp only [hz] at hx
    obtain ⟨e1, rfl⟩ := hx
    cases e1
    refine ⟨rfl, ?_⟩
    refine r_st (st2 := [.int (nI c)]) rfl ?_
    refine r_cs (cs2 := [(a, .inr (11, [.ref pa, .ref ta, .ref sa, .ref gs, .ref co, .ref fu, .ref la, .ref gy, .ref du, .ref re, .ref wm, .ref ac])), (pa, .inr (8, [.ref pa1, .ref pa2, .ref pa3, .int (nI p)])), (pa1, .inl (1, 108, .inl f)), (pa2, .inl (2, 108, .inl sn)), (pa3, .inl (0, 108, .inl (fun k => nI (qn k)))), (sa, .inr (10, [.ref sa1, .ref sa2, .ref saz, .ref sa4, .ref sa5, .ref sa6, .int X.1.2.2.1, .int X.1.2.2.2])), (sa1, .inl (1, 108, .inl X.1.1)), (sa2, .inl (0, 108, .inl X.1.2.1)), (saz, .inr (2, [.ref saz1, .ref saz2, .ref saz3, .ref saz4, .ref saz5, .ref saz6, .int X.2.1.1.1.2.2.2])), (saz1, .inl (0, 108, .inl X.2.1.1.1.1)), (saz2, .inl (0, 108, .inl X.2.1.1.2)), (saz3, .inl (0, 108, .inl X.2.1.1.1.2.1)), (saz4, .inl (0, 108, .inl X.2.1.1.1.2.2.1)), (saz5, .inl (0, 108, .inl X.2.1.2.1)), (saz6, .inl (0, 108, .inl X.2.1.2.2)), (sa4, .inl (2, 108, .inl X.2.2.1)), (sa5, .inl (2, 108, .inl X.2.2.2.1)), (sa6, .inl (0, 108, .inl (fun k => nI (X.2.2.2.2 k))))]) rfl ?_
    refine r_istore (lv' := [(5, .int (nI c)), (0, .ref a), (1, .int x), (2, .int y), (3, .int h), (4, .int st)]) d_Ip_heatAt_5 (by decide) rfl ?_
    refine r_iload_n d_Ip_heatAt_7 rfl 4 rfl ?_
    refine r_callS (As := [.int h]) (rest := []) (csC := []) (is := []) ln_Ip_158 w_st_Ip_checkHeat ok_Ip_heatAt_Ip_checkHeat d_Ip_heatAt_8 (C_Ip_checkHeat g h) rfl rfl (Nat.le_of_ble_eq_true rfl) rfl (by decide) (by omega) (by omega) (fun E cs1 hx => ?_) (fun v cs1 hx => ?_)
    · simp only [if_neg hh] at hx
      obtain ⟨e1, rfl⟩ := hx
      cases e1
      exact ⟨rfl, rfl, rfl⟩
    · simp only [if_neg hh] at hx
      exact absurd hx.1 (by simp)
theorem d_Ip_heatAt_11 : decode prog_1_method_12_code 11 = .ok (.iload 4, 2) := zo_21 (d := 4) (zd_b zq_prog_1_method_12_code_0 11 rfl rfl rfl) (zd_b zq_prog_1_method_12_code_0 12 rfl rfl rfl)
theorem d_Ip_heatAt_13 : decode prog_1_method_12_code 13 = .ok (.ifCond .lt 11, 3) := zo_155 (d := 0) (e := 11) (zd_b zq_prog_1_method_12_code_0 13 rfl rfl rfl) (zd_b zq_prog_1_method_12_code_0 14 rfl rfl rfl) (zd_b zq_prog_1_method_12_code_0 15 rfl rfl rfl) (by decide +kernel)
theorem d_Ip_heatAt_24 : decode prog_1_method_12_code 24 = .ok (.new 89, 3) := zo_187 (d := 0) (e := 89) (zd_b zq_prog_1_method_12_code_0 24 rfl rfl rfl) (zd_b zq_prog_1_method_12_code_0 25 rfl rfl rfl) (zd_b zq_prog_1_method_12_code_0 26 rfl rfl rfl)
theorem sr_Ip_174 : Cond.stringRef "Ironpour" 174 "a step is 0 to 400" ∈ lw_tbl := z_tb4 (i := 106) rfl
theorem d_Ip_heatAt_27 : decode prog_1_method_12_code 27 = .ok (.dup, 1) := zo_89 (zd_b zq_prog_1_method_12_code_0 27 rfl rfl rfl)
theorem d_Ip_heatAt_28 : decode prog_1_method_12_code 28 = .ok (.ldc 174, 2) := zo_18 (d := 174) (zd_b zq_prog_1_method_12_code_0 28 rfl rfl rfl) (zd_b zq_prog_1_method_12_code_0 29 rfl rfl rfl)
theorem d_Ip_heatAt_30 : decode prog_1_method_12_code 30 = .ok (.invokespecial 93, 3) := zo_183 (d := 0) (e := 93) (zd_b zq_prog_1_method_12_code_0 30 rfl rfl rfl) (zd_b zq_prog_1_method_12_code_0 31 rfl rfl rfl) (zd_b zq_prog_1_method_12_code_1 0 rfl rfl rfl)
theorem d_Ip_heatAt_33 : decode prog_1_method_12_code 33 = .ok (.athrow, 1) := zo_191 (zd_b zq_prog_1_method_12_code_1 1 rfl rfl rfl)
theorem d_Ip_heatAt_16 : decode prog_1_method_12_code 16 = .ok (.iload 4, 2) := zo_21 (d := 4) (zd_b zq_prog_1_method_12_code_0 16 rfl rfl rfl) (zd_b zq_prog_1_method_12_code_0 17 rfl rfl rfl)
theorem d_Ip_heatAt_18 : decode prog_1_method_12_code 18 = .ok (.sipush 400, 3) := zo_17 (d := 1) (e := 144) (zd_b zq_prog_1_method_12_code_0 18 rfl rfl rfl) (zd_b zq_prog_1_method_12_code_0 19 rfl rfl rfl) (zd_b zq_prog_1_method_12_code_0 20 rfl rfl rfl) (by decide +kernel)
theorem d_Ip_heatAt_21 : decode prog_1_method_12_code 21 = .ok (.if_icmp .le 13, 3) := zo_164 (d := 0) (e := 13) (zd_b zq_prog_1_method_12_code_0 21 rfl rfl rfl) (zd_b zq_prog_1_method_12_code_0 22 rfl rfl rfl) (zd_b zq_prog_1_method_12_code_0 23 rfl rfl rfl) (by decide +kernel)
set_option maxHeartbeats 4000000 in
set_option maxRecDepth 100000 in
theorem C_Ip_heatAtG (g : zG) (a pa ta sa gs co fu la gy du re wm ac : Nat) (pa1 pa2 pa3 : Nat) (f sn : Nat → Int32) (qn : Nat → Nat) (p : Nat) (sa1 sa2 saz saz1 saz2 saz3 saz4 saz5 saz6 sa4 sa5 sa6 : Nat) (X : zTr) (x y h st : Int32) (c : Nat) (hz : z_cl x y = some c) (hh : 1200 ≤ h ∧ h ≤ 1500) (hs : st < 0 ∨ 400 < st) : CT g M_Ip_heatAt [.ref a, .int x, .int y, .int h, .int st] [(a, .inr (11, [.ref pa, .ref ta, .ref sa, .ref gs, .ref co, .ref fu, .ref la, .ref gy, .ref du, .ref re, .ref wm, .ref ac])), (pa, .inr (8, [.ref pa1, .ref pa2, .ref pa3, .int (nI p)])), (pa1, .inl (1, 108, .inl f)), (pa2, .inl (2, 108, .inl sn)), (pa3, .inl (0, 108, .inl (fun k => nI (qn k)))), (sa, .inr (10, [.ref sa1, .ref sa2, .ref saz, .ref sa4, .ref sa5, .ref sa6, .int X.1.2.2.1, .int X.1.2.2.2])), (sa1, .inl (1, 108, .inl X.1.1)), (sa2, .inl (0, 108, .inl X.1.2.1)), (saz, .inr (2, [.ref saz1, .ref saz2, .ref saz3, .ref saz4, .ref saz5, .ref saz6, .int X.2.1.1.1.2.2.2])), (saz1, .inl (0, 108, .inl X.2.1.1.1.1)), (saz2, .inl (0, 108, .inl X.2.1.1.2)), (saz3, .inl (0, 108, .inl X.2.1.1.1.2.1)), (saz4, .inl (0, 108, .inl X.2.1.1.1.2.2.1)), (saz5, .inl (0, 108, .inl X.2.1.2.1)), (saz6, .inl (0, 108, .inl X.2.1.2.2)), (sa4, .inl (2, 108, .inl X.2.2.1)), (sa5, .inl (2, 108, .inl X.2.2.2.1)), (sa6, .inl (0, 108, .inl (fun k => nI (X.2.2.2.2 k))))] (fun o cs1 => o = .inr "java/lang/IllegalArgumentException" ∧ cs1 = [(a, .inr (11, [.ref pa, .ref ta, .ref sa, .ref gs, .ref co, .ref fu, .ref la, .ref gy, .ref du, .ref re, .ref wm, .ref ac])), (pa, .inr (8, [.ref pa1, .ref pa2, .ref pa3, .int (nI p)])), (pa1, .inl (1, 108, .inl f)), (pa2, .inl (2, 108, .inl sn)), (pa3, .inl (0, 108, .inl (fun k => nI (qn k)))), (sa, .inr (10, [.ref sa1, .ref sa2, .ref saz, .ref sa4, .ref sa5, .ref sa6, .int X.1.2.2.1, .int X.1.2.2.2])), (sa1, .inl (1, 108, .inl X.1.1)), (sa2, .inl (0, 108, .inl X.1.2.1)), (saz, .inr (2, [.ref saz1, .ref saz2, .ref saz3, .ref saz4, .ref saz5, .ref saz6, .int X.2.1.1.1.2.2.2])), (saz1, .inl (0, 108, .inl X.2.1.1.1.1)), (saz2, .inl (0, 108, .inl X.2.1.1.2)), (saz3, .inl (0, 108, .inl X.2.1.1.1.2.1)), (saz4, .inl (0, 108, .inl X.2.1.1.1.2.2.1)), (saz5, .inl (0, 108, .inl X.2.1.2.1)), (saz6, .inl (0, 108, .inl X.2.1.2.2)), (sa4, .inl (2, 108, .inl X.2.2.1)), (sa5, .inl (2, 108, .inl X.2.2.2.1)), (sa6, .inl (0, 108, .inl (fun k => nI (X.2.2.2.2 k))))]) 3 18 := by
  refine z_of (by decide) rfl (Nat.le_of_ble_eq_true rfl) (fun w0 => ?_)
  refine r_lvE (lv2 := [(0, .ref a), (1, .int x), (2, .int y), (3, .int h), (4, .int st)]) rfl ?_
  refine r_iload_n d_Ip_heatAt_0 rfl 1 rfl ?_
  refine r_iload_n d_Ip_heatAt_1 rfl 2 rfl ?_
  refine r_callS (As := [.int x, .int y]) (rest := []) (csC := []) (is := []) ln_Ip_114 w_st_Ip_cellAt ok_Ip_heatAt_Ip_cellAt d_Ip_heatAt_2 (C_Ip_cellAt g x y) rfl rfl (Nat.le_of_ble_eq_true rfl) rfl (by decide) (by omega) (by omega) (fun E cs1 hx => ?_) (fun v cs1 hx => ?_)
  · simp only [hz] at hx
    exact absurd hx.1 (by simp)
  · simp only [hz] at hx
    obtain ⟨e1, rfl⟩ := hx
    cases e1
    refine ⟨rfl, ?_⟩
    refine r_st (st2 := [.int (nI c)]) rfl ?_
    refine r_cs (cs2 := [(a, .inr (11, [.ref pa, .ref ta, .ref sa, .ref gs, .ref co, .ref fu, .ref la, .ref gy, .ref du, .ref re, .ref wm, .ref ac])), (pa, .inr (8, [.ref pa1, .ref pa2, .ref pa3, .int (nI p)])), (pa1, .inl (1, 108, .inl f)), (pa2, .inl (2, 108, .inl sn)), (pa3, .inl (0, 108, .inl (fun k => nI (qn k)))), (sa, .inr (10, [.ref sa1, .ref sa2, .ref saz, .ref sa4, .ref sa5, .ref sa6, .int X.1.2.2.1, .int X.1.2.2.2])), (sa1, .inl (1, 108, .inl X.1.1)), (sa2, .inl (0, 108, .inl X.1.2.1)), (saz, .inr (2, [.ref saz1, .ref saz2, .ref saz3, .ref saz4, .ref saz5, .ref saz6, .int X.2.1.1.1.2.2.2])), (saz1, .inl (0, 108, .inl X.2.1.1.1.1)), (saz2, .inl (0, 108, .inl X.2.1.1.2)), (saz3, .inl (0, 108, .inl X.2.1.1.1.2.1)), (saz4, .inl (0, 108, .inl X.2.1.1.1.2.2.1)), (saz5, .inl (0, 108, .inl X.2.1.2.1)), (saz6, .inl (0, 108, .inl X.2.1.2.2)), (sa4, .inl (2, 108, .inl X.2.2.1)), (sa5, .inl (2, 108, .inl X.2.2.2.1)), (sa6, .inl (0, 108, .inl (fun k => nI (X.2.2.2.2 k))))]) rfl ?_
    refine r_istore (lv' := [(5, .int (nI c)), (0, .ref a), (1, .int x), (2, .int y), (3, .int h), (4, .int st)]) d_Ip_heatAt_5 (by decide) rfl ?_
    refine r_iload_n d_Ip_heatAt_7 rfl 4 rfl ?_
    refine r_callS (As := [.int h]) (rest := []) (csC := []) (is := []) ln_Ip_158 w_st_Ip_checkHeat ok_Ip_heatAt_Ip_checkHeat d_Ip_heatAt_8 (C_Ip_checkHeat g h) rfl rfl (Nat.le_of_ble_eq_true rfl) rfl (by decide) (by omega) (by omega) (fun E cs1 hx => ?_) (fun v cs1 hx => ?_)
    · simp only [if_pos hh] at hx
      exact absurd hx.1 (by simp)
    · simp only [if_pos hh] at hx
      obtain ⟨e1, rfl⟩ := hx
      cases e1
      refine ⟨rfl, ?_⟩
      refine r_st (st2 := []) rfl ?_
      refine r_cs (cs2 := [(a, .inr (11, [.ref pa, .ref ta, .ref sa, .ref gs, .ref co, .ref fu, .ref la, .ref gy, .ref du, .ref re, .ref wm, .ref ac])), (pa, .inr (8, [.ref pa1, .ref pa2, .ref pa3, .int (nI p)])), (pa1, .inl (1, 108, .inl f)), (pa2, .inl (2, 108, .inl sn)), (pa3, .inl (0, 108, .inl (fun k => nI (qn k)))), (sa, .inr (10, [.ref sa1, .ref sa2, .ref saz, .ref sa4, .ref sa5, .ref sa6, .int X.1.2.2.1, .int X.1.2.2.2])), (sa1, .inl (1, 108, .inl X.1.1)), (sa2, .inl (0, 108, .inl X.1.2.1)), (saz, .inr (2, [.ref saz1, .ref saz2, .ref saz3, .ref saz4, .ref saz5, .ref saz6, .int X.2.1.1.1.2.2.2])), (saz1, .inl (0, 108, .inl X.2.1.1.1.1)), (saz2, .inl (0, 108, .inl X.2.1.1.2)), (saz3, .inl (0, 108, .inl X.2.1.1.1.2.1)), (saz4, .inl (0, 108, .inl X.2.1.1.1.2.2.1)), (saz5, .inl (0, 108, .inl X.2.1.2.1)), (saz6, .inl (0, 108, .inl X.2.1.2.2)), (sa4, .inl (2, 108, .inl X.2.2.1)), (sa5, .inl (2, 108, .inl X.2.2.2.1)), (sa6, .inl (0, 108, .inl (fun k => nI (X.2.2.2.2 k))))]) rfl ?_
      refine r_iload d_Ip_heatAt_11 5 rfl ?_
      refine r_if_lt (tgt := 24) d_Ip_heatAt_13 (by decide) (fun c_13 => ?_) (fun c_13 => ?_)
      · refine r_throw tb_Ip_89_93 sr_Ip_174 d_Ip_heatAt_24 d_Ip_heatAt_27 d_Ip_heatAt_28 d_Ip_heatAt_30 d_Ip_heatAt_33 rfl (by decide) (by decide) (Nat.le_of_ble_eq_true rfl) (by omega) (by omega) ?_
        exact ⟨rfl, rfl⟩
      · refine r_iload d_Ip_heatAt_16 5 rfl ?_
        refine r_sipush d_Ip_heatAt_18 (v := 400) (by decide) ?_
        refine r_icmp_le (tgt := 34) d_Ip_heatAt_21 (by decide) (fun c_21 => ?_) (fun c_21 => ?_)
        · exact absurd hs (fun q => q.elim c_13 (fun e => absurd c_21 (Int32.not_le.mpr e)))
        · refine r_throw tb_Ip_89_93 sr_Ip_174 d_Ip_heatAt_24 d_Ip_heatAt_27 d_Ip_heatAt_28 d_Ip_heatAt_30 d_Ip_heatAt_33 rfl (by decide) (by decide) (Nat.le_of_ble_eq_true rfl) (by omega) (by omega) ?_
          exact ⟨rfl, rfl⟩
theorem d_Ip_heatAt_34 : decode prog_1_method_12_code 34 = .ok (.aload_n 0, 1) := zo_42 (zd_b zq_prog_1_method_12_code_1 2 rfl rfl rfl)
theorem d_Ip_heatAt_35 : decode prog_1_method_12_code 35 = .ok (.getfield 23, 3) := zo_180 (d := 0) (e := 23) (zd_b zq_prog_1_method_12_code_1 3 rfl rfl rfl) (zd_b zq_prog_1_method_12_code_1 4 rfl rfl rfl) (zd_b zq_prog_1_method_12_code_1 5 rfl rfl rfl)
theorem fs_Ip_23 : z_fs "Ironpour" 23 11 2 := ⟨R_Ip, "Ironpour", F_Ip, 12, rfl, u_Ip, by decide, Or.inl ⟨z_mj2 (i := 65) rfl (by decide +kernel), Or.inl rfl⟩⟩
theorem d_Ip_heatAt_38 : decode prog_1_method_12_code 38 = .ok (.aload_n 0, 1) := zo_42 (zd_b zq_prog_1_method_12_code_1 6 rfl rfl rfl)
theorem d_Ip_heatAt_39 : decode prog_1_method_12_code 39 = .ok (.getfield 10, 3) := zo_180 (d := 0) (e := 10) (zd_b zq_prog_1_method_12_code_1 7 rfl rfl rfl) (zd_b zq_prog_1_method_12_code_1 8 rfl rfl rfl) (zd_b zq_prog_1_method_12_code_1 9 rfl rfl rfl)
theorem d_Ip_heatAt_42 : decode prog_1_method_12_code 42 = .ok (.getfield 106, 3) := zo_180 (d := 0) (e := 106) (zd_b zq_prog_1_method_12_code_1 10 rfl rfl rfl) (zd_b zq_prog_1_method_12_code_1 11 rfl rfl rfl) (zd_b zq_prog_1_method_12_code_1 12 rfl rfl rfl)
theorem d_Ip_heatAt_45 : decode prog_1_method_12_code 45 = .ok (.invokevirtual 110, 3) := zo_182 (d := 0) (e := 110) (zd_b zq_prog_1_method_12_code_1 13 rfl rfl rfl) (zd_b zq_prog_1_method_12_code_1 14 rfl rfl rfl) (zd_b zq_prog_1_method_12_code_1 15 rfl rfl rfl)
theorem ok_Ip_heatAt_Tr_take : z_ok M_Ip_heatAt M_Tr_take 1 := ⟨z_mj3 (i := 225) rfl (by decide +kernel), rfl, ⟨by decide +kernel, by decide +kernel, by decide +kernel⟩, ⟨by decide, by decide⟩, z_mj1 (i := 3) rfl (by decide +kernel), rfl⟩
theorem d_Ip_heatAt_48 : decode prog_1_method_12_code 48 = .ok (.aload_n 0, 1) := zo_42 (zd_b zq_prog_1_method_12_code_1 16 rfl rfl rfl)
theorem d_Ip_heatAt_49 : decode prog_1_method_12_code 49 = .ok (.getfield 23, 3) := zo_180 (d := 0) (e := 23) (zd_b zq_prog_1_method_12_code_1 17 rfl rfl rfl) (zd_b zq_prog_1_method_12_code_1 18 rfl rfl rfl) (zd_b zq_prog_1_method_12_code_1 19 rfl rfl rfl)
theorem d_Ip_heatAt_52 : decode prog_1_method_12_code 52 = .ok (.iload_n 3, 1) := zo_29 (zd_b zq_prog_1_method_12_code_1 20 rfl rfl rfl)
theorem d_Ip_heatAt_53 : decode prog_1_method_12_code 53 = .ok (.iload 4, 2) := zo_21 (d := 4) (zd_b zq_prog_1_method_12_code_1 21 rfl rfl rfl) (zd_b zq_prog_1_method_12_code_1 22 rfl rfl rfl)
theorem d_Ip_heatAt_55 : decode prog_1_method_12_code 55 = .ok (.invokevirtual 176, 3) := zo_182 (d := 0) (e := 176) (zd_b zq_prog_1_method_12_code_1 23 rfl rfl rfl) (zd_b zq_prog_1_method_12_code_1 24 rfl rfl rfl) (zd_b zq_prog_1_method_12_code_1 25 rfl rfl rfl)
theorem ok_Ip_heatAt_Tr_cool : z_ok M_Ip_heatAt M_Tr_cool 2 := ⟨z_mj4 (i := 110) rfl (by decide +kernel), rfl, ⟨by decide +kernel, by decide +kernel, by decide +kernel⟩, ⟨by decide, by decide⟩, z_mj1 (i := 3) rfl (by decide +kernel), rfl⟩
theorem ln_Ip_176 : Cond.methodLink "Ironpour" 176 M_Tr_cool.1 ∈ z_gw := z_mj4 (i := 107) rfl (by decide +kernel)
theorem w_im_Tr_cool : Cond.instanceMethod M_Tr_cool.1 ∈ z_gw := z_mj4 (i := 108) rfl (by decide +kernel)
theorem w_se_Tr_cool : Cond.selects M_Tr_cool.1.cls M_Tr_cool.1 M_Tr_cool.1 ∈ z_gw := z_mj4 (i := 109) rfl (by decide +kernel)
theorem d_Ip_heatAt_58 : decode prog_1_method_12_code 58 = .ok (.aload_n 0, 1) := zo_42 (zd_b zq_prog_1_method_12_code_1 26 rfl rfl rfl)
theorem d_Ip_heatAt_59 : decode prog_1_method_12_code 59 = .ok (.getfield 23, 3) := zo_180 (d := 0) (e := 23) (zd_b zq_prog_1_method_12_code_1 27 rfl rfl rfl) (zd_b zq_prog_1_method_12_code_1 28 rfl rfl rfl) (zd_b zq_prog_1_method_12_code_1 29 rfl rfl rfl)
theorem d_Ip_heatAt_62 : decode prog_1_method_12_code 62 = .ok (.getfield 165, 3) := zo_180 (d := 0) (e := 165) (zd_b zq_prog_1_method_12_code_1 30 rfl rfl rfl) (zd_b zq_prog_1_method_12_code_1 31 rfl rfl rfl) (zd_b zq_prog_1_method_12_code_2 0 rfl rfl rfl)
theorem d_Ip_heatAt_65 : decode prog_1_method_12_code 65 = .ok (.getfield 180, 3) := zo_180 (d := 0) (e := 180) (zd_b zq_prog_1_method_12_code_2 1 rfl rfl rfl) (zd_b zq_prog_1_method_12_code_2 2 rfl rfl rfl) (zd_b zq_prog_1_method_12_code_2 3 rfl rfl rfl)
theorem fs_Ip_180 : z_fs "Ironpour" 180 2 0 := ⟨R_Fz, "Ironpour$Freezing", F_Fz, 7, rfl, u_Fz, by decide, Or.inr ⟨"Ironpour", z_mk1 (i := 84) rfl (by decide +kernel), rfl⟩⟩
theorem d_Ip_heatAt_68 : decode prog_1_method_12_code 68 = .ok (.iload 5, 2) := zo_21 (d := 5) (zd_b zq_prog_1_method_12_code_2 4 rfl rfl rfl) (zd_b zq_prog_1_method_12_code_2 5 rfl rfl rfl)
theorem d_Ip_heatAt_70 : decode prog_1_method_12_code 70 = .ok (.iaload, 1) := zo_46 (zd_b zq_prog_1_method_12_code_2 6 rfl rfl rfl)
theorem d_Ip_heatAt_71 : decode prog_1_method_12_code 71 = .ok (.ireturn, 1) := zo_172 (zd_b zq_prog_1_method_12_code_2 7 rfl rfl rfl)
set_option maxHeartbeats 4000000 in
set_option maxRecDepth 100000 in
theorem C_Ip_heatAtN (g : zG) (a pa ta sa gs co fu la gy du re wm ac : Nat) (pa1 pa2 pa3 : Nat) (f sn : Nat → Int32) (qn : Nat → Nat) (p : Nat) (sa1 sa2 saz saz1 saz2 saz3 saz4 saz5 saz6 sa4 sa5 sa6 : Nat) (X : zTr) (x y h : Int32) (ks : Nat) (hks : ks ≤ 400) (hf : z_ch f) (c : Nat) (hz : z_cl x y = some c) (hh : 1200 ≤ h ∧ h ≤ 1500) : CT g M_Ip_heatAt [.ref a, .int x, .int y, .int h, .int (nI ks)] [(a, .inr (11, [.ref pa, .ref ta, .ref sa, .ref gs, .ref co, .ref fu, .ref la, .ref gy, .ref du, .ref re, .ref wm, .ref ac])), (pa, .inr (8, [.ref pa1, .ref pa2, .ref pa3, .int (nI p)])), (pa1, .inl (1, 108, .inl f)), (pa2, .inl (2, 108, .inl sn)), (pa3, .inl (0, 108, .inl (fun k => nI (qn k)))), (sa, .inr (10, [.ref sa1, .ref sa2, .ref saz, .ref sa4, .ref sa5, .ref sa6, .int X.1.2.2.1, .int X.1.2.2.2])), (sa1, .inl (1, 108, .inl X.1.1)), (sa2, .inl (0, 108, .inl X.1.2.1)), (saz, .inr (2, [.ref saz1, .ref saz2, .ref saz3, .ref saz4, .ref saz5, .ref saz6, .int X.2.1.1.1.2.2.2])), (saz1, .inl (0, 108, .inl X.2.1.1.1.1)), (saz2, .inl (0, 108, .inl X.2.1.1.2)), (saz3, .inl (0, 108, .inl X.2.1.1.1.2.1)), (saz4, .inl (0, 108, .inl X.2.1.1.1.2.2.1)), (saz5, .inl (0, 108, .inl X.2.1.2.1)), (saz6, .inl (0, 108, .inl X.2.1.2.2)), (sa4, .inl (2, 108, .inl X.2.2.1)), (sa5, .inl (2, 108, .inl X.2.2.2.1)), (sa6, .inl (0, 108, .inl (fun k => nI (X.2.2.2.2 k))))] (fun o cs1 => o = .inl (some (.int ((clT h ks (tkT f X)).2.1.1.1.1 c))) ∧ cs1 = [(a, .inr (11, [.ref pa, .ref ta, .ref sa, .ref gs, .ref co, .ref fu, .ref la, .ref gy, .ref du, .ref re, .ref wm, .ref ac])), (pa, .inr (8, [.ref pa1, .ref pa2, .ref pa3, .int (nI p)])), (pa1, .inl (1, 108, .inl f)), (pa2, .inl (2, 108, .inl sn)), (pa3, .inl (0, 108, .inl (fun k => nI (qn k)))), (sa, .inr (10, [.ref sa1, .ref sa2, .ref saz, .ref sa4, .ref sa5, .ref sa6, .int ((clT h ks (tkT f X)).1.2.2.1), .int ((clT h ks (tkT f X)).1.2.2.2)])), (sa1, .inl (1, 108, .inl ((clT h ks (tkT f X)).1.1))), (sa2, .inl (0, 108, .inl ((clT h ks (tkT f X)).1.2.1))), (saz, .inr (2, [.ref saz1, .ref saz2, .ref saz3, .ref saz4, .ref saz5, .ref saz6, .int ((clT h ks (tkT f X)).2.1.1.1.2.2.2)])), (saz1, .inl (0, 108, .inl ((clT h ks (tkT f X)).2.1.1.1.1))), (saz2, .inl (0, 108, .inl ((clT h ks (tkT f X)).2.1.1.2))), (saz3, .inl (0, 108, .inl ((clT h ks (tkT f X)).2.1.1.1.2.1))), (saz4, .inl (0, 108, .inl ((clT h ks (tkT f X)).2.1.1.1.2.2.1))), (saz5, .inl (0, 108, .inl ((clT h ks (tkT f X)).2.1.2.1))), (saz6, .inl (0, 108, .inl ((clT h ks (tkT f X)).2.1.2.2))), (sa4, .inl (2, 108, .inl ((clT h ks (tkT f X)).2.2.1))), (sa5, .inl (2, 108, .inl ((clT h ks (tkT f X)).2.2.2.1))), (sa6, .inl (0, 108, .inl (fun k => nI ((clT h ks (tkT f X)).2.2.2.2 k))))]) 2 12 := by
  refine z_of (by decide) rfl (Nat.le_of_ble_eq_true rfl) (fun w0 => ?_)
  refine r_lvE (lv2 := [(0, .ref a), (1, .int x), (2, .int y), (3, .int h), (4, .int (nI ks))]) rfl ?_
  have hc := z_cl_lt hz
  refine r_iload_n d_Ip_heatAt_0 rfl 1 rfl ?_
  refine r_iload_n d_Ip_heatAt_1 rfl 2 rfl ?_
  refine r_callS (As := [.int x, .int y]) (rest := []) (csC := []) (is := []) ln_Ip_114 w_st_Ip_cellAt ok_Ip_heatAt_Ip_cellAt d_Ip_heatAt_2 (C_Ip_cellAt g x y) rfl rfl (Nat.le_of_ble_eq_true rfl) rfl (by decide) (by omega) (by omega) (fun E cs1 hx => ?_) (fun v cs1 hx => ?_)
  · simp only [hz] at hx
    exact absurd hx.1 (by simp)
  · simp only [hz] at hx
    obtain ⟨e1, rfl⟩ := hx
    cases e1
    refine ⟨rfl, ?_⟩
    refine r_st (st2 := [.int (nI c)]) rfl ?_
    refine r_cs (cs2 := [(a, .inr (11, [.ref pa, .ref ta, .ref sa, .ref gs, .ref co, .ref fu, .ref la, .ref gy, .ref du, .ref re, .ref wm, .ref ac])), (pa, .inr (8, [.ref pa1, .ref pa2, .ref pa3, .int (nI p)])), (pa1, .inl (1, 108, .inl f)), (pa2, .inl (2, 108, .inl sn)), (pa3, .inl (0, 108, .inl (fun k => nI (qn k)))), (sa, .inr (10, [.ref sa1, .ref sa2, .ref saz, .ref sa4, .ref sa5, .ref sa6, .int X.1.2.2.1, .int X.1.2.2.2])), (sa1, .inl (1, 108, .inl X.1.1)), (sa2, .inl (0, 108, .inl X.1.2.1)), (saz, .inr (2, [.ref saz1, .ref saz2, .ref saz3, .ref saz4, .ref saz5, .ref saz6, .int X.2.1.1.1.2.2.2])), (saz1, .inl (0, 108, .inl X.2.1.1.1.1)), (saz2, .inl (0, 108, .inl X.2.1.1.2)), (saz3, .inl (0, 108, .inl X.2.1.1.1.2.1)), (saz4, .inl (0, 108, .inl X.2.1.1.1.2.2.1)), (saz5, .inl (0, 108, .inl X.2.1.2.1)), (saz6, .inl (0, 108, .inl X.2.1.2.2)), (sa4, .inl (2, 108, .inl X.2.2.1)), (sa5, .inl (2, 108, .inl X.2.2.2.1)), (sa6, .inl (0, 108, .inl (fun k => nI (X.2.2.2.2 k))))]) rfl ?_
    refine r_istore (lv' := [(5, .int (nI c)), (0, .ref a), (1, .int x), (2, .int y), (3, .int h), (4, .int (nI ks))]) d_Ip_heatAt_5 (by decide) rfl ?_
    refine r_iload_n d_Ip_heatAt_7 rfl 4 rfl ?_
    refine r_callS (As := [.int h]) (rest := []) (csC := []) (is := []) ln_Ip_158 w_st_Ip_checkHeat ok_Ip_heatAt_Ip_checkHeat d_Ip_heatAt_8 (C_Ip_checkHeat g h) rfl rfl (Nat.le_of_ble_eq_true rfl) rfl (by decide) (by omega) (by omega) (fun E cs1 hx => ?_) (fun v cs1 hx => ?_)
    · simp only [if_pos hh] at hx
      exact absurd hx.1 (by simp)
    · simp only [if_pos hh] at hx
      obtain ⟨e1, rfl⟩ := hx
      cases e1
      refine ⟨rfl, ?_⟩
      refine r_st (st2 := []) rfl ?_
      refine r_cs (cs2 := [(a, .inr (11, [.ref pa, .ref ta, .ref sa, .ref gs, .ref co, .ref fu, .ref la, .ref gy, .ref du, .ref re, .ref wm, .ref ac])), (pa, .inr (8, [.ref pa1, .ref pa2, .ref pa3, .int (nI p)])), (pa1, .inl (1, 108, .inl f)), (pa2, .inl (2, 108, .inl sn)), (pa3, .inl (0, 108, .inl (fun k => nI (qn k)))), (sa, .inr (10, [.ref sa1, .ref sa2, .ref saz, .ref sa4, .ref sa5, .ref sa6, .int X.1.2.2.1, .int X.1.2.2.2])), (sa1, .inl (1, 108, .inl X.1.1)), (sa2, .inl (0, 108, .inl X.1.2.1)), (saz, .inr (2, [.ref saz1, .ref saz2, .ref saz3, .ref saz4, .ref saz5, .ref saz6, .int X.2.1.1.1.2.2.2])), (saz1, .inl (0, 108, .inl X.2.1.1.1.1)), (saz2, .inl (0, 108, .inl X.2.1.1.2)), (saz3, .inl (0, 108, .inl X.2.1.1.1.2.1)), (saz4, .inl (0, 108, .inl X.2.1.1.1.2.2.1)), (saz5, .inl (0, 108, .inl X.2.1.2.1)), (saz6, .inl (0, 108, .inl X.2.1.2.2)), (sa4, .inl (2, 108, .inl X.2.2.1)), (sa5, .inl (2, 108, .inl X.2.2.2.1)), (sa6, .inl (0, 108, .inl (fun k => nI (X.2.2.2.2 k))))]) rfl ?_
      refine r_iload d_Ip_heatAt_11 5 rfl ?_
      refine r_if_lt (tgt := 24) d_Ip_heatAt_13 (by decide) (fun c_13 => ?_) (fun c_13 => ?_)
      · exact absurd c_13 (nI_nneg (by omega))
      · refine r_iload d_Ip_heatAt_16 5 rfl ?_
        refine r_sipush d_Ip_heatAt_18 (v := 400) (by decide) ?_
        refine r_icmp_le (tgt := 34) d_Ip_heatAt_21 (by decide) (fun c_21 => ?_) (fun c_21 => ?_)
        · refine r_aload_n d_Ip_heatAt_34 rfl 1 rfl ?_
          refine r_get fs_Ip_23 d_Ip_heatAt_35 (q0 := 0) rfl rfl ?_
          refine r_aload_n d_Ip_heatAt_38 rfl 1 rfl ?_
          refine r_get fs_Ip_10 d_Ip_heatAt_39 (q0 := 0) rfl rfl ?_
          refine r_get fs_Ip_106 d_Ip_heatAt_42 (q0 := 1) rfl rfl ?_
          refine r_callV (As := [.ref pa1]) (rest := []) (csC := [(sa, .inr (10, [.ref sa1, .ref sa2, .ref saz, .ref sa4, .ref sa5, .ref sa6, .int X.1.2.2.1, .int X.1.2.2.2])), (sa1, .inl (1, 108, .inl X.1.1)), (pa1, .inl (1, 108, .inl f))]) (is := [5, 6, 2]) (q0 := 5) rfl rfl ln_Ip_110 w_im_Tr_take w_se_Tr_take ok_Ip_heatAt_Tr_take d_Ip_heatAt_45 (C_Tr_take g sa sa1 sa2 saz sa4 sa5 sa6 X.1.2.2.1 X.1.2.2.2 pa1 f X.1.1 hf) rfl rfl (Nat.le_of_ble_eq_true rfl) rfl (by decide) (by omega) (by omega) (fun E cs1 hx => ?_) (fun v cs1 hx => ?_)
          · exact absurd hx.1 (by simp)
          · obtain ⟨e1, rfl⟩ := hx
            cases e1
            refine ⟨rfl, ?_⟩
            refine r_st (st2 := []) rfl ?_
            refine r_cs (cs2 := [(a, .inr (11, [.ref pa, .ref ta, .ref sa, .ref gs, .ref co, .ref fu, .ref la, .ref gy, .ref du, .ref re, .ref wm, .ref ac])), (pa, .inr (8, [.ref pa1, .ref pa2, .ref pa3, .int (nI p)])), (pa1, .inl (1, 108, .inl f)), (pa2, .inl (2, 108, .inl sn)), (pa3, .inl (0, 108, .inl (fun k => nI (qn k)))), (sa, .inr (10, [.ref sa1, .ref sa2, .ref saz, .ref sa4, .ref sa5, .ref sa6, .int ((tkT f X).1.2.2.1), .int ((tkT f X).1.2.2.2)])), (sa1, .inl (1, 108, .inl ((tkT f X).1.1))), (sa2, .inl (0, 108, .inl X.1.2.1)), (saz, .inr (2, [.ref saz1, .ref saz2, .ref saz3, .ref saz4, .ref saz5, .ref saz6, .int X.2.1.1.1.2.2.2])), (saz1, .inl (0, 108, .inl X.2.1.1.1.1)), (saz2, .inl (0, 108, .inl X.2.1.1.2)), (saz3, .inl (0, 108, .inl X.2.1.1.1.2.1)), (saz4, .inl (0, 108, .inl X.2.1.1.1.2.2.1)), (saz5, .inl (0, 108, .inl X.2.1.2.1)), (saz6, .inl (0, 108, .inl X.2.1.2.2)), (sa4, .inl (2, 108, .inl X.2.2.1)), (sa5, .inl (2, 108, .inl X.2.2.2.1)), (sa6, .inl (0, 108, .inl (fun k => nI (X.2.2.2.2 k))))]) rfl ?_
            refine r_aload_n d_Ip_heatAt_48 rfl 1 rfl ?_
            refine r_get fs_Ip_23 d_Ip_heatAt_49 (q0 := 0) rfl rfl ?_
            refine r_iload_n d_Ip_heatAt_52 rfl 4 rfl ?_
            refine r_iload d_Ip_heatAt_53 5 rfl ?_
            refine r_callV (As := [.int h, .int (nI ks)]) (rest := []) (csC := [(sa, .inr (10, [.ref sa1, .ref sa2, .ref saz, .ref sa4, .ref sa5, .ref sa6, .int ((tkT f X).1.2.2.1), .int ((tkT f X).1.2.2.2)])), (sa1, .inl (1, 108, .inl ((tkT f X).1.1))), (sa2, .inl (0, 108, .inl X.1.2.1)), (saz, .inr (2, [.ref saz1, .ref saz2, .ref saz3, .ref saz4, .ref saz5, .ref saz6, .int X.2.1.1.1.2.2.2])), (saz1, .inl (0, 108, .inl X.2.1.1.1.1)), (saz2, .inl (0, 108, .inl X.2.1.1.2)), (saz3, .inl (0, 108, .inl X.2.1.1.1.2.1)), (saz4, .inl (0, 108, .inl X.2.1.1.1.2.2.1)), (saz5, .inl (0, 108, .inl X.2.1.2.1)), (saz6, .inl (0, 108, .inl X.2.1.2.2)), (sa4, .inl (2, 108, .inl X.2.2.1)), (sa5, .inl (2, 108, .inl X.2.2.2.1)), (sa6, .inl (0, 108, .inl (fun k => nI (X.2.2.2.2 k))))]) (is := [5, 6, 7, 8, 9, 10, 11, 12, 13, 14, 15, 16, 17]) (q0 := 5) rfl rfl ln_Ip_176 w_im_Tr_cool w_se_Tr_cool ok_Ip_heatAt_Tr_cool d_Ip_heatAt_55 (X_cool g sa sa1 sa2 saz saz1 saz2 saz3 saz4 saz5 saz6 sa4 sa5 sa6 h ks hks (tkT f X)) rfl rfl (Nat.le_of_ble_eq_true rfl) rfl (by decide) (by omega) (by omega) (fun E cs1 hx => ?_) (fun v cs1 hx => ?_)
            · exact absurd hx.1 (by simp)
            · obtain ⟨e1, rfl⟩ := hx
              cases e1
              refine ⟨rfl, ?_⟩
              refine r_st (st2 := []) rfl ?_
              refine r_cs (cs2 := [(a, .inr (11, [.ref pa, .ref ta, .ref sa, .ref gs, .ref co, .ref fu, .ref la, .ref gy, .ref du, .ref re, .ref wm, .ref ac])), (pa, .inr (8, [.ref pa1, .ref pa2, .ref pa3, .int (nI p)])), (pa1, .inl (1, 108, .inl f)), (pa2, .inl (2, 108, .inl sn)), (pa3, .inl (0, 108, .inl (fun k => nI (qn k)))), (sa, .inr (10, [.ref sa1, .ref sa2, .ref saz, .ref sa4, .ref sa5, .ref sa6, .int ((clT h ks (tkT f X)).1.2.2.1), .int ((clT h ks (tkT f X)).1.2.2.2)])), (sa1, .inl (1, 108, .inl ((clT h ks (tkT f X)).1.1))), (sa2, .inl (0, 108, .inl ((clT h ks (tkT f X)).1.2.1))), (saz, .inr (2, [.ref saz1, .ref saz2, .ref saz3, .ref saz4, .ref saz5, .ref saz6, .int ((clT h ks (tkT f X)).2.1.1.1.2.2.2)])), (saz1, .inl (0, 108, .inl ((clT h ks (tkT f X)).2.1.1.1.1))), (saz2, .inl (0, 108, .inl ((clT h ks (tkT f X)).2.1.1.2))), (saz3, .inl (0, 108, .inl ((clT h ks (tkT f X)).2.1.1.1.2.1))), (saz4, .inl (0, 108, .inl ((clT h ks (tkT f X)).2.1.1.1.2.2.1))), (saz5, .inl (0, 108, .inl ((clT h ks (tkT f X)).2.1.2.1))), (saz6, .inl (0, 108, .inl ((clT h ks (tkT f X)).2.1.2.2))), (sa4, .inl (2, 108, .inl ((clT h ks (tkT f X)).2.2.1))), (sa5, .inl (2, 108, .inl ((clT h ks (tkT f X)).2.2.2.1))), (sa6, .inl (0, 108, .inl (fun k => nI ((clT h ks (tkT f X)).2.2.2.2 k))))]) rfl ?_
              refine r_aload_n d_Ip_heatAt_58 rfl 1 rfl ?_
              refine r_get fs_Ip_23 d_Ip_heatAt_59 (q0 := 0) rfl rfl ?_
              refine r_get fs_Ip_165 d_Ip_heatAt_62 (q0 := 5) rfl rfl ?_
              refine r_get fs_Ip_180 d_Ip_heatAt_65 (q0 := 8) rfl rfl ?_
              refine r_iload d_Ip_heatAt_68 0 rfl ?_
              refine r_iald d_Ip_heatAt_70 (q0 := 9) rfl (vp_in_nI (by omega) (by omega)) (v := ((clT h ks (tkT f X)).2.1.1.1.1) c) (by rw [nI_clamp (by omega)]) ?_
              refine r_iret d_Ip_heatAt_71 rfl rfl ?_
              exact ⟨rfl, rfl⟩
        · exact absurd (z_nle (b := 400) (by decide) (by omega) c_21) (by omega)
end
section
abbrev M_Ip_pig : zM := (⟨"Ironpour", "pig", "()I"⟩, prog_1_method_30_code, 2, (Option.some FieldType.int), 6, 100, [])
theorem d_Ip_pig_0 : decode prog_1_method_30_code 0 = .ok (.aload_n 0, 1) := zo_42 (zd_b zq_prog_1_method_30_code_0 0 rfl rfl rfl)
theorem d_Ip_pig_1 : decode prog_1_method_30_code 1 = .ok (.getfield 50, 3) := zo_180 (d := 0) (e := 50) (zd_b zq_prog_1_method_30_code_0 1 rfl rfl rfl) (zd_b zq_prog_1_method_30_code_0 2 rfl rfl rfl) (zd_b zq_prog_1_method_30_code_0 3 rfl rfl rfl)
theorem d_Ip_pig_4 : decode prog_1_method_30_code 4 = .ok (.invokevirtual 314, 3) := zo_182 (d := 1) (e := 58) (zd_b zq_prog_1_method_30_code_0 4 rfl rfl rfl) (zd_b zq_prog_1_method_30_code_0 5 rfl rfl rfl) (zd_b zq_prog_1_method_30_code_0 6 rfl rfl rfl)
theorem ok_Ip_pig_La_isEmpty : z_ok M_Ip_pig M_La_isEmpty 0 := ⟨z_mj5 (i := 110) rfl (by decide +kernel), rfl, ⟨by decide +kernel, by decide +kernel, by decide +kernel⟩, ⟨by decide, by decide⟩, z_mj1 (i := 9) rfl (by decide +kernel), rfl⟩
theorem d_Ip_pig_7 : decode prog_1_method_30_code 7 = .ok (.ifCond .eq 14, 3) := zo_153 (d := 0) (e := 14) (zd_b zq_prog_1_method_30_code_0 7 rfl rfl rfl) (zd_b zq_prog_1_method_30_code_0 8 rfl rfl rfl) (zd_b zq_prog_1_method_30_code_0 9 rfl rfl rfl) (by decide +kernel)
theorem d_Ip_pig_10 : decode prog_1_method_30_code 10 = .ok (.new 242, 3) := zo_187 (d := 0) (e := 242) (zd_b zq_prog_1_method_30_code_0 10 rfl rfl rfl) (zd_b zq_prog_1_method_30_code_0 11 rfl rfl rfl) (zd_b zq_prog_1_method_30_code_0 12 rfl rfl rfl)
theorem d_Ip_pig_13 : decode prog_1_method_30_code 13 = .ok (.dup, 1) := zo_89 (zd_b zq_prog_1_method_30_code_0 13 rfl rfl rfl)
theorem d_Ip_pig_14 : decode prog_1_method_30_code 14 = .ok (.ldc_w 326, 3) := zo_19 (d := 1) (e := 70) (zd_b zq_prog_1_method_30_code_0 14 rfl rfl rfl) (zd_b zq_prog_1_method_30_code_0 15 rfl rfl rfl) (zd_b zq_prog_1_method_30_code_0 16 rfl rfl rfl)
theorem d_Ip_pig_17 : decode prog_1_method_30_code 17 = .ok (.invokespecial 246, 3) := zo_183 (d := 0) (e := 246) (zd_b zq_prog_1_method_30_code_0 17 rfl rfl rfl) (zd_b zq_prog_1_method_30_code_0 18 rfl rfl rfl) (zd_b zq_prog_1_method_30_code_0 19 rfl rfl rfl)
theorem d_Ip_pig_20 : decode prog_1_method_30_code 20 = .ok (.athrow, 1) := zo_191 (zd_b zq_prog_1_method_30_code_0 20 rfl rfl rfl)
set_option maxHeartbeats 4000000 in
set_option maxRecDepth 100000 in
theorem C_Ip_pigE (g : zG) (a pa ta sa gs co fu la gy du re wm ac : Nat) (lab labg gyg dug : Nat) (gr g1 g2 : Nat → Int64) (he mg wd ir i1 i2 : Int32) (he0 : ir = 0) : CT g M_Ip_pig [.ref a] [(a, .inr (11, [.ref pa, .ref ta, .ref sa, .ref gs, .ref co, .ref fu, .ref la, .ref gy, .ref du, .ref re, .ref wm, .ref ac])), (la, .inr (5, [.ref lab, .int he, .int mg, .int wd])), (lab, .inr (6, [.ref labg, .int ir])), (labg, .inl (3, 4, .inr (.inl gr))), (gy, .inr (6, [.ref gyg, .int i1])), (gyg, .inl (3, 4, .inr (.inl g1))), (du, .inr (6, [.ref dug, .int i2])), (dug, .inl (3, 4, .inr (.inl g2)))] (fun o cs1 => o = .inr "java/lang/IllegalStateException" ∧ cs1 = [(a, .inr (11, [.ref pa, .ref ta, .ref sa, .ref gs, .ref co, .ref fu, .ref la, .ref gy, .ref du, .ref re, .ref wm, .ref ac])), (la, .inr (5, [.ref lab, .int he, .int mg, .int wd])), (lab, .inr (6, [.ref labg, .int ir])), (labg, .inl (3, 4, .inr (.inl gr))), (gy, .inr (6, [.ref gyg, .int i1])), (gyg, .inl (3, 4, .inr (.inl g1))), (du, .inr (6, [.ref dug, .int i2])), (dug, .inl (3, 4, .inr (.inl g2)))]) 1 6 := by
  refine z_of (by decide) rfl (Nat.le_of_ble_eq_true rfl) (fun w0 => ?_)
  refine r_lvE (lv2 := [(0, .ref a)]) rfl ?_
  refine r_aload_n d_Ip_pig_0 rfl 0 rfl ?_
  refine r_get fs_Ip_50 d_Ip_pig_1 (q0 := 0) rfl rfl ?_
  refine r_callV (As := []) (rest := []) (csC := [(la, .inr (5, [.ref lab, .int he, .int mg, .int wd])), (lab, .inr (6, [.ref labg, .int ir])), (labg, .inl (3, 4, .inr (.inl gr)))]) (is := [1, 2, 3]) (q0 := 1) rfl rfl ln_Ip_314 w_im_La_isEmpty w_se_La_isEmpty ok_Ip_pig_La_isEmpty d_Ip_pig_4 (C_La_isEmpty g la lab labg gr he mg wd ir) rfl rfl (Nat.le_of_ble_eq_true rfl) rfl (by decide) (by omega) (by omega) (fun E cs1 hx => ?_) (fun v cs1 hx => ?_)
  · exact absurd hx.1 (by simp)
  · obtain ⟨e1, rfl⟩ := hx
    cases e1
    refine ⟨rfl, ?_⟩
    refine r_st (st2 := [.int (if ir = 0 then 1 else 0)]) rfl ?_
    refine r_cs (cs2 := [(a, .inr (11, [.ref pa, .ref ta, .ref sa, .ref gs, .ref co, .ref fu, .ref la, .ref gy, .ref du, .ref re, .ref wm, .ref ac])), (la, .inr (5, [.ref lab, .int he, .int mg, .int wd])), (lab, .inr (6, [.ref labg, .int ir])), (labg, .inl (3, 4, .inr (.inl gr))), (gy, .inr (6, [.ref gyg, .int i1])), (gyg, .inl (3, 4, .inr (.inl g1))), (du, .inr (6, [.ref dug, .int i2])), (dug, .inl (3, 4, .inr (.inl g2)))]) rfl ?_
    refine r_if_eq (tgt := 21) d_Ip_pig_7 (by decide) (fun c_7 => ?_) (fun c_7 => ?_)
    · exact absurd he0 (z_b0 c_7)
    · refine r_throwW tb_Ip_242_246 sr_Ip_326 d_Ip_pig_10 d_Ip_pig_13 d_Ip_pig_14 d_Ip_pig_17 d_Ip_pig_20 rfl (by decide) (by decide) (Nat.le_of_ble_eq_true rfl) (by omega) (by omega) ?_
      exact ⟨rfl, rfl⟩
theorem d_Ip_pig_21 : decode prog_1_method_30_code 21 = .ok (.aload_n 0, 1) := zo_42 (zd_b zq_prog_1_method_30_code_0 21 rfl rfl rfl)
theorem d_Ip_pig_22 : decode prog_1_method_30_code 22 = .ok (.getfield 50, 3) := zo_180 (d := 0) (e := 50) (zd_b zq_prog_1_method_30_code_0 22 rfl rfl rfl) (zd_b zq_prog_1_method_30_code_0 23 rfl rfl rfl) (zd_b zq_prog_1_method_30_code_0 24 rfl rfl rfl)
theorem d_Ip_pig_25 : decode prog_1_method_30_code 25 = .ok (.getfield 359, 3) := zo_180 (d := 1) (e := 103) (zd_b zq_prog_1_method_30_code_0 25 rfl rfl rfl) (zd_b zq_prog_1_method_30_code_0 26 rfl rfl rfl) (zd_b zq_prog_1_method_30_code_0 27 rfl rfl rfl)
theorem fs_Ip_359 : z_fs "Ironpour" 359 5 0 := ⟨R_La, "Ironpour$Ladle", F_La, 4, rfl, u_La, by decide, Or.inr ⟨"Ironpour", z_mk2 (i := 0) rfl (by decide +kernel), rfl⟩⟩
theorem d_Ip_pig_28 : decode prog_1_method_30_code 28 = .ok (.getfield 269, 3) := zo_180 (d := 1) (e := 13) (zd_b zq_prog_1_method_30_code_0 28 rfl rfl rfl) (zd_b zq_prog_1_method_30_code_0 29 rfl rfl rfl) (zd_b zq_prog_1_method_30_code_0 30 rfl rfl rfl)
theorem d_Ip_pig_31 : decode prog_1_method_30_code 31 = .ok (.istore_n 1, 1) := zo_60 (zd_b zq_prog_1_method_30_code_0 31 rfl rfl rfl)
theorem d_Ip_pig_32 : decode prog_1_method_30_code 32 = .ok (.aload_n 0, 1) := zo_42 (zd_b zq_prog_1_method_30_code_1 0 rfl rfl rfl)
theorem d_Ip_pig_33 : decode prog_1_method_30_code 33 = .ok (.getfield 50, 3) := zo_180 (d := 0) (e := 50) (zd_b zq_prog_1_method_30_code_1 1 rfl rfl rfl) (zd_b zq_prog_1_method_30_code_1 2 rfl rfl rfl) (zd_b zq_prog_1_method_30_code_1 3 rfl rfl rfl)
theorem d_Ip_pig_36 : decode prog_1_method_30_code 36 = .ok (.getfield 359, 3) := zo_180 (d := 1) (e := 103) (zd_b zq_prog_1_method_30_code_1 4 rfl rfl rfl) (zd_b zq_prog_1_method_30_code_1 5 rfl rfl rfl) (zd_b zq_prog_1_method_30_code_1 6 rfl rfl rfl)
theorem d_Ip_pig_39 : decode prog_1_method_30_code 39 = .ok (.aload_n 0, 1) := zo_42 (zd_b zq_prog_1_method_30_code_1 7 rfl rfl rfl)
theorem d_Ip_pig_40 : decode prog_1_method_30_code 40 = .ok (.getfield 50, 3) := zo_180 (d := 0) (e := 50) (zd_b zq_prog_1_method_30_code_1 8 rfl rfl rfl) (zd_b zq_prog_1_method_30_code_1 9 rfl rfl rfl) (zd_b zq_prog_1_method_30_code_1 10 rfl rfl rfl)
theorem d_Ip_pig_43 : decode prog_1_method_30_code 43 = .ok (.getfield 362, 3) := zo_180 (d := 1) (e := 106) (zd_b zq_prog_1_method_30_code_1 11 rfl rfl rfl) (zd_b zq_prog_1_method_30_code_1 12 rfl rfl rfl) (zd_b zq_prog_1_method_30_code_1 13 rfl rfl rfl)
theorem fs_Ip_362 : z_fs "Ironpour" 362 5 3 := ⟨R_La, "Ironpour$Ladle", F_La, 4, rfl, u_La, by decide, Or.inr ⟨"Ironpour", z_mk2 (i := 6) rfl (by decide +kernel), rfl⟩⟩
theorem d_Ip_pig_46 : decode prog_1_method_30_code 46 = .ok (.ifCond .eq 10, 3) := zo_153 (d := 0) (e := 10) (zd_b zq_prog_1_method_30_code_1 14 rfl rfl rfl) (zd_b zq_prog_1_method_30_code_1 15 rfl rfl rfl) (zd_b zq_prog_1_method_30_code_1 16 rfl rfl rfl) (by decide +kernel)
theorem d_Ip_pig_56 : decode prog_1_method_30_code 56 = .ok (.aload_n 0, 1) := zo_42 (zd_b zq_prog_1_method_30_code_1 24 rfl rfl rfl)
theorem d_Ip_pig_57 : decode prog_1_method_30_code 57 = .ok (.getfield 57, 3) := zo_180 (d := 0) (e := 57) (zd_b zq_prog_1_method_30_code_1 25 rfl rfl rfl) (zd_b zq_prog_1_method_30_code_1 26 rfl rfl rfl) (zd_b zq_prog_1_method_30_code_1 27 rfl rfl rfl)
theorem fs_Ip_57 : z_fs "Ironpour" 57 11 7 := ⟨R_Ip, "Ironpour", F_Ip, 12, rfl, u_Ip, by decide, Or.inl ⟨z_mj2 (i := 70) rfl (by decide +kernel), Or.inl rfl⟩⟩
theorem d_Ip_pig_60 : decode prog_1_method_30_code 60 = .ok (.iload_n 1, 1) := zo_27 (zd_b zq_prog_1_method_30_code_1 28 rfl rfl rfl)
theorem d_Ip_pig_61 : decode prog_1_method_30_code 61 = .ok (.invokevirtual 282, 3) := zo_182 (d := 1) (e := 26) (zd_b zq_prog_1_method_30_code_1 29 rfl rfl rfl) (zd_b zq_prog_1_method_30_code_1 30 rfl rfl rfl) (zd_b zq_prog_1_method_30_code_1 31 rfl rfl rfl)
theorem ok_Ip_pig_Me_moveTo : z_ok M_Ip_pig M_Me_moveTo 2 := ⟨z_mj5 (i := 48) rfl (by decide +kernel), rfl, ⟨by decide +kernel, by decide +kernel, by decide +kernel⟩, ⟨by decide, by decide⟩, z_mj1 (i := 8) rfl (by decide +kernel), rfl⟩
theorem ln_Ip_282 : Cond.methodLink "Ironpour" 282 M_Me_moveTo.1 ∈ z_gw := z_mj5 (i := 45) rfl (by decide +kernel)
theorem d_Ip_pig_64 : decode prog_1_method_30_code 64 = .ok (.iload_n 1, 1) := zo_27 (zd_b zq_prog_1_method_30_code_2 0 rfl rfl rfl)
theorem d_Ip_pig_65 : decode prog_1_method_30_code 65 = .ok (.ireturn, 1) := zo_172 (zd_b zq_prog_1_method_30_code_2 1 rfl rfl rfl)
set_option maxHeartbeats 4000000 in
set_option maxRecDepth 100000 in
theorem C_Ip_pigN (g : zG) (a pa ta sa gs co fu la gy du re wm ac : Nat) (lab labg gyg dug : Nat) (gr g1 g2 : Nat → Int64) (he mg wd ir i1 i2 : Int32) (he0 : ¬ ir = 0) (h0 : ¬ ir ≤ 0) (hw : wd = 0) : CT g M_Ip_pig [.ref a] [(a, .inr (11, [.ref pa, .ref ta, .ref sa, .ref gs, .ref co, .ref fu, .ref la, .ref gy, .ref du, .ref re, .ref wm, .ref ac])), (la, .inr (5, [.ref lab, .int he, .int mg, .int wd])), (lab, .inr (6, [.ref labg, .int ir])), (labg, .inl (3, 4, .inr (.inl gr))), (gy, .inr (6, [.ref gyg, .int i1])), (gyg, .inl (3, 4, .inr (.inl g1))), (du, .inr (6, [.ref dug, .int i2])), (dug, .inl (3, 4, .inr (.inl g2)))] (fun o cs1 => o = .inl (some (.int ir)) ∧ cs1 = [(a, .inr (11, [.ref pa, .ref ta, .ref sa, .ref gs, .ref co, .ref fu, .ref la, .ref gy, .ref du, .ref re, .ref wm, .ref ac])), (la, .inr (5, [.ref lab, .int he, .int mg, .int wd])), (lab, .inr (6, [.ref labg, .int (ir - ir)])), (labg, .inl (3, 4, .inr (.inl (mvS gr ir ir 4)))), (gy, .inr (6, [.ref gyg, .int (i1 + ir)])), (gyg, .inl (3, 4, .inr (.inl (mvT gr ir ir g1 4)))), (du, .inr (6, [.ref dug, .int i2])), (dug, .inl (3, 4, .inr (.inl g2)))]) 1 6 := by
  refine z_of (by decide) rfl (Nat.le_of_ble_eq_true rfl) (fun w0 => ?_)
  refine r_lvE (lv2 := [(0, .ref a)]) rfl ?_
  refine r_aload_n d_Ip_pig_0 rfl 0 rfl ?_
  refine r_get fs_Ip_50 d_Ip_pig_1 (q0 := 0) rfl rfl ?_
  refine r_callV (As := []) (rest := []) (csC := [(la, .inr (5, [.ref lab, .int he, .int mg, .int wd])), (lab, .inr (6, [.ref labg, .int ir])), (labg, .inl (3, 4, .inr (.inl gr)))]) (is := [1, 2, 3]) (q0 := 1) rfl rfl ln_Ip_314 w_im_La_isEmpty w_se_La_isEmpty ok_Ip_pig_La_isEmpty d_Ip_pig_4 (C_La_isEmpty g la lab labg gr he mg wd ir) rfl rfl (Nat.le_of_ble_eq_true rfl) rfl (by decide) (by omega) (by omega) (fun E cs1 hx => ?_) (fun v cs1 hx => ?_)
  · exact absurd hx.1 (by simp)
  · obtain ⟨e1, rfl⟩ := hx
    cases e1
    refine ⟨rfl, ?_⟩
    refine r_st (st2 := [.int (if ir = 0 then 1 else 0)]) rfl ?_
    refine r_cs (cs2 := [(a, .inr (11, [.ref pa, .ref ta, .ref sa, .ref gs, .ref co, .ref fu, .ref la, .ref gy, .ref du, .ref re, .ref wm, .ref ac])), (la, .inr (5, [.ref lab, .int he, .int mg, .int wd])), (lab, .inr (6, [.ref labg, .int ir])), (labg, .inl (3, 4, .inr (.inl gr))), (gy, .inr (6, [.ref gyg, .int i1])), (gyg, .inl (3, 4, .inr (.inl g1))), (du, .inr (6, [.ref dug, .int i2])), (dug, .inl (3, 4, .inr (.inl g2)))]) rfl ?_
    refine r_if_eq (tgt := 21) d_Ip_pig_7 (by decide) (fun c_7 => ?_) (fun c_7 => ?_)
    · refine r_aload_n d_Ip_pig_21 rfl 0 rfl ?_
      refine r_get fs_Ip_50 d_Ip_pig_22 (q0 := 0) rfl rfl ?_
      refine r_get fs_Ip_359 d_Ip_pig_25 (q0 := 1) rfl rfl ?_
      refine r_get fs_Ip_269 d_Ip_pig_28 (q0 := 2) rfl rfl ?_
      refine r_istore_n (lv' := [(1, .int ir), (0, .ref a)]) d_Ip_pig_31 rfl (by decide) rfl ?_
      refine r_aload_n d_Ip_pig_32 rfl 1 rfl ?_
      refine r_get fs_Ip_50 d_Ip_pig_33 (q0 := 0) rfl rfl ?_
      refine r_get fs_Ip_359 d_Ip_pig_36 (q0 := 1) rfl rfl ?_
      refine r_aload_n d_Ip_pig_39 rfl 1 rfl ?_
      refine r_get fs_Ip_50 d_Ip_pig_40 (q0 := 0) rfl rfl ?_
      refine r_get fs_Ip_362 d_Ip_pig_43 (q0 := 1) rfl rfl ?_
      refine r_if_eq (tgt := 56) d_Ip_pig_46 (by decide) (fun c_46 => ?_) (fun c_46 => ?_)
      · refine r_aload_n d_Ip_pig_56 rfl 1 rfl ?_
        refine r_get fs_Ip_57 d_Ip_pig_57 (q0 := 0) rfl rfl ?_
        refine r_iload_n d_Ip_pig_60 rfl 0 rfl ?_
        refine r_callV (As := [.ref gy, .int ir]) (rest := []) (csC := [(lab, .inr (6, [.ref labg, .int ir])), (labg, .inl (3, 4, .inr (.inl gr))), (gy, .inr (6, [.ref gyg, .int i1])), (gyg, .inl (3, 4, .inr (.inl g1)))]) (is := [2, 3, 4, 5]) (q0 := 2) rfl rfl ln_Ip_282 w_im_Me_moveTo w_se_Me_moveTo ok_Ip_pig_Me_moveTo d_Ip_pig_61 (C_Me_moveToN g lab labg gr ir gy gyg g1 i1 ir h0) rfl rfl (Nat.le_of_ble_eq_true rfl) rfl (by decide) (by omega) (by omega) (fun E cs1 hx => ?_) (fun v cs1 hx => ?_)
        · exact absurd hx.1 (by simp)
        · obtain ⟨e1, rfl⟩ := hx
          cases e1
          refine ⟨rfl, ?_⟩
          refine r_st (st2 := []) rfl ?_
          refine r_cs (cs2 := [(a, .inr (11, [.ref pa, .ref ta, .ref sa, .ref gs, .ref co, .ref fu, .ref la, .ref gy, .ref du, .ref re, .ref wm, .ref ac])), (la, .inr (5, [.ref lab, .int he, .int mg, .int wd])), (lab, .inr (6, [.ref labg, .int (ir - ir)])), (labg, .inl (3, 4, .inr (.inl (mvS gr ir ir 4)))), (gy, .inr (6, [.ref gyg, .int (i1 + ir)])), (gyg, .inl (3, 4, .inr (.inl (mvT gr ir ir g1 4)))), (du, .inr (6, [.ref dug, .int i2])), (dug, .inl (3, 4, .inr (.inl g2)))]) rfl ?_
          refine r_iload_n d_Ip_pig_64 rfl 0 rfl ?_
          refine r_iret d_Ip_pig_65 rfl rfl ?_
          exact ⟨rfl, rfl⟩
      · exact absurd hw c_46
    · exact absurd (z_b1 c_7) he0
theorem d_Ip_pig_49 : decode prog_1_method_30_code 49 = .ok (.aload_n 0, 1) := zo_42 (zd_b zq_prog_1_method_30_code_1 17 rfl rfl rfl)
theorem d_Ip_pig_50 : decode prog_1_method_30_code 50 = .ok (.getfield 61, 3) := zo_180 (d := 0) (e := 61) (zd_b zq_prog_1_method_30_code_1 18 rfl rfl rfl) (zd_b zq_prog_1_method_30_code_1 19 rfl rfl rfl) (zd_b zq_prog_1_method_30_code_1 20 rfl rfl rfl)
theorem fs_Ip_61 : z_fs "Ironpour" 61 11 8 := ⟨R_Ip, "Ironpour", F_Ip, 12, rfl, u_Ip, by decide, Or.inl ⟨z_mj2 (i := 71) rfl (by decide +kernel), Or.inl rfl⟩⟩
theorem d_Ip_pig_53 : decode prog_1_method_30_code 53 = .ok (.goto 7, 3) := zo_167 (d := 0) (e := 7) (zd_b zq_prog_1_method_30_code_1 21 rfl rfl rfl) (zd_b zq_prog_1_method_30_code_1 22 rfl rfl rfl) (zd_b zq_prog_1_method_30_code_1 23 rfl rfl rfl) (by decide +kernel)
set_option maxHeartbeats 4000000 in
set_option maxRecDepth 100000 in
theorem C_Ip_pigD (g : zG) (a pa ta sa gs co fu la gy du re wm ac : Nat) (lab labg gyg dug : Nat) (gr g1 g2 : Nat → Int64) (he mg wd ir i1 i2 : Int32) (he0 : ¬ ir = 0) (h0 : ¬ ir ≤ 0) (hw : ¬ wd = 0) : CT g M_Ip_pig [.ref a] [(a, .inr (11, [.ref pa, .ref ta, .ref sa, .ref gs, .ref co, .ref fu, .ref la, .ref gy, .ref du, .ref re, .ref wm, .ref ac])), (la, .inr (5, [.ref lab, .int he, .int mg, .int wd])), (lab, .inr (6, [.ref labg, .int ir])), (labg, .inl (3, 4, .inr (.inl gr))), (gy, .inr (6, [.ref gyg, .int i1])), (gyg, .inl (3, 4, .inr (.inl g1))), (du, .inr (6, [.ref dug, .int i2])), (dug, .inl (3, 4, .inr (.inl g2)))] (fun o cs1 => o = .inl (some (.int ir)) ∧ cs1 = [(a, .inr (11, [.ref pa, .ref ta, .ref sa, .ref gs, .ref co, .ref fu, .ref la, .ref gy, .ref du, .ref re, .ref wm, .ref ac])), (la, .inr (5, [.ref lab, .int he, .int mg, .int wd])), (lab, .inr (6, [.ref labg, .int (ir - ir)])), (labg, .inl (3, 4, .inr (.inl (mvS gr ir ir 4)))), (gy, .inr (6, [.ref gyg, .int i1])), (gyg, .inl (3, 4, .inr (.inl g1))), (du, .inr (6, [.ref dug, .int (i2 + ir)])), (dug, .inl (3, 4, .inr (.inl (mvT gr ir ir g2 4))))]) 1 6 := by
  refine z_of (by decide) rfl (Nat.le_of_ble_eq_true rfl) (fun w0 => ?_)
  refine r_lvE (lv2 := [(0, .ref a)]) rfl ?_
  refine r_aload_n d_Ip_pig_0 rfl 0 rfl ?_
  refine r_get fs_Ip_50 d_Ip_pig_1 (q0 := 0) rfl rfl ?_
  refine r_callV (As := []) (rest := []) (csC := [(la, .inr (5, [.ref lab, .int he, .int mg, .int wd])), (lab, .inr (6, [.ref labg, .int ir])), (labg, .inl (3, 4, .inr (.inl gr)))]) (is := [1, 2, 3]) (q0 := 1) rfl rfl ln_Ip_314 w_im_La_isEmpty w_se_La_isEmpty ok_Ip_pig_La_isEmpty d_Ip_pig_4 (C_La_isEmpty g la lab labg gr he mg wd ir) rfl rfl (Nat.le_of_ble_eq_true rfl) rfl (by decide) (by omega) (by omega) (fun E cs1 hx => ?_) (fun v cs1 hx => ?_)
  · exact absurd hx.1 (by simp)
  · obtain ⟨e1, rfl⟩ := hx
    cases e1
    refine ⟨rfl, ?_⟩
    refine r_st (st2 := [.int (if ir = 0 then 1 else 0)]) rfl ?_
    refine r_cs (cs2 := [(a, .inr (11, [.ref pa, .ref ta, .ref sa, .ref gs, .ref co, .ref fu, .ref la, .ref gy, .ref du, .ref re, .ref wm, .ref ac])), (la, .inr (5, [.ref lab, .int he, .int mg, .int wd])), (lab, .inr (6, [.ref labg, .int ir])), (labg, .inl (3, 4, .inr (.inl gr))), (gy, .inr (6, [.ref gyg, .int i1])), (gyg, .inl (3, 4, .inr (.inl g1))), (du, .inr (6, [.ref dug, .int i2])), (dug, .inl (3, 4, .inr (.inl g2)))]) rfl ?_
    refine r_if_eq (tgt := 21) d_Ip_pig_7 (by decide) (fun c_7 => ?_) (fun c_7 => ?_)
    · refine r_aload_n d_Ip_pig_21 rfl 0 rfl ?_
      refine r_get fs_Ip_50 d_Ip_pig_22 (q0 := 0) rfl rfl ?_
      refine r_get fs_Ip_359 d_Ip_pig_25 (q0 := 1) rfl rfl ?_
      refine r_get fs_Ip_269 d_Ip_pig_28 (q0 := 2) rfl rfl ?_
      refine r_istore_n (lv' := [(1, .int ir), (0, .ref a)]) d_Ip_pig_31 rfl (by decide) rfl ?_
      refine r_aload_n d_Ip_pig_32 rfl 1 rfl ?_
      refine r_get fs_Ip_50 d_Ip_pig_33 (q0 := 0) rfl rfl ?_
      refine r_get fs_Ip_359 d_Ip_pig_36 (q0 := 1) rfl rfl ?_
      refine r_aload_n d_Ip_pig_39 rfl 1 rfl ?_
      refine r_get fs_Ip_50 d_Ip_pig_40 (q0 := 0) rfl rfl ?_
      refine r_get fs_Ip_362 d_Ip_pig_43 (q0 := 1) rfl rfl ?_
      refine r_if_eq (tgt := 56) d_Ip_pig_46 (by decide) (fun c_46 => ?_) (fun c_46 => ?_)
      · exact absurd c_46 hw
      · refine r_aload_n d_Ip_pig_49 rfl 1 rfl ?_
        refine r_get fs_Ip_61 d_Ip_pig_50 (q0 := 0) rfl rfl ?_
        refine r_goto (tgt := 60) d_Ip_pig_53 (by decide) ?_
        refine r_iload_n d_Ip_pig_60 rfl 0 rfl ?_
        refine r_callV (As := [.ref du, .int ir]) (rest := []) (csC := [(lab, .inr (6, [.ref labg, .int ir])), (labg, .inl (3, 4, .inr (.inl gr))), (du, .inr (6, [.ref dug, .int i2])), (dug, .inl (3, 4, .inr (.inl g2)))]) (is := [2, 3, 6, 7]) (q0 := 2) rfl rfl ln_Ip_282 w_im_Me_moveTo w_se_Me_moveTo ok_Ip_pig_Me_moveTo d_Ip_pig_61 (C_Me_moveToN g lab labg gr ir du dug g2 i2 ir h0) rfl rfl (Nat.le_of_ble_eq_true rfl) rfl (by decide) (by omega) (by omega) (fun E cs1 hx => ?_) (fun v cs1 hx => ?_)
        · exact absurd hx.1 (by simp)
        · obtain ⟨e1, rfl⟩ := hx
          cases e1
          refine ⟨rfl, ?_⟩
          refine r_st (st2 := []) rfl ?_
          refine r_cs (cs2 := [(a, .inr (11, [.ref pa, .ref ta, .ref sa, .ref gs, .ref co, .ref fu, .ref la, .ref gy, .ref du, .ref re, .ref wm, .ref ac])), (la, .inr (5, [.ref lab, .int he, .int mg, .int wd])), (lab, .inr (6, [.ref labg, .int (ir - ir)])), (labg, .inl (3, 4, .inr (.inl (mvS gr ir ir 4)))), (gy, .inr (6, [.ref gyg, .int i1])), (gyg, .inl (3, 4, .inr (.inl g1))), (du, .inr (6, [.ref dug, .int (i2 + ir)])), (dug, .inl (3, 4, .inr (.inl (mvT gr ir ir g2 4))))]) rfl ?_
          refine r_iload_n d_Ip_pig_64 rfl 0 rfl ?_
          refine r_iret d_Ip_pig_65 rfl rfl ?_
          exact ⟨rfl, rfl⟩
    · exact absurd (z_b1 c_7) he0
end
section
def z_an : Nat → String
  | 0 => "[I"
  | 1 => "[C"
  | 2 => "[Z"
  | 3 => "[J"
  | _ => "[D"
def z_ob : zE → Prop
  | .inl a => a.1 < 5 ∧ Cond.castable (z_an a.1) "java/lang/Object" ∈ z_nw
  | .inr o => ∃ r, vwCl[o.1]? = some r ∧ Cond.castable r.1 "java/lang/Object" ∈ z_nw
theorem zy_fc {g : zG} {s : State} (hK : va_K g.1 vwCl (z_ty g.2.1) s) (t : Nat) (ht : t < 5) : s.vm.findClass (z_an t) = some (g.2.1 t) := by
  match t, ht with
  | 0, _ => rw [show z_an 0 = "[" ++ FieldType.int.toString by decide]; exact (hK.2 0 (g.2.1 0, .int) rfl).2
  | 1, _ => rw [show z_an 1 = "[" ++ FieldType.char.toString by decide]; exact (hK.2 1 (g.2.1 1, .char) rfl).2
  | 2, _ => rw [show z_an 2 = "[" ++ FieldType.boolean.toString by decide]; exact (hK.2 2 (g.2.1 2, .boolean) rfl).2
  | 3, _ => rw [show z_an 3 = "[" ++ FieldType.long.toString by decide]; exact (hK.2 3 (g.2.1 3, .long) rfl).2
  | 4, _ => rw [show z_an 4 = "[" ++ FieldType.double.toString by decide]; exact (hK.2 4 (g.2.1 4, .double) rfl).2
  | t + 5, h => exact absurd h (by omega)
theorem zy_any {g : zG} {s : State} {H : Heap} {ws : va_W} {w : zW} {v : Nat} {ek : zE} (hK : va_K g.1 vwCl (z_ty g.2.1) s) (hN : ∀ x ∈ z_nw, va_Nw x s) (hP : va_P g.1 vwCl ws H) (hR : z_Rp g.2.1 w ws) (hw : w v = some ek) (ho : z_ob ek) : va_Any "java/lang/Object" s H v := by
  obtain ⟨q, hq⟩ := hR v _ hw
  match ek, ho, hq with
  | .inr (ci, fs), ho, hq =>
    obtain ⟨r, hr, hc⟩ := ho
    refine va_rAny hK hP hq hr (fun comp c0 h1 h2 => ?_)
    obtain ⟨c3, t0, f1, f2, f3⟩ := Cond.castable_spec (va_Nw.use (A := #[]) rfl (hN _ hc))
    cases h2.symm.trans f1
    cases h1.symm.trans f2
    exact f3
  | .inl (t, x), ho, hq =>
    obtain ⟨ht, hc⟩ := ho
    have hf := zy_fc hK t ht
    have h0 := hP q _ hq
    have hvm0 : (vp_cell (g.2.1 t) x).vm = .none := by
      obtain ⟨n, f | f | f | f | f⟩ := x <;> rfl
    have hcl0 : (vp_cell (g.2.1 t) x).cls = g.2.1 t := by
      obtain ⟨n, f | f | f | f | f⟩ := x <;> rfl
    obtain ⟨kC, hkC, -⟩ := Vm.findClass_spec hf
    refine ⟨vp_cell (g.2.1 t) x, h0, by rw [hvm0]; rfl, ⟨kC, by rw [hcl0]; exact hkC⟩, fun comp h1 => ?_⟩
    obtain ⟨c3, t0, f1, f2, f3⟩ := Cond.castable_spec (va_Nw.use (A := #[]) rfl (hN _ hc))
    cases hf.symm.trans f1
    cases h1.symm.trans f2
    rw [hcl0]
    exact f3
section
variable {g : zG} {M : zM} {Φ : zO → zC → Prop} {w0 : zW} {n pc : Nat} {lv lv' : List (Nat × Value)} {st : List Value} {cs cs' : zC} {kc ks : Nat}
theorem r_aast {q0 qk a v N : Nat} {f f' : Nat → Option Nat} {ek : zE} {i : Int32} (hd : decode M.2.1 pc = .ok (.aastore, 1)) (hc : cs[q0]? = some (a, .inl (5, N, .inr (.inr (.inr (.inr f)))))) (hk : cs[qk]? = some (v, ek)) (ho : z_ob ek) (hin : vp_in i N) (hf : va_up f i.toNatClampNeg (some v) = f') (hcs : cs.set q0 (a, .inl (5, N, .inr (.inr (.inr (.inr f'))))) = cs') (k : DV g M Φ w0 n (pc + 1) lv st cs' kc ks) : DV g M Φ w0 n pc lv (.ref v :: .int i :: .ref a :: st) cs kc ks := by
  intro w p l e R s m args below meth c A mc ms H locs cells slots ls ws I C T
  subst hcs
  subst hf
  obtain ⟨q, hq⟩ := T.2.2.2.1 a _ (I.at hc)
  exact va_astqM C.1.1 C.1.2.1 C.2.1.2.1.1 T.1 T.2.1 T.2.2.1 q 5 hq rfl (zy_any C.2.1.2.1.1 C.2.1.2.1.2.2.2.1 T.1 T.2.2.2.1 (I.at hk) ho) hin hd (fun H1 locs1 a1 a2 a3 => k _ p l e R s m args below meth c A mc ms H1 locs1 cells slots ls _ (I.set hc) C ⟨a1, a2, a3, T.2.2.2.1.set (e := .inl (5, N, .inr (.inr (.inr (.inr (va_up f i.toNatClampNeg (some v))))))) T.2.1 hq, T.2.2.2.2⟩)
theorem r_acmp_eq {x y : Nat} {off : Int} {tgt : Nat} (hd : decode M.2.1 pc = .ok (.if_acmp .eq off, 3)) (ht : (pc : Int) + off = (tgt : Int)) (kt : x = y → DV g M Φ w0 n tgt lv st cs kc ks) (kf : ¬ x = y → DV g M Φ w0 n (pc + 3) lv st cs kc ks) : DV g M Φ w0 n pc lv (.ref y :: .ref x :: st) cs kc ks :=
  fun w p l e R s m args below meth c A mc ms H locs cells slots ls ws I C T => lv_acmp_eq (rx := some x) (ry := some y) C.1.1 C.1.2.1 hd ht (fun h => kt (Option.some.inj h) w p l e R s m args below meth c A mc ms H locs cells slots ls ws I C T) (fun h => kf (fun e9 => h (congrArg some e9)) w p l e R s m args below meth c A mc ms H locs cells slots ls ws I C T)
theorem r_astore_nN {q : Fin 4} {i : Nat} (hd : decode M.2.1 pc = .ok (.astore_n q, 1)) (hi : (q : Nat) = i) (hn : i < M.2.2.1) (hl : (i, Value.null) :: lv.filter (fun q => !(q.1 == i) && !(q.1 + 1 == i && q.2.category == 2)) = lv') (k : DV g M Φ w0 n (pc + 1) lv' st cs kc ks) : DV g M Φ w0 n pc lv (.null :: st) cs kc ks :=
  fun w p l e R s m args below meth c A mc ms H locs cells slots ls ws I C T => lv_astore_nN C.1.1 C.1.2.1 hd hi T.2.2.2.2.1 hn hl (fun ls9 hl9 => k w p l e R s m args below meth c A mc ms H locs cells slots ls9 ws I C ⟨T.1, T.2.1, T.2.2.1, T.2.2.2.1, hl9, T.2.2.2.2.2⟩)
theorem r_dupx1 {va vb : Value} (hd : decode M.2.1 pc = .ok (.dup_x1, 1)) (h1 : va.category = 1) (h2 : vb.category = 1) (k : DV g M Φ w0 n (pc + 1) lv (va :: vb :: va :: st) cs kc ks) : DV g M Φ w0 n pc lv (va :: vb :: st) cs kc ks :=
  fun w p l e R s m args below meth c A mc ms H locs cells slots ls ws I C T => lv_dup_x1 C.1.1 C.1.2.1 hd h1 h2 (k w p l e R s m args below meth c A mc ms H locs cells slots ls ws I C T)
theorem r_anewa {idx : Nat} {i : Int32} {N : Nat} (hl : Cond.classLink M.1.cls idx "java/lang/Object" ∈ z_gw) (hd : decode M.2.1 pc = .ok (.anewarray idx, 3)) (hn : ¬ i < 0) (hN : i.toNatClampNeg = N) (hb : N ≤ 65536) (h1 : 1 ≤ kc) (h2 : N ≤ ks) (k : ∀ q : Nat, DV g M Φ w0 n (pc + 3) lv (.ref q :: st) (cs ++ [(q, .inl (5, N, .inr (.inr (.inr (.inr (fun _ => none))))))]) (kc - 1) (ks - N)) : DV g M Φ w0 n pc lv (.int i :: st) cs kc ks := by
  intro w p l e R s m args below meth c A mc ms H locs cells slots ls ws I C T
  have b1 := C.2.2.1.2.2.1
  have b2 := C.2.2.1.2.2.2
  have b3 := T.2.2.2.2.2.1
  have b4 := T.2.2.2.2.2.2
  refine va_newq C.1.1 C.1.2.1 C.1.2.2.2.1 (C.1.2.2.2.2 _ hl) C.2.1.2.1.2.2.2.2.2.2.2.2.2.2.2.1 C.2.1.2.1.1 T.1 T.2.1 T.2.2.1 C.2.1.2.2 hn hN (by omega) (by omega) (by omega) hd (fun q cA H1 c0 c1 c2 c3 => ?_)
  obtain ⟨-, -, -, -, -, e1⟩ := (c0.2 6 (cA, .object "java/lang/Object") rfl).2
  obtain ⟨-, -, -, -, -, e2⟩ := (C.2.1.2.1.1.2 5 (g.2.1 5, .object "java/lang/Object") rfl).2
  have e3 : cA = g.2.1 5 := Option.some.inj (e1.symm.trans e2)
  subst e3
  exact k q (z_up w q (.inl (5, N, .inr (.inr (.inr (.inr (fun _ => none))))))) p l e R s m args below meth c A mc ms H1 locs (cells + 1) (slots + N) ls _ (I.push (T.2.2.2.1.fresh c2)) C ⟨c1, c2, c3, T.2.2.2.1.push (e := .inl (5, N, .inr (.inr (.inr (.inr (fun _ => none)))))), T.2.2.2.2.1, by omega, by omega⟩
end
theorem cst_0 : Cond.castable (z_an 0) "java/lang/Object" ∈ z_nw := z_mk9 (i := 111) rfl (by decide +kernel)
theorem cst_1 : Cond.castable (z_an 1) "java/lang/Object" ∈ z_nw := z_mk9 (i := 109) rfl (by decide +kernel)
theorem cst_3 : Cond.castable (z_an 3) "java/lang/Object" ∈ z_nw := z_mk9 (i := 112) rfl (by decide +kernel)
end
