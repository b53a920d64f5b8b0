theorem X_shrunkCells (g : zG) (a a1 a2 az az1 az2 az3 az4 az5 az6 a4 a5 a6 : Nat) (X : zTr) : CT g M_Tr_shrunkCells [.ref a] [(a, .inr (10, [.ref a1, .ref a2, .ref az, .ref a4, .ref a5, .ref a6, .int X.1.2.2.1, .int X.1.2.2.2])), (a1, .inl (1, 108, .inl X.1.1)), (a2, .inl (0, 108, .inl X.1.2.1)), (az, .inr (2, [.ref az1, .ref az2, .ref az3, .ref az4, .ref az5, .ref az6, .int X.2.1.1.1.2.2.2])), (az4, .inl (0, 108, .inl X.2.1.1.1.2.2.1)), (a4, .inl (2, 108, .inl X.2.2.1)), (a5, .inl (2, 108, .inl X.2.2.2.1)), (a6, .inl (0, 108, .inl (fun k => nI (X.2.2.2.2 k))))] (fun o cs1 => o = .inl (some (.int (nI (shN X)))) ∧ cs1 = [(a, .inr (10, [.ref a1, .ref a2, .ref az, .ref a4, .ref a5, .ref a6, .int X.1.2.2.1, .int X.1.2.2.2])), (a1, .inl (1, 108, .inl X.1.1)), (a2, .inl (0, 108, .inl X.1.2.1)), (az, .inr (2, [.ref az1, .ref az2, .ref az3, .ref az4, .ref az5, .ref az6, .int X.2.1.1.1.2.2.2])), (az4, .inl (0, 108, .inl X.2.1.1.1.2.2.1)), (a4, .inl (2, 108, .inl X.2.2.1)), (a5, .inl (2, 108, .inl X.2.2.2.1)), (a6, .inl (0, 108, .inl (fun k => nI (X.2.2.2.2 k))))]) 0 0 := C_Tr_shrunkCells g a a1 a2 az az1 az2 az3 az4 az5 az6 a4 a5 a6 X.1.2.2.1 X.1.2.2.2 X.2.1.1.1.2.2.2 X.1.1 X.1.2.1 X.2.1.1.1.2.2.1 X.2.2.1 X.2.2.2.1 X.2.2.2.2
abbrev M_Ip_undercut : zM := (⟨"Ironpour", "undercut", "()I"⟩, prog_1_method_5_code, 1, (Option.some FieldType.int), 4, 90, [])
theorem d_Ip_undercut_0 : decode prog_1_method_5_code 0 = .ok (.aload_n 0, 1) := zo_42 (zd_b zq_prog_1_method_5_code_0 0 rfl rfl rfl)
theorem d_Ip_undercut_1 : decode prog_1_method_5_code 1 = .ok (.getfield 10, 3) := zo_180 (d := 0) (e := 10) (zd_b zq_prog_1_method_5_code_0 1 rfl rfl rfl) (zd_b zq_prog_1_method_5_code_0 2 rfl rfl rfl) (zd_b zq_prog_1_method_5_code_0 3 rfl rfl rfl)
theorem u_Ip : ∀ x ∈ u_ws R_Ip F_Ip 12, x ∈ z_gw := fun x hx => List.mem_filter.mpr ⟨(z_au [(2, 75), (2, 77), (2, 79), (2, 81), (2, 83), (2, 85), (2, 87), (2, 89), (2, 91), (2, 93), (2, 95), (2, 97)] (by decide +kernel) : ∀ x ∈ u_ws R_Ip F_Ip 12, x ∈ lw_tbl) x hx, (show ∀ x ∈ u_ws R_Ip F_Ip 12, goodWord x = true by decide +kernel) x hx⟩
theorem fs_Ip_10 : z_fs "Ironpour" 10 11 0 := ⟨R_Ip, "Ironpour", F_Ip, 12, rfl, u_Ip, by decide, Or.inl ⟨z_mj2 (i := 63) rfl (by decide +kernel), Or.inl rfl⟩⟩
theorem d_Ip_undercut_4 : decode prog_1_method_5_code 4 = .ok (.invokevirtual 124, 3) := zo_182 (d := 0) (e := 124) (zd_b zq_prog_1_method_5_code_0 4 rfl rfl rfl) (zd_b zq_prog_1_method_5_code_0 5 rfl rfl rfl) (zd_b zq_prog_1_method_5_code_0 6 rfl rfl rfl)
theorem ok_Ip_undercut_Pa_undercutCells : z_ok M_Ip_undercut M_Pa_undercutCells 0 := ⟨z_mj2 (i := 107) rfl (by decide +kernel), rfl, ⟨by decide +kernel, by decide +kernel, by decide +kernel⟩, ⟨by decide, by decide⟩, z_mj1 (i := 2) rfl (by decide +kernel), rfl⟩
theorem ln_Ip_124 : Cond.methodLink "Ironpour" 124 M_Pa_undercutCells.1 ∈ z_gw := z_mj2 (i := 104) rfl (by decide +kernel)
theorem d_Ip_undercut_7 : decode prog_1_method_5_code 7 = .ok (.ireturn, 1) := zo_172 (zd_b zq_prog_1_method_5_code_0 7 rfl rfl rfl)
set_option maxHeartbeats 4000000 in
set_option maxRecDepth 100000 in
theorem C_Ip_undercut (g : zG) (a pa ta sa gs co fu la gy du re wm ac : Nat) (pa1 pa2 pa3 : Nat) (f sn : Nat → Int32) (qn : Nat → Nat) (p : Nat) (hp1 : 1 ≤ p) (hp : p < 9) : CT g M_Ip_undercut [.ref a] [(a, .inr (11, [.ref pa, .ref ta, .ref sa, .ref gs, .ref co, .ref fu, .ref la, .ref gy, .ref du, .ref re, .ref wm, .ref ac])), (pa, .inr (8, [.ref pa1, .ref pa2, .ref pa3, .int (nI p)])), (pa1, .inl (1, 108, .inl f)), (pa2, .inl (2, 108, .inl sn)), (pa3, .inl (0, 108, .inl (fun k => nI (qn k))))] (fun o cs1 => o = .inl (some (.int (nI (ucT f p 12)))) ∧ cs1 = [(a, .inr (11, [.ref pa, .ref ta, .ref sa, .ref gs, .ref co, .ref fu, .ref la, .ref gy, .ref du, .ref re, .ref wm, .ref ac])), (pa, .inr (8, [.ref pa1, .ref pa2, .ref pa3, .int (nI p)])), (pa1, .inl (1, 108, .inl f)), (pa2, .inl (2, 108, .inl sn)), (pa3, .inl (0, 108, .inl (fun k => nI (qn k))))]) 0 0 := by
  refine z_of (by decide) rfl (Nat.le_of_ble_eq_true rfl) (fun w0 => ?_)
  refine r_lvE (lv2 := [(0, .ref a)]) rfl ?_
  refine r_aload_n d_Ip_undercut_0 rfl 0 rfl ?_
  refine r_get fs_Ip_10 d_Ip_undercut_1 (q0 := 0) rfl rfl ?_
  refine r_callV (As := []) (rest := []) (csC := [(pa, .inr (8, [.ref pa1, .ref pa2, .ref pa3, .int (nI p)])), (pa1, .inl (1, 108, .inl f)), (pa2, .inl (2, 108, .inl sn)), (pa3, .inl (0, 108, .inl (fun k => nI (qn k))))]) (is := [1, 2, 3, 4]) (q0 := 1) rfl rfl ln_Ip_124 w_im_Pa_undercutCells w_se_Pa_undercutCells ok_Ip_undercut_Pa_undercutCells d_Ip_undercut_4 (C_Pa_undercutCells g pa pa1 pa2 pa3 f sn (fun k => nI (qn k)) p hp1 hp) rfl rfl (Nat.le_of_ble_eq_true rfl) rfl (by decide) (by omega) (by omega) (fun E cs1 hx => ?_) (fun v cs1 hx => ?_)
  · exact absurd hx.1 (by simp)
  · obtain ⟨e1, rfl⟩ := hx
    cases e1
    refine ⟨rfl, ?_⟩
    refine r_st (st2 := [.int (nI (ucT f p 12))]) rfl ?_
    refine r_cs (cs2 := [(a, .inr (11, [.ref pa, .ref ta, .ref sa, .ref gs, .ref co, .ref fu, .ref la, .ref gy, .ref du, .ref re, .ref wm, .ref ac])), (pa, .inr (8, [.ref pa1, .ref pa2, .ref pa3, .int (nI p)])), (pa1, .inl (1, 108, .inl f)), (pa2, .inl (2, 108, .inl sn)), (pa3, .inl (0, 108, .inl (fun k => nI (qn k))))]) rfl ?_
    refine r_iret d_Ip_undercut_7 rfl rfl ?_
    exact ⟨rfl, rfl⟩
abbrev M_Ip_cores : zM := (⟨"Ironpour", "cores", "()I"⟩, prog_1_method_6_code, 1, (Option.some FieldType.int), 5, 111, [])
theorem d_Ip_cores_0 : decode prog_1_method_6_code 0 = .ok (.aload_n 0, 1) := zo_42 (zd_b zq_prog_1_method_6_code_0 0 rfl rfl rfl)
theorem d_Ip_cores_1 : decode prog_1_method_6_code 1 = .ok (.getfield 10, 3) := zo_180 (d := 0) (e := 10) (zd_b zq_prog_1_method_6_code_0 1 rfl rfl rfl) (zd_b zq_prog_1_method_6_code_0 2 rfl rfl rfl) (zd_b zq_prog_1_method_6_code_0 3 rfl rfl rfl)
theorem d_Ip_cores_4 : decode prog_1_method_6_code 4 = .ok (.invokevirtual 128, 3) := zo_182 (d := 0) (e := 128) (zd_b zq_prog_1_method_6_code_0 4 rfl rfl rfl) (zd_b zq_prog_1_method_6_code_0 5 rfl rfl rfl) (zd_b zq_prog_1_method_6_code_0 6 rfl rfl rfl)
theorem ok_Ip_cores_Pa_coreGroups : z_ok M_Ip_cores M_Pa_coreGroups 0 := ⟨z_mj2 (i := 122) rfl (by decide +kernel), rfl, ⟨by decide +kernel, by decide +kernel, by decide +kernel⟩, ⟨by decide, by decide⟩, z_mj1 (i := 2) rfl (by decide +kernel), rfl⟩
theorem ln_Ip_128 : Cond.methodLink "Ironpour" 128 M_Pa_coreGroups.1 ∈ z_gw := z_mj2 (i := 119) rfl (by decide +kernel)
theorem w_im_Pa_coreGroups : Cond.instanceMethod M_Pa_coreGroups.1 ∈ z_gw := z_mj2 (i := 120) rfl (by decide +kernel)
theorem w_se_Pa_coreGroups : Cond.selects M_Pa_coreGroups.1.cls M_Pa_coreGroups.1 M_Pa_coreGroups.1 ∈ z_gw := z_mj2 (i := 121) rfl (by decide +kernel)
theorem d_Ip_cores_7 : decode prog_1_method_6_code 7 = .ok (.ireturn, 1) := zo_172 (zd_b zq_prog_1_method_6_code_0 7 rfl rfl rfl)
set_option maxHeartbeats 4000000 in
set_option maxRecDepth 100000 in
theorem C_Ip_cores (g : zG) (a pa ta sa gs co fu la gy du re wm ac : Nat) (pa1 pa2 pa3 : Nat) (f sn : Nat → Int32) (qn : Nat → Nat) (p : Nat) : CT g M_Ip_cores [.ref a] [(a, .inr (11, [.ref pa, .ref ta, .ref sa, .ref gs, .ref co, .ref fu, .ref la, .ref gy, .ref du, .ref re, .ref wm, .ref ac])), (pa, .inr (8, [.ref pa1, .ref pa2, .ref pa3, .int (nI p)])), (pa1, .inl (1, 108, .inl f)), (pa2, .inl (2, 108, .inl sn)), (pa3, .inl (0, 108, .inl (fun k => nI (qn k))))] (fun o cs1 => o = .inl (some (.int (nI (grS f 109 (fa_fill (fun _ => 0) sn 108, qn, 0) 108).2.2))) ∧ cs1 = [(a, .inr (11, [.ref pa, .ref ta, .ref sa, .ref gs, .ref co, .ref fu, .ref la, .ref gy, .ref du, .ref re, .ref wm, .ref ac])), (pa, .inr (8, [.ref pa1, .ref pa2, .ref pa3, .int (nI p)])), (pa1, .inl (1, 108, .inl f)), (pa2, .inl (2, 108, .inl ((grS f 109 (fa_fill (fun _ => 0) sn 108, qn, 0) 108).1))), (pa3, .inl (0, 108, .inl (fun k => nI ((grS f 109 (fa_fill (fun _ => 0) sn 108, qn, 0) 108).2.1 k))))]) 0 0 := by
  refine z_of (by decide) rfl (Nat.le_of_ble_eq_true rfl) (fun w0 => ?_)
  refine r_lvE (lv2 := [(0, .ref a)]) rfl ?_
  refine r_aload_n d_Ip_cores_0 rfl 0 rfl ?_
  refine r_get fs_Ip_10 d_Ip_cores_1 (q0 := 0) rfl rfl ?_
  refine r_callV (As := []) (rest := []) (csC := [(pa, .inr (8, [.ref pa1, .ref pa2, .ref pa3, .int (nI p)])), (pa1, .inl (1, 108, .inl f)), (pa2, .inl (2, 108, .inl sn)), (pa3, .inl (0, 108, .inl (fun k => nI (qn k))))]) (is := [1, 2, 3, 4]) (q0 := 1) rfl rfl ln_Ip_128 w_im_Pa_coreGroups w_se_Pa_coreGroups ok_Ip_cores_Pa_coreGroups d_Ip_cores_4 (C_Pa_coreGroups g pa pa1 pa2 pa3 f sn qn (nI p)) rfl rfl (Nat.le_of_ble_eq_true rfl) rfl (by decide) (by omega) (by omega) (fun E cs1 hx => ?_) (fun v cs1 hx => ?_)
  · exact absurd hx.1 (by simp)
  · obtain ⟨e1, rfl⟩ := hx
    cases e1
    refine ⟨rfl, ?_⟩
    refine r_st (st2 := [.int (nI (grS f 109 (fa_fill (fun _ => 0) sn 108, qn, 0) 108).2.2)]) rfl ?_
    refine r_cs (cs2 := [(a, .inr (11, [.ref pa, .ref ta, .ref sa, .ref gs, .ref co, .ref fu, .ref la, .ref gy, .ref du, .ref re, .ref wm, .ref ac])), (pa, .inr (8, [.ref pa1, .ref pa2, .ref pa3, .int (nI p)])), (pa1, .inl (1, 108, .inl f)), (pa2, .inl (2, 108, .inl ((grS f 109 (fa_fill (fun _ => 0) sn 108, qn, 0) 108).1))), (pa3, .inl (0, 108, .inl (fun k => nI ((grS f 109 (fa_fill (fun _ => 0) sn 108, qn, 0) 108).2.1 k))))]) rfl ?_
    refine r_iret d_Ip_cores_7 rfl rfl ?_
    exact ⟨rfl, rfl⟩
abbrev M_Ip_loose : zM := (⟨"Ironpour", "loose", "()I"⟩, prog_1_method_7_code, 1, (Option.some FieldType.int), 5, 111, [])
theorem d_Ip_loose_0 : decode prog_1_method_7_code 0 = .ok (.aload_n 0, 1) := zo_42 (zd_b zq_prog_1_method_7_code_0 0 rfl rfl rfl)
theorem d_Ip_loose_1 : decode prog_1_method_7_code 1 = .ok (.getfield 10, 3) := zo_180 (d := 0) (e := 10) (zd_b zq_prog_1_method_7_code_0 1 rfl rfl rfl) (zd_b zq_prog_1_method_7_code_0 2 rfl rfl rfl) (zd_b zq_prog_1_method_7_code_0 3 rfl rfl rfl)
theorem d_Ip_loose_4 : decode prog_1_method_7_code 4 = .ok (.invokevirtual 131, 3) := zo_182 (d := 0) (e := 131) (zd_b zq_prog_1_method_7_code_0 4 rfl rfl rfl) (zd_b zq_prog_1_method_7_code_0 5 rfl rfl rfl) (zd_b zq_prog_1_method_7_code_0 6 rfl rfl rfl)
theorem ok_Ip_loose_Pa_looseGroups : z_ok M_Ip_loose M_Pa_looseGroups 0 := ⟨z_mj2 (i := 141) rfl (by decide +kernel), rfl, ⟨by decide +kernel, by decide +kernel, by decide +kernel⟩, ⟨by decide, by decide⟩, z_mj1 (i := 2) rfl (by decide +kernel), rfl⟩
theorem ln_Ip_131 : Cond.methodLink "Ironpour" 131 M_Pa_looseGroups.1 ∈ z_gw := z_mj2 (i := 138) rfl (by decide +kernel)
theorem d_Ip_loose_7 : decode prog_1_method_7_code 7 = .ok (.ireturn, 1) := zo_172 (zd_b zq_prog_1_method_7_code_0 7 rfl rfl rfl)
set_option maxHeartbeats 4000000 in
set_option maxRecDepth 100000 in
theorem C_Ip_loose (g : zG) (a pa ta sa gs co fu la gy du re wm ac : Nat) (pa1 pa2 pa3 : Nat) (f sn : Nat → Int32) (qn : Nat → Nat) (p : Nat) : CT g M_Ip_loose [.ref a] [(a, .inr (11, [.ref pa, .ref ta, .ref sa, .ref gs, .ref co, .ref fu, .ref la, .ref gy, .ref du, .ref re, .ref wm, .ref ac])), (pa, .inr (8, [.ref pa1, .ref pa2, .ref pa3, .int (nI p)])), (pa1, .inl (1, 108, .inl f)), (pa2, .inl (2, 108, .inl sn)), (pa3, .inl (0, 108, .inl (fun k => nI (qn k))))] (fun o cs1 => o = .inl (some (.int (nI (grS f 2 (fa_fill (fun _ => 0) sn 108, qn, 0) 108).2.2))) ∧ cs1 = [(a, .inr (11, [.ref pa, .ref ta, .ref sa, .ref gs, .ref co, .ref fu, .ref la, .ref gy, .ref du, .ref re, .ref wm, .ref ac])), (pa, .inr (8, [.ref pa1, .ref pa2, .ref pa3, .int (nI p)])), (pa1, .inl (1, 108, .inl f)), (pa2, .inl (2, 108, .inl ((grS f 2 (fa_fill (fun _ => 0) sn 108, qn, 0) 108).1))), (pa3, .inl (0, 108, .inl (fun k => nI ((grS f 2 (fa_fill (fun _ => 0) sn 108, qn, 0) 108).2.1 k))))]) 0 0 := by
  refine z_of (by decide) rfl (Nat.le_of_ble_eq_true rfl) (fun w0 => ?_)
  refine r_lvE (lv2 := [(0, .ref a)]) rfl ?_
  refine r_aload_n d_Ip_loose_0 rfl 0 rfl ?_
  refine r_get fs_Ip_10 d_Ip_loose_1 (q0 := 0) rfl rfl ?_
  refine r_callV (As := []) (rest := []) (csC := [(pa, .inr (8, [.ref pa1, .ref pa2, .ref pa3, .int (nI p)])), (pa1, .inl (1, 108, .inl f)), (pa2, .inl (2, 108, .inl sn)), (pa3, .inl (0, 108, .inl (fun k => nI (qn k))))]) (is := [1, 2, 3, 4]) (q0 := 1) rfl rfl ln_Ip_131 w_im_Pa_looseGroups w_se_Pa_looseGroups ok_Ip_loose_Pa_looseGroups d_Ip_loose_4 (C_Pa_looseGroups g pa pa1 pa2 pa3 f sn qn (nI p)) rfl rfl (Nat.le_of_ble_eq_true rfl) rfl (by decide) (by omega) (by omega) (fun E cs1 hx => ?_) (fun v cs1 hx => ?_)
  · exact absurd hx.1 (by simp)
  · obtain ⟨e1, rfl⟩ := hx
    cases e1
    refine ⟨rfl, ?_⟩
    refine r_st (st2 := [.int (nI (grS f 2 (fa_fill (fun _ => 0) sn 108, qn, 0) 108).2.2)]) rfl ?_
    refine r_cs (cs2 := [(a, .inr (11, [.ref pa, .ref ta, .ref sa, .ref gs, .ref co, .ref fu, .ref la, .ref gy, .ref du, .ref re, .ref wm, .ref ac])), (pa, .inr (8, [.ref pa1, .ref pa2, .ref pa3, .int (nI p)])), (pa1, .inl (1, 108, .inl f)), (pa2, .inl (2, 108, .inl ((grS f 2 (fa_fill (fun _ => 0) sn 108, qn, 0) 108).1))), (pa3, .inl (0, 108, .inl (fun k => nI ((grS f 2 (fa_fill (fun _ => 0) sn 108, qn, 0) 108).2.1 k))))]) rfl ?_
    refine r_iret d_Ip_loose_7 rfl rfl ?_
    exact ⟨rfl, rfl⟩
abbrev M_Ip_weight : zM := (⟨"Ironpour", "weight", "()I"⟩, prog_1_method_8_code, 1, (Option.some FieldType.int), 3, 62, [])
theorem d_Ip_weight_0 : decode prog_1_method_8_code 0 = .ok (.aload_n 0, 1) := zo_42 (zd_b zq_prog_1_method_8_code_0 0 rfl rfl rfl)
theorem d_Ip_weight_1 : decode prog_1_method_8_code 1 = .ok (.getfield 10, 3) := zo_180 (d := 0) (e := 10) (zd_b zq_prog_1_method_8_code_0 1 rfl rfl rfl) (zd_b zq_prog_1_method_8_code_0 2 rfl rfl rfl) (zd_b zq_prog_1_method_8_code_0 3 rfl rfl rfl)
theorem d_Ip_weight_4 : decode prog_1_method_8_code 4 = .ok (.invokevirtual 134, 3) := zo_182 (d := 0) (e := 134) (zd_b zq_prog_1_method_8_code_0 4 rfl rfl rfl) (zd_b zq_prog_1_method_8_code_0 5 rfl rfl rfl) (zd_b zq_prog_1_method_8_code_0 6 rfl rfl rfl)
theorem ok_Ip_weight_Pa_metalCells : z_ok M_Ip_weight M_Pa_metalCells 0 := ⟨z_mj2 (i := 149) rfl (by decide +kernel), rfl, ⟨by decide +kernel, by decide +kernel, by decide +kernel⟩, ⟨by decide, by decide⟩, z_mj1 (i := 2) rfl (by decide +kernel), rfl⟩
theorem ln_Ip_134 : Cond.methodLink "Ironpour" 134 M_Pa_metalCells.1 ∈ z_gw := z_mj2 (i := 146) rfl (by decide +kernel)
theorem d_Ip_weight_7 : decode prog_1_method_8_code 7 = .ok (.invokestatic 137, 3) := zo_184 (d := 0) (e := 137) (zd_b zq_prog_1_method_8_code_0 7 rfl rfl rfl) (zd_b zq_prog_1_method_8_code_0 8 rfl rfl rfl) (zd_b zq_prog_1_method_8_code_0 9 rfl rfl rfl)
theorem ok_Ip_weight_Ip_kilogramsFor : z_ok M_Ip_weight M_Ip_kilogramsFor 1 := ⟨z_mj2 (i := 152) rfl (by decide +kernel), rfl, ⟨by decide +kernel, by decide +kernel, by decide +kernel⟩, ⟨by decide, by decide⟩, z_mj1 (i := 1) rfl (by decide +kernel), rfl⟩
theorem ln_Ip_137 : Cond.methodLink "Ironpour" 137 M_Ip_kilogramsFor.1 ∈ z_gw := z_mj2 (i := 150) rfl (by decide +kernel)
theorem w_st_Ip_kilogramsFor : Cond.static M_Ip_kilogramsFor.1 ∈ z_gw := z_mj2 (i := 151) rfl (by decide +kernel)
theorem d_Ip_weight_10 : decode prog_1_method_8_code 10 = .ok (.ireturn, 1) := zo_172 (zd_b zq_prog_1_method_8_code_0 10 rfl rfl rfl)
set_option maxHeartbeats 4000000 in
set_option maxRecDepth 100000 in
theorem C_Ip_weight (g : zG) (a pa ta sa gs co fu la gy du re wm ac : Nat) (pa1 pa2 pa3 : Nat) (f sn : Nat → Int32) (qn : Nat → Nat) (p : Nat) : CT g M_Ip_weight [.ref a] [(a, .inr (11, [.ref pa, .ref ta, .ref sa, .ref gs, .ref co, .ref fu, .ref la, .ref gy, .ref du, .ref re, .ref wm, .ref ac])), (pa, .inr (8, [.ref pa1, .ref pa2, .ref pa3, .int (nI p)])), (pa1, .inl (1, 108, .inl f)), (pa2, .inl (2, 108, .inl sn)), (pa3, .inl (0, 108, .inl (fun k => nI (qn k))))] (fun o cs1 => o = .inl (some (.int (2 * nI (fa_cnt (fun k => tmB (f k)) 108)))) ∧ cs1 = [(a, .inr (11, [.ref pa, .ref ta, .ref sa, .ref gs, .ref co, .ref fu, .ref la, .ref gy, .ref du, .ref re, .ref wm, .ref ac])), (pa, .inr (8, [.ref pa1, .ref pa2, .ref pa3, .int (nI p)])), (pa1, .inl (1, 108, .inl f)), (pa2, .inl (2, 108, .inl sn)), (pa3, .inl (0, 108, .inl (fun k => nI (qn k))))]) 0 0 := by
  refine z_of (by decide) rfl (Nat.le_of_ble_eq_true rfl) (fun w0 => ?_)
  refine r_lvE (lv2 := [(0, .ref a)]) rfl ?_
  refine r_aload_n d_Ip_weight_0 rfl 0 rfl ?_
  refine r_get fs_Ip_10 d_Ip_weight_1 (q0 := 0) rfl rfl ?_
  refine r_callV (As := []) (rest := []) (csC := [(pa, .inr (8, [.ref pa1, .ref pa2, .ref pa3, .int (nI p)])), (pa1, .inl (1, 108, .inl f)), (pa2, .inl (2, 108, .inl sn)), (pa3, .inl (0, 108, .inl (fun k => nI (qn k))))]) (is := [1, 2, 3, 4]) (q0 := 1) rfl rfl ln_Ip_134 w_im_Pa_metalCells w_se_Pa_metalCells ok_Ip_weight_Pa_metalCells d_Ip_weight_4 (C_Pa_metalCells g pa pa1 pa2 pa3 f sn (fun k => nI (qn k)) (nI p)) rfl rfl (Nat.le_of_ble_eq_true rfl) rfl (by decide) (by omega) (by omega) (fun E cs1 hx => ?_) (fun v cs1 hx => ?_)
  · exact absurd hx.1 (by simp)
  · obtain ⟨e1, rfl⟩ := hx
    cases e1
    refine ⟨rfl, ?_⟩
    refine r_st (st2 := [.int (nI (fa_cnt (fun k => tmB (f k)) 108))]) rfl ?_
    refine r_cs (cs2 := [(a, .inr (11, [.ref pa, .ref ta, .ref sa, .ref gs, .ref co, .ref fu, .ref la, .ref gy, .ref du, .ref re, .ref wm, .ref ac])), (pa, .inr (8, [.ref pa1, .ref pa2, .ref pa3, .int (nI p)])), (pa1, .inl (1, 108, .inl f)), (pa2, .inl (2, 108, .inl sn)), (pa3, .inl (0, 108, .inl (fun k => nI (qn k))))]) rfl ?_
    refine r_callS (As := [.int (nI (fa_cnt (fun k => tmB (f k)) 108))]) (rest := []) (csC := []) (is := []) ln_Ip_137 w_st_Ip_kilogramsFor ok_Ip_weight_Ip_kilogramsFor d_Ip_weight_7 (C_Ip_kilogramsFor g (nI (fa_cnt (fun k => tmB (f k)) 108))) rfl rfl (Nat.le_of_ble_eq_true rfl) rfl (by decide) (by omega) (by omega) (fun E cs1 hx => ?_) (fun v cs1 hx => ?_)
    · exact absurd hx.1 (by simp)
    · obtain ⟨e1, rfl⟩ := hx
      cases e1
      refine ⟨rfl, ?_⟩
      refine r_st (st2 := [.int (2 * nI (fa_cnt (fun k => tmB (f k)) 108))]) rfl ?_
      refine r_cs (cs2 := [(a, .inr (11, [.ref pa, .ref ta, .ref sa, .ref gs, .ref co, .ref fu, .ref la, .ref gy, .ref du, .ref re, .ref wm, .ref ac])), (pa, .inr (8, [.ref pa1, .ref pa2, .ref pa3, .int (nI p)])), (pa1, .inl (1, 108, .inl f)), (pa2, .inl (2, 108, .inl sn)), (pa3, .inl (0, 108, .inl (fun k => nI (qn k))))]) rfl ?_
      refine r_iret d_Ip_weight_10 rfl rfl ?_
      exact ⟨rfl, rfl⟩
abbrev M_Ip_cell : zM := (⟨"Ironpour", "cell", "(II)C"⟩, prog_1_method_3_code, 3, (Option.some FieldType.char), 7, 121, [])
theorem d_Ip_cell_0 : decode prog_1_method_3_code 0 = .ok (.aload_n 0, 1) := zo_42 (zd_b zq_prog_1_method_3_code_0 0 rfl rfl rfl)
theorem d_Ip_cell_1 : decode prog_1_method_3_code 1 = .ok (.getfield 10, 3) := zo_180 (d := 0) (e := 10) (zd_b zq_prog_1_method_3_code_0 1 rfl rfl rfl) (zd_b zq_prog_1_method_3_code_0 2 rfl rfl rfl) (zd_b zq_prog_1_method_3_code_0 3 rfl rfl rfl)
theorem d_Ip_cell_4 : decode prog_1_method_3_code 4 = .ok (.getfield 106, 3) := zo_180 (d := 0) (e := 106) (zd_b zq_prog_1_method_3_code_0 4 rfl rfl rfl) (zd_b zq_prog_1_method_3_code_0 5 rfl rfl rfl) (zd_b zq_prog_1_method_3_code_0 6 rfl rfl rfl)
theorem fs_Ip_106 : z_fs "Ironpour" 106 8 0 := ⟨R_Pa, "Ironpour$Pattern", F_Pa, 4, rfl, u_Pa, by decide, Or.inr ⟨"Ironpour", z_mk1 (i := 54) rfl (by decide +kernel), rfl⟩⟩
theorem d_Ip_cell_7 : decode prog_1_method_3_code 7 = .ok (.iload_n 1, 1) := zo_27 (zd_b zq_prog_1_method_3_code_0 7 rfl rfl rfl)
theorem d_Ip_cell_8 : decode prog_1_method_3_code 8 = .ok (.iload_n 2, 1) := zo_28 (zd_b zq_prog_1_method_3_code_0 8 rfl rfl rfl)
theorem d_Ip_cell_9 : decode prog_1_method_3_code 9 = .ok (.invokestatic 114, 3) := zo_184 (d := 0) (e := 114) (zd_b zq_prog_1_method_3_code_0 9 rfl rfl rfl) (zd_b zq_prog_1_method_3_code_0 10 rfl rfl rfl) (zd_b zq_prog_1_method_3_code_0 11 rfl rfl rfl)
theorem ok_Ip_cell_Ip_cellAt : z_ok M_Ip_cell M_Ip_cellAt 2 := ⟨z_mj4 (i := 22) rfl (by decide +kernel), rfl, ⟨by decide +kernel, by decide +kernel, by decide +kernel⟩, ⟨by decide, by decide⟩, z_mj1 (i := 1) rfl (by decide +kernel), rfl⟩
theorem ln_Ip_114 : Cond.methodLink "Ironpour" 114 M_Ip_cellAt.1 ∈ z_gw := z_mj4 (i := 20) rfl (by decide +kernel)
theorem w_st_Ip_cellAt : Cond.static M_Ip_cellAt.1 ∈ z_gw := z_mj4 (i := 21) rfl (by decide +kernel)
set_option maxHeartbeats 4000000 in
set_option maxRecDepth 100000 in
theorem C_Ip_cellE (g : zG) (a pa ta sa gs co fu la gy du re wm ac : Nat) (pa1 pa2 pa3 : Nat) (f sn : Nat → Int32) (qn : Nat → Nat) (p : Nat) (x y : Int32) (hz : z_cl x y = none) : CT g M_Ip_cell [.ref a, .int x, .int y] [(a, .inr (11, [.ref pa, .ref ta, .ref sa, .ref gs, .ref co, .ref fu, .ref la, .ref gy, .ref du, .ref re, .ref wm, .ref ac])), (pa, .inr (8, [.ref pa1, .ref pa2, .ref pa3, .int (nI p)])), (pa1, .inl (1, 108, .inl f)), (pa2, .inl (2, 108, .inl sn)), (pa3, .inl (0, 108, .inl (fun k => nI (qn k))))] (fun o cs1 => o = .inr "java/lang/IndexOutOfBoundsException" ∧ cs1 = [(a, .inr (11, [.ref pa, .ref ta, .ref sa, .ref gs, .ref co, .ref fu, .ref la, .ref gy, .ref du, .ref re, .ref wm, .ref ac])), (pa, .inr (8, [.ref pa1, .ref pa2, .ref pa3, .int (nI p)])), (pa1, .inl (1, 108, .inl f)), (pa2, .inl (2, 108, .inl sn)), (pa3, .inl (0, 108, .inl (fun k => nI (qn k))))]) 1 6 := by
  refine z_of (by decide) rfl (Nat.le_of_ble_eq_true rfl) (fun w0 => ?_)
  refine r_lvE (lv2 := [(0, .ref a), (1, .int x), (2, .int y)]) rfl ?_
  refine r_aload_n d_Ip_cell_0 rfl 0 rfl ?_
  refine r_get fs_Ip_10 d_Ip_cell_1 (q0 := 0) rfl rfl ?_
  refine r_get fs_Ip_106 d_Ip_cell_4 (q0 := 1) rfl rfl ?_
  refine r_iload_n d_Ip_cell_7 rfl 1 rfl ?_
  refine r_iload_n d_Ip_cell_8 rfl 2 rfl ?_
  refine r_callS (As := [.int x, .int y]) (rest := [.ref pa1]) (csC := []) (is := []) ln_Ip_114 w_st_Ip_cellAt ok_Ip_cell_Ip_cellAt d_Ip_cell_9 (C_Ip_cellAt g x y) rfl rfl (Nat.le_of_ble_eq_true rfl) rfl (by decide) (by omega) (by omega) (fun E cs1 hx => ?_) (fun v cs1 hx => ?_)
  · simp only [hz] at hx
    obtain ⟨e1, rfl⟩ := hx
    cases e1
    exact ⟨rfl, rfl, rfl⟩
  · simp only [hz] at hx
    exact absurd hx.1 (by simp)
theorem d_Ip_cell_12 : decode prog_1_method_3_code 12 = .ok (.caload, 1) := zo_52 (zd_b zq_prog_1_method_3_code_0 12 rfl rfl rfl)
theorem d_Ip_cell_13 : decode prog_1_method_3_code 13 = .ok (.ireturn, 1) := zo_172 (zd_b zq_prog_1_method_3_code_0 13 rfl rfl rfl)
set_option maxHeartbeats 4000000 in
set_option maxRecDepth 100000 in
theorem C_Ip_cellN (g : zG) (a pa ta sa gs co fu la gy du re wm ac : Nat) (pa1 pa2 pa3 : Nat) (f sn : Nat → Int32) (qn : Nat → Nat) (p : Nat) (x y : Int32) (c : Nat) (hz : z_cl x y = some c) (hf : z_ch f) : CT g M_Ip_cell [.ref a, .int x, .int y] [(a, .inr (11, [.ref pa, .ref ta, .ref sa, .ref gs, .ref co, .ref fu, .ref la, .ref gy, .ref du, .ref re, .ref wm, .ref ac])), (pa, .inr (8, [.ref pa1, .ref pa2, .ref pa3, .int (nI p)])), (pa1, .inl (1, 108, .inl f)), (pa2, .inl (2, 108, .inl sn)), (pa3, .inl (0, 108, .inl (fun k => nI (qn k))))] (fun o cs1 => o = .inl (some (.int (f c))) ∧ cs1 = [(a, .inr (11, [.ref pa, .ref ta, .ref sa, .ref gs, .ref co, .ref fu, .ref la, .ref gy, .ref du, .ref re, .ref wm, .ref ac])), (pa, .inr (8, [.ref pa1, .ref pa2, .ref pa3, .int (nI p)])), (pa1, .inl (1, 108, .inl f)), (pa2, .inl (2, 108, .inl sn)), (pa3, .inl (0, 108, .inl (fun k => nI (qn k))))]) 1 6 := by
  refine z_of (by decide) rfl (Nat.le_of_ble_eq_true rfl) (fun w0 => ?_)
  refine r_lvE (lv2 := [(0, .ref a), (1, .int x), (2, .int y)]) rfl ?_
  have hc := z_cl_lt hz
  refine r_aload_n d_Ip_cell_0 rfl 0 rfl ?_
  refine r_get fs_Ip_10 d_Ip_cell_1 (q0 := 0) rfl rfl ?_
  refine r_get fs_Ip_106 d_Ip_cell_4 (q0 := 1) rfl rfl ?_
  refine r_iload_n d_Ip_cell_7 rfl 1 rfl ?_
  refine r_iload_n d_Ip_cell_8 rfl 2 rfl ?_
  refine r_callS (As := [.int x, .int y]) (rest := [.ref pa1]) (csC := []) (is := []) ln_Ip_114 w_st_Ip_cellAt ok_Ip_cell_Ip_cellAt d_Ip_cell_9 (C_Ip_cellAt g x y) rfl rfl (Nat.le_of_ble_eq_true rfl) rfl (by decide) (by omega) (by omega) (fun E cs1 hx => ?_) (fun v cs1 hx => ?_)
  · simp only [hz] at hx
    exact absurd hx.1 (by simp)
  · simp only [hz] at hx
    obtain ⟨e1, rfl⟩ := hx
    cases e1
    refine ⟨rfl, ?_⟩
    refine r_st (st2 := [.int (nI c), .ref pa1]) rfl ?_
    refine r_cs (cs2 := [(a, .inr (11, [.ref pa, .ref ta, .ref sa, .ref gs, .ref co, .ref fu, .ref la, .ref gy, .ref du, .ref re, .ref wm, .ref ac])), (pa, .inr (8, [.ref pa1, .ref pa2, .ref pa3, .int (nI p)])), (pa1, .inl (1, 108, .inl f)), (pa2, .inl (2, 108, .inl sn)), (pa3, .inl (0, 108, .inl (fun k => nI (qn k))))]) rfl ?_
    refine r_cald d_Ip_cell_12 (q0 := 2) rfl (vp_in_nI (by omega) (by omega)) (v := f c) (by rw [nI_clamp (by omega)]) ?_
    refine r_iret d_Ip_cell_13 rfl (congrArg Value.int (z_kind_c (hf c hc))) ?_
    exact ⟨rfl, rfl⟩
abbrev M_Ip_part : zM := (⟨"Ironpour", "part", "(I)I"⟩, prog_1_method_4_code, 3, (Option.some FieldType.int), 6, 100, [])
theorem d_Ip_part_0 : decode prog_1_method_4_code 0 = .ok (.iload_n 1, 1) := zo_27 (zd_b zq_prog_1_method_4_code_0 0 rfl rfl rfl)
theorem d_Ip_part_1 : decode prog_1_method_4_code 1 = .ok (.iconst 1, 1) := zo_4 (zd_b zq_prog_1_method_4_code_0 1 rfl rfl rfl)
