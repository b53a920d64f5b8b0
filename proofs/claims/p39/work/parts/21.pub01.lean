theorem d_Ip_part_2 : decode prog_1_method_4_code 2 = .ok (.if_icmp .lt 9, 3) := zo_161 (d := 0) (e := 9) (zd_b zq_prog_1_method_4_code_0 2 rfl rfl rfl) (zd_b zq_prog_1_method_4_code_0 3 rfl rfl rfl) (zd_b zq_prog_1_method_4_code_0 4 rfl rfl rfl) (by decide +kernel)
theorem d_Ip_part_11 : decode prog_1_method_4_code 11 = .ok (.new 89, 3) := zo_187 (d := 0) (e := 89) (zd_b zq_prog_1_method_4_code_0 11 rfl rfl rfl) (zd_b zq_prog_1_method_4_code_0 12 rfl rfl rfl) (zd_b zq_prog_1_method_4_code_0 13 rfl rfl rfl)
theorem sr_Ip_118 : Cond.stringRef "Ironpour" 118 "the parting is above a row from 1 to 8" ∈ lw_tbl := z_tb4 (i := 43) rfl
theorem d_Ip_part_14 : decode prog_1_method_4_code 14 = .ok (.dup, 1) := zo_89 (zd_b zq_prog_1_method_4_code_0 14 rfl rfl rfl)
theorem d_Ip_part_15 : decode prog_1_method_4_code 15 = .ok (.ldc 118, 2) := zo_18 (d := 118) (zd_b zq_prog_1_method_4_code_0 15 rfl rfl rfl) (zd_b zq_prog_1_method_4_code_0 16 rfl rfl rfl)
theorem d_Ip_part_17 : decode prog_1_method_4_code 17 = .ok (.invokespecial 93, 3) := zo_183 (d := 0) (e := 93) (zd_b zq_prog_1_method_4_code_0 17 rfl rfl rfl) (zd_b zq_prog_1_method_4_code_0 18 rfl rfl rfl) (zd_b zq_prog_1_method_4_code_0 19 rfl rfl rfl)
theorem d_Ip_part_20 : decode prog_1_method_4_code 20 = .ok (.athrow, 1) := zo_191 (zd_b zq_prog_1_method_4_code_0 20 rfl rfl rfl)
theorem d_Ip_part_5 : decode prog_1_method_4_code 5 = .ok (.iload_n 1, 1) := zo_27 (zd_b zq_prog_1_method_4_code_0 5 rfl rfl rfl)
theorem d_Ip_part_6 : decode prog_1_method_4_code 6 = .ok (.bipush 9, 2) := zo_16 (d := 9) (zd_b zq_prog_1_method_4_code_0 6 rfl rfl rfl) (zd_b zq_prog_1_method_4_code_0 7 rfl rfl rfl) (by decide +kernel)
theorem d_Ip_part_8 : decode prog_1_method_4_code 8 = .ok (.if_icmp .lt 13, 3) := zo_161 (d := 0) (e := 13) (zd_b zq_prog_1_method_4_code_0 8 rfl rfl rfl) (zd_b zq_prog_1_method_4_code_0 9 rfl rfl rfl) (zd_b zq_prog_1_method_4_code_0 10 rfl rfl rfl) (by decide +kernel)
set_option maxHeartbeats 4000000 in
set_option maxRecDepth 100000 in
theorem C_Ip_partE (g : zG) (a pa ta sa gs co fu la gy du re wm ac : Nat) (pa1 pa2 pa3 : Nat) (f sn : Nat → Int32) (qn : Nat → Nat) (p : Nat) (r : Int32) (hr : r < 1 ∨ 9 ≤ r) : CT g M_Ip_part [.ref a, .int r] [(a, .inr (11, [.ref pa, .ref ta, .ref sa, .ref gs, .ref co, .ref fu, .ref la, .ref gy, .ref du, .ref re, .ref wm, .ref ac])), (pa, .inr (8, [.ref pa1, .ref pa2, .ref pa3, .int (nI p)])), (pa1, .inl (1, 108, .inl f)), (pa2, .inl (2, 108, .inl sn)), (pa3, .inl (0, 108, .inl (fun k => nI (qn k))))] (fun o cs1 => o = .inr "java/lang/IllegalArgumentException" ∧ cs1 = [(a, .inr (11, [.ref pa, .ref ta, .ref sa, .ref gs, .ref co, .ref fu, .ref la, .ref gy, .ref du, .ref re, .ref wm, .ref ac])), (pa, .inr (8, [.ref pa1, .ref pa2, .ref pa3, .int (nI p)])), (pa1, .inl (1, 108, .inl f)), (pa2, .inl (2, 108, .inl sn)), (pa3, .inl (0, 108, .inl (fun k => nI (qn k))))]) 1 6 := by
  refine z_of (by decide) rfl (Nat.le_of_ble_eq_true rfl) (fun w0 => ?_)
  refine r_lvE (lv2 := [(0, .ref a), (1, .int r)]) rfl ?_
  refine r_iload_n d_Ip_part_0 rfl 1 rfl ?_
  refine r_iconst d_Ip_part_1 (v := 1) (by decide) ?_
  refine r_icmp_lt (tgt := 11) d_Ip_part_2 (by decide) (fun c_2 => ?_) (fun c_2 => ?_)
  · refine r_throw tb_Ip_89_93 sr_Ip_118 d_Ip_part_11 d_Ip_part_14 d_Ip_part_15 d_Ip_part_17 d_Ip_part_20 rfl (by decide) (by decide) (Nat.le_of_ble_eq_true rfl) (by omega) (by omega) ?_
    exact ⟨rfl, rfl⟩
  · refine r_iload_n d_Ip_part_5 rfl 1 rfl ?_
    refine r_bipush d_Ip_part_6 (v := 9) (by decide) ?_
    refine r_icmp_lt (tgt := 21) d_Ip_part_8 (by decide) (fun c_8 => ?_) (fun c_8 => ?_)
    · exact absurd hr (fun q => q.elim c_2 (fun e => absurd c_8 (Int32.not_lt.mpr e)))
    · refine r_throw tb_Ip_89_93 sr_Ip_118 d_Ip_part_11 d_Ip_part_14 d_Ip_part_15 d_Ip_part_17 d_Ip_part_20 rfl (by decide) (by decide) (Nat.le_of_ble_eq_true rfl) (by omega) (by omega) ?_
      exact ⟨rfl, rfl⟩
theorem d_Ip_part_21 : decode prog_1_method_4_code 21 = .ok (.aload_n 0, 1) := zo_42 (zd_b zq_prog_1_method_4_code_0 21 rfl rfl rfl)
theorem d_Ip_part_22 : decode prog_1_method_4_code 22 = .ok (.getfield 10, 3) := zo_180 (d := 0) (e := 10) (zd_b zq_prog_1_method_4_code_0 22 rfl rfl rfl) (zd_b zq_prog_1_method_4_code_0 23 rfl rfl rfl) (zd_b zq_prog_1_method_4_code_0 24 rfl rfl rfl)
theorem d_Ip_part_25 : decode prog_1_method_4_code 25 = .ok (.getfield 120, 3) := zo_180 (d := 0) (e := 120) (zd_b zq_prog_1_method_4_code_0 25 rfl rfl rfl) (zd_b zq_prog_1_method_4_code_0 26 rfl rfl rfl) (zd_b zq_prog_1_method_4_code_0 27 rfl rfl rfl)
theorem fs_Ip_120 : z_fs "Ironpour" 120 8 3 := ⟨R_Pa, "Ironpour$Pattern", F_Pa, 4, rfl, u_Pa, by decide, Or.inr ⟨"Ironpour", z_mk1 (i := 58) rfl (by decide +kernel), rfl⟩⟩
theorem d_Ip_part_28 : decode prog_1_method_4_code 28 = .ok (.istore_n 2, 1) := zo_61 (zd_b zq_prog_1_method_4_code_0 28 rfl rfl rfl)
theorem d_Ip_part_29 : decode prog_1_method_4_code 29 = .ok (.aload_n 0, 1) := zo_42 (zd_b zq_prog_1_method_4_code_0 29 rfl rfl rfl)
theorem d_Ip_part_30 : decode prog_1_method_4_code 30 = .ok (.getfield 10, 3) := zo_180 (d := 0) (e := 10) (zd_b zq_prog_1_method_4_code_0 30 rfl rfl rfl) (zd_b zq_prog_1_method_4_code_0 31 rfl rfl rfl) (zd_b zq_prog_1_method_4_code_1 0 rfl rfl rfl)
theorem d_Ip_part_33 : decode prog_1_method_4_code 33 = .ok (.iload_n 1, 1) := zo_27 (zd_b zq_prog_1_method_4_code_1 1 rfl rfl rfl)
theorem d_Ip_part_34 : decode prog_1_method_4_code 34 = .ok (.putfield 120, 3) := zo_181 (d := 0) (e := 120) (zd_b zq_prog_1_method_4_code_1 2 rfl rfl rfl) (zd_b zq_prog_1_method_4_code_1 3 rfl rfl rfl) (zd_b zq_prog_1_method_4_code_1 4 rfl rfl rfl)
theorem fp_Ip_120 : z_fp "Ironpour" 120 8 3 false .int := ⟨R_Pa, "Ironpour$Pattern", F_Pa, 4, t_Pa, rfl, u_Pa, by decide, t_Pa_ok, n_Pa, rfl, rfl, Or.inr ⟨rfl, "Ironpour", z_mk1 (i := 58) rfl (by decide +kernel), rfl⟩⟩
theorem d_Ip_part_37 : decode prog_1_method_4_code 37 = .ok (.iload_n 2, 1) := zo_28 (zd_b zq_prog_1_method_4_code_1 5 rfl rfl rfl)
theorem d_Ip_part_38 : decode prog_1_method_4_code 38 = .ok (.ireturn, 1) := zo_172 (zd_b zq_prog_1_method_4_code_1 6 rfl rfl rfl)
set_option maxHeartbeats 4000000 in
set_option maxRecDepth 100000 in
theorem C_Ip_partN (g : zG) (a pa ta sa gs co fu la gy du re wm ac : Nat) (pa1 pa2 pa3 : Nat) (f sn : Nat → Int32) (qn : Nat → Nat) (p : Nat) (r : Int32) (hr : ¬ (r < 1 ∨ 9 ≤ r)) : CT g M_Ip_part [.ref a, .int r] [(a, .inr (11, [.ref pa, .ref ta, .ref sa, .ref gs, .ref co, .ref fu, .ref la, .ref gy, .ref du, .ref re, .ref wm, .ref ac])), (pa, .inr (8, [.ref pa1, .ref pa2, .ref pa3, .int (nI p)])), (pa1, .inl (1, 108, .inl f)), (pa2, .inl (2, 108, .inl sn)), (pa3, .inl (0, 108, .inl (fun k => nI (qn k))))] (fun o cs1 => o = .inl (some (.int (nI p))) ∧ cs1 = [(a, .inr (11, [.ref pa, .ref ta, .ref sa, .ref gs, .ref co, .ref fu, .ref la, .ref gy, .ref du, .ref re, .ref wm, .ref ac])), (pa, .inr (8, [.ref pa1, .ref pa2, .ref pa3, .int r])), (pa1, .inl (1, 108, .inl f)), (pa2, .inl (2, 108, .inl sn)), (pa3, .inl (0, 108, .inl (fun k => nI (qn k))))]) 1 6 := by
  refine z_of (by decide) rfl (Nat.le_of_ble_eq_true rfl) (fun w0 => ?_)
  refine r_lvE (lv2 := [(0, .ref a), (1, .int r)]) rfl ?_
  refine r_iload_n d_Ip_part_0 rfl 1 rfl ?_
  refine r_iconst d_Ip_part_1 (v := 1) (by decide) ?_
  refine r_icmp_lt (tgt := 11) d_Ip_part_2 (by decide) (fun c_2 => ?_) (fun c_2 => ?_)
  · exact absurd (Or.inl c_2) hr
  · refine r_iload_n d_Ip_part_5 rfl 1 rfl ?_
    refine r_bipush d_Ip_part_6 (v := 9) (by decide) ?_
    refine r_icmp_lt (tgt := 21) d_Ip_part_8 (by decide) (fun c_8 => ?_) (fun c_8 => ?_)
    · refine r_aload_n d_Ip_part_21 rfl 0 rfl ?_
      refine r_get fs_Ip_10 d_Ip_part_22 (q0 := 0) rfl rfl ?_
      refine r_get fs_Ip_120 d_Ip_part_25 (q0 := 1) rfl rfl ?_
      refine r_istore_n (lv' := [(2, .int (nI p)), (0, .ref a), (1, .int r)]) d_Ip_part_28 rfl (by decide) rfl ?_
      refine r_aload_n d_Ip_part_29 rfl 1 rfl ?_
      refine r_get fs_Ip_10 d_Ip_part_30 (q0 := 0) rfl rfl ?_
      refine r_iload_n d_Ip_part_33 rfl 2 rfl ?_
      refine r_put fp_Ip_120 d_Ip_part_34 (fun h => nomatch h) rfl rfl (q0 := 1) rfl (Nat.le_of_ble_eq_true rfl) (cs' := [(a, .inr (11, [.ref pa, .ref ta, .ref sa, .ref gs, .ref co, .ref fu, .ref la, .ref gy, .ref du, .ref re, .ref wm, .ref ac])), (pa, .inr (8, [.ref pa1, .ref pa2, .ref pa3, .int r])), (pa1, .inl (1, 108, .inl f)), (pa2, .inl (2, 108, .inl sn)), (pa3, .inl (0, 108, .inl (fun k => nI (qn k))))]) rfl ?_
      refine r_iload_n d_Ip_part_37 rfl 0 rfl ?_
      refine r_iret d_Ip_part_38 rfl rfl ?_
      exact ⟨rfl, rfl⟩
    · exact absurd (Or.inr (Int32.not_lt.mp c_8)) hr
abbrev M_Ip_speed : zM := (⟨"Ironpour", "speed", "()I"⟩, prog_1_method_10_code, 1, (Option.some FieldType.int), 6, 100, [])
theorem d_Ip_speed_0 : decode prog_1_method_10_code 0 = .ok (.aload_n 0, 1) := zo_42 (zd_b zq_prog_1_method_10_code_0 0 rfl rfl rfl)
theorem d_Ip_speed_1 : decode prog_1_method_10_code 1 = .ok (.getfield 10, 3) := zo_180 (d := 0) (e := 10) (zd_b zq_prog_1_method_10_code_0 1 rfl rfl rfl) (zd_b zq_prog_1_method_10_code_0 2 rfl rfl rfl) (zd_b zq_prog_1_method_10_code_0 3 rfl rfl rfl)
theorem d_Ip_speed_4 : decode prog_1_method_10_code 4 = .ok (.invokevirtual 147, 3) := zo_182 (d := 0) (e := 147) (zd_b zq_prog_1_method_10_code_0 4 rfl rfl rfl) (zd_b zq_prog_1_method_10_code_0 5 rfl rfl rfl) (zd_b zq_prog_1_method_10_code_0 6 rfl rfl rfl)
theorem ok_Ip_speed_Pa_gatesOnTop : z_ok M_Ip_speed M_Pa_gatesOnTop 0 := ⟨z_mj4 (i := 63) rfl (by decide +kernel), rfl, ⟨by decide +kernel, by decide +kernel, by decide +kernel⟩, ⟨by decide, by decide⟩, z_mj1 (i := 2) rfl (by decide +kernel), rfl⟩
theorem ln_Ip_147 : Cond.methodLink "Ironpour" 147 M_Pa_gatesOnTop.1 ∈ z_gw := z_mj4 (i := 60) rfl (by decide +kernel)
theorem d_Ip_speed_7 : decode prog_1_method_10_code 7 = .ok (.ifCond .ne 13, 3) := zo_154 (d := 0) (e := 13) (zd_b zq_prog_1_method_10_code_0 7 rfl rfl rfl) (zd_b zq_prog_1_method_10_code_0 8 rfl rfl rfl) (zd_b zq_prog_1_method_10_code_0 9 rfl rfl rfl) (by decide +kernel)
theorem d_Ip_speed_10 : decode prog_1_method_10_code 10 = .ok (.new 150, 3) := zo_187 (d := 0) (e := 150) (zd_b zq_prog_1_method_10_code_0 10 rfl rfl rfl) (zd_b zq_prog_1_method_10_code_0 11 rfl rfl rfl) (zd_b zq_prog_1_method_10_code_0 12 rfl rfl rfl)
theorem tb_Ip_150_154 : z_tbX "Ironpour" 150 154 "java/util/NoSuchElementException" := ⟨by decide +kernel, z_mj4 (i := 64) rfl (by decide +kernel), z_mj1 (i := 29) rfl (by decide +kernel), fun w h => ((z_at [(1, 21), (3, 163), (3, 172), (3, 180), (3, 183), (3, 185), (3, 164), (3, 165), (1, 44), (1, 45), (3, 166), (3, 171), (3, 181), (3, 201), (3, 153), (3, 202), (3, 155), (3, 203), (3, 157), (3, 167), (3, 169), (3, 159), (3, 197), (3, 198), (3, 200), (3, 159), (4, 75), (4, 76), (4, 77), (3, 191), (3, 145), (3, 191), (3, 192), (3, 193), (3, 194), (3, 147), (3, 194), (3, 195), (3, 196), (3, 197), (3, 149), (4, 74), (4, 65), (4, 66), (4, 67), (3, 179), (4, 68), (4, 69), (4, 70), (4, 71), (3, 162), (3, 161), (4, 72)] (by decide +kernel) (by decide +kernel) : ∀ w ∈ (zx_at "Ironpour" 154 "java/util/NoSuchElementException" 13 zx_rx "java/lang/RuntimeException" ["java/lang/Exception"]).filter vx_no, w ∈ lw_tbl ∧ (goodWord w || z_isN w) = true) w h).elim (fun h1 h2 => (Bool.or_eq_true _ _ ▸ h2).elim (fun h3 => Or.inl (List.mem_filter.mpr ⟨h1, h3⟩)) (fun h3 => Or.inr (List.mem_filter.mpr ⟨h1, h3⟩))), by decide +kernel⟩
theorem sr_Ip_152 : Cond.stringRef "Ironpour" 152 "no gate in the row 0" ∈ lw_tbl := z_tb4 (i := 73) rfl
theorem d_Ip_speed_13 : decode prog_1_method_10_code 13 = .ok (.dup, 1) := zo_89 (zd_b zq_prog_1_method_10_code_0 13 rfl rfl rfl)
theorem d_Ip_speed_14 : decode prog_1_method_10_code 14 = .ok (.ldc 152, 2) := zo_18 (d := 152) (zd_b zq_prog_1_method_10_code_0 14 rfl rfl rfl) (zd_b zq_prog_1_method_10_code_0 15 rfl rfl rfl)
theorem d_Ip_speed_16 : decode prog_1_method_10_code 16 = .ok (.invokespecial 154, 3) := zo_183 (d := 0) (e := 154) (zd_b zq_prog_1_method_10_code_0 16 rfl rfl rfl) (zd_b zq_prog_1_method_10_code_0 17 rfl rfl rfl) (zd_b zq_prog_1_method_10_code_0 18 rfl rfl rfl)
theorem d_Ip_speed_19 : decode prog_1_method_10_code 19 = .ok (.athrow, 1) := zo_191 (zd_b zq_prog_1_method_10_code_0 19 rfl rfl rfl)
set_option maxHeartbeats 4000000 in
set_option maxRecDepth 100000 in
theorem C_Ip_speedE (g : zG) (a pa ta sa gs co fu la gy du re wm ac : Nat) (pa1 pa2 pa3 : Nat) (f sn : Nat → Int32) (qn : Nat → Nat) (p : Nat) (hg : fa_cnt (fun k => decide (f k = 103)) 12 = 0) : CT g M_Ip_speed [.ref a] [(a, .inr (11, [.ref pa, .ref ta, .ref sa, .ref gs, .ref co, .ref fu, .ref la, .ref gy, .ref du, .ref re, .ref wm, .ref ac])), (pa, .inr (8, [.ref pa1, .ref pa2, .ref pa3, .int (nI p)])), (pa1, .inl (1, 108, .inl f)), (pa2, .inl (2, 108, .inl sn)), (pa3, .inl (0, 108, .inl (fun k => nI (qn k))))] (fun o cs1 => o = .inr "java/util/NoSuchElementException" ∧ cs1 = [(a, .inr (11, [.ref pa, .ref ta, .ref sa, .ref gs, .ref co, .ref fu, .ref la, .ref gy, .ref du, .ref re, .ref wm, .ref ac])), (pa, .inr (8, [.ref pa1, .ref pa2, .ref pa3, .int (nI p)])), (pa1, .inl (1, 108, .inl f)), (pa2, .inl (2, 108, .inl sn)), (pa3, .inl (0, 108, .inl (fun k => nI (qn k))))]) 1 6 := by
  refine z_of (by decide) rfl (Nat.le_of_ble_eq_true rfl) (fun w0 => ?_)
  refine r_lvE (lv2 := [(0, .ref a)]) rfl ?_
  refine r_aload_n d_Ip_speed_0 rfl 0 rfl ?_
  refine r_get fs_Ip_10 d_Ip_speed_1 (q0 := 0) rfl rfl ?_
  refine r_callV (As := []) (rest := []) (csC := [(pa, .inr (8, [.ref pa1, .ref pa2, .ref pa3, .int (nI p)])), (pa1, .inl (1, 108, .inl f)), (pa2, .inl (2, 108, .inl sn)), (pa3, .inl (0, 108, .inl (fun k => nI (qn k))))]) (is := [1, 2, 3, 4]) (q0 := 1) rfl rfl ln_Ip_147 w_im_Pa_gatesOnTop w_se_Pa_gatesOnTop ok_Ip_speed_Pa_gatesOnTop d_Ip_speed_4 (C_Pa_gatesOnTop g pa pa1 pa2 pa3 f sn (fun k => nI (qn k)) (nI p)) rfl rfl (Nat.le_of_ble_eq_true rfl) rfl (by decide) (by omega) (by omega) (fun E cs1 hx => ?_) (fun v cs1 hx => ?_)
  · exact absurd hx.1 (by simp)
  · obtain ⟨e1, rfl⟩ := hx
    cases e1
    refine ⟨rfl, ?_⟩
    refine r_st (st2 := [.int (nI (fa_cnt (fun k => decide (f k = 103)) 12))]) rfl ?_
    refine r_cs (cs2 := [(a, .inr (11, [.ref pa, .ref ta, .ref sa, .ref gs, .ref co, .ref fu, .ref la, .ref gy, .ref du, .ref re, .ref wm, .ref ac])), (pa, .inr (8, [.ref pa1, .ref pa2, .ref pa3, .int (nI p)])), (pa1, .inl (1, 108, .inl f)), (pa2, .inl (2, 108, .inl sn)), (pa3, .inl (0, 108, .inl (fun k => nI (qn k))))]) rfl ?_
    refine r_if_ne (tgt := 20) d_Ip_speed_7 (by decide) (fun c_7 => ?_) (fun c_7 => ?_)
    · exact absurd (by rw [hg]; rfl) c_7
    · refine r_throwX tb_Ip_150_154 sr_Ip_152 d_Ip_speed_10 d_Ip_speed_13 d_Ip_speed_14 d_Ip_speed_16 d_Ip_speed_19 rfl (by decide) (by decide) (Nat.le_of_ble_eq_true rfl) (by omega) (by omega) ?_
      exact ⟨rfl, rfl⟩
theorem d_Ip_speed_20 : decode prog_1_method_10_code 20 = .ok (.aload_n 0, 1) := zo_42 (zd_b zq_prog_1_method_10_code_0 20 rfl rfl rfl)
theorem d_Ip_speed_21 : decode prog_1_method_10_code 21 = .ok (.getfield 10, 3) := zo_180 (d := 0) (e := 10) (zd_b zq_prog_1_method_10_code_0 21 rfl rfl rfl) (zd_b zq_prog_1_method_10_code_0 22 rfl rfl rfl) (zd_b zq_prog_1_method_10_code_0 23 rfl rfl rfl)
theorem d_Ip_speed_24 : decode prog_1_method_10_code 24 = .ok (.invokevirtual 155, 3) := zo_182 (d := 0) (e := 155) (zd_b zq_prog_1_method_10_code_0 24 rfl rfl rfl) (zd_b zq_prog_1_method_10_code_0 25 rfl rfl rfl) (zd_b zq_prog_1_method_10_code_0 26 rfl rfl rfl)
theorem ok_Ip_speed_Pa_runningSpeed : z_ok M_Ip_speed M_Pa_runningSpeed 0 := ⟨z_mj4 (i := 83) rfl (by decide +kernel), rfl, ⟨by decide +kernel, by decide +kernel, by decide +kernel⟩, ⟨by decide, by decide⟩, z_mj1 (i := 2) rfl (by decide +kernel), rfl⟩
theorem ln_Ip_155 : Cond.methodLink "Ironpour" 155 M_Pa_runningSpeed.1 ∈ z_gw := z_mj4 (i := 80) rfl (by decide +kernel)
theorem d_Ip_speed_27 : decode prog_1_method_10_code 27 = .ok (.ireturn, 1) := zo_172 (zd_b zq_prog_1_method_10_code_0 27 rfl rfl rfl)
set_option maxHeartbeats 4000000 in
set_option maxRecDepth 100000 in
theorem C_Ip_speedN (g : zG) (a pa ta sa gs co fu la gy du re wm ac : Nat) (pa1 pa2 pa3 : Nat) (f sn : Nat → Int32) (qn : Nat → Nat) (p : Nat) (hg : ¬ fa_cnt (fun k => decide (f k = 103)) 12 = 0) : CT g M_Ip_speed [.ref a] [(a, .inr (11, [.ref pa, .ref ta, .ref sa, .ref gs, .ref co, .ref fu, .ref la, .ref gy, .ref du, .ref re, .ref wm, .ref ac])), (pa, .inr (8, [.ref pa1, .ref pa2, .ref pa3, .int (nI p)])), (pa1, .inl (1, 108, .inl f)), (pa2, .inl (2, 108, .inl sn)), (pa3, .inl (0, 108, .inl (fun k => nI (qn k))))] (fun o cs1 => o = .inl (some (.int (rsR f))) ∧ cs1 = [(a, .inr (11, [.ref pa, .ref ta, .ref sa, .ref gs, .ref co, .ref fu, .ref la, .ref gy, .ref du, .ref re, .ref wm, .ref ac])), (pa, .inr (8, [.ref pa1, .ref pa2, .ref pa3, .int (nI p)])), (pa1, .inl (1, 108, .inl f)), (pa2, .inl (2, 108, .inl sn)), (pa3, .inl (0, 108, .inl (fun k => nI (qn k))))]) 1 6 := by
  refine z_of (by decide) rfl (Nat.le_of_ble_eq_true rfl) (fun w0 => ?_)
  refine r_lvE (lv2 := [(0, .ref a)]) rfl ?_
  refine r_aload_n d_Ip_speed_0 rfl 0 rfl ?_
  refine r_get fs_Ip_10 d_Ip_speed_1 (q0 := 0) rfl rfl ?_
  refine r_callV (As := []) (rest := []) (csC := [(pa, .inr (8, [.ref pa1, .ref pa2, .ref pa3, .int (nI p)])), (pa1, .inl (1, 108, .inl f)), (pa2, .inl (2, 108, .inl sn)), (pa3, .inl (0, 108, .inl (fun k => nI (qn k))))]) (is := [1, 2, 3, 4]) (q0 := 1) rfl rfl ln_Ip_147 w_im_Pa_gatesOnTop w_se_Pa_gatesOnTop ok_Ip_speed_Pa_gatesOnTop d_Ip_speed_4 (C_Pa_gatesOnTop g pa pa1 pa2 pa3 f sn (fun k => nI (qn k)) (nI p)) rfl rfl (Nat.le_of_ble_eq_true rfl) rfl (by decide) (by omega) (by omega) (fun E cs1 hx => ?_) (fun v cs1 hx => ?_)
  · exact absurd hx.1 (by simp)
  · obtain ⟨e1, rfl⟩ := hx
    cases e1
    refine ⟨rfl, ?_⟩
    refine r_st (st2 := [.int (nI (fa_cnt (fun k => decide (f k = 103)) 12))]) rfl ?_
    refine r_cs (cs2 := [(a, .inr (11, [.ref pa, .ref ta, .ref sa, .ref gs, .ref co, .ref fu, .ref la, .ref gy, .ref du, .ref re, .ref wm, .ref ac])), (pa, .inr (8, [.ref pa1, .ref pa2, .ref pa3, .int (nI p)])), (pa1, .inl (1, 108, .inl f)), (pa2, .inl (2, 108, .inl sn)), (pa3, .inl (0, 108, .inl (fun k => nI (qn k))))]) rfl ?_
    refine r_if_ne (tgt := 20) d_Ip_speed_7 (by decide) (fun c_7 => ?_) (fun c_7 => ?_)
    · refine r_aload_n d_Ip_speed_20 rfl 0 rfl ?_
      refine r_get fs_Ip_10 d_Ip_speed_21 (q0 := 0) rfl rfl ?_
      refine r_callV (As := []) (rest := []) (csC := [(pa, .inr (8, [.ref pa1, .ref pa2, .ref pa3, .int (nI p)])), (pa1, .inl (1, 108, .inl f)), (pa2, .inl (2, 108, .inl sn)), (pa3, .inl (0, 108, .inl (fun k => nI (qn k))))]) (is := [1, 2, 3, 4]) (q0 := 1) rfl rfl ln_Ip_155 w_im_Pa_runningSpeed w_se_Pa_runningSpeed ok_Ip_speed_Pa_runningSpeed d_Ip_speed_24 (C_Pa_runningSpeed g pa pa1 pa2 pa3 f sn (fun k => nI (qn k)) (nI p)) rfl rfl (Nat.le_of_ble_eq_true rfl) rfl (by decide) (by omega) (by omega) (fun E cs1 hx => ?_) (fun v cs1 hx => ?_)
      · exact absurd hx.1 (by simp)
      · obtain ⟨e1, rfl⟩ := hx
        cases e1
        refine ⟨rfl, ?_⟩
        refine r_st (st2 := [.int (rsR f)]) rfl ?_
        refine r_cs (cs2 := [(a, .inr (11, [.ref pa, .ref ta, .ref sa, .ref gs, .ref co, .ref fu, .ref la, .ref gy, .ref du, .ref re, .ref wm, .ref ac])), (pa, .inr (8, [.ref pa1, .ref pa2, .ref pa3, .int (nI p)])), (pa1, .inl (1, 108, .inl f)), (pa2, .inl (2, 108, .inl sn)), (pa3, .inl (0, 108, .inl (fun k => nI (qn k))))]) rfl ?_
        refine r_iret d_Ip_speed_27 rfl rfl ?_
        exact ⟨rfl, rfl⟩
    · exact absurd (z_eqn (b := 0) (by have := fa_cnt_le (fun k => decide (f k = 103)) 12; omega) (by decide) c_7) hg
abbrev M_Ip_filledIn : zM := (⟨"Ironpour", "filledIn", "(II)I"⟩, prog_1_method_9_code, 4, (Option.some FieldType.int), 7, 121, [])
theorem d_Ip_filledIn_0 : decode prog_1_method_9_code 0 = .ok (.iload_n 1, 1) := zo_27 (zd_b zq_prog_1_method_9_code_0 0 rfl rfl rfl)
theorem d_Ip_filledIn_1 : decode prog_1_method_9_code 1 = .ok (.iload_n 2, 1) := zo_28 (zd_b zq_prog_1_method_9_code_0 1 rfl rfl rfl)
theorem d_Ip_filledIn_2 : decode prog_1_method_9_code 2 = .ok (.invokestatic 114, 3) := zo_184 (d := 0) (e := 114) (zd_b zq_prog_1_method_9_code_0 2 rfl rfl rfl) (zd_b zq_prog_1_method_9_code_0 3 rfl rfl rfl) (zd_b zq_prog_1_method_9_code_0 4 rfl rfl rfl)
theorem ok_Ip_filledIn_Ip_cellAt : z_ok M_Ip_filledIn M_Ip_cellAt 2 := ⟨z_mj4 (i := 22) rfl (by decide +kernel), rfl, ⟨by decide +kernel, by decide +kernel, by decide +kernel⟩, ⟨by decide, by decide⟩, z_mj1 (i := 1) rfl (by decide +kernel), rfl⟩
set_option maxHeartbeats 4000000 in
set_option maxRecDepth 100000 in
theorem C_Ip_filledInE (g : zG) (a pa ta sa gs co fu la gy du re wm ac : Nat) (ta1 ta2 taz taz1 taz2 taz3 taz4 taz5 taz6 ta4 ta5 ta6 : Nat) (X : zTr) (x y : Int32) (hz : z_cl x y = none) : CT g M_Ip_filledIn [.ref a, .int x, .int y] [(a, .inr (11, [.ref pa, .ref ta, .ref sa, .ref gs, .ref co, .ref fu, .ref la, .ref gy, .ref du, .ref re, .ref wm, .ref ac])), (ta, .inr (10, [.ref ta1, .ref ta2, .ref taz, .ref ta4, .ref ta5, .ref ta6, .int X.1.2.2.1, .int X.1.2.2.2])), (ta1, .inl (1, 108, .inl X.1.1)), (ta2, .inl (0, 108, .inl X.1.2.1)), (taz, .inr (2, [.ref taz1, .ref taz2, .ref taz3, .ref taz4, .ref taz5, .ref taz6, .int X.2.1.1.1.2.2.2])), (taz1, .inl (0, 108, .inl X.2.1.1.1.1)), (taz2, .inl (0, 108, .inl X.2.1.1.2)), (taz3, .inl (0, 108, .inl X.2.1.1.1.2.1)), (taz4, .inl (0, 108, .inl X.2.1.1.1.2.2.1)), (taz5, .inl (0, 108, .inl X.2.1.2.1)), (taz6, .inl (0, 108, .inl X.2.1.2.2)), (ta4, .inl (2, 108, .inl X.2.2.1)), (ta5, .inl (2, 108, .inl X.2.2.2.1)), (ta6, .inl (0, 108, .inl (fun k => nI (X.2.2.2.2 k))))] (fun o cs1 => o = .inr "java/lang/IndexOutOfBoundsException" ∧ cs1 = [(a, .inr (11, [.ref pa, .ref ta, .ref sa, .ref gs, .ref co, .ref fu, .ref la, .ref gy, .ref du, .ref re, .ref wm, .ref ac])), (ta, .inr (10, [.ref ta1, .ref ta2, .ref taz, .ref ta4, .ref ta5, .ref ta6, .int X.1.2.2.1, .int X.1.2.2.2])), (ta1, .inl (1, 108, .inl X.1.1)), (ta2, .inl (0, 108, .inl X.1.2.1)), (taz, .inr (2, [.ref taz1, .ref taz2, .ref taz3, .ref taz4, .ref taz5, .ref taz6, .int X.2.1.1.1.2.2.2])), (taz1, .inl (0, 108, .inl X.2.1.1.1.1)), (taz2, .inl (0, 108, .inl X.2.1.1.2)), (taz3, .inl (0, 108, .inl X.2.1.1.1.2.1)), (taz4, .inl (0, 108, .inl X.2.1.1.1.2.2.1)), (taz5, .inl (0, 108, .inl X.2.1.2.1)), (taz6, .inl (0, 108, .inl X.2.1.2.2)), (ta4, .inl (2, 108, .inl X.2.2.1)), (ta5, .inl (2, 108, .inl X.2.2.2.1)), (ta6, .inl (0, 108, .inl (fun k => nI (X.2.2.2.2 k))))]) 1 6 := by
  refine z_of (by decide) rfl (Nat.le_of_ble_eq_true rfl) (fun w0 => ?_)
  refine r_lvE (lv2 := [(0, .ref a), (1, .int x), (2, .int y)]) rfl ?_
  refine r_iload_n d_Ip_filledIn_0 rfl 1 rfl ?_
  refine r_iload_n d_Ip_filledIn_1 rfl 2 rfl ?_
  refine r_callS (As := [.int x, .int y]) (rest := []) (csC := []) (is := []) ln_Ip_114 w_st_Ip_cellAt ok_Ip_filledIn_Ip_cellAt d_Ip_filledIn_2 (C_Ip_cellAt g x y) rfl rfl (Nat.le_of_ble_eq_true rfl) rfl (by decide) (by omega) (by omega) (fun E cs1 hx => ?_) (fun v cs1 hx => ?_)
  · simp only [hz] at hx
    obtain ⟨e1, rfl⟩ := hx
    cases e1
    exact ⟨rfl, rfl, rfl⟩
  · simp only [hz] at hx
    exact absurd hx.1 (by simp)
theorem d_Ip_filledIn_5 : decode prog_1_method_9_code 5 = .ok (.istore_n 3, 1) := zo_62 (zd_b zq_prog_1_method_9_code_0 5 rfl rfl rfl)
theorem d_Ip_filledIn_6 : decode prog_1_method_9_code 6 = .ok (.aload_n 0, 1) := zo_42 (zd_b zq_prog_1_method_9_code_0 6 rfl rfl rfl)
theorem d_Ip_filledIn_7 : decode prog_1_method_9_code 7 = .ok (.getfield 19, 3) := zo_180 (d := 0) (e := 19) (zd_b zq_prog_1_method_9_code_0 7 rfl rfl rfl) (zd_b zq_prog_1_method_9_code_0 8 rfl rfl rfl) (zd_b zq_prog_1_method_9_code_0 9 rfl rfl rfl)
theorem fs_Ip_19 : z_fs "Ironpour" 19 11 1 := ⟨R_Ip, "Ironpour", F_Ip, 12, rfl, u_Ip, by decide, Or.inl ⟨z_mj2 (i := 64) rfl (by decide +kernel), Or.inl rfl⟩⟩
theorem d_Ip_filledIn_10 : decode prog_1_method_9_code 10 = .ok (.invokevirtual 140, 3) := zo_182 (d := 0) (e := 140) (zd_b zq_prog_1_method_9_code_0 10 rfl rfl rfl) (zd_b zq_prog_1_method_9_code_0 11 rfl rfl rfl) (zd_b zq_prog_1_method_9_code_0 12 rfl rfl rfl)
theorem ok_Ip_filledIn_Tr_fill : z_ok M_Ip_filledIn M_Tr_fill 0 := ⟨z_mj2 (i := 212) rfl (by decide +kernel), rfl, ⟨by decide +kernel, by decide +kernel, by decide +kernel⟩, ⟨by decide, by decide⟩, z_mj1 (i := 3) rfl (by decide +kernel), rfl⟩
theorem ln_Ip_140 : Cond.methodLink "Ironpour" 140 M_Tr_fill.1 ∈ z_gw := z_mj4 (i := 51) rfl (by decide +kernel)
theorem d_Ip_filledIn_13 : decode prog_1_method_9_code 13 = .ok (.aload_n 0, 1) := zo_42 (zd_b zq_prog_1_method_9_code_0 13 rfl rfl rfl)
theorem d_Ip_filledIn_14 : decode prog_1_method_9_code 14 = .ok (.getfield 19, 3) := zo_180 (d := 0) (e := 19) (zd_b zq_prog_1_method_9_code_0 14 rfl rfl rfl) (zd_b zq_prog_1_method_9_code_0 15 rfl rfl rfl) (zd_b zq_prog_1_method_9_code_0 16 rfl rfl rfl)
