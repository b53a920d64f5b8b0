abbrev M_Ip_goodCores : zM := (⟨"Ironpour", "goodCores", "()I"⟩, prog_1_method_21_code, 1, (Option.some FieldType.int), 3, 63, [])
theorem d_Ip_goodCores_0 : decode prog_1_method_21_code 0 = .ok (.aload_n 0, 1) := zo_42 (zd_b zq_prog_1_method_21_code_0 0 rfl rfl rfl)
theorem d_Ip_goodCores_1 : decode prog_1_method_21_code 1 = .ok (.getfield 36, 3) := zo_180 (d := 0) (e := 36) (zd_b zq_prog_1_method_21_code_0 1 rfl rfl rfl) (zd_b zq_prog_1_method_21_code_0 2 rfl rfl rfl) (zd_b zq_prog_1_method_21_code_0 3 rfl rfl rfl)
theorem fs_Ip_36 : z_fs "Ironpour" 36 11 4 := ⟨R_Ip, "Ironpour", F_Ip, 12, rfl, u_Ip, by decide, Or.inl ⟨z_mj2 (i := 67) rfl (by decide +kernel), Or.inl rfl⟩⟩
theorem d_Ip_goodCores_4 : decode prog_1_method_21_code 4 = .ok (.invokevirtual 253, 3) := zo_182 (d := 0) (e := 253) (zd_b zq_prog_1_method_21_code_0 4 rfl rfl rfl) (zd_b zq_prog_1_method_21_code_0 5 rfl rfl rfl) (zd_b zq_prog_1_method_21_code_0 6 rfl rfl rfl)
theorem ok_Ip_goodCores_CS_allGood : z_ok M_Ip_goodCores M_CS_allGood 0 := ⟨z_mj2 (i := 160) rfl (by decide +kernel), rfl, ⟨by decide +kernel, by decide +kernel, by decide +kernel⟩, ⟨by decide, by decide⟩, z_mj1 (i := 6) rfl (by decide +kernel), rfl⟩
theorem ln_Ip_253 : Cond.methodLink "Ironpour" 253 M_CS_allGood.1 ∈ z_gw := z_mj2 (i := 157) rfl (by decide +kernel)
theorem w_im_CS_allGood : Cond.instanceMethod M_CS_allGood.1 ∈ z_gw := z_mj2 (i := 158) rfl (by decide +kernel)
theorem w_se_CS_allGood : Cond.selects M_CS_allGood.1.cls M_CS_allGood.1 M_CS_allGood.1 ∈ z_gw := z_mj2 (i := 159) rfl (by decide +kernel)
theorem d_Ip_goodCores_7 : decode prog_1_method_21_code 7 = .ok (.ireturn, 1) := zo_172 (zd_b zq_prog_1_method_21_code_0 7 rfl rfl rfl)
set_option maxHeartbeats 4000000 in
set_option maxRecDepth 100000 in
theorem C_Ip_goodCores (g : zG) (a pa ta sa gs co fu la gy du re wm ac : Nat) (co1 co2 co3 : Nat) (cn cu ag : Nat → Int32) (nl : Nat) (hnl : nl ≤ 20) : CT g M_Ip_goodCores [.ref a] [(a, .inr (11, [.ref pa, .ref ta, .ref sa, .ref gs, .ref co, .ref fu, .ref la, .ref gy, .ref du, .ref re, .ref wm, .ref ac])), (co, .inr (1, [.ref co1, .ref co2, .ref co3, .int (nI nl)])), (co1, .inl (0, 20, .inl cn)), (co2, .inl (0, 20, .inl cu)), (co3, .inl (0, 20, .inl ag))] (fun o cs1 => o = .inl (some (.int (bx_sum (fun k => if gdB cu ag k then cn k else 0) nl))) ∧ cs1 = [(a, .inr (11, [.ref pa, .ref ta, .ref sa, .ref gs, .ref co, .ref fu, .ref la, .ref gy, .ref du, .ref re, .ref wm, .ref ac])), (co, .inr (1, [.ref co1, .ref co2, .ref co3, .int (nI nl)])), (co1, .inl (0, 20, .inl cn)), (co2, .inl (0, 20, .inl cu)), (co3, .inl (0, 20, .inl ag))]) 0 0 := by
  refine z_of (by decide) rfl (Nat.le_of_ble_eq_true rfl) (fun w0 => ?_)
  refine r_lvE (lv2 := [(0, .ref a)]) rfl ?_
  refine r_aload_n d_Ip_goodCores_0 rfl 0 rfl ?_
  refine r_get fs_Ip_36 d_Ip_goodCores_1 (q0 := 0) rfl rfl ?_
  refine r_callV (As := []) (rest := []) (csC := [(co, .inr (1, [.ref co1, .ref co2, .ref co3, .int (nI nl)])), (co1, .inl (0, 20, .inl cn)), (co2, .inl (0, 20, .inl cu)), (co3, .inl (0, 20, .inl ag))]) (is := [1, 2, 3, 4]) (q0 := 1) rfl rfl ln_Ip_253 w_im_CS_allGood w_se_CS_allGood ok_Ip_goodCores_CS_allGood d_Ip_goodCores_4 (C_CS_allGood g co co1 co2 co3 cn cu ag nl hnl) rfl rfl (Nat.le_of_ble_eq_true rfl) rfl (by decide) (by omega) (by omega) (fun E cs1 hx => ?_) (fun v cs1 hx => ?_)
  · exact absurd hx.1 (by simp)
  · obtain ⟨e1, rfl⟩ := hx
    cases e1
    refine ⟨rfl, ?_⟩
    refine r_st (st2 := [.int (bx_sum (fun k => if gdB cu ag k then cn k else 0) nl)]) rfl ?_
    refine r_cs (cs2 := [(a, .inr (11, [.ref pa, .ref ta, .ref sa, .ref gs, .ref co, .ref fu, .ref la, .ref gy, .ref du, .ref re, .ref wm, .ref ac])), (co, .inr (1, [.ref co1, .ref co2, .ref co3, .int (nI nl)])), (co1, .inl (0, 20, .inl cn)), (co2, .inl (0, 20, .inl cu)), (co3, .inl (0, 20, .inl ag))]) rfl ?_
    refine r_iret d_Ip_goodCores_7 rfl rfl ?_
    exact ⟨rfl, rfl⟩
abbrev M_Ip_hours : zM := (⟨"Ironpour", "hours", "(I)I"⟩, prog_1_method_22_code, 2, (Option.some FieldType.int), 6, 100, [])
theorem d_Ip_hours_0 : decode prog_1_method_22_code 0 = .ok (.iload_n 1, 1) := zo_27 (zd_b zq_prog_1_method_22_code_0 0 rfl rfl rfl)
theorem d_Ip_hours_1 : decode prog_1_method_22_code 1 = .ok (.iconst 1, 1) := zo_4 (zd_b zq_prog_1_method_22_code_0 1 rfl rfl rfl)
theorem d_Ip_hours_2 : decode prog_1_method_22_code 2 = .ok (.bipush 48, 2) := zo_16 (d := 48) (zd_b zq_prog_1_method_22_code_0 2 rfl rfl rfl) (zd_b zq_prog_1_method_22_code_0 3 rfl rfl rfl) (by decide +kernel)
theorem d_Ip_hours_4 : decode prog_1_method_22_code 4 = .ok (.invokestatic 203, 3) := zo_184 (d := 0) (e := 203) (zd_b zq_prog_1_method_22_code_0 4 rfl rfl rfl) (zd_b zq_prog_1_method_22_code_0 5 rfl rfl rfl) (zd_b zq_prog_1_method_22_code_0 6 rfl rfl rfl)
theorem ok_Ip_hours_Ip_isWithin : z_ok M_Ip_hours M_Ip_isWithin 3 := ⟨z_mj4 (i := 97) rfl (by decide +kernel), rfl, ⟨by decide +kernel, by decide +kernel, by decide +kernel⟩, ⟨by decide, by decide⟩, z_mj1 (i := 1) rfl (by decide +kernel), rfl⟩
theorem d_Ip_hours_7 : decode prog_1_method_22_code 7 = .ok (.ifCond .ne 14, 3) := zo_154 (d := 0) (e := 14) (zd_b zq_prog_1_method_22_code_0 7 rfl rfl rfl) (zd_b zq_prog_1_method_22_code_0 8 rfl rfl rfl) (zd_b zq_prog_1_method_22_code_0 9 rfl rfl rfl) (by decide +kernel)
theorem d_Ip_hours_10 : decode prog_1_method_22_code 10 = .ok (.new 89, 3) := zo_187 (d := 0) (e := 89) (zd_b zq_prog_1_method_22_code_0 10 rfl rfl rfl) (zd_b zq_prog_1_method_22_code_0 11 rfl rfl rfl) (zd_b zq_prog_1_method_22_code_0 12 rfl rfl rfl)
theorem sr_Ip_256 : Cond.stringRef "Ironpour" 256 "1 to 48 hours go by" ∈ lw_tbl := z_tb5 (i := 5) rfl
theorem d_Ip_hours_13 : decode prog_1_method_22_code 13 = .ok (.dup, 1) := zo_89 (zd_b zq_prog_1_method_22_code_0 13 rfl rfl rfl)
theorem d_Ip_hours_14 : decode prog_1_method_22_code 14 = .ok (.ldc_w 256, 3) := zo_19 (d := 1) (e := 0) (zd_b zq_prog_1_method_22_code_0 14 rfl rfl rfl) (zd_b zq_prog_1_method_22_code_0 15 rfl rfl rfl) (zd_b zq_prog_1_method_22_code_0 16 rfl rfl rfl)
theorem d_Ip_hours_17 : decode prog_1_method_22_code 17 = .ok (.invokespecial 93, 3) := zo_183 (d := 0) (e := 93) (zd_b zq_prog_1_method_22_code_0 17 rfl rfl rfl) (zd_b zq_prog_1_method_22_code_0 18 rfl rfl rfl) (zd_b zq_prog_1_method_22_code_0 19 rfl rfl rfl)
theorem d_Ip_hours_20 : decode prog_1_method_22_code 20 = .ok (.athrow, 1) := zo_191 (zd_b zq_prog_1_method_22_code_0 20 rfl rfl rfl)
set_option maxHeartbeats 4000000 in
set_option maxRecDepth 100000 in
theorem C_Ip_hoursE (g : zG) (a pa ta sa gs co fu la gy du re wm ac : Nat) (co1 co2 co3 : Nat) (cn cu ag : Nat → Int32) (nl : Nat) (hnl : nl ≤ 20) (h : Int32) (hw : ¬ (1 ≤ h ∧ h ≤ 48)) : CT g M_Ip_hours [.ref a, .int h] [(a, .inr (11, [.ref pa, .ref ta, .ref sa, .ref gs, .ref co, .ref fu, .ref la, .ref gy, .ref du, .ref re, .ref wm, .ref ac])), (co, .inr (1, [.ref co1, .ref co2, .ref co3, .int (nI nl)])), (co1, .inl (0, 20, .inl cn)), (co2, .inl (0, 20, .inl cu)), (co3, .inl (0, 20, .inl ag))] (fun o cs1 => o = .inr "java/lang/IllegalArgumentException" ∧ cs1 = [(a, .inr (11, [.ref pa, .ref ta, .ref sa, .ref gs, .ref co, .ref fu, .ref la, .ref gy, .ref du, .ref re, .ref wm, .ref ac])), (co, .inr (1, [.ref co1, .ref co2, .ref co3, .int (nI nl)])), (co1, .inl (0, 20, .inl cn)), (co2, .inl (0, 20, .inl cu)), (co3, .inl (0, 20, .inl ag))]) 1 6 := by
  refine z_of (by decide) rfl (Nat.le_of_ble_eq_true rfl) (fun w0 => ?_)
  refine r_lvE (lv2 := [(0, .ref a), (1, .int h)]) rfl ?_
  refine r_iload_n d_Ip_hours_0 rfl 1 rfl ?_
  refine r_iconst d_Ip_hours_1 (v := 1) (by decide) ?_
  refine r_bipush d_Ip_hours_2 (v := 48) (by decide) ?_
  refine r_callS (As := [.int h, .int 1, .int 48]) (rest := []) (csC := []) (is := []) ln_Ip_203 w_st_Ip_isWithin ok_Ip_hours_Ip_isWithin d_Ip_hours_4 (C_Ip_isWithin g h 1 48) rfl rfl (Nat.le_of_ble_eq_true rfl) rfl (by decide) (by omega) (by omega) (fun E cs1 hx => ?_) (fun v cs1 hx => ?_)
  · exact absurd hx.1 (by simp)
  · obtain ⟨e1, rfl⟩ := hx
    cases e1
    refine ⟨rfl, ?_⟩
    refine r_st (st2 := [.int (if 1 ≤ h ∧ h ≤ 48 then 1 else 0)]) rfl ?_
    refine r_cs (cs2 := [(a, .inr (11, [.ref pa, .ref ta, .ref sa, .ref gs, .ref co, .ref fu, .ref la, .ref gy, .ref du, .ref re, .ref wm, .ref ac])), (co, .inr (1, [.ref co1, .ref co2, .ref co3, .int (nI nl)])), (co1, .inl (0, 20, .inl cn)), (co2, .inl (0, 20, .inl cu)), (co3, .inl (0, 20, .inl ag))]) rfl ?_
    refine r_if_ne (tgt := 21) d_Ip_hours_7 (by decide) (fun c_7 => ?_) (fun c_7 => ?_)
    · exact absurd (z_b1 c_7) hw
    · refine r_throwW tb_Ip_89_93 sr_Ip_256 d_Ip_hours_10 d_Ip_hours_13 d_Ip_hours_14 d_Ip_hours_17 d_Ip_hours_20 rfl (by decide) (by decide) (Nat.le_of_ble_eq_true rfl) (by omega) (by omega) ?_
      exact ⟨rfl, rfl⟩
theorem d_Ip_hours_21 : decode prog_1_method_22_code 21 = .ok (.aload_n 0, 1) := zo_42 (zd_b zq_prog_1_method_22_code_0 21 rfl rfl rfl)
theorem d_Ip_hours_22 : decode prog_1_method_22_code 22 = .ok (.getfield 36, 3) := zo_180 (d := 0) (e := 36) (zd_b zq_prog_1_method_22_code_0 22 rfl rfl rfl) (zd_b zq_prog_1_method_22_code_0 23 rfl rfl rfl) (zd_b zq_prog_1_method_22_code_0 24 rfl rfl rfl)
theorem d_Ip_hours_25 : decode prog_1_method_22_code 25 = .ok (.iload_n 1, 1) := zo_27 (zd_b zq_prog_1_method_22_code_0 25 rfl rfl rfl)
theorem d_Ip_hours_26 : decode prog_1_method_22_code 26 = .ok (.invokevirtual 258, 3) := zo_182 (d := 1) (e := 2) (zd_b zq_prog_1_method_22_code_0 26 rfl rfl rfl) (zd_b zq_prog_1_method_22_code_0 27 rfl rfl rfl) (zd_b zq_prog_1_method_22_code_0 28 rfl rfl rfl)
theorem ok_Ip_hours_CS_growOlder : z_ok M_Ip_hours M_CS_growOlder 1 := ⟨z_mj5 (i := 9) rfl (by decide +kernel), rfl, ⟨by decide +kernel, by decide +kernel, by decide +kernel⟩, ⟨by decide, by decide⟩, z_mj1 (i := 6) rfl (by decide +kernel), rfl⟩
theorem ln_Ip_258 : Cond.methodLink "Ironpour" 258 M_CS_growOlder.1 ∈ z_gw := z_mj5 (i := 6) rfl (by decide +kernel)
theorem w_im_CS_growOlder : Cond.instanceMethod M_CS_growOlder.1 ∈ z_gw := z_mj5 (i := 7) rfl (by decide +kernel)
theorem w_se_CS_growOlder : Cond.selects M_CS_growOlder.1.cls M_CS_growOlder.1 M_CS_growOlder.1 ∈ z_gw := z_mj5 (i := 8) rfl (by decide +kernel)
theorem d_Ip_hours_29 : decode prog_1_method_22_code 29 = .ok (.ireturn, 1) := zo_172 (zd_b zq_prog_1_method_22_code_0 29 rfl rfl rfl)
set_option maxHeartbeats 4000000 in
set_option maxRecDepth 100000 in
theorem C_Ip_hoursN (g : zG) (a pa ta sa gs co fu la gy du re wm ac : Nat) (co1 co2 co3 : Nat) (cn cu ag : Nat → Int32) (nl : Nat) (hnl : nl ≤ 20) (h : Int32) (hw : (1 ≤ h ∧ h ≤ 48)) : CT g M_Ip_hours [.ref a, .int h] [(a, .inr (11, [.ref pa, .ref ta, .ref sa, .ref gs, .ref co, .ref fu, .ref la, .ref gy, .ref du, .ref re, .ref wm, .ref ac])), (co, .inr (1, [.ref co1, .ref co2, .ref co3, .int (nI nl)])), (co1, .inl (0, 20, .inl cn)), (co2, .inl (0, 20, .inl cu)), (co3, .inl (0, 20, .inl ag))] (fun o cs1 => o = .inl (some (.int ((gwS cn cu ag h nl).2.2))) ∧ cs1 = [(a, .inr (11, [.ref pa, .ref ta, .ref sa, .ref gs, .ref co, .ref fu, .ref la, .ref gy, .ref du, .ref re, .ref wm, .ref ac])), (co, .inr (1, [.ref co1, .ref co2, .ref co3, .int (nI (dlS (gwS cn cu ag h nl).1 cu (gwS cn cu ag h nl).2.1 nl).1)])), (co1, .inl (0, 20, .inl ((dlS (gwS cn cu ag h nl).1 cu (gwS cn cu ag h nl).2.1 nl).2.1))), (co2, .inl (0, 20, .inl ((dlS (gwS cn cu ag h nl).1 cu (gwS cn cu ag h nl).2.1 nl).2.2.1))), (co3, .inl (0, 20, .inl ((dlS (gwS cn cu ag h nl).1 cu (gwS cn cu ag h nl).2.1 nl).2.2.2)))]) 1 6 := by
  refine z_of (by decide) rfl (Nat.le_of_ble_eq_true rfl) (fun w0 => ?_)
  refine r_lvE (lv2 := [(0, .ref a), (1, .int h)]) rfl ?_
  refine r_iload_n d_Ip_hours_0 rfl 1 rfl ?_
  refine r_iconst d_Ip_hours_1 (v := 1) (by decide) ?_
  refine r_bipush d_Ip_hours_2 (v := 48) (by decide) ?_
  refine r_callS (As := [.int h, .int 1, .int 48]) (rest := []) (csC := []) (is := []) ln_Ip_203 w_st_Ip_isWithin ok_Ip_hours_Ip_isWithin d_Ip_hours_4 (C_Ip_isWithin g h 1 48) rfl rfl (Nat.le_of_ble_eq_true rfl) rfl (by decide) (by omega) (by omega) (fun E cs1 hx => ?_) (fun v cs1 hx => ?_)
  · exact absurd hx.1 (by simp)
  · obtain ⟨e1, rfl⟩ := hx
    cases e1
    refine ⟨rfl, ?_⟩
    refine r_st (st2 := [.int (if 1 ≤ h ∧ h ≤ 48 then 1 else 0)]) rfl ?_
    refine r_cs (cs2 := [(a, .inr (11, [.ref pa, .ref ta, .ref sa, .ref gs, .ref co, .ref fu, .ref la, .ref gy, .ref du, .ref re, .ref wm, .ref ac])), (co, .inr (1, [.ref co1, .ref co2, .ref co3, .int (nI nl)])), (co1, .inl (0, 20, .inl cn)), (co2, .inl (0, 20, .inl cu)), (co3, .inl (0, 20, .inl ag))]) rfl ?_
    refine r_if_ne (tgt := 21) d_Ip_hours_7 (by decide) (fun c_7 => ?_) (fun c_7 => ?_)
    · refine r_aload_n d_Ip_hours_21 rfl 0 rfl ?_
      refine r_get fs_Ip_36 d_Ip_hours_22 (q0 := 0) rfl rfl ?_
      refine r_iload_n d_Ip_hours_25 rfl 1 rfl ?_
      refine r_callV (As := [.int h]) (rest := []) (csC := [(co, .inr (1, [.ref co1, .ref co2, .ref co3, .int (nI nl)])), (co1, .inl (0, 20, .inl cn)), (co2, .inl (0, 20, .inl cu)), (co3, .inl (0, 20, .inl ag))]) (is := [1, 2, 3, 4]) (q0 := 1) rfl rfl ln_Ip_258 w_im_CS_growOlder w_se_CS_growOlder ok_Ip_hours_CS_growOlder d_Ip_hours_26 (C_CS_growOlder g co co1 co2 co3 cn cu ag nl hnl h) rfl rfl (Nat.le_of_ble_eq_true rfl) rfl (by decide) (by omega) (by omega) (fun E cs1 hx => ?_) (fun v cs1 hx => ?_)
      · exact absurd hx.1 (by simp)
      · obtain ⟨e1, rfl⟩ := hx
        cases e1
        refine ⟨rfl, ?_⟩
        refine r_st (st2 := [.int ((gwS cn cu ag h nl).2.2)]) rfl ?_
        refine r_cs (cs2 := [(a, .inr (11, [.ref pa, .ref ta, .ref sa, .ref gs, .ref co, .ref fu, .ref la, .ref gy, .ref du, .ref re, .ref wm, .ref ac])), (co, .inr (1, [.ref co1, .ref co2, .ref co3, .int (nI (dlS (gwS cn cu ag h nl).1 cu (gwS cn cu ag h nl).2.1 nl).1)])), (co1, .inl (0, 20, .inl ((dlS (gwS cn cu ag h nl).1 cu (gwS cn cu ag h nl).2.1 nl).2.1))), (co2, .inl (0, 20, .inl ((dlS (gwS cn cu ag h nl).1 cu (gwS cn cu ag h nl).2.1 nl).2.2.1))), (co3, .inl (0, 20, .inl ((dlS (gwS cn cu ag h nl).1 cu (gwS cn cu ag h nl).2.1 nl).2.2.2)))]) rfl ?_
        refine r_iret d_Ip_hours_29 rfl rfl ?_
        exact ⟨rfl, rfl⟩
    · exact absurd hw (z_b0 c_7)
abbrev M_Ip_makeCores : zM := (⟨"Ironpour", "makeCores", "(II)I"⟩, prog_1_method_20_code, 3, (Option.some FieldType.int), 6, 100, [])
theorem d_Ip_makeCores_0 : decode prog_1_method_20_code 0 = .ok (.iload_n 1, 1) := zo_27 (zd_b zq_prog_1_method_20_code_0 0 rfl rfl rfl)
theorem d_Ip_makeCores_1 : decode prog_1_method_20_code 1 = .ok (.iconst 1, 1) := zo_4 (zd_b zq_prog_1_method_20_code_0 1 rfl rfl rfl)
theorem d_Ip_makeCores_2 : decode prog_1_method_20_code 2 = .ok (.bipush 10, 2) := zo_16 (d := 10) (zd_b zq_prog_1_method_20_code_0 2 rfl rfl rfl) (zd_b zq_prog_1_method_20_code_0 3 rfl rfl rfl) (by decide +kernel)
theorem d_Ip_makeCores_4 : decode prog_1_method_20_code 4 = .ok (.invokestatic 203, 3) := zo_184 (d := 0) (e := 203) (zd_b zq_prog_1_method_20_code_0 4 rfl rfl rfl) (zd_b zq_prog_1_method_20_code_0 5 rfl rfl rfl) (zd_b zq_prog_1_method_20_code_0 6 rfl rfl rfl)
theorem ok_Ip_makeCores_Ip_isWithin : z_ok M_Ip_makeCores M_Ip_isWithin 3 := ⟨z_mj4 (i := 97) rfl (by decide +kernel), rfl, ⟨by decide +kernel, by decide +kernel, by decide +kernel⟩, ⟨by decide, by decide⟩, z_mj1 (i := 1) rfl (by decide +kernel), rfl⟩
theorem d_Ip_makeCores_7 : decode prog_1_method_20_code 7 = .ok (.ifCond .eq 13, 3) := zo_153 (d := 0) (e := 13) (zd_b zq_prog_1_method_20_code_0 7 rfl rfl rfl) (zd_b zq_prog_1_method_20_code_0 8 rfl rfl rfl) (zd_b zq_prog_1_method_20_code_0 9 rfl rfl rfl) (by decide +kernel)
theorem d_Ip_makeCores_20 : decode prog_1_method_20_code 20 = .ok (.new 89, 3) := zo_187 (d := 0) (e := 89) (zd_b zq_prog_1_method_20_code_0 20 rfl rfl rfl) (zd_b zq_prog_1_method_20_code_0 21 rfl rfl rfl) (zd_b zq_prog_1_method_20_code_0 22 rfl rfl rfl)
theorem sr_Ip_236 : Cond.stringRef "Ironpour" 236 "a lot has 1 to 10 cores, and 1 to 24 hours to cure" ∈ lw_tbl := z_tb4 (i := 209) rfl
theorem d_Ip_makeCores_23 : decode prog_1_method_20_code 23 = .ok (.dup, 1) := zo_89 (zd_b zq_prog_1_method_20_code_0 23 rfl rfl rfl)
theorem d_Ip_makeCores_24 : decode prog_1_method_20_code 24 = .ok (.ldc 236, 2) := zo_18 (d := 236) (zd_b zq_prog_1_method_20_code_0 24 rfl rfl rfl) (zd_b zq_prog_1_method_20_code_0 25 rfl rfl rfl)
theorem d_Ip_makeCores_26 : decode prog_1_method_20_code 26 = .ok (.invokespecial 93, 3) := zo_183 (d := 0) (e := 93) (zd_b zq_prog_1_method_20_code_0 26 rfl rfl rfl) (zd_b zq_prog_1_method_20_code_0 27 rfl rfl rfl) (zd_b zq_prog_1_method_20_code_0 28 rfl rfl rfl)
theorem d_Ip_makeCores_29 : decode prog_1_method_20_code 29 = .ok (.athrow, 1) := zo_191 (zd_b zq_prog_1_method_20_code_0 29 rfl rfl rfl)
theorem d_Ip_makeCores_10 : decode prog_1_method_20_code 10 = .ok (.iload_n 2, 1) := zo_28 (zd_b zq_prog_1_method_20_code_0 10 rfl rfl rfl)
theorem d_Ip_makeCores_11 : decode prog_1_method_20_code 11 = .ok (.iconst 1, 1) := zo_4 (zd_b zq_prog_1_method_20_code_0 11 rfl rfl rfl)
theorem d_Ip_makeCores_12 : decode prog_1_method_20_code 12 = .ok (.bipush 24, 2) := zo_16 (d := 24) (zd_b zq_prog_1_method_20_code_0 12 rfl rfl rfl) (zd_b zq_prog_1_method_20_code_0 13 rfl rfl rfl) (by decide +kernel)
theorem d_Ip_makeCores_14 : decode prog_1_method_20_code 14 = .ok (.invokestatic 203, 3) := zo_184 (d := 0) (e := 203) (zd_b zq_prog_1_method_20_code_0 14 rfl rfl rfl) (zd_b zq_prog_1_method_20_code_0 15 rfl rfl rfl) (zd_b zq_prog_1_method_20_code_0 16 rfl rfl rfl)
theorem d_Ip_makeCores_17 : decode prog_1_method_20_code 17 = .ok (.ifCond .ne 13, 3) := zo_154 (d := 0) (e := 13) (zd_b zq_prog_1_method_20_code_0 17 rfl rfl rfl) (zd_b zq_prog_1_method_20_code_0 18 rfl rfl rfl) (zd_b zq_prog_1_method_20_code_0 19 rfl rfl rfl) (by decide +kernel)
set_option maxHeartbeats 4000000 in
set_option maxRecDepth 100000 in
theorem C_Ip_makeCoresE (g : zG) (a pa ta sa gs co fu la gy du re wm ac : Nat) (co1 co2 co3 : Nat) (cn cu ag : Nat → Int32) (nl : Nat) (hnl : nl ≤ 20) (c k : Int32) (hw : ¬ ((1 ≤ c ∧ c ≤ 10) ∧ (1 ≤ k ∧ k ≤ 24))) : CT g M_Ip_makeCores [.ref a, .int c, .int k] [(a, .inr (11, [.ref pa, .ref ta, .ref sa, .ref gs, .ref co, .ref fu, .ref la, .ref gy, .ref du, .ref re, .ref wm, .ref ac])), (co, .inr (1, [.ref co1, .ref co2, .ref co3, .int (nI nl)])), (co1, .inl (0, 20, .inl cn)), (co2, .inl (0, 20, .inl cu)), (co3, .inl (0, 20, .inl ag))] (fun o cs1 => o = .inr "java/lang/IllegalArgumentException" ∧ cs1 = [(a, .inr (11, [.ref pa, .ref ta, .ref sa, .ref gs, .ref co, .ref fu, .ref la, .ref gy, .ref du, .ref re, .ref wm, .ref ac])), (co, .inr (1, [.ref co1, .ref co2, .ref co3, .int (nI nl)])), (co1, .inl (0, 20, .inl cn)), (co2, .inl (0, 20, .inl cu)), (co3, .inl (0, 20, .inl ag))]) 1 6 := by
  refine z_of (by decide) rfl (Nat.le_of_ble_eq_true rfl) (fun w0 => ?_)
  refine r_lvE (lv2 := [(0, .ref a), (1, .int c), (2, .int k)]) rfl ?_
  refine r_iload_n d_Ip_makeCores_0 rfl 1 rfl ?_
  refine r_iconst d_Ip_makeCores_1 (v := 1) (by decide) ?_
  refine r_bipush d_Ip_makeCores_2 (v := 10) (by decide) ?_
  refine r_callS (As := [.int c, .int 1, .int 10]) (rest := []) (csC := []) (is := []) ln_Ip_203 w_st_Ip_isWithin ok_Ip_makeCores_Ip_isWithin d_Ip_makeCores_4 (C_Ip_isWithin g c 1 10) rfl rfl (Nat.le_of_ble_eq_true rfl) rfl (by decide) (by omega) (by omega) (fun E cs1 hx => ?_) (fun v cs1 hx => ?_)
  · exact absurd hx.1 (by simp)
  · obtain ⟨e1, rfl⟩ := hx
    cases e1
    refine ⟨rfl, ?_⟩
    refine r_st (st2 := [.int (if 1 ≤ c ∧ c ≤ 10 then 1 else 0)]) rfl ?_
    refine r_cs (cs2 := [(a, .inr (11, [.ref pa, .ref ta, .ref sa, .ref gs, .ref co, .ref fu, .ref la, .ref gy, .ref du, .ref re, .ref wm, .ref ac])), (co, .inr (1, [.ref co1, .ref co2, .ref co3, .int (nI nl)])), (co1, .inl (0, 20, .inl cn)), (co2, .inl (0, 20, .inl cu)), (co3, .inl (0, 20, .inl ag))]) rfl ?_
    refine r_if_eq (tgt := 20) d_Ip_makeCores_7 (by decide) (fun c_7 => ?_) (fun c_7 => ?_)
    · refine r_throw tb_Ip_89_93 sr_Ip_236 d_Ip_makeCores_20 d_Ip_makeCores_23 d_Ip_makeCores_24 d_Ip_makeCores_26 d_Ip_makeCores_29 rfl (by decide) (by decide) (Nat.le_of_ble_eq_true rfl) (by omega) (by omega) ?_
      exact ⟨rfl, rfl⟩
    · refine r_iload_n d_Ip_makeCores_10 rfl 2 rfl ?_
      refine r_iconst d_Ip_makeCores_11 (v := 1) (by decide) ?_
      refine r_bipush d_Ip_makeCores_12 (v := 24) (by decide) ?_
      refine r_callS (As := [.int k, .int 1, .int 24]) (rest := []) (csC := []) (is := []) ln_Ip_203 w_st_Ip_isWithin ok_Ip_makeCores_Ip_isWithin d_Ip_makeCores_14 (C_Ip_isWithin g k 1 24) rfl rfl (Nat.le_of_ble_eq_true rfl) rfl (by decide) (by omega) (by omega) (fun E cs1 hx => ?_) (fun v cs1 hx => ?_)
      · exact absurd hx.1 (by simp)
      · obtain ⟨e1, rfl⟩ := hx
        cases e1
        refine ⟨rfl, ?_⟩
        refine r_st (st2 := [.int (if 1 ≤ k ∧ k ≤ 24 then 1 else 0)]) rfl ?_
        refine r_cs (cs2 := [(a, .inr (11, [.ref pa, .ref ta, .ref sa, .ref gs, .ref co, .ref fu, .ref la, .ref gy, .ref du, .ref re, .ref wm, .ref ac])), (co, .inr (1, [.ref co1, .ref co2, .ref co3, .int (nI nl)])), (co1, .inl (0, 20, .inl cn)), (co2, .inl (0, 20, .inl cu)), (co3, .inl (0, 20, .inl ag))]) rfl ?_
        refine r_if_ne (tgt := 30) d_Ip_makeCores_17 (by decide) (fun c_17 => ?_) (fun c_17 => ?_)
        · exact absurd ⟨z_b1 c_7, z_b1 c_17⟩ hw
        · refine r_throw tb_Ip_89_93 sr_Ip_236 d_Ip_makeCores_20 d_Ip_makeCores_23 d_Ip_makeCores_24 d_Ip_makeCores_26 d_Ip_makeCores_29 rfl (by decide) (by decide) (Nat.le_of_ble_eq_true rfl) (by omega) (by omega) ?_
          exact ⟨rfl, rfl⟩
theorem d_Ip_makeCores_30 : decode prog_1_method_20_code 30 = .ok (.aload_n 0, 1) := zo_42 (zd_b zq_prog_1_method_20_code_0 30 rfl rfl rfl)
theorem d_Ip_makeCores_31 : decode prog_1_method_20_code 31 = .ok (.getfield 36, 3) := zo_180 (d := 0) (e := 36) (zd_b zq_prog_1_method_20_code_0 31 rfl rfl rfl) (zd_b zq_prog_1_method_20_code_1 0 rfl rfl rfl) (zd_b zq_prog_1_method_20_code_1 1 rfl rfl rfl)
theorem d_Ip_makeCores_34 : decode prog_1_method_20_code 34 = .ok (.invokevirtual 238, 3) := zo_182 (d := 0) (e := 238) (zd_b zq_prog_1_method_20_code_1 2 rfl rfl rfl) (zd_b zq_prog_1_method_20_code_1 3 rfl rfl rfl) (zd_b zq_prog_1_method_20_code_1 4 rfl rfl rfl)
theorem ok_Ip_makeCores_CS_isFull : z_ok M_Ip_makeCores M_CS_isFull 0 := ⟨z_mj4 (i := 213) rfl (by decide +kernel), rfl, ⟨by decide +kernel, by decide +kernel, by decide +kernel⟩, ⟨by decide, by decide⟩, z_mj1 (i := 6) rfl (by decide +kernel), rfl⟩
theorem ln_Ip_238 : Cond.methodLink "Ironpour" 238 M_CS_isFull.1 ∈ z_gw := z_mj4 (i := 210) rfl (by decide +kernel)
theorem w_im_CS_isFull : Cond.instanceMethod M_CS_isFull.1 ∈ z_gw := z_mj4 (i := 211) rfl (by decide +kernel)
theorem w_se_CS_isFull : Cond.selects M_CS_isFull.1.cls M_CS_isFull.1 M_CS_isFull.1 ∈ z_gw := z_mj4 (i := 212) rfl (by decide +kernel)
theorem d_Ip_makeCores_37 : decode prog_1_method_20_code 37 = .ok (.ifCond .eq 13, 3) := zo_153 (d := 0) (e := 13) (zd_b zq_prog_1_method_20_code_1 5 rfl rfl rfl) (zd_b zq_prog_1_method_20_code_1 6 rfl rfl rfl) (zd_b zq_prog_1_method_20_code_1 7 rfl rfl rfl) (by decide +kernel)
theorem d_Ip_makeCores_40 : decode prog_1_method_20_code 40 = .ok (.new 242, 3) := zo_187 (d := 0) (e := 242) (zd_b zq_prog_1_method_20_code_1 8 rfl rfl rfl) (zd_b zq_prog_1_method_20_code_1 9 rfl rfl rfl) (zd_b zq_prog_1_method_20_code_1 10 rfl rfl rfl)
theorem tb_Ip_242_246 : z_tb "Ironpour" 242 246 "java/lang/IllegalStateException" := ⟨by decide +kernel, z_mj4 (i := 214) rfl (by decide +kernel), z_mj1 (i := 30) rfl (by decide +kernel), fun w h => ((z_at [(1, 21), (3, 163), (3, 172), (3, 180), (3, 183), (3, 185), (3, 164), (3, 165), (1, 44), (1, 45), (3, 166), (3, 171), (3, 181), (3, 201), (3, 153), (3, 202), (3, 155), (3, 203), (3, 157), (3, 167), (3, 169), (3, 159), (3, 197), (3, 198), (3, 200), (3, 159), (4, 225), (4, 226), (4, 227), (3, 191), (3, 145), (3, 191), (3, 192), (3, 193), (3, 194), (3, 147), (3, 194), (3, 195), (3, 196), (3, 197), (3, 149), (4, 224), (4, 215), (4, 216), (4, 217), (3, 176), (4, 218), (4, 219), (4, 220), (4, 221), (3, 162), (3, 161), (4, 222)] (by decide +kernel) (by decide +kernel) : ∀ w ∈ vx_atS "Ironpour" 246 "java/lang/IllegalStateException" ["java/lang/RuntimeException", "java/lang/Exception"], w ∈ lw_tbl ∧ (goodWord w || z_isN w) = true) w h).elim (fun h1 h2 => (Bool.or_eq_true _ _ ▸ h2).elim (fun h3 => Or.inl (List.mem_filter.mpr ⟨h1, h3⟩)) (fun h3 => Or.inr (List.mem_filter.mpr ⟨h1, h3⟩))), by decide +kernel⟩
theorem sr_Ip_244 : Cond.stringRef "Ironpour" 244 "there are 20 lots" ∈ lw_tbl := z_tb4 (i := 223) rfl
theorem d_Ip_makeCores_43 : decode prog_1_method_20_code 43 = .ok (.dup, 1) := zo_89 (zd_b zq_prog_1_method_20_code_1 11 rfl rfl rfl)
theorem d_Ip_makeCores_44 : decode prog_1_method_20_code 44 = .ok (.ldc 244, 2) := zo_18 (d := 244) (zd_b zq_prog_1_method_20_code_1 12 rfl rfl rfl) (zd_b zq_prog_1_method_20_code_1 13 rfl rfl rfl)
