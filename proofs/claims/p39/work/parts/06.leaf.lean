abbrev M_Ip_isWithin : zM := (⟨"Ironpour", "isWithin", "(III)Z"⟩, prog_1_method_52_code, 3, (Option.some FieldType.boolean), 1, 20, [])
theorem d_Ip_isWithin_0 : decode prog_1_method_52_code 0 = .ok (.iload_n 0, 1) := zo_26 (zd_b zq_prog_1_method_52_code_0 0 rfl rfl rfl)
theorem d_Ip_isWithin_1 : decode prog_1_method_52_code 1 = .ok (.iload_n 1, 1) := zo_27 (zd_b zq_prog_1_method_52_code_0 1 rfl rfl rfl)
theorem d_Ip_isWithin_2 : decode prog_1_method_52_code 2 = .ok (.if_icmp .lt 12, 3) := zo_161 (d := 0) (e := 12) (zd_b zq_prog_1_method_52_code_0 2 rfl rfl rfl) (zd_b zq_prog_1_method_52_code_0 3 rfl rfl rfl) (zd_b zq_prog_1_method_52_code_0 4 rfl rfl rfl) (by decide +kernel)
theorem d_Ip_isWithin_14 : decode prog_1_method_52_code 14 = .ok (.iconst 0, 1) := zo_3 (zd_b zq_prog_1_method_52_code_0 14 rfl rfl rfl)
theorem d_Ip_isWithin_15 : decode prog_1_method_52_code 15 = .ok (.ireturn, 1) := zo_172 (zd_b zq_prog_1_method_52_code_0 15 rfl rfl rfl)
theorem d_Ip_isWithin_5 : decode prog_1_method_52_code 5 = .ok (.iload_n 0, 1) := zo_26 (zd_b zq_prog_1_method_52_code_0 5 rfl rfl rfl)
theorem d_Ip_isWithin_6 : decode prog_1_method_52_code 6 = .ok (.iload_n 2, 1) := zo_28 (zd_b zq_prog_1_method_52_code_0 6 rfl rfl rfl)
theorem d_Ip_isWithin_7 : decode prog_1_method_52_code 7 = .ok (.if_icmp .gt 7, 3) := zo_163 (d := 0) (e := 7) (zd_b zq_prog_1_method_52_code_0 7 rfl rfl rfl) (zd_b zq_prog_1_method_52_code_0 8 rfl rfl rfl) (zd_b zq_prog_1_method_52_code_0 9 rfl rfl rfl) (by decide +kernel)
theorem d_Ip_isWithin_10 : decode prog_1_method_52_code 10 = .ok (.iconst 1, 1) := zo_4 (zd_b zq_prog_1_method_52_code_0 10 rfl rfl rfl)
theorem d_Ip_isWithin_11 : decode prog_1_method_52_code 11 = .ok (.goto 4, 3) := zo_167 (d := 0) (e := 4) (zd_b zq_prog_1_method_52_code_0 11 rfl rfl rfl) (zd_b zq_prog_1_method_52_code_0 12 rfl rfl rfl) (zd_b zq_prog_1_method_52_code_0 13 rfl rfl rfl) (by decide +kernel)
set_option maxHeartbeats 4000000 in
set_option maxRecDepth 100000 in
theorem C_Ip_isWithin (g : zG) (a b c : Int32) : CT g M_Ip_isWithin [.int a, .int b, .int c] [] (fun o cs1 => o = .inl (some (.int (if b ≤ a ∧ a ≤ c then 1 else 0))) ∧ cs1 = []) 0 0 := by
  refine z_of (by decide) rfl (Nat.le_of_ble_eq_true rfl) (fun w0 => ?_)
  refine r_lvE (lv2 := [(0, .int a), (1, .int b), (2, .int c)]) rfl ?_
  refine r_iload_n d_Ip_isWithin_0 rfl 0 rfl ?_
  refine r_iload_n d_Ip_isWithin_1 rfl 1 rfl ?_
  refine r_icmp_lt (tgt := 14) d_Ip_isWithin_2 (by decide) (fun c_2 => ?_) (fun c_2 => ?_)
  · refine r_iconst d_Ip_isWithin_14 (v := 0) (by decide) ?_
    refine r_iret d_Ip_isWithin_15 rfl rfl ?_
    refine ⟨?_, rfl⟩
    split <;> first | rfl | (exfalso; simp only [fa_lt, fa_le] at *; omega)
  · refine r_iload_n d_Ip_isWithin_5 rfl 0 rfl ?_
    refine r_iload_n d_Ip_isWithin_6 rfl 2 rfl ?_
    refine r_icmp_gt (tgt := 14) d_Ip_isWithin_7 (by decide) (fun c_7 => ?_) (fun c_7 => ?_)
    · refine r_iconst d_Ip_isWithin_14 (v := 0) (by decide) ?_
      refine r_iret d_Ip_isWithin_15 rfl rfl ?_
      refine ⟨?_, rfl⟩
      split <;> first | rfl | (exfalso; simp only [fa_lt, fa_le] at *; omega)
    · refine r_iconst d_Ip_isWithin_10 (v := 1) (by decide) ?_
      refine r_goto (tgt := 15) d_Ip_isWithin_11 (by decide) ?_
      refine r_iret d_Ip_isWithin_15 rfl rfl ?_
      refine ⟨?_, rfl⟩
      split <;> first | rfl | (exfalso; simp only [fa_lt, fa_le] at *; omega)
abbrev M_Mm_in : zM := (⟨"IronpourModel", "in", "(III)Z"⟩, prog_14_method_3_code, 3, (Option.some FieldType.boolean), 1, 20, [])
theorem d_Mm_in_0 : decode prog_14_method_3_code 0 = .ok (.iload_n 0, 1) := zo_26 (zd_b zq_prog_14_method_3_code_0 0 rfl rfl rfl)
theorem d_Mm_in_1 : decode prog_14_method_3_code 1 = .ok (.iload_n 1, 1) := zo_27 (zd_b zq_prog_14_method_3_code_0 1 rfl rfl rfl)
theorem d_Mm_in_2 : decode prog_14_method_3_code 2 = .ok (.if_icmp .lt 12, 3) := zo_161 (d := 0) (e := 12) (zd_b zq_prog_14_method_3_code_0 2 rfl rfl rfl) (zd_b zq_prog_14_method_3_code_0 3 rfl rfl rfl) (zd_b zq_prog_14_method_3_code_0 4 rfl rfl rfl) (by decide +kernel)
theorem d_Mm_in_14 : decode prog_14_method_3_code 14 = .ok (.iconst 0, 1) := zo_3 (zd_b zq_prog_14_method_3_code_0 14 rfl rfl rfl)
theorem d_Mm_in_15 : decode prog_14_method_3_code 15 = .ok (.ireturn, 1) := zo_172 (zd_b zq_prog_14_method_3_code_0 15 rfl rfl rfl)
theorem d_Mm_in_5 : decode prog_14_method_3_code 5 = .ok (.iload_n 0, 1) := zo_26 (zd_b zq_prog_14_method_3_code_0 5 rfl rfl rfl)
theorem d_Mm_in_6 : decode prog_14_method_3_code 6 = .ok (.iload_n 2, 1) := zo_28 (zd_b zq_prog_14_method_3_code_0 6 rfl rfl rfl)
theorem d_Mm_in_7 : decode prog_14_method_3_code 7 = .ok (.if_icmp .gt 7, 3) := zo_163 (d := 0) (e := 7) (zd_b zq_prog_14_method_3_code_0 7 rfl rfl rfl) (zd_b zq_prog_14_method_3_code_0 8 rfl rfl rfl) (zd_b zq_prog_14_method_3_code_0 9 rfl rfl rfl) (by decide +kernel)
theorem d_Mm_in_10 : decode prog_14_method_3_code 10 = .ok (.iconst 1, 1) := zo_4 (zd_b zq_prog_14_method_3_code_0 10 rfl rfl rfl)
theorem d_Mm_in_11 : decode prog_14_method_3_code 11 = .ok (.goto 4, 3) := zo_167 (d := 0) (e := 4) (zd_b zq_prog_14_method_3_code_0 11 rfl rfl rfl) (zd_b zq_prog_14_method_3_code_0 12 rfl rfl rfl) (zd_b zq_prog_14_method_3_code_0 13 rfl rfl rfl) (by decide +kernel)
set_option maxHeartbeats 4000000 in
set_option maxRecDepth 100000 in
theorem C_Mm_in (g : zG) (a b c : Int32) : CT g M_Mm_in [.int a, .int b, .int c] [] (fun o cs1 => o = .inl (some (.int (if b ≤ a ∧ a ≤ c then 1 else 0))) ∧ cs1 = []) 0 0 := by
  refine z_of (by decide) rfl (Nat.le_of_ble_eq_true rfl) (fun w0 => ?_)
  refine r_lvE (lv2 := [(0, .int a), (1, .int b), (2, .int c)]) rfl ?_
  refine r_iload_n d_Mm_in_0 rfl 0 rfl ?_
  refine r_iload_n d_Mm_in_1 rfl 1 rfl ?_
  refine r_icmp_lt (tgt := 14) d_Mm_in_2 (by decide) (fun c_2 => ?_) (fun c_2 => ?_)
  · refine r_iconst d_Mm_in_14 (v := 0) (by decide) ?_
    refine r_iret d_Mm_in_15 rfl rfl ?_
    refine ⟨?_, rfl⟩
    split <;> first | rfl | (exfalso; simp only [fa_lt, fa_le] at *; omega)
  · refine r_iload_n d_Mm_in_5 rfl 0 rfl ?_
    refine r_iload_n d_Mm_in_6 rfl 2 rfl ?_
    refine r_icmp_gt (tgt := 14) d_Mm_in_7 (by decide) (fun c_7 => ?_) (fun c_7 => ?_)
    · refine r_iconst d_Mm_in_14 (v := 0) (by decide) ?_
      refine r_iret d_Mm_in_15 rfl rfl ?_
      refine ⟨?_, rfl⟩
      split <;> first | rfl | (exfalso; simp only [fa_lt, fa_le] at *; omega)
    · refine r_iconst d_Mm_in_10 (v := 1) (by decide) ?_
      refine r_goto (tgt := 15) d_Mm_in_11 (by decide) ?_
      refine r_iret d_Mm_in_15 rfl rfl ?_
      refine ⟨?_, rfl⟩
      split <;> first | rfl | (exfalso; simp only [fa_lt, fa_le] at *; omega)
abbrev M_Ip_isCell : zM := (⟨"Ironpour", "isCell", "(II)Z"⟩, prog_1_method_53_code, 2, (Option.some FieldType.boolean), 1, 20, [])
theorem d_Ip_isCell_0 : decode prog_1_method_53_code 0 = .ok (.iload_n 0, 1) := zo_26 (zd_b zq_prog_1_method_53_code_0 0 rfl rfl rfl)
theorem d_Ip_isCell_1 : decode prog_1_method_53_code 1 = .ok (.ifCond .lt 23, 3) := zo_155 (d := 0) (e := 23) (zd_b zq_prog_1_method_53_code_0 1 rfl rfl rfl) (zd_b zq_prog_1_method_53_code_0 2 rfl rfl rfl) (zd_b zq_prog_1_method_53_code_0 3 rfl rfl rfl) (by decide +kernel)
theorem d_Ip_isCell_24 : decode prog_1_method_53_code 24 = .ok (.iconst 0, 1) := zo_3 (zd_b zq_prog_1_method_53_code_0 24 rfl rfl rfl)
theorem d_Ip_isCell_25 : decode prog_1_method_53_code 25 = .ok (.ireturn, 1) := zo_172 (zd_b zq_prog_1_method_53_code_0 25 rfl rfl rfl)
theorem d_Ip_isCell_4 : decode prog_1_method_53_code 4 = .ok (.iload_n 0, 1) := zo_26 (zd_b zq_prog_1_method_53_code_0 4 rfl rfl rfl)
theorem d_Ip_isCell_5 : decode prog_1_method_53_code 5 = .ok (.bipush 12, 2) := zo_16 (d := 12) (zd_b zq_prog_1_method_53_code_0 5 rfl rfl rfl) (zd_b zq_prog_1_method_53_code_0 6 rfl rfl rfl) (by decide +kernel)
theorem d_Ip_isCell_7 : decode prog_1_method_53_code 7 = .ok (.if_icmp .ge 17, 3) := zo_162 (d := 0) (e := 17) (zd_b zq_prog_1_method_53_code_0 7 rfl rfl rfl) (zd_b zq_prog_1_method_53_code_0 8 rfl rfl rfl) (zd_b zq_prog_1_method_53_code_0 9 rfl rfl rfl) (by decide +kernel)
theorem d_Ip_isCell_10 : decode prog_1_method_53_code 10 = .ok (.iload_n 1, 1) := zo_27 (zd_b zq_prog_1_method_53_code_0 10 rfl rfl rfl)
theorem d_Ip_isCell_11 : decode prog_1_method_53_code 11 = .ok (.ifCond .lt 13, 3) := zo_155 (d := 0) (e := 13) (zd_b zq_prog_1_method_53_code_0 11 rfl rfl rfl) (zd_b zq_prog_1_method_53_code_0 12 rfl rfl rfl) (zd_b zq_prog_1_method_53_code_0 13 rfl rfl rfl) (by decide +kernel)
theorem d_Ip_isCell_14 : decode prog_1_method_53_code 14 = .ok (.iload_n 1, 1) := zo_27 (zd_b zq_prog_1_method_53_code_0 14 rfl rfl rfl)
theorem d_Ip_isCell_15 : decode prog_1_method_53_code 15 = .ok (.bipush 9, 2) := zo_16 (d := 9) (zd_b zq_prog_1_method_53_code_0 15 rfl rfl rfl) (zd_b zq_prog_1_method_53_code_0 16 rfl rfl rfl) (by decide +kernel)
theorem d_Ip_isCell_17 : decode prog_1_method_53_code 17 = .ok (.if_icmp .ge 7, 3) := zo_162 (d := 0) (e := 7) (zd_b zq_prog_1_method_53_code_0 17 rfl rfl rfl) (zd_b zq_prog_1_method_53_code_0 18 rfl rfl rfl) (zd_b zq_prog_1_method_53_code_0 19 rfl rfl rfl) (by decide +kernel)
theorem d_Ip_isCell_20 : decode prog_1_method_53_code 20 = .ok (.iconst 1, 1) := zo_4 (zd_b zq_prog_1_method_53_code_0 20 rfl rfl rfl)
theorem d_Ip_isCell_21 : decode prog_1_method_53_code 21 = .ok (.goto 4, 3) := zo_167 (d := 0) (e := 4) (zd_b zq_prog_1_method_53_code_0 21 rfl rfl rfl) (zd_b zq_prog_1_method_53_code_0 22 rfl rfl rfl) (zd_b zq_prog_1_method_53_code_0 23 rfl rfl rfl) (by decide +kernel)
set_option maxHeartbeats 4000000 in
set_option maxRecDepth 100000 in
theorem C_Ip_isCell (g : zG) (x y : Int32) : CT g M_Ip_isCell [.int x, .int y] [] (fun o cs1 => o = .inl (some (.int (if 0 ≤ x ∧ x < 12 ∧ 0 ≤ y ∧ y < 9 then 1 else 0))) ∧ cs1 = []) 0 0 := by
  refine z_of (by decide) rfl (Nat.le_of_ble_eq_true rfl) (fun w0 => ?_)
  refine r_lvE (lv2 := [(0, .int x), (1, .int y)]) rfl ?_
  refine r_iload_n d_Ip_isCell_0 rfl 0 rfl ?_
  refine r_if_lt (tgt := 24) d_Ip_isCell_1 (by decide) (fun c_1 => ?_) (fun c_1 => ?_)
  · refine r_iconst d_Ip_isCell_24 (v := 0) (by decide) ?_
    refine r_iret d_Ip_isCell_25 rfl rfl ?_
    refine ⟨?_, rfl⟩
    split <;> first | rfl | (exfalso; simp only [fa_lt, fa_le] at *; have e0 : (0 : Int32).toInt = 0 := rfl; have e12 : (12 : Int32).toInt = 12 := rfl; have e9 : (9 : Int32).toInt = 9 := rfl; omega)
  · refine r_iload_n d_Ip_isCell_4 rfl 0 rfl ?_
    refine r_bipush d_Ip_isCell_5 (v := 12) (by decide) ?_
    refine r_icmp_ge (tgt := 24) d_Ip_isCell_7 (by decide) (fun c_7 => ?_) (fun c_7 => ?_)
    · refine r_iconst d_Ip_isCell_24 (v := 0) (by decide) ?_
      refine r_iret d_Ip_isCell_25 rfl rfl ?_
      refine ⟨?_, rfl⟩
      split <;> first | rfl | (exfalso; simp only [fa_lt, fa_le] at *; have e0 : (0 : Int32).toInt = 0 := rfl; have e12 : (12 : Int32).toInt = 12 := rfl; have e9 : (9 : Int32).toInt = 9 := rfl; omega)
    · refine r_iload_n d_Ip_isCell_10 rfl 1 rfl ?_
      refine r_if_lt (tgt := 24) d_Ip_isCell_11 (by decide) (fun c_11 => ?_) (fun c_11 => ?_)
      · refine r_iconst d_Ip_isCell_24 (v := 0) (by decide) ?_
        refine r_iret d_Ip_isCell_25 rfl rfl ?_
        refine ⟨?_, rfl⟩
        split <;> first | rfl | (exfalso; simp only [fa_lt, fa_le] at *; have e0 : (0 : Int32).toInt = 0 := rfl; have e12 : (12 : Int32).toInt = 12 := rfl; have e9 : (9 : Int32).toInt = 9 := rfl; omega)
      · refine r_iload_n d_Ip_isCell_14 rfl 1 rfl ?_
        refine r_bipush d_Ip_isCell_15 (v := 9) (by decide) ?_
        refine r_icmp_ge (tgt := 24) d_Ip_isCell_17 (by decide) (fun c_17 => ?_) (fun c_17 => ?_)
        · refine r_iconst d_Ip_isCell_24 (v := 0) (by decide) ?_
          refine r_iret d_Ip_isCell_25 rfl rfl ?_
          refine ⟨?_, rfl⟩
          split <;> first | rfl | (exfalso; simp only [fa_lt, fa_le] at *; have e0 : (0 : Int32).toInt = 0 := rfl; have e12 : (12 : Int32).toInt = 12 := rfl; have e9 : (9 : Int32).toInt = 9 := rfl; omega)
        · refine r_iconst d_Ip_isCell_20 (v := 1) (by decide) ?_
          refine r_goto (tgt := 25) d_Ip_isCell_21 (by decide) ?_
          refine r_iret d_Ip_isCell_25 rfl rfl ?_
          refine ⟨?_, rfl⟩
          split <;> first | rfl | (exfalso; simp only [fa_lt, fa_le] at *; have e0 : (0 : Int32).toInt = 0 := rfl; have e12 : (12 : Int32).toInt = 12 := rfl; have e9 : (9 : Int32).toInt = 9 := rfl; omega)
abbrev M_Ip_cellAt : zM := (⟨"Ironpour", "cellAt", "(II)I"⟩, prog_1_method_54_code, 2, (Option.some FieldType.int), 6, 100, [])
theorem d_Ip_cellAt_0 : decode prog_1_method_54_code 0 = .ok (.iload_n 0, 1) := zo_26 (zd_b zq_prog_1_method_54_code_0 0 rfl rfl rfl)
theorem d_Ip_cellAt_1 : decode prog_1_method_54_code 1 = .ok (.iload_n 1, 1) := zo_27 (zd_b zq_prog_1_method_54_code_0 1 rfl rfl rfl)
theorem d_Ip_cellAt_2 : decode prog_1_method_54_code 2 = .ok (.invokestatic 96, 3) := zo_184 (d := 0) (e := 96) (zd_b zq_prog_1_method_54_code_0 2 rfl rfl rfl) (zd_b zq_prog_1_method_54_code_0 3 rfl rfl rfl) (zd_b zq_prog_1_method_54_code_0 4 rfl rfl rfl)
theorem ok_Ip_cellAt_Ip_isCell : z_ok M_Ip_cellAt M_Ip_isCell 2 := ⟨z_mj3 (i := 215) rfl (by decide +kernel), rfl, ⟨by decide +kernel, by decide +kernel, by decide +kernel⟩, ⟨by decide, by decide⟩, z_mj1 (i := 1) rfl (by decide +kernel), rfl⟩
theorem ln_Ip_96 : Cond.methodLink "Ironpour" 96 M_Ip_isCell.1 ∈ z_gw := z_mj3 (i := 213) rfl (by decide +kernel)
theorem w_st_Ip_isCell : Cond.static M_Ip_isCell.1 ∈ z_gw := z_mj3 (i := 214) rfl (by decide +kernel)
theorem d_Ip_cellAt_5 : decode prog_1_method_54_code 5 = .ok (.ifCond .ne 14, 3) := zo_154 (d := 0) (e := 14) (zd_b zq_prog_1_method_54_code_0 5 rfl rfl rfl) (zd_b zq_prog_1_method_54_code_0 6 rfl rfl rfl) (zd_b zq_prog_1_method_54_code_0 7 rfl rfl rfl) (by decide +kernel)
theorem d_Ip_cellAt_19 : decode prog_1_method_54_code 19 = .ok (.iload_n 1, 1) := zo_27 (zd_b zq_prog_1_method_54_code_0 19 rfl rfl rfl)
theorem d_Ip_cellAt_20 : decode prog_1_method_54_code 20 = .ok (.bipush 12, 2) := zo_16 (d := 12) (zd_b zq_prog_1_method_54_code_0 20 rfl rfl rfl) (zd_b zq_prog_1_method_54_code_0 21 rfl rfl rfl) (by decide +kernel)
theorem d_Ip_cellAt_22 : decode prog_1_method_54_code 22 = .ok (.imul, 1) := zo_104 (zd_b zq_prog_1_method_54_code_0 22 rfl rfl rfl)
theorem d_Ip_cellAt_23 : decode prog_1_method_54_code 23 = .ok (.iload_n 0, 1) := zo_26 (zd_b zq_prog_1_method_54_code_0 23 rfl rfl rfl)
theorem d_Ip_cellAt_24 : decode prog_1_method_54_code 24 = .ok (.iadd, 1) := zo_96 (zd_b zq_prog_1_method_54_code_0 24 rfl rfl rfl)
theorem d_Ip_cellAt_25 : decode prog_1_method_54_code 25 = .ok (.ireturn, 1) := zo_172 (zd_b zq_prog_1_method_54_code_0 25 rfl rfl rfl)
theorem d_Ip_cellAt_8 : decode prog_1_method_54_code 8 = .ok (.new 509, 3) := zo_187 (d := 1) (e := 253) (zd_b zq_prog_1_method_54_code_0 8 rfl rfl rfl) (zd_b zq_prog_1_method_54_code_0 9 rfl rfl rfl) (zd_b zq_prog_1_method_54_code_0 10 rfl rfl rfl)
theorem tb_Ip_509_513 : z_tb "Ironpour" 509 513 "java/lang/IndexOutOfBoundsException" := ⟨by decide +kernel, z_mj4 (i := 23) rfl (by decide +kernel), z_mj1 (i := 26) rfl (by decide +kernel), fun w h => ((z_at [(1, 21), (3, 163), (3, 172), (3, 180), (3, 183), (3, 185), (3, 164), (3, 165), (1, 44), (1, 45), (3, 166), (3, 171), (3, 181), (3, 201), (3, 153), (3, 202), (3, 155), (3, 203), (3, 157), (3, 167), (3, 169), (3, 159), (3, 197), (3, 198), (3, 200), (3, 159), (3, 237), (3, 238), (3, 239), (3, 191), (3, 145), (3, 191), (3, 192), (3, 193), (3, 194), (3, 147), (3, 194), (3, 195), (3, 196), (3, 197), (3, 149), (4, 33), (4, 24), (4, 25), (4, 26), (3, 177), (4, 27), (4, 28), (4, 29), (4, 30), (3, 162), (3, 161), (4, 31)] (by decide +kernel) (by decide +kernel) : ∀ w ∈ vx_atS "Ironpour" 513 "java/lang/IndexOutOfBoundsException" ["java/lang/RuntimeException", "java/lang/Exception"], w ∈ lw_tbl ∧ (goodWord w || z_isN w) = true) w h).elim (fun h1 h2 => (Bool.or_eq_true _ _ ▸ h2).elim (fun h3 => Or.inl (List.mem_filter.mpr ⟨h1, h3⟩)) (fun h3 => Or.inr (List.mem_filter.mpr ⟨h1, h3⟩))), by decide +kernel⟩
theorem sr_Ip_511 : Cond.stringRef "Ironpour" 511 "no such cell" ∈ lw_tbl := z_tb4 (i := 32) rfl
theorem d_Ip_cellAt_11 : decode prog_1_method_54_code 11 = .ok (.dup, 1) := zo_89 (zd_b zq_prog_1_method_54_code_0 11 rfl rfl rfl)
theorem d_Ip_cellAt_12 : decode prog_1_method_54_code 12 = .ok (.ldc_w 511, 3) := zo_19 (d := 1) (e := 255) (zd_b zq_prog_1_method_54_code_0 12 rfl rfl rfl) (zd_b zq_prog_1_method_54_code_0 13 rfl rfl rfl) (zd_b zq_prog_1_method_54_code_0 14 rfl rfl rfl)
theorem d_Ip_cellAt_15 : decode prog_1_method_54_code 15 = .ok (.invokespecial 513, 3) := zo_183 (d := 2) (e := 1) (zd_b zq_prog_1_method_54_code_0 15 rfl rfl rfl) (zd_b zq_prog_1_method_54_code_0 16 rfl rfl rfl) (zd_b zq_prog_1_method_54_code_0 17 rfl rfl rfl)
theorem d_Ip_cellAt_18 : decode prog_1_method_54_code 18 = .ok (.athrow, 1) := zo_191 (zd_b zq_prog_1_method_54_code_0 18 rfl rfl rfl)
set_option maxHeartbeats 4000000 in
set_option maxRecDepth 100000 in
theorem C_Ip_cellAt (g : zG) (x y : Int32) : CT g M_Ip_cellAt [.int x, .int y] [] (fun o cs1 => (match z_cl x y with | some c => o = .inl (some (.int (nI c))) | none => o = .inr "java/lang/IndexOutOfBoundsException") ∧ cs1 = []) 1 6 := by
  refine z_of (by decide) rfl (Nat.le_of_ble_eq_true rfl) (fun w0 => ?_)
  refine r_lvE (lv2 := [(0, .int x), (1, .int y)]) rfl ?_
  refine r_iload_n d_Ip_cellAt_0 rfl 0 rfl ?_
  refine r_iload_n d_Ip_cellAt_1 rfl 1 rfl ?_
  refine r_callS (As := [.int x, .int y]) (rest := []) (csC := []) (is := []) ln_Ip_96 w_st_Ip_isCell ok_Ip_cellAt_Ip_isCell d_Ip_cellAt_2 (C_Ip_isCell g x y) rfl rfl (Nat.le_of_ble_eq_true rfl) rfl (by decide) (by omega) (by omega) (fun E cs1 hx => ?_) (fun v cs1 hx => ?_)
  · exact absurd hx.1 (by simp)
  · obtain ⟨h1, rfl⟩ := hx
    cases h1
    refine ⟨rfl, ?_⟩
    refine r_st (st2 := [.int (if 0 ≤ x ∧ x < 12 ∧ 0 ≤ y ∧ y < 9 then 1 else 0)]) rfl ?_
    refine r_cs (cs2 := []) rfl ?_
    refine r_if_ne (tgt := 19) d_Ip_cellAt_5 (by decide) (fun c_5 => ?_) (fun c_5 => ?_)
    · have hp := z_b1 c_5
      obtain ⟨a, b, ha, hb, rfl, rfl, hz⟩ := z_cl_in hp
      refine r_iload_n d_Ip_cellAt_19 rfl 1 rfl ?_
      refine r_bipush d_Ip_cellAt_20 (v := 12) (by decide) ?_
      refine r_imul d_Ip_cellAt_22 (v := nI (b * 12)) (pk_mul _ _) ?_
      refine r_iload_n d_Ip_cellAt_23 rfl 0 rfl ?_
      refine r_iadd d_Ip_cellAt_24 (v := nI ((b * 12) + a)) (nI_add _ _) ?_
      refine r_iret d_Ip_cellAt_25 rfl rfl ?_
      exact ⟨by rw [hz]; show _ = Sum.inl (some (Value.int (nI (12 * b + a)))); rw [Nat.mul_comm b 12], rfl⟩
    · have hp := z_b0 c_5
      refine r_throwW tb_Ip_509_513 sr_Ip_511 d_Ip_cellAt_8 d_Ip_cellAt_11 d_Ip_cellAt_12 d_Ip_cellAt_15 d_Ip_cellAt_18 rfl (by decide) (by decide) (Nat.le_of_ble_eq_true rfl) (by omega) (by omega) ?_
      exact ⟨by rw [z_cl_no hp], rfl⟩
abbrev M_Ip_checkHeat : zM := (⟨"Ironpour", "checkHeat", "(I)V"⟩, prog_1_method_55_code, 1, (Option.none : Option FieldType), 6, 100, [])
theorem d_Ip_checkHeat_0 : decode prog_1_method_55_code 0 = .ok (.iload_n 0, 1) := zo_26 (zd_b zq_prog_1_method_55_code_0 0 rfl rfl rfl)
theorem d_Ip_checkHeat_1 : decode prog_1_method_55_code 1 = .ok (.sipush 1200, 3) := zo_17 (d := 4) (e := 176) (zd_b zq_prog_1_method_55_code_0 1 rfl rfl rfl) (zd_b zq_prog_1_method_55_code_0 2 rfl rfl rfl) (zd_b zq_prog_1_method_55_code_0 3 rfl rfl rfl) (by decide +kernel)
theorem d_Ip_checkHeat_4 : decode prog_1_method_55_code 4 = .ok (.sipush 1500, 3) := zo_17 (d := 5) (e := 220) (zd_b zq_prog_1_method_55_code_0 4 rfl rfl rfl) (zd_b zq_prog_1_method_55_code_0 5 rfl rfl rfl) (zd_b zq_prog_1_method_55_code_0 6 rfl rfl rfl) (by decide +kernel)
theorem d_Ip_checkHeat_7 : decode prog_1_method_55_code 7 = .ok (.invokestatic 203, 3) := zo_184 (d := 0) (e := 203) (zd_b zq_prog_1_method_55_code_0 7 rfl rfl rfl) (zd_b zq_prog_1_method_55_code_0 8 rfl rfl rfl) (zd_b zq_prog_1_method_55_code_0 9 rfl rfl rfl)
theorem ok_Ip_checkHeat_Ip_isWithin : z_ok M_Ip_checkHeat M_Ip_isWithin 3 := ⟨z_mj4 (i := 97) rfl (by decide +kernel), rfl, ⟨by decide +kernel, by decide +kernel, by decide +kernel⟩, ⟨by decide, by decide⟩, z_mj1 (i := 1) rfl (by decide +kernel), rfl⟩
theorem ln_Ip_203 : Cond.methodLink "Ironpour" 203 M_Ip_isWithin.1 ∈ z_gw := z_mj4 (i := 95) rfl (by decide +kernel)
theorem w_st_Ip_isWithin : Cond.static M_Ip_isWithin.1 ∈ z_gw := z_mj4 (i := 96) rfl (by decide +kernel)
theorem d_Ip_checkHeat_10 : decode prog_1_method_55_code 10 = .ok (.ifCond .ne 14, 3) := zo_154 (d := 0) (e := 14) (zd_b zq_prog_1_method_55_code_0 10 rfl rfl rfl) (zd_b zq_prog_1_method_55_code_0 11 rfl rfl rfl) (zd_b zq_prog_1_method_55_code_0 12 rfl rfl rfl) (by decide +kernel)
theorem d_Ip_checkHeat_24 : decode prog_1_method_55_code 24 = .ok (.return_, 1) := zo_177 (zd_b zq_prog_1_method_55_code_0 24 rfl rfl rfl)
theorem d_Ip_checkHeat_13 : decode prog_1_method_55_code 13 = .ok (.new 89, 3) := zo_187 (d := 0) (e := 89) (zd_b zq_prog_1_method_55_code_0 13 rfl rfl rfl) (zd_b zq_prog_1_method_55_code_0 14 rfl rfl rfl) (zd_b zq_prog_1_method_55_code_0 15 rfl rfl rfl)
theorem tb_Ip_89_93 : z_tb "Ironpour" 89 93 "java/lang/IllegalArgumentException" := ⟨by decide +kernel, z_mj3 (i := 141) rfl (by decide +kernel), z_mj1 (i := 24) rfl (by decide +kernel), fun w h => ((z_at [(1, 21), (3, 163), (3, 172), (3, 180), (3, 183), (3, 185), (3, 164), (3, 165), (1, 44), (1, 45), (3, 166), (3, 171), (3, 181), (3, 201), (3, 153), (3, 202), (3, 155), (3, 203), (3, 157), (3, 167), (3, 169), (3, 159), (3, 197), (3, 198), (3, 200), (3, 159), (3, 188), (3, 189), (3, 190), (3, 191), (3, 145), (3, 191), (3, 192), (3, 193), (3, 194), (3, 147), (3, 194), (3, 195), (3, 196), (3, 197), (3, 149), (3, 187), (3, 142), (3, 143), (3, 150), (3, 151), (3, 152), (3, 154), (3, 156), (3, 158), (3, 162), (3, 161), (3, 160)] (by decide +kernel) (by decide +kernel) : ∀ w ∈ vx_atS "Ironpour" 93 "java/lang/IllegalArgumentException" ["java/lang/RuntimeException", "java/lang/Exception"], w ∈ lw_tbl ∧ (goodWord w || z_isN w) = true) w h).elim (fun h1 h2 => (Bool.or_eq_true _ _ ▸ h2).elim (fun h3 => Or.inl (List.mem_filter.mpr ⟨h1, h3⟩)) (fun h3 => Or.inr (List.mem_filter.mpr ⟨h1, h3⟩))), by decide +kernel⟩
theorem sr_Ip_514 : Cond.stringRef "Ironpour" 514 "the heat of a pour is 1200 to 1500" ∈ lw_tbl := z_tb4 (i := 98) rfl
theorem d_Ip_checkHeat_16 : decode prog_1_method_55_code 16 = .ok (.dup, 1) := zo_89 (zd_b zq_prog_1_method_55_code_0 16 rfl rfl rfl)
theorem d_Ip_checkHeat_17 : decode prog_1_method_55_code 17 = .ok (.ldc_w 514, 3) := zo_19 (d := 2) (e := 2) (zd_b zq_prog_1_method_55_code_0 17 rfl rfl rfl) (zd_b zq_prog_1_method_55_code_0 18 rfl rfl rfl) (zd_b zq_prog_1_method_55_code_0 19 rfl rfl rfl)
theorem d_Ip_checkHeat_20 : decode prog_1_method_55_code 20 = .ok (.invokespecial 93, 3) := zo_183 (d := 0) (e := 93) (zd_b zq_prog_1_method_55_code_0 20 rfl rfl rfl) (zd_b zq_prog_1_method_55_code_0 21 rfl rfl rfl) (zd_b zq_prog_1_method_55_code_0 22 rfl rfl rfl)
theorem d_Ip_checkHeat_23 : decode prog_1_method_55_code 23 = .ok (.athrow, 1) := zo_191 (zd_b zq_prog_1_method_55_code_0 23 rfl rfl rfl)
set_option maxHeartbeats 4000000 in
set_option maxRecDepth 100000 in
theorem C_Ip_checkHeat (g : zG) (h : Int32) : CT g M_Ip_checkHeat [.int h] [] (fun o cs1 => (if 1200 ≤ h ∧ h ≤ 1500 then o = .inl none else o = .inr "java/lang/IllegalArgumentException") ∧ cs1 = []) 1 6 := by
  refine z_of (by decide) rfl (Nat.le_of_ble_eq_true rfl) (fun w0 => ?_)
  refine r_lvE (lv2 := [(0, .int h)]) rfl ?_
  refine r_iload_n d_Ip_checkHeat_0 rfl 0 rfl ?_
  refine r_sipush d_Ip_checkHeat_1 (v := 1200) (by decide) ?_
  refine r_sipush d_Ip_checkHeat_4 (v := 1500) (by decide) ?_
  refine r_callS (As := [.int h, .int 1200, .int 1500]) (rest := []) (csC := []) (is := []) ln_Ip_203 w_st_Ip_isWithin ok_Ip_checkHeat_Ip_isWithin d_Ip_checkHeat_7 (C_Ip_isWithin g h 1200 1500) rfl rfl (Nat.le_of_ble_eq_true rfl) rfl (by decide) (by omega) (by omega) (fun E cs1 hx => ?_) (fun v cs1 hx => ?_)
  · exact absurd hx.1 (by simp)
  · obtain ⟨h1, rfl⟩ := hx
    cases h1
    refine ⟨rfl, ?_⟩
    refine r_st (st2 := [.int (if 1200 ≤ h ∧ h ≤ 1500 then 1 else 0)]) rfl ?_
    refine r_cs (cs2 := []) rfl ?_
    refine r_if_ne (tgt := 24) d_Ip_checkHeat_10 (by decide) (fun c_10 => ?_) (fun c_10 => ?_)
    · refine r_vret d_Ip_checkHeat_24 rfl ?_
      exact ⟨by rw [if_pos (z_b1 ‹_›)], rfl⟩
    · refine r_throwW tb_Ip_89_93 sr_Ip_514 d_Ip_checkHeat_13 d_Ip_checkHeat_16 d_Ip_checkHeat_17 d_Ip_checkHeat_20 d_Ip_checkHeat_23 rfl (by decide) (by decide) (Nat.le_of_ble_eq_true rfl) (by omega) (by omega) ?_
      exact ⟨by rw [if_neg (z_b0 ‹_›)], rfl⟩
abbrev M_Ip_takesMetal : zM := (⟨"Ironpour", "takesMetal", "(C)Z"⟩, prog_1_method_58_code, 1, (Option.some FieldType.boolean), 1, 20, [])
theorem d_Ip_takesMetal_0 : decode prog_1_method_58_code 0 = .ok (.iload_n 0, 1) := zo_26 (zd_b zq_prog_1_method_58_code_0 0 rfl rfl rfl)
theorem d_Ip_takesMetal_1 : decode prog_1_method_58_code 1 = .ok (.bipush 99, 2) := zo_16 (d := 99) (zd_b zq_prog_1_method_58_code_0 1 rfl rfl rfl) (zd_b zq_prog_1_method_58_code_0 2 rfl rfl rfl) (by decide +kernel)
theorem d_Ip_takesMetal_3 : decode prog_1_method_58_code 3 = .ok (.if_icmp .eq 15, 3) := zo_159 (d := 0) (e := 15) (zd_b zq_prog_1_method_58_code_0 3 rfl rfl rfl) (zd_b zq_prog_1_method_58_code_0 4 rfl rfl rfl) (zd_b zq_prog_1_method_58_code_0 5 rfl rfl rfl) (by decide +kernel)
theorem d_Ip_takesMetal_18 : decode prog_1_method_58_code 18 = .ok (.iconst 1, 1) := zo_4 (zd_b zq_prog_1_method_58_code_0 18 rfl rfl rfl)
theorem d_Ip_takesMetal_19 : decode prog_1_method_58_code 19 = .ok (.goto 4, 3) := zo_167 (d := 0) (e := 4) (zd_b zq_prog_1_method_58_code_0 19 rfl rfl rfl) (zd_b zq_prog_1_method_58_code_0 20 rfl rfl rfl) (zd_b zq_prog_1_method_58_code_0 21 rfl rfl rfl) (by decide +kernel)
theorem d_Ip_takesMetal_23 : decode prog_1_method_58_code 23 = .ok (.ireturn, 1) := zo_172 (zd_b zq_prog_1_method_58_code_0 23 rfl rfl rfl)
theorem d_Ip_takesMetal_6 : decode prog_1_method_58_code 6 = .ok (.iload_n 0, 1) := zo_26 (zd_b zq_prog_1_method_58_code_0 6 rfl rfl rfl)
theorem d_Ip_takesMetal_7 : decode prog_1_method_58_code 7 = .ok (.bipush 114, 2) := zo_16 (d := 114) (zd_b zq_prog_1_method_58_code_0 7 rfl rfl rfl) (zd_b zq_prog_1_method_58_code_0 8 rfl rfl rfl) (by decide +kernel)
theorem d_Ip_takesMetal_9 : decode prog_1_method_58_code 9 = .ok (.if_icmp .eq 9, 3) := zo_159 (d := 0) (e := 9) (zd_b zq_prog_1_method_58_code_0 9 rfl rfl rfl) (zd_b zq_prog_1_method_58_code_0 10 rfl rfl rfl) (zd_b zq_prog_1_method_58_code_0 11 rfl rfl rfl) (by decide +kernel)
theorem d_Ip_takesMetal_12 : decode prog_1_method_58_code 12 = .ok (.iload_n 0, 1) := zo_26 (zd_b zq_prog_1_method_58_code_0 12 rfl rfl rfl)
theorem d_Ip_takesMetal_13 : decode prog_1_method_58_code 13 = .ok (.bipush 103, 2) := zo_16 (d := 103) (zd_b zq_prog_1_method_58_code_0 13 rfl rfl rfl) (zd_b zq_prog_1_method_58_code_0 14 rfl rfl rfl) (by decide +kernel)
theorem d_Ip_takesMetal_15 : decode prog_1_method_58_code 15 = .ok (.if_icmp .ne 7, 3) := zo_160 (d := 0) (e := 7) (zd_b zq_prog_1_method_58_code_0 15 rfl rfl rfl) (zd_b zq_prog_1_method_58_code_0 16 rfl rfl rfl) (zd_b zq_prog_1_method_58_code_0 17 rfl rfl rfl) (by decide +kernel)
theorem d_Ip_takesMetal_22 : decode prog_1_method_58_code 22 = .ok (.iconst 0, 1) := zo_3 (zd_b zq_prog_1_method_58_code_0 22 rfl rfl rfl)
set_option maxHeartbeats 4000000 in
set_option maxRecDepth 100000 in
theorem C_Ip_takesMetal (g : zG) (k : Int32) : CT g M_Ip_takesMetal [.int k] [] (fun o cs1 => o = .inl (some (.int (z_bi (tmB k)))) ∧ cs1 = []) 0 0 := by
  refine z_of (by decide) rfl (Nat.le_of_ble_eq_true rfl) (fun w0 => ?_)
  refine r_lvE (lv2 := [(0, .int k)]) rfl ?_
  refine r_iload_n d_Ip_takesMetal_0 rfl 0 rfl ?_
  refine r_bipush d_Ip_takesMetal_1 (v := 99) (by decide) ?_
  refine r_icmp_eq (tgt := 18) d_Ip_takesMetal_3 (by decide) (fun c_3 => ?_) (fun c_3 => ?_)
  · refine r_iconst d_Ip_takesMetal_18 (v := 1) (by decide) ?_
    refine r_goto (tgt := 23) d_Ip_takesMetal_19 (by decide) ?_
    refine r_iret d_Ip_takesMetal_23 rfl rfl ?_
    refine ⟨?_, rfl⟩
    simp_all [z_bi, tmB]
  · refine r_iload_n d_Ip_takesMetal_6 rfl 0 rfl ?_
    refine r_bipush d_Ip_takesMetal_7 (v := 114) (by decide) ?_
    refine r_icmp_eq (tgt := 18) d_Ip_takesMetal_9 (by decide) (fun c_9 => ?_) (fun c_9 => ?_)
    · refine r_iconst d_Ip_takesMetal_18 (v := 1) (by decide) ?_
      refine r_goto (tgt := 23) d_Ip_takesMetal_19 (by decide) ?_
      refine r_iret d_Ip_takesMetal_23 rfl rfl ?_
      refine ⟨?_, rfl⟩
      simp_all [z_bi, tmB]
    · refine r_iload_n d_Ip_takesMetal_12 rfl 0 rfl ?_
      refine r_bipush d_Ip_takesMetal_13 (v := 103) (by decide) ?_
      refine r_icmp_ne (tgt := 22) d_Ip_takesMetal_15 (by decide) (fun c_15 => ?_) (fun c_15 => ?_)
      · refine r_iconst d_Ip_takesMetal_22 (v := 0) (by decide) ?_
        refine r_iret d_Ip_takesMetal_23 rfl rfl ?_
        refine ⟨?_, rfl⟩
        simp_all [z_bi, tmB]
      · refine r_iconst d_Ip_takesMetal_18 (v := 1) (by decide) ?_
        refine r_goto (tgt := 23) d_Ip_takesMetal_19 (by decide) ?_
        refine r_iret d_Ip_takesMetal_23 rfl rfl ?_
        refine ⟨?_, rfl⟩
        simp_all [z_bi, tmB]
abbrev M_Mm_isMetal : zM := (⟨"IronpourModel", "isMetal", "(C)Z"⟩, prog_14_method_7_code, 1, (Option.some FieldType.boolean), 1, 20, [])
theorem d_Mm_isMetal_0 : decode prog_14_method_7_code 0 = .ok (.iload_n 0, 1) := zo_26 (zd_b zq_prog_14_method_7_code_0 0 rfl rfl rfl)
theorem d_Mm_isMetal_1 : decode prog_14_method_7_code 1 = .ok (.bipush 99, 2) := zo_16 (d := 99) (zd_b zq_prog_14_method_7_code_0 1 rfl rfl rfl) (zd_b zq_prog_14_method_7_code_0 2 rfl rfl rfl) (by decide +kernel)
theorem d_Mm_isMetal_3 : decode prog_14_method_7_code 3 = .ok (.if_icmp .eq 15, 3) := zo_159 (d := 0) (e := 15) (zd_b zq_prog_14_method_7_code_0 3 rfl rfl rfl) (zd_b zq_prog_14_method_7_code_0 4 rfl rfl rfl) (zd_b zq_prog_14_method_7_code_0 5 rfl rfl rfl) (by decide +kernel)
theorem d_Mm_isMetal_18 : decode prog_14_method_7_code 18 = .ok (.iconst 1, 1) := zo_4 (zd_b zq_prog_14_method_7_code_0 18 rfl rfl rfl)
theorem d_Mm_isMetal_19 : decode prog_14_method_7_code 19 = .ok (.goto 4, 3) := zo_167 (d := 0) (e := 4) (zd_b zq_prog_14_method_7_code_0 19 rfl rfl rfl) (zd_b zq_prog_14_method_7_code_0 20 rfl rfl rfl) (zd_b zq_prog_14_method_7_code_0 21 rfl rfl rfl) (by decide +kernel)
theorem d_Mm_isMetal_23 : decode prog_14_method_7_code 23 = .ok (.ireturn, 1) := zo_172 (zd_b zq_prog_14_method_7_code_0 23 rfl rfl rfl)
theorem d_Mm_isMetal_6 : decode prog_14_method_7_code 6 = .ok (.iload_n 0, 1) := zo_26 (zd_b zq_prog_14_method_7_code_0 6 rfl rfl rfl)
theorem d_Mm_isMetal_7 : decode prog_14_method_7_code 7 = .ok (.bipush 114, 2) := zo_16 (d := 114) (zd_b zq_prog_14_method_7_code_0 7 rfl rfl rfl) (zd_b zq_prog_14_method_7_code_0 8 rfl rfl rfl) (by decide +kernel)
theorem d_Mm_isMetal_9 : decode prog_14_method_7_code 9 = .ok (.if_icmp .eq 9, 3) := zo_159 (d := 0) (e := 9) (zd_b zq_prog_14_method_7_code_0 9 rfl rfl rfl) (zd_b zq_prog_14_method_7_code_0 10 rfl rfl rfl) (zd_b zq_prog_14_method_7_code_0 11 rfl rfl rfl) (by decide +kernel)
theorem d_Mm_isMetal_12 : decode prog_14_method_7_code 12 = .ok (.iload_n 0, 1) := zo_26 (zd_b zq_prog_14_method_7_code_0 12 rfl rfl rfl)
theorem d_Mm_isMetal_13 : decode prog_14_method_7_code 13 = .ok (.bipush 103, 2) := zo_16 (d := 103) (zd_b zq_prog_14_method_7_code_0 13 rfl rfl rfl) (zd_b zq_prog_14_method_7_code_0 14 rfl rfl rfl) (by decide +kernel)
theorem d_Mm_isMetal_15 : decode prog_14_method_7_code 15 = .ok (.if_icmp .ne 7, 3) := zo_160 (d := 0) (e := 7) (zd_b zq_prog_14_method_7_code_0 15 rfl rfl rfl) (zd_b zq_prog_14_method_7_code_0 16 rfl rfl rfl) (zd_b zq_prog_14_method_7_code_0 17 rfl rfl rfl) (by decide +kernel)
theorem d_Mm_isMetal_22 : decode prog_14_method_7_code 22 = .ok (.iconst 0, 1) := zo_3 (zd_b zq_prog_14_method_7_code_0 22 rfl rfl rfl)
set_option maxHeartbeats 4000000 in
set_option maxRecDepth 100000 in
theorem C_Mm_isMetal (g : zG) (k : Int32) : CT g M_Mm_isMetal [.int k] [] (fun o cs1 => o = .inl (some (.int (z_bi (tmB k)))) ∧ cs1 = []) 0 0 := by
  refine z_of (by decide) rfl (Nat.le_of_ble_eq_true rfl) (fun w0 => ?_)
  refine r_lvE (lv2 := [(0, .int k)]) rfl ?_
  refine r_iload_n d_Mm_isMetal_0 rfl 0 rfl ?_
  refine r_bipush d_Mm_isMetal_1 (v := 99) (by decide) ?_
  refine r_icmp_eq (tgt := 18) d_Mm_isMetal_3 (by decide) (fun c_3 => ?_) (fun c_3 => ?_)
  · refine r_iconst d_Mm_isMetal_18 (v := 1) (by decide) ?_
    refine r_goto (tgt := 23) d_Mm_isMetal_19 (by decide) ?_
    refine r_iret d_Mm_isMetal_23 rfl rfl ?_
    refine ⟨?_, rfl⟩
    simp_all [z_bi, tmB]
  · refine r_iload_n d_Mm_isMetal_6 rfl 0 rfl ?_
    refine r_bipush d_Mm_isMetal_7 (v := 114) (by decide) ?_
    refine r_icmp_eq (tgt := 18) d_Mm_isMetal_9 (by decide) (fun c_9 => ?_) (fun c_9 => ?_)
    · refine r_iconst d_Mm_isMetal_18 (v := 1) (by decide) ?_
      refine r_goto (tgt := 23) d_Mm_isMetal_19 (by decide) ?_
      refine r_iret d_Mm_isMetal_23 rfl rfl ?_
      refine ⟨?_, rfl⟩
      simp_all [z_bi, tmB]
    · refine r_iload_n d_Mm_isMetal_12 rfl 0 rfl ?_
      refine r_bipush d_Mm_isMetal_13 (v := 103) (by decide) ?_
      refine r_icmp_ne (tgt := 22) d_Mm_isMetal_15 (by decide) (fun c_15 => ?_) (fun c_15 => ?_)
      · refine r_iconst d_Mm_isMetal_22 (v := 0) (by decide) ?_
        refine r_iret d_Mm_isMetal_23 rfl rfl ?_
        refine ⟨?_, rfl⟩
        simp_all [z_bi, tmB]
      · refine r_iconst d_Mm_isMetal_18 (v := 1) (by decide) ?_
        refine r_goto (tgt := 23) d_Mm_isMetal_19 (by decide) ?_
        refine r_iret d_Mm_isMetal_23 rfl rfl ?_
        refine ⟨?_, rfl⟩
        simp_all [z_bi, tmB]
abbrev M_Ip_kilogramsFor : zM := (⟨"Ironpour", "kilogramsFor", "(I)I"⟩, prog_1_method_59_code, 1, (Option.some FieldType.int), 1, 20, [])
theorem d_Ip_kilogramsFor_0 : decode prog_1_method_59_code 0 = .ok (.iconst 2, 1) := zo_5 (zd_b zq_prog_1_method_59_code_0 0 rfl rfl rfl)
theorem d_Ip_kilogramsFor_1 : decode prog_1_method_59_code 1 = .ok (.iload_n 0, 1) := zo_26 (zd_b zq_prog_1_method_59_code_0 1 rfl rfl rfl)
theorem d_Ip_kilogramsFor_2 : decode prog_1_method_59_code 2 = .ok (.imul, 1) := zo_104 (zd_b zq_prog_1_method_59_code_0 2 rfl rfl rfl)
theorem d_Ip_kilogramsFor_3 : decode prog_1_method_59_code 3 = .ok (.ireturn, 1) := zo_172 (zd_b zq_prog_1_method_59_code_0 3 rfl rfl rfl)
set_option maxHeartbeats 4000000 in
set_option maxRecDepth 100000 in
theorem C_Ip_kilogramsFor (g : zG) (k : Int32) : CT g M_Ip_kilogramsFor [.int k] [] (fun o cs1 => o = .inl (some (.int (2 * k))) ∧ cs1 = []) 0 0 := by
  refine z_of (by decide) rfl (Nat.le_of_ble_eq_true rfl) (fun w0 => ?_)
  refine r_lvE (lv2 := [(0, .int k)]) rfl ?_
  refine r_iconst d_Ip_kilogramsFor_0 (v := 2) (by decide) ?_
  refine r_iload_n d_Ip_kilogramsFor_1 rfl 0 rfl ?_
  refine r_imul d_Ip_kilogramsFor_2 (v := 2 * k) rfl ?_
  refine r_iret d_Ip_kilogramsFor_3 rfl rfl ?_
  exact ⟨rfl, rfl⟩
abbrev M_Ip_beside : zM := (⟨"Ironpour", "beside", "(II)I"⟩, prog_1_method_56_code, 2, (Option.some FieldType.int), 1, 20, [])
theorem d_Ip_beside_0 : decode prog_1_method_56_code 0 = .ok (.iload_n 1, 1) := zo_27 (zd_b zq_prog_1_method_56_code_0 0 rfl rfl rfl)
theorem d_Ip_beside_1 : decode prog_1_method_56_code 1 = .ok (.tableswitch 74 0 2 #[27, 42, 57], 27) := by decide +kernel
theorem d_Ip_beside_28 : decode prog_1_method_56_code 28 = .ok (.iload_n 0, 1) := zo_26 (zd_b zq_prog_1_method_56_code_0 28 rfl rfl rfl)
theorem d_Ip_beside_29 : decode prog_1_method_56_code 29 = .ok (.bipush 12, 2) := zo_16 (d := 12) (zd_b zq_prog_1_method_56_code_0 29 rfl rfl rfl) (zd_b zq_prog_1_method_56_code_0 30 rfl rfl rfl) (by decide +kernel)
theorem d_Ip_beside_31 : decode prog_1_method_56_code 31 = .ok (.if_icmp .lt 10, 3) := zo_161 (d := 0) (e := 10) (zd_b zq_prog_1_method_56_code_0 31 rfl rfl rfl) (zd_b zq_prog_1_method_56_code_1 0 rfl rfl rfl) (zd_b zq_prog_1_method_56_code_1 1 rfl rfl rfl) (by decide +kernel)
theorem d_Ip_beside_41 : decode prog_1_method_56_code 41 = .ok (.iconst (-1), 1) := zo_2 (zd_b zq_prog_1_method_56_code_1 9 rfl rfl rfl)
theorem d_Ip_beside_42 : decode prog_1_method_56_code 42 = .ok (.ireturn, 1) := zo_172 (zd_b zq_prog_1_method_56_code_1 10 rfl rfl rfl)
theorem d_Ip_beside_34 : decode prog_1_method_56_code 34 = .ok (.iload_n 0, 1) := zo_26 (zd_b zq_prog_1_method_56_code_1 2 rfl rfl rfl)
theorem d_Ip_beside_35 : decode prog_1_method_56_code 35 = .ok (.bipush 12, 2) := zo_16 (d := 12) (zd_b zq_prog_1_method_56_code_1 3 rfl rfl rfl) (zd_b zq_prog_1_method_56_code_1 4 rfl rfl rfl) (by decide +kernel)
theorem d_Ip_beside_37 : decode prog_1_method_56_code 37 = .ok (.isub, 1) := zo_100 (zd_b zq_prog_1_method_56_code_1 5 rfl rfl rfl)
theorem d_Ip_beside_38 : decode prog_1_method_56_code 38 = .ok (.goto 4, 3) := zo_167 (d := 0) (e := 4) (zd_b zq_prog_1_method_56_code_1 6 rfl rfl rfl) (zd_b zq_prog_1_method_56_code_1 7 rfl rfl rfl) (zd_b zq_prog_1_method_56_code_1 8 rfl rfl rfl) (by decide +kernel)
theorem d_Ip_beside_43 : decode prog_1_method_56_code 43 = .ok (.iload_n 0, 1) := zo_26 (zd_b zq_prog_1_method_56_code_1 11 rfl rfl rfl)
theorem d_Ip_beside_44 : decode prog_1_method_56_code 44 = .ok (.bipush 12, 2) := zo_16 (d := 12) (zd_b zq_prog_1_method_56_code_1 12 rfl rfl rfl) (zd_b zq_prog_1_method_56_code_1 13 rfl rfl rfl) (by decide +kernel)
theorem d_Ip_beside_46 : decode prog_1_method_56_code 46 = .ok (.irem, 1) := zo_112 (zd_b zq_prog_1_method_56_code_1 14 rfl rfl rfl)
theorem d_Ip_beside_47 : decode prog_1_method_56_code 47 = .ok (.ifCond .le 9, 3) := zo_158 (d := 0) (e := 9) (zd_b zq_prog_1_method_56_code_1 15 rfl rfl rfl) (zd_b zq_prog_1_method_56_code_1 16 rfl rfl rfl) (zd_b zq_prog_1_method_56_code_1 17 rfl rfl rfl) (by decide +kernel)
theorem d_Ip_beside_56 : decode prog_1_method_56_code 56 = .ok (.iconst (-1), 1) := zo_2 (zd_b zq_prog_1_method_56_code_1 24 rfl rfl rfl)
theorem d_Ip_beside_57 : decode prog_1_method_56_code 57 = .ok (.ireturn, 1) := zo_172 (zd_b zq_prog_1_method_56_code_1 25 rfl rfl rfl)
theorem d_Ip_beside_50 : decode prog_1_method_56_code 50 = .ok (.iload_n 0, 1) := zo_26 (zd_b zq_prog_1_method_56_code_1 18 rfl rfl rfl)
theorem d_Ip_beside_51 : decode prog_1_method_56_code 51 = .ok (.iconst 1, 1) := zo_4 (zd_b zq_prog_1_method_56_code_1 19 rfl rfl rfl)
theorem d_Ip_beside_52 : decode prog_1_method_56_code 52 = .ok (.isub, 1) := zo_100 (zd_b zq_prog_1_method_56_code_1 20 rfl rfl rfl)
theorem d_Ip_beside_53 : decode prog_1_method_56_code 53 = .ok (.goto 4, 3) := zo_167 (d := 0) (e := 4) (zd_b zq_prog_1_method_56_code_1 21 rfl rfl rfl) (zd_b zq_prog_1_method_56_code_1 22 rfl rfl rfl) (zd_b zq_prog_1_method_56_code_1 23 rfl rfl rfl) (by decide +kernel)
theorem d_Ip_beside_58 : decode prog_1_method_56_code 58 = .ok (.iload_n 0, 1) := zo_26 (zd_b zq_prog_1_method_56_code_1 26 rfl rfl rfl)
theorem d_Ip_beside_59 : decode prog_1_method_56_code 59 = .ok (.bipush 12, 2) := zo_16 (d := 12) (zd_b zq_prog_1_method_56_code_1 27 rfl rfl rfl) (zd_b zq_prog_1_method_56_code_1 28 rfl rfl rfl) (by decide +kernel)
theorem d_Ip_beside_61 : decode prog_1_method_56_code 61 = .ok (.irem, 1) := zo_112 (zd_b zq_prog_1_method_56_code_1 29 rfl rfl rfl)
theorem d_Ip_beside_62 : decode prog_1_method_56_code 62 = .ok (.bipush 11, 2) := zo_16 (d := 11) (zd_b zq_prog_1_method_56_code_1 30 rfl rfl rfl) (zd_b zq_prog_1_method_56_code_1 31 rfl rfl rfl) (by decide +kernel)
theorem d_Ip_beside_64 : decode prog_1_method_56_code 64 = .ok (.if_icmp .ge 9, 3) := zo_162 (d := 0) (e := 9) (zd_b zq_prog_1_method_56_code_2 0 rfl rfl rfl) (zd_b zq_prog_1_method_56_code_2 1 rfl rfl rfl) (zd_b zq_prog_1_method_56_code_2 2 rfl rfl rfl) (by decide +kernel)
theorem d_Ip_beside_73 : decode prog_1_method_56_code 73 = .ok (.iconst (-1), 1) := zo_2 (zd_b zq_prog_1_method_56_code_2 9 rfl rfl rfl)
theorem d_Ip_beside_74 : decode prog_1_method_56_code 74 = .ok (.ireturn, 1) := zo_172 (zd_b zq_prog_1_method_56_code_2 10 rfl rfl rfl)
theorem d_Ip_beside_67 : decode prog_1_method_56_code 67 = .ok (.iload_n 0, 1) := zo_26 (zd_b zq_prog_1_method_56_code_2 3 rfl rfl rfl)
theorem d_Ip_beside_68 : decode prog_1_method_56_code 68 = .ok (.iconst 1, 1) := zo_4 (zd_b zq_prog_1_method_56_code_2 4 rfl rfl rfl)
theorem d_Ip_beside_69 : decode prog_1_method_56_code 69 = .ok (.iadd, 1) := zo_96 (zd_b zq_prog_1_method_56_code_2 5 rfl rfl rfl)
theorem d_Ip_beside_70 : decode prog_1_method_56_code 70 = .ok (.goto 4, 3) := zo_167 (d := 0) (e := 4) (zd_b zq_prog_1_method_56_code_2 6 rfl rfl rfl) (zd_b zq_prog_1_method_56_code_2 7 rfl rfl rfl) (zd_b zq_prog_1_method_56_code_2 8 rfl rfl rfl) (by decide +kernel)
theorem d_Ip_beside_75 : decode prog_1_method_56_code 75 = .ok (.iload_n 0, 1) := zo_26 (zd_b zq_prog_1_method_56_code_2 11 rfl rfl rfl)
theorem d_Ip_beside_76 : decode prog_1_method_56_code 76 = .ok (.bipush 96, 2) := zo_16 (d := 96) (zd_b zq_prog_1_method_56_code_2 12 rfl rfl rfl) (zd_b zq_prog_1_method_56_code_2 13 rfl rfl rfl) (by decide +kernel)
theorem d_Ip_beside_78 : decode prog_1_method_56_code 78 = .ok (.if_icmp .ge 10, 3) := zo_162 (d := 0) (e := 10) (zd_b zq_prog_1_method_56_code_2 14 rfl rfl rfl) (zd_b zq_prog_1_method_56_code_2 15 rfl rfl rfl) (zd_b zq_prog_1_method_56_code_2 16 rfl rfl rfl) (by decide +kernel)
theorem d_Ip_beside_88 : decode prog_1_method_56_code 88 = .ok (.iconst (-1), 1) := zo_2 (zd_b zq_prog_1_method_56_code_2 24 rfl rfl rfl)
theorem d_Ip_beside_89 : decode prog_1_method_56_code 89 = .ok (.ireturn, 1) := zo_172 (zd_b zq_prog_1_method_56_code_2 25 rfl rfl rfl)
theorem d_Ip_beside_81 : decode prog_1_method_56_code 81 = .ok (.iload_n 0, 1) := zo_26 (zd_b zq_prog_1_method_56_code_2 17 rfl rfl rfl)
theorem d_Ip_beside_82 : decode prog_1_method_56_code 82 = .ok (.bipush 12, 2) := zo_16 (d := 12) (zd_b zq_prog_1_method_56_code_2 18 rfl rfl rfl) (zd_b zq_prog_1_method_56_code_2 19 rfl rfl rfl) (by decide +kernel)
theorem d_Ip_beside_84 : decode prog_1_method_56_code 84 = .ok (.iadd, 1) := zo_96 (zd_b zq_prog_1_method_56_code_2 20 rfl rfl rfl)
theorem d_Ip_beside_85 : decode prog_1_method_56_code 85 = .ok (.goto 4, 3) := zo_167 (d := 0) (e := 4) (zd_b zq_prog_1_method_56_code_2 21 rfl rfl rfl) (zd_b zq_prog_1_method_56_code_2 22 rfl rfl rfl) (zd_b zq_prog_1_method_56_code_2 23 rfl rfl rfl) (by decide +kernel)
set_option maxHeartbeats 4000000 in
set_option maxRecDepth 100000 in
theorem C_Ip_beside (g : zG) (c s : Nat) (hc : c < 108) (hs : s < 4) : CT g M_Ip_beside [.int (nI c), .int (nI s)] [] (fun o cs1 => o = .inl (some (.int (oI (bs c s)))) ∧ cs1 = []) 0 0 := by
  refine z_of (by decide) rfl (Nat.le_of_ble_eq_true rfl) (fun w0 => ?_)
  refine r_lvE (lv2 := [(0, .int (nI c)), (1, .int (nI s))]) rfl ?_
  refine r_iload_n d_Ip_beside_0 rfl 1 rfl ?_
  rcases (show s = 0 ∨ s = 1 ∨ s = 2 ∨ s = 3 by omega) with rfl | rfl | rfl | rfl
  · refine r_tableIn (off := 27) (tgt := 28) d_Ip_beside_1 (by decide) (by decide) (by decide) (by decide) ?_
    refine r_iload_n d_Ip_beside_28 rfl 0 rfl ?_
    refine r_bipush d_Ip_beside_29 (v := 12) (by decide) ?_
    refine r_icmp_lt (tgt := 41) d_Ip_beside_31 (by decide) (fun c_31 => ?_) (fun c_31 => ?_)
    · have q := z_lt (b := 12) (by decide) (by omega) c_31
      refine r_iconst d_Ip_beside_41 (v := (-1)) (by decide) ?_
      refine r_iret d_Ip_beside_42 rfl rfl ?_
      refine ⟨?_, rfl⟩
      simp only [bs, oI]
      first | rw [if_pos (by decide), if_pos (by omega)] | rw [if_pos (by decide), if_neg (by omega)] | rw [if_neg (by decide), if_pos (by decide), if_pos (by omega)] | rw [if_neg (by decide), if_pos (by decide), if_neg (by omega)] | rw [if_neg (by decide), if_neg (by decide), if_pos (by decide), if_pos (by omega)] | rw [if_neg (by decide), if_neg (by decide), if_pos (by decide), if_neg (by omega)] | rw [if_neg (by decide), if_neg (by decide), if_neg (by decide), if_pos (by omega)] | rw [if_neg (by decide), if_neg (by decide), if_neg (by decide), if_neg (by omega)]
    · have q := z_nlt (b := 12) (by decide) (by omega) c_31
      refine r_iload_n d_Ip_beside_34 rfl 0 rfl ?_
      refine r_bipush d_Ip_beside_35 (v := 12) (by decide) ?_
      refine r_isub d_Ip_beside_37 (v := nI (c - 12)) (pk_sub (b := 12) q) ?_
      refine r_goto (tgt := 42) d_Ip_beside_38 (by decide) ?_
      refine r_iret d_Ip_beside_42 rfl rfl ?_
      refine ⟨?_, rfl⟩
      simp only [bs, oI]
      first | rw [if_pos (by decide), if_pos (by omega)] | rw [if_pos (by decide), if_neg (by omega)] | rw [if_neg (by decide), if_pos (by decide), if_pos (by omega)] | rw [if_neg (by decide), if_pos (by decide), if_neg (by omega)] | rw [if_neg (by decide), if_neg (by decide), if_pos (by decide), if_pos (by omega)] | rw [if_neg (by decide), if_neg (by decide), if_pos (by decide), if_neg (by omega)] | rw [if_neg (by decide), if_neg (by decide), if_neg (by decide), if_pos (by omega)] | rw [if_neg (by decide), if_neg (by decide), if_neg (by decide), if_neg (by omega)]
  · refine r_tableIn (off := 42) (tgt := 43) d_Ip_beside_1 (by decide) (by decide) (by decide) (by decide) ?_
    refine r_iload_n d_Ip_beside_43 rfl 0 rfl ?_
    refine r_bipush d_Ip_beside_44 (v := 12) (by decide) ?_
    refine r_irem d_Ip_beside_46 (v := nI (c % 12)) (by decide) (nI_mod12 (by omega)) ?_
    refine r_if_le (tgt := 56) d_Ip_beside_47 (by decide) (fun c_47 => ?_) (fun c_47 => ?_)
    · have q := z_le (b := 0) (by decide) (by omega) c_47
      refine r_iconst d_Ip_beside_56 (v := (-1)) (by decide) ?_
      refine r_iret d_Ip_beside_57 rfl rfl ?_
      refine ⟨?_, rfl⟩
      simp only [bs, oI]
      first | rw [if_pos (by decide), if_pos (by omega)] | rw [if_pos (by decide), if_neg (by omega)] | rw [if_neg (by decide), if_pos (by decide), if_pos (by omega)] | rw [if_neg (by decide), if_pos (by decide), if_neg (by omega)] | rw [if_neg (by decide), if_neg (by decide), if_pos (by decide), if_pos (by omega)] | rw [if_neg (by decide), if_neg (by decide), if_pos (by decide), if_neg (by omega)] | rw [if_neg (by decide), if_neg (by decide), if_neg (by decide), if_pos (by omega)] | rw [if_neg (by decide), if_neg (by decide), if_neg (by decide), if_neg (by omega)]
    · have q := z_nle (b := 0) (by decide) (by omega) c_47
      refine r_iload_n d_Ip_beside_50 rfl 0 rfl ?_
      refine r_iconst d_Ip_beside_51 (v := 1) (by decide) ?_
      refine r_isub d_Ip_beside_52 (v := nI (c - 1)) (pk_sub (b := 1) (by omega)) ?_
      refine r_goto (tgt := 57) d_Ip_beside_53 (by decide) ?_
      refine r_iret d_Ip_beside_57 rfl rfl ?_
      refine ⟨?_, rfl⟩
      simp only [bs, oI]
      first | rw [if_pos (by decide), if_pos (by omega)] | rw [if_pos (by decide), if_neg (by omega)] | rw [if_neg (by decide), if_pos (by decide), if_pos (by omega)] | rw [if_neg (by decide), if_pos (by decide), if_neg (by omega)] | rw [if_neg (by decide), if_neg (by decide), if_pos (by decide), if_pos (by omega)] | rw [if_neg (by decide), if_neg (by decide), if_pos (by decide), if_neg (by omega)] | rw [if_neg (by decide), if_neg (by decide), if_neg (by decide), if_pos (by omega)] | rw [if_neg (by decide), if_neg (by decide), if_neg (by decide), if_neg (by omega)]
  · refine r_tableIn (off := 57) (tgt := 58) d_Ip_beside_1 (by decide) (by decide) (by decide) (by decide) ?_
    refine r_iload_n d_Ip_beside_58 rfl 0 rfl ?_
    refine r_bipush d_Ip_beside_59 (v := 12) (by decide) ?_
    refine r_irem d_Ip_beside_61 (v := nI (c % 12)) (by decide) (nI_mod12 (by omega)) ?_
    refine r_bipush d_Ip_beside_62 (v := 11) (by decide) ?_
    refine r_icmp_ge (tgt := 73) d_Ip_beside_64 (by decide) (fun c_64 => ?_) (fun c_64 => ?_)
    · have q := z_le (a := 11) (by omega) (by decide) c_64
      refine r_iconst d_Ip_beside_73 (v := (-1)) (by decide) ?_
      refine r_iret d_Ip_beside_74 rfl rfl ?_
      refine ⟨?_, rfl⟩
      simp only [bs, oI]
      first | rw [if_pos (by decide), if_pos (by omega)] | rw [if_pos (by decide), if_neg (by omega)] | rw [if_neg (by decide), if_pos (by decide), if_pos (by omega)] | rw [if_neg (by decide), if_pos (by decide), if_neg (by omega)] | rw [if_neg (by decide), if_neg (by decide), if_pos (by decide), if_pos (by omega)] | rw [if_neg (by decide), if_neg (by decide), if_pos (by decide), if_neg (by omega)] | rw [if_neg (by decide), if_neg (by decide), if_neg (by decide), if_pos (by omega)] | rw [if_neg (by decide), if_neg (by decide), if_neg (by decide), if_neg (by omega)]
    · have q := z_nle (a := 11) (by omega) (by decide) c_64
      refine r_iload_n d_Ip_beside_67 rfl 0 rfl ?_
      refine r_iconst d_Ip_beside_68 (v := 1) (by decide) ?_
      refine r_iadd d_Ip_beside_69 (v := nI (c + 1)) (nI_add _ _) ?_
      refine r_goto (tgt := 74) d_Ip_beside_70 (by decide) ?_
      refine r_iret d_Ip_beside_74 rfl rfl ?_
      refine ⟨?_, rfl⟩
      simp only [bs, oI]
      first | rw [if_pos (by decide), if_pos (by omega)] | rw [if_pos (by decide), if_neg (by omega)] | rw [if_neg (by decide), if_pos (by decide), if_pos (by omega)] | rw [if_neg (by decide), if_pos (by decide), if_neg (by omega)] | rw [if_neg (by decide), if_neg (by decide), if_pos (by decide), if_pos (by omega)] | rw [if_neg (by decide), if_neg (by decide), if_pos (by decide), if_neg (by omega)] | rw [if_neg (by decide), if_neg (by decide), if_neg (by decide), if_pos (by omega)] | rw [if_neg (by decide), if_neg (by decide), if_neg (by decide), if_neg (by omega)]
  · refine r_tableOut (tgt := 75) d_Ip_beside_1 (by first | decide | omega) (by decide) ?_
    refine r_iload_n d_Ip_beside_75 rfl 0 rfl ?_
    refine r_bipush d_Ip_beside_76 (v := 96) (by decide) ?_
    refine r_icmp_ge (tgt := 88) d_Ip_beside_78 (by decide) (fun c_78 => ?_) (fun c_78 => ?_)
    · have q := z_le (a := 96) (by omega) (by decide) c_78
      refine r_iconst d_Ip_beside_88 (v := (-1)) (by decide) ?_
      refine r_iret d_Ip_beside_89 rfl rfl ?_
      refine ⟨?_, rfl⟩
      simp only [bs, oI]
      first | rw [if_pos (by decide), if_pos (by omega)] | rw [if_pos (by decide), if_neg (by omega)] | rw [if_neg (by decide), if_pos (by decide), if_pos (by omega)] | rw [if_neg (by decide), if_pos (by decide), if_neg (by omega)] | rw [if_neg (by decide), if_neg (by decide), if_pos (by decide), if_pos (by omega)] | rw [if_neg (by decide), if_neg (by decide), if_pos (by decide), if_neg (by omega)] | rw [if_neg (by decide), if_neg (by decide), if_neg (by decide), if_pos (by omega)] | rw [if_neg (by decide), if_neg (by decide), if_neg (by decide), if_neg (by omega)]
    · have q := z_nle (a := 96) (by omega) (by decide) c_78
      refine r_iload_n d_Ip_beside_81 rfl 0 rfl ?_
      refine r_bipush d_Ip_beside_82 (v := 12) (by decide) ?_
      refine r_iadd d_Ip_beside_84 (v := nI (c + 12)) (nI_add _ _) ?_
      refine r_goto (tgt := 89) d_Ip_beside_85 (by decide) ?_
      refine r_iret d_Ip_beside_89 rfl rfl ?_
      refine ⟨?_, rfl⟩
      simp only [bs, oI]
      first | rw [if_pos (by decide), if_pos (by omega)] | rw [if_pos (by decide), if_neg (by omega)] | rw [if_neg (by decide), if_pos (by decide), if_pos (by omega)] | rw [if_neg (by decide), if_pos (by decide), if_neg (by omega)] | rw [if_neg (by decide), if_neg (by decide), if_pos (by decide), if_pos (by omega)] | rw [if_neg (by decide), if_neg (by decide), if_pos (by decide), if_neg (by omega)] | rw [if_neg (by decide), if_neg (by decide), if_neg (by decide), if_pos (by omega)] | rw [if_neg (by decide), if_neg (by decide), if_neg (by decide), if_neg (by omega)]
abbrev M_Pa_metalCells : zM := (⟨"Ironpour$Pattern", "metalCells", "()I"⟩, prog_10_method_3_code, 3, (Option.some FieldType.int), 2, 40, [])
theorem d_Pa_metalCells_4 : decode prog_10_method_3_code 4 = .ok (.iload_n 2, 1) := zo_28 (zd_b zq_prog_10_method_3_code_0 4 rfl rfl rfl)
theorem d_Pa_metalCells_5 : decode prog_10_method_3_code 5 = .ok (.bipush 108, 2) := zo_16 (d := 108) (zd_b zq_prog_10_method_3_code_0 5 rfl rfl rfl) (zd_b zq_prog_10_method_3_code_0 6 rfl rfl rfl) (by decide +kernel)
theorem d_Pa_metalCells_7 : decode prog_10_method_3_code 7 = .ok (.if_icmp .ge 24, 3) := zo_162 (d := 0) (e := 24) (zd_b zq_prog_10_method_3_code_0 7 rfl rfl rfl) (zd_b zq_prog_10_method_3_code_0 8 rfl rfl rfl) (zd_b zq_prog_10_method_3_code_0 9 rfl rfl rfl) (by decide +kernel)
theorem d_Pa_metalCells_31 : decode prog_10_method_3_code 31 = .ok (.iload_n 1, 1) := zo_27 (zd_b zq_prog_10_method_3_code_0 31 rfl rfl rfl)
theorem d_Pa_metalCells_32 : decode prog_10_method_3_code 32 = .ok (.ireturn, 1) := zo_172 (zd_b zq_prog_10_method_3_code_1 0 rfl rfl rfl)
theorem d_Pa_metalCells_10 : decode prog_10_method_3_code 10 = .ok (.aload_n 0, 1) := zo_42 (zd_b zq_prog_10_method_3_code_0 10 rfl rfl rfl)
theorem d_Pa_metalCells_11 : decode prog_10_method_3_code 11 = .ok (.getfield 9, 3) := zo_180 (d := 0) (e := 9) (zd_b zq_prog_10_method_3_code_0 11 rfl rfl rfl) (zd_b zq_prog_10_method_3_code_0 12 rfl rfl rfl) (zd_b zq_prog_10_method_3_code_0 13 rfl rfl rfl)
theorem u_Pa : ∀ x ∈ u_ws R_Pa F_Pa 4, x ∈ z_gw := fun x hx => List.mem_filter.mpr ⟨(z_au [(1, 59), (1, 61), (1, 63), (1, 65)] (by decide +kernel) : ∀ x ∈ u_ws R_Pa F_Pa 4, x ∈ lw_tbl) x hx, (show ∀ x ∈ u_ws R_Pa F_Pa 4, goodWord x = true by decide +kernel) x hx⟩
theorem fs_Pa_9 : z_fs "Ironpour$Pattern" 9 8 0 := ⟨R_Pa, "Ironpour$Pattern", F_Pa, 4, rfl, u_Pa, by decide, Or.inl ⟨z_mj1 (i := 52) rfl (by decide +kernel), Or.inl rfl⟩⟩
theorem d_Pa_metalCells_14 : decode prog_10_method_3_code 14 = .ok (.iload_n 2, 1) := zo_28 (zd_b zq_prog_10_method_3_code_0 14 rfl rfl rfl)
theorem d_Pa_metalCells_15 : decode prog_10_method_3_code 15 = .ok (.caload, 1) := zo_52 (zd_b zq_prog_10_method_3_code_0 15 rfl rfl rfl)
theorem d_Pa_metalCells_16 : decode prog_10_method_3_code 16 = .ok (.invokestatic 33, 3) := zo_184 (d := 0) (e := 33) (zd_b zq_prog_10_method_3_code_0 16 rfl rfl rfl) (zd_b zq_prog_10_method_3_code_0 17 rfl rfl rfl) (zd_b zq_prog_10_method_3_code_0 18 rfl rfl rfl)
theorem ok_Pa_metalCells_Ip_takesMetal : z_ok M_Pa_metalCells M_Ip_takesMetal 1 := ⟨z_mj2 (i := 114) rfl (by decide +kernel), rfl, ⟨by decide +kernel, by decide +kernel, by decide +kernel⟩, ⟨by decide, by decide⟩, z_mj1 (i := 1) rfl (by decide +kernel), rfl⟩
theorem ln_Pa_33 : Cond.methodLinkNest "Ironpour$Pattern" 33 M_Ip_takesMetal.1 "Ironpour" ∈ z_nw := z_mk2 (i := 112) rfl (by decide +kernel)
theorem w_st_Ip_takesMetal : Cond.static M_Ip_takesMetal.1 ∈ z_gw := z_mj2 (i := 113) rfl (by decide +kernel)
theorem d_Pa_metalCells_19 : decode prog_10_method_3_code 19 = .ok (.ifCond .eq 6, 3) := zo_153 (d := 0) (e := 6) (zd_b zq_prog_10_method_3_code_0 19 rfl rfl rfl) (zd_b zq_prog_10_method_3_code_0 20 rfl rfl rfl) (zd_b zq_prog_10_method_3_code_0 21 rfl rfl rfl) (by decide +kernel)
theorem d_Pa_metalCells_25 : decode prog_10_method_3_code 25 = .ok (.iinc 2 1, 3) := by decide +kernel
theorem d_Pa_metalCells_28 : decode prog_10_method_3_code 28 = .ok (.goto (-24), 3) := zo_167 (d := 255) (e := 232) (zd_b zq_prog_10_method_3_code_0 28 rfl rfl rfl) (zd_b zq_prog_10_method_3_code_0 29 rfl rfl rfl) (zd_b zq_prog_10_method_3_code_0 30 rfl rfl rfl) (by decide +kernel)
theorem d_Pa_metalCells_22 : decode prog_10_method_3_code 22 = .ok (.iinc 1 1, 3) := by decide +kernel
theorem d_Pa_metalCells_0 : decode prog_10_method_3_code 0 = .ok (.iconst 0, 1) := zo_3 (zd_b zq_prog_10_method_3_code_0 0 rfl rfl rfl)
theorem d_Pa_metalCells_1 : decode prog_10_method_3_code 1 = .ok (.istore_n 1, 1) := zo_60 (zd_b zq_prog_10_method_3_code_0 1 rfl rfl rfl)
theorem d_Pa_metalCells_2 : decode prog_10_method_3_code 2 = .ok (.iconst 0, 1) := zo_3 (zd_b zq_prog_10_method_3_code_0 2 rfl rfl rfl)
theorem d_Pa_metalCells_3 : decode prog_10_method_3_code 3 = .ok (.istore_n 2, 1) := zo_61 (zd_b zq_prog_10_method_3_code_0 3 rfl rfl rfl)
set_option maxHeartbeats 4000000 in
set_option maxRecDepth 100000 in
theorem L_Pa_metalCells_4 (g : zG) (a a1 a2 a3 : Nat) (f sn qu : Nat → Int32) (part : Int32) (w0 : zW) (n : Nat) : ∀ (d i : Nat), i ≤ 108 → 108 < i + d → DV g M_Pa_metalCells (fun o cs1 => o = .inl (some (.int (nI (fa_cnt (fun k => tmB (f k)) 108)))) ∧ cs1 = [(a, .inr (8, [.ref a1, .ref a2, .ref a3, .int part])), (a1, .inl (1, 108, .inl f)), (a2, .inl (2, 108, .inl sn)), (a3, .inl (0, 108, .inl qu))]) w0 n 4 [(2, .int (nI i)), (1, .int (nI (fa_cnt (fun k => tmB (f k)) i))), (0, .ref a)] [] [(a, .inr (8, [.ref a1, .ref a2, .ref a3, .int part])), (a1, .inl (1, 108, .inl f)), (a2, .inl (2, 108, .inl sn)), (a3, .inl (0, 108, .inl qu))] 0 0 := by
  intro d
  induction d with
  | zero => intro i h1 h2 ; exact absurd h2 (by omega)
  | succ d ih =>
    intro i h1 h2 
    refine r_iload_n d_Pa_metalCells_4 rfl 0 rfl ?_
    refine r_bipush d_Pa_metalCells_5 (v := 108) (by decide) ?_
    refine r_icmp_ge (tgt := 31) d_Pa_metalCells_7 (by decide) (fun c_7 => ?_) (fun c_7 => ?_)
    · have hn := z_le (a := 108) (by omega) (by decide) c_7
      obtain rfl : i = 108 := by omega
      refine r_iload_n d_Pa_metalCells_31 rfl 1 rfl ?_
      refine r_iret d_Pa_metalCells_32 rfl rfl ?_
      exact ⟨rfl, rfl⟩
    · have hn := z_nle (a := 108) (by omega) (by decide) c_7
      refine r_aload_n d_Pa_metalCells_10 rfl 2 rfl ?_
      refine r_get fs_Pa_9 d_Pa_metalCells_11 (q0 := 0) rfl rfl ?_
      refine r_iload_n d_Pa_metalCells_14 rfl 0 rfl ?_
      refine r_cald d_Pa_metalCells_15 (q0 := 1) rfl (vp_in_nI (by omega) (by omega)) (v := f i) (by rw [nI_clamp (by omega)]) ?_
      refine r_callSN (As := [.int (f i)]) (rest := []) (csC := []) (is := []) ln_Pa_33 w_st_Ip_takesMetal ok_Pa_metalCells_Ip_takesMetal d_Pa_metalCells_16 (C_Ip_takesMetal g (f i)) rfl rfl (Nat.le_of_ble_eq_true rfl) rfl (by decide) (by omega) (by omega) (fun E cs1 hx => ?_) (fun v cs1 hx => ?_)
      · exact absurd hx.1 (by simp)
      · obtain ⟨e1, rfl⟩ := hx
        cases e1
        refine ⟨rfl, ?_⟩
        refine r_st (st2 := [.int (z_bi (tmB (f i)))]) rfl ?_
        refine r_cs (cs2 := [(a, .inr (8, [.ref a1, .ref a2, .ref a3, .int part])), (a1, .inl (1, 108, .inl f)), (a2, .inl (2, 108, .inl sn)), (a3, .inl (0, 108, .inl qu))]) rfl ?_
        refine r_if_eq (tgt := 25) d_Pa_metalCells_19 (by decide) (fun c_19 => ?_) (fun c_19 => ?_)
        · have hb := z_bi0 c_19
          refine r_iinc (lv' := [(2, .int (nI (i + 1))), (1, .int (nI (fa_cnt (fun k => tmB (f k)) i))), (0, .ref a)]) (v := nI (i + 1)) d_Pa_metalCells_25 (j := 0) rfl (nI_add _ _) (by decide) rfl ?_
          refine r_goto (tgt := 4) d_Pa_metalCells_28 (by decide) ?_
          refine r_lvE (lv2 := [(2, .int (nI (i + 1))), (1, .int (nI (fa_cnt (fun k => tmB (f k)) (i + 1)))), (0, .ref a)]) (by first | rw [fa_cnt_yes (p := fun k => tmB (f k)) hb] | rw [fa_cnt_no (p := fun k => tmB (f k)) hb]) ?_
          refine r_cs (cs2 := [(a, .inr (8, [.ref a1, .ref a2, .ref a3, .int part])), (a1, .inl (1, 108, .inl f)), (a2, .inl (2, 108, .inl sn)), (a3, .inl (0, 108, .inl qu))]) (rfl) ?_
          exact ih (i + 1) (by omega) (by omega)
        · have hb := z_bi1 c_19
          refine r_iinc (lv' := [(1, .int (nI ((fa_cnt (fun k => tmB (f k)) i) + 1))), (2, .int (nI i)), (0, .ref a)]) (v := nI ((fa_cnt (fun k => tmB (f k)) i) + 1)) d_Pa_metalCells_22 (j := 1) rfl (nI_add _ _) (by decide) rfl ?_
          refine r_iinc (lv' := [(2, .int (nI (i + 1))), (1, .int (nI ((fa_cnt (fun k => tmB (f k)) i) + 1))), (0, .ref a)]) (v := nI (i + 1)) d_Pa_metalCells_25 (j := 1) rfl (nI_add _ _) (by decide) rfl ?_
          refine r_goto (tgt := 4) d_Pa_metalCells_28 (by decide) ?_
          refine r_lvE (lv2 := [(2, .int (nI (i + 1))), (1, .int (nI (fa_cnt (fun k => tmB (f k)) (i + 1)))), (0, .ref a)]) (by first | rw [fa_cnt_yes (p := fun k => tmB (f k)) hb] | rw [fa_cnt_no (p := fun k => tmB (f k)) hb]) ?_
          refine r_cs (cs2 := [(a, .inr (8, [.ref a1, .ref a2, .ref a3, .int part])), (a1, .inl (1, 108, .inl f)), (a2, .inl (2, 108, .inl sn)), (a3, .inl (0, 108, .inl qu))]) (rfl) ?_
          exact ih (i + 1) (by omega) (by omega)
set_option maxHeartbeats 4000000 in
set_option maxRecDepth 100000 in
theorem C_Pa_metalCells (g : zG) (a a1 a2 a3 : Nat) (f sn qu : Nat → Int32) (part : Int32) : CT g M_Pa_metalCells [.ref a] [(a, .inr (8, [.ref a1, .ref a2, .ref a3, .int part])), (a1, .inl (1, 108, .inl f)), (a2, .inl (2, 108, .inl sn)), (a3, .inl (0, 108, .inl qu))] (fun o cs1 => o = .inl (some (.int (nI (fa_cnt (fun k => tmB (f k)) 108)))) ∧ cs1 = [(a, .inr (8, [.ref a1, .ref a2, .ref a3, .int part])), (a1, .inl (1, 108, .inl f)), (a2, .inl (2, 108, .inl sn)), (a3, .inl (0, 108, .inl qu))]) 0 0 := by
  refine z_of (by decide) rfl (Nat.le_of_ble_eq_true rfl) (fun w0 => ?_)
  refine r_lvE (lv2 := [(0, .ref a)]) rfl ?_
  refine r_iconst d_Pa_metalCells_0 (v := 0) (by decide) ?_
  refine r_istore_n (lv' := [(1, .int 0), (0, .ref a)]) d_Pa_metalCells_1 rfl (by decide) rfl ?_
  refine r_iconst d_Pa_metalCells_2 (v := 0) (by decide) ?_
  refine r_istore_n (lv' := [(2, .int 0), (1, .int 0), (0, .ref a)]) d_Pa_metalCells_3 rfl (by decide) rfl ?_
  refine r_lvE (lv2 := [(2, .int (nI 0)), (1, .int (nI (fa_cnt (fun k => tmB (f k)) 0))), (0, .ref a)]) (rfl) ?_
  refine r_cs (cs2 := [(a, .inr (8, [.ref a1, .ref a2, .ref a3, .int part])), (a1, .inl (1, 108, .inl f)), (a2, .inl (2, 108, .inl sn)), (a3, .inl (0, 108, .inl qu))]) (rfl) ?_
  exact L_Pa_metalCells_4 g a a1 a2 a3 f sn qu part w0 _  (108 + 1) 0 (Nat.zero_le _) (by omega)
