abbrev M_Ip_isWithin : zM := (⟨"Ironpour", "isWithin", "(III)Z"⟩, prog_1_method_52_code, 3, (Option.some FieldType.boolean), 1, 20, [])
theorem d_Ip_isWithin_0 : decode prog_1_method_52_code 0 = .ok (.iload_n 0, 1) := by decide +kernel
theorem d_Ip_isWithin_1 : decode prog_1_method_52_code 1 = .ok (.iload_n 1, 1) := by decide +kernel
theorem d_Ip_isWithin_2 : decode prog_1_method_52_code 2 = .ok (.if_icmp .lt 12, 3) := by decide +kernel
theorem d_Ip_isWithin_14 : decode prog_1_method_52_code 14 = .ok (.iconst 0, 1) := by decide +kernel
theorem d_Ip_isWithin_15 : decode prog_1_method_52_code 15 = .ok (.ireturn, 1) := by decide +kernel
theorem d_Ip_isWithin_5 : decode prog_1_method_52_code 5 = .ok (.iload_n 0, 1) := by decide +kernel
theorem d_Ip_isWithin_6 : decode prog_1_method_52_code 6 = .ok (.iload_n 2, 1) := by decide +kernel
theorem d_Ip_isWithin_7 : decode prog_1_method_52_code 7 = .ok (.if_icmp .gt 7, 3) := by decide +kernel
theorem d_Ip_isWithin_10 : decode prog_1_method_52_code 10 = .ok (.iconst 1, 1) := by decide +kernel
theorem d_Ip_isWithin_11 : decode prog_1_method_52_code 11 = .ok (.goto 4, 3) := by decide +kernel
set_option maxHeartbeats 4000000 in
set_option maxRecDepth 100000 in
theorem C_Ip_isWithin (g : zG) (a b c : Int32) : CT g M_Ip_isWithin [.int a, .int b, .int c] [] (fun o cs1 => o = .inl (some (.int (if b ≤ a ∧ a ≤ c then 1 else 0))) ∧ cs1 = []) 0 0 := by
  refine z_of (by decide) rfl (Nat.le_of_ble_eq_true rfl) (fun w0 => ?_)
  refine r_lvE (lv2 := [(0, .int a), (1, .int b), (2, .int c)]) rfl ?_
  refine r_iload_n d_Ip_isWithin_0 rfl 0 rfl ?_
  refine r_iload_n d_Ip_isWithin_1 rfl 1 rfl ?_
  refine r_icmp_lt (tgt := 14) d_Ip_isWithin_2 (by decide) (fun c_2 => ?_) (fun c_2 => ?_)
  · refine r_iconst d_Ip_isWithin_14 (v := 0) (by decide) ?_
    refine r_iret d_Ip_isWithin_15 rfl rfl ?_
    refine ⟨?_, rfl⟩
    split <;> first | rfl | (exfalso; simp only [fa_lt, fa_le] at *; omega)
  · refine r_iload_n d_Ip_isWithin_5 rfl 0 rfl ?_
    refine r_iload_n d_Ip_isWithin_6 rfl 2 rfl ?_
    refine r_icmp_gt (tgt := 14) d_Ip_isWithin_7 (by decide) (fun c_7 => ?_) (fun c_7 => ?_)
    · refine r_iconst d_Ip_isWithin_14 (v := 0) (by decide) ?_
      refine r_iret d_Ip_isWithin_15 rfl rfl ?_
      refine ⟨?_, rfl⟩
      split <;> first | rfl | (exfalso; simp only [fa_lt, fa_le] at *; omega)
    · refine r_iconst d_Ip_isWithin_10 (v := 1) (by decide) ?_
      refine r_goto (tgt := 15) d_Ip_isWithin_11 (by decide) ?_
      refine r_iret d_Ip_isWithin_15 rfl rfl ?_
      refine ⟨?_, rfl⟩
      split <;> first | rfl | (exfalso; simp only [fa_lt, fa_le] at *; omega)
abbrev M_Mm_in : zM := (⟨"IronpourModel", "in", "(III)Z"⟩, prog_14_method_3_code, 3, (Option.some FieldType.boolean), 1, 20, [])
theorem d_Mm_in_0 : decode prog_14_method_3_code 0 = .ok (.iload_n 0, 1) := by decide +kernel
theorem d_Mm_in_1 : decode prog_14_method_3_code 1 = .ok (.iload_n 1, 1) := by decide +kernel
theorem d_Mm_in_2 : decode prog_14_method_3_code 2 = .ok (.if_icmp .lt 12, 3) := by decide +kernel
theorem d_Mm_in_14 : decode prog_14_method_3_code 14 = .ok (.iconst 0, 1) := by decide +kernel
theorem d_Mm_in_15 : decode prog_14_method_3_code 15 = .ok (.ireturn, 1) := by decide +kernel
theorem d_Mm_in_5 : decode prog_14_method_3_code 5 = .ok (.iload_n 0, 1) := by decide +kernel
theorem d_Mm_in_6 : decode prog_14_method_3_code 6 = .ok (.iload_n 2, 1) := by decide +kernel
theorem d_Mm_in_7 : decode prog_14_method_3_code 7 = .ok (.if_icmp .gt 7, 3) := by decide +kernel
theorem d_Mm_in_10 : decode prog_14_method_3_code 10 = .ok (.iconst 1, 1) := by decide +kernel
theorem d_Mm_in_11 : decode prog_14_method_3_code 11 = .ok (.goto 4, 3) := by decide +kernel
set_option maxHeartbeats 4000000 in
set_option maxRecDepth 100000 in
theorem C_Mm_in (g : zG) (a b c : Int32) : CT g M_Mm_in [.int a, .int b, .int c] [] (fun o cs1 => o = .inl (some (.int (if b ≤ a ∧ a ≤ c then 1 else 0))) ∧ cs1 = []) 0 0 := by
  refine z_of (by decide) rfl (Nat.le_of_ble_eq_true rfl) (fun w0 => ?_)
  refine r_lvE (lv2 := [(0, .int a), (1, .int b), (2, .int c)]) rfl ?_
  refine r_iload_n d_Mm_in_0 rfl 0 rfl ?_
  refine r_iload_n d_Mm_in_1 rfl 1 rfl ?_
  refine r_icmp_lt (tgt := 14) d_Mm_in_2 (by decide) (fun c_2 => ?_) (fun c_2 => ?_)
  · refine r_iconst d_Mm_in_14 (v := 0) (by decide) ?_
    refine r_iret d_Mm_in_15 rfl rfl ?_
    refine ⟨?_, rfl⟩
    split <;> first | rfl | (exfalso; simp only [fa_lt, fa_le] at *; omega)
  · refine r_iload_n d_Mm_in_5 rfl 0 rfl ?_
    refine r_iload_n d_Mm_in_6 rfl 2 rfl ?_
    refine r_icmp_gt (tgt := 14) d_Mm_in_7 (by decide) (fun c_7 => ?_) (fun c_7 => ?_)
    · refine r_iconst d_Mm_in_14 (v := 0) (by decide) ?_
      refine r_iret d_Mm_in_15 rfl rfl ?_
      refine ⟨?_, rfl⟩
      split <;> first | rfl | (exfalso; simp only [fa_lt, fa_le] at *; omega)
    · refine r_iconst d_Mm_in_10 (v := 1) (by decide) ?_
      refine r_goto (tgt := 15) d_Mm_in_11 (by decide) ?_
      refine r_iret d_Mm_in_15 rfl rfl ?_
      refine ⟨?_, rfl⟩
      split <;> first | rfl | (exfalso; simp only [fa_lt, fa_le] at *; omega)
