theorem C_Mm_tenths112 (g : zG) (e : Nat) (he : e < 4) : CT g M_Mm_tenths [.int 112, .int (nI e)] [] (fun o cs1 => o = .inl (some (.int ((z_sv 0).getD e 0))) ∧ cs1 = []) 0 0 := by
  rcases (show e = 0 ∨ e = 1 ∨ e = 2 ∨ e = 3 by omega) with rfl | rfl | rfl | rfl
  · exact C_Mm_tenths112_0 g
  · exact C_Mm_tenths112_1 g
  · exact C_Mm_tenths112_2 g
  · exact C_Mm_tenths112_3 g
theorem C_Mm_tenths115 (g : zG) (e : Nat) (he : e < 4) : CT g M_Mm_tenths [.int 115, .int (nI e)] [] (fun o cs1 => o = .inl (some (.int ((z_sv 1).getD e 0))) ∧ cs1 = []) 0 0 := by
  rcases (show e = 0 ∨ e = 1 ∨ e = 2 ∨ e = 3 by omega) with rfl | rfl | rfl | rfl
  · exact C_Mm_tenths115_0 g
  · exact C_Mm_tenths115_1 g
  · exact C_Mm_tenths115_2 g
  · exact C_Mm_tenths115_3 g
theorem C_Mm_tenths102 (g : zG) (e : Nat) (he : e < 4) : CT g M_Mm_tenths [.int 102, .int (nI e)] [] (fun o cs1 => o = .inl (some (.int ((z_sv 2).getD e 0))) ∧ cs1 = []) 0 0 := by
  rcases (show e = 0 ∨ e = 1 ∨ e = 2 ∨ e = 3 by omega) with rfl | rfl | rfl | rfl
  · exact C_Mm_tenths102_0 g
  · exact C_Mm_tenths102_1 g
  · exact C_Mm_tenths102_2 g
  · exact C_Mm_tenths102_3 g
theorem C_Mm_tenths107 (g : zG) (e : Nat) (he : e < 4) : CT g M_Mm_tenths [.int 107, .int (nI e)] [] (fun o cs1 => o = .inl (some (.int ((z_sv 3).getD e 0))) ∧ cs1 = []) 0 0 := by
  rcases (show e = 0 ∨ e = 1 ∨ e = 2 ∨ e = 3 by omega) with rfl | rfl | rfl | rfl
  · exact C_Mm_tenths107_0 g
  · exact C_Mm_tenths107_1 g
  · exact C_Mm_tenths107_2 g
  · exact C_Mm_tenths107_3 g

abbrev M_Mm_charge : zM := (⟨"IronpourModel", "charge", "(CI)I"⟩, prog_14_method_58_code, 5, (Option.some FieldType.int), 8, 179, [])
theorem d_Mm_charge_0 : decode prog_14_method_58_code 0 = .ok (.aload_n 0, 1) := zo_42 (zd_b zq_prog_14_method_58_code_0 0 rfl rfl rfl)
theorem d_Mm_charge_1 : decode prog_14_method_58_code 1 = .ok (.iconst 0, 1) := zo_3 (zd_b zq_prog_14_method_58_code_0 1 rfl rfl rfl)
theorem d_Mm_charge_2 : decode prog_14_method_58_code 2 = .ok (.putfield 84, 3) := zo_181 (d := 0) (e := 84) (zd_b zq_prog_14_method_58_code_0 2 rfl rfl rfl) (zd_b zq_prog_14_method_58_code_0 3 rfl rfl rfl) (zd_b zq_prog_14_method_58_code_0 4 rfl rfl rfl)
theorem d_Mm_charge_5 : decode prog_14_method_58_code 5 = .ok (.iload_n 1, 1) := zo_27 (zd_b zq_prog_14_method_58_code_0 5 rfl rfl rfl)
theorem d_Mm_charge_6 : decode prog_14_method_58_code 6 = .ok (.bipush 103, 2) := zo_16 (d := 103) (zd_b zq_prog_14_method_58_code_0 6 rfl rfl rfl) (zd_b zq_prog_14_method_58_code_0 7 rfl rfl rfl) (by decide +kernel)
theorem d_Mm_charge_8 : decode prog_14_method_58_code 8 = .ok (.if_icmp .ne 7, 3) := zo_160 (d := 0) (e := 7) (zd_b zq_prog_14_method_58_code_0 8 rfl rfl rfl) (zd_b zq_prog_14_method_58_code_0 9 rfl rfl rfl) (zd_b zq_prog_14_method_58_code_0 10 rfl rfl rfl) (by decide +kernel)
theorem d_Mm_charge_15 : decode prog_14_method_58_code 15 = .ok (.iload_n 1, 1) := zo_27 (zd_b zq_prog_14_method_58_code_0 15 rfl rfl rfl)
theorem d_Mm_charge_16 : decode prog_14_method_58_code 16 = .ok (.bipush 100, 2) := zo_16 (d := 100) (zd_b zq_prog_14_method_58_code_0 16 rfl rfl rfl) (zd_b zq_prog_14_method_58_code_0 17 rfl rfl rfl) (by decide +kernel)
theorem d_Mm_charge_18 : decode prog_14_method_58_code 18 = .ok (.if_icmp .ne 7, 3) := zo_160 (d := 0) (e := 7) (zd_b zq_prog_14_method_58_code_0 18 rfl rfl rfl) (zd_b zq_prog_14_method_58_code_0 19 rfl rfl rfl) (zd_b zq_prog_14_method_58_code_0 20 rfl rfl rfl) (by decide +kernel)
theorem d_Mm_charge_25 : decode prog_14_method_58_code 25 = .ok (.iconst (-1), 1) := zo_2 (zd_b zq_prog_14_method_58_code_0 25 rfl rfl rfl)
theorem d_Mm_charge_26 : decode prog_14_method_58_code 26 = .ok (.istore_n 3, 1) := zo_62 (zd_b zq_prog_14_method_58_code_0 26 rfl rfl rfl)
theorem d_Mm_charge_27 : decode prog_14_method_58_code 27 = .ok (.aload_n 0, 1) := zo_42 (zd_b zq_prog_14_method_58_code_0 27 rfl rfl rfl)
theorem d_Mm_charge_28 : decode prog_14_method_58_code 28 = .ok (.ldc 234, 2) := zo_18 (d := 234) (zd_b zq_prog_14_method_58_code_0 28 rfl rfl rfl) (zd_b zq_prog_14_method_58_code_0 29 rfl rfl rfl)
theorem d_Mm_charge_30 : decode prog_14_method_58_code 30 = .ok (.iload_n 1, 1) := zo_27 (zd_b zq_prog_14_method_58_code_0 30 rfl rfl rfl)
theorem d_Mm_charge_31 : decode prog_14_method_58_code 31 = .ok (.invokevirtual 97, 3) := zo_182 (d := 0) (e := 97) (zd_b zq_prog_14_method_58_code_0 31 rfl rfl rfl) (zd_b zq_prog_14_method_58_code_1 0 rfl rfl rfl) (zd_b zq_prog_14_method_58_code_1 1 rfl rfl rfl)
theorem ok_Mm_charge_String_indexOf_0 : z_ok M_Mm_charge M_String_indexOf_0 1 := ⟨z_mj3 (i := 58) rfl (by decide +kernel), rfl, ⟨by decide +kernel, by decide +kernel, by decide +kernel⟩, ⟨by decide, by decide⟩, z_mj1 (i := 15) rfl (by decide +kernel), rfl⟩
theorem d_Mm_charge_34 : decode prog_14_method_58_code 34 = .ok (.ifCond .lt 14, 3) := zo_155 (d := 0) (e := 14) (zd_b zq_prog_14_method_58_code_1 2 rfl rfl rfl) (zd_b zq_prog_14_method_58_code_1 3 rfl rfl rfl) (zd_b zq_prog_14_method_58_code_1 4 rfl rfl rfl) (by decide +kernel)
theorem d_Mm_charge_48 : decode prog_14_method_58_code 48 = .ok (.iconst 1, 1) := zo_4 (zd_b zq_prog_14_method_58_code_1 16 rfl rfl rfl)
theorem d_Mm_charge_49 : decode prog_14_method_58_code 49 = .ok (.goto 4, 3) := zo_167 (d := 0) (e := 4) (zd_b zq_prog_14_method_58_code_1 17 rfl rfl rfl) (zd_b zq_prog_14_method_58_code_1 18 rfl rfl rfl) (zd_b zq_prog_14_method_58_code_1 19 rfl rfl rfl) (by decide +kernel)
theorem d_Mm_charge_53 : decode prog_14_method_58_code 53 = .ok (.iconst 1, 1) := zo_4 (zd_b zq_prog_14_method_58_code_1 21 rfl rfl rfl)
theorem d_Mm_charge_54 : decode prog_14_method_58_code 54 = .ok (.invokevirtual 103, 3) := zo_182 (d := 0) (e := 103) (zd_b zq_prog_14_method_58_code_1 22 rfl rfl rfl) (zd_b zq_prog_14_method_58_code_1 23 rfl rfl rfl) (zd_b zq_prog_14_method_58_code_1 24 rfl rfl rfl)
theorem ok_Mm_charge_Mm_fails : z_ok M_Mm_charge M_Mm_fails 2 := ⟨z_mj7 (i := 196) rfl (by decide +kernel), rfl, ⟨by decide +kernel, by decide +kernel, by decide +kernel⟩, ⟨by decide, by decide⟩, z_mj1 (i := 14) rfl (by decide +kernel), rfl⟩
theorem d_Mm_charge_57 : decode prog_14_method_58_code 57 = .ok (.ifCond .ne 31, 3) := zo_154 (d := 0) (e := 31) (zd_b zq_prog_14_method_58_code_1 25 rfl rfl rfl) (zd_b zq_prog_14_method_58_code_1 26 rfl rfl rfl) (zd_b zq_prog_14_method_58_code_1 27 rfl rfl rfl) (by decide +kernel)
theorem d_Mm_charge_88 : decode prog_14_method_58_code 88 = .ok (.iconst 0, 1) := zo_3 (zd_b zq_prog_14_method_58_code_2 24 rfl rfl rfl)
theorem d_Mm_charge_89 : decode prog_14_method_58_code 89 = .ok (.ireturn, 1) := zo_172 (zd_b zq_prog_14_method_58_code_2 25 rfl rfl rfl)
theorem d_Mm_charge_37 : decode prog_14_method_58_code 37 = .ok (.iload_n 2, 1) := zo_28 (zd_b zq_prog_14_method_58_code_1 5 rfl rfl rfl)
theorem d_Mm_charge_38 : decode prog_14_method_58_code 38 = .ok (.iconst 1, 1) := zo_4 (zd_b zq_prog_14_method_58_code_1 6 rfl rfl rfl)
theorem d_Mm_charge_39 : decode prog_14_method_58_code 39 = .ok (.sipush 1000, 3) := zo_17 (d := 3) (e := 232) (zd_b zq_prog_14_method_58_code_1 7 rfl rfl rfl) (zd_b zq_prog_14_method_58_code_1 8 rfl rfl rfl) (zd_b zq_prog_14_method_58_code_1 9 rfl rfl rfl) (by decide +kernel)
theorem d_Mm_charge_42 : decode prog_14_method_58_code 42 = .ok (.invokestatic 87, 3) := zo_184 (d := 0) (e := 87) (zd_b zq_prog_14_method_58_code_1 10 rfl rfl rfl) (zd_b zq_prog_14_method_58_code_1 11 rfl rfl rfl) (zd_b zq_prog_14_method_58_code_1 12 rfl rfl rfl)
theorem ok_Mm_charge_Mm_in : z_ok M_Mm_charge M_Mm_in 3 := ⟨z_mj7 (i := 190) rfl (by decide +kernel), rfl, ⟨by decide +kernel, by decide +kernel, by decide +kernel⟩, ⟨by decide, by decide⟩, z_mj1 (i := 14) rfl (by decide +kernel), rfl⟩
theorem d_Mm_charge_45 : decode prog_14_method_58_code 45 = .ok (.ifCond .ne 7, 3) := zo_154 (d := 0) (e := 7) (zd_b zq_prog_14_method_58_code_1 13 rfl rfl rfl) (zd_b zq_prog_14_method_58_code_1 14 rfl rfl rfl) (zd_b zq_prog_14_method_58_code_1 15 rfl rfl rfl) (by decide +kernel)
theorem d_Mm_charge_21 : decode prog_14_method_58_code 21 = .ok (.iconst 3, 1) := zo_6 (zd_b zq_prog_14_method_58_code_0 21 rfl rfl rfl)
theorem d_Mm_charge_22 : decode prog_14_method_58_code 22 = .ok (.goto 4, 3) := zo_167 (d := 0) (e := 4) (zd_b zq_prog_14_method_58_code_0 22 rfl rfl rfl) (zd_b zq_prog_14_method_58_code_0 23 rfl rfl rfl) (zd_b zq_prog_14_method_58_code_0 24 rfl rfl rfl) (by decide +kernel)
theorem d_Mm_charge_11 : decode prog_14_method_58_code 11 = .ok (.iconst 2, 1) := zo_5 (zd_b zq_prog_14_method_58_code_0 11 rfl rfl rfl)
theorem d_Mm_charge_12 : decode prog_14_method_58_code 12 = .ok (.goto 14, 3) := zo_167 (d := 0) (e := 14) (zd_b zq_prog_14_method_58_code_0 12 rfl rfl rfl) (zd_b zq_prog_14_method_58_code_0 13 rfl rfl rfl) (zd_b zq_prog_14_method_58_code_0 14 rfl rfl rfl) (by decide +kernel)
