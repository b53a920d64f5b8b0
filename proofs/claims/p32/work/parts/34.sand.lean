section
abbrev M_Mm_groupIn : zM := (⟨"IronpourModel", "groupIn", "([C)I"⟩, prog_14_method_13_code, 4, (Option.some FieldType.int), 5, 112, [])
theorem d_Mm_groupIn_25 : decode prog_14_method_13_code 25 = .ok (.iload_n 3, 1) := zo_29 (zd_b zq_prog_14_method_13_code_0 25 rfl rfl rfl)
theorem d_Mm_groupIn_26 : decode prog_14_method_13_code 26 = .ok (.bipush 108, 2) := zo_16 (d := 108) (zd_b zq_prog_14_method_13_code_0 26 rfl rfl rfl) (zd_b zq_prog_14_method_13_code_0 27 rfl rfl rfl) (by decide +kernel)
theorem d_Mm_groupIn_28 : decode prog_14_method_13_code 28 = .ok (.if_icmp .ge 43, 3) := zo_162 (d := 0) (e := 43) (zd_b zq_prog_14_method_13_code_0 28 rfl rfl rfl) (zd_b zq_prog_14_method_13_code_0 29 rfl rfl rfl) (zd_b zq_prog_14_method_13_code_0 30 rfl rfl rfl) (by decide +kernel)
theorem d_Mm_groupIn_71 : decode prog_14_method_13_code 71 = .ok (.iload_n 2, 1) := zo_28 (zd_b zq_prog_14_method_13_code_2 7 rfl rfl rfl)
theorem d_Mm_groupIn_72 : decode prog_14_method_13_code 72 = .ok (.ireturn, 1) := zo_172 (zd_b zq_prog_14_method_13_code_2 8 rfl rfl rfl)
theorem d_Mm_groupIn_31 : decode prog_14_method_13_code 31 = .ok (.aload_n 1, 1) := zo_43 (zd_b zq_prog_14_method_13_code_0 31 rfl rfl rfl)
theorem d_Mm_groupIn_32 : decode prog_14_method_13_code 32 = .ok (.iload_n 3, 1) := zo_29 (zd_b zq_prog_14_method_13_code_1 0 rfl rfl rfl)
theorem d_Mm_groupIn_33 : decode prog_14_method_13_code 33 = .ok (.caload, 1) := zo_52 (zd_b zq_prog_14_method_13_code_1 1 rfl rfl rfl)
theorem d_Mm_groupIn_34 : decode prog_14_method_13_code 34 = .ok (.bipush 111, 2) := zo_16 (d := 111) (zd_b zq_prog_14_method_13_code_1 2 rfl rfl rfl) (zd_b zq_prog_14_method_13_code_1 3 rfl rfl rfl) (by decide +kernel)
theorem d_Mm_groupIn_36 : decode prog_14_method_13_code 36 = .ok (.if_icmp .ne 29, 3) := zo_160 (d := 0) (e := 29) (zd_b zq_prog_14_method_13_code_1 4 rfl rfl rfl) (zd_b zq_prog_14_method_13_code_1 5 rfl rfl rfl) (zd_b zq_prog_14_method_13_code_1 6 rfl rfl rfl) (by decide +kernel)
theorem d_Mm_groupIn_65 : decode prog_14_method_13_code 65 = .ok (.iinc 3 1, 3) := by decide +kernel
theorem d_Mm_groupIn_68 : decode prog_14_method_13_code 68 = .ok (.goto (-43), 3) := zo_167 (d := 255) (e := 213) (zd_b zq_prog_14_method_13_code_2 4 rfl rfl rfl) (zd_b zq_prog_14_method_13_code_2 5 rfl rfl rfl) (zd_b zq_prog_14_method_13_code_2 6 rfl rfl rfl) (by decide +kernel)
theorem d_Mm_groupIn_4 : decode prog_14_method_13_code 4 = .ok (.iload_n 3, 1) := zo_29 (zd_b zq_prog_14_method_13_code_0 4 rfl rfl rfl)
theorem d_Mm_groupIn_5 : decode prog_14_method_13_code 5 = .ok (.bipush 108, 2) := zo_16 (d := 108) (zd_b zq_prog_14_method_13_code_0 5 rfl rfl rfl) (zd_b zq_prog_14_method_13_code_0 6 rfl rfl rfl) (by decide +kernel)
theorem d_Mm_groupIn_7 : decode prog_14_method_13_code 7 = .ok (.if_icmp .ge 16, 3) := zo_162 (d := 0) (e := 16) (zd_b zq_prog_14_method_13_code_0 7 rfl rfl rfl) (zd_b zq_prog_14_method_13_code_0 8 rfl rfl rfl) (zd_b zq_prog_14_method_13_code_0 9 rfl rfl rfl) (by decide +kernel)
theorem d_Mm_groupIn_23 : decode prog_14_method_13_code 23 = .ok (.iconst 0, 1) := zo_3 (zd_b zq_prog_14_method_13_code_0 23 rfl rfl rfl)
theorem d_Mm_groupIn_24 : decode prog_14_method_13_code 24 = .ok (.istore_n 3, 1) := zo_62 (zd_b zq_prog_14_method_13_code_0 24 rfl rfl rfl)
theorem d_Mm_groupIn_10 : decode prog_14_method_13_code 10 = .ok (.aload_n 0, 1) := zo_42 (zd_b zq_prog_14_method_13_code_0 10 rfl rfl rfl)
theorem d_Mm_groupIn_11 : decode prog_14_method_13_code 11 = .ok (.getfield 40, 3) := zo_180 (d := 0) (e := 40) (zd_b zq_prog_14_method_13_code_0 11 rfl rfl rfl) (zd_b zq_prog_14_method_13_code_0 12 rfl rfl rfl) (zd_b zq_prog_14_method_13_code_0 13 rfl rfl rfl)
theorem fs_Mm_40 : z_fs "IronpourModel" 40 12 10 := ⟨R_Mm, "IronpourModel", F_Mm, 31, rfl, u_Mm, by decide, Or.inl ⟨z_mj7 (i := 93) rfl (by decide +kernel), Or.inl rfl⟩⟩
theorem d_Mm_groupIn_14 : decode prog_14_method_13_code 14 = .ok (.iload_n 3, 1) := zo_29 (zd_b zq_prog_14_method_13_code_0 14 rfl rfl rfl)
theorem d_Mm_groupIn_15 : decode prog_14_method_13_code 15 = .ok (.iconst (-1), 1) := zo_2 (zd_b zq_prog_14_method_13_code_0 15 rfl rfl rfl)
theorem d_Mm_groupIn_16 : decode prog_14_method_13_code 16 = .ok (.iastore, 1) := zo_79 (zd_b zq_prog_14_method_13_code_0 16 rfl rfl rfl)
theorem d_Mm_groupIn_17 : decode prog_14_method_13_code 17 = .ok (.iinc 3 1, 3) := by decide +kernel
theorem d_Mm_groupIn_20 : decode prog_14_method_13_code 20 = .ok (.goto (-16), 3) := zo_167 (d := 255) (e := 240) (zd_b zq_prog_14_method_13_code_0 20 rfl rfl rfl) (zd_b zq_prog_14_method_13_code_0 21 rfl rfl rfl) (zd_b zq_prog_14_method_13_code_0 22 rfl rfl rfl) (by decide +kernel)
theorem d_Mm_groupIn_0 : decode prog_14_method_13_code 0 = .ok (.iconst 0, 1) := zo_3 (zd_b zq_prog_14_method_13_code_0 0 rfl rfl rfl)
theorem d_Mm_groupIn_1 : decode prog_14_method_13_code 1 = .ok (.istore_n 2, 1) := zo_61 (zd_b zq_prog_14_method_13_code_0 1 rfl rfl rfl)
theorem d_Mm_groupIn_2 : decode prog_14_method_13_code 2 = .ok (.iconst 0, 1) := zo_3 (zd_b zq_prog_14_method_13_code_0 2 rfl rfl rfl)
theorem d_Mm_groupIn_3 : decode prog_14_method_13_code 3 = .ok (.istore_n 3, 1) := zo_62 (zd_b zq_prog_14_method_13_code_0 3 rfl rfl rfl)
abbrev M_Mm_looseIn : zM := (⟨"IronpourModel", "looseIn", "([C)I"⟩, prog_14_method_15_code, 7, (Option.some FieldType.int), 6, 135, [])
theorem d_Mm_looseIn_0 : decode prog_14_method_15_code 0 = .ok (.aload_n 0, 1) := zo_42 (zd_b zq_prog_14_method_15_code_0 0 rfl rfl rfl)
theorem d_Mm_looseIn_1 : decode prog_14_method_15_code 1 = .ok (.aload_n 1, 1) := zo_43 (zd_b zq_prog_14_method_15_code_0 1 rfl rfl rfl)
theorem d_Mm_looseIn_2 : decode prog_14_method_15_code 2 = .ok (.invokevirtual 123, 3) := zo_182 (d := 0) (e := 123) (zd_b zq_prog_14_method_15_code_0 2 rfl rfl rfl) (zd_b zq_prog_14_method_15_code_0 3 rfl rfl rfl) (zd_b zq_prog_14_method_15_code_0 4 rfl rfl rfl)
theorem ok_Mm_looseIn_Mm_groupIn : z_ok M_Mm_looseIn M_Mm_groupIn 1 := ⟨z_mj7 (i := 222) rfl (by decide +kernel), rfl, ⟨by decide +kernel, by decide +kernel, by decide +kernel⟩, ⟨by decide, by decide⟩, z_mj1 (i := 14) rfl (by decide +kernel), rfl⟩
theorem ln_Mm_123 : Cond.methodLink "IronpourModel" 123 M_Mm_groupIn.1 ∈ z_gw := z_mj7 (i := 219) rfl (by decide +kernel)
theorem w_im_Mm_groupIn : Cond.instanceMethod M_Mm_groupIn.1 ∈ z_gw := z_mj7 (i := 221) rfl (by decide +kernel)
theorem w_se_Mm_groupIn : Cond.selects M_Mm_groupIn.1.cls M_Mm_groupIn.1 M_Mm_groupIn.1 ∈ z_gw := z_mem (i := 30) (by decide +kernel) (by decide +kernel)
theorem d_Mm_looseIn_5 : decode prog_14_method_15_code 5 = .ok (.istore_n 2, 1) := zo_61 (zd_b zq_prog_14_method_15_code_0 5 rfl rfl rfl)
theorem d_Mm_looseIn_6 : decode prog_14_method_15_code 6 = .ok (.iconst 0, 1) := zo_3 (zd_b zq_prog_14_method_15_code_0 6 rfl rfl rfl)
theorem d_Mm_looseIn_7 : decode prog_14_method_15_code 7 = .ok (.istore_n 3, 1) := zo_62 (zd_b zq_prog_14_method_15_code_0 7 rfl rfl rfl)
theorem d_Mm_looseIn_8 : decode prog_14_method_15_code 8 = .ok (.iconst 0, 1) := zo_3 (zd_b zq_prog_14_method_15_code_0 8 rfl rfl rfl)
theorem d_Mm_looseIn_9 : decode prog_14_method_15_code 9 = .ok (.istore 4, 2) := zo_54 (d := 4) (zd_b zq_prog_14_method_15_code_0 9 rfl rfl rfl) (zd_b zq_prog_14_method_15_code_0 10 rfl rfl rfl)
theorem d_Mm_looseIn_11 : decode prog_14_method_15_code 11 = .ok (.iload 4, 2) := zo_21 (d := 4) (zd_b zq_prog_14_method_15_code_0 11 rfl rfl rfl) (zd_b zq_prog_14_method_15_code_0 12 rfl rfl rfl)
theorem d_Mm_looseIn_13 : decode prog_14_method_15_code 13 = .ok (.iload_n 2, 1) := zo_28 (zd_b zq_prog_14_method_15_code_0 13 rfl rfl rfl)
theorem d_Mm_looseIn_14 : decode prog_14_method_15_code 14 = .ok (.if_icmp .ge 73, 3) := zo_162 (d := 0) (e := 73) (zd_b zq_prog_14_method_15_code_0 14 rfl rfl rfl) (zd_b zq_prog_14_method_15_code_0 15 rfl rfl rfl) (zd_b zq_prog_14_method_15_code_0 16 rfl rfl rfl) (by decide +kernel)
theorem d_Mm_looseIn_87 : decode prog_14_method_15_code 87 = .ok (.iload_n 3, 1) := zo_29 (zd_b zq_prog_14_method_15_code_2 23 rfl rfl rfl)
theorem d_Mm_looseIn_88 : decode prog_14_method_15_code 88 = .ok (.ireturn, 1) := zo_172 (zd_b zq_prog_14_method_15_code_2 24 rfl rfl rfl)
abbrev M_Mm_cores : zM := (⟨"IronpourModel", "cores", "()I"⟩, prog_14_method_17_code, 1, (Option.some FieldType.int), 6, 135, [])
theorem d_Mm_cores_0 : decode prog_14_method_17_code 0 = .ok (.aload_n 0, 1) := zo_42 (zd_b zq_prog_14_method_17_code_0 0 rfl rfl rfl)
theorem d_Mm_cores_1 : decode prog_14_method_17_code 1 = .ok (.iconst 0, 1) := zo_3 (zd_b zq_prog_14_method_17_code_0 1 rfl rfl rfl)
theorem d_Mm_cores_2 : decode prog_14_method_17_code 2 = .ok (.putfield 84, 3) := zo_181 (d := 0) (e := 84) (zd_b zq_prog_14_method_17_code_0 2 rfl rfl rfl) (zd_b zq_prog_14_method_17_code_0 3 rfl rfl rfl) (zd_b zq_prog_14_method_17_code_0 4 rfl rfl rfl)
theorem d_Mm_cores_5 : decode prog_14_method_17_code 5 = .ok (.aload_n 0, 1) := zo_42 (zd_b zq_prog_14_method_17_code_0 5 rfl rfl rfl)
theorem d_Mm_cores_6 : decode prog_14_method_17_code 6 = .ok (.aload_n 0, 1) := zo_42 (zd_b zq_prog_14_method_17_code_0 6 rfl rfl rfl)
theorem d_Mm_cores_7 : decode prog_14_method_17_code 7 = .ok (.getfield 7, 3) := zo_180 (d := 0) (e := 7) (zd_b zq_prog_14_method_17_code_0 7 rfl rfl rfl) (zd_b zq_prog_14_method_17_code_0 8 rfl rfl rfl) (zd_b zq_prog_14_method_17_code_0 9 rfl rfl rfl)
theorem d_Mm_cores_10 : decode prog_14_method_17_code 10 = .ok (.invokevirtual 123, 3) := zo_182 (d := 0) (e := 123) (zd_b zq_prog_14_method_17_code_0 10 rfl rfl rfl) (zd_b zq_prog_14_method_17_code_0 11 rfl rfl rfl) (zd_b zq_prog_14_method_17_code_0 12 rfl rfl rfl)
theorem ok_Mm_cores_Mm_groupIn : z_ok M_Mm_cores M_Mm_groupIn 1 := ⟨z_mj7 (i := 222) rfl (by decide +kernel), rfl, ⟨by decide +kernel, by decide +kernel, by decide +kernel⟩, ⟨by decide, by decide⟩, z_mj1 (i := 14) rfl (by decide +kernel), rfl⟩
theorem d_Mm_cores_13 : decode prog_14_method_17_code 13 = .ok (.ireturn, 1) := zo_172 (zd_b zq_prog_14_method_17_code_0 13 rfl rfl rfl)
abbrev M_Mm_loose : zM := (⟨"IronpourModel", "loose", "()I"⟩, prog_14_method_18_code, 1, (Option.some FieldType.int), 7, 161, [])
theorem d_Mm_loose_0 : decode prog_14_method_18_code 0 = .ok (.aload_n 0, 1) := zo_42 (zd_b zq_prog_14_method_18_code_0 0 rfl rfl rfl)
theorem d_Mm_loose_1 : decode prog_14_method_18_code 1 = .ok (.iconst 0, 1) := zo_3 (zd_b zq_prog_14_method_18_code_0 1 rfl rfl rfl)
theorem d_Mm_loose_2 : decode prog_14_method_18_code 2 = .ok (.putfield 84, 3) := zo_181 (d := 0) (e := 84) (zd_b zq_prog_14_method_18_code_0 2 rfl rfl rfl) (zd_b zq_prog_14_method_18_code_0 3 rfl rfl rfl) (zd_b zq_prog_14_method_18_code_0 4 rfl rfl rfl)
theorem d_Mm_loose_5 : decode prog_14_method_18_code 5 = .ok (.aload_n 0, 1) := zo_42 (zd_b zq_prog_14_method_18_code_0 5 rfl rfl rfl)
theorem d_Mm_loose_6 : decode prog_14_method_18_code 6 = .ok (.aload_n 0, 1) := zo_42 (zd_b zq_prog_14_method_18_code_0 6 rfl rfl rfl)
theorem d_Mm_loose_7 : decode prog_14_method_18_code 7 = .ok (.getfield 7, 3) := zo_180 (d := 0) (e := 7) (zd_b zq_prog_14_method_18_code_0 7 rfl rfl rfl) (zd_b zq_prog_14_method_18_code_0 8 rfl rfl rfl) (zd_b zq_prog_14_method_18_code_0 9 rfl rfl rfl)
theorem d_Mm_loose_10 : decode prog_14_method_18_code 10 = .ok (.invokevirtual 131, 3) := zo_182 (d := 0) (e := 131) (zd_b zq_prog_14_method_18_code_0 10 rfl rfl rfl) (zd_b zq_prog_14_method_18_code_0 11 rfl rfl rfl) (zd_b zq_prog_14_method_18_code_0 12 rfl rfl rfl)
theorem ok_Mm_loose_Mm_looseIn : z_ok M_Mm_loose M_Mm_looseIn 1 := ⟨z_mj7 (i := 237) rfl (by decide +kernel), rfl, ⟨by decide +kernel, by decide +kernel, by decide +kernel⟩, ⟨by decide, by decide⟩, z_mj1 (i := 14) rfl (by decide +kernel), rfl⟩
theorem ln_Mm_131 : Cond.methodLink "IronpourModel" 131 M_Mm_looseIn.1 ∈ z_gw := z_mj7 (i := 234) rfl (by decide +kernel)
theorem w_im_Mm_looseIn : Cond.instanceMethod M_Mm_looseIn.1 ∈ z_gw := z_mj7 (i := 236) rfl (by decide +kernel)
theorem w_se_Mm_looseIn : Cond.selects M_Mm_looseIn.1.cls M_Mm_looseIn.1 M_Mm_looseIn.1 ∈ z_gw := z_mem (i := 32) (by decide +kernel) (by decide +kernel)
theorem d_Mm_loose_13 : decode prog_14_method_18_code 13 = .ok (.ireturn, 1) := zo_172 (zd_b zq_prog_14_method_18_code_0 13 rfl rfl rfl)
abbrev M_Mm_fill : zM := (⟨"IronpourModel", "fill", "([C)V"⟩, prog_14_method_22_code, 7, (Option.none : Option FieldType), 5, 114, [])
theorem d_Mm_fill_2 : decode prog_14_method_22_code 2 = .ok (.iload_n 2, 1) := zo_28 (zd_b zq_prog_14_method_22_code_0 2 rfl rfl rfl)
theorem d_Mm_fill_3 : decode prog_14_method_22_code 3 = .ok (.bipush 108, 2) := zo_16 (d := 108) (zd_b zq_prog_14_method_22_code_0 3 rfl rfl rfl) (zd_b zq_prog_14_method_22_code_0 4 rfl rfl rfl) (by decide +kernel)
theorem d_Mm_fill_5 : decode prog_14_method_22_code 5 = .ok (.if_icmp .ge 16, 3) := zo_162 (d := 0) (e := 16) (zd_b zq_prog_14_method_22_code_0 5 rfl rfl rfl) (zd_b zq_prog_14_method_22_code_0 6 rfl rfl rfl) (zd_b zq_prog_14_method_22_code_0 7 rfl rfl rfl) (by decide +kernel)
theorem d_Mm_fill_21 : decode prog_14_method_22_code 21 = .ok (.aload_n 1, 1) := zo_43 (zd_b zq_prog_14_method_22_code_0 21 rfl rfl rfl)
theorem d_Mm_fill_22 : decode prog_14_method_22_code 22 = .ok (.invokestatic 137, 3) := zo_184 (d := 0) (e := 137) (zd_b zq_prog_14_method_22_code_0 22 rfl rfl rfl) (zd_b zq_prog_14_method_22_code_0 23 rfl rfl rfl) (zd_b zq_prog_14_method_22_code_0 24 rfl rfl rfl)
theorem ok_Mm_fill_Mm_gates : z_ok M_Mm_fill M_Mm_gates 1 := ⟨z_mj8 (i := 18) rfl (by decide +kernel), rfl, ⟨by decide +kernel, by decide +kernel, by decide +kernel⟩, ⟨by decide, by decide⟩, z_mj1 (i := 14) rfl (by decide +kernel), rfl⟩
theorem ln_Mm_137 : Cond.methodLink "IronpourModel" 137 M_Mm_gates.1 ∈ z_gw := z_mj8 (i := 16) rfl (by decide +kernel)
theorem w_st_Mm_gates : Cond.static M_Mm_gates.1 ∈ z_gw := z_mj8 (i := 17) rfl (by decide +kernel)
theorem d_Mm_fill_25 : decode prog_14_method_22_code 25 = .ok (.istore_n 2, 1) := zo_61 (zd_b zq_prog_14_method_22_code_0 25 rfl rfl rfl)
theorem d_Mm_fill_26 : decode prog_14_method_22_code 26 = .ok (.iconst 0, 1) := zo_3 (zd_b zq_prog_14_method_22_code_0 26 rfl rfl rfl)
theorem d_Mm_fill_27 : decode prog_14_method_22_code 27 = .ok (.istore_n 3, 1) := zo_62 (zd_b zq_prog_14_method_22_code_0 27 rfl rfl rfl)
theorem d_Mm_fill_28 : decode prog_14_method_22_code 28 = .ok (.iload_n 3, 1) := zo_29 (zd_b zq_prog_14_method_22_code_0 28 rfl rfl rfl)
theorem d_Mm_fill_29 : decode prog_14_method_22_code 29 = .ok (.bipush 12, 2) := zo_16 (d := 12) (zd_b zq_prog_14_method_22_code_0 29 rfl rfl rfl) (zd_b zq_prog_14_method_22_code_0 30 rfl rfl rfl) (by decide +kernel)
theorem d_Mm_fill_31 : decode prog_14_method_22_code 31 = .ok (.if_icmp .ge 31, 3) := zo_162 (d := 0) (e := 31) (zd_b zq_prog_14_method_22_code_0 31 rfl rfl rfl) (zd_b zq_prog_14_method_22_code_1 0 rfl rfl rfl) (zd_b zq_prog_14_method_22_code_1 1 rfl rfl rfl) (by decide +kernel)
theorem d_Mm_fill_34 : decode prog_14_method_22_code 34 = .ok (.iload_n 2, 1) := zo_28 (zd_b zq_prog_14_method_22_code_1 2 rfl rfl rfl)
theorem d_Mm_fill_35 : decode prog_14_method_22_code 35 = .ok (.ifCond .le 27, 3) := zo_158 (d := 0) (e := 27) (zd_b zq_prog_14_method_22_code_1 3 rfl rfl rfl) (zd_b zq_prog_14_method_22_code_1 4 rfl rfl rfl) (zd_b zq_prog_14_method_22_code_1 5 rfl rfl rfl) (by decide +kernel)
theorem d_Mm_fill_62 : decode prog_14_method_22_code 62 = .ok (.iload_n 2, 1) := zo_28 (zd_b zq_prog_14_method_22_code_1 30 rfl rfl rfl)
theorem d_Mm_fill_63 : decode prog_14_method_22_code 63 = .ok (.ifCond .le 7, 3) := zo_158 (d := 0) (e := 7) (zd_b zq_prog_14_method_22_code_1 31 rfl rfl rfl) (zd_b zq_prog_14_method_22_code_2 0 rfl rfl rfl) (zd_b zq_prog_14_method_22_code_2 1 rfl rfl rfl) (by decide +kernel)
theorem d_Mm_fill_70 : decode prog_14_method_22_code 70 = .ok (.iconst 0, 1) := zo_3 (zd_b zq_prog_14_method_22_code_2 6 rfl rfl rfl)
theorem d_Mm_fill_71 : decode prog_14_method_22_code 71 = .ok (.istore_n 3, 1) := zo_62 (zd_b zq_prog_14_method_22_code_2 7 rfl rfl rfl)
theorem d_Mm_fill_72 : decode prog_14_method_22_code 72 = .ok (.iconst 1, 1) := zo_4 (zd_b zq_prog_14_method_22_code_2 8 rfl rfl rfl)
theorem d_Mm_fill_73 : decode prog_14_method_22_code 73 = .ok (.istore 4, 2) := zo_54 (d := 4) (zd_b zq_prog_14_method_22_code_2 9 rfl rfl rfl) (zd_b zq_prog_14_method_22_code_2 10 rfl rfl rfl)
theorem d_Mm_fill_75 : decode prog_14_method_22_code 75 = .ok (.iload_n 3, 1) := zo_29 (zd_b zq_prog_14_method_22_code_2 11 rfl rfl rfl)
theorem d_Mm_fill_76 : decode prog_14_method_22_code 76 = .ok (.ifCond .eq 52, 3) := zo_153 (d := 0) (e := 52) (zd_b zq_prog_14_method_22_code_2 12 rfl rfl rfl) (zd_b zq_prog_14_method_22_code_2 13 rfl rfl rfl) (zd_b zq_prog_14_method_22_code_2 14 rfl rfl rfl) (by decide +kernel)
theorem d_Mm_fill_128 : decode prog_14_method_22_code 128 = .ok (.return_, 1) := zo_177 (zd_b zq_prog_14_method_22_code_4 0 rfl rfl rfl)
theorem d_Mm_fill_8 : decode prog_14_method_22_code 8 = .ok (.aload_n 0, 1) := zo_42 (zd_b zq_prog_14_method_22_code_0 8 rfl rfl rfl)
theorem d_Mm_fill_9 : decode prog_14_method_22_code 9 = .ok (.getfield 17, 3) := zo_180 (d := 0) (e := 17) (zd_b zq_prog_14_method_22_code_0 9 rfl rfl rfl) (zd_b zq_prog_14_method_22_code_0 10 rfl rfl rfl) (zd_b zq_prog_14_method_22_code_0 11 rfl rfl rfl)
theorem fs_Mm_17 : z_fs "IronpourModel" 17 12 3 := ⟨R_Mm, "IronpourModel", F_Mm, 31, rfl, u_Mm, by decide, Or.inl ⟨z_mj7 (i := 86) rfl (by decide +kernel), Or.inl rfl⟩⟩
theorem d_Mm_fill_12 : decode prog_14_method_22_code 12 = .ok (.iload_n 2, 1) := zo_28 (zd_b zq_prog_14_method_22_code_0 12 rfl rfl rfl)
theorem d_Mm_fill_13 : decode prog_14_method_22_code 13 = .ok (.iconst (-1), 1) := zo_2 (zd_b zq_prog_14_method_22_code_0 13 rfl rfl rfl)
theorem d_Mm_fill_14 : decode prog_14_method_22_code 14 = .ok (.iastore, 1) := zo_79 (zd_b zq_prog_14_method_22_code_0 14 rfl rfl rfl)
theorem d_Mm_fill_15 : decode prog_14_method_22_code 15 = .ok (.iinc 2 1, 3) := by decide +kernel
theorem d_Mm_fill_18 : decode prog_14_method_22_code 18 = .ok (.goto (-16), 3) := zo_167 (d := 255) (e := 240) (zd_b zq_prog_14_method_22_code_0 18 rfl rfl rfl) (zd_b zq_prog_14_method_22_code_0 19 rfl rfl rfl) (zd_b zq_prog_14_method_22_code_0 20 rfl rfl rfl) (by decide +kernel)
theorem d_Mm_fill_0 : decode prog_14_method_22_code 0 = .ok (.iconst 0, 1) := zo_3 (zd_b zq_prog_14_method_22_code_0 0 rfl rfl rfl)
theorem d_Mm_fill_1 : decode prog_14_method_22_code 1 = .ok (.istore_n 2, 1) := zo_61 (zd_b zq_prog_14_method_22_code_0 1 rfl rfl rfl)
abbrev M_Mm_filledIn : zM := (⟨"IronpourModel", "filledIn", "(II)I"⟩, prog_14_method_24_code, 3, (Option.some FieldType.int), 6, 140, [])
theorem d_Mm_filledIn_0 : decode prog_14_method_24_code 0 = .ok (.aload_n 0, 1) := zo_42 (zd_b zq_prog_14_method_24_code_0 0 rfl rfl rfl)
theorem d_Mm_filledIn_1 : decode prog_14_method_24_code 1 = .ok (.iconst 0, 1) := zo_3 (zd_b zq_prog_14_method_24_code_0 1 rfl rfl rfl)
theorem d_Mm_filledIn_2 : decode prog_14_method_24_code 2 = .ok (.putfield 84, 3) := zo_181 (d := 0) (e := 84) (zd_b zq_prog_14_method_24_code_0 2 rfl rfl rfl) (zd_b zq_prog_14_method_24_code_0 3 rfl rfl rfl) (zd_b zq_prog_14_method_24_code_0 4 rfl rfl rfl)
theorem d_Mm_filledIn_5 : decode prog_14_method_24_code 5 = .ok (.aload_n 0, 1) := zo_42 (zd_b zq_prog_14_method_24_code_0 5 rfl rfl rfl)
theorem d_Mm_filledIn_6 : decode prog_14_method_24_code 6 = .ok (.iload_n 1, 1) := zo_27 (zd_b zq_prog_14_method_24_code_0 6 rfl rfl rfl)
theorem d_Mm_filledIn_7 : decode prog_14_method_24_code 7 = .ok (.iload_n 2, 1) := zo_28 (zd_b zq_prog_14_method_24_code_0 7 rfl rfl rfl)
theorem d_Mm_filledIn_8 : decode prog_14_method_24_code 8 = .ok (.invokestatic 91, 3) := zo_184 (d := 0) (e := 91) (zd_b zq_prog_14_method_24_code_0 8 rfl rfl rfl) (zd_b zq_prog_14_method_24_code_0 9 rfl rfl rfl) (zd_b zq_prog_14_method_24_code_0 10 rfl rfl rfl)
theorem ok_Mm_filledIn_Mm_isCell : z_ok M_Mm_filledIn M_Mm_isCell 2 := ⟨z_mj7 (i := 187) rfl (by decide +kernel), rfl, ⟨by decide +kernel, by decide +kernel, by decide +kernel⟩, ⟨by decide, by decide⟩, z_mj1 (i := 14) rfl (by decide +kernel), rfl⟩
theorem d_Mm_filledIn_11 : decode prog_14_method_24_code 11 = .ok (.ifCond .ne 7, 3) := zo_154 (d := 0) (e := 7) (zd_b zq_prog_14_method_24_code_0 11 rfl rfl rfl) (zd_b zq_prog_14_method_24_code_0 12 rfl rfl rfl) (zd_b zq_prog_14_method_24_code_0 13 rfl rfl rfl) (by decide +kernel)
theorem d_Mm_filledIn_14 : decode prog_14_method_24_code 14 = .ok (.iconst 1, 1) := zo_4 (zd_b zq_prog_14_method_24_code_0 14 rfl rfl rfl)
theorem d_Mm_filledIn_15 : decode prog_14_method_24_code 15 = .ok (.goto 4, 3) := zo_167 (d := 0) (e := 4) (zd_b zq_prog_14_method_24_code_0 15 rfl rfl rfl) (zd_b zq_prog_14_method_24_code_0 16 rfl rfl rfl) (zd_b zq_prog_14_method_24_code_0 17 rfl rfl rfl) (by decide +kernel)
theorem d_Mm_filledIn_19 : decode prog_14_method_24_code 19 = .ok (.iconst 1, 1) := zo_4 (zd_b zq_prog_14_method_24_code_0 19 rfl rfl rfl)
theorem d_Mm_filledIn_20 : decode prog_14_method_24_code 20 = .ok (.invokevirtual 103, 3) := zo_182 (d := 0) (e := 103) (zd_b zq_prog_14_method_24_code_0 20 rfl rfl rfl) (zd_b zq_prog_14_method_24_code_0 21 rfl rfl rfl) (zd_b zq_prog_14_method_24_code_0 22 rfl rfl rfl)
theorem ok_Mm_filledIn_Mm_fails : z_ok M_Mm_filledIn M_Mm_fails 2 := ⟨z_mj7 (i := 196) rfl (by decide +kernel), rfl, ⟨by decide +kernel, by decide +kernel, by decide +kernel⟩, ⟨by decide, by decide⟩, z_mj1 (i := 14) rfl (by decide +kernel), rfl⟩
theorem d_Mm_filledIn_23 : decode prog_14_method_24_code 23 = .ok (.ifCond .eq 5, 3) := zo_153 (d := 0) (e := 5) (zd_b zq_prog_14_method_24_code_0 23 rfl rfl rfl) (zd_b zq_prog_14_method_24_code_0 24 rfl rfl rfl) (zd_b zq_prog_14_method_24_code_0 25 rfl rfl rfl) (by decide +kernel)
theorem d_Mm_filledIn_26 : decode prog_14_method_24_code 26 = .ok (.iconst 0, 1) := zo_3 (zd_b zq_prog_14_method_24_code_0 26 rfl rfl rfl)
theorem d_Mm_filledIn_27 : decode prog_14_method_24_code 27 = .ok (.ireturn, 1) := zo_172 (zd_b zq_prog_14_method_24_code_0 27 rfl rfl rfl)
set_option maxHeartbeats 4000000 in
set_option maxRecDepth 100000 in
theorem C_Mm_filledInE (g : zG) (m mp mf mh mn mt mz mc_ mq mgr ml mi mr mm mu mk mx : Nat) (th pt cl wa co_ fi bu ho lh mg wd fpi fal : Int32) (po de : Int64) (f : Nat → Int32) (x y : Int32) (hz : z_cl x y = none) : CT g M_Mm_filledIn [.ref m, .int x, .int y] [(m, .inr (12, [.int th, .ref mp, .int pt, .ref mf, .ref mh, .ref mn, .ref mt, .ref mz, .ref mc_, .ref mq, .ref mgr, .int cl, .int wa, .int co_, .int fi, .int bu, .int ho, .ref ml, .ref mi, .ref mr, .int lh, .int mg, .int wd, .int fpi, .int fal, .ref mm, .ref mu, .ref mk, .ref mx, .long po, .long de])), (mp, .inl (1, 108, .inl f))] (fun o cs1 => o = .inl (some (.int 0)) ∧ cs1 = [(m, .inr (12, [.int 1, .ref mp, .int pt, .ref mf, .ref mh, .ref mn, .ref mt, .ref mz, .ref mc_, .ref mq, .ref mgr, .int cl, .int wa, .int co_, .int fi, .int bu, .int ho, .ref ml, .ref mi, .ref mr, .int lh, .int mg, .int wd, .int fpi, .int fal, .ref mm, .ref mu, .ref mk, .ref mx, .long po, .long de])), (mp, .inl (1, 108, .inl f))]) 0 0 := by
  refine z_of (by decide) rfl (Nat.le_of_ble_eq_true rfl) (fun w0 => ?_)
  refine r_lvE (lv2 := [(0, .ref m), (1, .int x), (2, .int y)]) rfl ?_
  refine r_aload_n d_Mm_filledIn_0 rfl 0 rfl ?_
  refine r_iconst d_Mm_filledIn_1 (v := 0) (by decide) ?_
  refine r_put fp_Mm_84 d_Mm_filledIn_2 (fun h => nomatch h) rfl rfl (q0 := 0) rfl (Nat.le_of_ble_eq_true rfl) (cs' := [(m, .inr (12, [.int 0, .ref mp, .int pt, .ref mf, .ref mh, .ref mn, .ref mt, .ref mz, .ref mc_, .ref mq, .ref mgr, .int cl, .int wa, .int co_, .int fi, .int bu, .int ho, .ref ml, .ref mi, .ref mr, .int lh, .int mg, .int wd, .int fpi, .int fal, .ref mm, .ref mu, .ref mk, .ref mx, .long po, .long de])), (mp, .inl (1, 108, .inl f))]) rfl ?_
  refine r_aload_n d_Mm_filledIn_5 rfl 0 rfl ?_
  refine r_iload_n d_Mm_filledIn_6 rfl 1 rfl ?_
  refine r_iload_n d_Mm_filledIn_7 rfl 2 rfl ?_
  refine r_callS (As := [.int x, .int y]) (rest := [.ref m]) (csC := []) (is := []) ln_Mm_91 w_st_Mm_isCell ok_Mm_filledIn_Mm_isCell d_Mm_filledIn_8 (C_Mm_isCell g x y) rfl rfl (Nat.le_of_ble_eq_true rfl) rfl (by decide) (by omega) (by omega) (fun E cs1 hx => ?_) (fun v cs1 hx => ?_)
  · exact absurd hx.1 (by simp)
  · obtain ⟨e1, rfl⟩ := hx
    rw [if_neg (z_clN hz)] at e1
    cases e1
    refine ⟨rfl, ?_⟩
    refine r_st (st2 := [.int 0, .ref m]) rfl ?_
    refine r_cs (cs2 := [(m, .inr (12, [.int 0, .ref mp, .int pt, .ref mf, .ref mh, .ref mn, .ref mt, .ref mz, .ref mc_, .ref mq, .ref mgr, .int cl, .int wa, .int co_, .int fi, .int bu, .int ho, .ref ml, .ref mi, .ref mr, .int lh, .int mg, .int wd, .int fpi, .int fal, .ref mm, .ref mu, .ref mk, .ref mx, .long po, .long de])), (mp, .inl (1, 108, .inl f))]) rfl ?_
    refine r_if_ne (tgt := 18) d_Mm_filledIn_11 (by decide) (fun c_11 => ?_) (fun c_11 => ?_)
    · exact absurd c_11 (by decide)
    · refine r_iconst d_Mm_filledIn_14 (v := 1) (by decide) ?_
      refine r_goto (tgt := 19) d_Mm_filledIn_15 (by decide) ?_
      refine r_iconst d_Mm_filledIn_19 (v := 1) (by decide) ?_
      refine r_callV (As := [.int 1, .int 1]) (rest := []) (csC := [(m, .inr (12, [.int 0, .ref mp, .int pt, .ref mf, .ref mh, .ref mn, .ref mt, .ref mz, .ref mc_, .ref mq, .ref mgr, .int cl, .int wa, .int co_, .int fi, .int bu, .int ho, .ref ml, .ref mi, .ref mr, .int lh, .int mg, .int wd, .int fpi, .int fal, .ref mm, .ref mu, .ref mk, .ref mx, .long po, .long de]))]) (is := [0]) (q0 := 0) rfl rfl ln_Mm_103 w_im_Mm_fails w_se_Mm_fails ok_Mm_filledIn_Mm_fails d_Mm_filledIn_20 (C_Mm_fails1 g m mp mf mh mn mt mz mc_ mq mgr ml mi mr mm mu mk mx th pt cl wa co_ fi bu ho lh mg wd fpi fal po de) rfl rfl (Nat.le_of_ble_eq_true rfl) rfl (by decide) (by omega) (by omega) (fun E cs1 hx => ?_) (fun v cs1 hx => ?_)
      · exact absurd hx.1 (by simp)
      · obtain ⟨e1, rfl⟩ := hx
        cases e1
        refine ⟨rfl, ?_⟩
        refine r_st (st2 := [.int 1]) rfl ?_
        refine r_cs (cs2 := [(m, .inr (12, [.int 1, .ref mp, .int pt, .ref mf, .ref mh, .ref mn, .ref mt, .ref mz, .ref mc_, .ref mq, .ref mgr, .int cl, .int wa, .int co_, .int fi, .int bu, .int ho, .ref ml, .ref mi, .ref mr, .int lh, .int mg, .int wd, .int fpi, .int fal, .ref mm, .ref mu, .ref mk, .ref mx, .long po, .long de])), (mp, .inl (1, 108, .inl f))]) rfl ?_
        refine r_if_eq (tgt := 28) d_Mm_filledIn_23 (by decide) (fun c_23 => ?_) (fun c_23 => ?_)
        · exact absurd c_23 (by decide)
        · refine r_iconst d_Mm_filledIn_26 (v := 0) (by decide) ?_
          refine r_iret d_Mm_filledIn_27 rfl rfl ?_
          exact ⟨rfl, rfl⟩
theorem d_Mm_filledIn_18 : decode prog_14_method_24_code 18 = .ok (.iconst 0, 1) := zo_3 (zd_b zq_prog_14_method_24_code_0 18 rfl rfl rfl)
theorem d_Mm_filledIn_28 : decode prog_14_method_24_code 28 = .ok (.aload_n 0, 1) := zo_42 (zd_b zq_prog_14_method_24_code_0 28 rfl rfl rfl)
theorem d_Mm_filledIn_29 : decode prog_14_method_24_code 29 = .ok (.aload_n 0, 1) := zo_42 (zd_b zq_prog_14_method_24_code_0 29 rfl rfl rfl)
theorem d_Mm_filledIn_30 : decode prog_14_method_24_code 30 = .ok (.getfield 7, 3) := zo_180 (d := 0) (e := 7) (zd_b zq_prog_14_method_24_code_0 30 rfl rfl rfl) (zd_b zq_prog_14_method_24_code_0 31 rfl rfl rfl) (zd_b zq_prog_14_method_24_code_1 0 rfl rfl rfl)
theorem d_Mm_filledIn_33 : decode prog_14_method_24_code 33 = .ok (.invokevirtual 143, 3) := zo_182 (d := 0) (e := 143) (zd_b zq_prog_14_method_24_code_1 1 rfl rfl rfl) (zd_b zq_prog_14_method_24_code_1 2 rfl rfl rfl) (zd_b zq_prog_14_method_24_code_1 3 rfl rfl rfl)
theorem ok_Mm_filledIn_Mm_fill : z_ok M_Mm_filledIn M_Mm_fill 1 := ⟨z_mj8 (i := 15) rfl (by decide +kernel), rfl, ⟨by decide +kernel, by decide +kernel, by decide +kernel⟩, ⟨by decide, by decide⟩, z_mj1 (i := 14) rfl (by decide +kernel), rfl⟩
theorem ln_Mm_143 : Cond.methodLink "IronpourModel" 143 M_Mm_fill.1 ∈ z_gw := z_mj8 (i := 12) rfl (by decide +kernel)
theorem w_im_Mm_fill : Cond.instanceMethod M_Mm_fill.1 ∈ z_gw := z_mj8 (i := 14) rfl (by decide +kernel)
theorem w_se_Mm_fill : Cond.selects M_Mm_fill.1.cls M_Mm_fill.1 M_Mm_fill.1 ∈ z_gw := z_mem (i := 33) (by decide +kernel) (by decide +kernel)
theorem d_Mm_filledIn_36 : decode prog_14_method_24_code 36 = .ok (.aload_n 0, 1) := zo_42 (zd_b zq_prog_14_method_24_code_1 4 rfl rfl rfl)
theorem d_Mm_filledIn_37 : decode prog_14_method_24_code 37 = .ok (.getfield 17, 3) := zo_180 (d := 0) (e := 17) (zd_b zq_prog_14_method_24_code_1 5 rfl rfl rfl) (zd_b zq_prog_14_method_24_code_1 6 rfl rfl rfl) (zd_b zq_prog_14_method_24_code_1 7 rfl rfl rfl)
theorem d_Mm_filledIn_40 : decode prog_14_method_24_code 40 = .ok (.bipush 12, 2) := zo_16 (d := 12) (zd_b zq_prog_14_method_24_code_1 8 rfl rfl rfl) (zd_b zq_prog_14_method_24_code_1 9 rfl rfl rfl) (by decide +kernel)
theorem d_Mm_filledIn_42 : decode prog_14_method_24_code 42 = .ok (.iload_n 2, 1) := zo_28 (zd_b zq_prog_14_method_24_code_1 10 rfl rfl rfl)
theorem d_Mm_filledIn_43 : decode prog_14_method_24_code 43 = .ok (.imul, 1) := zo_104 (zd_b zq_prog_14_method_24_code_1 11 rfl rfl rfl)
theorem d_Mm_filledIn_44 : decode prog_14_method_24_code 44 = .ok (.iload_n 1, 1) := zo_27 (zd_b zq_prog_14_method_24_code_1 12 rfl rfl rfl)
theorem d_Mm_filledIn_45 : decode prog_14_method_24_code 45 = .ok (.iadd, 1) := zo_96 (zd_b zq_prog_14_method_24_code_1 13 rfl rfl rfl)
theorem d_Mm_filledIn_46 : decode prog_14_method_24_code 46 = .ok (.iaload, 1) := zo_46 (zd_b zq_prog_14_method_24_code_1 14 rfl rfl rfl)
theorem d_Mm_filledIn_47 : decode prog_14_method_24_code 47 = .ok (.ireturn, 1) := zo_172 (zd_b zq_prog_14_method_24_code_1 15 rfl rfl rfl)
abbrev M_Mm_speed : zM := (⟨"IronpourModel", "speed", "()I"⟩, prog_14_method_26_code, 1, (Option.some FieldType.int), 3, 64, [])
theorem d_Mm_speed_0 : decode prog_14_method_26_code 0 = .ok (.aload_n 0, 1) := zo_42 (zd_b zq_prog_14_method_26_code_0 0 rfl rfl rfl)
theorem d_Mm_speed_1 : decode prog_14_method_26_code 1 = .ok (.iconst 0, 1) := zo_3 (zd_b zq_prog_14_method_26_code_0 1 rfl rfl rfl)
theorem d_Mm_speed_2 : decode prog_14_method_26_code 2 = .ok (.putfield 84, 3) := zo_181 (d := 0) (e := 84) (zd_b zq_prog_14_method_26_code_0 2 rfl rfl rfl) (zd_b zq_prog_14_method_26_code_0 3 rfl rfl rfl) (zd_b zq_prog_14_method_26_code_0 4 rfl rfl rfl)
theorem d_Mm_speed_5 : decode prog_14_method_26_code 5 = .ok (.aload_n 0, 1) := zo_42 (zd_b zq_prog_14_method_26_code_0 5 rfl rfl rfl)
theorem d_Mm_speed_6 : decode prog_14_method_26_code 6 = .ok (.aload_n 0, 1) := zo_42 (zd_b zq_prog_14_method_26_code_0 6 rfl rfl rfl)
theorem d_Mm_speed_7 : decode prog_14_method_26_code 7 = .ok (.getfield 7, 3) := zo_180 (d := 0) (e := 7) (zd_b zq_prog_14_method_26_code_0 7 rfl rfl rfl) (zd_b zq_prog_14_method_26_code_0 8 rfl rfl rfl) (zd_b zq_prog_14_method_26_code_0 9 rfl rfl rfl)
theorem d_Mm_speed_10 : decode prog_14_method_26_code 10 = .ok (.invokestatic 137, 3) := zo_184 (d := 0) (e := 137) (zd_b zq_prog_14_method_26_code_0 10 rfl rfl rfl) (zd_b zq_prog_14_method_26_code_0 11 rfl rfl rfl) (zd_b zq_prog_14_method_26_code_0 12 rfl rfl rfl)
theorem ok_Mm_speed_Mm_gates : z_ok M_Mm_speed M_Mm_gates 1 := ⟨z_mj8 (i := 18) rfl (by decide +kernel), rfl, ⟨by decide +kernel, by decide +kernel, by decide +kernel⟩, ⟨by decide, by decide⟩, z_mj1 (i := 14) rfl (by decide +kernel), rfl⟩
theorem d_Mm_speed_13 : decode prog_14_method_26_code 13 = .ok (.ifCond .ne 7, 3) := zo_154 (d := 0) (e := 7) (zd_b zq_prog_14_method_26_code_0 13 rfl rfl rfl) (zd_b zq_prog_14_method_26_code_0 14 rfl rfl rfl) (zd_b zq_prog_14_method_26_code_0 15 rfl rfl rfl) (by decide +kernel)
theorem d_Mm_speed_16 : decode prog_14_method_26_code 16 = .ok (.iconst 1, 1) := zo_4 (zd_b zq_prog_14_method_26_code_0 16 rfl rfl rfl)
theorem d_Mm_speed_17 : decode prog_14_method_26_code 17 = .ok (.goto 4, 3) := zo_167 (d := 0) (e := 4) (zd_b zq_prog_14_method_26_code_0 17 rfl rfl rfl) (zd_b zq_prog_14_method_26_code_0 18 rfl rfl rfl) (zd_b zq_prog_14_method_26_code_0 19 rfl rfl rfl) (by decide +kernel)
theorem d_Mm_speed_21 : decode prog_14_method_26_code 21 = .ok (.iconst 1, 1) := zo_4 (zd_b zq_prog_14_method_26_code_0 21 rfl rfl rfl)
theorem d_Mm_speed_22 : decode prog_14_method_26_code 22 = .ok (.invokevirtual 103, 3) := zo_182 (d := 0) (e := 103) (zd_b zq_prog_14_method_26_code_0 22 rfl rfl rfl) (zd_b zq_prog_14_method_26_code_0 23 rfl rfl rfl) (zd_b zq_prog_14_method_26_code_0 24 rfl rfl rfl)
theorem ok_Mm_speed_Mm_fails : z_ok M_Mm_speed M_Mm_fails 2 := ⟨z_mj7 (i := 196) rfl (by decide +kernel), rfl, ⟨by decide +kernel, by decide +kernel, by decide +kernel⟩, ⟨by decide, by decide⟩, z_mj1 (i := 14) rfl (by decide +kernel), rfl⟩
theorem d_Mm_speed_25 : decode prog_14_method_26_code 25 = .ok (.ifCond .eq 7, 3) := zo_153 (d := 0) (e := 7) (zd_b zq_prog_14_method_26_code_0 25 rfl rfl rfl) (zd_b zq_prog_14_method_26_code_0 26 rfl rfl rfl) (zd_b zq_prog_14_method_26_code_0 27 rfl rfl rfl) (by decide +kernel)
theorem d_Mm_speed_28 : decode prog_14_method_26_code 28 = .ok (.iconst 0, 1) := zo_3 (zd_b zq_prog_14_method_26_code_0 28 rfl rfl rfl)
theorem d_Mm_speed_29 : decode prog_14_method_26_code 29 = .ok (.goto 10, 3) := zo_167 (d := 0) (e := 10) (zd_b zq_prog_14_method_26_code_0 29 rfl rfl rfl) (zd_b zq_prog_14_method_26_code_0 30 rfl rfl rfl) (zd_b zq_prog_14_method_26_code_0 31 rfl rfl rfl) (by decide +kernel)
theorem d_Mm_speed_39 : decode prog_14_method_26_code 39 = .ok (.ireturn, 1) := zo_172 (zd_b zq_prog_14_method_26_code_1 7 rfl rfl rfl)
abbrev M_Mm_number : zM := (⟨"IronpourModel", "number", "([CII)I"⟩, prog_14_method_27_code, 6, (Option.some FieldType.int), 1, 20, [])
theorem d_Mm_number_0 : decode prog_14_method_27_code 0 = .ok (.aload_n 0, 1) := zo_42 (zd_b zq_prog_14_method_27_code_0 0 rfl rfl rfl)
theorem d_Mm_number_1 : decode prog_14_method_27_code 1 = .ok (.getfield 17, 3) := zo_180 (d := 0) (e := 17) (zd_b zq_prog_14_method_27_code_0 1 rfl rfl rfl) (zd_b zq_prog_14_method_27_code_0 2 rfl rfl rfl) (zd_b zq_prog_14_method_27_code_0 3 rfl rfl rfl)
theorem d_Mm_number_4 : decode prog_14_method_27_code 4 = .ok (.iload_n 2, 1) := zo_28 (zd_b zq_prog_14_method_27_code_0 4 rfl rfl rfl)
theorem d_Mm_number_5 : decode prog_14_method_27_code 5 = .ok (.iaload, 1) := zo_46 (zd_b zq_prog_14_method_27_code_0 5 rfl rfl rfl)
theorem d_Mm_number_6 : decode prog_14_method_27_code 6 = .ok (.iconst (-1), 1) := zo_2 (zd_b zq_prog_14_method_27_code_0 6 rfl rfl rfl)
theorem d_Mm_number_7 : decode prog_14_method_27_code 7 = .ok (.if_icmp .eq 7, 3) := zo_159 (d := 0) (e := 7) (zd_b zq_prog_14_method_27_code_0 7 rfl rfl rfl) (zd_b zq_prog_14_method_27_code_0 8 rfl rfl rfl) (zd_b zq_prog_14_method_27_code_0 9 rfl rfl rfl) (by decide +kernel)
theorem d_Mm_number_14 : decode prog_14_method_27_code 14 = .ok (.iconst 0, 1) := zo_3 (zd_b zq_prog_14_method_27_code_0 14 rfl rfl rfl)
theorem d_Mm_number_15 : decode prog_14_method_27_code 15 = .ok (.istore 4, 2) := zo_54 (d := 4) (zd_b zq_prog_14_method_27_code_0 15 rfl rfl rfl) (zd_b zq_prog_14_method_27_code_0 16 rfl rfl rfl)
theorem d_Mm_number_17 : decode prog_14_method_27_code 17 = .ok (.aload_n 0, 1) := zo_42 (zd_b zq_prog_14_method_27_code_0 17 rfl rfl rfl)
theorem d_Mm_number_18 : decode prog_14_method_27_code 18 = .ok (.getfield 17, 3) := zo_180 (d := 0) (e := 17) (zd_b zq_prog_14_method_27_code_0 18 rfl rfl rfl) (zd_b zq_prog_14_method_27_code_0 19 rfl rfl rfl) (zd_b zq_prog_14_method_27_code_0 20 rfl rfl rfl)
theorem d_Mm_number_21 : decode prog_14_method_27_code 21 = .ok (.iload_n 3, 1) := zo_29 (zd_b zq_prog_14_method_27_code_0 21 rfl rfl rfl)
theorem d_Mm_number_22 : decode prog_14_method_27_code 22 = .ok (.iaload, 1) := zo_46 (zd_b zq_prog_14_method_27_code_0 22 rfl rfl rfl)
theorem d_Mm_number_23 : decode prog_14_method_27_code 23 = .ok (.iconst (-1), 1) := zo_2 (zd_b zq_prog_14_method_27_code_0 23 rfl rfl rfl)
theorem d_Mm_number_24 : decode prog_14_method_27_code 24 = .ok (.if_icmp .eq 7, 3) := zo_159 (d := 0) (e := 7) (zd_b zq_prog_14_method_27_code_0 24 rfl rfl rfl) (zd_b zq_prog_14_method_27_code_0 25 rfl rfl rfl) (zd_b zq_prog_14_method_27_code_0 26 rfl rfl rfl) (by decide +kernel)
theorem d_Mm_number_31 : decode prog_14_method_27_code 31 = .ok (.iconst 0, 1) := zo_3 (zd_b zq_prog_14_method_27_code_0 31 rfl rfl rfl)
theorem d_Mm_number_32 : decode prog_14_method_27_code 32 = .ok (.istore 5, 2) := zo_54 (d := 5) (zd_b zq_prog_14_method_27_code_1 0 rfl rfl rfl) (zd_b zq_prog_14_method_27_code_1 1 rfl rfl rfl)
theorem d_Mm_number_34 : decode prog_14_method_27_code 34 = .ok (.aload_n 1, 1) := zo_43 (zd_b zq_prog_14_method_27_code_1 2 rfl rfl rfl)
theorem d_Mm_number_35 : decode prog_14_method_27_code 35 = .ok (.iload_n 2, 1) := zo_28 (zd_b zq_prog_14_method_27_code_1 3 rfl rfl rfl)
theorem d_Mm_number_36 : decode prog_14_method_27_code 36 = .ok (.caload, 1) := zo_52 (zd_b zq_prog_14_method_27_code_1 4 rfl rfl rfl)
theorem d_Mm_number_37 : decode prog_14_method_27_code 37 = .ok (.bipush 107, 2) := zo_16 (d := 107) (zd_b zq_prog_14_method_27_code_1 5 rfl rfl rfl) (zd_b zq_prog_14_method_27_code_1 6 rfl rfl rfl) (by decide +kernel)
theorem d_Mm_number_39 : decode prog_14_method_27_code 39 = .ok (.if_icmp .ne 8, 3) := zo_160 (d := 0) (e := 8) (zd_b zq_prog_14_method_27_code_1 7 rfl rfl rfl) (zd_b zq_prog_14_method_27_code_1 8 rfl rfl rfl) (zd_b zq_prog_14_method_27_code_1 9 rfl rfl rfl) (by decide +kernel)
theorem d_Mm_number_47 : decode prog_14_method_27_code 47 = .ok (.aload_n 1, 1) := zo_43 (zd_b zq_prog_14_method_27_code_1 15 rfl rfl rfl)
theorem d_Mm_number_48 : decode prog_14_method_27_code 48 = .ok (.iload_n 3, 1) := zo_29 (zd_b zq_prog_14_method_27_code_1 16 rfl rfl rfl)
theorem d_Mm_number_49 : decode prog_14_method_27_code 49 = .ok (.caload, 1) := zo_52 (zd_b zq_prog_14_method_27_code_1 17 rfl rfl rfl)
theorem d_Mm_number_50 : decode prog_14_method_27_code 50 = .ok (.bipush 107, 2) := zo_16 (d := 107) (zd_b zq_prog_14_method_27_code_1 18 rfl rfl rfl) (zd_b zq_prog_14_method_27_code_1 19 rfl rfl rfl) (by decide +kernel)
theorem d_Mm_number_52 : decode prog_14_method_27_code 52 = .ok (.if_icmp .ne 11, 3) := zo_160 (d := 0) (e := 11) (zd_b zq_prog_14_method_27_code_1 20 rfl rfl rfl) (zd_b zq_prog_14_method_27_code_1 21 rfl rfl rfl) (zd_b zq_prog_14_method_27_code_1 22 rfl rfl rfl) (by decide +kernel)
theorem d_Mm_number_63 : decode prog_14_method_27_code 63 = .ok (.iload 4, 2) := zo_21 (d := 4) (zd_b zq_prog_14_method_27_code_1 31 rfl rfl rfl) (zd_b zq_prog_14_method_27_code_2 0 rfl rfl rfl)
theorem d_Mm_number_65 : decode prog_14_method_27_code 65 = .ok (.ifCond .eq 11, 3) := zo_153 (d := 0) (e := 11) (zd_b zq_prog_14_method_27_code_2 1 rfl rfl rfl) (zd_b zq_prog_14_method_27_code_2 2 rfl rfl rfl) (zd_b zq_prog_14_method_27_code_2 3 rfl rfl rfl) (by decide +kernel)
theorem d_Mm_number_76 : decode prog_14_method_27_code 76 = .ok (.iload 4, 2) := zo_21 (d := 4) (zd_b zq_prog_14_method_27_code_2 12 rfl rfl rfl) (zd_b zq_prog_14_method_27_code_2 13 rfl rfl rfl)
theorem d_Mm_number_78 : decode prog_14_method_27_code 78 = .ok (.ifCond .eq 11, 3) := zo_153 (d := 0) (e := 11) (zd_b zq_prog_14_method_27_code_2 14 rfl rfl rfl) (zd_b zq_prog_14_method_27_code_2 15 rfl rfl rfl) (zd_b zq_prog_14_method_27_code_2 16 rfl rfl rfl) (by decide +kernel)
theorem d_Mm_number_89 : decode prog_14_method_27_code 89 = .ok (.iload 5, 2) := zo_21 (d := 5) (zd_b zq_prog_14_method_27_code_2 25 rfl rfl rfl) (zd_b zq_prog_14_method_27_code_2 26 rfl rfl rfl)
theorem d_Mm_number_91 : decode prog_14_method_27_code 91 = .ok (.ifCond .eq 15, 3) := zo_153 (d := 0) (e := 15) (zd_b zq_prog_14_method_27_code_2 27 rfl rfl rfl) (zd_b zq_prog_14_method_27_code_2 28 rfl rfl rfl) (zd_b zq_prog_14_method_27_code_2 29 rfl rfl rfl) (by decide +kernel)
theorem d_Mm_number_106 : decode prog_14_method_27_code 106 = .ok (.iconst 4, 1) := zo_7 (zd_b zq_prog_14_method_27_code_3 10 rfl rfl rfl)
theorem d_Mm_number_107 : decode prog_14_method_27_code 107 = .ok (.ireturn, 1) := zo_172 (zd_b zq_prog_14_method_27_code_3 11 rfl rfl rfl)
theorem d_Mm_number_55 : decode prog_14_method_27_code 55 = .ok (.iload 4, 2) := zo_21 (d := 4) (zd_b zq_prog_14_method_27_code_1 23 rfl rfl rfl) (zd_b zq_prog_14_method_27_code_1 24 rfl rfl rfl)
theorem d_Mm_number_57 : decode prog_14_method_27_code 57 = .ok (.ifCond .eq 6, 3) := zo_153 (d := 0) (e := 6) (zd_b zq_prog_14_method_27_code_1 25 rfl rfl rfl) (zd_b zq_prog_14_method_27_code_1 26 rfl rfl rfl) (zd_b zq_prog_14_method_27_code_1 27 rfl rfl rfl) (by decide +kernel)
theorem d_Mm_number_42 : decode prog_14_method_27_code 42 = .ok (.iload 5, 2) := zo_21 (d := 5) (zd_b zq_prog_14_method_27_code_1 10 rfl rfl rfl) (zd_b zq_prog_14_method_27_code_1 11 rfl rfl rfl)
theorem d_Mm_number_44 : decode prog_14_method_27_code 44 = .ok (.ifCond .ne 16, 3) := zo_154 (d := 0) (e := 16) (zd_b zq_prog_14_method_27_code_1 12 rfl rfl rfl) (zd_b zq_prog_14_method_27_code_1 13 rfl rfl rfl) (zd_b zq_prog_14_method_27_code_1 14 rfl rfl rfl) (by decide +kernel)
abbrev M_Mm_gains : zM := (⟨"IronpourModel", "gains", "([CI)I"⟩, prog_14_method_28_code, 7, (Option.some FieldType.int), 4, 86, [])
theorem d_Mm_gains_5 : decode prog_14_method_28_code 5 = .ok (.iload 4, 2) := zo_21 (d := 4) (zd_b zq_prog_14_method_28_code_0 5 rfl rfl rfl) (zd_b zq_prog_14_method_28_code_0 6 rfl rfl rfl)
theorem d_Mm_gains_7 : decode prog_14_method_28_code 7 = .ok (.iconst 4, 1) := zo_7 (zd_b zq_prog_14_method_28_code_0 7 rfl rfl rfl)
theorem d_Mm_gains_8 : decode prog_14_method_28_code 8 = .ok (.if_icmp .ge 71, 3) := zo_162 (d := 0) (e := 71) (zd_b zq_prog_14_method_28_code_0 8 rfl rfl rfl) (zd_b zq_prog_14_method_28_code_0 9 rfl rfl rfl) (zd_b zq_prog_14_method_28_code_0 10 rfl rfl rfl) (by decide +kernel)
theorem d_Mm_gains_79 : decode prog_14_method_28_code 79 = .ok (.iload_n 3, 1) := zo_29 (zd_b zq_prog_14_method_28_code_2 15 rfl rfl rfl)
theorem d_Mm_gains_80 : decode prog_14_method_28_code 80 = .ok (.ireturn, 1) := zo_172 (zd_b zq_prog_14_method_28_code_2 16 rfl rfl rfl)
theorem d_Mm_gains_11 : decode prog_14_method_28_code 11 = .ok (.iload_n 2, 1) := zo_28 (zd_b zq_prog_14_method_28_code_0 11 rfl rfl rfl)
theorem d_Mm_gains_12 : decode prog_14_method_28_code 12 = .ok (.iload 4, 2) := zo_21 (d := 4) (zd_b zq_prog_14_method_28_code_0 12 rfl rfl rfl) (zd_b zq_prog_14_method_28_code_0 13 rfl rfl rfl)
theorem d_Mm_gains_14 : decode prog_14_method_28_code 14 = .ok (.invokestatic 119, 3) := zo_184 (d := 0) (e := 119) (zd_b zq_prog_14_method_28_code_0 14 rfl rfl rfl) (zd_b zq_prog_14_method_28_code_0 15 rfl rfl rfl) (zd_b zq_prog_14_method_28_code_0 16 rfl rfl rfl)
theorem ok_Mm_gains_Mm_beside : z_ok M_Mm_gains M_Mm_beside 2 := ⟨z_mj7 (i := 229) rfl (by decide +kernel), rfl, ⟨by decide +kernel, by decide +kernel, by decide +kernel⟩, ⟨by decide, by decide⟩, z_mj1 (i := 14) rfl (by decide +kernel), rfl⟩
theorem ln_Mm_119 : Cond.methodLink "IronpourModel" 119 M_Mm_beside.1 ∈ z_gw := z_mj7 (i := 227) rfl (by decide +kernel)
theorem w_st_Mm_beside : Cond.static M_Mm_beside.1 ∈ z_gw := z_mj7 (i := 228) rfl (by decide +kernel)
theorem d_Mm_gains_17 : decode prog_14_method_28_code 17 = .ok (.istore 5, 2) := zo_54 (d := 5) (zd_b zq_prog_14_method_28_code_0 17 rfl rfl rfl) (zd_b zq_prog_14_method_28_code_0 18 rfl rfl rfl)
theorem d_Mm_gains_19 : decode prog_14_method_28_code 19 = .ok (.iload 5, 2) := zo_21 (d := 5) (zd_b zq_prog_14_method_28_code_0 19 rfl rfl rfl) (zd_b zq_prog_14_method_28_code_0 20 rfl rfl rfl)
theorem d_Mm_gains_21 : decode prog_14_method_28_code 21 = .ok (.iconst (-1), 1) := zo_2 (zd_b zq_prog_14_method_28_code_0 21 rfl rfl rfl)
theorem d_Mm_gains_22 : decode prog_14_method_28_code 22 = .ok (.if_icmp .ne 8, 3) := zo_160 (d := 0) (e := 8) (zd_b zq_prog_14_method_28_code_0 22 rfl rfl rfl) (zd_b zq_prog_14_method_28_code_0 23 rfl rfl rfl) (zd_b zq_prog_14_method_28_code_0 24 rfl rfl rfl) (by decide +kernel)
theorem d_Mm_gains_30 : decode prog_14_method_28_code 30 = .ok (.aload_n 0, 1) := zo_42 (zd_b zq_prog_14_method_28_code_0 30 rfl rfl rfl)
theorem d_Mm_gains_31 : decode prog_14_method_28_code 31 = .ok (.getfield 21, 3) := zo_180 (d := 0) (e := 21) (zd_b zq_prog_14_method_28_code_0 31 rfl rfl rfl) (zd_b zq_prog_14_method_28_code_1 0 rfl rfl rfl) (zd_b zq_prog_14_method_28_code_1 1 rfl rfl rfl)
theorem fs_Mm_21 : z_fs "IronpourModel" 21 12 4 := ⟨R_Mm, "IronpourModel", F_Mm, 31, rfl, u_Mm, by decide, Or.inl ⟨z_mj7 (i := 87) rfl (by decide +kernel), Or.inl rfl⟩⟩
theorem d_Mm_gains_34 : decode prog_14_method_28_code 34 = .ok (.iload 5, 2) := zo_21 (d := 5) (zd_b zq_prog_14_method_28_code_1 2 rfl rfl rfl) (zd_b zq_prog_14_method_28_code_1 3 rfl rfl rfl)
theorem d_Mm_gains_36 : decode prog_14_method_28_code 36 = .ok (.iaload, 1) := zo_46 (zd_b zq_prog_14_method_28_code_1 4 rfl rfl rfl)
theorem d_Mm_gains_37 : decode prog_14_method_28_code 37 = .ok (.istore 6, 2) := zo_54 (d := 6) (zd_b zq_prog_14_method_28_code_1 5 rfl rfl rfl) (zd_b zq_prog_14_method_28_code_1 6 rfl rfl rfl)
theorem d_Mm_gains_39 : decode prog_14_method_28_code 39 = .ok (.iload_n 3, 1) := zo_29 (zd_b zq_prog_14_method_28_code_1 7 rfl rfl rfl)
theorem d_Mm_gains_40 : decode prog_14_method_28_code 40 = .ok (.iload 6, 2) := zo_21 (d := 6) (zd_b zq_prog_14_method_28_code_1 8 rfl rfl rfl) (zd_b zq_prog_14_method_28_code_1 9 rfl rfl rfl)
theorem d_Mm_gains_42 : decode prog_14_method_28_code 42 = .ok (.aload_n 0, 1) := zo_42 (zd_b zq_prog_14_method_28_code_1 10 rfl rfl rfl)
theorem d_Mm_gains_43 : decode prog_14_method_28_code 43 = .ok (.getfield 21, 3) := zo_180 (d := 0) (e := 21) (zd_b zq_prog_14_method_28_code_1 11 rfl rfl rfl) (zd_b zq_prog_14_method_28_code_1 12 rfl rfl rfl) (zd_b zq_prog_14_method_28_code_1 13 rfl rfl rfl)
theorem d_Mm_gains_46 : decode prog_14_method_28_code 46 = .ok (.iload_n 2, 1) := zo_28 (zd_b zq_prog_14_method_28_code_1 14 rfl rfl rfl)
theorem d_Mm_gains_47 : decode prog_14_method_28_code 47 = .ok (.iaload, 1) := zo_46 (zd_b zq_prog_14_method_28_code_1 15 rfl rfl rfl)
theorem d_Mm_gains_48 : decode prog_14_method_28_code 48 = .ok (.isub, 1) := zo_100 (zd_b zq_prog_14_method_28_code_1 16 rfl rfl rfl)
theorem d_Mm_gains_49 : decode prog_14_method_28_code 49 = .ok (.iload 5, 2) := zo_21 (d := 5) (zd_b zq_prog_14_method_28_code_1 17 rfl rfl rfl) (zd_b zq_prog_14_method_28_code_1 18 rfl rfl rfl)
theorem d_Mm_gains_51 : decode prog_14_method_28_code 51 = .ok (.iconst (-1), 1) := zo_2 (zd_b zq_prog_14_method_28_code_1 19 rfl rfl rfl)
theorem d_Mm_gains_52 : decode prog_14_method_28_code 52 = .ok (.if_icmp .ne 7, 3) := zo_160 (d := 0) (e := 7) (zd_b zq_prog_14_method_28_code_1 20 rfl rfl rfl) (zd_b zq_prog_14_method_28_code_1 21 rfl rfl rfl) (zd_b zq_prog_14_method_28_code_1 22 rfl rfl rfl) (by decide +kernel)
theorem d_Mm_gains_59 : decode prog_14_method_28_code 59 = .ok (.aload_n 0, 1) := zo_42 (zd_b zq_prog_14_method_28_code_1 27 rfl rfl rfl)
theorem d_Mm_gains_60 : decode prog_14_method_28_code 60 = .ok (.aload_n 1, 1) := zo_43 (zd_b zq_prog_14_method_28_code_1 28 rfl rfl rfl)
theorem d_Mm_gains_61 : decode prog_14_method_28_code 61 = .ok (.iload_n 2, 1) := zo_28 (zd_b zq_prog_14_method_28_code_1 29 rfl rfl rfl)
theorem d_Mm_gains_62 : decode prog_14_method_28_code 62 = .ok (.iload 5, 2) := zo_21 (d := 5) (zd_b zq_prog_14_method_28_code_1 30 rfl rfl rfl) (zd_b zq_prog_14_method_28_code_1 31 rfl rfl rfl)
theorem d_Mm_gains_64 : decode prog_14_method_28_code 64 = .ok (.invokevirtual 150, 3) := zo_182 (d := 0) (e := 150) (zd_b zq_prog_14_method_28_code_2 0 rfl rfl rfl) (zd_b zq_prog_14_method_28_code_2 1 rfl rfl rfl) (zd_b zq_prog_14_method_28_code_2 2 rfl rfl rfl)
theorem ok_Mm_gains_Mm_number : z_ok M_Mm_gains M_Mm_number 3 := ⟨z_mj8 (i := 56) rfl (by decide +kernel), rfl, ⟨by decide +kernel, by decide +kernel, by decide +kernel⟩, ⟨by decide, by decide⟩, z_mj1 (i := 14) rfl (by decide +kernel), rfl⟩
theorem ln_Mm_150 : Cond.methodLink "IronpourModel" 150 M_Mm_number.1 ∈ z_gw := z_mj8 (i := 53) rfl (by decide +kernel)
theorem w_im_Mm_number : Cond.instanceMethod M_Mm_number.1 ∈ z_gw := z_mj8 (i := 55) rfl (by decide +kernel)
theorem w_se_Mm_number : Cond.selects M_Mm_number.1.cls M_Mm_number.1 M_Mm_number.1 ∈ z_gw := z_mem (i := 39) (by decide +kernel) (by decide +kernel)
theorem d_Mm_gains_67 : decode prog_14_method_28_code 67 = .ok (.imul, 1) := zo_104 (zd_b zq_prog_14_method_28_code_2 3 rfl rfl rfl)
theorem d_Mm_gains_68 : decode prog_14_method_28_code 68 = .ok (.bipush 64, 2) := zo_16 (d := 64) (zd_b zq_prog_14_method_28_code_2 4 rfl rfl rfl) (zd_b zq_prog_14_method_28_code_2 5 rfl rfl rfl) (by decide +kernel)
theorem d_Mm_gains_70 : decode prog_14_method_28_code 70 = .ok (.idiv, 1) := zo_108 (zd_b zq_prog_14_method_28_code_2 6 rfl rfl rfl)
theorem d_Mm_gains_71 : decode prog_14_method_28_code 71 = .ok (.iadd, 1) := zo_96 (zd_b zq_prog_14_method_28_code_2 7 rfl rfl rfl)
theorem d_Mm_gains_72 : decode prog_14_method_28_code 72 = .ok (.istore_n 3, 1) := zo_62 (zd_b zq_prog_14_method_28_code_2 8 rfl rfl rfl)
theorem d_Mm_gains_73 : decode prog_14_method_28_code 73 = .ok (.iinc 4 1, 3) := by decide +kernel
theorem d_Mm_gains_76 : decode prog_14_method_28_code 76 = .ok (.goto (-71), 3) := zo_167 (d := 255) (e := 185) (zd_b zq_prog_14_method_28_code_2 12 rfl rfl rfl) (zd_b zq_prog_14_method_28_code_2 13 rfl rfl rfl) (zd_b zq_prog_14_method_28_code_2 14 rfl rfl rfl) (by decide +kernel)
theorem d_Mm_gains_25 : decode prog_14_method_28_code 25 = .ok (.bipush 20, 2) := zo_16 (d := 20) (zd_b zq_prog_14_method_28_code_0 25 rfl rfl rfl) (zd_b zq_prog_14_method_28_code_0 26 rfl rfl rfl) (by decide +kernel)
theorem d_Mm_gains_27 : decode prog_14_method_28_code 27 = .ok (.goto 10, 3) := zo_167 (d := 0) (e := 10) (zd_b zq_prog_14_method_28_code_0 27 rfl rfl rfl) (zd_b zq_prog_14_method_28_code_0 28 rfl rfl rfl) (zd_b zq_prog_14_method_28_code_0 29 rfl rfl rfl) (by decide +kernel)
theorem d_Mm_gains_55 : decode prog_14_method_28_code 55 = .ok (.iconst 4, 1) := zo_7 (zd_b zq_prog_14_method_28_code_1 23 rfl rfl rfl)
theorem d_Mm_gains_56 : decode prog_14_method_28_code 56 = .ok (.goto 11, 3) := zo_167 (d := 0) (e := 11) (zd_b zq_prog_14_method_28_code_1 24 rfl rfl rfl) (zd_b zq_prog_14_method_28_code_1 25 rfl rfl rfl) (zd_b zq_prog_14_method_28_code_1 26 rfl rfl rfl) (by decide +kernel)
theorem d_Mm_gains_0 : decode prog_14_method_28_code 0 = .ok (.iconst 0, 1) := zo_3 (zd_b zq_prog_14_method_28_code_0 0 rfl rfl rfl)
theorem d_Mm_gains_1 : decode prog_14_method_28_code 1 = .ok (.istore_n 3, 1) := zo_62 (zd_b zq_prog_14_method_28_code_0 1 rfl rfl rfl)
theorem d_Mm_gains_2 : decode prog_14_method_28_code 2 = .ok (.iconst 0, 1) := zo_3 (zd_b zq_prog_14_method_28_code_0 2 rfl rfl rfl)
theorem d_Mm_gains_3 : decode prog_14_method_28_code 3 = .ok (.istore 4, 2) := zo_54 (d := 4) (zd_b zq_prog_14_method_28_code_0 3 rfl rfl rfl) (zd_b zq_prog_14_method_28_code_0 4 rfl rfl rfl)
abbrev M_Mm_freezeStep : zM := (⟨"IronpourModel", "freezeStep", "([CI)Z"⟩, prog_14_method_29_code, 5, (Option.some FieldType.boolean), 5, 112, [])
theorem d_Mm_freezeStep_38 : decode prog_14_method_29_code 38 = .ok (.iload 4, 2) := zo_21 (d := 4) (zd_b zq_prog_14_method_29_code_1 6 rfl rfl rfl) (zd_b zq_prog_14_method_29_code_1 7 rfl rfl rfl)
theorem d_Mm_freezeStep_40 : decode prog_14_method_29_code 40 = .ok (.bipush 108, 2) := zo_16 (d := 108) (zd_b zq_prog_14_method_29_code_1 8 rfl rfl rfl) (zd_b zq_prog_14_method_29_code_1 9 rfl rfl rfl) (by decide +kernel)
theorem d_Mm_freezeStep_42 : decode prog_14_method_29_code 42 = .ok (.if_icmp .ge 141, 3) := zo_162 (d := 0) (e := 141) (zd_b zq_prog_14_method_29_code_1 10 rfl rfl rfl) (zd_b zq_prog_14_method_29_code_1 11 rfl rfl rfl) (zd_b zq_prog_14_method_29_code_1 12 rfl rfl rfl) (by decide +kernel)
theorem d_Mm_freezeStep_183 : decode prog_14_method_29_code 183 = .ok (.iload_n 3, 1) := zo_29 (zd_b zq_prog_14_method_29_code_5 23 rfl rfl rfl)
theorem d_Mm_freezeStep_184 : decode prog_14_method_29_code 184 = .ok (.ireturn, 1) := zo_172 (zd_b zq_prog_14_method_29_code_5 24 rfl rfl rfl)
theorem d_Mm_freezeStep_45 : decode prog_14_method_29_code 45 = .ok (.aload_n 0, 1) := zo_42 (zd_b zq_prog_14_method_29_code_1 13 rfl rfl rfl)
theorem d_Mm_freezeStep_46 : decode prog_14_method_29_code 46 = .ok (.getfield 21, 3) := zo_180 (d := 0) (e := 21) (zd_b zq_prog_14_method_29_code_1 14 rfl rfl rfl) (zd_b zq_prog_14_method_29_code_1 15 rfl rfl rfl) (zd_b zq_prog_14_method_29_code_1 16 rfl rfl rfl)
theorem d_Mm_freezeStep_49 : decode prog_14_method_29_code 49 = .ok (.iload 4, 2) := zo_21 (d := 4) (zd_b zq_prog_14_method_29_code_1 17 rfl rfl rfl) (zd_b zq_prog_14_method_29_code_1 18 rfl rfl rfl)
theorem d_Mm_freezeStep_51 : decode prog_14_method_29_code 51 = .ok (.aload_n 0, 1) := zo_42 (zd_b zq_prog_14_method_29_code_1 19 rfl rfl rfl)
theorem d_Mm_freezeStep_52 : decode prog_14_method_29_code 52 = .ok (.getfield 24, 3) := zo_180 (d := 0) (e := 24) (zd_b zq_prog_14_method_29_code_1 20 rfl rfl rfl) (zd_b zq_prog_14_method_29_code_1 21 rfl rfl rfl) (zd_b zq_prog_14_method_29_code_1 22 rfl rfl rfl)
theorem fs_Mm_24 : z_fs "IronpourModel" 24 12 5 := ⟨R_Mm, "IronpourModel", F_Mm, 31, rfl, u_Mm, by decide, Or.inl ⟨z_mj7 (i := 88) rfl (by decide +kernel), Or.inl rfl⟩⟩
theorem d_Mm_freezeStep_55 : decode prog_14_method_29_code 55 = .ok (.iload 4, 2) := zo_21 (d := 4) (zd_b zq_prog_14_method_29_code_1 23 rfl rfl rfl) (zd_b zq_prog_14_method_29_code_1 24 rfl rfl rfl)
theorem d_Mm_freezeStep_57 : decode prog_14_method_29_code 57 = .ok (.iaload, 1) := zo_46 (zd_b zq_prog_14_method_29_code_1 25 rfl rfl rfl)
theorem d_Mm_freezeStep_58 : decode prog_14_method_29_code 58 = .ok (.iastore, 1) := zo_79 (zd_b zq_prog_14_method_29_code_1 26 rfl rfl rfl)
theorem d_Mm_freezeStep_59 : decode prog_14_method_29_code 59 = .ok (.aload_n 0, 1) := zo_42 (zd_b zq_prog_14_method_29_code_1 27 rfl rfl rfl)
theorem d_Mm_freezeStep_60 : decode prog_14_method_29_code 60 = .ok (.getfield 17, 3) := zo_180 (d := 0) (e := 17) (zd_b zq_prog_14_method_29_code_1 28 rfl rfl rfl) (zd_b zq_prog_14_method_29_code_1 29 rfl rfl rfl) (zd_b zq_prog_14_method_29_code_1 30 rfl rfl rfl)
theorem d_Mm_freezeStep_63 : decode prog_14_method_29_code 63 = .ok (.iload 4, 2) := zo_21 (d := 4) (zd_b zq_prog_14_method_29_code_1 31 rfl rfl rfl) (zd_b zq_prog_14_method_29_code_2 0 rfl rfl rfl)
theorem d_Mm_freezeStep_65 : decode prog_14_method_29_code 65 = .ok (.iaload, 1) := zo_46 (zd_b zq_prog_14_method_29_code_2 1 rfl rfl rfl)
theorem d_Mm_freezeStep_66 : decode prog_14_method_29_code 66 = .ok (.iconst (-1), 1) := zo_2 (zd_b zq_prog_14_method_29_code_2 2 rfl rfl rfl)
theorem d_Mm_freezeStep_67 : decode prog_14_method_29_code 67 = .ok (.if_icmp .eq 79, 3) := zo_159 (d := 0) (e := 79) (zd_b zq_prog_14_method_29_code_2 3 rfl rfl rfl) (zd_b zq_prog_14_method_29_code_2 4 rfl rfl rfl) (zd_b zq_prog_14_method_29_code_2 5 rfl rfl rfl) (by decide +kernel)
theorem d_Mm_freezeStep_146 : decode prog_14_method_29_code 146 = .ok (.iload_n 3, 1) := zo_29 (zd_b zq_prog_14_method_29_code_4 18 rfl rfl rfl)
theorem d_Mm_freezeStep_147 : decode prog_14_method_29_code 147 = .ok (.ifCond .ne 24, 3) := zo_154 (d := 0) (e := 24) (zd_b zq_prog_14_method_29_code_4 19 rfl rfl rfl) (zd_b zq_prog_14_method_29_code_4 20 rfl rfl rfl) (zd_b zq_prog_14_method_29_code_4 21 rfl rfl rfl) (by decide +kernel)
theorem d_Mm_freezeStep_150 : decode prog_14_method_29_code 150 = .ok (.aload_n 0, 1) := zo_42 (zd_b zq_prog_14_method_29_code_4 22 rfl rfl rfl)
theorem d_Mm_freezeStep_151 : decode prog_14_method_29_code 151 = .ok (.getfield 17, 3) := zo_180 (d := 0) (e := 17) (zd_b zq_prog_14_method_29_code_4 23 rfl rfl rfl) (zd_b zq_prog_14_method_29_code_4 24 rfl rfl rfl) (zd_b zq_prog_14_method_29_code_4 25 rfl rfl rfl)
theorem d_Mm_freezeStep_154 : decode prog_14_method_29_code 154 = .ok (.iload 4, 2) := zo_21 (d := 4) (zd_b zq_prog_14_method_29_code_4 26 rfl rfl rfl) (zd_b zq_prog_14_method_29_code_4 27 rfl rfl rfl)
theorem d_Mm_freezeStep_156 : decode prog_14_method_29_code 156 = .ok (.iaload, 1) := zo_46 (zd_b zq_prog_14_method_29_code_4 28 rfl rfl rfl)
theorem d_Mm_freezeStep_157 : decode prog_14_method_29_code 157 = .ok (.iconst (-1), 1) := zo_2 (zd_b zq_prog_14_method_29_code_4 29 rfl rfl rfl)
theorem d_Mm_freezeStep_158 : decode prog_14_method_29_code 158 = .ok (.if_icmp .eq 17, 3) := zo_159 (d := 0) (e := 17) (zd_b zq_prog_14_method_29_code_4 30 rfl rfl rfl) (zd_b zq_prog_14_method_29_code_4 31 rfl rfl rfl) (zd_b zq_prog_14_method_29_code_5 0 rfl rfl rfl) (by decide +kernel)
theorem d_Mm_freezeStep_175 : decode prog_14_method_29_code 175 = .ok (.iconst 0, 1) := zo_3 (zd_b zq_prog_14_method_29_code_5 15 rfl rfl rfl)
theorem d_Mm_freezeStep_176 : decode prog_14_method_29_code 176 = .ok (.istore_n 3, 1) := zo_62 (zd_b zq_prog_14_method_29_code_5 16 rfl rfl rfl)
theorem d_Mm_freezeStep_177 : decode prog_14_method_29_code 177 = .ok (.iinc 4 1, 3) := by decide +kernel
theorem d_Mm_freezeStep_180 : decode prog_14_method_29_code 180 = .ok (.goto (-142), 3) := zo_167 (d := 255) (e := 114) (zd_b zq_prog_14_method_29_code_5 20 rfl rfl rfl) (zd_b zq_prog_14_method_29_code_5 21 rfl rfl rfl) (zd_b zq_prog_14_method_29_code_5 22 rfl rfl rfl) (by decide +kernel)
theorem d_Mm_freezeStep_2 : decode prog_14_method_29_code 2 = .ok (.iload_n 3, 1) := zo_29 (zd_b zq_prog_14_method_29_code_0 2 rfl rfl rfl)
theorem d_Mm_freezeStep_3 : decode prog_14_method_29_code 3 = .ok (.bipush 108, 2) := zo_16 (d := 108) (zd_b zq_prog_14_method_29_code_0 3 rfl rfl rfl) (zd_b zq_prog_14_method_29_code_0 4 rfl rfl rfl) (by decide +kernel)
theorem d_Mm_freezeStep_5 : decode prog_14_method_29_code 5 = .ok (.if_icmp .ge 28, 3) := zo_162 (d := 0) (e := 28) (zd_b zq_prog_14_method_29_code_0 5 rfl rfl rfl) (zd_b zq_prog_14_method_29_code_0 6 rfl rfl rfl) (zd_b zq_prog_14_method_29_code_0 7 rfl rfl rfl) (by decide +kernel)
theorem d_Mm_freezeStep_33 : decode prog_14_method_29_code 33 = .ok (.iconst 0, 1) := zo_3 (zd_b zq_prog_14_method_29_code_1 1 rfl rfl rfl)
theorem d_Mm_freezeStep_34 : decode prog_14_method_29_code 34 = .ok (.istore_n 3, 1) := zo_62 (zd_b zq_prog_14_method_29_code_1 2 rfl rfl rfl)
theorem d_Mm_freezeStep_35 : decode prog_14_method_29_code 35 = .ok (.iconst 0, 1) := zo_3 (zd_b zq_prog_14_method_29_code_1 3 rfl rfl rfl)
theorem d_Mm_freezeStep_36 : decode prog_14_method_29_code 36 = .ok (.istore 4, 2) := zo_54 (d := 4) (zd_b zq_prog_14_method_29_code_1 4 rfl rfl rfl) (zd_b zq_prog_14_method_29_code_1 5 rfl rfl rfl)
theorem d_Mm_freezeStep_8 : decode prog_14_method_29_code 8 = .ok (.aload_n 0, 1) := zo_42 (zd_b zq_prog_14_method_29_code_0 8 rfl rfl rfl)
theorem d_Mm_freezeStep_9 : decode prog_14_method_29_code 9 = .ok (.getfield 24, 3) := zo_180 (d := 0) (e := 24) (zd_b zq_prog_14_method_29_code_0 9 rfl rfl rfl) (zd_b zq_prog_14_method_29_code_0 10 rfl rfl rfl) (zd_b zq_prog_14_method_29_code_0 11 rfl rfl rfl)
theorem d_Mm_freezeStep_12 : decode prog_14_method_29_code 12 = .ok (.iload_n 3, 1) := zo_29 (zd_b zq_prog_14_method_29_code_0 12 rfl rfl rfl)
theorem d_Mm_freezeStep_13 : decode prog_14_method_29_code 13 = .ok (.aload_n 0, 1) := zo_42 (zd_b zq_prog_14_method_29_code_0 13 rfl rfl rfl)
theorem d_Mm_freezeStep_14 : decode prog_14_method_29_code 14 = .ok (.getfield 21, 3) := zo_180 (d := 0) (e := 21) (zd_b zq_prog_14_method_29_code_0 14 rfl rfl rfl) (zd_b zq_prog_14_method_29_code_0 15 rfl rfl rfl) (zd_b zq_prog_14_method_29_code_0 16 rfl rfl rfl)
theorem d_Mm_freezeStep_17 : decode prog_14_method_29_code 17 = .ok (.iload_n 3, 1) := zo_29 (zd_b zq_prog_14_method_29_code_0 17 rfl rfl rfl)
theorem d_Mm_freezeStep_18 : decode prog_14_method_29_code 18 = .ok (.iaload, 1) := zo_46 (zd_b zq_prog_14_method_29_code_0 18 rfl rfl rfl)
theorem d_Mm_freezeStep_19 : decode prog_14_method_29_code 19 = .ok (.aload_n 0, 1) := zo_42 (zd_b zq_prog_14_method_29_code_0 19 rfl rfl rfl)
theorem d_Mm_freezeStep_20 : decode prog_14_method_29_code 20 = .ok (.aload_n 1, 1) := zo_43 (zd_b zq_prog_14_method_29_code_0 20 rfl rfl rfl)
theorem d_Mm_freezeStep_21 : decode prog_14_method_29_code 21 = .ok (.iload_n 3, 1) := zo_29 (zd_b zq_prog_14_method_29_code_0 21 rfl rfl rfl)
theorem d_Mm_freezeStep_22 : decode prog_14_method_29_code 22 = .ok (.invokevirtual 154, 3) := zo_182 (d := 0) (e := 154) (zd_b zq_prog_14_method_29_code_0 22 rfl rfl rfl) (zd_b zq_prog_14_method_29_code_0 23 rfl rfl rfl) (zd_b zq_prog_14_method_29_code_0 24 rfl rfl rfl)
theorem ok_Mm_freezeStep_Mm_gains : z_ok M_Mm_freezeStep M_Mm_gains 2 := ⟨z_mj8 (i := 52) rfl (by decide +kernel), rfl, ⟨by decide +kernel, by decide +kernel, by decide +kernel⟩, ⟨by decide, by decide⟩, z_mj1 (i := 14) rfl (by decide +kernel), rfl⟩
theorem ln_Mm_154 : Cond.methodLink "IronpourModel" 154 M_Mm_gains.1 ∈ z_gw := z_mj8 (i := 49) rfl (by decide +kernel)
theorem w_im_Mm_gains : Cond.instanceMethod M_Mm_gains.1 ∈ z_gw := z_mj8 (i := 51) rfl (by decide +kernel)
theorem w_se_Mm_gains : Cond.selects M_Mm_gains.1.cls M_Mm_gains.1 M_Mm_gains.1 ∈ z_gw := z_mem (i := 38) (by decide +kernel) (by decide +kernel)
theorem d_Mm_freezeStep_25 : decode prog_14_method_29_code 25 = .ok (.iadd, 1) := zo_96 (zd_b zq_prog_14_method_29_code_0 25 rfl rfl rfl)
theorem d_Mm_freezeStep_26 : decode prog_14_method_29_code 26 = .ok (.iastore, 1) := zo_79 (zd_b zq_prog_14_method_29_code_0 26 rfl rfl rfl)
theorem d_Mm_freezeStep_27 : decode prog_14_method_29_code 27 = .ok (.iinc 3 1, 3) := by decide +kernel
theorem d_Mm_freezeStep_30 : decode prog_14_method_29_code 30 = .ok (.goto (-28), 3) := zo_167 (d := 255) (e := 228) (zd_b zq_prog_14_method_29_code_0 30 rfl rfl rfl) (zd_b zq_prog_14_method_29_code_0 31 rfl rfl rfl) (zd_b zq_prog_14_method_29_code_1 0 rfl rfl rfl) (by decide +kernel)
theorem d_Mm_freezeStep_0 : decode prog_14_method_29_code 0 = .ok (.iconst 0, 1) := zo_3 (zd_b zq_prog_14_method_29_code_0 0 rfl rfl rfl)
theorem d_Mm_freezeStep_1 : decode prog_14_method_29_code 1 = .ok (.istore_n 3, 1) := zo_62 (zd_b zq_prog_14_method_29_code_0 1 rfl rfl rfl)
abbrev M_Mm_begin : zM := (⟨"IronpourModel", "begin", "([CI)V"⟩, prog_14_method_30_code, 4, (Option.none : Option FieldType), 6, 140, [])
theorem d_Mm_begin_7 : decode prog_14_method_30_code 7 = .ok (.iload_n 3, 1) := zo_29 (zd_b zq_prog_14_method_30_code_0 7 rfl rfl rfl)
theorem d_Mm_begin_8 : decode prog_14_method_30_code 8 = .ok (.bipush 108, 2) := zo_16 (d := 108) (zd_b zq_prog_14_method_30_code_0 8 rfl rfl rfl) (zd_b zq_prog_14_method_30_code_0 9 rfl rfl rfl) (by decide +kernel)
theorem d_Mm_begin_10 : decode prog_14_method_30_code 10 = .ok (.if_icmp .ge 56, 3) := zo_162 (d := 0) (e := 56) (zd_b zq_prog_14_method_30_code_0 10 rfl rfl rfl) (zd_b zq_prog_14_method_30_code_0 11 rfl rfl rfl) (zd_b zq_prog_14_method_30_code_0 12 rfl rfl rfl) (by decide +kernel)
theorem d_Mm_begin_66 : decode prog_14_method_30_code 66 = .ok (.return_, 1) := zo_177 (zd_b zq_prog_14_method_30_code_2 2 rfl rfl rfl)
theorem d_Mm_begin_13 : decode prog_14_method_30_code 13 = .ok (.aload_n 0, 1) := zo_42 (zd_b zq_prog_14_method_30_code_0 13 rfl rfl rfl)
theorem d_Mm_begin_14 : decode prog_14_method_30_code 14 = .ok (.getfield 21, 3) := zo_180 (d := 0) (e := 21) (zd_b zq_prog_14_method_30_code_0 14 rfl rfl rfl) (zd_b zq_prog_14_method_30_code_0 15 rfl rfl rfl) (zd_b zq_prog_14_method_30_code_0 16 rfl rfl rfl)
theorem d_Mm_begin_17 : decode prog_14_method_30_code 17 = .ok (.iload_n 3, 1) := zo_29 (zd_b zq_prog_14_method_30_code_0 17 rfl rfl rfl)
theorem d_Mm_begin_18 : decode prog_14_method_30_code 18 = .ok (.aload_n 0, 1) := zo_42 (zd_b zq_prog_14_method_30_code_0 18 rfl rfl rfl)
theorem d_Mm_begin_19 : decode prog_14_method_30_code 19 = .ok (.getfield 17, 3) := zo_180 (d := 0) (e := 17) (zd_b zq_prog_14_method_30_code_0 19 rfl rfl rfl) (zd_b zq_prog_14_method_30_code_0 20 rfl rfl rfl) (zd_b zq_prog_14_method_30_code_0 21 rfl rfl rfl)
theorem d_Mm_begin_22 : decode prog_14_method_30_code 22 = .ok (.iload_n 3, 1) := zo_29 (zd_b zq_prog_14_method_30_code_0 22 rfl rfl rfl)
theorem d_Mm_begin_23 : decode prog_14_method_30_code 23 = .ok (.iaload, 1) := zo_46 (zd_b zq_prog_14_method_30_code_0 23 rfl rfl rfl)
theorem d_Mm_begin_24 : decode prog_14_method_30_code 24 = .ok (.iconst (-1), 1) := zo_2 (zd_b zq_prog_14_method_30_code_0 24 rfl rfl rfl)
theorem d_Mm_begin_25 : decode prog_14_method_30_code 25 = .ok (.if_icmp .ne 8, 3) := zo_160 (d := 0) (e := 8) (zd_b zq_prog_14_method_30_code_0 25 rfl rfl rfl) (zd_b zq_prog_14_method_30_code_0 26 rfl rfl rfl) (zd_b zq_prog_14_method_30_code_0 27 rfl rfl rfl) (by decide +kernel)
theorem d_Mm_begin_28 : decode prog_14_method_30_code 28 = .ok (.bipush 20, 2) := zo_16 (d := 20) (zd_b zq_prog_14_method_30_code_0 28 rfl rfl rfl) (zd_b zq_prog_14_method_30_code_0 29 rfl rfl rfl) (by decide +kernel)
theorem d_Mm_begin_30 : decode prog_14_method_30_code 30 = .ok (.goto 13, 3) := zo_167 (d := 0) (e := 13) (zd_b zq_prog_14_method_30_code_0 30 rfl rfl rfl) (zd_b zq_prog_14_method_30_code_0 31 rfl rfl rfl) (zd_b zq_prog_14_method_30_code_1 0 rfl rfl rfl) (by decide +kernel)
theorem d_Mm_begin_43 : decode prog_14_method_30_code 43 = .ok (.iastore, 1) := zo_79 (zd_b zq_prog_14_method_30_code_1 11 rfl rfl rfl)
theorem d_Mm_begin_44 : decode prog_14_method_30_code 44 = .ok (.aload_n 0, 1) := zo_42 (zd_b zq_prog_14_method_30_code_1 12 rfl rfl rfl)
theorem d_Mm_begin_45 : decode prog_14_method_30_code 45 = .ok (.getfield 27, 3) := zo_180 (d := 0) (e := 27) (zd_b zq_prog_14_method_30_code_1 13 rfl rfl rfl) (zd_b zq_prog_14_method_30_code_1 14 rfl rfl rfl) (zd_b zq_prog_14_method_30_code_1 15 rfl rfl rfl)
theorem fs_Mm_27 : z_fs "IronpourModel" 27 12 6 := ⟨R_Mm, "IronpourModel", F_Mm, 31, rfl, u_Mm, by decide, Or.inl ⟨z_mj7 (i := 89) rfl (by decide +kernel), Or.inl rfl⟩⟩
theorem d_Mm_begin_48 : decode prog_14_method_30_code 48 = .ok (.iload_n 3, 1) := zo_29 (zd_b zq_prog_14_method_30_code_1 16 rfl rfl rfl)
theorem d_Mm_begin_49 : decode prog_14_method_30_code 49 = .ok (.sipush 300, 3) := zo_17 (d := 1) (e := 44) (zd_b zq_prog_14_method_30_code_1 17 rfl rfl rfl) (zd_b zq_prog_14_method_30_code_1 18 rfl rfl rfl) (zd_b zq_prog_14_method_30_code_1 19 rfl rfl rfl) (by decide +kernel)
theorem d_Mm_begin_52 : decode prog_14_method_30_code 52 = .ok (.iastore, 1) := zo_79 (zd_b zq_prog_14_method_30_code_1 20 rfl rfl rfl)
theorem d_Mm_begin_53 : decode prog_14_method_30_code 53 = .ok (.aload_n 0, 1) := zo_42 (zd_b zq_prog_14_method_30_code_1 21 rfl rfl rfl)
theorem d_Mm_begin_54 : decode prog_14_method_30_code 54 = .ok (.getfield 30, 3) := zo_180 (d := 0) (e := 30) (zd_b zq_prog_14_method_30_code_1 22 rfl rfl rfl) (zd_b zq_prog_14_method_30_code_1 23 rfl rfl rfl) (zd_b zq_prog_14_method_30_code_1 24 rfl rfl rfl)
theorem fs_Mm_30 : z_fs "IronpourModel" 30 12 7 := ⟨R_Mm, "IronpourModel", F_Mm, 31, rfl, u_Mm, by decide, Or.inl ⟨z_mj7 (i := 90) rfl (by decide +kernel), Or.inl rfl⟩⟩
theorem d_Mm_begin_57 : decode prog_14_method_30_code 57 = .ok (.iload_n 3, 1) := zo_29 (zd_b zq_prog_14_method_30_code_1 25 rfl rfl rfl)
theorem d_Mm_begin_58 : decode prog_14_method_30_code 58 = .ok (.iconst 0, 1) := zo_3 (zd_b zq_prog_14_method_30_code_1 26 rfl rfl rfl)
theorem d_Mm_begin_59 : decode prog_14_method_30_code 59 = .ok (.iastore, 1) := zo_79 (zd_b zq_prog_14_method_30_code_1 27 rfl rfl rfl)
theorem d_Mm_begin_60 : decode prog_14_method_30_code 60 = .ok (.iinc 3 1, 3) := by decide +kernel
theorem d_Mm_begin_63 : decode prog_14_method_30_code 63 = .ok (.goto (-56), 3) := zo_167 (d := 255) (e := 200) (zd_b zq_prog_14_method_30_code_1 31 rfl rfl rfl) (zd_b zq_prog_14_method_30_code_2 0 rfl rfl rfl) (zd_b zq_prog_14_method_30_code_2 1 rfl rfl rfl) (by decide +kernel)
theorem d_Mm_begin_0 : decode prog_14_method_30_code 0 = .ok (.aload_n 0, 1) := zo_42 (zd_b zq_prog_14_method_30_code_0 0 rfl rfl rfl)
theorem d_Mm_begin_1 : decode prog_14_method_30_code 1 = .ok (.aload_n 1, 1) := zo_43 (zd_b zq_prog_14_method_30_code_0 1 rfl rfl rfl)
theorem d_Mm_begin_2 : decode prog_14_method_30_code 2 = .ok (.invokevirtual 143, 3) := zo_182 (d := 0) (e := 143) (zd_b zq_prog_14_method_30_code_0 2 rfl rfl rfl) (zd_b zq_prog_14_method_30_code_0 3 rfl rfl rfl) (zd_b zq_prog_14_method_30_code_0 4 rfl rfl rfl)
theorem ok_Mm_begin_Mm_fill : z_ok M_Mm_begin M_Mm_fill 1 := ⟨z_mj8 (i := 15) rfl (by decide +kernel), rfl, ⟨by decide +kernel, by decide +kernel, by decide +kernel⟩, ⟨by decide, by decide⟩, z_mj1 (i := 14) rfl (by decide +kernel), rfl⟩
theorem d_Mm_begin_5 : decode prog_14_method_30_code 5 = .ok (.iconst 0, 1) := zo_3 (zd_b zq_prog_14_method_30_code_0 5 rfl rfl rfl)
theorem d_Mm_begin_6 : decode prog_14_method_30_code 6 = .ok (.istore_n 3, 1) := zo_62 (zd_b zq_prog_14_method_30_code_0 6 rfl rfl rfl)
abbrev M_Mm_freeze : zM := (⟨"IronpourModel", "freeze", "([CI)V"⟩, prog_14_method_31_code, 5, (Option.none : Option FieldType), 7, 163, [])
theorem d_Mm_freeze_40 : decode prog_14_method_31_code 40 = .ok (.iload 4, 2) := zo_21 (d := 4) (zd_b zq_prog_14_method_31_code_1 8 rfl rfl rfl) (zd_b zq_prog_14_method_31_code_1 9 rfl rfl rfl)
theorem d_Mm_freeze_42 : decode prog_14_method_31_code 42 = .ok (.bipush 108, 2) := zo_16 (d := 108) (zd_b zq_prog_14_method_31_code_1 10 rfl rfl rfl) (zd_b zq_prog_14_method_31_code_1 11 rfl rfl rfl) (by decide +kernel)
theorem d_Mm_freeze_44 : decode prog_14_method_31_code 44 = .ok (.if_icmp .ge 54, 3) := zo_162 (d := 0) (e := 54) (zd_b zq_prog_14_method_31_code_1 12 rfl rfl rfl) (zd_b zq_prog_14_method_31_code_1 13 rfl rfl rfl) (zd_b zq_prog_14_method_31_code_1 14 rfl rfl rfl) (by decide +kernel)
theorem d_Mm_freeze_98 : decode prog_14_method_31_code 98 = .ok (.return_, 1) := zo_177 (zd_b zq_prog_14_method_31_code_3 2 rfl rfl rfl)
theorem d_Mm_freeze_47 : decode prog_14_method_31_code 47 = .ok (.aload_n 0, 1) := zo_42 (zd_b zq_prog_14_method_31_code_1 15 rfl rfl rfl)
theorem d_Mm_freeze_48 : decode prog_14_method_31_code 48 = .ok (.getfield 30, 3) := zo_180 (d := 0) (e := 30) (zd_b zq_prog_14_method_31_code_1 16 rfl rfl rfl) (zd_b zq_prog_14_method_31_code_1 17 rfl rfl rfl) (zd_b zq_prog_14_method_31_code_1 18 rfl rfl rfl)
theorem d_Mm_freeze_51 : decode prog_14_method_31_code 51 = .ok (.iload 4, 2) := zo_21 (d := 4) (zd_b zq_prog_14_method_31_code_1 19 rfl rfl rfl) (zd_b zq_prog_14_method_31_code_1 20 rfl rfl rfl)
theorem d_Mm_freeze_53 : decode prog_14_method_31_code 53 = .ok (.aload_n 0, 1) := zo_42 (zd_b zq_prog_14_method_31_code_1 21 rfl rfl rfl)
theorem d_Mm_freeze_54 : decode prog_14_method_31_code 54 = .ok (.getfield 17, 3) := zo_180 (d := 0) (e := 17) (zd_b zq_prog_14_method_31_code_1 22 rfl rfl rfl) (zd_b zq_prog_14_method_31_code_1 23 rfl rfl rfl) (zd_b zq_prog_14_method_31_code_1 24 rfl rfl rfl)
theorem d_Mm_freeze_57 : decode prog_14_method_31_code 57 = .ok (.iload 4, 2) := zo_21 (d := 4) (zd_b zq_prog_14_method_31_code_1 25 rfl rfl rfl) (zd_b zq_prog_14_method_31_code_1 26 rfl rfl rfl)
theorem d_Mm_freeze_59 : decode prog_14_method_31_code 59 = .ok (.iaload, 1) := zo_46 (zd_b zq_prog_14_method_31_code_1 27 rfl rfl rfl)
theorem d_Mm_freeze_60 : decode prog_14_method_31_code 60 = .ok (.iconst (-1), 1) := zo_2 (zd_b zq_prog_14_method_31_code_1 28 rfl rfl rfl)
theorem d_Mm_freeze_61 : decode prog_14_method_31_code 61 = .ok (.if_icmp .ne 7, 3) := zo_160 (d := 0) (e := 7) (zd_b zq_prog_14_method_31_code_1 29 rfl rfl rfl) (zd_b zq_prog_14_method_31_code_1 30 rfl rfl rfl) (zd_b zq_prog_14_method_31_code_1 31 rfl rfl rfl) (by decide +kernel)
theorem d_Mm_freeze_64 : decode prog_14_method_31_code 64 = .ok (.iconst (-1), 1) := zo_2 (zd_b zq_prog_14_method_31_code_2 0 rfl rfl rfl)
theorem d_Mm_freeze_65 : decode prog_14_method_31_code 65 = .ok (.goto 26, 3) := zo_167 (d := 0) (e := 26) (zd_b zq_prog_14_method_31_code_2 1 rfl rfl rfl) (zd_b zq_prog_14_method_31_code_2 2 rfl rfl rfl) (zd_b zq_prog_14_method_31_code_2 3 rfl rfl rfl) (by decide +kernel)
theorem d_Mm_freeze_91 : decode prog_14_method_31_code 91 = .ok (.iastore, 1) := zo_79 (zd_b zq_prog_14_method_31_code_2 27 rfl rfl rfl)
theorem d_Mm_freeze_92 : decode prog_14_method_31_code 92 = .ok (.iinc 4 1, 3) := by decide +kernel
theorem d_Mm_freeze_95 : decode prog_14_method_31_code 95 = .ok (.goto (-55), 3) := zo_167 (d := 255) (e := 201) (zd_b zq_prog_14_method_31_code_2 31 rfl rfl rfl) (zd_b zq_prog_14_method_31_code_3 0 rfl rfl rfl) (zd_b zq_prog_14_method_31_code_3 1 rfl rfl rfl) (by decide +kernel)
theorem d_Mm_freeze_0 : decode prog_14_method_31_code 0 = .ok (.aload_n 0, 1) := zo_42 (zd_b zq_prog_14_method_31_code_0 0 rfl rfl rfl)
theorem d_Mm_freeze_1 : decode prog_14_method_31_code 1 = .ok (.aload_n 1, 1) := zo_43 (zd_b zq_prog_14_method_31_code_0 1 rfl rfl rfl)
theorem d_Mm_freeze_2 : decode prog_14_method_31_code 2 = .ok (.iload_n 2, 1) := zo_28 (zd_b zq_prog_14_method_31_code_0 2 rfl rfl rfl)
theorem d_Mm_freeze_3 : decode prog_14_method_31_code 3 = .ok (.invokevirtual 157, 3) := zo_182 (d := 0) (e := 157) (zd_b zq_prog_14_method_31_code_0 3 rfl rfl rfl) (zd_b zq_prog_14_method_31_code_0 4 rfl rfl rfl) (zd_b zq_prog_14_method_31_code_0 5 rfl rfl rfl)
theorem ok_Mm_freeze_Mm_begin : z_ok M_Mm_freeze M_Mm_begin 2 := ⟨z_mj8 (i := 44) rfl (by decide +kernel), rfl, ⟨by decide +kernel, by decide +kernel, by decide +kernel⟩, ⟨by decide, by decide⟩, z_mj1 (i := 14) rfl (by decide +kernel), rfl⟩
theorem ln_Mm_157 : Cond.methodLink "IronpourModel" 157 M_Mm_begin.1 ∈ z_gw := z_mj8 (i := 41) rfl (by decide +kernel)
theorem w_im_Mm_begin : Cond.instanceMethod M_Mm_begin.1 ∈ z_gw := z_mj8 (i := 43) rfl (by decide +kernel)
theorem w_se_Mm_begin : Cond.selects M_Mm_begin.1.cls M_Mm_begin.1 M_Mm_begin.1 ∈ z_gw := z_mem (i := 36) (by decide +kernel) (by decide +kernel)
theorem d_Mm_freeze_6 : decode prog_14_method_31_code 6 = .ok (.iconst 1, 1) := zo_4 (zd_b zq_prog_14_method_31_code_0 6 rfl rfl rfl)
theorem d_Mm_freeze_7 : decode prog_14_method_31_code 7 = .ok (.istore_n 3, 1) := zo_62 (zd_b zq_prog_14_method_31_code_0 7 rfl rfl rfl)
theorem d_Mm_freeze_8 : decode prog_14_method_31_code 8 = .ok (.iconst 1, 1) := zo_4 (zd_b zq_prog_14_method_31_code_0 8 rfl rfl rfl)
theorem d_Mm_freeze_9 : decode prog_14_method_31_code 9 = .ok (.istore 4, 2) := zo_54 (d := 4) (zd_b zq_prog_14_method_31_code_0 9 rfl rfl rfl) (zd_b zq_prog_14_method_31_code_0 10 rfl rfl rfl)
theorem d_Mm_freeze_11 : decode prog_14_method_31_code 11 = .ok (.iload 4, 2) := zo_21 (d := 4) (zd_b zq_prog_14_method_31_code_0 11 rfl rfl rfl) (zd_b zq_prog_14_method_31_code_0 12 rfl rfl rfl)
theorem d_Mm_freeze_13 : decode prog_14_method_31_code 13 = .ok (.sipush 400, 3) := zo_17 (d := 1) (e := 144) (zd_b zq_prog_14_method_31_code_0 13 rfl rfl rfl) (zd_b zq_prog_14_method_31_code_0 14 rfl rfl rfl) (zd_b zq_prog_14_method_31_code_0 15 rfl rfl rfl) (by decide +kernel)
theorem d_Mm_freeze_16 : decode prog_14_method_31_code 16 = .ok (.if_icmp .gt 21, 3) := zo_163 (d := 0) (e := 21) (zd_b zq_prog_14_method_31_code_0 16 rfl rfl rfl) (zd_b zq_prog_14_method_31_code_0 17 rfl rfl rfl) (zd_b zq_prog_14_method_31_code_0 18 rfl rfl rfl) (by decide +kernel)
theorem d_Mm_freeze_19 : decode prog_14_method_31_code 19 = .ok (.iload_n 3, 1) := zo_29 (zd_b zq_prog_14_method_31_code_0 19 rfl rfl rfl)
theorem d_Mm_freeze_20 : decode prog_14_method_31_code 20 = .ok (.ifCond .eq 17, 3) := zo_153 (d := 0) (e := 17) (zd_b zq_prog_14_method_31_code_0 20 rfl rfl rfl) (zd_b zq_prog_14_method_31_code_0 21 rfl rfl rfl) (zd_b zq_prog_14_method_31_code_0 22 rfl rfl rfl) (by decide +kernel)
theorem d_Mm_freeze_23 : decode prog_14_method_31_code 23 = .ok (.aload_n 0, 1) := zo_42 (zd_b zq_prog_14_method_31_code_0 23 rfl rfl rfl)
theorem d_Mm_freeze_24 : decode prog_14_method_31_code 24 = .ok (.aload_n 1, 1) := zo_43 (zd_b zq_prog_14_method_31_code_0 24 rfl rfl rfl)
theorem d_Mm_freeze_25 : decode prog_14_method_31_code 25 = .ok (.iload 4, 2) := zo_21 (d := 4) (zd_b zq_prog_14_method_31_code_0 25 rfl rfl rfl) (zd_b zq_prog_14_method_31_code_0 26 rfl rfl rfl)
theorem d_Mm_freeze_27 : decode prog_14_method_31_code 27 = .ok (.invokevirtual 160, 3) := zo_182 (d := 0) (e := 160) (zd_b zq_prog_14_method_31_code_0 27 rfl rfl rfl) (zd_b zq_prog_14_method_31_code_0 28 rfl rfl rfl) (zd_b zq_prog_14_method_31_code_0 29 rfl rfl rfl)
theorem ok_Mm_freeze_Mm_freezeStep : z_ok M_Mm_freeze M_Mm_freezeStep 2 := ⟨z_mj8 (i := 48) rfl (by decide +kernel), rfl, ⟨by decide +kernel, by decide +kernel, by decide +kernel⟩, ⟨by decide, by decide⟩, z_mj1 (i := 14) rfl (by decide +kernel), rfl⟩
theorem ln_Mm_160 : Cond.methodLink "IronpourModel" 160 M_Mm_freezeStep.1 ∈ z_gw := z_mj8 (i := 45) rfl (by decide +kernel)
theorem w_im_Mm_freezeStep : Cond.instanceMethod M_Mm_freezeStep.1 ∈ z_gw := z_mj8 (i := 47) rfl (by decide +kernel)
theorem w_se_Mm_freezeStep : Cond.selects M_Mm_freezeStep.1.cls M_Mm_freezeStep.1 M_Mm_freezeStep.1 ∈ z_gw := z_mem (i := 37) (by decide +kernel) (by decide +kernel)
theorem d_Mm_freeze_30 : decode prog_14_method_31_code 30 = .ok (.istore_n 3, 1) := zo_62 (zd_b zq_prog_14_method_31_code_0 30 rfl rfl rfl)
theorem d_Mm_freeze_31 : decode prog_14_method_31_code 31 = .ok (.iinc 4 1, 3) := by decide +kernel
theorem d_Mm_freeze_34 : decode prog_14_method_31_code 34 = .ok (.goto (-23), 3) := zo_167 (d := 255) (e := 233) (zd_b zq_prog_14_method_31_code_1 2 rfl rfl rfl) (zd_b zq_prog_14_method_31_code_1 3 rfl rfl rfl) (zd_b zq_prog_14_method_31_code_1 4 rfl rfl rfl) (by decide +kernel)
theorem d_Mm_freeze_37 : decode prog_14_method_31_code 37 = .ok (.iconst 0, 1) := zo_3 (zd_b zq_prog_14_method_31_code_1 5 rfl rfl rfl)
theorem d_Mm_freeze_38 : decode prog_14_method_31_code 38 = .ok (.istore 4, 2) := zo_54 (d := 4) (zd_b zq_prog_14_method_31_code_1 6 rfl rfl rfl) (zd_b zq_prog_14_method_31_code_1 7 rfl rfl rfl)
abbrev M_Mm_frozenIn : zM := (⟨"IronpourModel", "frozenIn", "(III)I"⟩, prog_14_method_33_code, 4, (Option.some FieldType.int), 8, 187, [])
theorem d_Mm_frozenIn_0 : decode prog_14_method_33_code 0 = .ok (.aload_n 0, 1) := zo_42 (zd_b zq_prog_14_method_33_code_0 0 rfl rfl rfl)
theorem d_Mm_frozenIn_1 : decode prog_14_method_33_code 1 = .ok (.iconst 0, 1) := zo_3 (zd_b zq_prog_14_method_33_code_0 1 rfl rfl rfl)
theorem d_Mm_frozenIn_2 : decode prog_14_method_33_code 2 = .ok (.putfield 84, 3) := zo_181 (d := 0) (e := 84) (zd_b zq_prog_14_method_33_code_0 2 rfl rfl rfl) (zd_b zq_prog_14_method_33_code_0 3 rfl rfl rfl) (zd_b zq_prog_14_method_33_code_0 4 rfl rfl rfl)
theorem d_Mm_frozenIn_5 : decode prog_14_method_33_code 5 = .ok (.aload_n 0, 1) := zo_42 (zd_b zq_prog_14_method_33_code_0 5 rfl rfl rfl)
theorem d_Mm_frozenIn_6 : decode prog_14_method_33_code 6 = .ok (.iload_n 1, 1) := zo_27 (zd_b zq_prog_14_method_33_code_0 6 rfl rfl rfl)
theorem d_Mm_frozenIn_7 : decode prog_14_method_33_code 7 = .ok (.iload_n 2, 1) := zo_28 (zd_b zq_prog_14_method_33_code_0 7 rfl rfl rfl)
theorem d_Mm_frozenIn_8 : decode prog_14_method_33_code 8 = .ok (.invokestatic 91, 3) := zo_184 (d := 0) (e := 91) (zd_b zq_prog_14_method_33_code_0 8 rfl rfl rfl) (zd_b zq_prog_14_method_33_code_0 9 rfl rfl rfl) (zd_b zq_prog_14_method_33_code_0 10 rfl rfl rfl)
theorem ok_Mm_frozenIn_Mm_isCell : z_ok M_Mm_frozenIn M_Mm_isCell 2 := ⟨z_mj7 (i := 187) rfl (by decide +kernel), rfl, ⟨by decide +kernel, by decide +kernel, by decide +kernel⟩, ⟨by decide, by decide⟩, z_mj1 (i := 14) rfl (by decide +kernel), rfl⟩
theorem d_Mm_frozenIn_11 : decode prog_14_method_33_code 11 = .ok (.ifCond .ne 7, 3) := zo_154 (d := 0) (e := 7) (zd_b zq_prog_14_method_33_code_0 11 rfl rfl rfl) (zd_b zq_prog_14_method_33_code_0 12 rfl rfl rfl) (zd_b zq_prog_14_method_33_code_0 13 rfl rfl rfl) (by decide +kernel)
theorem d_Mm_frozenIn_14 : decode prog_14_method_33_code 14 = .ok (.iconst 1, 1) := zo_4 (zd_b zq_prog_14_method_33_code_0 14 rfl rfl rfl)
theorem d_Mm_frozenIn_15 : decode prog_14_method_33_code 15 = .ok (.goto 4, 3) := zo_167 (d := 0) (e := 4) (zd_b zq_prog_14_method_33_code_0 15 rfl rfl rfl) (zd_b zq_prog_14_method_33_code_0 16 rfl rfl rfl) (zd_b zq_prog_14_method_33_code_0 17 rfl rfl rfl) (by decide +kernel)
theorem d_Mm_frozenIn_19 : decode prog_14_method_33_code 19 = .ok (.iconst 1, 1) := zo_4 (zd_b zq_prog_14_method_33_code_0 19 rfl rfl rfl)
theorem d_Mm_frozenIn_20 : decode prog_14_method_33_code 20 = .ok (.invokevirtual 103, 3) := zo_182 (d := 0) (e := 103) (zd_b zq_prog_14_method_33_code_0 20 rfl rfl rfl) (zd_b zq_prog_14_method_33_code_0 21 rfl rfl rfl) (zd_b zq_prog_14_method_33_code_0 22 rfl rfl rfl)
theorem ok_Mm_frozenIn_Mm_fails : z_ok M_Mm_frozenIn M_Mm_fails 2 := ⟨z_mj7 (i := 196) rfl (by decide +kernel), rfl, ⟨by decide +kernel, by decide +kernel, by decide +kernel⟩, ⟨by decide, by decide⟩, z_mj1 (i := 14) rfl (by decide +kernel), rfl⟩
theorem d_Mm_frozenIn_23 : decode prog_14_method_33_code 23 = .ok (.ifCond .ne 15, 3) := zo_154 (d := 0) (e := 15) (zd_b zq_prog_14_method_33_code_0 23 rfl rfl rfl) (zd_b zq_prog_14_method_33_code_0 24 rfl rfl rfl) (zd_b zq_prog_14_method_33_code_0 25 rfl rfl rfl) (by decide +kernel)
theorem d_Mm_frozenIn_38 : decode prog_14_method_33_code 38 = .ok (.iconst 0, 1) := zo_3 (zd_b zq_prog_14_method_33_code_1 6 rfl rfl rfl)
theorem d_Mm_frozenIn_39 : decode prog_14_method_33_code 39 = .ok (.ireturn, 1) := zo_172 (zd_b zq_prog_14_method_33_code_1 7 rfl rfl rfl)
set_option maxHeartbeats 4000000 in
set_option maxRecDepth 100000 in
theorem C_Mm_frozenInE (g : zG) (m mp mf mh mn mt mz mc_ mq mgr ml mi mr mm mu mk mx : Nat) (th pt cl wa co_ fi bu ho lh mg wd fpi fal : Int32) (po de : Int64) (f : Nat → Int32) (x y h : Int32) (hz : z_cl x y = none) : CT g M_Mm_frozenIn [.ref m, .int x, .int y, .int h] [(m, .inr (12, [.int th, .ref mp, .int pt, .ref mf, .ref mh, .ref mn, .ref mt, .ref mz, .ref mc_, .ref mq, .ref mgr, .int cl, .int wa, .int co_, .int fi, .int bu, .int ho, .ref ml, .ref mi, .ref mr, .int lh, .int mg, .int wd, .int fpi, .int fal, .ref mm, .ref mu, .ref mk, .ref mx, .long po, .long de])), (mp, .inl (1, 108, .inl f))] (fun o cs1 => o = .inl (some (.int 0)) ∧ cs1 = [(m, .inr (12, [.int 1, .ref mp, .int pt, .ref mf, .ref mh, .ref mn, .ref mt, .ref mz, .ref mc_, .ref mq, .ref mgr, .int cl, .int wa, .int co_, .int fi, .int bu, .int ho, .ref ml, .ref mi, .ref mr, .int lh, .int mg, .int wd, .int fpi, .int fal, .ref mm, .ref mu, .ref mk, .ref mx, .long po, .long de])), (mp, .inl (1, 108, .inl f))]) 0 0 := by
  refine z_of (by decide) rfl (Nat.le_of_ble_eq_true rfl) (fun w0 => ?_)
  refine r_lvE (lv2 := [(0, .ref m), (1, .int x), (2, .int y), (3, .int h)]) rfl ?_
  refine r_aload_n d_Mm_frozenIn_0 rfl 0 rfl ?_
  refine r_iconst d_Mm_frozenIn_1 (v := 0) (by decide) ?_
  refine r_put fp_Mm_84 d_Mm_frozenIn_2 (fun h => nomatch h) rfl rfl (q0 := 0) rfl (Nat.le_of_ble_eq_true rfl) (cs' := [(m, .inr (12, [.int 0, .ref mp, .int pt, .ref mf, .ref mh, .ref mn, .ref mt, .ref mz, .ref mc_, .ref mq, .ref mgr, .int cl, .int wa, .int co_, .int fi, .int bu, .int ho, .ref ml, .ref mi, .ref mr, .int lh, .int mg, .int wd, .int fpi, .int fal, .ref mm, .ref mu, .ref mk, .ref mx, .long po, .long de])), (mp, .inl (1, 108, .inl f))]) rfl ?_
  refine r_aload_n d_Mm_frozenIn_5 rfl 0 rfl ?_
  refine r_iload_n d_Mm_frozenIn_6 rfl 1 rfl ?_
  refine r_iload_n d_Mm_frozenIn_7 rfl 2 rfl ?_
  refine r_callS (As := [.int x, .int y]) (rest := [.ref m]) (csC := []) (is := []) ln_Mm_91 w_st_Mm_isCell ok_Mm_frozenIn_Mm_isCell d_Mm_frozenIn_8 (C_Mm_isCell g x y) rfl rfl (Nat.le_of_ble_eq_true rfl) rfl (by decide) (by omega) (by omega) (fun E cs1 hx => ?_) (fun v cs1 hx => ?_)
  · exact absurd hx.1 (by simp)
  · obtain ⟨e1, rfl⟩ := hx
    rw [if_neg (z_clN hz)] at e1
    cases e1
    refine ⟨rfl, ?_⟩
    refine r_st (st2 := [.int 0, .ref m]) rfl ?_
    refine r_cs (cs2 := [(m, .inr (12, [.int 0, .ref mp, .int pt, .ref mf, .ref mh, .ref mn, .ref mt, .ref mz, .ref mc_, .ref mq, .ref mgr, .int cl, .int wa, .int co_, .int fi, .int bu, .int ho, .ref ml, .ref mi, .ref mr, .int lh, .int mg, .int wd, .int fpi, .int fal, .ref mm, .ref mu, .ref mk, .ref mx, .long po, .long de])), (mp, .inl (1, 108, .inl f))]) rfl ?_
    refine r_if_ne (tgt := 18) d_Mm_frozenIn_11 (by decide) (fun c_11 => ?_) (fun c_11 => ?_)
    · exact absurd c_11 (by decide)
    · refine r_iconst d_Mm_frozenIn_14 (v := 1) (by decide) ?_
      refine r_goto (tgt := 19) d_Mm_frozenIn_15 (by decide) ?_
      refine r_iconst d_Mm_frozenIn_19 (v := 1) (by decide) ?_
      refine r_callV (As := [.int 1, .int 1]) (rest := []) (csC := [(m, .inr (12, [.int 0, .ref mp, .int pt, .ref mf, .ref mh, .ref mn, .ref mt, .ref mz, .ref mc_, .ref mq, .ref mgr, .int cl, .int wa, .int co_, .int fi, .int bu, .int ho, .ref ml, .ref mi, .ref mr, .int lh, .int mg, .int wd, .int fpi, .int fal, .ref mm, .ref mu, .ref mk, .ref mx, .long po, .long de]))]) (is := [0]) (q0 := 0) rfl rfl ln_Mm_103 w_im_Mm_fails w_se_Mm_fails ok_Mm_frozenIn_Mm_fails d_Mm_frozenIn_20 (C_Mm_fails1 g m mp mf mh mn mt mz mc_ mq mgr ml mi mr mm mu mk mx th pt cl wa co_ fi bu ho lh mg wd fpi fal po de) rfl rfl (Nat.le_of_ble_eq_true rfl) rfl (by decide) (by omega) (by omega) (fun E cs1 hx => ?_) (fun v cs1 hx => ?_)
      · exact absurd hx.1 (by simp)
      · obtain ⟨e1, rfl⟩ := hx
        cases e1
        refine ⟨rfl, ?_⟩
        refine r_st (st2 := [.int 1]) rfl ?_
        refine r_cs (cs2 := [(m, .inr (12, [.int 1, .ref mp, .int pt, .ref mf, .ref mh, .ref mn, .ref mt, .ref mz, .ref mc_, .ref mq, .ref mgr, .int cl, .int wa, .int co_, .int fi, .int bu, .int ho, .ref ml, .ref mi, .ref mr, .int lh, .int mg, .int wd, .int fpi, .int fal, .ref mm, .ref mu, .ref mk, .ref mx, .long po, .long de])), (mp, .inl (1, 108, .inl f))]) rfl ?_
        refine r_if_ne (tgt := 38) d_Mm_frozenIn_23 (by decide) (fun c_23 => ?_) (fun c_23 => ?_)
        · refine r_iconst d_Mm_frozenIn_38 (v := 0) (by decide) ?_
          refine r_iret d_Mm_frozenIn_39 rfl rfl ?_
          exact ⟨rfl, rfl⟩
        · exact absurd c_23 (by decide)
theorem d_Mm_frozenIn_18 : decode prog_14_method_33_code 18 = .ok (.iconst 0, 1) := zo_3 (zd_b zq_prog_14_method_33_code_0 18 rfl rfl rfl)
theorem d_Mm_frozenIn_26 : decode prog_14_method_33_code 26 = .ok (.aload_n 0, 1) := zo_42 (zd_b zq_prog_14_method_33_code_0 26 rfl rfl rfl)
theorem d_Mm_frozenIn_27 : decode prog_14_method_33_code 27 = .ok (.iload_n 3, 1) := zo_29 (zd_b zq_prog_14_method_33_code_0 27 rfl rfl rfl)
theorem d_Mm_frozenIn_28 : decode prog_14_method_33_code 28 = .ok (.invokestatic 163, 3) := zo_184 (d := 0) (e := 163) (zd_b zq_prog_14_method_33_code_0 28 rfl rfl rfl) (zd_b zq_prog_14_method_33_code_0 29 rfl rfl rfl) (zd_b zq_prog_14_method_33_code_0 30 rfl rfl rfl)
theorem ok_Mm_frozenIn_Mm_noHeat : z_ok M_Mm_frozenIn M_Mm_noHeat 1 := ⟨z_mj8 (i := 36) rfl (by decide +kernel), rfl, ⟨by decide +kernel, by decide +kernel, by decide +kernel⟩, ⟨by decide, by decide⟩, z_mj1 (i := 14) rfl (by decide +kernel), rfl⟩
theorem ln_Mm_163 : Cond.methodLink "IronpourModel" 163 M_Mm_noHeat.1 ∈ z_gw := z_mj8 (i := 34) rfl (by decide +kernel)
theorem w_st_Mm_noHeat : Cond.static M_Mm_noHeat.1 ∈ z_gw := z_mj8 (i := 35) rfl (by decide +kernel)
theorem d_Mm_frozenIn_31 : decode prog_14_method_33_code 31 = .ok (.iconst 2, 1) := zo_5 (zd_b zq_prog_14_method_33_code_0 31 rfl rfl rfl)
theorem d_Mm_frozenIn_32 : decode prog_14_method_33_code 32 = .ok (.invokevirtual 103, 3) := zo_182 (d := 0) (e := 103) (zd_b zq_prog_14_method_33_code_1 0 rfl rfl rfl) (zd_b zq_prog_14_method_33_code_1 1 rfl rfl rfl) (zd_b zq_prog_14_method_33_code_1 2 rfl rfl rfl)
theorem d_Mm_frozenIn_35 : decode prog_14_method_33_code 35 = .ok (.ifCond .eq 5, 3) := zo_153 (d := 0) (e := 5) (zd_b zq_prog_14_method_33_code_1 3 rfl rfl rfl) (zd_b zq_prog_14_method_33_code_1 4 rfl rfl rfl) (zd_b zq_prog_14_method_33_code_1 5 rfl rfl rfl) (by decide +kernel)
set_option maxHeartbeats 4000000 in
set_option maxRecDepth 100000 in
theorem C_Mm_frozenInF (g : zG) (m mp mf mh mn mt mz mc_ mq mgr ml mi mr mm mu mk mx : Nat) (th pt cl wa co_ fi bu ho lh mg wd fpi fal : Int32) (po de : Int64) (f : Nat → Int32) (x y : Nat) (hx0 : x < 12) (hy0 : y < 9) (h : Int32) (hh : ¬ (1200 ≤ h ∧ h ≤ 1500)) : CT g M_Mm_frozenIn [.ref m, .int (nI x), .int (nI y), .int h] [(m, .inr (12, [.int th, .ref mp, .int pt, .ref mf, .ref mh, .ref mn, .ref mt, .ref mz, .ref mc_, .ref mq, .ref mgr, .int cl, .int wa, .int co_, .int fi, .int bu, .int ho, .ref ml, .ref mi, .ref mr, .int lh, .int mg, .int wd, .int fpi, .int fal, .ref mm, .ref mu, .ref mk, .ref mx, .long po, .long de])), (mp, .inl (1, 108, .inl f))] (fun o cs1 => o = .inl (some (.int 0)) ∧ cs1 = [(m, .inr (12, [.int 2, .ref mp, .int pt, .ref mf, .ref mh, .ref mn, .ref mt, .ref mz, .ref mc_, .ref mq, .ref mgr, .int cl, .int wa, .int co_, .int fi, .int bu, .int ho, .ref ml, .ref mi, .ref mr, .int lh, .int mg, .int wd, .int fpi, .int fal, .ref mm, .ref mu, .ref mk, .ref mx, .long po, .long de])), (mp, .inl (1, 108, .inl f))]) 0 0 := by
  refine z_of (by decide) rfl (Nat.le_of_ble_eq_true rfl) (fun w0 => ?_)
  refine r_lvE (lv2 := [(0, .ref m), (1, .int (nI x)), (2, .int (nI y)), (3, .int h)]) rfl ?_
  refine r_aload_n d_Mm_frozenIn_0 rfl 0 rfl ?_
  refine r_iconst d_Mm_frozenIn_1 (v := 0) (by decide) ?_
  refine r_put fp_Mm_84 d_Mm_frozenIn_2 (fun h => nomatch h) rfl rfl (q0 := 0) rfl (Nat.le_of_ble_eq_true rfl) (cs' := [(m, .inr (12, [.int 0, .ref mp, .int pt, .ref mf, .ref mh, .ref mn, .ref mt, .ref mz, .ref mc_, .ref mq, .ref mgr, .int cl, .int wa, .int co_, .int fi, .int bu, .int ho, .ref ml, .ref mi, .ref mr, .int lh, .int mg, .int wd, .int fpi, .int fal, .ref mm, .ref mu, .ref mk, .ref mx, .long po, .long de])), (mp, .inl (1, 108, .inl f))]) rfl ?_
  refine r_aload_n d_Mm_frozenIn_5 rfl 0 rfl ?_
  refine r_iload_n d_Mm_frozenIn_6 rfl 1 rfl ?_
  refine r_iload_n d_Mm_frozenIn_7 rfl 2 rfl ?_
  refine r_callS (As := [.int (nI x), .int (nI y)]) (rest := [.ref m]) (csC := []) (is := []) ln_Mm_91 w_st_Mm_isCell ok_Mm_frozenIn_Mm_isCell d_Mm_frozenIn_8 (C_Mm_isCell g (nI x) (nI y)) rfl rfl (Nat.le_of_ble_eq_true rfl) rfl (by decide) (by omega) (by omega) (fun E cs1 hx => ?_) (fun v cs1 hx => ?_)
  · exact absurd hx.1 (by simp)
  · obtain ⟨e1, rfl⟩ := hx
    rw [if_pos (z_cellN (by omega) (by omega))] at e1
    cases e1
    refine ⟨rfl, ?_⟩
    refine r_st (st2 := [.int 1, .ref m]) rfl ?_
    refine r_cs (cs2 := [(m, .inr (12, [.int 0, .ref mp, .int pt, .ref mf, .ref mh, .ref mn, .ref mt, .ref mz, .ref mc_, .ref mq, .ref mgr, .int cl, .int wa, .int co_, .int fi, .int bu, .int ho, .ref ml, .ref mi, .ref mr, .int lh, .int mg, .int wd, .int fpi, .int fal, .ref mm, .ref mu, .ref mk, .ref mx, .long po, .long de])), (mp, .inl (1, 108, .inl f))]) rfl ?_
    refine r_if_ne (tgt := 18) d_Mm_frozenIn_11 (by decide) (fun c_11 => ?_) (fun c_11 => ?_)
    · refine r_iconst d_Mm_frozenIn_18 (v := 0) (by decide) ?_
      refine r_iconst d_Mm_frozenIn_19 (v := 1) (by decide) ?_
      refine r_callV (As := [.int 0, .int 1]) (rest := []) (csC := [(m, .inr (12, [.int 0, .ref mp, .int pt, .ref mf, .ref mh, .ref mn, .ref mt, .ref mz, .ref mc_, .ref mq, .ref mgr, .int cl, .int wa, .int co_, .int fi, .int bu, .int ho, .ref ml, .ref mi, .ref mr, .int lh, .int mg, .int wd, .int fpi, .int fal, .ref mm, .ref mu, .ref mk, .ref mx, .long po, .long de]))]) (is := [0]) (q0 := 0) rfl rfl ln_Mm_103 w_im_Mm_fails w_se_Mm_fails ok_Mm_frozenIn_Mm_fails d_Mm_frozenIn_20 (C_Mm_fails0 g m mp mf mh mn mt mz mc_ mq mgr ml mi mr mm mu mk mx th pt cl wa co_ fi bu ho lh mg wd fpi fal po de 1) rfl rfl (Nat.le_of_ble_eq_true rfl) rfl (by decide) (by omega) (by omega) (fun E cs1 hx => ?_) (fun v cs1 hx => ?_)
      · exact absurd hx.1 (by simp)
      · obtain ⟨e1, rfl⟩ := hx
        cases e1
        refine ⟨rfl, ?_⟩
        refine r_st (st2 := [.int 0]) rfl ?_
        refine r_cs (cs2 := [(m, .inr (12, [.int 0, .ref mp, .int pt, .ref mf, .ref mh, .ref mn, .ref mt, .ref mz, .ref mc_, .ref mq, .ref mgr, .int cl, .int wa, .int co_, .int fi, .int bu, .int ho, .ref ml, .ref mi, .ref mr, .int lh, .int mg, .int wd, .int fpi, .int fal, .ref mm, .ref mu, .ref mk, .ref mx, .long po, .long de])), (mp, .inl (1, 108, .inl f))]) rfl ?_
        refine r_if_ne (tgt := 38) d_Mm_frozenIn_23 (by decide) (fun c_23 => ?_) (fun c_23 => ?_)
        · exact absurd c_23 (by decide)
        · refine r_aload_n d_Mm_frozenIn_26 rfl 0 rfl ?_
          refine r_iload_n d_Mm_frozenIn_27 rfl 3 rfl ?_
          refine r_callS (As := [.int h]) (rest := [.ref m]) (csC := []) (is := []) ln_Mm_163 w_st_Mm_noHeat ok_Mm_frozenIn_Mm_noHeat d_Mm_frozenIn_28 (C_Mm_noHeat1 g h hh) rfl rfl (Nat.le_of_ble_eq_true rfl) rfl (by decide) (by omega) (by omega) (fun E cs1 hx => ?_) (fun v cs1 hx => ?_)
          · exact absurd hx.1 (by simp)
          · obtain ⟨e1, rfl⟩ := hx
            cases e1
            refine ⟨rfl, ?_⟩
            refine r_st (st2 := [.int 1, .ref m]) rfl ?_
            refine r_cs (cs2 := [(m, .inr (12, [.int 0, .ref mp, .int pt, .ref mf, .ref mh, .ref mn, .ref mt, .ref mz, .ref mc_, .ref mq, .ref mgr, .int cl, .int wa, .int co_, .int fi, .int bu, .int ho, .ref ml, .ref mi, .ref mr, .int lh, .int mg, .int wd, .int fpi, .int fal, .ref mm, .ref mu, .ref mk, .ref mx, .long po, .long de])), (mp, .inl (1, 108, .inl f))]) rfl ?_
            refine r_iconst d_Mm_frozenIn_31 (v := 2) (by decide) ?_
            refine r_callV (As := [.int 1, .int 2]) (rest := []) (csC := [(m, .inr (12, [.int 0, .ref mp, .int pt, .ref mf, .ref mh, .ref mn, .ref mt, .ref mz, .ref mc_, .ref mq, .ref mgr, .int cl, .int wa, .int co_, .int fi, .int bu, .int ho, .ref ml, .ref mi, .ref mr, .int lh, .int mg, .int wd, .int fpi, .int fal, .ref mm, .ref mu, .ref mk, .ref mx, .long po, .long de]))]) (is := [0]) (q0 := 0) rfl rfl ln_Mm_103 w_im_Mm_fails w_se_Mm_fails ok_Mm_frozenIn_Mm_fails d_Mm_frozenIn_32 (C_Mm_fails2 g m mp mf mh mn mt mz mc_ mq mgr ml mi mr mm mu mk mx th pt cl wa co_ fi bu ho lh mg wd fpi fal po de) rfl rfl (Nat.le_of_ble_eq_true rfl) rfl (by decide) (by omega) (by omega) (fun E cs1 hx => ?_) (fun v cs1 hx => ?_)
            · exact absurd hx.1 (by simp)
            · obtain ⟨e1, rfl⟩ := hx
              cases e1
              refine ⟨rfl, ?_⟩
              refine r_st (st2 := [.int 1]) rfl ?_
              refine r_cs (cs2 := [(m, .inr (12, [.int 2, .ref mp, .int pt, .ref mf, .ref mh, .ref mn, .ref mt, .ref mz, .ref mc_, .ref mq, .ref mgr, .int cl, .int wa, .int co_, .int fi, .int bu, .int ho, .ref ml, .ref mi, .ref mr, .int lh, .int mg, .int wd, .int fpi, .int fal, .ref mm, .ref mu, .ref mk, .ref mx, .long po, .long de])), (mp, .inl (1, 108, .inl f))]) rfl ?_
              refine r_if_eq (tgt := 40) d_Mm_frozenIn_35 (by decide) (fun c_35 => ?_) (fun c_35 => ?_)
              · exact absurd c_35 (by decide)
              · refine r_iconst d_Mm_frozenIn_38 (v := 0) (by decide) ?_
                refine r_iret d_Mm_frozenIn_39 rfl rfl ?_
                exact ⟨rfl, rfl⟩
    · exact absurd c_11 (by decide)
theorem d_Mm_frozenIn_40 : decode prog_14_method_33_code 40 = .ok (.aload_n 0, 1) := zo_42 (zd_b zq_prog_14_method_33_code_1 8 rfl rfl rfl)
theorem d_Mm_frozenIn_41 : decode prog_14_method_33_code 41 = .ok (.aload_n 0, 1) := zo_42 (zd_b zq_prog_14_method_33_code_1 9 rfl rfl rfl)
theorem d_Mm_frozenIn_42 : decode prog_14_method_33_code 42 = .ok (.getfield 7, 3) := zo_180 (d := 0) (e := 7) (zd_b zq_prog_14_method_33_code_1 10 rfl rfl rfl) (zd_b zq_prog_14_method_33_code_1 11 rfl rfl rfl) (zd_b zq_prog_14_method_33_code_1 12 rfl rfl rfl)
theorem d_Mm_frozenIn_45 : decode prog_14_method_33_code 45 = .ok (.iload_n 3, 1) := zo_29 (zd_b zq_prog_14_method_33_code_1 13 rfl rfl rfl)
theorem d_Mm_frozenIn_46 : decode prog_14_method_33_code 46 = .ok (.invokevirtual 167, 3) := zo_182 (d := 0) (e := 167) (zd_b zq_prog_14_method_33_code_1 14 rfl rfl rfl) (zd_b zq_prog_14_method_33_code_1 15 rfl rfl rfl) (zd_b zq_prog_14_method_33_code_1 16 rfl rfl rfl)
theorem ok_Mm_frozenIn_Mm_freeze : z_ok M_Mm_frozenIn M_Mm_freeze 2 := ⟨z_mj8 (i := 40) rfl (by decide +kernel), rfl, ⟨by decide +kernel, by decide +kernel, by decide +kernel⟩, ⟨by decide, by decide⟩, z_mj1 (i := 14) rfl (by decide +kernel), rfl⟩
theorem ln_Mm_167 : Cond.methodLink "IronpourModel" 167 M_Mm_freeze.1 ∈ z_gw := z_mj8 (i := 37) rfl (by decide +kernel)
theorem w_im_Mm_freeze : Cond.instanceMethod M_Mm_freeze.1 ∈ z_gw := z_mj8 (i := 39) rfl (by decide +kernel)
theorem w_se_Mm_freeze : Cond.selects M_Mm_freeze.1.cls M_Mm_freeze.1 M_Mm_freeze.1 ∈ z_gw := z_mem (i := 35) (by decide +kernel) (by decide +kernel)
theorem d_Mm_frozenIn_49 : decode prog_14_method_33_code 49 = .ok (.aload_n 0, 1) := zo_42 (zd_b zq_prog_14_method_33_code_1 17 rfl rfl rfl)
theorem d_Mm_frozenIn_50 : decode prog_14_method_33_code 50 = .ok (.getfield 30, 3) := zo_180 (d := 0) (e := 30) (zd_b zq_prog_14_method_33_code_1 18 rfl rfl rfl) (zd_b zq_prog_14_method_33_code_1 19 rfl rfl rfl) (zd_b zq_prog_14_method_33_code_1 20 rfl rfl rfl)
theorem d_Mm_frozenIn_53 : decode prog_14_method_33_code 53 = .ok (.bipush 12, 2) := zo_16 (d := 12) (zd_b zq_prog_14_method_33_code_1 21 rfl rfl rfl) (zd_b zq_prog_14_method_33_code_1 22 rfl rfl rfl) (by decide +kernel)
theorem d_Mm_frozenIn_55 : decode prog_14_method_33_code 55 = .ok (.iload_n 2, 1) := zo_28 (zd_b zq_prog_14_method_33_code_1 23 rfl rfl rfl)
theorem d_Mm_frozenIn_56 : decode prog_14_method_33_code 56 = .ok (.imul, 1) := zo_104 (zd_b zq_prog_14_method_33_code_1 24 rfl rfl rfl)
theorem d_Mm_frozenIn_57 : decode prog_14_method_33_code 57 = .ok (.iload_n 1, 1) := zo_27 (zd_b zq_prog_14_method_33_code_1 25 rfl rfl rfl)
theorem d_Mm_frozenIn_58 : decode prog_14_method_33_code 58 = .ok (.iadd, 1) := zo_96 (zd_b zq_prog_14_method_33_code_1 26 rfl rfl rfl)
theorem d_Mm_frozenIn_59 : decode prog_14_method_33_code 59 = .ok (.iaload, 1) := zo_46 (zd_b zq_prog_14_method_33_code_1 27 rfl rfl rfl)
theorem d_Mm_frozenIn_60 : decode prog_14_method_33_code 60 = .ok (.ireturn, 1) := zo_172 (zd_b zq_prog_14_method_33_code_1 28 rfl rfl rfl)
abbrev M_Mm_heatAt : zM := (⟨"IronpourModel", "heatAt", "(IIII)I"⟩, prog_14_method_34_code, 6, (Option.some FieldType.int), 7, 163, [])
theorem d_Mm_heatAt_0 : decode prog_14_method_34_code 0 = .ok (.aload_n 0, 1) := zo_42 (zd_b zq_prog_14_method_34_code_0 0 rfl rfl rfl)
theorem d_Mm_heatAt_1 : decode prog_14_method_34_code 1 = .ok (.iconst 0, 1) := zo_3 (zd_b zq_prog_14_method_34_code_0 1 rfl rfl rfl)
theorem d_Mm_heatAt_2 : decode prog_14_method_34_code 2 = .ok (.putfield 84, 3) := zo_181 (d := 0) (e := 84) (zd_b zq_prog_14_method_34_code_0 2 rfl rfl rfl) (zd_b zq_prog_14_method_34_code_0 3 rfl rfl rfl) (zd_b zq_prog_14_method_34_code_0 4 rfl rfl rfl)
theorem d_Mm_heatAt_5 : decode prog_14_method_34_code 5 = .ok (.aload_n 0, 1) := zo_42 (zd_b zq_prog_14_method_34_code_0 5 rfl rfl rfl)
theorem d_Mm_heatAt_6 : decode prog_14_method_34_code 6 = .ok (.iload_n 1, 1) := zo_27 (zd_b zq_prog_14_method_34_code_0 6 rfl rfl rfl)
theorem d_Mm_heatAt_7 : decode prog_14_method_34_code 7 = .ok (.iload_n 2, 1) := zo_28 (zd_b zq_prog_14_method_34_code_0 7 rfl rfl rfl)
theorem d_Mm_heatAt_8 : decode prog_14_method_34_code 8 = .ok (.invokestatic 91, 3) := zo_184 (d := 0) (e := 91) (zd_b zq_prog_14_method_34_code_0 8 rfl rfl rfl) (zd_b zq_prog_14_method_34_code_0 9 rfl rfl rfl) (zd_b zq_prog_14_method_34_code_0 10 rfl rfl rfl)
theorem ok_Mm_heatAt_Mm_isCell : z_ok M_Mm_heatAt M_Mm_isCell 2 := ⟨z_mj7 (i := 187) rfl (by decide +kernel), rfl, ⟨by decide +kernel, by decide +kernel, by decide +kernel⟩, ⟨by decide, by decide⟩, z_mj1 (i := 14) rfl (by decide +kernel), rfl⟩
theorem d_Mm_heatAt_11 : decode prog_14_method_34_code 11 = .ok (.ifCond .ne 7, 3) := zo_154 (d := 0) (e := 7) (zd_b zq_prog_14_method_34_code_0 11 rfl rfl rfl) (zd_b zq_prog_14_method_34_code_0 12 rfl rfl rfl) (zd_b zq_prog_14_method_34_code_0 13 rfl rfl rfl) (by decide +kernel)
theorem d_Mm_heatAt_14 : decode prog_14_method_34_code 14 = .ok (.iconst 1, 1) := zo_4 (zd_b zq_prog_14_method_34_code_0 14 rfl rfl rfl)
theorem d_Mm_heatAt_15 : decode prog_14_method_34_code 15 = .ok (.goto 4, 3) := zo_167 (d := 0) (e := 4) (zd_b zq_prog_14_method_34_code_0 15 rfl rfl rfl) (zd_b zq_prog_14_method_34_code_0 16 rfl rfl rfl) (zd_b zq_prog_14_method_34_code_0 17 rfl rfl rfl) (by decide +kernel)
theorem d_Mm_heatAt_19 : decode prog_14_method_34_code 19 = .ok (.iconst 1, 1) := zo_4 (zd_b zq_prog_14_method_34_code_0 19 rfl rfl rfl)
theorem d_Mm_heatAt_20 : decode prog_14_method_34_code 20 = .ok (.invokevirtual 103, 3) := zo_182 (d := 0) (e := 103) (zd_b zq_prog_14_method_34_code_0 20 rfl rfl rfl) (zd_b zq_prog_14_method_34_code_0 21 rfl rfl rfl) (zd_b zq_prog_14_method_34_code_0 22 rfl rfl rfl)
theorem ok_Mm_heatAt_Mm_fails : z_ok M_Mm_heatAt M_Mm_fails 2 := ⟨z_mj7 (i := 196) rfl (by decide +kernel), rfl, ⟨by decide +kernel, by decide +kernel, by decide +kernel⟩, ⟨by decide, by decide⟩, z_mj1 (i := 14) rfl (by decide +kernel), rfl⟩
theorem d_Mm_heatAt_23 : decode prog_14_method_34_code 23 = .ok (.ifCond .ne 35, 3) := zo_154 (d := 0) (e := 35) (zd_b zq_prog_14_method_34_code_0 23 rfl rfl rfl) (zd_b zq_prog_14_method_34_code_0 24 rfl rfl rfl) (zd_b zq_prog_14_method_34_code_0 25 rfl rfl rfl) (by decide +kernel)
theorem d_Mm_heatAt_58 : decode prog_14_method_34_code 58 = .ok (.iconst 0, 1) := zo_3 (zd_b zq_prog_14_method_34_code_1 26 rfl rfl rfl)
theorem d_Mm_heatAt_59 : decode prog_14_method_34_code 59 = .ok (.ireturn, 1) := zo_172 (zd_b zq_prog_14_method_34_code_1 27 rfl rfl rfl)
set_option maxHeartbeats 4000000 in
set_option maxRecDepth 100000 in
theorem C_Mm_heatAtE (g : zG) (m mp mf mh mn mt mz mc_ mq mgr ml mi mr mm mu mk mx : Nat) (th pt cl wa co_ fi bu ho lh mg wd fpi fal : Int32) (po de : Int64) (f : Nat → Int32) (x y h st : Int32) (hz : z_cl x y = none) : CT g M_Mm_heatAt [.ref m, .int x, .int y, .int h, .int st] [(m, .inr (12, [.int th, .ref mp, .int pt, .ref mf, .ref mh, .ref mn, .ref mt, .ref mz, .ref mc_, .ref mq, .ref mgr, .int cl, .int wa, .int co_, .int fi, .int bu, .int ho, .ref ml, .ref mi, .ref mr, .int lh, .int mg, .int wd, .int fpi, .int fal, .ref mm, .ref mu, .ref mk, .ref mx, .long po, .long de])), (mp, .inl (1, 108, .inl f))] (fun o cs1 => o = .inl (some (.int 0)) ∧ cs1 = [(m, .inr (12, [.int 1, .ref mp, .int pt, .ref mf, .ref mh, .ref mn, .ref mt, .ref mz, .ref mc_, .ref mq, .ref mgr, .int cl, .int wa, .int co_, .int fi, .int bu, .int ho, .ref ml, .ref mi, .ref mr, .int lh, .int mg, .int wd, .int fpi, .int fal, .ref mm, .ref mu, .ref mk, .ref mx, .long po, .long de])), (mp, .inl (1, 108, .inl f))]) 0 0 := by
  refine z_of (by decide) rfl (Nat.le_of_ble_eq_true rfl) (fun w0 => ?_)
  refine r_lvE (lv2 := [(0, .ref m), (1, .int x), (2, .int y), (3, .int h), (4, .int st)]) rfl ?_
  refine r_aload_n d_Mm_heatAt_0 rfl 0 rfl ?_
  refine r_iconst d_Mm_heatAt_1 (v := 0) (by decide) ?_
  refine r_put fp_Mm_84 d_Mm_heatAt_2 (fun h => nomatch h) rfl rfl (q0 := 0) rfl (Nat.le_of_ble_eq_true rfl) (cs' := [(m, .inr (12, [.int 0, .ref mp, .int pt, .ref mf, .ref mh, .ref mn, .ref mt, .ref mz, .ref mc_, .ref mq, .ref mgr, .int cl, .int wa, .int co_, .int fi, .int bu, .int ho, .ref ml, .ref mi, .ref mr, .int lh, .int mg, .int wd, .int fpi, .int fal, .ref mm, .ref mu, .ref mk, .ref mx, .long po, .long de])), (mp, .inl (1, 108, .inl f))]) rfl ?_
  refine r_aload_n d_Mm_heatAt_5 rfl 0 rfl ?_
  refine r_iload_n d_Mm_heatAt_6 rfl 1 rfl ?_
  refine r_iload_n d_Mm_heatAt_7 rfl 2 rfl ?_
  refine r_callS (As := [.int x, .int y]) (rest := [.ref m]) (csC := []) (is := []) ln_Mm_91 w_st_Mm_isCell ok_Mm_heatAt_Mm_isCell d_Mm_heatAt_8 (C_Mm_isCell g x y) rfl rfl (Nat.le_of_ble_eq_true rfl) rfl (by decide) (by omega) (by omega) (fun E cs1 hx => ?_) (fun v cs1 hx => ?_)
  · exact absurd hx.1 (by simp)
  · obtain ⟨e1, rfl⟩ := hx
    rw [if_neg (z_clN hz)] at e1
    cases e1
    refine ⟨rfl, ?_⟩
    refine r_st (st2 := [.int 0, .ref m]) rfl ?_
    refine r_cs (cs2 := [(m, .inr (12, [.int 0, .ref mp, .int pt, .ref mf, .ref mh, .ref mn, .ref mt, .ref mz, .ref mc_, .ref mq, .ref mgr, .int cl, .int wa, .int co_, .int fi, .int bu, .int ho, .ref ml, .ref mi, .ref mr, .int lh, .int mg, .int wd, .int fpi, .int fal, .ref mm, .ref mu, .ref mk, .ref mx, .long po, .long de])), (mp, .inl (1, 108, .inl f))]) rfl ?_
    refine r_if_ne (tgt := 18) d_Mm_heatAt_11 (by decide) (fun c_11 => ?_) (fun c_11 => ?_)
    · exact absurd c_11 (by decide)
    · refine r_iconst d_Mm_heatAt_14 (v := 1) (by decide) ?_
      refine r_goto (tgt := 19) d_Mm_heatAt_15 (by decide) ?_
      refine r_iconst d_Mm_heatAt_19 (v := 1) (by decide) ?_
      refine r_callV (As := [.int 1, .int 1]) (rest := []) (csC := [(m, .inr (12, [.int 0, .ref mp, .int pt, .ref mf, .ref mh, .ref mn, .ref mt, .ref mz, .ref mc_, .ref mq, .ref mgr, .int cl, .int wa, .int co_, .int fi, .int bu, .int ho, .ref ml, .ref mi, .ref mr, .int lh, .int mg, .int wd, .int fpi, .int fal, .ref mm, .ref mu, .ref mk, .ref mx, .long po, .long de]))]) (is := [0]) (q0 := 0) rfl rfl ln_Mm_103 w_im_Mm_fails w_se_Mm_fails ok_Mm_heatAt_Mm_fails d_Mm_heatAt_20 (C_Mm_fails1 g m mp mf mh mn mt mz mc_ mq mgr ml mi mr mm mu mk mx th pt cl wa co_ fi bu ho lh mg wd fpi fal po de) rfl rfl (Nat.le_of_ble_eq_true rfl) rfl (by decide) (by omega) (by omega) (fun E cs1 hx => ?_) (fun v cs1 hx => ?_)
      · exact absurd hx.1 (by simp)
      · obtain ⟨e1, rfl⟩ := hx
        cases e1
        refine ⟨rfl, ?_⟩
        refine r_st (st2 := [.int 1]) rfl ?_
        refine r_cs (cs2 := [(m, .inr (12, [.int 1, .ref mp, .int pt, .ref mf, .ref mh, .ref mn, .ref mt, .ref mz, .ref mc_, .ref mq, .ref mgr, .int cl, .int wa, .int co_, .int fi, .int bu, .int ho, .ref ml, .ref mi, .ref mr, .int lh, .int mg, .int wd, .int fpi, .int fal, .ref mm, .ref mu, .ref mk, .ref mx, .long po, .long de])), (mp, .inl (1, 108, .inl f))]) rfl ?_
        refine r_if_ne (tgt := 58) d_Mm_heatAt_23 (by decide) (fun c_23 => ?_) (fun c_23 => ?_)
        · refine r_iconst d_Mm_heatAt_58 (v := 0) (by decide) ?_
          refine r_iret d_Mm_heatAt_59 rfl rfl ?_
          exact ⟨rfl, rfl⟩
        · exact absurd c_23 (by decide)
theorem d_Mm_heatAt_18 : decode prog_14_method_34_code 18 = .ok (.iconst 0, 1) := zo_3 (zd_b zq_prog_14_method_34_code_0 18 rfl rfl rfl)
theorem d_Mm_heatAt_26 : decode prog_14_method_34_code 26 = .ok (.aload_n 0, 1) := zo_42 (zd_b zq_prog_14_method_34_code_0 26 rfl rfl rfl)
theorem d_Mm_heatAt_27 : decode prog_14_method_34_code 27 = .ok (.iload_n 3, 1) := zo_29 (zd_b zq_prog_14_method_34_code_0 27 rfl rfl rfl)
theorem d_Mm_heatAt_28 : decode prog_14_method_34_code 28 = .ok (.invokestatic 163, 3) := zo_184 (d := 0) (e := 163) (zd_b zq_prog_14_method_34_code_0 28 rfl rfl rfl) (zd_b zq_prog_14_method_34_code_0 29 rfl rfl rfl) (zd_b zq_prog_14_method_34_code_0 30 rfl rfl rfl)
theorem ok_Mm_heatAt_Mm_noHeat : z_ok M_Mm_heatAt M_Mm_noHeat 1 := ⟨z_mj8 (i := 36) rfl (by decide +kernel), rfl, ⟨by decide +kernel, by decide +kernel, by decide +kernel⟩, ⟨by decide, by decide⟩, z_mj1 (i := 14) rfl (by decide +kernel), rfl⟩
theorem d_Mm_heatAt_31 : decode prog_14_method_34_code 31 = .ok (.ifCond .ne 15, 3) := zo_154 (d := 0) (e := 15) (zd_b zq_prog_14_method_34_code_0 31 rfl rfl rfl) (zd_b zq_prog_14_method_34_code_1 0 rfl rfl rfl) (zd_b zq_prog_14_method_34_code_1 1 rfl rfl rfl) (by decide +kernel)
theorem d_Mm_heatAt_46 : decode prog_14_method_34_code 46 = .ok (.iconst 1, 1) := zo_4 (zd_b zq_prog_14_method_34_code_1 14 rfl rfl rfl)
theorem d_Mm_heatAt_47 : decode prog_14_method_34_code 47 = .ok (.goto 4, 3) := zo_167 (d := 0) (e := 4) (zd_b zq_prog_14_method_34_code_1 15 rfl rfl rfl) (zd_b zq_prog_14_method_34_code_1 16 rfl rfl rfl) (zd_b zq_prog_14_method_34_code_1 17 rfl rfl rfl) (by decide +kernel)
theorem d_Mm_heatAt_51 : decode prog_14_method_34_code 51 = .ok (.iconst 2, 1) := zo_5 (zd_b zq_prog_14_method_34_code_1 19 rfl rfl rfl)
theorem d_Mm_heatAt_52 : decode prog_14_method_34_code 52 = .ok (.invokevirtual 103, 3) := zo_182 (d := 0) (e := 103) (zd_b zq_prog_14_method_34_code_1 20 rfl rfl rfl) (zd_b zq_prog_14_method_34_code_1 21 rfl rfl rfl) (zd_b zq_prog_14_method_34_code_1 22 rfl rfl rfl)
theorem d_Mm_heatAt_55 : decode prog_14_method_34_code 55 = .ok (.ifCond .eq 5, 3) := zo_153 (d := 0) (e := 5) (zd_b zq_prog_14_method_34_code_1 23 rfl rfl rfl) (zd_b zq_prog_14_method_34_code_1 24 rfl rfl rfl) (zd_b zq_prog_14_method_34_code_1 25 rfl rfl rfl) (by decide +kernel)
set_option maxHeartbeats 4000000 in
set_option maxRecDepth 100000 in
theorem C_Mm_heatAtF (g : zG) (m mp mf mh mn mt mz mc_ mq mgr ml mi mr mm mu mk mx : Nat) (th pt cl wa co_ fi bu ho lh mg wd fpi fal : Int32) (po de : Int64) (f : Nat → Int32) (x y : Nat) (hx0 : x < 12) (hy0 : y < 9) (h st : Int32) (hh : ¬ (1200 ≤ h ∧ h ≤ 1500)) : CT g M_Mm_heatAt [.ref m, .int (nI x), .int (nI y), .int h, .int st] [(m, .inr (12, [.int th, .ref mp, .int pt, .ref mf, .ref mh, .ref mn, .ref mt, .ref mz, .ref mc_, .ref mq, .ref mgr, .int cl, .int wa, .int co_, .int fi, .int bu, .int ho, .ref ml, .ref mi, .ref mr, .int lh, .int mg, .int wd, .int fpi, .int fal, .ref mm, .ref mu, .ref mk, .ref mx, .long po, .long de])), (mp, .inl (1, 108, .inl f))] (fun o cs1 => o = .inl (some (.int 0)) ∧ cs1 = [(m, .inr (12, [.int 2, .ref mp, .int pt, .ref mf, .ref mh, .ref mn, .ref mt, .ref mz, .ref mc_, .ref mq, .ref mgr, .int cl, .int wa, .int co_, .int fi, .int bu, .int ho, .ref ml, .ref mi, .ref mr, .int lh, .int mg, .int wd, .int fpi, .int fal, .ref mm, .ref mu, .ref mk, .ref mx, .long po, .long de])), (mp, .inl (1, 108, .inl f))]) 0 0 := by
  refine z_of (by decide) rfl (Nat.le_of_ble_eq_true rfl) (fun w0 => ?_)
  refine r_lvE (lv2 := [(0, .ref m), (1, .int (nI x)), (2, .int (nI y)), (3, .int h), (4, .int st)]) rfl ?_
  refine r_aload_n d_Mm_heatAt_0 rfl 0 rfl ?_
  refine r_iconst d_Mm_heatAt_1 (v := 0) (by decide) ?_
  refine r_put fp_Mm_84 d_Mm_heatAt_2 (fun h => nomatch h) rfl rfl (q0 := 0) rfl (Nat.le_of_ble_eq_true rfl) (cs' := [(m, .inr (12, [.int 0, .ref mp, .int pt, .ref mf, .ref mh, .ref mn, .ref mt, .ref mz, .ref mc_, .ref mq, .ref mgr, .int cl, .int wa, .int co_, .int fi, .int bu, .int ho, .ref ml, .ref mi, .ref mr, .int lh, .int mg, .int wd, .int fpi, .int fal, .ref mm, .ref mu, .ref mk, .ref mx, .long po, .long de])), (mp, .inl (1, 108, .inl f))]) rfl ?_
  refine r_aload_n d_Mm_heatAt_5 rfl 0 rfl ?_
  refine r_iload_n d_Mm_heatAt_6 rfl 1 rfl ?_
  refine r_iload_n d_Mm_heatAt_7 rfl 2 rfl ?_
  refine r_callS (As := [.int (nI x), .int (nI y)]) (rest := [.ref m]) (csC := []) (is := []) ln_Mm_91 w_st_Mm_isCell ok_Mm_heatAt_Mm_isCell d_Mm_heatAt_8 (C_Mm_isCell g (nI x) (nI y)) rfl rfl (Nat.le_of_ble_eq_true rfl) rfl (by decide) (by omega) (by omega) (fun E cs1 hx => ?_) (fun v cs1 hx => ?_)
  · exact absurd hx.1 (by simp)
  · obtain ⟨e1, rfl⟩ := hx
    rw [if_pos (z_cellN (by omega) (by omega))] at e1
    cases e1
    refine ⟨rfl, ?_⟩
    refine r_st (st2 := [.int 1, .ref m]) rfl ?_
    refine r_cs (cs2 := [(m, .inr (12, [.int 0, .ref mp, .int pt, .ref mf, .ref mh, .ref mn, .ref mt, .ref mz, .ref mc_, .ref mq, .ref mgr, .int cl, .int wa, .int co_, .int fi, .int bu, .int ho, .ref ml, .ref mi, .ref mr, .int lh, .int mg, .int wd, .int fpi, .int fal, .ref mm, .ref mu, .ref mk, .ref mx, .long po, .long de])), (mp, .inl (1, 108, .inl f))]) rfl ?_
    refine r_if_ne (tgt := 18) d_Mm_heatAt_11 (by decide) (fun c_11 => ?_) (fun c_11 => ?_)
    · refine r_iconst d_Mm_heatAt_18 (v := 0) (by decide) ?_
      refine r_iconst d_Mm_heatAt_19 (v := 1) (by decide) ?_
      refine r_callV (As := [.int 0, .int 1]) (rest := []) (csC := [(m, .inr (12, [.int 0, .ref mp, .int pt, .ref mf, .ref mh, .ref mn, .ref mt, .ref mz, .ref mc_, .ref mq, .ref mgr, .int cl, .int wa, .int co_, .int fi, .int bu, .int ho, .ref ml, .ref mi, .ref mr, .int lh, .int mg, .int wd, .int fpi, .int fal, .ref mm, .ref mu, .ref mk, .ref mx, .long po, .long de]))]) (is := [0]) (q0 := 0) rfl rfl ln_Mm_103 w_im_Mm_fails w_se_Mm_fails ok_Mm_heatAt_Mm_fails d_Mm_heatAt_20 (C_Mm_fails0 g m mp mf mh mn mt mz mc_ mq mgr ml mi mr mm mu mk mx th pt cl wa co_ fi bu ho lh mg wd fpi fal po de 1) rfl rfl (Nat.le_of_ble_eq_true rfl) rfl (by decide) (by omega) (by omega) (fun E cs1 hx => ?_) (fun v cs1 hx => ?_)
      · exact absurd hx.1 (by simp)
      · obtain ⟨e1, rfl⟩ := hx
        cases e1
        refine ⟨rfl, ?_⟩
        refine r_st (st2 := [.int 0]) rfl ?_
        refine r_cs (cs2 := [(m, .inr (12, [.int 0, .ref mp, .int pt, .ref mf, .ref mh, .ref mn, .ref mt, .ref mz, .ref mc_, .ref mq, .ref mgr, .int cl, .int wa, .int co_, .int fi, .int bu, .int ho, .ref ml, .ref mi, .ref mr, .int lh, .int mg, .int wd, .int fpi, .int fal, .ref mm, .ref mu, .ref mk, .ref mx, .long po, .long de])), (mp, .inl (1, 108, .inl f))]) rfl ?_
        refine r_if_ne (tgt := 58) d_Mm_heatAt_23 (by decide) (fun c_23 => ?_) (fun c_23 => ?_)
        · exact absurd c_23 (by decide)
        · refine r_aload_n d_Mm_heatAt_26 rfl 0 rfl ?_
          refine r_iload_n d_Mm_heatAt_27 rfl 3 rfl ?_
          refine r_callS (As := [.int h]) (rest := [.ref m]) (csC := []) (is := []) ln_Mm_163 w_st_Mm_noHeat ok_Mm_heatAt_Mm_noHeat d_Mm_heatAt_28 (C_Mm_noHeat1 g h hh) rfl rfl (Nat.le_of_ble_eq_true rfl) rfl (by decide) (by omega) (by omega) (fun E cs1 hx => ?_) (fun v cs1 hx => ?_)
          · exact absurd hx.1 (by simp)
          · obtain ⟨e1, rfl⟩ := hx
            cases e1
            refine ⟨rfl, ?_⟩
            refine r_st (st2 := [.int 1, .ref m]) rfl ?_
            refine r_cs (cs2 := [(m, .inr (12, [.int 0, .ref mp, .int pt, .ref mf, .ref mh, .ref mn, .ref mt, .ref mz, .ref mc_, .ref mq, .ref mgr, .int cl, .int wa, .int co_, .int fi, .int bu, .int ho, .ref ml, .ref mi, .ref mr, .int lh, .int mg, .int wd, .int fpi, .int fal, .ref mm, .ref mu, .ref mk, .ref mx, .long po, .long de])), (mp, .inl (1, 108, .inl f))]) rfl ?_
            refine r_if_ne (tgt := 46) d_Mm_heatAt_31 (by decide) (fun c_31 => ?_) (fun c_31 => ?_)
            · refine r_iconst d_Mm_heatAt_46 (v := 1) (by decide) ?_
              refine r_goto (tgt := 51) d_Mm_heatAt_47 (by decide) ?_
              refine r_iconst d_Mm_heatAt_51 (v := 2) (by decide) ?_
              refine r_callV (As := [.int 1, .int 2]) (rest := []) (csC := [(m, .inr (12, [.int 0, .ref mp, .int pt, .ref mf, .ref mh, .ref mn, .ref mt, .ref mz, .ref mc_, .ref mq, .ref mgr, .int cl, .int wa, .int co_, .int fi, .int bu, .int ho, .ref ml, .ref mi, .ref mr, .int lh, .int mg, .int wd, .int fpi, .int fal, .ref mm, .ref mu, .ref mk, .ref mx, .long po, .long de]))]) (is := [0]) (q0 := 0) rfl rfl ln_Mm_103 w_im_Mm_fails w_se_Mm_fails ok_Mm_heatAt_Mm_fails d_Mm_heatAt_52 (C_Mm_fails2 g m mp mf mh mn mt mz mc_ mq mgr ml mi mr mm mu mk mx th pt cl wa co_ fi bu ho lh mg wd fpi fal po de) rfl rfl (Nat.le_of_ble_eq_true rfl) rfl (by decide) (by omega) (by omega) (fun E cs1 hx => ?_) (fun v cs1 hx => ?_)
              · exact absurd hx.1 (by simp)
              · obtain ⟨e1, rfl⟩ := hx
                cases e1
                refine ⟨rfl, ?_⟩
                refine r_st (st2 := [.int 1]) rfl ?_
                refine r_cs (cs2 := [(m, .inr (12, [.int 2, .ref mp, .int pt, .ref mf, .ref mh, .ref mn, .ref mt, .ref mz, .ref mc_, .ref mq, .ref mgr, .int cl, .int wa, .int co_, .int fi, .int bu, .int ho, .ref ml, .ref mi, .ref mr, .int lh, .int mg, .int wd, .int fpi, .int fal, .ref mm, .ref mu, .ref mk, .ref mx, .long po, .long de])), (mp, .inl (1, 108, .inl f))]) rfl ?_
                refine r_if_eq (tgt := 60) d_Mm_heatAt_55 (by decide) (fun c_55 => ?_) (fun c_55 => ?_)
                · exact absurd c_55 (by decide)
                · refine r_iconst d_Mm_heatAt_58 (v := 0) (by decide) ?_
                  refine r_iret d_Mm_heatAt_59 rfl rfl ?_
                  exact ⟨rfl, rfl⟩
            · exact absurd c_31 (by decide)
    · exact absurd c_11 (by decide)
theorem d_Mm_heatAt_34 : decode prog_14_method_34_code 34 = .ok (.iload 4, 2) := zo_21 (d := 4) (zd_b zq_prog_14_method_34_code_1 2 rfl rfl rfl) (zd_b zq_prog_14_method_34_code_1 3 rfl rfl rfl)
theorem d_Mm_heatAt_36 : decode prog_14_method_34_code 36 = .ok (.iconst 0, 1) := zo_3 (zd_b zq_prog_14_method_34_code_1 4 rfl rfl rfl)
theorem d_Mm_heatAt_37 : decode prog_14_method_34_code 37 = .ok (.sipush 400, 3) := zo_17 (d := 1) (e := 144) (zd_b zq_prog_14_method_34_code_1 5 rfl rfl rfl) (zd_b zq_prog_14_method_34_code_1 6 rfl rfl rfl) (zd_b zq_prog_14_method_34_code_1 7 rfl rfl rfl) (by decide +kernel)
theorem d_Mm_heatAt_40 : decode prog_14_method_34_code 40 = .ok (.invokestatic 87, 3) := zo_184 (d := 0) (e := 87) (zd_b zq_prog_14_method_34_code_1 8 rfl rfl rfl) (zd_b zq_prog_14_method_34_code_1 9 rfl rfl rfl) (zd_b zq_prog_14_method_34_code_1 10 rfl rfl rfl)
theorem ok_Mm_heatAt_Mm_in : z_ok M_Mm_heatAt M_Mm_in 3 := ⟨z_mj7 (i := 190) rfl (by decide +kernel), rfl, ⟨by decide +kernel, by decide +kernel, by decide +kernel⟩, ⟨by decide, by decide⟩, z_mj1 (i := 14) rfl (by decide +kernel), rfl⟩
theorem d_Mm_heatAt_43 : decode prog_14_method_34_code 43 = .ok (.ifCond .ne 7, 3) := zo_154 (d := 0) (e := 7) (zd_b zq_prog_14_method_34_code_1 11 rfl rfl rfl) (zd_b zq_prog_14_method_34_code_1 12 rfl rfl rfl) (zd_b zq_prog_14_method_34_code_1 13 rfl rfl rfl) (by decide +kernel)
set_option maxHeartbeats 4000000 in
set_option maxRecDepth 100000 in
theorem C_Mm_heatAtG (g : zG) (m mp mf mh mn mt mz mc_ mq mgr ml mi mr mm mu mk mx : Nat) (th pt cl wa co_ fi bu ho lh mg wd fpi fal : Int32) (po de : Int64) (f : Nat → Int32) (x y : Nat) (hx0 : x < 12) (hy0 : y < 9) (h st : Int32) (hh : 1200 ≤ h ∧ h ≤ 1500) (hs2 : ¬ (0 ≤ st ∧ st ≤ 400)) : CT g M_Mm_heatAt [.ref m, .int (nI x), .int (nI y), .int h, .int st] [(m, .inr (12, [.int th, .ref mp, .int pt, .ref mf, .ref mh, .ref mn, .ref mt, .ref mz, .ref mc_, .ref mq, .ref mgr, .int cl, .int wa, .int co_, .int fi, .int bu, .int ho, .ref ml, .ref mi, .ref mr, .int lh, .int mg, .int wd, .int fpi, .int fal, .ref mm, .ref mu, .ref mk, .ref mx, .long po, .long de])), (mp, .inl (1, 108, .inl f))] (fun o cs1 => o = .inl (some (.int 0)) ∧ cs1 = [(m, .inr (12, [.int 2, .ref mp, .int pt, .ref mf, .ref mh, .ref mn, .ref mt, .ref mz, .ref mc_, .ref mq, .ref mgr, .int cl, .int wa, .int co_, .int fi, .int bu, .int ho, .ref ml, .ref mi, .ref mr, .int lh, .int mg, .int wd, .int fpi, .int fal, .ref mm, .ref mu, .ref mk, .ref mx, .long po, .long de])), (mp, .inl (1, 108, .inl f))]) 0 0 := by
  refine z_of (by decide) rfl (Nat.le_of_ble_eq_true rfl) (fun w0 => ?_)
  refine r_lvE (lv2 := [(0, .ref m), (1, .int (nI x)), (2, .int (nI y)), (3, .int h), (4, .int st)]) rfl ?_
  refine r_aload_n d_Mm_heatAt_0 rfl 0 rfl ?_
  refine r_iconst d_Mm_heatAt_1 (v := 0) (by decide) ?_
  refine r_put fp_Mm_84 d_Mm_heatAt_2 (fun h => nomatch h) rfl rfl (q0 := 0) rfl (Nat.le_of_ble_eq_true rfl) (cs' := [(m, .inr (12, [.int 0, .ref mp, .int pt, .ref mf, .ref mh, .ref mn, .ref mt, .ref mz, .ref mc_, .ref mq, .ref mgr, .int cl, .int wa, .int co_, .int fi, .int bu, .int ho, .ref ml, .ref mi, .ref mr, .int lh, .int mg, .int wd, .int fpi, .int fal, .ref mm, .ref mu, .ref mk, .ref mx, .long po, .long de])), (mp, .inl (1, 108, .inl f))]) rfl ?_
  refine r_aload_n d_Mm_heatAt_5 rfl 0 rfl ?_
  refine r_iload_n d_Mm_heatAt_6 rfl 1 rfl ?_
  refine r_iload_n d_Mm_heatAt_7 rfl 2 rfl ?_
  refine r_callS (As := [.int (nI x), .int (nI y)]) (rest := [.ref m]) (csC := []) (is := []) ln_Mm_91 w_st_Mm_isCell ok_Mm_heatAt_Mm_isCell d_Mm_heatAt_8 (C_Mm_isCell g (nI x) (nI y)) rfl rfl (Nat.le_of_ble_eq_true rfl) rfl (by decide) (by omega) (by omega) (fun E cs1 hx => ?_) (fun v cs1 hx => ?_)
  · exact absurd hx.1 (by simp)
  · obtain ⟨e1, rfl⟩ := hx
    rw [if_pos (z_cellN (by omega) (by omega))] at e1
    cases e1
    refine ⟨rfl, ?_⟩
    refine r_st (st2 := [.int 1, .ref m]) rfl ?_
    refine r_cs (cs2 := [(m, .inr (12, [.int 0, .ref mp, .int pt, .ref mf, .ref mh, .ref mn, .ref mt, .ref mz, .ref mc_, .ref mq, .ref mgr, .int cl, .int wa, .int co_, .int fi, .int bu, .int ho, .ref ml, .ref mi, .ref mr, .int lh, .int mg, .int wd, .int fpi, .int fal, .ref mm, .ref mu, .ref mk, .ref mx, .long po, .long de])), (mp, .inl (1, 108, .inl f))]) rfl ?_
    refine r_if_ne (tgt := 18) d_Mm_heatAt_11 (by decide) (fun c_11 => ?_) (fun c_11 => ?_)
    · refine r_iconst d_Mm_heatAt_18 (v := 0) (by decide) ?_
      refine r_iconst d_Mm_heatAt_19 (v := 1) (by decide) ?_
      refine r_callV (As := [.int 0, .int 1]) (rest := []) (csC := [(m, .inr (12, [.int 0, .ref mp, .int pt, .ref mf, .ref mh, .ref mn, .ref mt, .ref mz, .ref mc_, .ref mq, .ref mgr, .int cl, .int wa, .int co_, .int fi, .int bu, .int ho, .ref ml, .ref mi, .ref mr, .int lh, .int mg, .int wd, .int fpi, .int fal, .ref mm, .ref mu, .ref mk, .ref mx, .long po, .long de]))]) (is := [0]) (q0 := 0) rfl rfl ln_Mm_103 w_im_Mm_fails w_se_Mm_fails ok_Mm_heatAt_Mm_fails d_Mm_heatAt_20 (C_Mm_fails0 g m mp mf mh mn mt mz mc_ mq mgr ml mi mr mm mu mk mx th pt cl wa co_ fi bu ho lh mg wd fpi fal po de 1) rfl rfl (Nat.le_of_ble_eq_true rfl) rfl (by decide) (by omega) (by omega) (fun E cs1 hx => ?_) (fun v cs1 hx => ?_)
      · exact absurd hx.1 (by simp)
      · obtain ⟨e1, rfl⟩ := hx
        cases e1
        refine ⟨rfl, ?_⟩
        refine r_st (st2 := [.int 0]) rfl ?_
        refine r_cs (cs2 := [(m, .inr (12, [.int 0, .ref mp, .int pt, .ref mf, .ref mh, .ref mn, .ref mt, .ref mz, .ref mc_, .ref mq, .ref mgr, .int cl, .int wa, .int co_, .int fi, .int bu, .int ho, .ref ml, .ref mi, .ref mr, .int lh, .int mg, .int wd, .int fpi, .int fal, .ref mm, .ref mu, .ref mk, .ref mx, .long po, .long de])), (mp, .inl (1, 108, .inl f))]) rfl ?_
        refine r_if_ne (tgt := 58) d_Mm_heatAt_23 (by decide) (fun c_23 => ?_) (fun c_23 => ?_)
        · exact absurd c_23 (by decide)
        · refine r_aload_n d_Mm_heatAt_26 rfl 0 rfl ?_
          refine r_iload_n d_Mm_heatAt_27 rfl 3 rfl ?_
          refine r_callS (As := [.int h]) (rest := [.ref m]) (csC := []) (is := []) ln_Mm_163 w_st_Mm_noHeat ok_Mm_heatAt_Mm_noHeat d_Mm_heatAt_28 (C_Mm_noHeat0 g h hh) rfl rfl (Nat.le_of_ble_eq_true rfl) rfl (by decide) (by omega) (by omega) (fun E cs1 hx => ?_) (fun v cs1 hx => ?_)
          · exact absurd hx.1 (by simp)
          · obtain ⟨e1, rfl⟩ := hx
            cases e1
            refine ⟨rfl, ?_⟩
            refine r_st (st2 := [.int 0, .ref m]) rfl ?_
            refine r_cs (cs2 := [(m, .inr (12, [.int 0, .ref mp, .int pt, .ref mf, .ref mh, .ref mn, .ref mt, .ref mz, .ref mc_, .ref mq, .ref mgr, .int cl, .int wa, .int co_, .int fi, .int bu, .int ho, .ref ml, .ref mi, .ref mr, .int lh, .int mg, .int wd, .int fpi, .int fal, .ref mm, .ref mu, .ref mk, .ref mx, .long po, .long de])), (mp, .inl (1, 108, .inl f))]) rfl ?_
            refine r_if_ne (tgt := 46) d_Mm_heatAt_31 (by decide) (fun c_31 => ?_) (fun c_31 => ?_)
            · exact absurd c_31 (by decide)
            · refine r_iload d_Mm_heatAt_34 4 rfl ?_
              refine r_iconst d_Mm_heatAt_36 (v := 0) (by decide) ?_
              refine r_sipush d_Mm_heatAt_37 (v := 400) (by decide) ?_
              refine r_callS (As := [.int st, .int 0, .int 400]) (rest := [.ref m]) (csC := []) (is := []) ln_Mm_87 w_st_Mm_in ok_Mm_heatAt_Mm_in d_Mm_heatAt_40 (C_Mm_in g st 0 400) rfl rfl (Nat.le_of_ble_eq_true rfl) rfl (by decide) (by omega) (by omega) (fun E cs1 hx => ?_) (fun v cs1 hx => ?_)
              · exact absurd hx.1 (by simp)
              · obtain ⟨e1, rfl⟩ := hx
                rw [if_neg hs2] at e1
                cases e1
                refine ⟨rfl, ?_⟩
                refine r_st (st2 := [.int 0, .ref m]) rfl ?_
                refine r_cs (cs2 := [(m, .inr (12, [.int 0, .ref mp, .int pt, .ref mf, .ref mh, .ref mn, .ref mt, .ref mz, .ref mc_, .ref mq, .ref mgr, .int cl, .int wa, .int co_, .int fi, .int bu, .int ho, .ref ml, .ref mi, .ref mr, .int lh, .int mg, .int wd, .int fpi, .int fal, .ref mm, .ref mu, .ref mk, .ref mx, .long po, .long de])), (mp, .inl (1, 108, .inl f))]) rfl ?_
                refine r_if_ne (tgt := 50) d_Mm_heatAt_43 (by decide) (fun c_43 => ?_) (fun c_43 => ?_)
                · exact absurd c_43 (by decide)
                · refine r_iconst d_Mm_heatAt_46 (v := 1) (by decide) ?_
                  refine r_goto (tgt := 51) d_Mm_heatAt_47 (by decide) ?_
                  refine r_iconst d_Mm_heatAt_51 (v := 2) (by decide) ?_
                  refine r_callV (As := [.int 1, .int 2]) (rest := []) (csC := [(m, .inr (12, [.int 0, .ref mp, .int pt, .ref mf, .ref mh, .ref mn, .ref mt, .ref mz, .ref mc_, .ref mq, .ref mgr, .int cl, .int wa, .int co_, .int fi, .int bu, .int ho, .ref ml, .ref mi, .ref mr, .int lh, .int mg, .int wd, .int fpi, .int fal, .ref mm, .ref mu, .ref mk, .ref mx, .long po, .long de]))]) (is := [0]) (q0 := 0) rfl rfl ln_Mm_103 w_im_Mm_fails w_se_Mm_fails ok_Mm_heatAt_Mm_fails d_Mm_heatAt_52 (C_Mm_fails2 g m mp mf mh mn mt mz mc_ mq mgr ml mi mr mm mu mk mx th pt cl wa co_ fi bu ho lh mg wd fpi fal po de) rfl rfl (Nat.le_of_ble_eq_true rfl) rfl (by decide) (by omega) (by omega) (fun E cs1 hx => ?_) (fun v cs1 hx => ?_)
                  · exact absurd hx.1 (by simp)
                  · obtain ⟨e1, rfl⟩ := hx
                    cases e1
                    refine ⟨rfl, ?_⟩
                    refine r_st (st2 := [.int 1]) rfl ?_
                    refine r_cs (cs2 := [(m, .inr (12, [.int 2, .ref mp, .int pt, .ref mf, .ref mh, .ref mn, .ref mt, .ref mz, .ref mc_, .ref mq, .ref mgr, .int cl, .int wa, .int co_, .int fi, .int bu, .int ho, .ref ml, .ref mi, .ref mr, .int lh, .int mg, .int wd, .int fpi, .int fal, .ref mm, .ref mu, .ref mk, .ref mx, .long po, .long de])), (mp, .inl (1, 108, .inl f))]) rfl ?_
                    refine r_if_eq (tgt := 60) d_Mm_heatAt_55 (by decide) (fun c_55 => ?_) (fun c_55 => ?_)
                    · exact absurd c_55 (by decide)
                    · refine r_iconst d_Mm_heatAt_58 (v := 0) (by decide) ?_
                      refine r_iret d_Mm_heatAt_59 rfl rfl ?_
                      exact ⟨rfl, rfl⟩
    · exact absurd c_11 (by decide)
theorem d_Mm_heatAt_72 : decode prog_14_method_34_code 72 = .ok (.iload 5, 2) := zo_21 (d := 5) (zd_b zq_prog_14_method_34_code_2 8 rfl rfl rfl) (zd_b zq_prog_14_method_34_code_2 9 rfl rfl rfl)
theorem d_Mm_heatAt_74 : decode prog_14_method_34_code 74 = .ok (.iload 4, 2) := zo_21 (d := 4) (zd_b zq_prog_14_method_34_code_2 10 rfl rfl rfl) (zd_b zq_prog_14_method_34_code_2 11 rfl rfl rfl)
theorem d_Mm_heatAt_76 : decode prog_14_method_34_code 76 = .ok (.if_icmp .gt 20, 3) := zo_163 (d := 0) (e := 20) (zd_b zq_prog_14_method_34_code_2 12 rfl rfl rfl) (zd_b zq_prog_14_method_34_code_2 13 rfl rfl rfl) (zd_b zq_prog_14_method_34_code_2 14 rfl rfl rfl) (by decide +kernel)
theorem d_Mm_heatAt_96 : decode prog_14_method_34_code 96 = .ok (.aload_n 0, 1) := zo_42 (zd_b zq_prog_14_method_34_code_3 0 rfl rfl rfl)
theorem d_Mm_heatAt_97 : decode prog_14_method_34_code 97 = .ok (.getfield 21, 3) := zo_180 (d := 0) (e := 21) (zd_b zq_prog_14_method_34_code_3 1 rfl rfl rfl) (zd_b zq_prog_14_method_34_code_3 2 rfl rfl rfl) (zd_b zq_prog_14_method_34_code_3 3 rfl rfl rfl)
theorem d_Mm_heatAt_100 : decode prog_14_method_34_code 100 = .ok (.bipush 12, 2) := zo_16 (d := 12) (zd_b zq_prog_14_method_34_code_3 4 rfl rfl rfl) (zd_b zq_prog_14_method_34_code_3 5 rfl rfl rfl) (by decide +kernel)
theorem d_Mm_heatAt_102 : decode prog_14_method_34_code 102 = .ok (.iload_n 2, 1) := zo_28 (zd_b zq_prog_14_method_34_code_3 6 rfl rfl rfl)
theorem d_Mm_heatAt_103 : decode prog_14_method_34_code 103 = .ok (.imul, 1) := zo_104 (zd_b zq_prog_14_method_34_code_3 7 rfl rfl rfl)
theorem d_Mm_heatAt_104 : decode prog_14_method_34_code 104 = .ok (.iload_n 1, 1) := zo_27 (zd_b zq_prog_14_method_34_code_3 8 rfl rfl rfl)
theorem d_Mm_heatAt_105 : decode prog_14_method_34_code 105 = .ok (.iadd, 1) := zo_96 (zd_b zq_prog_14_method_34_code_3 9 rfl rfl rfl)
theorem d_Mm_heatAt_106 : decode prog_14_method_34_code 106 = .ok (.iaload, 1) := zo_46 (zd_b zq_prog_14_method_34_code_3 10 rfl rfl rfl)
theorem d_Mm_heatAt_107 : decode prog_14_method_34_code 107 = .ok (.ireturn, 1) := zo_172 (zd_b zq_prog_14_method_34_code_3 11 rfl rfl rfl)
theorem d_Mm_heatAt_79 : decode prog_14_method_34_code 79 = .ok (.aload_n 0, 1) := zo_42 (zd_b zq_prog_14_method_34_code_2 15 rfl rfl rfl)
theorem d_Mm_heatAt_80 : decode prog_14_method_34_code 80 = .ok (.aload_n 0, 1) := zo_42 (zd_b zq_prog_14_method_34_code_2 16 rfl rfl rfl)
theorem d_Mm_heatAt_81 : decode prog_14_method_34_code 81 = .ok (.getfield 7, 3) := zo_180 (d := 0) (e := 7) (zd_b zq_prog_14_method_34_code_2 17 rfl rfl rfl) (zd_b zq_prog_14_method_34_code_2 18 rfl rfl rfl) (zd_b zq_prog_14_method_34_code_2 19 rfl rfl rfl)
theorem d_Mm_heatAt_84 : decode prog_14_method_34_code 84 = .ok (.iload 5, 2) := zo_21 (d := 5) (zd_b zq_prog_14_method_34_code_2 20 rfl rfl rfl) (zd_b zq_prog_14_method_34_code_2 21 rfl rfl rfl)
theorem d_Mm_heatAt_86 : decode prog_14_method_34_code 86 = .ok (.invokevirtual 160, 3) := zo_182 (d := 0) (e := 160) (zd_b zq_prog_14_method_34_code_2 22 rfl rfl rfl) (zd_b zq_prog_14_method_34_code_2 23 rfl rfl rfl) (zd_b zq_prog_14_method_34_code_2 24 rfl rfl rfl)
theorem ok_Mm_heatAt_Mm_freezeStep : z_ok M_Mm_heatAt M_Mm_freezeStep 2 := ⟨z_mj8 (i := 48) rfl (by decide +kernel), rfl, ⟨by decide +kernel, by decide +kernel, by decide +kernel⟩, ⟨by decide, by decide⟩, z_mj1 (i := 14) rfl (by decide +kernel), rfl⟩
theorem d_Mm_heatAt_89 : decode prog_14_method_34_code 89 = .ok (.pop, 1) := zo_87 (zd_b zq_prog_14_method_34_code_2 25 rfl rfl rfl)
theorem d_Mm_heatAt_90 : decode prog_14_method_34_code 90 = .ok (.iinc 5 1, 3) := by decide +kernel
theorem d_Mm_heatAt_93 : decode prog_14_method_34_code 93 = .ok (.goto (-21), 3) := zo_167 (d := 255) (e := 235) (zd_b zq_prog_14_method_34_code_2 29 rfl rfl rfl) (zd_b zq_prog_14_method_34_code_2 30 rfl rfl rfl) (zd_b zq_prog_14_method_34_code_2 31 rfl rfl rfl) (by decide +kernel)
theorem d_Mm_heatAt_50 : decode prog_14_method_34_code 50 = .ok (.iconst 0, 1) := zo_3 (zd_b zq_prog_14_method_34_code_1 18 rfl rfl rfl)
theorem d_Mm_heatAt_60 : decode prog_14_method_34_code 60 = .ok (.aload_n 0, 1) := zo_42 (zd_b zq_prog_14_method_34_code_1 28 rfl rfl rfl)
theorem d_Mm_heatAt_61 : decode prog_14_method_34_code 61 = .ok (.aload_n 0, 1) := zo_42 (zd_b zq_prog_14_method_34_code_1 29 rfl rfl rfl)
theorem d_Mm_heatAt_62 : decode prog_14_method_34_code 62 = .ok (.getfield 7, 3) := zo_180 (d := 0) (e := 7) (zd_b zq_prog_14_method_34_code_1 30 rfl rfl rfl) (zd_b zq_prog_14_method_34_code_1 31 rfl rfl rfl) (zd_b zq_prog_14_method_34_code_2 0 rfl rfl rfl)
theorem d_Mm_heatAt_65 : decode prog_14_method_34_code 65 = .ok (.iload_n 3, 1) := zo_29 (zd_b zq_prog_14_method_34_code_2 1 rfl rfl rfl)
theorem d_Mm_heatAt_66 : decode prog_14_method_34_code 66 = .ok (.invokevirtual 157, 3) := zo_182 (d := 0) (e := 157) (zd_b zq_prog_14_method_34_code_2 2 rfl rfl rfl) (zd_b zq_prog_14_method_34_code_2 3 rfl rfl rfl) (zd_b zq_prog_14_method_34_code_2 4 rfl rfl rfl)
theorem ok_Mm_heatAt_Mm_begin : z_ok M_Mm_heatAt M_Mm_begin 2 := ⟨z_mj8 (i := 44) rfl (by decide +kernel), rfl, ⟨by decide +kernel, by decide +kernel, by decide +kernel⟩, ⟨by decide, by decide⟩, z_mj1 (i := 14) rfl (by decide +kernel), rfl⟩
theorem d_Mm_heatAt_69 : decode prog_14_method_34_code 69 = .ok (.iconst 1, 1) := zo_4 (zd_b zq_prog_14_method_34_code_2 5 rfl rfl rfl)
theorem d_Mm_heatAt_70 : decode prog_14_method_34_code 70 = .ok (.istore 5, 2) := zo_54 (d := 5) (zd_b zq_prog_14_method_34_code_2 6 rfl rfl rfl) (zd_b zq_prog_14_method_34_code_2 7 rfl rfl rfl)
abbrev M_Mm_feed : zM := (⟨"IronpourModel", "feed", "([CI)V"⟩, prog_14_method_35_code, 9, (Option.none : Option FieldType), 8, 187, [])
theorem d_Mm_feed_11 : decode prog_14_method_35_code 11 = .ok (.iload 4, 2) := zo_21 (d := 4) (zd_b zq_prog_14_method_35_code_0 11 rfl rfl rfl) (zd_b zq_prog_14_method_35_code_0 12 rfl rfl rfl)
theorem d_Mm_feed_13 : decode prog_14_method_35_code 13 = .ok (.bipush 108, 2) := zo_16 (d := 108) (zd_b zq_prog_14_method_35_code_0 13 rfl rfl rfl) (zd_b zq_prog_14_method_35_code_0 14 rfl rfl rfl) (by decide +kernel)
theorem d_Mm_feed_15 : decode prog_14_method_35_code 15 = .ok (.if_icmp .ge 62, 3) := zo_162 (d := 0) (e := 62) (zd_b zq_prog_14_method_35_code_0 15 rfl rfl rfl) (zd_b zq_prog_14_method_35_code_0 16 rfl rfl rfl) (zd_b zq_prog_14_method_35_code_0 17 rfl rfl rfl) (by decide +kernel)
theorem d_Mm_feed_77 : decode prog_14_method_35_code 77 = .ok (.bipush 10, 2) := zo_16 (d := 10) (zd_b zq_prog_14_method_35_code_2 13 rfl rfl rfl) (zd_b zq_prog_14_method_35_code_2 14 rfl rfl rfl) (by decide +kernel)
theorem d_Mm_feed_79 : decode prog_14_method_35_code 79 = .ok (.iload_n 3, 1) := zo_29 (zd_b zq_prog_14_method_35_code_2 15 rfl rfl rfl)
theorem d_Mm_feed_80 : decode prog_14_method_35_code 80 = .ok (.imul, 1) := zo_104 (zd_b zq_prog_14_method_35_code_2 16 rfl rfl rfl)
theorem d_Mm_feed_81 : decode prog_14_method_35_code 81 = .ok (.istore 4, 2) := zo_54 (d := 4) (zd_b zq_prog_14_method_35_code_2 17 rfl rfl rfl) (zd_b zq_prog_14_method_35_code_2 18 rfl rfl rfl)
theorem d_Mm_feed_83 : decode prog_14_method_35_code 83 = .ok (.iconst 0, 1) := zo_3 (zd_b zq_prog_14_method_35_code_2 19 rfl rfl rfl)
theorem d_Mm_feed_84 : decode prog_14_method_35_code 84 = .ok (.istore 5, 2) := zo_54 (d := 5) (zd_b zq_prog_14_method_35_code_2 20 rfl rfl rfl) (zd_b zq_prog_14_method_35_code_2 21 rfl rfl rfl)
theorem d_Mm_feed_86 : decode prog_14_method_35_code 86 = .ok (.iload 5, 2) := zo_21 (d := 5) (zd_b zq_prog_14_method_35_code_2 22 rfl rfl rfl) (zd_b zq_prog_14_method_35_code_2 23 rfl rfl rfl)
theorem d_Mm_feed_88 : decode prog_14_method_35_code 88 = .ok (.iload_n 3, 1) := zo_29 (zd_b zq_prog_14_method_35_code_2 24 rfl rfl rfl)
theorem d_Mm_feed_89 : decode prog_14_method_35_code 89 = .ok (.if_icmp .ge 161, 3) := zo_162 (d := 0) (e := 161) (zd_b zq_prog_14_method_35_code_2 25 rfl rfl rfl) (zd_b zq_prog_14_method_35_code_2 26 rfl rfl rfl) (zd_b zq_prog_14_method_35_code_2 27 rfl rfl rfl) (by decide +kernel)
theorem d_Mm_feed_250 : decode prog_14_method_35_code 250 = .ok (.return_, 1) := zo_177 (zd_b zq_prog_14_method_35_code_7 26 rfl rfl rfl)
theorem d_Mm_feed_18 : decode prog_14_method_35_code 18 = .ok (.aload_n 0, 1) := zo_42 (zd_b zq_prog_14_method_35_code_0 18 rfl rfl rfl)
theorem d_Mm_feed_19 : decode prog_14_method_35_code 19 = .ok (.getfield 33, 3) := zo_180 (d := 0) (e := 33) (zd_b zq_prog_14_method_35_code_0 19 rfl rfl rfl) (zd_b zq_prog_14_method_35_code_0 20 rfl rfl rfl) (zd_b zq_prog_14_method_35_code_0 21 rfl rfl rfl)
theorem fs_Mm_33 : z_fs "IronpourModel" 33 12 8 := ⟨R_Mm, "IronpourModel", F_Mm, 31, rfl, u_Mm, by decide, Or.inl ⟨z_mj7 (i := 91) rfl (by decide +kernel), Or.inl rfl⟩⟩
theorem d_Mm_feed_22 : decode prog_14_method_35_code 22 = .ok (.iload 4, 2) := zo_21 (d := 4) (zd_b zq_prog_14_method_35_code_0 22 rfl rfl rfl) (zd_b zq_prog_14_method_35_code_0 23 rfl rfl rfl)
theorem d_Mm_feed_24 : decode prog_14_method_35_code 24 = .ok (.aload_n 1, 1) := zo_43 (zd_b zq_prog_14_method_35_code_0 24 rfl rfl rfl)
theorem d_Mm_feed_25 : decode prog_14_method_35_code 25 = .ok (.iload 4, 2) := zo_21 (d := 4) (zd_b zq_prog_14_method_35_code_0 25 rfl rfl rfl) (zd_b zq_prog_14_method_35_code_0 26 rfl rfl rfl)
theorem d_Mm_feed_27 : decode prog_14_method_35_code 27 = .ok (.caload, 1) := zo_52 (zd_b zq_prog_14_method_35_code_0 27 rfl rfl rfl)
theorem d_Mm_feed_28 : decode prog_14_method_35_code 28 = .ok (.bipush 114, 2) := zo_16 (d := 114) (zd_b zq_prog_14_method_35_code_0 28 rfl rfl rfl) (zd_b zq_prog_14_method_35_code_0 29 rfl rfl rfl) (by decide +kernel)
theorem d_Mm_feed_30 : decode prog_14_method_35_code 30 = .ok (.if_icmp .ne 18, 3) := zo_160 (d := 0) (e := 18) (zd_b zq_prog_14_method_35_code_0 30 rfl rfl rfl) (zd_b zq_prog_14_method_35_code_0 31 rfl rfl rfl) (zd_b zq_prog_14_method_35_code_1 0 rfl rfl rfl) (by decide +kernel)
theorem d_Mm_feed_48 : decode prog_14_method_35_code 48 = .ok (.iconst 0, 1) := zo_3 (zd_b zq_prog_14_method_35_code_1 16 rfl rfl rfl)
theorem d_Mm_feed_49 : decode prog_14_method_35_code 49 = .ok (.bastore, 1) := zo_84 (zd_b zq_prog_14_method_35_code_1 17 rfl rfl rfl)
theorem d_Mm_feed_50 : decode prog_14_method_35_code 50 = .ok (.aload_n 0, 1) := zo_42 (zd_b zq_prog_14_method_35_code_1 18 rfl rfl rfl)
theorem d_Mm_feed_51 : decode prog_14_method_35_code 51 = .ok (.getfield 33, 3) := zo_180 (d := 0) (e := 33) (zd_b zq_prog_14_method_35_code_1 19 rfl rfl rfl) (zd_b zq_prog_14_method_35_code_1 20 rfl rfl rfl) (zd_b zq_prog_14_method_35_code_1 21 rfl rfl rfl)
theorem d_Mm_feed_54 : decode prog_14_method_35_code 54 = .ok (.iload 4, 2) := zo_21 (d := 4) (zd_b zq_prog_14_method_35_code_1 22 rfl rfl rfl) (zd_b zq_prog_14_method_35_code_1 23 rfl rfl rfl)
theorem d_Mm_feed_56 : decode prog_14_method_35_code 56 = .ok (.baload, 1) := zo_51 (zd_b zq_prog_14_method_35_code_1 24 rfl rfl rfl)
theorem d_Mm_feed_57 : decode prog_14_method_35_code 57 = .ok (.ifCond .eq 14, 3) := zo_153 (d := 0) (e := 14) (zd_b zq_prog_14_method_35_code_1 25 rfl rfl rfl) (zd_b zq_prog_14_method_35_code_1 26 rfl rfl rfl) (zd_b zq_prog_14_method_35_code_1 27 rfl rfl rfl) (by decide +kernel)
theorem d_Mm_feed_71 : decode prog_14_method_35_code 71 = .ok (.iinc 4 1, 3) := by decide +kernel
theorem d_Mm_feed_74 : decode prog_14_method_35_code 74 = .ok (.goto (-63), 3) := zo_167 (d := 255) (e := 193) (zd_b zq_prog_14_method_35_code_2 10 rfl rfl rfl) (zd_b zq_prog_14_method_35_code_2 11 rfl rfl rfl) (zd_b zq_prog_14_method_35_code_2 12 rfl rfl rfl) (by decide +kernel)
theorem d_Mm_feed_0 : decode prog_14_method_35_code 0 = .ok (.aload_n 0, 1) := zo_42 (zd_b zq_prog_14_method_35_code_0 0 rfl rfl rfl)
theorem d_Mm_feed_1 : decode prog_14_method_35_code 1 = .ok (.aload_n 1, 1) := zo_43 (zd_b zq_prog_14_method_35_code_0 1 rfl rfl rfl)
theorem d_Mm_feed_2 : decode prog_14_method_35_code 2 = .ok (.iload_n 2, 1) := zo_28 (zd_b zq_prog_14_method_35_code_0 2 rfl rfl rfl)
theorem d_Mm_feed_3 : decode prog_14_method_35_code 3 = .ok (.invokevirtual 167, 3) := zo_182 (d := 0) (e := 167) (zd_b zq_prog_14_method_35_code_0 3 rfl rfl rfl) (zd_b zq_prog_14_method_35_code_0 4 rfl rfl rfl) (zd_b zq_prog_14_method_35_code_0 5 rfl rfl rfl)
theorem ok_Mm_feed_Mm_freeze : z_ok M_Mm_feed M_Mm_freeze 2 := ⟨z_mj8 (i := 40) rfl (by decide +kernel), rfl, ⟨by decide +kernel, by decide +kernel, by decide +kernel⟩, ⟨by decide, by decide⟩, z_mj1 (i := 14) rfl (by decide +kernel), rfl⟩
theorem d_Mm_feed_6 : decode prog_14_method_35_code 6 = .ok (.iconst 0, 1) := zo_3 (zd_b zq_prog_14_method_35_code_0 6 rfl rfl rfl)
theorem d_Mm_feed_7 : decode prog_14_method_35_code 7 = .ok (.istore_n 3, 1) := zo_62 (zd_b zq_prog_14_method_35_code_0 7 rfl rfl rfl)
theorem d_Mm_feed_8 : decode prog_14_method_35_code 8 = .ok (.iconst 0, 1) := zo_3 (zd_b zq_prog_14_method_35_code_0 8 rfl rfl rfl)
theorem d_Mm_feed_9 : decode prog_14_method_35_code 9 = .ok (.istore 4, 2) := zo_54 (d := 4) (zd_b zq_prog_14_method_35_code_0 9 rfl rfl rfl) (zd_b zq_prog_14_method_35_code_0 10 rfl rfl rfl)
abbrev M_Mm_shrunkOf : zM := (⟨"IronpourModel", "shrunkOf", "([CI)I"⟩, prog_14_method_37_code, 5, (Option.some FieldType.int), 9, 215, [])
theorem d_Mm_shrunkOf_11 : decode prog_14_method_37_code 11 = .ok (.iload 4, 2) := zo_21 (d := 4) (zd_b zq_prog_14_method_37_code_0 11 rfl rfl rfl) (zd_b zq_prog_14_method_37_code_0 12 rfl rfl rfl)
theorem d_Mm_shrunkOf_13 : decode prog_14_method_37_code 13 = .ok (.bipush 108, 2) := zo_16 (d := 108) (zd_b zq_prog_14_method_37_code_0 13 rfl rfl rfl) (zd_b zq_prog_14_method_37_code_0 14 rfl rfl rfl) (by decide +kernel)
theorem d_Mm_shrunkOf_15 : decode prog_14_method_37_code 15 = .ok (.if_icmp .ge 47, 3) := zo_162 (d := 0) (e := 47) (zd_b zq_prog_14_method_37_code_0 15 rfl rfl rfl) (zd_b zq_prog_14_method_37_code_0 16 rfl rfl rfl) (zd_b zq_prog_14_method_37_code_0 17 rfl rfl rfl) (by decide +kernel)
theorem d_Mm_shrunkOf_62 : decode prog_14_method_37_code 62 = .ok (.iload_n 3, 1) := zo_29 (zd_b zq_prog_14_method_37_code_1 30 rfl rfl rfl)
theorem d_Mm_shrunkOf_63 : decode prog_14_method_37_code 63 = .ok (.ireturn, 1) := zo_172 (zd_b zq_prog_14_method_37_code_1 31 rfl rfl rfl)
theorem d_Mm_shrunkOf_18 : decode prog_14_method_37_code 18 = .ok (.iload_n 3, 1) := zo_29 (zd_b zq_prog_14_method_37_code_0 18 rfl rfl rfl)
theorem d_Mm_shrunkOf_19 : decode prog_14_method_37_code 19 = .ok (.aload_n 1, 1) := zo_43 (zd_b zq_prog_14_method_37_code_0 19 rfl rfl rfl)
theorem d_Mm_shrunkOf_20 : decode prog_14_method_37_code 20 = .ok (.iload 4, 2) := zo_21 (d := 4) (zd_b zq_prog_14_method_37_code_0 20 rfl rfl rfl) (zd_b zq_prog_14_method_37_code_0 21 rfl rfl rfl)
theorem d_Mm_shrunkOf_22 : decode prog_14_method_37_code 22 = .ok (.caload, 1) := zo_52 (zd_b zq_prog_14_method_37_code_0 22 rfl rfl rfl)
theorem d_Mm_shrunkOf_23 : decode prog_14_method_37_code 23 = .ok (.bipush 99, 2) := zo_16 (d := 99) (zd_b zq_prog_14_method_37_code_0 23 rfl rfl rfl) (zd_b zq_prog_14_method_37_code_0 24 rfl rfl rfl) (by decide +kernel)
theorem d_Mm_shrunkOf_25 : decode prog_14_method_37_code 25 = .ok (.if_icmp .ne 28, 3) := zo_160 (d := 0) (e := 28) (zd_b zq_prog_14_method_37_code_0 25 rfl rfl rfl) (zd_b zq_prog_14_method_37_code_0 26 rfl rfl rfl) (zd_b zq_prog_14_method_37_code_0 27 rfl rfl rfl) (by decide +kernel)
theorem d_Mm_shrunkOf_53 : decode prog_14_method_37_code 53 = .ok (.iconst 0, 1) := zo_3 (zd_b zq_prog_14_method_37_code_1 21 rfl rfl rfl)
theorem d_Mm_shrunkOf_54 : decode prog_14_method_37_code 54 = .ok (.iadd, 1) := zo_96 (zd_b zq_prog_14_method_37_code_1 22 rfl rfl rfl)
theorem d_Mm_shrunkOf_55 : decode prog_14_method_37_code 55 = .ok (.istore_n 3, 1) := zo_62 (zd_b zq_prog_14_method_37_code_1 23 rfl rfl rfl)
theorem d_Mm_shrunkOf_56 : decode prog_14_method_37_code 56 = .ok (.iinc 4 1, 3) := by decide +kernel
theorem d_Mm_shrunkOf_59 : decode prog_14_method_37_code 59 = .ok (.goto (-48), 3) := zo_167 (d := 255) (e := 208) (zd_b zq_prog_14_method_37_code_1 27 rfl rfl rfl) (zd_b zq_prog_14_method_37_code_1 28 rfl rfl rfl) (zd_b zq_prog_14_method_37_code_1 29 rfl rfl rfl) (by decide +kernel)
theorem d_Mm_shrunkOf_0 : decode prog_14_method_37_code 0 = .ok (.aload_n 0, 1) := zo_42 (zd_b zq_prog_14_method_37_code_0 0 rfl rfl rfl)
theorem d_Mm_shrunkOf_1 : decode prog_14_method_37_code 1 = .ok (.aload_n 1, 1) := zo_43 (zd_b zq_prog_14_method_37_code_0 1 rfl rfl rfl)
theorem d_Mm_shrunkOf_2 : decode prog_14_method_37_code 2 = .ok (.iload_n 2, 1) := zo_28 (zd_b zq_prog_14_method_37_code_0 2 rfl rfl rfl)
theorem d_Mm_shrunkOf_3 : decode prog_14_method_37_code 3 = .ok (.invokevirtual 170, 3) := zo_182 (d := 0) (e := 170) (zd_b zq_prog_14_method_37_code_0 3 rfl rfl rfl) (zd_b zq_prog_14_method_37_code_0 4 rfl rfl rfl) (zd_b zq_prog_14_method_37_code_0 5 rfl rfl rfl)
theorem ok_Mm_shrunkOf_Mm_feed : z_ok M_Mm_shrunkOf M_Mm_feed 2 := ⟨z_mj8 (i := 68) rfl (by decide +kernel), rfl, ⟨by decide +kernel, by decide +kernel, by decide +kernel⟩, ⟨by decide, by decide⟩, z_mj1 (i := 14) rfl (by decide +kernel), rfl⟩
theorem ln_Mm_170 : Cond.methodLink "IronpourModel" 170 M_Mm_feed.1 ∈ z_gw := z_mj8 (i := 65) rfl (by decide +kernel)
theorem w_im_Mm_feed : Cond.instanceMethod M_Mm_feed.1 ∈ z_gw := z_mj8 (i := 67) rfl (by decide +kernel)
theorem w_se_Mm_feed : Cond.selects M_Mm_feed.1.cls M_Mm_feed.1 M_Mm_feed.1 ∈ z_gw := z_mem (i := 40) (by decide +kernel) (by decide +kernel)
theorem d_Mm_shrunkOf_6 : decode prog_14_method_37_code 6 = .ok (.iconst 0, 1) := zo_3 (zd_b zq_prog_14_method_37_code_0 6 rfl rfl rfl)
theorem d_Mm_shrunkOf_7 : decode prog_14_method_37_code 7 = .ok (.istore_n 3, 1) := zo_62 (zd_b zq_prog_14_method_37_code_0 7 rfl rfl rfl)
theorem d_Mm_shrunkOf_8 : decode prog_14_method_37_code 8 = .ok (.iconst 0, 1) := zo_3 (zd_b zq_prog_14_method_37_code_0 8 rfl rfl rfl)
theorem d_Mm_shrunkOf_9 : decode prog_14_method_37_code 9 = .ok (.istore 4, 2) := zo_54 (d := 4) (zd_b zq_prog_14_method_37_code_0 9 rfl rfl rfl) (zd_b zq_prog_14_method_37_code_0 10 rfl rfl rfl)
abbrev M_Mm_isFed : zM := (⟨"IronpourModel", "isFed", "(III)Z"⟩, prog_14_method_36_code, 4, (Option.some FieldType.boolean), 9, 215, [])
theorem d_Mm_isFed_0 : decode prog_14_method_36_code 0 = .ok (.aload_n 0, 1) := zo_42 (zd_b zq_prog_14_method_36_code_0 0 rfl rfl rfl)
theorem d_Mm_isFed_1 : decode prog_14_method_36_code 1 = .ok (.iconst 0, 1) := zo_3 (zd_b zq_prog_14_method_36_code_0 1 rfl rfl rfl)
theorem d_Mm_isFed_2 : decode prog_14_method_36_code 2 = .ok (.putfield 84, 3) := zo_181 (d := 0) (e := 84) (zd_b zq_prog_14_method_36_code_0 2 rfl rfl rfl) (zd_b zq_prog_14_method_36_code_0 3 rfl rfl rfl) (zd_b zq_prog_14_method_36_code_0 4 rfl rfl rfl)
theorem d_Mm_isFed_5 : decode prog_14_method_36_code 5 = .ok (.aload_n 0, 1) := zo_42 (zd_b zq_prog_14_method_36_code_0 5 rfl rfl rfl)
theorem d_Mm_isFed_6 : decode prog_14_method_36_code 6 = .ok (.iload_n 1, 1) := zo_27 (zd_b zq_prog_14_method_36_code_0 6 rfl rfl rfl)
theorem d_Mm_isFed_7 : decode prog_14_method_36_code 7 = .ok (.iload_n 2, 1) := zo_28 (zd_b zq_prog_14_method_36_code_0 7 rfl rfl rfl)
theorem d_Mm_isFed_8 : decode prog_14_method_36_code 8 = .ok (.invokestatic 91, 3) := zo_184 (d := 0) (e := 91) (zd_b zq_prog_14_method_36_code_0 8 rfl rfl rfl) (zd_b zq_prog_14_method_36_code_0 9 rfl rfl rfl) (zd_b zq_prog_14_method_36_code_0 10 rfl rfl rfl)
theorem ok_Mm_isFed_Mm_isCell : z_ok M_Mm_isFed M_Mm_isCell 2 := ⟨z_mj7 (i := 187) rfl (by decide +kernel), rfl, ⟨by decide +kernel, by decide +kernel, by decide +kernel⟩, ⟨by decide, by decide⟩, z_mj1 (i := 14) rfl (by decide +kernel), rfl⟩
theorem d_Mm_isFed_11 : decode prog_14_method_36_code 11 = .ok (.ifCond .ne 7, 3) := zo_154 (d := 0) (e := 7) (zd_b zq_prog_14_method_36_code_0 11 rfl rfl rfl) (zd_b zq_prog_14_method_36_code_0 12 rfl rfl rfl) (zd_b zq_prog_14_method_36_code_0 13 rfl rfl rfl) (by decide +kernel)
theorem d_Mm_isFed_14 : decode prog_14_method_36_code 14 = .ok (.iconst 1, 1) := zo_4 (zd_b zq_prog_14_method_36_code_0 14 rfl rfl rfl)
theorem d_Mm_isFed_15 : decode prog_14_method_36_code 15 = .ok (.goto 4, 3) := zo_167 (d := 0) (e := 4) (zd_b zq_prog_14_method_36_code_0 15 rfl rfl rfl) (zd_b zq_prog_14_method_36_code_0 16 rfl rfl rfl) (zd_b zq_prog_14_method_36_code_0 17 rfl rfl rfl) (by decide +kernel)
theorem d_Mm_isFed_19 : decode prog_14_method_36_code 19 = .ok (.iconst 1, 1) := zo_4 (zd_b zq_prog_14_method_36_code_0 19 rfl rfl rfl)
theorem d_Mm_isFed_20 : decode prog_14_method_36_code 20 = .ok (.invokevirtual 103, 3) := zo_182 (d := 0) (e := 103) (zd_b zq_prog_14_method_36_code_0 20 rfl rfl rfl) (zd_b zq_prog_14_method_36_code_0 21 rfl rfl rfl) (zd_b zq_prog_14_method_36_code_0 22 rfl rfl rfl)
theorem ok_Mm_isFed_Mm_fails : z_ok M_Mm_isFed M_Mm_fails 2 := ⟨z_mj7 (i := 196) rfl (by decide +kernel), rfl, ⟨by decide +kernel, by decide +kernel, by decide +kernel⟩, ⟨by decide, by decide⟩, z_mj1 (i := 14) rfl (by decide +kernel), rfl⟩
theorem d_Mm_isFed_23 : decode prog_14_method_36_code 23 = .ok (.ifCond .ne 15, 3) := zo_154 (d := 0) (e := 15) (zd_b zq_prog_14_method_36_code_0 23 rfl rfl rfl) (zd_b zq_prog_14_method_36_code_0 24 rfl rfl rfl) (zd_b zq_prog_14_method_36_code_0 25 rfl rfl rfl) (by decide +kernel)
theorem d_Mm_isFed_38 : decode prog_14_method_36_code 38 = .ok (.iconst 0, 1) := zo_3 (zd_b zq_prog_14_method_36_code_1 6 rfl rfl rfl)
theorem d_Mm_isFed_39 : decode prog_14_method_36_code 39 = .ok (.ireturn, 1) := zo_172 (zd_b zq_prog_14_method_36_code_1 7 rfl rfl rfl)
set_option maxHeartbeats 4000000 in
set_option maxRecDepth 100000 in
theorem C_Mm_isFedE (g : zG) (m mp mf mh mn mt mz mc_ mq mgr ml mi mr mm mu mk mx : Nat) (th pt cl wa co_ fi bu ho lh mg wd fpi fal : Int32) (po de : Int64) (f : Nat → Int32) (x y h : Int32) (hz : z_cl x y = none) : CT g M_Mm_isFed [.ref m, .int x, .int y, .int h] [(m, .inr (12, [.int th, .ref mp, .int pt, .ref mf, .ref mh, .ref mn, .ref mt, .ref mz, .ref mc_, .ref mq, .ref mgr, .int cl, .int wa, .int co_, .int fi, .int bu, .int ho, .ref ml, .ref mi, .ref mr, .int lh, .int mg, .int wd, .int fpi, .int fal, .ref mm, .ref mu, .ref mk, .ref mx, .long po, .long de])), (mp, .inl (1, 108, .inl f))] (fun o cs1 => o = .inl (some (.int 0)) ∧ cs1 = [(m, .inr (12, [.int 1, .ref mp, .int pt, .ref mf, .ref mh, .ref mn, .ref mt, .ref mz, .ref mc_, .ref mq, .ref mgr, .int cl, .int wa, .int co_, .int fi, .int bu, .int ho, .ref ml, .ref mi, .ref mr, .int lh, .int mg, .int wd, .int fpi, .int fal, .ref mm, .ref mu, .ref mk, .ref mx, .long po, .long de])), (mp, .inl (1, 108, .inl f))]) 0 0 := by
  refine z_of (by decide) rfl (Nat.le_of_ble_eq_true rfl) (fun w0 => ?_)
  refine r_lvE (lv2 := [(0, .ref m), (1, .int x), (2, .int y), (3, .int h)]) rfl ?_
  refine r_aload_n d_Mm_isFed_0 rfl 0 rfl ?_
  refine r_iconst d_Mm_isFed_1 (v := 0) (by decide) ?_
  refine r_put fp_Mm_84 d_Mm_isFed_2 (fun h => nomatch h) rfl rfl (q0 := 0) rfl (Nat.le_of_ble_eq_true rfl) (cs' := [(m, .inr (12, [.int 0, .ref mp, .int pt, .ref mf, .ref mh, .ref mn, .ref mt, .ref mz, .ref mc_, .ref mq, .ref mgr, .int cl, .int wa, .int co_, .int fi, .int bu, .int ho, .ref ml, .ref mi, .ref mr, .int lh, .int mg, .int wd, .int fpi, .int fal, .ref mm, .ref mu, .ref mk, .ref mx, .long po, .long de])), (mp, .inl (1, 108, .inl f))]) rfl ?_
  refine r_aload_n d_Mm_isFed_5 rfl 0 rfl ?_
  refine r_iload_n d_Mm_isFed_6 rfl 1 rfl ?_
  refine r_iload_n d_Mm_isFed_7 rfl 2 rfl ?_
  refine r_callS (As := [.int x, .int y]) (rest := [.ref m]) (csC := []) (is := []) ln_Mm_91 w_st_Mm_isCell ok_Mm_isFed_Mm_isCell d_Mm_isFed_8 (C_Mm_isCell g x y) rfl rfl (Nat.le_of_ble_eq_true rfl) rfl (by decide) (by omega) (by omega) (fun E cs1 hx => ?_) (fun v cs1 hx => ?_)
  · exact absurd hx.1 (by simp)
  · obtain ⟨e1, rfl⟩ := hx
    rw [if_neg (z_clN hz)] at e1
    cases e1
    refine ⟨rfl, ?_⟩
    refine r_st (st2 := [.int 0, .ref m]) rfl ?_
    refine r_cs (cs2 := [(m, .inr (12, [.int 0, .ref mp, .int pt, .ref mf, .ref mh, .ref mn, .ref mt, .ref mz, .ref mc_, .ref mq, .ref mgr, .int cl, .int wa, .int co_, .int fi, .int bu, .int ho, .ref ml, .ref mi, .ref mr, .int lh, .int mg, .int wd, .int fpi, .int fal, .ref mm, .ref mu, .ref mk, .ref mx, .long po, .long de])), (mp, .inl (1, 108, .inl f))]) rfl ?_
    refine r_if_ne (tgt := 18) d_Mm_isFed_11 (by decide) (fun c_11 => ?_) (fun c_11 => ?_)
    · exact absurd c_11 (by decide)
    · refine r_iconst d_Mm_isFed_14 (v := 1) (by decide) ?_
      refine r_goto (tgt := 19) d_Mm_isFed_15 (by decide) ?_
      refine r_iconst d_Mm_isFed_19 (v := 1) (by decide) ?_
      refine r_callV (As := [.int 1, .int 1]) (rest := []) (csC := [(m, .inr (12, [.int 0, .ref mp, .int pt, .ref mf, .ref mh, .ref mn, .ref mt, .ref mz, .ref mc_, .ref mq, .ref mgr, .int cl, .int wa, .int co_, .int fi, .int bu, .int ho, .ref ml, .ref mi, .ref mr, .int lh, .int mg, .int wd, .int fpi, .int fal, .ref mm, .ref mu, .ref mk, .ref mx, .long po, .long de]))]) (is := [0]) (q0 := 0) rfl rfl ln_Mm_103 w_im_Mm_fails w_se_Mm_fails ok_Mm_isFed_Mm_fails d_Mm_isFed_20 (C_Mm_fails1 g m mp mf mh mn mt mz mc_ mq mgr ml mi mr mm mu mk mx th pt cl wa co_ fi bu ho lh mg wd fpi fal po de) rfl rfl (Nat.le_of_ble_eq_true rfl) rfl (by decide) (by omega) (by omega) (fun E cs1 hx => ?_) (fun v cs1 hx => ?_)
      · exact absurd hx.1 (by simp)
      · obtain ⟨e1, rfl⟩ := hx
        cases e1
        refine ⟨rfl, ?_⟩
        refine r_st (st2 := [.int 1]) rfl ?_
        refine r_cs (cs2 := [(m, .inr (12, [.int 1, .ref mp, .int pt, .ref mf, .ref mh, .ref mn, .ref mt, .ref mz, .ref mc_, .ref mq, .ref mgr, .int cl, .int wa, .int co_, .int fi, .int bu, .int ho, .ref ml, .ref mi, .ref mr, .int lh, .int mg, .int wd, .int fpi, .int fal, .ref mm, .ref mu, .ref mk, .ref mx, .long po, .long de])), (mp, .inl (1, 108, .inl f))]) rfl ?_
        refine r_if_ne (tgt := 38) d_Mm_isFed_23 (by decide) (fun c_23 => ?_) (fun c_23 => ?_)
        · refine r_iconst d_Mm_isFed_38 (v := 0) (by decide) ?_
          refine r_iret d_Mm_isFed_39 rfl rfl ?_
          exact ⟨rfl, rfl⟩
        · exact absurd c_23 (by decide)
theorem d_Mm_isFed_18 : decode prog_14_method_36_code 18 = .ok (.iconst 0, 1) := zo_3 (zd_b zq_prog_14_method_36_code_0 18 rfl rfl rfl)
theorem d_Mm_isFed_26 : decode prog_14_method_36_code 26 = .ok (.aload_n 0, 1) := zo_42 (zd_b zq_prog_14_method_36_code_0 26 rfl rfl rfl)
theorem d_Mm_isFed_27 : decode prog_14_method_36_code 27 = .ok (.iload_n 3, 1) := zo_29 (zd_b zq_prog_14_method_36_code_0 27 rfl rfl rfl)
theorem d_Mm_isFed_28 : decode prog_14_method_36_code 28 = .ok (.invokestatic 163, 3) := zo_184 (d := 0) (e := 163) (zd_b zq_prog_14_method_36_code_0 28 rfl rfl rfl) (zd_b zq_prog_14_method_36_code_0 29 rfl rfl rfl) (zd_b zq_prog_14_method_36_code_0 30 rfl rfl rfl)
theorem ok_Mm_isFed_Mm_noHeat : z_ok M_Mm_isFed M_Mm_noHeat 1 := ⟨z_mj8 (i := 36) rfl (by decide +kernel), rfl, ⟨by decide +kernel, by decide +kernel, by decide +kernel⟩, ⟨by decide, by decide⟩, z_mj1 (i := 14) rfl (by decide +kernel), rfl⟩
theorem d_Mm_isFed_31 : decode prog_14_method_36_code 31 = .ok (.iconst 2, 1) := zo_5 (zd_b zq_prog_14_method_36_code_0 31 rfl rfl rfl)
theorem d_Mm_isFed_32 : decode prog_14_method_36_code 32 = .ok (.invokevirtual 103, 3) := zo_182 (d := 0) (e := 103) (zd_b zq_prog_14_method_36_code_1 0 rfl rfl rfl) (zd_b zq_prog_14_method_36_code_1 1 rfl rfl rfl) (zd_b zq_prog_14_method_36_code_1 2 rfl rfl rfl)
theorem d_Mm_isFed_35 : decode prog_14_method_36_code 35 = .ok (.ifCond .eq 5, 3) := zo_153 (d := 0) (e := 5) (zd_b zq_prog_14_method_36_code_1 3 rfl rfl rfl) (zd_b zq_prog_14_method_36_code_1 4 rfl rfl rfl) (zd_b zq_prog_14_method_36_code_1 5 rfl rfl rfl) (by decide +kernel)
set_option maxHeartbeats 4000000 in
set_option maxRecDepth 100000 in
theorem C_Mm_isFedF (g : zG) (m mp mf mh mn mt mz mc_ mq mgr ml mi mr mm mu mk mx : Nat) (th pt cl wa co_ fi bu ho lh mg wd fpi fal : Int32) (po de : Int64) (f : Nat → Int32) (x y : Nat) (hx0 : x < 12) (hy0 : y < 9) (h : Int32) (hh : ¬ (1200 ≤ h ∧ h ≤ 1500)) : CT g M_Mm_isFed [.ref m, .int (nI x), .int (nI y), .int h] [(m, .inr (12, [.int th, .ref mp, .int pt, .ref mf, .ref mh, .ref mn, .ref mt, .ref mz, .ref mc_, .ref mq, .ref mgr, .int cl, .int wa, .int co_, .int fi, .int bu, .int ho, .ref ml, .ref mi, .ref mr, .int lh, .int mg, .int wd, .int fpi, .int fal, .ref mm, .ref mu, .ref mk, .ref mx, .long po, .long de])), (mp, .inl (1, 108, .inl f))] (fun o cs1 => o = .inl (some (.int 0)) ∧ cs1 = [(m, .inr (12, [.int 2, .ref mp, .int pt, .ref mf, .ref mh, .ref mn, .ref mt, .ref mz, .ref mc_, .ref mq, .ref mgr, .int cl, .int wa, .int co_, .int fi, .int bu, .int ho, .ref ml, .ref mi, .ref mr, .int lh, .int mg, .int wd, .int fpi, .int fal, .ref mm, .ref mu, .ref mk, .ref mx, .long po, .long de])), (mp, .inl (1, 108, .inl f))]) 0 0 := by
  refine z_of (by decide) rfl (Nat.le_of_ble_eq_true rfl) (fun w0 => ?_)
  refine r_lvE (lv2 := [(0, .ref m), (1, .int (nI x)), (2, .int (nI y)), (3, .int h)]) rfl ?_
  refine r_aload_n d_Mm_isFed_0 rfl 0 rfl ?_
  refine r_iconst d_Mm_isFed_1 (v := 0) (by decide) ?_
  refine r_put fp_Mm_84 d_Mm_isFed_2 (fun h => nomatch h) rfl rfl (q0 := 0) rfl (Nat.le_of_ble_eq_true rfl) (cs' := [(m, .inr (12, [.int 0, .ref mp, .int pt, .ref mf, .ref mh, .ref mn, .ref mt, .ref mz, .ref mc_, .ref mq, .ref mgr, .int cl, .int wa, .int co_, .int fi, .int bu, .int ho, .ref ml, .ref mi, .ref mr, .int lh, .int mg, .int wd, .int fpi, .int fal, .ref mm, .ref mu, .ref mk, .ref mx, .long po, .long de])), (mp, .inl (1, 108, .inl f))]) rfl ?_
  refine r_aload_n d_Mm_isFed_5 rfl 0 rfl ?_
  refine r_iload_n d_Mm_isFed_6 rfl 1 rfl ?_
  refine r_iload_n d_Mm_isFed_7 rfl 2 rfl ?_
  refine r_callS (As := [.int (nI x), .int (nI y)]) (rest := [.ref m]) (csC := []) (is := []) ln_Mm_91 w_st_Mm_isCell ok_Mm_isFed_Mm_isCell d_Mm_isFed_8 (C_Mm_isCell g (nI x) (nI y)) rfl rfl (Nat.le_of_ble_eq_true rfl) rfl (by decide) (by omega) (by omega) (fun E cs1 hx => ?_) (fun v cs1 hx => ?_)
  · exact absurd hx.1 (by simp)
  · obtain ⟨e1, rfl⟩ := hx
    rw [if_pos (z_cellN (by omega) (by omega))] at e1
    cases e1
    refine ⟨rfl, ?_⟩
    refine r_st (st2 := [.int 1, .ref m]) rfl ?_
    refine r_cs (cs2 := [(m, .inr (12, [.int 0, .ref mp, .int pt, .ref mf, .ref mh, .ref mn, .ref mt, .ref mz, .ref mc_, .ref mq, .ref mgr, .int cl, .int wa, .int co_, .int fi, .int bu, .int ho, .ref ml, .ref mi, .ref mr, .int lh, .int mg, .int wd, .int fpi, .int fal, .ref mm, .ref mu, .ref mk, .ref mx, .long po, .long de])), (mp, .inl (1, 108, .inl f))]) rfl ?_
    refine r_if_ne (tgt := 18) d_Mm_isFed_11 (by decide) (fun c_11 => ?_) (fun c_11 => ?_)
    · refine r_iconst d_Mm_isFed_18 (v := 0) (by decide) ?_
      refine r_iconst d_Mm_isFed_19 (v := 1) (by decide) ?_
      refine r_callV (As := [.int 0, .int 1]) (rest := []) (csC := [(m, .inr (12, [.int 0, .ref mp, .int pt, .ref mf, .ref mh, .ref mn, .ref mt, .ref mz, .ref mc_, .ref mq, .ref mgr, .int cl, .int wa, .int co_, .int fi, .int bu, .int ho, .ref ml, .ref mi, .ref mr, .int lh, .int mg, .int wd, .int fpi, .int fal, .ref mm, .ref mu, .ref mk, .ref mx, .long po, .long de]))]) (is := [0]) (q0 := 0) rfl rfl ln_Mm_103 w_im_Mm_fails w_se_Mm_fails ok_Mm_isFed_Mm_fails d_Mm_isFed_20 (C_Mm_fails0 g m mp mf mh mn mt mz mc_ mq mgr ml mi mr mm mu mk mx th pt cl wa co_ fi bu ho lh mg wd fpi fal po de 1) rfl rfl (Nat.le_of_ble_eq_true rfl) rfl (by decide) (by omega) (by omega) (fun E cs1 hx => ?_) (fun v cs1 hx => ?_)
      · exact absurd hx.1 (by simp)
      · obtain ⟨e1, rfl⟩ := hx
        cases e1
        refine ⟨rfl, ?_⟩
        refine r_st (st2 := [.int 0]) rfl ?_
        refine r_cs (cs2 := [(m, .inr (12, [.int 0, .ref mp, .int pt, .ref mf, .ref mh, .ref mn, .ref mt, .ref mz, .ref mc_, .ref mq, .ref mgr, .int cl, .int wa, .int co_, .int fi, .int bu, .int ho, .ref ml, .ref mi, .ref mr, .int lh, .int mg, .int wd, .int fpi, .int fal, .ref mm, .ref mu, .ref mk, .ref mx, .long po, .long de])), (mp, .inl (1, 108, .inl f))]) rfl ?_
        refine r_if_ne (tgt := 38) d_Mm_isFed_23 (by decide) (fun c_23 => ?_) (fun c_23 => ?_)
        · exact absurd c_23 (by decide)
        · refine r_aload_n d_Mm_isFed_26 rfl 0 rfl ?_
          refine r_iload_n d_Mm_isFed_27 rfl 3 rfl ?_
          refine r_callS (As := [.int h]) (rest := [.ref m]) (csC := []) (is := []) ln_Mm_163 w_st_Mm_noHeat ok_Mm_isFed_Mm_noHeat d_Mm_isFed_28 (C_Mm_noHeat1 g h hh) rfl rfl (Nat.le_of_ble_eq_true rfl) rfl (by decide) (by omega) (by omega) (fun E cs1 hx => ?_) (fun v cs1 hx => ?_)
          · exact absurd hx.1 (by simp)
          · obtain ⟨e1, rfl⟩ := hx
            cases e1
            refine ⟨rfl, ?_⟩
            refine r_st (st2 := [.int 1, .ref m]) rfl ?_
            refine r_cs (cs2 := [(m, .inr (12, [.int 0, .ref mp, .int pt, .ref mf, .ref mh, .ref mn, .ref mt, .ref mz, .ref mc_, .ref mq, .ref mgr, .int cl, .int wa, .int co_, .int fi, .int bu, .int ho, .ref ml, .ref mi, .ref mr, .int lh, .int mg, .int wd, .int fpi, .int fal, .ref mm, .ref mu, .ref mk, .ref mx, .long po, .long de])), (mp, .inl (1, 108, .inl f))]) rfl ?_
            refine r_iconst d_Mm_isFed_31 (v := 2) (by decide) ?_
            refine r_callV (As := [.int 1, .int 2]) (rest := []) (csC := [(m, .inr (12, [.int 0, .ref mp, .int pt, .ref mf, .ref mh, .ref mn, .ref mt, .ref mz, .ref mc_, .ref mq, .ref mgr, .int cl, .int wa, .int co_, .int fi, .int bu, .int ho, .ref ml, .ref mi, .ref mr, .int lh, .int mg, .int wd, .int fpi, .int fal, .ref mm, .ref mu, .ref mk, .ref mx, .long po, .long de]))]) (is := [0]) (q0 := 0) rfl rfl ln_Mm_103 w_im_Mm_fails w_se_Mm_fails ok_Mm_isFed_Mm_fails d_Mm_isFed_32 (C_Mm_fails2 g m mp mf mh mn mt mz mc_ mq mgr ml mi mr mm mu mk mx th pt cl wa co_ fi bu ho lh mg wd fpi fal po de) rfl rfl (Nat.le_of_ble_eq_true rfl) rfl (by decide) (by omega) (by omega) (fun E cs1 hx => ?_) (fun v cs1 hx => ?_)
            · exact absurd hx.1 (by simp)
            · obtain ⟨e1, rfl⟩ := hx
              cases e1
              refine ⟨rfl, ?_⟩
              refine r_st (st2 := [.int 1]) rfl ?_
              refine r_cs (cs2 := [(m, .inr (12, [.int 2, .ref mp, .int pt, .ref mf, .ref mh, .ref mn, .ref mt, .ref mz, .ref mc_, .ref mq, .ref mgr, .int cl, .int wa, .int co_, .int fi, .int bu, .int ho, .ref ml, .ref mi, .ref mr, .int lh, .int mg, .int wd, .int fpi, .int fal, .ref mm, .ref mu, .ref mk, .ref mx, .long po, .long de])), (mp, .inl (1, 108, .inl f))]) rfl ?_
              refine r_if_eq (tgt := 40) d_Mm_isFed_35 (by decide) (fun c_35 => ?_) (fun c_35 => ?_)
              · exact absurd c_35 (by decide)
              · refine r_iconst d_Mm_isFed_38 (v := 0) (by decide) ?_
                refine r_iret d_Mm_isFed_39 rfl rfl ?_
                exact ⟨rfl, rfl⟩
    · exact absurd c_11 (by decide)
theorem d_Mm_isFed_40 : decode prog_14_method_36_code 40 = .ok (.aload_n 0, 1) := zo_42 (zd_b zq_prog_14_method_36_code_1 8 rfl rfl rfl)
theorem d_Mm_isFed_41 : decode prog_14_method_36_code 41 = .ok (.aload_n 0, 1) := zo_42 (zd_b zq_prog_14_method_36_code_1 9 rfl rfl rfl)
theorem d_Mm_isFed_42 : decode prog_14_method_36_code 42 = .ok (.getfield 7, 3) := zo_180 (d := 0) (e := 7) (zd_b zq_prog_14_method_36_code_1 10 rfl rfl rfl) (zd_b zq_prog_14_method_36_code_1 11 rfl rfl rfl) (zd_b zq_prog_14_method_36_code_1 12 rfl rfl rfl)
theorem d_Mm_isFed_45 : decode prog_14_method_36_code 45 = .ok (.iload_n 3, 1) := zo_29 (zd_b zq_prog_14_method_36_code_1 13 rfl rfl rfl)
theorem d_Mm_isFed_46 : decode prog_14_method_36_code 46 = .ok (.invokevirtual 170, 3) := zo_182 (d := 0) (e := 170) (zd_b zq_prog_14_method_36_code_1 14 rfl rfl rfl) (zd_b zq_prog_14_method_36_code_1 15 rfl rfl rfl) (zd_b zq_prog_14_method_36_code_1 16 rfl rfl rfl)
theorem ok_Mm_isFed_Mm_feed : z_ok M_Mm_isFed M_Mm_feed 2 := ⟨z_mj8 (i := 68) rfl (by decide +kernel), rfl, ⟨by decide +kernel, by decide +kernel, by decide +kernel⟩, ⟨by decide, by decide⟩, z_mj1 (i := 14) rfl (by decide +kernel), rfl⟩
theorem d_Mm_isFed_49 : decode prog_14_method_36_code 49 = .ok (.aload_n 0, 1) := zo_42 (zd_b zq_prog_14_method_36_code_1 17 rfl rfl rfl)
theorem d_Mm_isFed_50 : decode prog_14_method_36_code 50 = .ok (.getfield 33, 3) := zo_180 (d := 0) (e := 33) (zd_b zq_prog_14_method_36_code_1 18 rfl rfl rfl) (zd_b zq_prog_14_method_36_code_1 19 rfl rfl rfl) (zd_b zq_prog_14_method_36_code_1 20 rfl rfl rfl)
theorem d_Mm_isFed_53 : decode prog_14_method_36_code 53 = .ok (.bipush 12, 2) := zo_16 (d := 12) (zd_b zq_prog_14_method_36_code_1 21 rfl rfl rfl) (zd_b zq_prog_14_method_36_code_1 22 rfl rfl rfl) (by decide +kernel)
theorem d_Mm_isFed_55 : decode prog_14_method_36_code 55 = .ok (.iload_n 2, 1) := zo_28 (zd_b zq_prog_14_method_36_code_1 23 rfl rfl rfl)
theorem d_Mm_isFed_56 : decode prog_14_method_36_code 56 = .ok (.imul, 1) := zo_104 (zd_b zq_prog_14_method_36_code_1 24 rfl rfl rfl)
theorem d_Mm_isFed_57 : decode prog_14_method_36_code 57 = .ok (.iload_n 1, 1) := zo_27 (zd_b zq_prog_14_method_36_code_1 25 rfl rfl rfl)
theorem d_Mm_isFed_58 : decode prog_14_method_36_code 58 = .ok (.iadd, 1) := zo_96 (zd_b zq_prog_14_method_36_code_1 26 rfl rfl rfl)
theorem d_Mm_isFed_59 : decode prog_14_method_36_code 59 = .ok (.baload, 1) := zo_51 (zd_b zq_prog_14_method_36_code_1 27 rfl rfl rfl)
theorem d_Mm_isFed_60 : decode prog_14_method_36_code 60 = .ok (.ireturn, 1) := zo_172 (zd_b zq_prog_14_method_36_code_1 28 rfl rfl rfl)
abbrev M_Mm_shrunk : zM := (⟨"IronpourModel", "shrunk", "(I)I"⟩, prog_14_method_38_code, 2, (Option.some FieldType.int), 10, 239, [])
theorem d_Mm_shrunk_0 : decode prog_14_method_38_code 0 = .ok (.aload_n 0, 1) := zo_42 (zd_b zq_prog_14_method_38_code_0 0 rfl rfl rfl)
theorem d_Mm_shrunk_1 : decode prog_14_method_38_code 1 = .ok (.iconst 0, 1) := zo_3 (zd_b zq_prog_14_method_38_code_0 1 rfl rfl rfl)
theorem d_Mm_shrunk_2 : decode prog_14_method_38_code 2 = .ok (.putfield 84, 3) := zo_181 (d := 0) (e := 84) (zd_b zq_prog_14_method_38_code_0 2 rfl rfl rfl) (zd_b zq_prog_14_method_38_code_0 3 rfl rfl rfl) (zd_b zq_prog_14_method_38_code_0 4 rfl rfl rfl)
theorem d_Mm_shrunk_5 : decode prog_14_method_38_code 5 = .ok (.aload_n 0, 1) := zo_42 (zd_b zq_prog_14_method_38_code_0 5 rfl rfl rfl)
theorem d_Mm_shrunk_6 : decode prog_14_method_38_code 6 = .ok (.iload_n 1, 1) := zo_27 (zd_b zq_prog_14_method_38_code_0 6 rfl rfl rfl)
theorem d_Mm_shrunk_7 : decode prog_14_method_38_code 7 = .ok (.invokestatic 163, 3) := zo_184 (d := 0) (e := 163) (zd_b zq_prog_14_method_38_code_0 7 rfl rfl rfl) (zd_b zq_prog_14_method_38_code_0 8 rfl rfl rfl) (zd_b zq_prog_14_method_38_code_0 9 rfl rfl rfl)
theorem ok_Mm_shrunk_Mm_noHeat : z_ok M_Mm_shrunk M_Mm_noHeat 1 := ⟨z_mj8 (i := 36) rfl (by decide +kernel), rfl, ⟨by decide +kernel, by decide +kernel, by decide +kernel⟩, ⟨by decide, by decide⟩, z_mj1 (i := 14) rfl (by decide +kernel), rfl⟩
theorem d_Mm_shrunk_10 : decode prog_14_method_38_code 10 = .ok (.iconst 1, 1) := zo_4 (zd_b zq_prog_14_method_38_code_0 10 rfl rfl rfl)
theorem d_Mm_shrunk_11 : decode prog_14_method_38_code 11 = .ok (.invokevirtual 103, 3) := zo_182 (d := 0) (e := 103) (zd_b zq_prog_14_method_38_code_0 11 rfl rfl rfl) (zd_b zq_prog_14_method_38_code_0 12 rfl rfl rfl) (zd_b zq_prog_14_method_38_code_0 13 rfl rfl rfl)
theorem ok_Mm_shrunk_Mm_fails : z_ok M_Mm_shrunk M_Mm_fails 2 := ⟨z_mj7 (i := 196) rfl (by decide +kernel), rfl, ⟨by decide +kernel, by decide +kernel, by decide +kernel⟩, ⟨by decide, by decide⟩, z_mj1 (i := 14) rfl (by decide +kernel), rfl⟩
theorem d_Mm_shrunk_14 : decode prog_14_method_38_code 14 = .ok (.ifCond .eq 7, 3) := zo_153 (d := 0) (e := 7) (zd_b zq_prog_14_method_38_code_0 14 rfl rfl rfl) (zd_b zq_prog_14_method_38_code_0 15 rfl rfl rfl) (zd_b zq_prog_14_method_38_code_0 16 rfl rfl rfl) (by decide +kernel)
theorem d_Mm_shrunk_17 : decode prog_14_method_38_code 17 = .ok (.iconst 0, 1) := zo_3 (zd_b zq_prog_14_method_38_code_0 17 rfl rfl rfl)
theorem d_Mm_shrunk_18 : decode prog_14_method_38_code 18 = .ok (.goto 12, 3) := zo_167 (d := 0) (e := 12) (zd_b zq_prog_14_method_38_code_0 18 rfl rfl rfl) (zd_b zq_prog_14_method_38_code_0 19 rfl rfl rfl) (zd_b zq_prog_14_method_38_code_0 20 rfl rfl rfl) (by decide +kernel)
theorem d_Mm_shrunk_30 : decode prog_14_method_38_code 30 = .ok (.ireturn, 1) := zo_172 (zd_b zq_prog_14_method_38_code_0 30 rfl rfl rfl)
set_option maxHeartbeats 4000000 in
set_option maxRecDepth 100000 in
theorem C_Mm_shrunkE (g : zG) (m mp mf mh mn mt mz mc_ mq mgr ml mi mr mm mu mk mx : Nat) (th pt cl wa co_ fi bu ho lh mg wd fpi fal : Int32) (po de : Int64) (f : Nat → Int32) (h : Int32) (hh : ¬ (1200 ≤ h ∧ h ≤ 1500)) : CT g M_Mm_shrunk [.ref m, .int h] [(m, .inr (12, [.int th, .ref mp, .int pt, .ref mf, .ref mh, .ref mn, .ref mt, .ref mz, .ref mc_, .ref mq, .ref mgr, .int cl, .int wa, .int co_, .int fi, .int bu, .int ho, .ref ml, .ref mi, .ref mr, .int lh, .int mg, .int wd, .int fpi, .int fal, .ref mm, .ref mu, .ref mk, .ref mx, .long po, .long de])), (mp, .inl (1, 108, .inl f))] (fun o cs1 => o = .inl (some (.int 0)) ∧ cs1 = [(m, .inr (12, [.int 1, .ref mp, .int pt, .ref mf, .ref mh, .ref mn, .ref mt, .ref mz, .ref mc_, .ref mq, .ref mgr, .int cl, .int wa, .int co_, .int fi, .int bu, .int ho, .ref ml, .ref mi, .ref mr, .int lh, .int mg, .int wd, .int fpi, .int fal, .ref mm, .ref mu, .ref mk, .ref mx, .long po, .long de])), (mp, .inl (1, 108, .inl f))]) 0 0 := by
  refine z_of (by decide) rfl (Nat.le_of_ble_eq_true rfl) (fun w0 => ?_)
  refine r_lvE (lv2 := [(0, .ref m), (1, .int h)]) rfl ?_
  refine r_aload_n d_Mm_shrunk_0 rfl 0 rfl ?_
  refine r_iconst d_Mm_shrunk_1 (v := 0) (by decide) ?_
  refine r_put fp_Mm_84 d_Mm_shrunk_2 (fun h => nomatch h) rfl rfl (q0 := 0) rfl (Nat.le_of_ble_eq_true rfl) (cs' := [(m, .inr (12, [.int 0, .ref mp, .int pt, .ref mf, .ref mh, .ref mn, .ref mt, .ref mz, .ref mc_, .ref mq, .ref mgr, .int cl, .int wa, .int co_, .int fi, .int bu, .int ho, .ref ml, .ref mi, .ref mr, .int lh, .int mg, .int wd, .int fpi, .int fal, .ref mm, .ref mu, .ref mk, .ref mx, .long po, .long de])), (mp, .inl (1, 108, .inl f))]) rfl ?_
  refine r_aload_n d_Mm_shrunk_5 rfl 0 rfl ?_
  refine r_iload_n d_Mm_shrunk_6 rfl 1 rfl ?_
  refine r_callS (As := [.int h]) (rest := [.ref m]) (csC := []) (is := []) ln_Mm_163 w_st_Mm_noHeat ok_Mm_shrunk_Mm_noHeat d_Mm_shrunk_7 (C_Mm_noHeat1 g h hh) rfl rfl (Nat.le_of_ble_eq_true rfl) rfl (by decide) (by omega) (by omega) (fun E cs1 hx => ?_) (fun v cs1 hx => ?_)
  · exact absurd hx.1 (by simp)
  · obtain ⟨e1, rfl⟩ := hx
    cases e1
    refine ⟨rfl, ?_⟩
    refine r_st (st2 := [.int 1, .ref m]) rfl ?_
    refine r_cs (cs2 := [(m, .inr (12, [.int 0, .ref mp, .int pt, .ref mf, .ref mh, .ref mn, .ref mt, .ref mz, .ref mc_, .ref mq, .ref mgr, .int cl, .int wa, .int co_, .int fi, .int bu, .int ho, .ref ml, .ref mi, .ref mr, .int lh, .int mg, .int wd, .int fpi, .int fal, .ref mm, .ref mu, .ref mk, .ref mx, .long po, .long de])), (mp, .inl (1, 108, .inl f))]) rfl ?_
    refine r_iconst d_Mm_shrunk_10 (v := 1) (by decide) ?_
    refine r_callV (As := [.int 1, .int 1]) (rest := []) (csC := [(m, .inr (12, [.int 0, .ref mp, .int pt, .ref mf, .ref mh, .ref mn, .ref mt, .ref mz, .ref mc_, .ref mq, .ref mgr, .int cl, .int wa, .int co_, .int fi, .int bu, .int ho, .ref ml, .ref mi, .ref mr, .int lh, .int mg, .int wd, .int fpi, .int fal, .ref mm, .ref mu, .ref mk, .ref mx, .long po, .long de]))]) (is := [0]) (q0 := 0) rfl rfl ln_Mm_103 w_im_Mm_fails w_se_Mm_fails ok_Mm_shrunk_Mm_fails d_Mm_shrunk_11 (C_Mm_fails1 g m mp mf mh mn mt mz mc_ mq mgr ml mi mr mm mu mk mx th pt cl wa co_ fi bu ho lh mg wd fpi fal po de) rfl rfl (Nat.le_of_ble_eq_true rfl) rfl (by decide) (by omega) (by omega) (fun E cs1 hx => ?_) (fun v cs1 hx => ?_)
    · exact absurd hx.1 (by simp)
    · obtain ⟨e1, rfl⟩ := hx
      cases e1
      refine ⟨rfl, ?_⟩
      refine r_st (st2 := [.int 1]) rfl ?_
      refine r_cs (cs2 := [(m, .inr (12, [.int 1, .ref mp, .int pt, .ref mf, .ref mh, .ref mn, .ref mt, .ref mz, .ref mc_, .ref mq, .ref mgr, .int cl, .int wa, .int co_, .int fi, .int bu, .int ho, .ref ml, .ref mi, .ref mr, .int lh, .int mg, .int wd, .int fpi, .int fal, .ref mm, .ref mu, .ref mk, .ref mx, .long po, .long de])), (mp, .inl (1, 108, .inl f))]) rfl ?_
      refine r_if_eq (tgt := 21) d_Mm_shrunk_14 (by decide) (fun c_14 => ?_) (fun c_14 => ?_)
      · exact absurd c_14 (by decide)
      · refine r_iconst d_Mm_shrunk_17 (v := 0) (by decide) ?_
        refine r_goto (tgt := 30) d_Mm_shrunk_18 (by decide) ?_
        refine r_iret d_Mm_shrunk_30 rfl rfl ?_
        exact ⟨rfl, rfl⟩
abbrev M_Mm_shrunkAnew : zM := (⟨"IronpourModel", "shrunkAnew", "(I)I"⟩, prog_14_method_40_code, 4, (Option.some FieldType.int), 8, 187, [])
theorem d_Mm_shrunkAnew_0 : decode prog_14_method_40_code 0 = .ok (.aload_n 0, 1) := zo_42 (zd_b zq_prog_14_method_40_code_0 0 rfl rfl rfl)
theorem d_Mm_shrunkAnew_1 : decode prog_14_method_40_code 1 = .ok (.iconst 0, 1) := zo_3 (zd_b zq_prog_14_method_40_code_0 1 rfl rfl rfl)
theorem d_Mm_shrunkAnew_2 : decode prog_14_method_40_code 2 = .ok (.putfield 84, 3) := zo_181 (d := 0) (e := 84) (zd_b zq_prog_14_method_40_code_0 2 rfl rfl rfl) (zd_b zq_prog_14_method_40_code_0 3 rfl rfl rfl) (zd_b zq_prog_14_method_40_code_0 4 rfl rfl rfl)
theorem d_Mm_shrunkAnew_5 : decode prog_14_method_40_code 5 = .ok (.aload_n 0, 1) := zo_42 (zd_b zq_prog_14_method_40_code_0 5 rfl rfl rfl)
theorem d_Mm_shrunkAnew_6 : decode prog_14_method_40_code 6 = .ok (.iload_n 1, 1) := zo_27 (zd_b zq_prog_14_method_40_code_0 6 rfl rfl rfl)
theorem d_Mm_shrunkAnew_7 : decode prog_14_method_40_code 7 = .ok (.invokestatic 163, 3) := zo_184 (d := 0) (e := 163) (zd_b zq_prog_14_method_40_code_0 7 rfl rfl rfl) (zd_b zq_prog_14_method_40_code_0 8 rfl rfl rfl) (zd_b zq_prog_14_method_40_code_0 9 rfl rfl rfl)
theorem ok_Mm_shrunkAnew_Mm_noHeat : z_ok M_Mm_shrunkAnew M_Mm_noHeat 1 := ⟨z_mj8 (i := 36) rfl (by decide +kernel), rfl, ⟨by decide +kernel, by decide +kernel, by decide +kernel⟩, ⟨by decide, by decide⟩, z_mj1 (i := 14) rfl (by decide +kernel), rfl⟩
theorem d_Mm_shrunkAnew_10 : decode prog_14_method_40_code 10 = .ok (.iconst 1, 1) := zo_4 (zd_b zq_prog_14_method_40_code_0 10 rfl rfl rfl)
theorem d_Mm_shrunkAnew_11 : decode prog_14_method_40_code 11 = .ok (.invokevirtual 103, 3) := zo_182 (d := 0) (e := 103) (zd_b zq_prog_14_method_40_code_0 11 rfl rfl rfl) (zd_b zq_prog_14_method_40_code_0 12 rfl rfl rfl) (zd_b zq_prog_14_method_40_code_0 13 rfl rfl rfl)
theorem ok_Mm_shrunkAnew_Mm_fails : z_ok M_Mm_shrunkAnew M_Mm_fails 2 := ⟨z_mj7 (i := 196) rfl (by decide +kernel), rfl, ⟨by decide +kernel, by decide +kernel, by decide +kernel⟩, ⟨by decide, by decide⟩, z_mj1 (i := 14) rfl (by decide +kernel), rfl⟩
theorem d_Mm_shrunkAnew_14 : decode prog_14_method_40_code 14 = .ok (.ifCond .eq 5, 3) := zo_153 (d := 0) (e := 5) (zd_b zq_prog_14_method_40_code_0 14 rfl rfl rfl) (zd_b zq_prog_14_method_40_code_0 15 rfl rfl rfl) (zd_b zq_prog_14_method_40_code_0 16 rfl rfl rfl) (by decide +kernel)
theorem d_Mm_shrunkAnew_17 : decode prog_14_method_40_code 17 = .ok (.iconst 0, 1) := zo_3 (zd_b zq_prog_14_method_40_code_0 17 rfl rfl rfl)
theorem d_Mm_shrunkAnew_18 : decode prog_14_method_40_code 18 = .ok (.ireturn, 1) := zo_172 (zd_b zq_prog_14_method_40_code_0 18 rfl rfl rfl)
set_option maxHeartbeats 4000000 in
set_option maxRecDepth 100000 in
theorem C_Mm_shrunkAnewE (g : zG) (m mp mf mh mn mt mz mc_ mq mgr ml mi mr mm mu mk mx : Nat) (th pt cl wa co_ fi bu ho lh mg wd fpi fal : Int32) (po de : Int64) (f : Nat → Int32) (h : Int32) (hh : ¬ (1200 ≤ h ∧ h ≤ 1500)) : CT g M_Mm_shrunkAnew [.ref m, .int h] [(m, .inr (12, [.int th, .ref mp, .int pt, .ref mf, .ref mh, .ref mn, .ref mt, .ref mz, .ref mc_, .ref mq, .ref mgr, .int cl, .int wa, .int co_, .int fi, .int bu, .int ho, .ref ml, .ref mi, .ref mr, .int lh, .int mg, .int wd, .int fpi, .int fal, .ref mm, .ref mu, .ref mk, .ref mx, .long po, .long de])), (mp, .inl (1, 108, .inl f))] (fun o cs1 => o = .inl (some (.int 0)) ∧ cs1 = [(m, .inr (12, [.int 1, .ref mp, .int pt, .ref mf, .ref mh, .ref mn, .ref mt, .ref mz, .ref mc_, .ref mq, .ref mgr, .int cl, .int wa, .int co_, .int fi, .int bu, .int ho, .ref ml, .ref mi, .ref mr, .int lh, .int mg, .int wd, .int fpi, .int fal, .ref mm, .ref mu, .ref mk, .ref mx, .long po, .long de])), (mp, .inl (1, 108, .inl f))]) 0 0 := by
  refine z_of (by decide) rfl (Nat.le_of_ble_eq_true rfl) (fun w0 => ?_)
  refine r_lvE (lv2 := [(0, .ref m), (1, .int h)]) rfl ?_
  refine r_aload_n d_Mm_shrunkAnew_0 rfl 0 rfl ?_
  refine r_iconst d_Mm_shrunkAnew_1 (v := 0) (by decide) ?_
  refine r_put fp_Mm_84 d_Mm_shrunkAnew_2 (fun h => nomatch h) rfl rfl (q0 := 0) rfl (Nat.le_of_ble_eq_true rfl) (cs' := [(m, .inr (12, [.int 0, .ref mp, .int pt, .ref mf, .ref mh, .ref mn, .ref mt, .ref mz, .ref mc_, .ref mq, .ref mgr, .int cl, .int wa, .int co_, .int fi, .int bu, .int ho, .ref ml, .ref mi, .ref mr, .int lh, .int mg, .int wd, .int fpi, .int fal, .ref mm, .ref mu, .ref mk, .ref mx, .long po, .long de])), (mp, .inl (1, 108, .inl f))]) rfl ?_
  refine r_aload_n d_Mm_shrunkAnew_5 rfl 0 rfl ?_
  refine r_iload_n d_Mm_shrunkAnew_6 rfl 1 rfl ?_
  refine r_callS (As := [.int h]) (rest := [.ref m]) (csC := []) (is := []) ln_Mm_163 w_st_Mm_noHeat ok_Mm_shrunkAnew_Mm_noHeat d_Mm_shrunkAnew_7 (C_Mm_noHeat1 g h hh) rfl rfl (Nat.le_of_ble_eq_true rfl) rfl (by decide) (by omega) (by omega) (fun E cs1 hx => ?_) (fun v cs1 hx => ?_)
  · exact absurd hx.1 (by simp)
  · obtain ⟨e1, rfl⟩ := hx
    cases e1
    refine ⟨rfl, ?_⟩
    refine r_st (st2 := [.int 1, .ref m]) rfl ?_
    refine r_cs (cs2 := [(m, .inr (12, [.int 0, .ref mp, .int pt, .ref mf, .ref mh, .ref mn, .ref mt, .ref mz, .ref mc_, .ref mq, .ref mgr, .int cl, .int wa, .int co_, .int fi, .int bu, .int ho, .ref ml, .ref mi, .ref mr, .int lh, .int mg, .int wd, .int fpi, .int fal, .ref mm, .ref mu, .ref mk, .ref mx, .long po, .long de])), (mp, .inl (1, 108, .inl f))]) rfl ?_
    refine r_iconst d_Mm_shrunkAnew_10 (v := 1) (by decide) ?_
    refine r_callV (As := [.int 1, .int 1]) (rest := []) (csC := [(m, .inr (12, [.int 0, .ref mp, .int pt, .ref mf, .ref mh, .ref mn, .ref mt, .ref mz, .ref mc_, .ref mq, .ref mgr, .int cl, .int wa, .int co_, .int fi, .int bu, .int ho, .ref ml, .ref mi, .ref mr, .int lh, .int mg, .int wd, .int fpi, .int fal, .ref mm, .ref mu, .ref mk, .ref mx, .long po, .long de]))]) (is := [0]) (q0 := 0) rfl rfl ln_Mm_103 w_im_Mm_fails w_se_Mm_fails ok_Mm_shrunkAnew_Mm_fails d_Mm_shrunkAnew_11 (C_Mm_fails1 g m mp mf mh mn mt mz mc_ mq mgr ml mi mr mm mu mk mx th pt cl wa co_ fi bu ho lh mg wd fpi fal po de) rfl rfl (Nat.le_of_ble_eq_true rfl) rfl (by decide) (by omega) (by omega) (fun E cs1 hx => ?_) (fun v cs1 hx => ?_)
    · exact absurd hx.1 (by simp)
    · obtain ⟨e1, rfl⟩ := hx
      cases e1
      refine ⟨rfl, ?_⟩
      refine r_st (st2 := [.int 1]) rfl ?_
      refine r_cs (cs2 := [(m, .inr (12, [.int 1, .ref mp, .int pt, .ref mf, .ref mh, .ref mn, .ref mt, .ref mz, .ref mc_, .ref mq, .ref mgr, .int cl, .int wa, .int co_, .int fi, .int bu, .int ho, .ref ml, .ref mi, .ref mr, .int lh, .int mg, .int wd, .int fpi, .int fal, .ref mm, .ref mu, .ref mk, .ref mx, .long po, .long de])), (mp, .inl (1, 108, .inl f))]) rfl ?_
      refine r_if_eq (tgt := 19) d_Mm_shrunkAnew_14 (by decide) (fun c_14 => ?_) (fun c_14 => ?_)
      · exact absurd c_14 (by decide)
      · refine r_iconst d_Mm_shrunkAnew_17 (v := 0) (by decide) ?_
        refine r_iret d_Mm_shrunkAnew_18 rfl rfl ?_
        exact ⟨rfl, rfl⟩
abbrev M_Mm_lastPlace : zM := (⟨"IronpourModel", "lastPlace", "(I)I"⟩, prog_14_method_41_code, 5, (Option.some FieldType.int), 8, 187, [])
theorem d_Mm_lastPlace_0 : decode prog_14_method_41_code 0 = .ok (.aload_n 0, 1) := zo_42 (zd_b zq_prog_14_method_41_code_0 0 rfl rfl rfl)
theorem d_Mm_lastPlace_1 : decode prog_14_method_41_code 1 = .ok (.iconst 0, 1) := zo_3 (zd_b zq_prog_14_method_41_code_0 1 rfl rfl rfl)
theorem d_Mm_lastPlace_2 : decode prog_14_method_41_code 2 = .ok (.putfield 84, 3) := zo_181 (d := 0) (e := 84) (zd_b zq_prog_14_method_41_code_0 2 rfl rfl rfl) (zd_b zq_prog_14_method_41_code_0 3 rfl rfl rfl) (zd_b zq_prog_14_method_41_code_0 4 rfl rfl rfl)
theorem d_Mm_lastPlace_5 : decode prog_14_method_41_code 5 = .ok (.aload_n 0, 1) := zo_42 (zd_b zq_prog_14_method_41_code_0 5 rfl rfl rfl)
theorem d_Mm_lastPlace_6 : decode prog_14_method_41_code 6 = .ok (.iload_n 1, 1) := zo_27 (zd_b zq_prog_14_method_41_code_0 6 rfl rfl rfl)
theorem d_Mm_lastPlace_7 : decode prog_14_method_41_code 7 = .ok (.invokestatic 163, 3) := zo_184 (d := 0) (e := 163) (zd_b zq_prog_14_method_41_code_0 7 rfl rfl rfl) (zd_b zq_prog_14_method_41_code_0 8 rfl rfl rfl) (zd_b zq_prog_14_method_41_code_0 9 rfl rfl rfl)
theorem ok_Mm_lastPlace_Mm_noHeat : z_ok M_Mm_lastPlace M_Mm_noHeat 1 := ⟨z_mj8 (i := 36) rfl (by decide +kernel), rfl, ⟨by decide +kernel, by decide +kernel, by decide +kernel⟩, ⟨by decide, by decide⟩, z_mj1 (i := 14) rfl (by decide +kernel), rfl⟩
theorem d_Mm_lastPlace_10 : decode prog_14_method_41_code 10 = .ok (.iconst 1, 1) := zo_4 (zd_b zq_prog_14_method_41_code_0 10 rfl rfl rfl)
theorem d_Mm_lastPlace_11 : decode prog_14_method_41_code 11 = .ok (.invokevirtual 103, 3) := zo_182 (d := 0) (e := 103) (zd_b zq_prog_14_method_41_code_0 11 rfl rfl rfl) (zd_b zq_prog_14_method_41_code_0 12 rfl rfl rfl) (zd_b zq_prog_14_method_41_code_0 13 rfl rfl rfl)
theorem ok_Mm_lastPlace_Mm_fails : z_ok M_Mm_lastPlace M_Mm_fails 2 := ⟨z_mj7 (i := 196) rfl (by decide +kernel), rfl, ⟨by decide +kernel, by decide +kernel, by decide +kernel⟩, ⟨by decide, by decide⟩, z_mj1 (i := 14) rfl (by decide +kernel), rfl⟩
theorem d_Mm_lastPlace_14 : decode prog_14_method_41_code 14 = .ok (.ifCond .eq 5, 3) := zo_153 (d := 0) (e := 5) (zd_b zq_prog_14_method_41_code_0 14 rfl rfl rfl) (zd_b zq_prog_14_method_41_code_0 15 rfl rfl rfl) (zd_b zq_prog_14_method_41_code_0 16 rfl rfl rfl) (by decide +kernel)
theorem d_Mm_lastPlace_17 : decode prog_14_method_41_code 17 = .ok (.iconst 0, 1) := zo_3 (zd_b zq_prog_14_method_41_code_0 17 rfl rfl rfl)
theorem d_Mm_lastPlace_18 : decode prog_14_method_41_code 18 = .ok (.ireturn, 1) := zo_172 (zd_b zq_prog_14_method_41_code_0 18 rfl rfl rfl)
set_option maxHeartbeats 4000000 in
set_option maxRecDepth 100000 in
theorem C_Mm_lastPlaceE (g : zG) (m mp mf mh mn mt mz mc_ mq mgr ml mi mr mm mu mk mx : Nat) (th pt cl wa co_ fi bu ho lh mg wd fpi fal : Int32) (po de : Int64) (f : Nat → Int32) (h : Int32) (hh : ¬ (1200 ≤ h ∧ h ≤ 1500)) : CT g M_Mm_lastPlace [.ref m, .int h] [(m, .inr (12, [.int th, .ref mp, .int pt, .ref mf, .ref mh, .ref mn, .ref mt, .ref mz, .ref mc_, .ref mq, .ref mgr, .int cl, .int wa, .int co_, .int fi, .int bu, .int ho, .ref ml, .ref mi, .ref mr, .int lh, .int mg, .int wd, .int fpi, .int fal, .ref mm, .ref mu, .ref mk, .ref mx, .long po, .long de])), (mp, .inl (1, 108, .inl f))] (fun o cs1 => o = .inl (some (.int 0)) ∧ cs1 = [(m, .inr (12, [.int 1, .ref mp, .int pt, .ref mf, .ref mh, .ref mn, .ref mt, .ref mz, .ref mc_, .ref mq, .ref mgr, .int cl, .int wa, .int co_, .int fi, .int bu, .int ho, .ref ml, .ref mi, .ref mr, .int lh, .int mg, .int wd, .int fpi, .int fal, .ref mm, .ref mu, .ref mk, .ref mx, .long po, .long de])), (mp, .inl (1, 108, .inl f))]) 0 0 := by
  refine z_of (by decide) rfl (Nat.le_of_ble_eq_true rfl) (fun w0 => ?_)
  refine r_lvE (lv2 := [(0, .ref m), (1, .int h)]) rfl ?_
  refine r_aload_n d_Mm_lastPlace_0 rfl 0 rfl ?_
  refine r_iconst d_Mm_lastPlace_1 (v := 0) (by decide) ?_
  refine r_put fp_Mm_84 d_Mm_lastPlace_2 (fun h => nomatch h) rfl rfl (q0 := 0) rfl (Nat.le_of_ble_eq_true rfl) (cs' := [(m, .inr (12, [.int 0, .ref mp, .int pt, .ref mf, .ref mh, .ref mn, .ref mt, .ref mz, .ref mc_, .ref mq, .ref mgr, .int cl, .int wa, .int co_, .int fi, .int bu, .int ho, .ref ml, .ref mi, .ref mr, .int lh, .int mg, .int wd, .int fpi, .int fal, .ref mm, .ref mu, .ref mk, .ref mx, .long po, .long de])), (mp, .inl (1, 108, .inl f))]) rfl ?_
  refine r_aload_n d_Mm_lastPlace_5 rfl 0 rfl ?_
  refine r_iload_n d_Mm_lastPlace_6 rfl 1 rfl ?_
  refine r_callS (As := [.int h]) (rest := [.ref m]) (csC := []) (is := []) ln_Mm_163 w_st_Mm_noHeat ok_Mm_lastPlace_Mm_noHeat d_Mm_lastPlace_7 (C_Mm_noHeat1 g h hh) rfl rfl (Nat.le_of_ble_eq_true rfl) rfl (by decide) (by omega) (by omega) (fun E cs1 hx => ?_) (fun v cs1 hx => ?_)
  · exact absurd hx.1 (by simp)
  · obtain ⟨e1, rfl⟩ := hx
    cases e1
    refine ⟨rfl, ?_⟩
    refine r_st (st2 := [.int 1, .ref m]) rfl ?_
    refine r_cs (cs2 := [(m, .inr (12, [.int 0, .ref mp, .int pt, .ref mf, .ref mh, .ref mn, .ref mt, .ref mz, .ref mc_, .ref mq, .ref mgr, .int cl, .int wa, .int co_, .int fi, .int bu, .int ho, .ref ml, .ref mi, .ref mr, .int lh, .int mg, .int wd, .int fpi, .int fal, .ref mm, .ref mu, .ref mk, .ref mx, .long po, .long de])), (mp, .inl (1, 108, .inl f))]) rfl ?_
    refine r_iconst d_Mm_lastPlace_10 (v := 1) (by decide) ?_
    refine r_callV (As := [.int 1, .int 1]) (rest := []) (csC := [(m, .inr (12, [.int 0, .ref mp, .int pt, .ref mf, .ref mh, .ref mn, .ref mt, .ref mz, .ref mc_, .ref mq, .ref mgr, .int cl, .int wa, .int co_, .int fi, .int bu, .int ho, .ref ml, .ref mi, .ref mr, .int lh, .int mg, .int wd, .int fpi, .int fal, .ref mm, .ref mu, .ref mk, .ref mx, .long po, .long de]))]) (is := [0]) (q0 := 0) rfl rfl ln_Mm_103 w_im_Mm_fails w_se_Mm_fails ok_Mm_lastPlace_Mm_fails d_Mm_lastPlace_11 (C_Mm_fails1 g m mp mf mh mn mt mz mc_ mq mgr ml mi mr mm mu mk mx th pt cl wa co_ fi bu ho lh mg wd fpi fal po de) rfl rfl (Nat.le_of_ble_eq_true rfl) rfl (by decide) (by omega) (by omega) (fun E cs1 hx => ?_) (fun v cs1 hx => ?_)
    · exact absurd hx.1 (by simp)
    · obtain ⟨e1, rfl⟩ := hx
      cases e1
      refine ⟨rfl, ?_⟩
      refine r_st (st2 := [.int 1]) rfl ?_
      refine r_cs (cs2 := [(m, .inr (12, [.int 1, .ref mp, .int pt, .ref mf, .ref mh, .ref mn, .ref mt, .ref mz, .ref mc_, .ref mq, .ref mgr, .int cl, .int wa, .int co_, .int fi, .int bu, .int ho, .ref ml, .ref mi, .ref mr, .int lh, .int mg, .int wd, .int fpi, .int fal, .ref mm, .ref mu, .ref mk, .ref mx, .long po, .long de])), (mp, .inl (1, 108, .inl f))]) rfl ?_
      refine r_if_eq (tgt := 19) d_Mm_lastPlace_14 (by decide) (fun c_14 => ?_) (fun c_14 => ?_)
      · exact absurd c_14 (by decide)
      · refine r_iconst d_Mm_lastPlace_17 (v := 0) (by decide) ?_
        refine r_iret d_Mm_lastPlace_18 rfl rfl ?_
        exact ⟨rfl, rfl⟩
abbrev M_Mm_bestFeeder : zM := (⟨"IronpourModel", "bestFeeder", "(I)I"⟩, prog_14_method_43_code, 6, (Option.some FieldType.int), 10, 239, [])
theorem d_Mm_bestFeeder_0 : decode prog_14_method_43_code 0 = .ok (.aload_n 0, 1) := zo_42 (zd_b zq_prog_14_method_43_code_0 0 rfl rfl rfl)
theorem d_Mm_bestFeeder_1 : decode prog_14_method_43_code 1 = .ok (.iconst 0, 1) := zo_3 (zd_b zq_prog_14_method_43_code_0 1 rfl rfl rfl)
theorem d_Mm_bestFeeder_2 : decode prog_14_method_43_code 2 = .ok (.putfield 84, 3) := zo_181 (d := 0) (e := 84) (zd_b zq_prog_14_method_43_code_0 2 rfl rfl rfl) (zd_b zq_prog_14_method_43_code_0 3 rfl rfl rfl) (zd_b zq_prog_14_method_43_code_0 4 rfl rfl rfl)
theorem d_Mm_bestFeeder_5 : decode prog_14_method_43_code 5 = .ok (.aload_n 0, 1) := zo_42 (zd_b zq_prog_14_method_43_code_0 5 rfl rfl rfl)
theorem d_Mm_bestFeeder_6 : decode prog_14_method_43_code 6 = .ok (.iload_n 1, 1) := zo_27 (zd_b zq_prog_14_method_43_code_0 6 rfl rfl rfl)
theorem d_Mm_bestFeeder_7 : decode prog_14_method_43_code 7 = .ok (.invokestatic 163, 3) := zo_184 (d := 0) (e := 163) (zd_b zq_prog_14_method_43_code_0 7 rfl rfl rfl) (zd_b zq_prog_14_method_43_code_0 8 rfl rfl rfl) (zd_b zq_prog_14_method_43_code_0 9 rfl rfl rfl)
theorem ok_Mm_bestFeeder_Mm_noHeat : z_ok M_Mm_bestFeeder M_Mm_noHeat 1 := ⟨z_mj8 (i := 36) rfl (by decide +kernel), rfl, ⟨by decide +kernel, by decide +kernel, by decide +kernel⟩, ⟨by decide, by decide⟩, z_mj1 (i := 14) rfl (by decide +kernel), rfl⟩
theorem d_Mm_bestFeeder_10 : decode prog_14_method_43_code 10 = .ok (.iconst 1, 1) := zo_4 (zd_b zq_prog_14_method_43_code_0 10 rfl rfl rfl)
theorem d_Mm_bestFeeder_11 : decode prog_14_method_43_code 11 = .ok (.invokevirtual 103, 3) := zo_182 (d := 0) (e := 103) (zd_b zq_prog_14_method_43_code_0 11 rfl rfl rfl) (zd_b zq_prog_14_method_43_code_0 12 rfl rfl rfl) (zd_b zq_prog_14_method_43_code_0 13 rfl rfl rfl)
theorem ok_Mm_bestFeeder_Mm_fails : z_ok M_Mm_bestFeeder M_Mm_fails 2 := ⟨z_mj7 (i := 196) rfl (by decide +kernel), rfl, ⟨by decide +kernel, by decide +kernel, by decide +kernel⟩, ⟨by decide, by decide⟩, z_mj1 (i := 14) rfl (by decide +kernel), rfl⟩
theorem d_Mm_bestFeeder_14 : decode prog_14_method_43_code 14 = .ok (.ifCond .eq 5, 3) := zo_153 (d := 0) (e := 5) (zd_b zq_prog_14_method_43_code_0 14 rfl rfl rfl) (zd_b zq_prog_14_method_43_code_0 15 rfl rfl rfl) (zd_b zq_prog_14_method_43_code_0 16 rfl rfl rfl) (by decide +kernel)
theorem d_Mm_bestFeeder_17 : decode prog_14_method_43_code 17 = .ok (.iconst 0, 1) := zo_3 (zd_b zq_prog_14_method_43_code_0 17 rfl rfl rfl)
theorem d_Mm_bestFeeder_18 : decode prog_14_method_43_code 18 = .ok (.ireturn, 1) := zo_172 (zd_b zq_prog_14_method_43_code_0 18 rfl rfl rfl)
set_option maxHeartbeats 4000000 in
set_option maxRecDepth 100000 in
theorem C_Mm_bestFeederE (g : zG) (m mp mf mh mn mt mz mc_ mq mgr ml mi mr mm mu mk mx : Nat) (th pt cl wa co_ fi bu ho lh mg wd fpi fal : Int32) (po de : Int64) (f : Nat → Int32) (h : Int32) (hh : ¬ (1200 ≤ h ∧ h ≤ 1500)) : CT g M_Mm_bestFeeder [.ref m, .int h] [(m, .inr (12, [.int th, .ref mp, .int pt, .ref mf, .ref mh, .ref mn, .ref mt, .ref mz, .ref mc_, .ref mq, .ref mgr, .int cl, .int wa, .int co_, .int fi, .int bu, .int ho, .ref ml, .ref mi, .ref mr, .int lh, .int mg, .int wd, .int fpi, .int fal, .ref mm, .ref mu, .ref mk, .ref mx, .long po, .long de])), (mp, .inl (1, 108, .inl f))] (fun o cs1 => o = .inl (some (.int 0)) ∧ cs1 = [(m, .inr (12, [.int 1, .ref mp, .int pt, .ref mf, .ref mh, .ref mn, .ref mt, .ref mz, .ref mc_, .ref mq, .ref mgr, .int cl, .int wa, .int co_, .int fi, .int bu, .int ho, .ref ml, .ref mi, .ref mr, .int lh, .int mg, .int wd, .int fpi, .int fal, .ref mm, .ref mu, .ref mk, .ref mx, .long po, .long de])), (mp, .inl (1, 108, .inl f))]) 0 0 := by
  refine z_of (by decide) rfl (Nat.le_of_ble_eq_true rfl) (fun w0 => ?_)
  refine r_lvE (lv2 := [(0, .ref m), (1, .int h)]) rfl ?_
  refine r_aload_n d_Mm_bestFeeder_0 rfl 0 rfl ?_
  refine r_iconst d_Mm_bestFeeder_1 (v := 0) (by decide) ?_
  refine r_put fp_Mm_84 d_Mm_bestFeeder_2 (fun h => nomatch h) rfl rfl (q0 := 0) rfl (Nat.le_of_ble_eq_true rfl) (cs' := [(m, .inr (12, [.int 0, .ref mp, .int pt, .ref mf, .ref mh, .ref mn, .ref mt, .ref mz, .ref mc_, .ref mq, .ref mgr, .int cl, .int wa, .int co_, .int fi, .int bu, .int ho, .ref ml, .ref mi, .ref mr, .int lh, .int mg, .int wd, .int fpi, .int fal, .ref mm, .ref mu, .ref mk, .ref mx, .long po, .long de])), (mp, .inl (1, 108, .inl f))]) rfl ?_
  refine r_aload_n d_Mm_bestFeeder_5 rfl 0 rfl ?_
  refine r_iload_n d_Mm_bestFeeder_6 rfl 1 rfl ?_
  refine r_callS (As := [.int h]) (rest := [.ref m]) (csC := []) (is := []) ln_Mm_163 w_st_Mm_noHeat ok_Mm_bestFeeder_Mm_noHeat d_Mm_bestFeeder_7 (C_Mm_noHeat1 g h hh) rfl rfl (Nat.le_of_ble_eq_true rfl) rfl (by decide) (by omega) (by omega) (fun E cs1 hx => ?_) (fun v cs1 hx => ?_)
  · exact absurd hx.1 (by simp)
  · obtain ⟨e1, rfl⟩ := hx
    cases e1
    refine ⟨rfl, ?_⟩
    refine r_st (st2 := [.int 1, .ref m]) rfl ?_
    refine r_cs (cs2 := [(m, .inr (12, [.int 0, .ref mp, .int pt, .ref mf, .ref mh, .ref mn, .ref mt, .ref mz, .ref mc_, .ref mq, .ref mgr, .int cl, .int wa, .int co_, .int fi, .int bu, .int ho, .ref ml, .ref mi, .ref mr, .int lh, .int mg, .int wd, .int fpi, .int fal, .ref mm, .ref mu, .ref mk, .ref mx, .long po, .long de])), (mp, .inl (1, 108, .inl f))]) rfl ?_
    refine r_iconst d_Mm_bestFeeder_10 (v := 1) (by decide) ?_
    refine r_callV (As := [.int 1, .int 1]) (rest := []) (csC := [(m, .inr (12, [.int 0, .ref mp, .int pt, .ref mf, .ref mh, .ref mn, .ref mt, .ref mz, .ref mc_, .ref mq, .ref mgr, .int cl, .int wa, .int co_, .int fi, .int bu, .int ho, .ref ml, .ref mi, .ref mr, .int lh, .int mg, .int wd, .int fpi, .int fal, .ref mm, .ref mu, .ref mk, .ref mx, .long po, .long de]))]) (is := [0]) (q0 := 0) rfl rfl ln_Mm_103 w_im_Mm_fails w_se_Mm_fails ok_Mm_bestFeeder_Mm_fails d_Mm_bestFeeder_11 (C_Mm_fails1 g m mp mf mh mn mt mz mc_ mq mgr ml mi mr mm mu mk mx th pt cl wa co_ fi bu ho lh mg wd fpi fal po de) rfl rfl (Nat.le_of_ble_eq_true rfl) rfl (by decide) (by omega) (by omega) (fun E cs1 hx => ?_) (fun v cs1 hx => ?_)
    · exact absurd hx.1 (by simp)
    · obtain ⟨e1, rfl⟩ := hx
      cases e1
      refine ⟨rfl, ?_⟩
      refine r_st (st2 := [.int 1]) rfl ?_
      refine r_cs (cs2 := [(m, .inr (12, [.int 1, .ref mp, .int pt, .ref mf, .ref mh, .ref mn, .ref mt, .ref mz, .ref mc_, .ref mq, .ref mgr, .int cl, .int wa, .int co_, .int fi, .int bu, .int ho, .ref ml, .ref mi, .ref mr, .int lh, .int mg, .int wd, .int fpi, .int fal, .ref mm, .ref mu, .ref mk, .ref mx, .long po, .long de])), (mp, .inl (1, 108, .inl f))]) rfl ?_
      refine r_if_eq (tgt := 19) d_Mm_bestFeeder_14 (by decide) (fun c_14 => ?_) (fun c_14 => ?_)
      · exact absurd c_14 (by decide)
      · refine r_iconst d_Mm_bestFeeder_17 (v := 0) (by decide) ?_
        refine r_iret d_Mm_bestFeeder_18 rfl rfl ?_
        exact ⟨rfl, rfl⟩
theorem d_Mm_shrunk_21 : decode prog_14_method_38_code 21 = .ok (.aload_n 0, 1) := zo_42 (zd_b zq_prog_14_method_38_code_0 21 rfl rfl rfl)
theorem d_Mm_shrunk_22 : decode prog_14_method_38_code 22 = .ok (.aload_n 0, 1) := zo_42 (zd_b zq_prog_14_method_38_code_0 22 rfl rfl rfl)
theorem d_Mm_shrunk_23 : decode prog_14_method_38_code 23 = .ok (.getfield 7, 3) := zo_180 (d := 0) (e := 7) (zd_b zq_prog_14_method_38_code_0 23 rfl rfl rfl) (zd_b zq_prog_14_method_38_code_0 24 rfl rfl rfl) (zd_b zq_prog_14_method_38_code_0 25 rfl rfl rfl)
theorem d_Mm_shrunk_26 : decode prog_14_method_38_code 26 = .ok (.iload_n 1, 1) := zo_27 (zd_b zq_prog_14_method_38_code_0 26 rfl rfl rfl)
theorem d_Mm_shrunk_27 : decode prog_14_method_38_code 27 = .ok (.invokevirtual 173, 3) := zo_182 (d := 0) (e := 173) (zd_b zq_prog_14_method_38_code_0 27 rfl rfl rfl) (zd_b zq_prog_14_method_38_code_0 28 rfl rfl rfl) (zd_b zq_prog_14_method_38_code_0 29 rfl rfl rfl)
theorem ok_Mm_shrunk_Mm_shrunkOf : z_ok M_Mm_shrunk M_Mm_shrunkOf 2 := ⟨z_mj8 (i := 76) rfl (by decide +kernel), rfl, ⟨by decide +kernel, by decide +kernel, by decide +kernel⟩, ⟨by decide, by decide⟩, z_mj1 (i := 14) rfl (by decide +kernel), rfl⟩
theorem ln_Mm_173 : Cond.methodLink "IronpourModel" 173 M_Mm_shrunkOf.1 ∈ z_gw := z_mj8 (i := 73) rfl (by decide +kernel)
theorem w_im_Mm_shrunkOf : Cond.instanceMethod M_Mm_shrunkOf.1 ∈ z_gw := z_mj8 (i := 75) rfl (by decide +kernel)
theorem w_se_Mm_shrunkOf : Cond.selects M_Mm_shrunkOf.1.cls M_Mm_shrunkOf.1 M_Mm_shrunkOf.1 ∈ z_gw := z_mem (i := 41) (by decide +kernel) (by decide +kernel)
theorem d_Mm_shrunkAnew_32 : decode prog_14_method_40_code 32 = .ok (.iload_n 3, 1) := zo_29 (zd_b zq_prog_14_method_40_code_1 0 rfl rfl rfl)
theorem d_Mm_shrunkAnew_33 : decode prog_14_method_40_code 33 = .ok (.bipush 108, 2) := zo_16 (d := 108) (zd_b zq_prog_14_method_40_code_1 1 rfl rfl rfl) (zd_b zq_prog_14_method_40_code_1 2 rfl rfl rfl) (by decide +kernel)
theorem d_Mm_shrunkAnew_35 : decode prog_14_method_40_code 35 = .ok (.if_icmp .ge 46, 3) := zo_162 (d := 0) (e := 46) (zd_b zq_prog_14_method_40_code_1 3 rfl rfl rfl) (zd_b zq_prog_14_method_40_code_1 4 rfl rfl rfl) (zd_b zq_prog_14_method_40_code_1 5 rfl rfl rfl) (by decide +kernel)
theorem d_Mm_shrunkAnew_81 : decode prog_14_method_40_code 81 = .ok (.iload_n 2, 1) := zo_28 (zd_b zq_prog_14_method_40_code_2 17 rfl rfl rfl)
theorem d_Mm_shrunkAnew_82 : decode prog_14_method_40_code 82 = .ok (.ireturn, 1) := zo_172 (zd_b zq_prog_14_method_40_code_2 18 rfl rfl rfl)
theorem d_Mm_shrunkAnew_38 : decode prog_14_method_40_code 38 = .ok (.iload_n 2, 1) := zo_28 (zd_b zq_prog_14_method_40_code_1 6 rfl rfl rfl)
theorem d_Mm_shrunkAnew_39 : decode prog_14_method_40_code 39 = .ok (.aload_n 0, 1) := zo_42 (zd_b zq_prog_14_method_40_code_1 7 rfl rfl rfl)
theorem d_Mm_shrunkAnew_40 : decode prog_14_method_40_code 40 = .ok (.getfield 7, 3) := zo_180 (d := 0) (e := 7) (zd_b zq_prog_14_method_40_code_1 8 rfl rfl rfl) (zd_b zq_prog_14_method_40_code_1 9 rfl rfl rfl) (zd_b zq_prog_14_method_40_code_1 10 rfl rfl rfl)
theorem d_Mm_shrunkAnew_43 : decode prog_14_method_40_code 43 = .ok (.iload_n 3, 1) := zo_29 (zd_b zq_prog_14_method_40_code_1 11 rfl rfl rfl)
theorem d_Mm_shrunkAnew_44 : decode prog_14_method_40_code 44 = .ok (.caload, 1) := zo_52 (zd_b zq_prog_14_method_40_code_1 12 rfl rfl rfl)
theorem d_Mm_shrunkAnew_45 : decode prog_14_method_40_code 45 = .ok (.bipush 99, 2) := zo_16 (d := 99) (zd_b zq_prog_14_method_40_code_1 13 rfl rfl rfl) (zd_b zq_prog_14_method_40_code_1 14 rfl rfl rfl) (by decide +kernel)
theorem d_Mm_shrunkAnew_47 : decode prog_14_method_40_code 47 = .ok (.if_icmp .ne 25, 3) := zo_160 (d := 0) (e := 25) (zd_b zq_prog_14_method_40_code_1 15 rfl rfl rfl) (zd_b zq_prog_14_method_40_code_1 16 rfl rfl rfl) (zd_b zq_prog_14_method_40_code_1 17 rfl rfl rfl) (by decide +kernel)
theorem d_Mm_shrunkAnew_72 : decode prog_14_method_40_code 72 = .ok (.iconst 0, 1) := zo_3 (zd_b zq_prog_14_method_40_code_2 8 rfl rfl rfl)
theorem d_Mm_shrunkAnew_73 : decode prog_14_method_40_code 73 = .ok (.iadd, 1) := zo_96 (zd_b zq_prog_14_method_40_code_2 9 rfl rfl rfl)
theorem d_Mm_shrunkAnew_74 : decode prog_14_method_40_code 74 = .ok (.istore_n 2, 1) := zo_61 (zd_b zq_prog_14_method_40_code_2 10 rfl rfl rfl)
theorem d_Mm_shrunkAnew_75 : decode prog_14_method_40_code 75 = .ok (.iinc 3 1, 3) := by decide +kernel
theorem d_Mm_shrunkAnew_78 : decode prog_14_method_40_code 78 = .ok (.goto (-46), 3) := zo_167 (d := 255) (e := 210) (zd_b zq_prog_14_method_40_code_2 14 rfl rfl rfl) (zd_b zq_prog_14_method_40_code_2 15 rfl rfl rfl) (zd_b zq_prog_14_method_40_code_2 16 rfl rfl rfl) (by decide +kernel)
theorem d_Mm_shrunkAnew_19 : decode prog_14_method_40_code 19 = .ok (.aload_n 0, 1) := zo_42 (zd_b zq_prog_14_method_40_code_0 19 rfl rfl rfl)
theorem d_Mm_shrunkAnew_20 : decode prog_14_method_40_code 20 = .ok (.aload_n 0, 1) := zo_42 (zd_b zq_prog_14_method_40_code_0 20 rfl rfl rfl)
theorem d_Mm_shrunkAnew_21 : decode prog_14_method_40_code 21 = .ok (.getfield 7, 3) := zo_180 (d := 0) (e := 7) (zd_b zq_prog_14_method_40_code_0 21 rfl rfl rfl) (zd_b zq_prog_14_method_40_code_0 22 rfl rfl rfl) (zd_b zq_prog_14_method_40_code_0 23 rfl rfl rfl)
theorem d_Mm_shrunkAnew_24 : decode prog_14_method_40_code 24 = .ok (.iload_n 1, 1) := zo_27 (zd_b zq_prog_14_method_40_code_0 24 rfl rfl rfl)
theorem d_Mm_shrunkAnew_25 : decode prog_14_method_40_code 25 = .ok (.invokevirtual 167, 3) := zo_182 (d := 0) (e := 167) (zd_b zq_prog_14_method_40_code_0 25 rfl rfl rfl) (zd_b zq_prog_14_method_40_code_0 26 rfl rfl rfl) (zd_b zq_prog_14_method_40_code_0 27 rfl rfl rfl)
theorem ok_Mm_shrunkAnew_Mm_freeze : z_ok M_Mm_shrunkAnew M_Mm_freeze 2 := ⟨z_mj8 (i := 40) rfl (by decide +kernel), rfl, ⟨by decide +kernel, by decide +kernel, by decide +kernel⟩, ⟨by decide, by decide⟩, z_mj1 (i := 14) rfl (by decide +kernel), rfl⟩
theorem d_Mm_shrunkAnew_28 : decode prog_14_method_40_code 28 = .ok (.iconst 0, 1) := zo_3 (zd_b zq_prog_14_method_40_code_0 28 rfl rfl rfl)
theorem d_Mm_shrunkAnew_29 : decode prog_14_method_40_code 29 = .ok (.istore_n 2, 1) := zo_61 (zd_b zq_prog_14_method_40_code_0 29 rfl rfl rfl)
theorem d_Mm_shrunkAnew_30 : decode prog_14_method_40_code 30 = .ok (.iconst 0, 1) := zo_3 (zd_b zq_prog_14_method_40_code_0 30 rfl rfl rfl)
theorem d_Mm_shrunkAnew_31 : decode prog_14_method_40_code 31 = .ok (.istore_n 3, 1) := zo_62 (zd_b zq_prog_14_method_40_code_0 31 rfl rfl rfl)
theorem d_Mm_lastPlace_32 : decode prog_14_method_41_code 32 = .ok (.iload_n 3, 1) := zo_29 (zd_b zq_prog_14_method_41_code_1 0 rfl rfl rfl)
theorem d_Mm_lastPlace_33 : decode prog_14_method_41_code 33 = .ok (.bipush 108, 2) := zo_16 (d := 108) (zd_b zq_prog_14_method_41_code_1 1 rfl rfl rfl) (zd_b zq_prog_14_method_41_code_1 2 rfl rfl rfl) (by decide +kernel)
theorem d_Mm_lastPlace_35 : decode prog_14_method_41_code 35 = .ok (.if_icmp .ge 68, 3) := zo_162 (d := 0) (e := 68) (zd_b zq_prog_14_method_41_code_1 3 rfl rfl rfl) (zd_b zq_prog_14_method_41_code_1 4 rfl rfl rfl) (zd_b zq_prog_14_method_41_code_1 5 rfl rfl rfl) (by decide +kernel)
theorem d_Mm_lastPlace_103 : decode prog_14_method_41_code 103 = .ok (.aload_n 0, 1) := zo_42 (zd_b zq_prog_14_method_41_code_3 7 rfl rfl rfl)
theorem d_Mm_lastPlace_104 : decode prog_14_method_41_code 104 = .ok (.iload_n 2, 1) := zo_28 (zd_b zq_prog_14_method_41_code_3 8 rfl rfl rfl)
theorem d_Mm_lastPlace_105 : decode prog_14_method_41_code 105 = .ok (.iconst (-1), 1) := zo_2 (zd_b zq_prog_14_method_41_code_3 9 rfl rfl rfl)
theorem d_Mm_lastPlace_106 : decode prog_14_method_41_code 106 = .ok (.if_icmp .ne 7, 3) := zo_160 (d := 0) (e := 7) (zd_b zq_prog_14_method_41_code_3 10 rfl rfl rfl) (zd_b zq_prog_14_method_41_code_3 11 rfl rfl rfl) (zd_b zq_prog_14_method_41_code_3 12 rfl rfl rfl) (by decide +kernel)
theorem d_Mm_lastPlace_109 : decode prog_14_method_41_code 109 = .ok (.iconst 1, 1) := zo_4 (zd_b zq_prog_14_method_41_code_3 13 rfl rfl rfl)
theorem d_Mm_lastPlace_110 : decode prog_14_method_41_code 110 = .ok (.goto 4, 3) := zo_167 (d := 0) (e := 4) (zd_b zq_prog_14_method_41_code_3 14 rfl rfl rfl) (zd_b zq_prog_14_method_41_code_3 15 rfl rfl rfl) (zd_b zq_prog_14_method_41_code_3 16 rfl rfl rfl) (by decide +kernel)
theorem d_Mm_lastPlace_114 : decode prog_14_method_41_code 114 = .ok (.iconst 2, 1) := zo_5 (zd_b zq_prog_14_method_41_code_3 18 rfl rfl rfl)
theorem d_Mm_lastPlace_115 : decode prog_14_method_41_code 115 = .ok (.invokevirtual 103, 3) := zo_182 (d := 0) (e := 103) (zd_b zq_prog_14_method_41_code_3 19 rfl rfl rfl) (zd_b zq_prog_14_method_41_code_3 20 rfl rfl rfl) (zd_b zq_prog_14_method_41_code_3 21 rfl rfl rfl)
theorem d_Mm_lastPlace_118 : decode prog_14_method_41_code 118 = .ok (.ifCond .eq 7, 3) := zo_153 (d := 0) (e := 7) (zd_b zq_prog_14_method_41_code_3 22 rfl rfl rfl) (zd_b zq_prog_14_method_41_code_3 23 rfl rfl rfl) (zd_b zq_prog_14_method_41_code_3 24 rfl rfl rfl) (by decide +kernel)
theorem d_Mm_lastPlace_121 : decode prog_14_method_41_code 121 = .ok (.iconst 0, 1) := zo_3 (zd_b zq_prog_14_method_41_code_3 25 rfl rfl rfl)
theorem d_Mm_lastPlace_122 : decode prog_14_method_41_code 122 = .ok (.goto 4, 3) := zo_167 (d := 0) (e := 4) (zd_b zq_prog_14_method_41_code_3 26 rfl rfl rfl) (zd_b zq_prog_14_method_41_code_3 27 rfl rfl rfl) (zd_b zq_prog_14_method_41_code_3 28 rfl rfl rfl) (by decide +kernel)
theorem d_Mm_lastPlace_126 : decode prog_14_method_41_code 126 = .ok (.ireturn, 1) := zo_172 (zd_b zq_prog_14_method_41_code_3 30 rfl rfl rfl)
theorem d_Mm_lastPlace_38 : decode prog_14_method_41_code 38 = .ok (.aload_n 0, 1) := zo_42 (zd_b zq_prog_14_method_41_code_1 6 rfl rfl rfl)
theorem d_Mm_lastPlace_39 : decode prog_14_method_41_code 39 = .ok (.getfield 7, 3) := zo_180 (d := 0) (e := 7) (zd_b zq_prog_14_method_41_code_1 7 rfl rfl rfl) (zd_b zq_prog_14_method_41_code_1 8 rfl rfl rfl) (zd_b zq_prog_14_method_41_code_1 9 rfl rfl rfl)
theorem d_Mm_lastPlace_42 : decode prog_14_method_41_code 42 = .ok (.iload_n 3, 1) := zo_29 (zd_b zq_prog_14_method_41_code_1 10 rfl rfl rfl)
theorem d_Mm_lastPlace_43 : decode prog_14_method_41_code 43 = .ok (.caload, 1) := zo_52 (zd_b zq_prog_14_method_41_code_1 11 rfl rfl rfl)
theorem d_Mm_lastPlace_44 : decode prog_14_method_41_code 44 = .ok (.bipush 99, 2) := zo_16 (d := 99) (zd_b zq_prog_14_method_41_code_1 12 rfl rfl rfl) (zd_b zq_prog_14_method_41_code_1 13 rfl rfl rfl) (by decide +kernel)
theorem d_Mm_lastPlace_46 : decode prog_14_method_41_code 46 = .ok (.if_icmp .ne 17, 3) := zo_160 (d := 0) (e := 17) (zd_b zq_prog_14_method_41_code_1 14 rfl rfl rfl) (zd_b zq_prog_14_method_41_code_1 15 rfl rfl rfl) (zd_b zq_prog_14_method_41_code_1 16 rfl rfl rfl) (by decide +kernel)
theorem d_Mm_lastPlace_63 : decode prog_14_method_41_code 63 = .ok (.iconst 0, 1) := zo_3 (zd_b zq_prog_14_method_41_code_1 31 rfl rfl rfl)
theorem d_Mm_lastPlace_64 : decode prog_14_method_41_code 64 = .ok (.istore 4, 2) := zo_54 (d := 4) (zd_b zq_prog_14_method_41_code_2 0 rfl rfl rfl) (zd_b zq_prog_14_method_41_code_2 1 rfl rfl rfl)
theorem d_Mm_lastPlace_66 : decode prog_14_method_41_code 66 = .ok (.iload 4, 2) := zo_21 (d := 4) (zd_b zq_prog_14_method_41_code_2 2 rfl rfl rfl) (zd_b zq_prog_14_method_41_code_2 3 rfl rfl rfl)
theorem d_Mm_lastPlace_68 : decode prog_14_method_41_code 68 = .ok (.ifCond .eq 27, 3) := zo_153 (d := 0) (e := 27) (zd_b zq_prog_14_method_41_code_2 4 rfl rfl rfl) (zd_b zq_prog_14_method_41_code_2 5 rfl rfl rfl) (zd_b zq_prog_14_method_41_code_2 6 rfl rfl rfl) (by decide +kernel)
theorem d_Mm_lastPlace_95 : decode prog_14_method_41_code 95 = .ok (.iload_n 2, 1) := zo_28 (zd_b zq_prog_14_method_41_code_2 31 rfl rfl rfl)
theorem d_Mm_lastPlace_96 : decode prog_14_method_41_code 96 = .ok (.istore_n 2, 1) := zo_61 (zd_b zq_prog_14_method_41_code_3 0 rfl rfl rfl)
theorem d_Mm_lastPlace_97 : decode prog_14_method_41_code 97 = .ok (.iinc 3 1, 3) := by decide +kernel
theorem d_Mm_lastPlace_100 : decode prog_14_method_41_code 100 = .ok (.goto (-68), 3) := zo_167 (d := 255) (e := 188) (zd_b zq_prog_14_method_41_code_3 4 rfl rfl rfl) (zd_b zq_prog_14_method_41_code_3 5 rfl rfl rfl) (zd_b zq_prog_14_method_41_code_3 6 rfl rfl rfl) (by decide +kernel)
theorem d_Mm_lastPlace_19 : decode prog_14_method_41_code 19 = .ok (.aload_n 0, 1) := zo_42 (zd_b zq_prog_14_method_41_code_0 19 rfl rfl rfl)
theorem d_Mm_lastPlace_20 : decode prog_14_method_41_code 20 = .ok (.aload_n 0, 1) := zo_42 (zd_b zq_prog_14_method_41_code_0 20 rfl rfl rfl)
theorem d_Mm_lastPlace_21 : decode prog_14_method_41_code 21 = .ok (.getfield 7, 3) := zo_180 (d := 0) (e := 7) (zd_b zq_prog_14_method_41_code_0 21 rfl rfl rfl) (zd_b zq_prog_14_method_41_code_0 22 rfl rfl rfl) (zd_b zq_prog_14_method_41_code_0 23 rfl rfl rfl)
theorem d_Mm_lastPlace_24 : decode prog_14_method_41_code 24 = .ok (.iload_n 1, 1) := zo_27 (zd_b zq_prog_14_method_41_code_0 24 rfl rfl rfl)
theorem d_Mm_lastPlace_25 : decode prog_14_method_41_code 25 = .ok (.invokevirtual 167, 3) := zo_182 (d := 0) (e := 167) (zd_b zq_prog_14_method_41_code_0 25 rfl rfl rfl) (zd_b zq_prog_14_method_41_code_0 26 rfl rfl rfl) (zd_b zq_prog_14_method_41_code_0 27 rfl rfl rfl)
theorem ok_Mm_lastPlace_Mm_freeze : z_ok M_Mm_lastPlace M_Mm_freeze 2 := ⟨z_mj8 (i := 40) rfl (by decide +kernel), rfl, ⟨by decide +kernel, by decide +kernel, by decide +kernel⟩, ⟨by decide, by decide⟩, z_mj1 (i := 14) rfl (by decide +kernel), rfl⟩
theorem d_Mm_lastPlace_28 : decode prog_14_method_41_code 28 = .ok (.iconst (-1), 1) := zo_2 (zd_b zq_prog_14_method_41_code_0 28 rfl rfl rfl)
theorem d_Mm_lastPlace_29 : decode prog_14_method_41_code 29 = .ok (.istore_n 2, 1) := zo_61 (zd_b zq_prog_14_method_41_code_0 29 rfl rfl rfl)
theorem d_Mm_lastPlace_30 : decode prog_14_method_41_code 30 = .ok (.iconst 0, 1) := zo_3 (zd_b zq_prog_14_method_41_code_0 30 rfl rfl rfl)
theorem d_Mm_lastPlace_31 : decode prog_14_method_41_code 31 = .ok (.istore_n 3, 1) := zo_62 (zd_b zq_prog_14_method_41_code_0 31 rfl rfl rfl)
abbrev M_Mm_isBesideCasting : zM := (⟨"IronpourModel", "isBesideCasting", "(I)Z"⟩, prog_14_method_42_code, 5, (Option.some FieldType.boolean), 4, 86, [])
theorem d_Mm_isBesideCasting_4 : decode prog_14_method_42_code 4 = .ok (.iload_n 3, 1) := zo_29 (zd_b zq_prog_14_method_42_code_0 4 rfl rfl rfl)
theorem d_Mm_isBesideCasting_5 : decode prog_14_method_42_code 5 = .ok (.iconst 4, 1) := zo_7 (zd_b zq_prog_14_method_42_code_0 5 rfl rfl rfl)
theorem d_Mm_isBesideCasting_6 : decode prog_14_method_42_code 6 = .ok (.if_icmp .ge 44, 3) := zo_162 (d := 0) (e := 44) (zd_b zq_prog_14_method_42_code_0 6 rfl rfl rfl) (zd_b zq_prog_14_method_42_code_0 7 rfl rfl rfl) (zd_b zq_prog_14_method_42_code_0 8 rfl rfl rfl) (by decide +kernel)
theorem d_Mm_isBesideCasting_50 : decode prog_14_method_42_code 50 = .ok (.iload_n 2, 1) := zo_28 (zd_b zq_prog_14_method_42_code_1 18 rfl rfl rfl)
theorem d_Mm_isBesideCasting_51 : decode prog_14_method_42_code 51 = .ok (.ireturn, 1) := zo_172 (zd_b zq_prog_14_method_42_code_1 19 rfl rfl rfl)
theorem d_Mm_isBesideCasting_9 : decode prog_14_method_42_code 9 = .ok (.iload_n 1, 1) := zo_27 (zd_b zq_prog_14_method_42_code_0 9 rfl rfl rfl)
theorem d_Mm_isBesideCasting_10 : decode prog_14_method_42_code 10 = .ok (.iload_n 3, 1) := zo_29 (zd_b zq_prog_14_method_42_code_0 10 rfl rfl rfl)
theorem d_Mm_isBesideCasting_11 : decode prog_14_method_42_code 11 = .ok (.invokestatic 119, 3) := zo_184 (d := 0) (e := 119) (zd_b zq_prog_14_method_42_code_0 11 rfl rfl rfl) (zd_b zq_prog_14_method_42_code_0 12 rfl rfl rfl) (zd_b zq_prog_14_method_42_code_0 13 rfl rfl rfl)
theorem ok_Mm_isBesideCasting_Mm_beside : z_ok M_Mm_isBesideCasting M_Mm_beside 2 := ⟨z_mj7 (i := 229) rfl (by decide +kernel), rfl, ⟨by decide +kernel, by decide +kernel, by decide +kernel⟩, ⟨by decide, by decide⟩, z_mj1 (i := 14) rfl (by decide +kernel), rfl⟩
theorem d_Mm_isBesideCasting_14 : decode prog_14_method_42_code 14 = .ok (.istore 4, 2) := zo_54 (d := 4) (zd_b zq_prog_14_method_42_code_0 14 rfl rfl rfl) (zd_b zq_prog_14_method_42_code_0 15 rfl rfl rfl)
theorem d_Mm_isBesideCasting_16 : decode prog_14_method_42_code 16 = .ok (.iload_n 2, 1) := zo_28 (zd_b zq_prog_14_method_42_code_0 16 rfl rfl rfl)
theorem d_Mm_isBesideCasting_17 : decode prog_14_method_42_code 17 = .ok (.ifCond .ne 21, 3) := zo_154 (d := 0) (e := 21) (zd_b zq_prog_14_method_42_code_0 17 rfl rfl rfl) (zd_b zq_prog_14_method_42_code_0 18 rfl rfl rfl) (zd_b zq_prog_14_method_42_code_0 19 rfl rfl rfl) (by decide +kernel)
theorem d_Mm_isBesideCasting_20 : decode prog_14_method_42_code 20 = .ok (.iload 4, 2) := zo_21 (d := 4) (zd_b zq_prog_14_method_42_code_0 20 rfl rfl rfl) (zd_b zq_prog_14_method_42_code_0 21 rfl rfl rfl)
theorem d_Mm_isBesideCasting_22 : decode prog_14_method_42_code 22 = .ok (.iconst (-1), 1) := zo_2 (zd_b zq_prog_14_method_42_code_0 22 rfl rfl rfl)
theorem d_Mm_isBesideCasting_23 : decode prog_14_method_42_code 23 = .ok (.if_icmp .eq 19, 3) := zo_159 (d := 0) (e := 19) (zd_b zq_prog_14_method_42_code_0 23 rfl rfl rfl) (zd_b zq_prog_14_method_42_code_0 24 rfl rfl rfl) (zd_b zq_prog_14_method_42_code_0 25 rfl rfl rfl) (by decide +kernel)
theorem d_Mm_isBesideCasting_42 : decode prog_14_method_42_code 42 = .ok (.iconst 0, 1) := zo_3 (zd_b zq_prog_14_method_42_code_1 10 rfl rfl rfl)
theorem d_Mm_isBesideCasting_43 : decode prog_14_method_42_code 43 = .ok (.istore_n 2, 1) := zo_61 (zd_b zq_prog_14_method_42_code_1 11 rfl rfl rfl)
theorem d_Mm_isBesideCasting_44 : decode prog_14_method_42_code 44 = .ok (.iinc 3 1, 3) := by decide +kernel
theorem d_Mm_isBesideCasting_47 : decode prog_14_method_42_code 47 = .ok (.goto (-43), 3) := zo_167 (d := 255) (e := 213) (zd_b zq_prog_14_method_42_code_1 15 rfl rfl rfl) (zd_b zq_prog_14_method_42_code_1 16 rfl rfl rfl) (zd_b zq_prog_14_method_42_code_1 17 rfl rfl rfl) (by decide +kernel)
theorem d_Mm_isBesideCasting_26 : decode prog_14_method_42_code 26 = .ok (.aload_n 0, 1) := zo_42 (zd_b zq_prog_14_method_42_code_0 26 rfl rfl rfl)
theorem d_Mm_isBesideCasting_27 : decode prog_14_method_42_code 27 = .ok (.getfield 7, 3) := zo_180 (d := 0) (e := 7) (zd_b zq_prog_14_method_42_code_0 27 rfl rfl rfl) (zd_b zq_prog_14_method_42_code_0 28 rfl rfl rfl) (zd_b zq_prog_14_method_42_code_0 29 rfl rfl rfl)
theorem d_Mm_isBesideCasting_30 : decode prog_14_method_42_code 30 = .ok (.iload 4, 2) := zo_21 (d := 4) (zd_b zq_prog_14_method_42_code_0 30 rfl rfl rfl) (zd_b zq_prog_14_method_42_code_0 31 rfl rfl rfl)
theorem d_Mm_isBesideCasting_32 : decode prog_14_method_42_code 32 = .ok (.caload, 1) := zo_52 (zd_b zq_prog_14_method_42_code_1 0 rfl rfl rfl)
theorem d_Mm_isBesideCasting_33 : decode prog_14_method_42_code 33 = .ok (.bipush 99, 2) := zo_16 (d := 99) (zd_b zq_prog_14_method_42_code_1 1 rfl rfl rfl) (zd_b zq_prog_14_method_42_code_1 2 rfl rfl rfl) (by decide +kernel)
theorem d_Mm_isBesideCasting_35 : decode prog_14_method_42_code 35 = .ok (.if_icmp .ne 7, 3) := zo_160 (d := 0) (e := 7) (zd_b zq_prog_14_method_42_code_1 3 rfl rfl rfl) (zd_b zq_prog_14_method_42_code_1 4 rfl rfl rfl) (zd_b zq_prog_14_method_42_code_1 5 rfl rfl rfl) (by decide +kernel)
theorem d_Mm_isBesideCasting_0 : decode prog_14_method_42_code 0 = .ok (.iconst 0, 1) := zo_3 (zd_b zq_prog_14_method_42_code_0 0 rfl rfl rfl)
theorem d_Mm_isBesideCasting_1 : decode prog_14_method_42_code 1 = .ok (.istore_n 2, 1) := zo_61 (zd_b zq_prog_14_method_42_code_0 1 rfl rfl rfl)
theorem d_Mm_isBesideCasting_2 : decode prog_14_method_42_code 2 = .ok (.iconst 0, 1) := zo_3 (zd_b zq_prog_14_method_42_code_0 2 rfl rfl rfl)
theorem d_Mm_isBesideCasting_3 : decode prog_14_method_42_code 3 = .ok (.istore_n 3, 1) := zo_62 (zd_b zq_prog_14_method_42_code_0 3 rfl rfl rfl)
theorem d_Mm_bestFeeder_34 : decode prog_14_method_43_code 34 = .ok (.iload 4, 2) := zo_21 (d := 4) (zd_b zq_prog_14_method_43_code_1 2 rfl rfl rfl) (zd_b zq_prog_14_method_43_code_1 3 rfl rfl rfl)
theorem d_Mm_bestFeeder_36 : decode prog_14_method_43_code 36 = .ok (.bipush 108, 2) := zo_16 (d := 108) (zd_b zq_prog_14_method_43_code_1 4 rfl rfl rfl) (zd_b zq_prog_14_method_43_code_1 5 rfl rfl rfl) (by decide +kernel)
theorem d_Mm_bestFeeder_38 : decode prog_14_method_43_code 38 = .ok (.if_icmp .ge 79, 3) := zo_162 (d := 0) (e := 79) (zd_b zq_prog_14_method_43_code_1 6 rfl rfl rfl) (zd_b zq_prog_14_method_43_code_1 7 rfl rfl rfl) (zd_b zq_prog_14_method_43_code_1 8 rfl rfl rfl) (by decide +kernel)
theorem d_Mm_bestFeeder_117 : decode prog_14_method_43_code 117 = .ok (.aload_n 0, 1) := zo_42 (zd_b zq_prog_14_method_43_code_3 21 rfl rfl rfl)
theorem d_Mm_bestFeeder_118 : decode prog_14_method_43_code 118 = .ok (.iload_n 2, 1) := zo_28 (zd_b zq_prog_14_method_43_code_3 22 rfl rfl rfl)
theorem d_Mm_bestFeeder_119 : decode prog_14_method_43_code 119 = .ok (.iconst (-1), 1) := zo_2 (zd_b zq_prog_14_method_43_code_3 23 rfl rfl rfl)
theorem d_Mm_bestFeeder_120 : decode prog_14_method_43_code 120 = .ok (.if_icmp .ne 7, 3) := zo_160 (d := 0) (e := 7) (zd_b zq_prog_14_method_43_code_3 24 rfl rfl rfl) (zd_b zq_prog_14_method_43_code_3 25 rfl rfl rfl) (zd_b zq_prog_14_method_43_code_3 26 rfl rfl rfl) (by decide +kernel)
theorem d_Mm_bestFeeder_123 : decode prog_14_method_43_code 123 = .ok (.iconst 1, 1) := zo_4 (zd_b zq_prog_14_method_43_code_3 27 rfl rfl rfl)
theorem d_Mm_bestFeeder_124 : decode prog_14_method_43_code 124 = .ok (.goto 4, 3) := zo_167 (d := 0) (e := 4) (zd_b zq_prog_14_method_43_code_3 28 rfl rfl rfl) (zd_b zq_prog_14_method_43_code_3 29 rfl rfl rfl) (zd_b zq_prog_14_method_43_code_3 30 rfl rfl rfl) (by decide +kernel)
theorem d_Mm_bestFeeder_128 : decode prog_14_method_43_code 128 = .ok (.iconst 2, 1) := zo_5 (zd_b zq_prog_14_method_43_code_4 0 rfl rfl rfl)
theorem d_Mm_bestFeeder_129 : decode prog_14_method_43_code 129 = .ok (.invokevirtual 103, 3) := zo_182 (d := 0) (e := 103) (zd_b zq_prog_14_method_43_code_4 1 rfl rfl rfl) (zd_b zq_prog_14_method_43_code_4 2 rfl rfl rfl) (zd_b zq_prog_14_method_43_code_4 3 rfl rfl rfl)
theorem d_Mm_bestFeeder_132 : decode prog_14_method_43_code 132 = .ok (.ifCond .eq 7, 3) := zo_153 (d := 0) (e := 7) (zd_b zq_prog_14_method_43_code_4 4 rfl rfl rfl) (zd_b zq_prog_14_method_43_code_4 5 rfl rfl rfl) (zd_b zq_prog_14_method_43_code_4 6 rfl rfl rfl) (by decide +kernel)
theorem d_Mm_bestFeeder_135 : decode prog_14_method_43_code 135 = .ok (.iconst 0, 1) := zo_3 (zd_b zq_prog_14_method_43_code_4 7 rfl rfl rfl)
theorem d_Mm_bestFeeder_136 : decode prog_14_method_43_code 136 = .ok (.goto 4, 3) := zo_167 (d := 0) (e := 4) (zd_b zq_prog_14_method_43_code_4 8 rfl rfl rfl) (zd_b zq_prog_14_method_43_code_4 9 rfl rfl rfl) (zd_b zq_prog_14_method_43_code_4 10 rfl rfl rfl) (by decide +kernel)
theorem d_Mm_bestFeeder_140 : decode prog_14_method_43_code 140 = .ok (.ireturn, 1) := zo_172 (zd_b zq_prog_14_method_43_code_4 12 rfl rfl rfl)
theorem d_Mm_bestFeeder_41 : decode prog_14_method_43_code 41 = .ok (.aload_n 0, 1) := zo_42 (zd_b zq_prog_14_method_43_code_1 9 rfl rfl rfl)
theorem d_Mm_bestFeeder_42 : decode prog_14_method_43_code 42 = .ok (.getfield 7, 3) := zo_180 (d := 0) (e := 7) (zd_b zq_prog_14_method_43_code_1 10 rfl rfl rfl) (zd_b zq_prog_14_method_43_code_1 11 rfl rfl rfl) (zd_b zq_prog_14_method_43_code_1 12 rfl rfl rfl)
theorem d_Mm_bestFeeder_45 : decode prog_14_method_43_code 45 = .ok (.iload 4, 2) := zo_21 (d := 4) (zd_b zq_prog_14_method_43_code_1 13 rfl rfl rfl) (zd_b zq_prog_14_method_43_code_1 14 rfl rfl rfl)
theorem d_Mm_bestFeeder_47 : decode prog_14_method_43_code 47 = .ok (.caload, 1) := zo_52 (zd_b zq_prog_14_method_43_code_1 15 rfl rfl rfl)
theorem d_Mm_bestFeeder_48 : decode prog_14_method_43_code 48 = .ok (.bipush 46, 2) := zo_16 (d := 46) (zd_b zq_prog_14_method_43_code_1 16 rfl rfl rfl) (zd_b zq_prog_14_method_43_code_1 17 rfl rfl rfl) (by decide +kernel)
theorem d_Mm_bestFeeder_50 : decode prog_14_method_43_code 50 = .ok (.if_icmp .ne 61, 3) := zo_160 (d := 0) (e := 61) (zd_b zq_prog_14_method_43_code_1 18 rfl rfl rfl) (zd_b zq_prog_14_method_43_code_1 19 rfl rfl rfl) (zd_b zq_prog_14_method_43_code_1 20 rfl rfl rfl) (by decide +kernel)
theorem d_Mm_bestFeeder_111 : decode prog_14_method_43_code 111 = .ok (.iinc 4 1, 3) := by decide +kernel
theorem d_Mm_bestFeeder_114 : decode prog_14_method_43_code 114 = .ok (.goto (-80), 3) := zo_167 (d := 255) (e := 176) (zd_b zq_prog_14_method_43_code_3 18 rfl rfl rfl) (zd_b zq_prog_14_method_43_code_3 19 rfl rfl rfl) (zd_b zq_prog_14_method_43_code_3 20 rfl rfl rfl) (by decide +kernel)
theorem d_Mm_bestFeeder_53 : decode prog_14_method_43_code 53 = .ok (.aload_n 0, 1) := zo_42 (zd_b zq_prog_14_method_43_code_1 21 rfl rfl rfl)
theorem d_Mm_bestFeeder_54 : decode prog_14_method_43_code 54 = .ok (.iload 4, 2) := zo_21 (d := 4) (zd_b zq_prog_14_method_43_code_1 22 rfl rfl rfl) (zd_b zq_prog_14_method_43_code_1 23 rfl rfl rfl)
theorem d_Mm_bestFeeder_56 : decode prog_14_method_43_code 56 = .ok (.invokevirtual 179, 3) := zo_182 (d := 0) (e := 179) (zd_b zq_prog_14_method_43_code_1 24 rfl rfl rfl) (zd_b zq_prog_14_method_43_code_1 25 rfl rfl rfl) (zd_b zq_prog_14_method_43_code_1 26 rfl rfl rfl)
theorem ok_Mm_bestFeeder_Mm_isBesideCasting : z_ok M_Mm_bestFeeder M_Mm_isBesideCasting 1 := ⟨z_mj8 (i := 96) rfl (by decide +kernel), rfl, ⟨by decide +kernel, by decide +kernel, by decide +kernel⟩, ⟨by decide, by decide⟩, z_mj1 (i := 14) rfl (by decide +kernel), rfl⟩
theorem ln_Mm_179 : Cond.methodLink "IronpourModel" 179 M_Mm_isBesideCasting.1 ∈ z_gw := z_mj8 (i := 93) rfl (by decide +kernel)
theorem w_im_Mm_isBesideCasting : Cond.instanceMethod M_Mm_isBesideCasting.1 ∈ z_gw := z_mj8 (i := 95) rfl (by decide +kernel)
theorem w_se_Mm_isBesideCasting : Cond.selects M_Mm_isBesideCasting.1.cls M_Mm_isBesideCasting.1 M_Mm_isBesideCasting.1 ∈ z_gw := z_mem (i := 43) (by decide +kernel) (by decide +kernel)
theorem d_Mm_bestFeeder_59 : decode prog_14_method_43_code 59 = .ok (.ifCond .eq 52, 3) := zo_153 (d := 0) (e := 52) (zd_b zq_prog_14_method_43_code_1 27 rfl rfl rfl) (zd_b zq_prog_14_method_43_code_1 28 rfl rfl rfl) (zd_b zq_prog_14_method_43_code_1 29 rfl rfl rfl) (by decide +kernel)
theorem d_Mm_bestFeeder_19 : decode prog_14_method_43_code 19 = .ok (.iconst (-1), 1) := zo_2 (zd_b zq_prog_14_method_43_code_0 19 rfl rfl rfl)
theorem d_Mm_bestFeeder_20 : decode prog_14_method_43_code 20 = .ok (.istore_n 2, 1) := zo_61 (zd_b zq_prog_14_method_43_code_0 20 rfl rfl rfl)
theorem d_Mm_bestFeeder_21 : decode prog_14_method_43_code 21 = .ok (.aload_n 0, 1) := zo_42 (zd_b zq_prog_14_method_43_code_0 21 rfl rfl rfl)
theorem d_Mm_bestFeeder_22 : decode prog_14_method_43_code 22 = .ok (.aload_n 0, 1) := zo_42 (zd_b zq_prog_14_method_43_code_0 22 rfl rfl rfl)
theorem d_Mm_bestFeeder_23 : decode prog_14_method_43_code 23 = .ok (.getfield 7, 3) := zo_180 (d := 0) (e := 7) (zd_b zq_prog_14_method_43_code_0 23 rfl rfl rfl) (zd_b zq_prog_14_method_43_code_0 24 rfl rfl rfl) (zd_b zq_prog_14_method_43_code_0 25 rfl rfl rfl)
theorem d_Mm_bestFeeder_26 : decode prog_14_method_43_code 26 = .ok (.iload_n 1, 1) := zo_27 (zd_b zq_prog_14_method_43_code_0 26 rfl rfl rfl)
theorem d_Mm_bestFeeder_27 : decode prog_14_method_43_code 27 = .ok (.invokevirtual 173, 3) := zo_182 (d := 0) (e := 173) (zd_b zq_prog_14_method_43_code_0 27 rfl rfl rfl) (zd_b zq_prog_14_method_43_code_0 28 rfl rfl rfl) (zd_b zq_prog_14_method_43_code_0 29 rfl rfl rfl)
theorem ok_Mm_bestFeeder_Mm_shrunkOf : z_ok M_Mm_bestFeeder M_Mm_shrunkOf 2 := ⟨z_mj8 (i := 76) rfl (by decide +kernel), rfl, ⟨by decide +kernel, by decide +kernel, by decide +kernel⟩, ⟨by decide, by decide⟩, z_mj1 (i := 14) rfl (by decide +kernel), rfl⟩
theorem d_Mm_bestFeeder_30 : decode prog_14_method_43_code 30 = .ok (.istore_n 3, 1) := zo_62 (zd_b zq_prog_14_method_43_code_0 30 rfl rfl rfl)
theorem d_Mm_bestFeeder_31 : decode prog_14_method_43_code 31 = .ok (.iconst 0, 1) := zo_3 (zd_b zq_prog_14_method_43_code_0 31 rfl rfl rfl)
theorem d_Mm_bestFeeder_32 : decode prog_14_method_43_code 32 = .ok (.istore 4, 2) := zo_54 (d := 4) (zd_b zq_prog_14_method_43_code_1 0 rfl rfl rfl) (zd_b zq_prog_14_method_43_code_1 1 rfl rfl rfl)
end
section
abbrev M_Mm_strength : zM := (⟨"IronpourModel", "strength", "()I"⟩, prog_14_method_44_code, 1, (Option.some FieldType.int), 2, 40, [])
theorem d_Mm_strength_0 : decode prog_14_method_44_code 0 = .ok (.iconst 0, 1) := zo_3 (zd_b zq_prog_14_method_44_code_0 0 rfl rfl rfl)
theorem d_Mm_strength_1 : decode prog_14_method_44_code 1 = .ok (.iconst 2, 1) := zo_5 (zd_b zq_prog_14_method_44_code_0 1 rfl rfl rfl)
theorem d_Mm_strength_2 : decode prog_14_method_44_code 2 = .ok (.aload_n 0, 1) := zo_42 (zd_b zq_prog_14_method_44_code_0 2 rfl rfl rfl)
theorem d_Mm_strength_3 : decode prog_14_method_44_code 3 = .ok (.getfield 43, 3) := zo_180 (d := 0) (e := 43) (zd_b zq_prog_14_method_44_code_0 3 rfl rfl rfl) (zd_b zq_prog_14_method_44_code_0 4 rfl rfl rfl) (zd_b zq_prog_14_method_44_code_0 5 rfl rfl rfl)
theorem fs_Mm_43 : z_fs "IronpourModel" 43 12 11 := ⟨R_Mm, "IronpourModel", F_Mm, 31, rfl, u_Mm, by decide, Or.inl ⟨z_mj7 (i := 94) rfl (by decide +kernel), Or.inl rfl⟩⟩
theorem d_Mm_strength_6 : decode prog_14_method_44_code 6 = .ok (.imul, 1) := zo_104 (zd_b zq_prog_14_method_44_code_0 6 rfl rfl rfl)
theorem d_Mm_strength_7 : decode prog_14_method_44_code 7 = .ok (.bipush 10, 2) := zo_16 (d := 10) (zd_b zq_prog_14_method_44_code_0 7 rfl rfl rfl) (zd_b zq_prog_14_method_44_code_0 8 rfl rfl rfl) (by decide +kernel)
theorem d_Mm_strength_9 : decode prog_14_method_44_code 9 = .ok (.aload_n 0, 1) := zo_42 (zd_b zq_prog_14_method_44_code_0 9 rfl rfl rfl)
theorem d_Mm_strength_10 : decode prog_14_method_44_code 10 = .ok (.getfield 46, 3) := zo_180 (d := 0) (e := 46) (zd_b zq_prog_14_method_44_code_0 10 rfl rfl rfl) (zd_b zq_prog_14_method_44_code_0 11 rfl rfl rfl) (zd_b zq_prog_14_method_44_code_0 12 rfl rfl rfl)
theorem fs_Mm_46 : z_fs "IronpourModel" 46 12 12 := ⟨R_Mm, "IronpourModel", F_Mm, 31, rfl, u_Mm, by decide, Or.inl ⟨z_mj7 (i := 95) rfl (by decide +kernel), Or.inl rfl⟩⟩
theorem d_Mm_strength_13 : decode prog_14_method_44_code 13 = .ok (.imul, 1) := zo_104 (zd_b zq_prog_14_method_44_code_0 13 rfl rfl rfl)
theorem d_Mm_strength_14 : decode prog_14_method_44_code 14 = .ok (.iconst 4, 1) := zo_7 (zd_b zq_prog_14_method_44_code_0 14 rfl rfl rfl)
theorem d_Mm_strength_15 : decode prog_14_method_44_code 15 = .ok (.aload_n 0, 1) := zo_42 (zd_b zq_prog_14_method_44_code_0 15 rfl rfl rfl)
theorem d_Mm_strength_16 : decode prog_14_method_44_code 16 = .ok (.getfield 43, 3) := zo_180 (d := 0) (e := 43) (zd_b zq_prog_14_method_44_code_0 16 rfl rfl rfl) (zd_b zq_prog_14_method_44_code_0 17 rfl rfl rfl) (zd_b zq_prog_14_method_44_code_0 18 rfl rfl rfl)
theorem d_Mm_strength_19 : decode prog_14_method_44_code 19 = .ok (.imul, 1) := zo_104 (zd_b zq_prog_14_method_44_code_0 19 rfl rfl rfl)
theorem d_Mm_strength_20 : decode prog_14_method_44_code 20 = .ok (.isub, 1) := zo_100 (zd_b zq_prog_14_method_44_code_0 20 rfl rfl rfl)
theorem d_Mm_strength_21 : decode prog_14_method_44_code 21 = .ok (.invokestatic 187, 3) := zo_184 (d := 0) (e := 187) (zd_b zq_prog_14_method_44_code_0 21 rfl rfl rfl) (zd_b zq_prog_14_method_44_code_0 22 rfl rfl rfl) (zd_b zq_prog_14_method_44_code_0 23 rfl rfl rfl)
theorem ln_Mm_187 : Cond.methodLink "IronpourModel" 187 Lib.Math.abs.name ∈ z_gw := z_mj8 (i := 110) rfl (by decide +kernel)
theorem d_Mm_strength_24 : decode prog_14_method_44_code 24 = .ok (.iconst 5, 1) := zo_8 (zd_b zq_prog_14_method_44_code_0 24 rfl rfl rfl)
theorem d_Mm_strength_25 : decode prog_14_method_44_code 25 = .ok (.idiv, 1) := zo_108 (zd_b zq_prog_14_method_44_code_0 25 rfl rfl rfl)
theorem d_Mm_strength_26 : decode prog_14_method_44_code 26 = .ok (.isub, 1) := zo_100 (zd_b zq_prog_14_method_44_code_0 26 rfl rfl rfl)
theorem d_Mm_strength_27 : decode prog_14_method_44_code 27 = .ok (.aload_n 0, 1) := zo_42 (zd_b zq_prog_14_method_44_code_0 27 rfl rfl rfl)
theorem d_Mm_strength_28 : decode prog_14_method_44_code 28 = .ok (.getfield 190, 3) := zo_180 (d := 0) (e := 190) (zd_b zq_prog_14_method_44_code_0 28 rfl rfl rfl) (zd_b zq_prog_14_method_44_code_0 29 rfl rfl rfl) (zd_b zq_prog_14_method_44_code_0 30 rfl rfl rfl)
theorem fs_Mm_190 : z_fs "IronpourModel" 190 12 15 := ⟨R_Mm, "IronpourModel", F_Mm, 31, rfl, u_Mm, by decide, Or.inl ⟨z_mj7 (i := 98) rfl (by decide +kernel), Or.inl rfl⟩⟩
theorem d_Mm_strength_31 : decode prog_14_method_44_code 31 = .ok (.iconst 4, 1) := zo_7 (zd_b zq_prog_14_method_44_code_0 31 rfl rfl rfl)
theorem d_Mm_strength_32 : decode prog_14_method_44_code 32 = .ok (.idiv, 1) := zo_108 (zd_b zq_prog_14_method_44_code_1 0 rfl rfl rfl)
theorem d_Mm_strength_33 : decode prog_14_method_44_code 33 = .ok (.isub, 1) := zo_100 (zd_b zq_prog_14_method_44_code_1 1 rfl rfl rfl)
theorem d_Mm_strength_34 : decode prog_14_method_44_code 34 = .ok (.invokestatic 193, 3) := zo_184 (d := 0) (e := 193) (zd_b zq_prog_14_method_44_code_1 2 rfl rfl rfl) (zd_b zq_prog_14_method_44_code_1 3 rfl rfl rfl) (zd_b zq_prog_14_method_44_code_1 4 rfl rfl rfl)
theorem ln_Mm_193 : Cond.methodLink "IronpourModel" 193 Lib.Math.max.name ∈ z_gw := z_mj8 (i := 105) rfl (by decide +kernel)
theorem d_Mm_strength_37 : decode prog_14_method_44_code 37 = .ok (.ireturn, 1) := zo_172 (zd_b zq_prog_14_method_44_code_1 5 rfl rfl rfl)
def S_Mm_strength (m mp mf mh mn mt mz mc_ mq mgr ml mi mr mm mu mk mx : Nat) (th pt cl wa co_ fi bu ho lh mg wd fpi fal : Int32) (po de : Int64) : Int32 := (if 0 < ((2 * cl) - ((if 0 ≤ (10 * wa) - (4 * cl) then (10 * wa) - (4 * cl) else 0 - ((10 * wa) - (4 * cl))) / 5)) - (bu / 4) then ((2 * cl) - ((if 0 ≤ (10 * wa) - (4 * cl) then (10 * wa) - (4 * cl) else 0 - ((10 * wa) - (4 * cl))) / 5)) - (bu / 4) else 0)
set_option maxHeartbeats 4000000 in
set_option maxRecDepth 100000 in
theorem C_Mm_strength (g : zG) (m mp mf mh mn mt mz mc_ mq mgr ml mi mr mm mu mk mx : Nat) (th pt cl wa co_ fi bu ho lh mg wd fpi fal : Int32) (po de : Int64) : CT g M_Mm_strength [.ref m] [(m, .inr (12, [.int th, .ref mp, .int pt, .ref mf, .ref mh, .ref mn, .ref mt, .ref mz, .ref mc_, .ref mq, .ref mgr, .int cl, .int wa, .int co_, .int fi, .int bu, .int ho, .ref ml, .ref mi, .ref mr, .int lh, .int mg, .int wd, .int fpi, .int fal, .ref mm, .ref mu, .ref mk, .ref mx, .long po, .long de]))] (fun o cs1 => o = .inl (some (.int (S_Mm_strength m mp mf mh mn mt mz mc_ mq mgr ml mi mr mm mu mk mx th pt cl wa co_ fi bu ho lh mg wd fpi fal po de))) ∧ cs1 = [(m, .inr (12, [.int th, .ref mp, .int pt, .ref mf, .ref mh, .ref mn, .ref mt, .ref mz, .ref mc_, .ref mq, .ref mgr, .int cl, .int wa, .int co_, .int fi, .int bu, .int ho, .ref ml, .ref mi, .ref mr, .int lh, .int mg, .int wd, .int fpi, .int fal, .ref mm, .ref mu, .ref mk, .ref mx, .long po, .long de]))]) 0 0 := by
  refine z_of (by decide) rfl (Nat.le_of_ble_eq_true rfl) (fun w0 => ?_)
  refine r_lvE (lv2 := [(0, .ref m)]) rfl ?_
  refine r_iconst d_Mm_strength_0 (v := 0) (by decide) ?_
  refine r_iconst d_Mm_strength_1 (v := 2) (by decide) ?_
  refine r_aload_n d_Mm_strength_2 rfl 0 rfl ?_
  refine r_get fs_Mm_43 d_Mm_strength_3 (q0 := 0) rfl rfl ?_
  refine r_imul d_Mm_strength_6 (v := 2 * cl) rfl ?_
  refine r_bipush d_Mm_strength_7 (v := 10) (by decide) ?_
  refine r_aload_n d_Mm_strength_9 rfl 0 rfl ?_
  refine r_get fs_Mm_46 d_Mm_strength_10 (q0 := 0) rfl rfl ?_
  refine r_imul d_Mm_strength_13 (v := 10 * wa) rfl ?_
  refine r_iconst d_Mm_strength_14 (v := 4) (by decide) ?_
  refine r_aload_n d_Mm_strength_15 rfl 0 rfl ?_
  refine r_get fs_Mm_43 d_Mm_strength_16 (q0 := 0) rfl rfl ?_
  refine r_imul d_Mm_strength_19 (v := 4 * cl) rfl ?_
  refine r_isub d_Mm_strength_20 (v := (10 * wa) - (4 * cl)) rfl ?_
  refine r_abs (v := (if 0 ≤ (10 * wa) - (4 * cl) then (10 * wa) - (4 * cl) else 0 - ((10 * wa) - (4 * cl)))) ln_Mm_187 w_mabs w_mi w_cabs d_Mm_strength_21 (by decide) (by decide) (Nat.le_of_ble_eq_true rfl) rfl ?_
  refine r_iconst d_Mm_strength_24 (v := 5) (by decide) ?_
  refine r_idiv d_Mm_strength_25 (v := (if 0 ≤ (10 * wa) - (4 * cl) then (10 * wa) - (4 * cl) else 0 - ((10 * wa) - (4 * cl))) / 5) (by decide) rfl ?_
  refine r_isub d_Mm_strength_26 (v := (2 * cl) - ((if 0 ≤ (10 * wa) - (4 * cl) then (10 * wa) - (4 * cl) else 0 - ((10 * wa) - (4 * cl))) / 5)) rfl ?_
  refine r_aload_n d_Mm_strength_27 rfl 0 rfl ?_
  refine r_get fs_Mm_190 d_Mm_strength_28 (q0 := 0) rfl rfl ?_
  refine r_iconst d_Mm_strength_31 (v := 4) (by decide) ?_
  refine r_idiv d_Mm_strength_32 (v := bu / 4) (by decide) rfl ?_
  refine r_isub d_Mm_strength_33 (v := ((2 * cl) - ((if 0 ≤ (10 * wa) - (4 * cl) then (10 * wa) - (4 * cl) else 0 - ((10 * wa) - (4 * cl))) / 5)) - (bu / 4)) rfl ?_
  refine r_max (v := (if 0 < ((2 * cl) - ((if 0 ≤ (10 * wa) - (4 * cl) then (10 * wa) - (4 * cl) else 0 - ((10 * wa) - (4 * cl))) / 5)) - (bu / 4) then ((2 * cl) - ((if 0 ≤ (10 * wa) - (4 * cl) then (10 * wa) - (4 * cl) else 0 - ((10 * wa) - (4 * cl))) / 5)) - (bu / 4) else 0)) ln_Mm_193 w_mmax w_mi w_cmax d_Mm_strength_34 (by decide) (by decide) (Nat.le_of_ble_eq_true rfl) rfl ?_
  refine r_iret d_Mm_strength_37 rfl rfl ?_
  exact ⟨rfl, rfl⟩
abbrev M_Mm_draught : zM := (⟨"IronpourModel", "draught", "()I"⟩, prog_14_method_45_code, 1, (Option.some FieldType.int), 2, 40, [])
theorem d_Mm_draught_0 : decode prog_14_method_45_code 0 = .ok (.iconst 0, 1) := zo_3 (zd_b zq_prog_14_method_45_code_0 0 rfl rfl rfl)
theorem d_Mm_draught_1 : decode prog_14_method_45_code 1 = .ok (.sipush 200, 3) := zo_17 (d := 0) (e := 200) (zd_b zq_prog_14_method_45_code_0 1 rfl rfl rfl) (zd_b zq_prog_14_method_45_code_0 2 rfl rfl rfl) (zd_b zq_prog_14_method_45_code_0 3 rfl rfl rfl) (by decide +kernel)
theorem d_Mm_draught_4 : decode prog_14_method_45_code 4 = .ok (.aload_n 0, 1) := zo_42 (zd_b zq_prog_14_method_45_code_0 4 rfl rfl rfl)
theorem d_Mm_draught_5 : decode prog_14_method_45_code 5 = .ok (.getfield 52, 3) := zo_180 (d := 0) (e := 52) (zd_b zq_prog_14_method_45_code_0 5 rfl rfl rfl) (zd_b zq_prog_14_method_45_code_0 6 rfl rfl rfl) (zd_b zq_prog_14_method_45_code_0 7 rfl rfl rfl)
theorem fs_Mm_52 : z_fs "IronpourModel" 52 12 14 := ⟨R_Mm, "IronpourModel", F_Mm, 31, rfl, u_Mm, by decide, Or.inl ⟨z_mj7 (i := 97) rfl (by decide +kernel), Or.inl rfl⟩⟩
theorem d_Mm_draught_8 : decode prog_14_method_45_code 8 = .ok (.isub, 1) := zo_100 (zd_b zq_prog_14_method_45_code_0 8 rfl rfl rfl)
theorem d_Mm_draught_9 : decode prog_14_method_45_code 9 = .ok (.aload_n 0, 1) := zo_42 (zd_b zq_prog_14_method_45_code_0 9 rfl rfl rfl)
theorem d_Mm_draught_10 : decode prog_14_method_45_code 10 = .ok (.getfield 49, 3) := zo_180 (d := 0) (e := 49) (zd_b zq_prog_14_method_45_code_0 10 rfl rfl rfl) (zd_b zq_prog_14_method_45_code_0 11 rfl rfl rfl) (zd_b zq_prog_14_method_45_code_0 12 rfl rfl rfl)
theorem fs_Mm_49 : z_fs "IronpourModel" 49 12 13 := ⟨R_Mm, "IronpourModel", F_Mm, 31, rfl, u_Mm, by decide, Or.inl ⟨z_mj7 (i := 96) rfl (by decide +kernel), Or.inl rfl⟩⟩
theorem d_Mm_draught_13 : decode prog_14_method_45_code 13 = .ok (.iconst 2, 1) := zo_5 (zd_b zq_prog_14_method_45_code_0 13 rfl rfl rfl)
theorem d_Mm_draught_14 : decode prog_14_method_45_code 14 = .ok (.idiv, 1) := zo_108 (zd_b zq_prog_14_method_45_code_0 14 rfl rfl rfl)
theorem d_Mm_draught_15 : decode prog_14_method_45_code 15 = .ok (.isub, 1) := zo_100 (zd_b zq_prog_14_method_45_code_0 15 rfl rfl rfl)
theorem d_Mm_draught_16 : decode prog_14_method_45_code 16 = .ok (.aload_n 0, 1) := zo_42 (zd_b zq_prog_14_method_45_code_0 16 rfl rfl rfl)
theorem d_Mm_draught_17 : decode prog_14_method_45_code 17 = .ok (.getfield 190, 3) := zo_180 (d := 0) (e := 190) (zd_b zq_prog_14_method_45_code_0 17 rfl rfl rfl) (zd_b zq_prog_14_method_45_code_0 18 rfl rfl rfl) (zd_b zq_prog_14_method_45_code_0 19 rfl rfl rfl)
theorem d_Mm_draught_20 : decode prog_14_method_45_code 20 = .ok (.isub, 1) := zo_100 (zd_b zq_prog_14_method_45_code_0 20 rfl rfl rfl)
theorem d_Mm_draught_21 : decode prog_14_method_45_code 21 = .ok (.invokestatic 193, 3) := zo_184 (d := 0) (e := 193) (zd_b zq_prog_14_method_45_code_0 21 rfl rfl rfl) (zd_b zq_prog_14_method_45_code_0 22 rfl rfl rfl) (zd_b zq_prog_14_method_45_code_0 23 rfl rfl rfl)
theorem d_Mm_draught_24 : decode prog_14_method_45_code 24 = .ok (.ireturn, 1) := zo_172 (zd_b zq_prog_14_method_45_code_0 24 rfl rfl rfl)
def S_Mm_draught (m mp mf mh mn mt mz mc_ mq mgr ml mi mr mm mu mk mx : Nat) (th pt cl wa co_ fi bu ho lh mg wd fpi fal : Int32) (po de : Int64) : Int32 := (if 0 < ((200 - fi) - (co_ / 2)) - bu then ((200 - fi) - (co_ / 2)) - bu else 0)
set_option maxHeartbeats 4000000 in
set_option maxRecDepth 100000 in
theorem C_Mm_draught (g : zG) (m mp mf mh mn mt mz mc_ mq mgr ml mi mr mm mu mk mx : Nat) (th pt cl wa co_ fi bu ho lh mg wd fpi fal : Int32) (po de : Int64) : CT g M_Mm_draught [.ref m] [(m, .inr (12, [.int th, .ref mp, .int pt, .ref mf, .ref mh, .ref mn, .ref mt, .ref mz, .ref mc_, .ref mq, .ref mgr, .int cl, .int wa, .int co_, .int fi, .int bu, .int ho, .ref ml, .ref mi, .ref mr, .int lh, .int mg, .int wd, .int fpi, .int fal, .ref mm, .ref mu, .ref mk, .ref mx, .long po, .long de]))] (fun o cs1 => o = .inl (some (.int (S_Mm_draught m mp mf mh mn mt mz mc_ mq mgr ml mi mr mm mu mk mx th pt cl wa co_ fi bu ho lh mg wd fpi fal po de))) ∧ cs1 = [(m, .inr (12, [.int th, .ref mp, .int pt, .ref mf, .ref mh, .ref mn, .ref mt, .ref mz, .ref mc_, .ref mq, .ref mgr, .int cl, .int wa, .int co_, .int fi, .int bu, .int ho, .ref ml, .ref mi, .ref mr, .int lh, .int mg, .int wd, .int fpi, .int fal, .ref mm, .ref mu, .ref mk, .ref mx, .long po, .long de]))]) 0 0 := by
  refine z_of (by decide) rfl (Nat.le_of_ble_eq_true rfl) (fun w0 => ?_)
  refine r_lvE (lv2 := [(0, .ref m)]) rfl ?_
  refine r_iconst d_Mm_draught_0 (v := 0) (by decide) ?_
  refine r_sipush d_Mm_draught_1 (v := 200) (by decide) ?_
  refine r_aload_n d_Mm_draught_4 rfl 0 rfl ?_
  refine r_get fs_Mm_52 d_Mm_draught_5 (q0 := 0) rfl rfl ?_
  refine r_isub d_Mm_draught_8 (v := 200 - fi) rfl ?_
  refine r_aload_n d_Mm_draught_9 rfl 0 rfl ?_
  refine r_get fs_Mm_49 d_Mm_draught_10 (q0 := 0) rfl rfl ?_
  refine r_iconst d_Mm_draught_13 (v := 2) (by decide) ?_
  refine r_idiv d_Mm_draught_14 (v := co_ / 2) (by decide) rfl ?_
  refine r_isub d_Mm_draught_15 (v := (200 - fi) - (co_ / 2)) rfl ?_
  refine r_aload_n d_Mm_draught_16 rfl 0 rfl ?_
  refine r_get fs_Mm_190 d_Mm_draught_17 (q0 := 0) rfl rfl ?_
  refine r_isub d_Mm_draught_20 (v := ((200 - fi) - (co_ / 2)) - bu) rfl ?_
  refine r_max (v := (if 0 < ((200 - fi) - (co_ / 2)) - bu then ((200 - fi) - (co_ / 2)) - bu else 0)) ln_Mm_193 w_mmax w_mi w_cmax d_Mm_draught_21 (by decide) (by decide) (Nat.le_of_ble_eq_true rfl) rfl ?_
  refine r_iret d_Mm_draught_24 rfl rfl ?_
  exact ⟨rfl, rfl⟩
abbrev M_Mm_most : zM := (⟨"IronpourModel", "most", "(I)I"⟩, prog_14_method_46_code, 1, (Option.some FieldType.int), 2, 40, [])
theorem d_Mm_most_0 : decode prog_14_method_46_code 0 = .ok (.iconst 0, 1) := zo_3 (zd_b zq_prog_14_method_46_code_0 0 rfl rfl rfl)
theorem d_Mm_most_1 : decode prog_14_method_46_code 1 = .ok (.sipush 300, 3) := zo_17 (d := 1) (e := 44) (zd_b zq_prog_14_method_46_code_0 1 rfl rfl rfl) (zd_b zq_prog_14_method_46_code_0 2 rfl rfl rfl) (zd_b zq_prog_14_method_46_code_0 3 rfl rfl rfl) (by decide +kernel)
theorem d_Mm_most_4 : decode prog_14_method_46_code 4 = .ok (.iload_n 0, 1) := zo_26 (zd_b zq_prog_14_method_46_code_0 4 rfl rfl rfl)
theorem d_Mm_most_5 : decode prog_14_method_46_code 5 = .ok (.invokestatic 182, 3) := zo_184 (d := 0) (e := 182) (zd_b zq_prog_14_method_46_code_0 5 rfl rfl rfl) (zd_b zq_prog_14_method_46_code_0 6 rfl rfl rfl) (zd_b zq_prog_14_method_46_code_0 7 rfl rfl rfl)
theorem ln_Mm_182 : Cond.methodLink "IronpourModel" 182 Lib.Math.min.name ∈ z_gw := z_mj8 (i := 97) rfl (by decide +kernel)
theorem d_Mm_most_8 : decode prog_14_method_46_code 8 = .ok (.invokestatic 193, 3) := zo_184 (d := 0) (e := 193) (zd_b zq_prog_14_method_46_code_0 8 rfl rfl rfl) (zd_b zq_prog_14_method_46_code_0 9 rfl rfl rfl) (zd_b zq_prog_14_method_46_code_0 10 rfl rfl rfl)
theorem d_Mm_most_11 : decode prog_14_method_46_code 11 = .ok (.ireturn, 1) := zo_172 (zd_b zq_prog_14_method_46_code_0 11 rfl rfl rfl)
def S_Mm_most (x : Int32) : Int32 := (if 0 < (if x < 300 then x else 300) then (if x < 300 then x else 300) else 0)
set_option maxHeartbeats 4000000 in
set_option maxRecDepth 100000 in
theorem C_Mm_most (g : zG) (x : Int32) : CT g M_Mm_most [.int x] [] (fun o cs1 => o = .inl (some (.int (S_Mm_most x))) ∧ cs1 = []) 0 0 := by
  refine z_of (by decide) rfl (Nat.le_of_ble_eq_true rfl) (fun w0 => ?_)
  refine r_lvE (lv2 := [(0, .int x)]) rfl ?_
  refine r_iconst d_Mm_most_0 (v := 0) (by decide) ?_
  refine r_sipush d_Mm_most_1 (v := 300) (by decide) ?_
  refine r_iload_n d_Mm_most_4 rfl 0 rfl ?_
  refine r_min (v := (if x < 300 then x else 300)) ln_Mm_182 w_mmin w_mi w_cmin d_Mm_most_5 (by decide) (by decide) (Nat.le_of_ble_eq_true rfl) rfl ?_
  refine r_max (v := (if 0 < (if x < 300 then x else 300) then (if x < 300 then x else 300) else 0)) ln_Mm_193 w_mmax w_mi w_cmax d_Mm_most_8 (by decide) (by decide) (Nat.le_of_ble_eq_true rfl) rfl ?_
  refine r_iret d_Mm_most_11 rfl rfl ?_
  exact ⟨rfl, rfl⟩
abbrev M_Mm_mill : zM := (⟨"IronpourModel", "mill", "(IIII)I"⟩, prog_14_method_47_code, 5, (Option.some FieldType.int), 3, 60, [])
theorem d_Mm_mill_0 : decode prog_14_method_47_code 0 = .ok (.aload_n 0, 1) := zo_42 (zd_b zq_prog_14_method_47_code_0 0 rfl rfl rfl)
theorem d_Mm_mill_1 : decode prog_14_method_47_code 1 = .ok (.iconst 0, 1) := zo_3 (zd_b zq_prog_14_method_47_code_0 1 rfl rfl rfl)
theorem d_Mm_mill_2 : decode prog_14_method_47_code 2 = .ok (.putfield 84, 3) := zo_181 (d := 0) (e := 84) (zd_b zq_prog_14_method_47_code_0 2 rfl rfl rfl) (zd_b zq_prog_14_method_47_code_0 3 rfl rfl rfl) (zd_b zq_prog_14_method_47_code_0 4 rfl rfl rfl)
theorem d_Mm_mill_5 : decode prog_14_method_47_code 5 = .ok (.aload_n 0, 1) := zo_42 (zd_b zq_prog_14_method_47_code_0 5 rfl rfl rfl)
theorem d_Mm_mill_6 : decode prog_14_method_47_code 6 = .ok (.iload_n 1, 1) := zo_27 (zd_b zq_prog_14_method_47_code_0 6 rfl rfl rfl)
theorem d_Mm_mill_7 : decode prog_14_method_47_code 7 = .ok (.iconst 0, 1) := zo_3 (zd_b zq_prog_14_method_47_code_0 7 rfl rfl rfl)
theorem d_Mm_mill_8 : decode prog_14_method_47_code 8 = .ok (.bipush 20, 2) := zo_16 (d := 20) (zd_b zq_prog_14_method_47_code_0 8 rfl rfl rfl) (zd_b zq_prog_14_method_47_code_0 9 rfl rfl rfl) (by decide +kernel)
theorem d_Mm_mill_10 : decode prog_14_method_47_code 10 = .ok (.invokestatic 87, 3) := zo_184 (d := 0) (e := 87) (zd_b zq_prog_14_method_47_code_0 10 rfl rfl rfl) (zd_b zq_prog_14_method_47_code_0 11 rfl rfl rfl) (zd_b zq_prog_14_method_47_code_0 12 rfl rfl rfl)
theorem ok_Mm_mill_Mm_in : z_ok M_Mm_mill M_Mm_in 3 := ⟨z_mj7 (i := 190) rfl (by decide +kernel), rfl, ⟨by decide +kernel, by decide +kernel, by decide +kernel⟩, ⟨by decide, by decide⟩, z_mj1 (i := 14) rfl (by decide +kernel), rfl⟩
theorem d_Mm_mill_13 : decode prog_14_method_47_code 13 = .ok (.ifCond .eq 34, 3) := zo_153 (d := 0) (e := 34) (zd_b zq_prog_14_method_47_code_0 13 rfl rfl rfl) (zd_b zq_prog_14_method_47_code_0 14 rfl rfl rfl) (zd_b zq_prog_14_method_47_code_0 15 rfl rfl rfl) (by decide +kernel)
theorem d_Mm_mill_47 : decode prog_14_method_47_code 47 = .ok (.iconst 1, 1) := zo_4 (zd_b zq_prog_14_method_47_code_1 15 rfl rfl rfl)
theorem d_Mm_mill_48 : decode prog_14_method_47_code 48 = .ok (.goto 4, 3) := zo_167 (d := 0) (e := 4) (zd_b zq_prog_14_method_47_code_1 16 rfl rfl rfl) (zd_b zq_prog_14_method_47_code_1 17 rfl rfl rfl) (zd_b zq_prog_14_method_47_code_1 18 rfl rfl rfl) (by decide +kernel)
theorem d_Mm_mill_52 : decode prog_14_method_47_code 52 = .ok (.iconst 1, 1) := zo_4 (zd_b zq_prog_14_method_47_code_1 20 rfl rfl rfl)
theorem d_Mm_mill_53 : decode prog_14_method_47_code 53 = .ok (.invokevirtual 103, 3) := zo_182 (d := 0) (e := 103) (zd_b zq_prog_14_method_47_code_1 21 rfl rfl rfl) (zd_b zq_prog_14_method_47_code_1 22 rfl rfl rfl) (zd_b zq_prog_14_method_47_code_1 23 rfl rfl rfl)
theorem ok_Mm_mill_Mm_fails : z_ok M_Mm_mill M_Mm_fails 2 := ⟨z_mj7 (i := 196) rfl (by decide +kernel), rfl, ⟨by decide +kernel, by decide +kernel, by decide +kernel⟩, ⟨by decide, by decide⟩, z_mj1 (i := 14) rfl (by decide +kernel), rfl⟩
theorem d_Mm_mill_56 : decode prog_14_method_47_code 56 = .ok (.ifCond .eq 5, 3) := zo_153 (d := 0) (e := 5) (zd_b zq_prog_14_method_47_code_1 24 rfl rfl rfl) (zd_b zq_prog_14_method_47_code_1 25 rfl rfl rfl) (zd_b zq_prog_14_method_47_code_1 26 rfl rfl rfl) (by decide +kernel)
theorem d_Mm_mill_59 : decode prog_14_method_47_code 59 = .ok (.iconst 0, 1) := zo_3 (zd_b zq_prog_14_method_47_code_1 27 rfl rfl rfl)
theorem d_Mm_mill_60 : decode prog_14_method_47_code 60 = .ok (.ireturn, 1) := zo_172 (zd_b zq_prog_14_method_47_code_1 28 rfl rfl rfl)
theorem d_Mm_mill_16 : decode prog_14_method_47_code 16 = .ok (.iload_n 2, 1) := zo_28 (zd_b zq_prog_14_method_47_code_0 16 rfl rfl rfl)
theorem d_Mm_mill_17 : decode prog_14_method_47_code 17 = .ok (.iconst 0, 1) := zo_3 (zd_b zq_prog_14_method_47_code_0 17 rfl rfl rfl)
theorem d_Mm_mill_18 : decode prog_14_method_47_code 18 = .ok (.bipush 20, 2) := zo_16 (d := 20) (zd_b zq_prog_14_method_47_code_0 18 rfl rfl rfl) (zd_b zq_prog_14_method_47_code_0 19 rfl rfl rfl) (by decide +kernel)
theorem d_Mm_mill_20 : decode prog_14_method_47_code 20 = .ok (.invokestatic 87, 3) := zo_184 (d := 0) (e := 87) (zd_b zq_prog_14_method_47_code_0 20 rfl rfl rfl) (zd_b zq_prog_14_method_47_code_0 21 rfl rfl rfl) (zd_b zq_prog_14_method_47_code_0 22 rfl rfl rfl)
theorem d_Mm_mill_23 : decode prog_14_method_47_code 23 = .ok (.ifCond .eq 24, 3) := zo_153 (d := 0) (e := 24) (zd_b zq_prog_14_method_47_code_0 23 rfl rfl rfl) (zd_b zq_prog_14_method_47_code_0 24 rfl rfl rfl) (zd_b zq_prog_14_method_47_code_0 25 rfl rfl rfl) (by decide +kernel)
theorem d_Mm_mill_26 : decode prog_14_method_47_code 26 = .ok (.iload_n 3, 1) := zo_29 (zd_b zq_prog_14_method_47_code_0 26 rfl rfl rfl)
theorem d_Mm_mill_27 : decode prog_14_method_47_code 27 = .ok (.iconst 0, 1) := zo_3 (zd_b zq_prog_14_method_47_code_0 27 rfl rfl rfl)
theorem d_Mm_mill_28 : decode prog_14_method_47_code 28 = .ok (.bipush 20, 2) := zo_16 (d := 20) (zd_b zq_prog_14_method_47_code_0 28 rfl rfl rfl) (zd_b zq_prog_14_method_47_code_0 29 rfl rfl rfl) (by decide +kernel)
theorem d_Mm_mill_30 : decode prog_14_method_47_code 30 = .ok (.invokestatic 87, 3) := zo_184 (d := 0) (e := 87) (zd_b zq_prog_14_method_47_code_0 30 rfl rfl rfl) (zd_b zq_prog_14_method_47_code_0 31 rfl rfl rfl) (zd_b zq_prog_14_method_47_code_1 0 rfl rfl rfl)
theorem d_Mm_mill_33 : decode prog_14_method_47_code 33 = .ok (.ifCond .eq 14, 3) := zo_153 (d := 0) (e := 14) (zd_b zq_prog_14_method_47_code_1 1 rfl rfl rfl) (zd_b zq_prog_14_method_47_code_1 2 rfl rfl rfl) (zd_b zq_prog_14_method_47_code_1 3 rfl rfl rfl) (by decide +kernel)
theorem d_Mm_mill_36 : decode prog_14_method_47_code 36 = .ok (.iload 4, 2) := zo_21 (d := 4) (zd_b zq_prog_14_method_47_code_1 4 rfl rfl rfl) (zd_b zq_prog_14_method_47_code_1 5 rfl rfl rfl)
theorem d_Mm_mill_38 : decode prog_14_method_47_code 38 = .ok (.iconst 0, 1) := zo_3 (zd_b zq_prog_14_method_47_code_1 6 rfl rfl rfl)
theorem d_Mm_mill_39 : decode prog_14_method_47_code 39 = .ok (.bipush 50, 2) := zo_16 (d := 50) (zd_b zq_prog_14_method_47_code_1 7 rfl rfl rfl) (zd_b zq_prog_14_method_47_code_1 8 rfl rfl rfl) (by decide +kernel)
theorem d_Mm_mill_41 : decode prog_14_method_47_code 41 = .ok (.invokestatic 87, 3) := zo_184 (d := 0) (e := 87) (zd_b zq_prog_14_method_47_code_1 9 rfl rfl rfl) (zd_b zq_prog_14_method_47_code_1 10 rfl rfl rfl) (zd_b zq_prog_14_method_47_code_1 11 rfl rfl rfl)
theorem d_Mm_mill_44 : decode prog_14_method_47_code 44 = .ok (.ifCond .ne 7, 3) := zo_154 (d := 0) (e := 7) (zd_b zq_prog_14_method_47_code_1 12 rfl rfl rfl) (zd_b zq_prog_14_method_47_code_1 13 rfl rfl rfl) (zd_b zq_prog_14_method_47_code_1 14 rfl rfl rfl) (by decide +kernel)
set_option maxHeartbeats 4000000 in
set_option maxRecDepth 100000 in
theorem C_Mm_millE (g : zG) (m mp mf mh mn mt mz mc_ mq mgr ml mi mr mm mu mk mx : Nat) (th pt cl wa co_ fi bu ho lh mg wd fpi fal : Int32) (po de : Int64) (m1 m2 m3 m4 : Int32) (hw : ¬ ((0 ≤ m1 ∧ m1 ≤ 20) ∧ (0 ≤ m2 ∧ m2 ≤ 20) ∧ (0 ≤ m3 ∧ m3 ≤ 20) ∧ (0 ≤ m4 ∧ m4 ≤ 50))) : CT g M_Mm_mill [.ref m, .int m1, .int m2, .int m3, .int m4] [(m, .inr (12, [.int th, .ref mp, .int pt, .ref mf, .ref mh, .ref mn, .ref mt, .ref mz, .ref mc_, .ref mq, .ref mgr, .int cl, .int wa, .int co_, .int fi, .int bu, .int ho, .ref ml, .ref mi, .ref mr, .int lh, .int mg, .int wd, .int fpi, .int fal, .ref mm, .ref mu, .ref mk, .ref mx, .long po, .long de]))] (fun o cs1 => o = .inl (some (.int 0)) ∧ cs1 = [(m, .inr (12, [.int 1, .ref mp, .int pt, .ref mf, .ref mh, .ref mn, .ref mt, .ref mz, .ref mc_, .ref mq, .ref mgr, .int cl, .int wa, .int co_, .int fi, .int bu, .int ho, .ref ml, .ref mi, .ref mr, .int lh, .int mg, .int wd, .int fpi, .int fal, .ref mm, .ref mu, .ref mk, .ref mx, .long po, .long de]))]) 0 0 := by
  refine z_of (by decide) rfl (Nat.le_of_ble_eq_true rfl) (fun w0 => ?_)
  refine r_lvE (lv2 := [(0, .ref m), (1, .int m1), (2, .int m2), (3, .int m3), (4, .int m4)]) rfl ?_
  refine r_aload_n d_Mm_mill_0 rfl 0 rfl ?_
  refine r_iconst d_Mm_mill_1 (v := 0) (by decide) ?_
  refine r_put fp_Mm_84 d_Mm_mill_2 (fun h => nomatch h) rfl rfl (q0 := 0) rfl (Nat.le_of_ble_eq_true rfl) (cs' := [(m, .inr (12, [.int 0, .ref mp, .int pt, .ref mf, .ref mh, .ref mn, .ref mt, .ref mz, .ref mc_, .ref mq, .ref mgr, .int cl, .int wa, .int co_, .int fi, .int bu, .int ho, .ref ml, .ref mi, .ref mr, .int lh, .int mg, .int wd, .int fpi, .int fal, .ref mm, .ref mu, .ref mk, .ref mx, .long po, .long de]))]) rfl ?_
  refine r_aload_n d_Mm_mill_5 rfl 0 rfl ?_
  refine r_iload_n d_Mm_mill_6 rfl 1 rfl ?_
  refine r_iconst d_Mm_mill_7 (v := 0) (by decide) ?_
  refine r_bipush d_Mm_mill_8 (v := 20) (by decide) ?_
  refine r_callS (As := [.int m1, .int 0, .int 20]) (rest := [.ref m]) (csC := []) (is := []) ln_Mm_87 w_st_Mm_in ok_Mm_mill_Mm_in d_Mm_mill_10 (C_Mm_in g m1 0 20) rfl rfl (Nat.le_of_ble_eq_true rfl) rfl (by decide) (by omega) (by omega) (fun E cs1 hx => ?_) (fun v cs1 hx => ?_)
  · exact absurd hx.1 (by simp)
  · obtain ⟨e1, rfl⟩ := hx
    cases e1
    refine ⟨rfl, ?_⟩
    refine r_st (st2 := [.int (if 0 ≤ m1 ∧ m1 ≤ 20 then 1 else 0), .ref m]) rfl ?_
    refine r_cs (cs2 := [(m, .inr (12, [.int 0, .ref mp, .int pt, .ref mf, .ref mh, .ref mn, .ref mt, .ref mz, .ref mc_, .ref mq, .ref mgr, .int cl, .int wa, .int co_, .int fi, .int bu, .int ho, .ref ml, .ref mi, .ref mr, .int lh, .int mg, .int wd, .int fpi, .int fal, .ref mm, .ref mu, .ref mk, .ref mx, .long po, .long de]))]) rfl ?_
    refine r_if_eq (tgt := 47) d_Mm_mill_13 (by decide) (fun c_13 => ?_) (fun c_13 => ?_)
    · refine r_iconst d_Mm_mill_47 (v := 1) (by decide) ?_
      refine r_goto (tgt := 52) d_Mm_mill_48 (by decide) ?_
      refine r_iconst d_Mm_mill_52 (v := 1) (by decide) ?_
      refine r_callV (As := [.int 1, .int 1]) (rest := []) (csC := [(m, .inr (12, [.int 0, .ref mp, .int pt, .ref mf, .ref mh, .ref mn, .ref mt, .ref mz, .ref mc_, .ref mq, .ref mgr, .int cl, .int wa, .int co_, .int fi, .int bu, .int ho, .ref ml, .ref mi, .ref mr, .int lh, .int mg, .int wd, .int fpi, .int fal, .ref mm, .ref mu, .ref mk, .ref mx, .long po, .long de]))]) (is := [0]) (q0 := 0) rfl rfl ln_Mm_103 w_im_Mm_fails w_se_Mm_fails ok_Mm_mill_Mm_fails d_Mm_mill_53 (C_Mm_fails1 g m mp mf mh mn mt mz mc_ mq mgr ml mi mr mm mu mk mx th pt cl wa co_ fi bu ho lh mg wd fpi fal po de) rfl rfl (Nat.le_of_ble_eq_true rfl) rfl (by decide) (by omega) (by omega) (fun E cs1 hx => ?_) (fun v cs1 hx => ?_)
      · exact absurd hx.1 (by simp)
      · obtain ⟨e1, rfl⟩ := hx
        cases e1
        refine ⟨rfl, ?_⟩
        refine r_st (st2 := [.int 1]) rfl ?_
        refine r_cs (cs2 := [(m, .inr (12, [.int 1, .ref mp, .int pt, .ref mf, .ref mh, .ref mn, .ref mt, .ref mz, .ref mc_, .ref mq, .ref mgr, .int cl, .int wa, .int co_, .int fi, .int bu, .int ho, .ref ml, .ref mi, .ref mr, .int lh, .int mg, .int wd, .int fpi, .int fal, .ref mm, .ref mu, .ref mk, .ref mx, .long po, .long de]))]) rfl ?_
        refine r_if_eq (tgt := 61) d_Mm_mill_56 (by decide) (fun c_56 => ?_) (fun c_56 => ?_)
        · exact absurd c_56 (by decide)
        · refine r_iconst d_Mm_mill_59 (v := 0) (by decide) ?_
          refine r_iret d_Mm_mill_60 rfl rfl ?_
          exact ⟨rfl, rfl⟩
    · refine r_iload_n d_Mm_mill_16 rfl 2 rfl ?_
      refine r_iconst d_Mm_mill_17 (v := 0) (by decide) ?_
      refine r_bipush d_Mm_mill_18 (v := 20) (by decide) ?_
      refine r_callS (As := [.int m2, .int 0, .int 20]) (rest := [.ref m]) (csC := []) (is := []) ln_Mm_87 w_st_Mm_in ok_Mm_mill_Mm_in d_Mm_mill_20 (C_Mm_in g m2 0 20) rfl rfl (Nat.le_of_ble_eq_true rfl) rfl (by decide) (by omega) (by omega) (fun E cs1 hx => ?_) (fun v cs1 hx => ?_)
      · exact absurd hx.1 (by simp)
      · obtain ⟨e1, rfl⟩ := hx
        cases e1
        refine ⟨rfl, ?_⟩
        refine r_st (st2 := [.int (if 0 ≤ m2 ∧ m2 ≤ 20 then 1 else 0), .ref m]) rfl ?_
        refine r_cs (cs2 := [(m, .inr (12, [.int 0, .ref mp, .int pt, .ref mf, .ref mh, .ref mn, .ref mt, .ref mz, .ref mc_, .ref mq, .ref mgr, .int cl, .int wa, .int co_, .int fi, .int bu, .int ho, .ref ml, .ref mi, .ref mr, .int lh, .int mg, .int wd, .int fpi, .int fal, .ref mm, .ref mu, .ref mk, .ref mx, .long po, .long de]))]) rfl ?_
        refine r_if_eq (tgt := 47) d_Mm_mill_23 (by decide) (fun c_23 => ?_) (fun c_23 => ?_)
        · refine r_iconst d_Mm_mill_47 (v := 1) (by decide) ?_
          refine r_goto (tgt := 52) d_Mm_mill_48 (by decide) ?_
          refine r_iconst d_Mm_mill_52 (v := 1) (by decide) ?_
          refine r_callV (As := [.int 1, .int 1]) (rest := []) (csC := [(m, .inr (12, [.int 0, .ref mp, .int pt, .ref mf, .ref mh, .ref mn, .ref mt, .ref mz, .ref mc_, .ref mq, .ref mgr, .int cl, .int wa, .int co_, .int fi, .int bu, .int ho, .ref ml, .ref mi, .ref mr, .int lh, .int mg, .int wd, .int fpi, .int fal, .ref mm, .ref mu, .ref mk, .ref mx, .long po, .long de]))]) (is := [0]) (q0 := 0) rfl rfl ln_Mm_103 w_im_Mm_fails w_se_Mm_fails ok_Mm_mill_Mm_fails d_Mm_mill_53 (C_Mm_fails1 g m mp mf mh mn mt mz mc_ mq mgr ml mi mr mm mu mk mx th pt cl wa co_ fi bu ho lh mg wd fpi fal po de) rfl rfl (Nat.le_of_ble_eq_true rfl) rfl (by decide) (by omega) (by omega) (fun E cs1 hx => ?_) (fun v cs1 hx => ?_)
          · exact absurd hx.1 (by simp)
          · obtain ⟨e1, rfl⟩ := hx
            cases e1
            refine ⟨rfl, ?_⟩
            refine r_st (st2 := [.int 1]) rfl ?_
            refine r_cs (cs2 := [(m, .inr (12, [.int 1, .ref mp, .int pt, .ref mf, .ref mh, .ref mn, .ref mt, .ref mz, .ref mc_, .ref mq, .ref mgr, .int cl, .int wa, .int co_, .int fi, .int bu, .int ho, .ref ml, .ref mi, .ref mr, .int lh, .int mg, .int wd, .int fpi, .int fal, .ref mm, .ref mu, .ref mk, .ref mx, .long po, .long de]))]) rfl ?_
            refine r_if_eq (tgt := 61) d_Mm_mill_56 (by decide) (fun c_56 => ?_) (fun c_56 => ?_)
            · exact absurd c_56 (by decide)
            · refine r_iconst d_Mm_mill_59 (v := 0) (by decide) ?_
              refine r_iret d_Mm_mill_60 rfl rfl ?_
              exact ⟨rfl, rfl⟩
        · refine r_iload_n d_Mm_mill_26 rfl 3 rfl ?_
          refine r_iconst d_Mm_mill_27 (v := 0) (by decide) ?_
          refine r_bipush d_Mm_mill_28 (v := 20) (by decide) ?_
          refine r_callS (As := [.int m3, .int 0, .int 20]) (rest := [.ref m]) (csC := []) (is := []) ln_Mm_87 w_st_Mm_in ok_Mm_mill_Mm_in d_Mm_mill_30 (C_Mm_in g m3 0 20) rfl rfl (Nat.le_of_ble_eq_true rfl) rfl (by decide) (by omega) (by omega) (fun E cs1 hx => ?_) (fun v cs1 hx => ?_)
          · exact absurd hx.1 (by simp)
          · obtain ⟨e1, rfl⟩ := hx
            cases e1
            refine ⟨rfl, ?_⟩
            refine r_st (st2 := [.int (if 0 ≤ m3 ∧ m3 ≤ 20 then 1 else 0), .ref m]) rfl ?_
            refine r_cs (cs2 := [(m, .inr (12, [.int 0, .ref mp, .int pt, .ref mf, .ref mh, .ref mn, .ref mt, .ref mz, .ref mc_, .ref mq, .ref mgr, .int cl, .int wa, .int co_, .int fi, .int bu, .int ho, .ref ml, .ref mi, .ref mr, .int lh, .int mg, .int wd, .int fpi, .int fal, .ref mm, .ref mu, .ref mk, .ref mx, .long po, .long de]))]) rfl ?_
            refine r_if_eq (tgt := 47) d_Mm_mill_33 (by decide) (fun c_33 => ?_) (fun c_33 => ?_)
            · refine r_iconst d_Mm_mill_47 (v := 1) (by decide) ?_
              refine r_goto (tgt := 52) d_Mm_mill_48 (by decide) ?_
              refine r_iconst d_Mm_mill_52 (v := 1) (by decide) ?_
              refine r_callV (As := [.int 1, .int 1]) (rest := []) (csC := [(m, .inr (12, [.int 0, .ref mp, .int pt, .ref mf, .ref mh, .ref mn, .ref mt, .ref mz, .ref mc_, .ref mq, .ref mgr, .int cl, .int wa, .int co_, .int fi, .int bu, .int ho, .ref ml, .ref mi, .ref mr, .int lh, .int mg, .int wd, .int fpi, .int fal, .ref mm, .ref mu, .ref mk, .ref mx, .long po, .long de]))]) (is := [0]) (q0 := 0) rfl rfl ln_Mm_103 w_im_Mm_fails w_se_Mm_fails ok_Mm_mill_Mm_fails d_Mm_mill_53 (C_Mm_fails1 g m mp mf mh mn mt mz mc_ mq mgr ml mi mr mm mu mk mx th pt cl wa co_ fi bu ho lh mg wd fpi fal po de) rfl rfl (Nat.le_of_ble_eq_true rfl) rfl (by decide) (by omega) (by omega) (fun E cs1 hx => ?_) (fun v cs1 hx => ?_)
              · exact absurd hx.1 (by simp)
              · obtain ⟨e1, rfl⟩ := hx
                cases e1
                refine ⟨rfl, ?_⟩
                refine r_st (st2 := [.int 1]) rfl ?_
                refine r_cs (cs2 := [(m, .inr (12, [.int 1, .ref mp, .int pt, .ref mf, .ref mh, .ref mn, .ref mt, .ref mz, .ref mc_, .ref mq, .ref mgr, .int cl, .int wa, .int co_, .int fi, .int bu, .int ho, .ref ml, .ref mi, .ref mr, .int lh, .int mg, .int wd, .int fpi, .int fal, .ref mm, .ref mu, .ref mk, .ref mx, .long po, .long de]))]) rfl ?_
                refine r_if_eq (tgt := 61) d_Mm_mill_56 (by decide) (fun c_56 => ?_) (fun c_56 => ?_)
                · exact absurd c_56 (by decide)
                · refine r_iconst d_Mm_mill_59 (v := 0) (by decide) ?_
                  refine r_iret d_Mm_mill_60 rfl rfl ?_
                  exact ⟨rfl, rfl⟩
            · refine r_iload d_Mm_mill_36 4 rfl ?_
              refine r_iconst d_Mm_mill_38 (v := 0) (by decide) ?_
              refine r_bipush d_Mm_mill_39 (v := 50) (by decide) ?_
              refine r_callS (As := [.int m4, .int 0, .int 50]) (rest := [.ref m]) (csC := []) (is := []) ln_Mm_87 w_st_Mm_in ok_Mm_mill_Mm_in d_Mm_mill_41 (C_Mm_in g m4 0 50) rfl rfl (Nat.le_of_ble_eq_true rfl) rfl (by decide) (by omega) (by omega) (fun E cs1 hx => ?_) (fun v cs1 hx => ?_)
              · exact absurd hx.1 (by simp)
              · obtain ⟨e1, rfl⟩ := hx
                cases e1
                refine ⟨rfl, ?_⟩
                refine r_st (st2 := [.int (if 0 ≤ m4 ∧ m4 ≤ 50 then 1 else 0), .ref m]) rfl ?_
                refine r_cs (cs2 := [(m, .inr (12, [.int 0, .ref mp, .int pt, .ref mf, .ref mh, .ref mn, .ref mt, .ref mz, .ref mc_, .ref mq, .ref mgr, .int cl, .int wa, .int co_, .int fi, .int bu, .int ho, .ref ml, .ref mi, .ref mr, .int lh, .int mg, .int wd, .int fpi, .int fal, .ref mm, .ref mu, .ref mk, .ref mx, .long po, .long de]))]) rfl ?_
                refine r_if_ne (tgt := 51) d_Mm_mill_44 (by decide) (fun c_44 => ?_) (fun c_44 => ?_)
                · exact absurd ⟨z_b1 c_13, z_b1 c_23, z_b1 c_33, z_b1 c_44⟩ hw
                · refine r_iconst d_Mm_mill_47 (v := 1) (by decide) ?_
                  refine r_goto (tgt := 52) d_Mm_mill_48 (by decide) ?_
                  refine r_iconst d_Mm_mill_52 (v := 1) (by decide) ?_
                  refine r_callV (As := [.int 1, .int 1]) (rest := []) (csC := [(m, .inr (12, [.int 0, .ref mp, .int pt, .ref mf, .ref mh, .ref mn, .ref mt, .ref mz, .ref mc_, .ref mq, .ref mgr, .int cl, .int wa, .int co_, .int fi, .int bu, .int ho, .ref ml, .ref mi, .ref mr, .int lh, .int mg, .int wd, .int fpi, .int fal, .ref mm, .ref mu, .ref mk, .ref mx, .long po, .long de]))]) (is := [0]) (q0 := 0) rfl rfl ln_Mm_103 w_im_Mm_fails w_se_Mm_fails ok_Mm_mill_Mm_fails d_Mm_mill_53 (C_Mm_fails1 g m mp mf mh mn mt mz mc_ mq mgr ml mi mr mm mu mk mx th pt cl wa co_ fi bu ho lh mg wd fpi fal po de) rfl rfl (Nat.le_of_ble_eq_true rfl) rfl (by decide) (by omega) (by omega) (fun E cs1 hx => ?_) (fun v cs1 hx => ?_)
                  · exact absurd hx.1 (by simp)
                  · obtain ⟨e1, rfl⟩ := hx
                    cases e1
                    refine ⟨rfl, ?_⟩
                    refine r_st (st2 := [.int 1]) rfl ?_
                    refine r_cs (cs2 := [(m, .inr (12, [.int 1, .ref mp, .int pt, .ref mf, .ref mh, .ref mn, .ref mt, .ref mz, .ref mc_, .ref mq, .ref mgr, .int cl, .int wa, .int co_, .int fi, .int bu, .int ho, .ref ml, .ref mi, .ref mr, .int lh, .int mg, .int wd, .int fpi, .int fal, .ref mm, .ref mu, .ref mk, .ref mx, .long po, .long de]))]) rfl ?_
                    refine r_if_eq (tgt := 61) d_Mm_mill_56 (by decide) (fun c_56 => ?_) (fun c_56 => ?_)
                    · exact absurd c_56 (by decide)
                    · refine r_iconst d_Mm_mill_59 (v := 0) (by decide) ?_
                      refine r_iret d_Mm_mill_60 rfl rfl ?_
                      exact ⟨rfl, rfl⟩
theorem d_Mm_mill_51 : decode prog_14_method_47_code 51 = .ok (.iconst 0, 1) := zo_3 (zd_b zq_prog_14_method_47_code_1 19 rfl rfl rfl)
theorem d_Mm_mill_61 : decode prog_14_method_47_code 61 = .ok (.aload_n 0, 1) := zo_42 (zd_b zq_prog_14_method_47_code_1 29 rfl rfl rfl)
theorem d_Mm_mill_62 : decode prog_14_method_47_code 62 = .ok (.dup, 1) := zo_89 (zd_b zq_prog_14_method_47_code_1 30 rfl rfl rfl)
theorem d_Mm_mill_63 : decode prog_14_method_47_code 63 = .ok (.getfield 52, 3) := zo_180 (d := 0) (e := 52) (zd_b zq_prog_14_method_47_code_1 31 rfl rfl rfl) (zd_b zq_prog_14_method_47_code_2 0 rfl rfl rfl) (zd_b zq_prog_14_method_47_code_2 1 rfl rfl rfl)
theorem d_Mm_mill_66 : decode prog_14_method_47_code 66 = .ok (.aload_n 0, 1) := zo_42 (zd_b zq_prog_14_method_47_code_2 2 rfl rfl rfl)
theorem d_Mm_mill_67 : decode prog_14_method_47_code 67 = .ok (.getfield 52, 3) := zo_180 (d := 0) (e := 52) (zd_b zq_prog_14_method_47_code_2 3 rfl rfl rfl) (zd_b zq_prog_14_method_47_code_2 4 rfl rfl rfl) (zd_b zq_prog_14_method_47_code_2 5 rfl rfl rfl)
theorem d_Mm_mill_70 : decode prog_14_method_47_code 70 = .ok (.iload 4, 2) := zo_21 (d := 4) (zd_b zq_prog_14_method_47_code_2 6 rfl rfl rfl) (zd_b zq_prog_14_method_47_code_2 7 rfl rfl rfl)
theorem d_Mm_mill_72 : decode prog_14_method_47_code 72 = .ok (.imul, 1) := zo_104 (zd_b zq_prog_14_method_47_code_2 8 rfl rfl rfl)
theorem d_Mm_mill_73 : decode prog_14_method_47_code 73 = .ok (.bipush 100, 2) := zo_16 (d := 100) (zd_b zq_prog_14_method_47_code_2 9 rfl rfl rfl) (zd_b zq_prog_14_method_47_code_2 10 rfl rfl rfl) (by decide +kernel)
theorem d_Mm_mill_75 : decode prog_14_method_47_code 75 = .ok (.idiv, 1) := zo_108 (zd_b zq_prog_14_method_47_code_2 11 rfl rfl rfl)
theorem d_Mm_mill_76 : decode prog_14_method_47_code 76 = .ok (.isub, 1) := zo_100 (zd_b zq_prog_14_method_47_code_2 12 rfl rfl rfl)
theorem d_Mm_mill_77 : decode prog_14_method_47_code 77 = .ok (.putfield 52, 3) := zo_181 (d := 0) (e := 52) (zd_b zq_prog_14_method_47_code_2 13 rfl rfl rfl) (zd_b zq_prog_14_method_47_code_2 14 rfl rfl rfl) (zd_b zq_prog_14_method_47_code_2 15 rfl rfl rfl)
theorem fp_Mm_52 : z_fp "IronpourModel" 52 12 14 false .int := ⟨R_Mm, "IronpourModel", F_Mm, 31, t_Mm, rfl, u_Mm, by decide, t_Mm_ok, n_Mm, rfl, rfl, Or.inl ⟨z_mj7 (i := 97) rfl (by decide +kernel), Or.inl rfl, fun h => nomatch h⟩⟩
theorem d_Mm_mill_80 : decode prog_14_method_47_code 80 = .ok (.aload_n 0, 1) := zo_42 (zd_b zq_prog_14_method_47_code_2 16 rfl rfl rfl)
theorem d_Mm_mill_81 : decode prog_14_method_47_code 81 = .ok (.dup, 1) := zo_89 (zd_b zq_prog_14_method_47_code_2 17 rfl rfl rfl)
theorem d_Mm_mill_82 : decode prog_14_method_47_code 82 = .ok (.getfield 190, 3) := zo_180 (d := 0) (e := 190) (zd_b zq_prog_14_method_47_code_2 18 rfl rfl rfl) (zd_b zq_prog_14_method_47_code_2 19 rfl rfl rfl) (zd_b zq_prog_14_method_47_code_2 20 rfl rfl rfl)
theorem d_Mm_mill_85 : decode prog_14_method_47_code 85 = .ok (.aload_n 0, 1) := zo_42 (zd_b zq_prog_14_method_47_code_2 21 rfl rfl rfl)
theorem d_Mm_mill_86 : decode prog_14_method_47_code 86 = .ok (.getfield 190, 3) := zo_180 (d := 0) (e := 190) (zd_b zq_prog_14_method_47_code_2 22 rfl rfl rfl) (zd_b zq_prog_14_method_47_code_2 23 rfl rfl rfl) (zd_b zq_prog_14_method_47_code_2 24 rfl rfl rfl)
theorem d_Mm_mill_89 : decode prog_14_method_47_code 89 = .ok (.iload 4, 2) := zo_21 (d := 4) (zd_b zq_prog_14_method_47_code_2 25 rfl rfl rfl) (zd_b zq_prog_14_method_47_code_2 26 rfl rfl rfl)
theorem d_Mm_mill_91 : decode prog_14_method_47_code 91 = .ok (.imul, 1) := zo_104 (zd_b zq_prog_14_method_47_code_2 27 rfl rfl rfl)
theorem d_Mm_mill_92 : decode prog_14_method_47_code 92 = .ok (.bipush 100, 2) := zo_16 (d := 100) (zd_b zq_prog_14_method_47_code_2 28 rfl rfl rfl) (zd_b zq_prog_14_method_47_code_2 29 rfl rfl rfl) (by decide +kernel)
theorem d_Mm_mill_94 : decode prog_14_method_47_code 94 = .ok (.idiv, 1) := zo_108 (zd_b zq_prog_14_method_47_code_2 30 rfl rfl rfl)
theorem d_Mm_mill_95 : decode prog_14_method_47_code 95 = .ok (.isub, 1) := zo_100 (zd_b zq_prog_14_method_47_code_2 31 rfl rfl rfl)
theorem d_Mm_mill_96 : decode prog_14_method_47_code 96 = .ok (.putfield 190, 3) := zo_181 (d := 0) (e := 190) (zd_b zq_prog_14_method_47_code_3 0 rfl rfl rfl) (zd_b zq_prog_14_method_47_code_3 1 rfl rfl rfl) (zd_b zq_prog_14_method_47_code_3 2 rfl rfl rfl)
theorem fp_Mm_190 : z_fp "IronpourModel" 190 12 15 false .int := ⟨R_Mm, "IronpourModel", F_Mm, 31, t_Mm, rfl, u_Mm, by decide, t_Mm_ok, n_Mm, rfl, rfl, Or.inl ⟨z_mj7 (i := 98) rfl (by decide +kernel), Or.inl rfl, fun h => nomatch h⟩⟩
theorem d_Mm_mill_99 : decode prog_14_method_47_code 99 = .ok (.aload_n 0, 1) := zo_42 (zd_b zq_prog_14_method_47_code_3 3 rfl rfl rfl)
theorem d_Mm_mill_100 : decode prog_14_method_47_code 100 = .ok (.aload_n 0, 1) := zo_42 (zd_b zq_prog_14_method_47_code_3 4 rfl rfl rfl)
theorem d_Mm_mill_101 : decode prog_14_method_47_code 101 = .ok (.getfield 43, 3) := zo_180 (d := 0) (e := 43) (zd_b zq_prog_14_method_47_code_3 5 rfl rfl rfl) (zd_b zq_prog_14_method_47_code_3 6 rfl rfl rfl) (zd_b zq_prog_14_method_47_code_3 7 rfl rfl rfl)
theorem d_Mm_mill_104 : decode prog_14_method_47_code 104 = .ok (.iload_n 1, 1) := zo_27 (zd_b zq_prog_14_method_47_code_3 8 rfl rfl rfl)
theorem d_Mm_mill_105 : decode prog_14_method_47_code 105 = .ok (.iadd, 1) := zo_96 (zd_b zq_prog_14_method_47_code_3 9 rfl rfl rfl)
theorem d_Mm_mill_106 : decode prog_14_method_47_code 106 = .ok (.invokestatic 196, 3) := zo_184 (d := 0) (e := 196) (zd_b zq_prog_14_method_47_code_3 10 rfl rfl rfl) (zd_b zq_prog_14_method_47_code_3 11 rfl rfl rfl) (zd_b zq_prog_14_method_47_code_3 12 rfl rfl rfl)
theorem ok_Mm_mill_Mm_most : z_ok M_Mm_mill M_Mm_most 1 := ⟨z_mj8 (i := 104) rfl (by decide +kernel), rfl, ⟨by decide +kernel, by decide +kernel, by decide +kernel⟩, ⟨by decide, by decide⟩, z_mj1 (i := 14) rfl (by decide +kernel), rfl⟩
theorem ln_Mm_196 : Cond.methodLink "IronpourModel" 196 M_Mm_most.1 ∈ z_gw := z_mj8 (i := 102) rfl (by decide +kernel)
theorem w_st_Mm_most : Cond.static M_Mm_most.1 ∈ z_gw := z_mj8 (i := 103) rfl (by decide +kernel)
theorem d_Mm_mill_109 : decode prog_14_method_47_code 109 = .ok (.putfield 43, 3) := zo_181 (d := 0) (e := 43) (zd_b zq_prog_14_method_47_code_3 13 rfl rfl rfl) (zd_b zq_prog_14_method_47_code_3 14 rfl rfl rfl) (zd_b zq_prog_14_method_47_code_3 15 rfl rfl rfl)
theorem fp_Mm_43 : z_fp "IronpourModel" 43 12 11 false .int := ⟨R_Mm, "IronpourModel", F_Mm, 31, t_Mm, rfl, u_Mm, by decide, t_Mm_ok, n_Mm, rfl, rfl, Or.inl ⟨z_mj7 (i := 94) rfl (by decide +kernel), Or.inl rfl, fun h => nomatch h⟩⟩
theorem d_Mm_mill_112 : decode prog_14_method_47_code 112 = .ok (.aload_n 0, 1) := zo_42 (zd_b zq_prog_14_method_47_code_3 16 rfl rfl rfl)
theorem d_Mm_mill_113 : decode prog_14_method_47_code 113 = .ok (.aload_n 0, 1) := zo_42 (zd_b zq_prog_14_method_47_code_3 17 rfl rfl rfl)
theorem d_Mm_mill_114 : decode prog_14_method_47_code 114 = .ok (.getfield 46, 3) := zo_180 (d := 0) (e := 46) (zd_b zq_prog_14_method_47_code_3 18 rfl rfl rfl) (zd_b zq_prog_14_method_47_code_3 19 rfl rfl rfl) (zd_b zq_prog_14_method_47_code_3 20 rfl rfl rfl)
theorem d_Mm_mill_117 : decode prog_14_method_47_code 117 = .ok (.iload_n 2, 1) := zo_28 (zd_b zq_prog_14_method_47_code_3 21 rfl rfl rfl)
theorem d_Mm_mill_118 : decode prog_14_method_47_code 118 = .ok (.iadd, 1) := zo_96 (zd_b zq_prog_14_method_47_code_3 22 rfl rfl rfl)
theorem d_Mm_mill_119 : decode prog_14_method_47_code 119 = .ok (.invokestatic 196, 3) := zo_184 (d := 0) (e := 196) (zd_b zq_prog_14_method_47_code_3 23 rfl rfl rfl) (zd_b zq_prog_14_method_47_code_3 24 rfl rfl rfl) (zd_b zq_prog_14_method_47_code_3 25 rfl rfl rfl)
theorem d_Mm_mill_122 : decode prog_14_method_47_code 122 = .ok (.putfield 46, 3) := zo_181 (d := 0) (e := 46) (zd_b zq_prog_14_method_47_code_3 26 rfl rfl rfl) (zd_b zq_prog_14_method_47_code_3 27 rfl rfl rfl) (zd_b zq_prog_14_method_47_code_3 28 rfl rfl rfl)
theorem fp_Mm_46 : z_fp "IronpourModel" 46 12 12 false .int := ⟨R_Mm, "IronpourModel", F_Mm, 31, t_Mm, rfl, u_Mm, by decide, t_Mm_ok, n_Mm, rfl, rfl, Or.inl ⟨z_mj7 (i := 95) rfl (by decide +kernel), Or.inl rfl, fun h => nomatch h⟩⟩
theorem d_Mm_mill_125 : decode prog_14_method_47_code 125 = .ok (.aload_n 0, 1) := zo_42 (zd_b zq_prog_14_method_47_code_3 29 rfl rfl rfl)
theorem d_Mm_mill_126 : decode prog_14_method_47_code 126 = .ok (.aload_n 0, 1) := zo_42 (zd_b zq_prog_14_method_47_code_3 30 rfl rfl rfl)
theorem d_Mm_mill_127 : decode prog_14_method_47_code 127 = .ok (.getfield 49, 3) := zo_180 (d := 0) (e := 49) (zd_b zq_prog_14_method_47_code_3 31 rfl rfl rfl) (zd_b zq_prog_14_method_47_code_4 0 rfl rfl rfl) (zd_b zq_prog_14_method_47_code_4 1 rfl rfl rfl)
theorem d_Mm_mill_130 : decode prog_14_method_47_code 130 = .ok (.iload_n 3, 1) := zo_29 (zd_b zq_prog_14_method_47_code_4 2 rfl rfl rfl)
theorem d_Mm_mill_131 : decode prog_14_method_47_code 131 = .ok (.iadd, 1) := zo_96 (zd_b zq_prog_14_method_47_code_4 3 rfl rfl rfl)
theorem d_Mm_mill_132 : decode prog_14_method_47_code 132 = .ok (.invokestatic 196, 3) := zo_184 (d := 0) (e := 196) (zd_b zq_prog_14_method_47_code_4 4 rfl rfl rfl) (zd_b zq_prog_14_method_47_code_4 5 rfl rfl rfl) (zd_b zq_prog_14_method_47_code_4 6 rfl rfl rfl)
theorem d_Mm_mill_135 : decode prog_14_method_47_code 135 = .ok (.putfield 49, 3) := zo_181 (d := 0) (e := 49) (zd_b zq_prog_14_method_47_code_4 7 rfl rfl rfl) (zd_b zq_prog_14_method_47_code_4 8 rfl rfl rfl) (zd_b zq_prog_14_method_47_code_4 9 rfl rfl rfl)
theorem fp_Mm_49 : z_fp "IronpourModel" 49 12 13 false .int := ⟨R_Mm, "IronpourModel", F_Mm, 31, t_Mm, rfl, u_Mm, by decide, t_Mm_ok, n_Mm, rfl, rfl, Or.inl ⟨z_mj7 (i := 96) rfl (by decide +kernel), Or.inl rfl, fun h => nomatch h⟩⟩
theorem d_Mm_mill_138 : decode prog_14_method_47_code 138 = .ok (.aload_n 0, 1) := zo_42 (zd_b zq_prog_14_method_47_code_4 10 rfl rfl rfl)
theorem d_Mm_mill_139 : decode prog_14_method_47_code 139 = .ok (.invokevirtual 199, 3) := zo_182 (d := 0) (e := 199) (zd_b zq_prog_14_method_47_code_4 11 rfl rfl rfl) (zd_b zq_prog_14_method_47_code_4 12 rfl rfl rfl) (zd_b zq_prog_14_method_47_code_4 13 rfl rfl rfl)
theorem ok_Mm_mill_Mm_strength : z_ok M_Mm_mill M_Mm_strength 0 := ⟨z_mj8 (i := 109) rfl (by decide +kernel), rfl, ⟨by decide +kernel, by decide +kernel, by decide +kernel⟩, ⟨by decide, by decide⟩, z_mj1 (i := 14) rfl (by decide +kernel), rfl⟩
theorem ln_Mm_199 : Cond.methodLink "IronpourModel" 199 M_Mm_strength.1 ∈ z_gw := z_mj8 (i := 106) rfl (by decide +kernel)
theorem w_im_Mm_strength : Cond.instanceMethod M_Mm_strength.1 ∈ z_gw := z_mj8 (i := 108) rfl (by decide +kernel)
theorem w_se_Mm_strength : Cond.selects M_Mm_strength.1.cls M_Mm_strength.1 M_Mm_strength.1 ∈ z_gw := z_mem (i := 44) (by decide +kernel) (by decide +kernel)
theorem d_Mm_mill_142 : decode prog_14_method_47_code 142 = .ok (.ireturn, 1) := zo_172 (zd_b zq_prog_14_method_47_code_4 14 rfl rfl rfl)
set_option maxHeartbeats 4000000 in
set_option maxRecDepth 100000 in
theorem C_Mm_millN (g : zG) (m mp mf mh mn mt mz mc_ mq mgr ml mi mr mm mu mk mx : Nat) (th pt cl wa co_ fi bu ho lh mg wd fpi fal : Int32) (po de : Int64) (m1 m2 m3 m4 : Int32) (hw : ((0 ≤ m1 ∧ m1 ≤ 20) ∧ (0 ≤ m2 ∧ m2 ≤ 20) ∧ (0 ≤ m3 ∧ m3 ≤ 20) ∧ (0 ≤ m4 ∧ m4 ≤ 50))) : CT g M_Mm_mill [.ref m, .int m1, .int m2, .int m3, .int m4] [(m, .inr (12, [.int th, .ref mp, .int pt, .ref mf, .ref mh, .ref mn, .ref mt, .ref mz, .ref mc_, .ref mq, .ref mgr, .int cl, .int wa, .int co_, .int fi, .int bu, .int ho, .ref ml, .ref mi, .ref mr, .int lh, .int mg, .int wd, .int fpi, .int fal, .ref mm, .ref mu, .ref mk, .ref mx, .long po, .long de]))] (fun o cs1 => o = .inl (some (.int (S_Mm_strength m mp mf mh mn mt mz mc_ mq mgr ml mi mr mm mu mk mx 0 pt (S_Mm_most (cl + m1)) (S_Mm_most (wa + m2)) (S_Mm_most (co_ + m3)) (fi - ((fi * m4) / 100)) (bu - ((bu * m4) / 100)) ho lh mg wd fpi fal po de))) ∧ cs1 = [(m, .inr (12, [.int 0, .ref mp, .int pt, .ref mf, .ref mh, .ref mn, .ref mt, .ref mz, .ref mc_, .ref mq, .ref mgr, .int (S_Mm_most (cl + m1)), .int (S_Mm_most (wa + m2)), .int (S_Mm_most (co_ + m3)), .int (fi - ((fi * m4) / 100)), .int (bu - ((bu * m4) / 100)), .int ho, .ref ml, .ref mi, .ref mr, .int lh, .int mg, .int wd, .int fpi, .int fal, .ref mm, .ref mu, .ref mk, .ref mx, .long po, .long de]))]) 0 0 := by
  refine z_of (by decide) rfl (Nat.le_of_ble_eq_true rfl) (fun w0 => ?_)
  refine r_lvE (lv2 := [(0, .ref m), (1, .int m1), (2, .int m2), (3, .int m3), (4, .int m4)]) rfl ?_
  refine r_aload_n d_Mm_mill_0 rfl 0 rfl ?_
  refine r_iconst d_Mm_mill_1 (v := 0) (by decide) ?_
  refine r_put fp_Mm_84 d_Mm_mill_2 (fun h => nomatch h) rfl rfl (q0 := 0) rfl (Nat.le_of_ble_eq_true rfl) (cs' := [(m, .inr (12, [.int 0, .ref mp, .int pt, .ref mf, .ref mh, .ref mn, .ref mt, .ref mz, .ref mc_, .ref mq, .ref mgr, .int cl, .int wa, .int co_, .int fi, .int bu, .int ho, .ref ml, .ref mi, .ref mr, .int lh, .int mg, .int wd, .int fpi, .int fal, .ref mm, .ref mu, .ref mk, .ref mx, .long po, .long de]))]) rfl ?_
  refine r_aload_n d_Mm_mill_5 rfl 0 rfl ?_
  refine r_iload_n d_Mm_mill_6 rfl 1 rfl ?_
  refine r_iconst d_Mm_mill_7 (v := 0) (by decide) ?_
  refine r_bipush d_Mm_mill_8 (v := 20) (by decide) ?_
  refine r_callS (As := [.int m1, .int 0, .int 20]) (rest := [.ref m]) (csC := []) (is := []) ln_Mm_87 w_st_Mm_in ok_Mm_mill_Mm_in d_Mm_mill_10 (C_Mm_in g m1 0 20) rfl rfl (Nat.le_of_ble_eq_true rfl) rfl (by decide) (by omega) (by omega) (fun E cs1 hx => ?_) (fun v cs1 hx => ?_)
  · exact absurd hx.1 (by simp)
  · obtain ⟨e1, rfl⟩ := hx
    rw [if_pos hw.1] at e1
    cases e1
    refine ⟨rfl, ?_⟩
    refine r_st (st2 := [.int 1, .ref m]) rfl ?_
    refine r_cs (cs2 := [(m, .inr (12, [.int 0, .ref mp, .int pt, .ref mf, .ref mh, .ref mn, .ref mt, .ref mz, .ref mc_, .ref mq, .ref mgr, .int cl, .int wa, .int co_, .int fi, .int bu, .int ho, .ref ml, .ref mi, .ref mr, .int lh, .int mg, .int wd, .int fpi, .int fal, .ref mm, .ref mu, .ref mk, .ref mx, .long po, .long de]))]) rfl ?_
    refine r_if_eq (tgt := 47) d_Mm_mill_13 (by decide) (fun c_13 => ?_) (fun c_13 => ?_)
    · exact absurd c_13 (by decide)
    · refine r_iload_n d_Mm_mill_16 rfl 2 rfl ?_
      refine r_iconst d_Mm_mill_17 (v := 0) (by decide) ?_
      refine r_bipush d_Mm_mill_18 (v := 20) (by decide) ?_
      refine r_callS (As := [.int m2, .int 0, .int 20]) (rest := [.ref m]) (csC := []) (is := []) ln_Mm_87 w_st_Mm_in ok_Mm_mill_Mm_in d_Mm_mill_20 (C_Mm_in g m2 0 20) rfl rfl (Nat.le_of_ble_eq_true rfl) rfl (by decide) (by omega) (by omega) (fun E cs1 hx => ?_) (fun v cs1 hx => ?_)
      · exact absurd hx.1 (by simp)
      · obtain ⟨e1, rfl⟩ := hx
        rw [if_pos hw.2.1] at e1
        cases e1
        refine ⟨rfl, ?_⟩
        refine r_st (st2 := [.int 1, .ref m]) rfl ?_
        refine r_cs (cs2 := [(m, .inr (12, [.int 0, .ref mp, .int pt, .ref mf, .ref mh, .ref mn, .ref mt, .ref mz, .ref mc_, .ref mq, .ref mgr, .int cl, .int wa, .int co_, .int fi, .int bu, .int ho, .ref ml, .ref mi, .ref mr, .int lh, .int mg, .int wd, .int fpi, .int fal, .ref mm, .ref mu, .ref mk, .ref mx, .long po, .long de]))]) rfl ?_
        refine r_if_eq (tgt := 47) d_Mm_mill_23 (by decide) (fun c_23 => ?_) (fun c_23 => ?_)
        · exact absurd c_23 (by decide)
        · refine r_iload_n d_Mm_mill_26 rfl 3 rfl ?_
          refine r_iconst d_Mm_mill_27 (v := 0) (by decide) ?_
          refine r_bipush d_Mm_mill_28 (v := 20) (by decide) ?_
          refine r_callS (As := [.int m3, .int 0, .int 20]) (rest := [.ref m]) (csC := []) (is := []) ln_Mm_87 w_st_Mm_in ok_Mm_mill_Mm_in d_Mm_mill_30 (C_Mm_in g m3 0 20) rfl rfl (Nat.le_of_ble_eq_true rfl) rfl (by decide) (by omega) (by omega) (fun E cs1 hx => ?_) (fun v cs1 hx => ?_)
          · exact absurd hx.1 (by simp)
          · obtain ⟨e1, rfl⟩ := hx
            rw [if_pos hw.2.2.1] at e1
            cases e1
            refine ⟨rfl, ?_⟩
            refine r_st (st2 := [.int 1, .ref m]) rfl ?_
            refine r_cs (cs2 := [(m, .inr (12, [.int 0, .ref mp, .int pt, .ref mf, .ref mh, .ref mn, .ref mt, .ref mz, .ref mc_, .ref mq, .ref mgr, .int cl, .int wa, .int co_, .int fi, .int bu, .int ho, .ref ml, .ref mi, .ref mr, .int lh, .int mg, .int wd, .int fpi, .int fal, .ref mm, .ref mu, .ref mk, .ref mx, .long po, .long de]))]) rfl ?_
            refine r_if_eq (tgt := 47) d_Mm_mill_33 (by decide) (fun c_33 => ?_) (fun c_33 => ?_)
            · exact absurd c_33 (by decide)
            · refine r_iload d_Mm_mill_36 4 rfl ?_
              refine r_iconst d_Mm_mill_38 (v := 0) (by decide) ?_
              refine r_bipush d_Mm_mill_39 (v := 50) (by decide) ?_
              refine r_callS (As := [.int m4, .int 0, .int 50]) (rest := [.ref m]) (csC := []) (is := []) ln_Mm_87 w_st_Mm_in ok_Mm_mill_Mm_in d_Mm_mill_41 (C_Mm_in g m4 0 50) rfl rfl (Nat.le_of_ble_eq_true rfl) rfl (by decide) (by omega) (by omega) (fun E cs1 hx => ?_) (fun v cs1 hx => ?_)
              · exact absurd hx.1 (by simp)
              · obtain ⟨e1, rfl⟩ := hx
                rw [if_pos hw.2.2.2] at e1
                cases e1
                refine ⟨rfl, ?_⟩
                refine r_st (st2 := [.int 1, .ref m]) rfl ?_
                refine r_cs (cs2 := [(m, .inr (12, [.int 0, .ref mp, .int pt, .ref mf, .ref mh, .ref mn, .ref mt, .ref mz, .ref mc_, .ref mq, .ref mgr, .int cl, .int wa, .int co_, .int fi, .int bu, .int ho, .ref ml, .ref mi, .ref mr, .int lh, .int mg, .int wd, .int fpi, .int fal, .ref mm, .ref mu, .ref mk, .ref mx, .long po, .long de]))]) rfl ?_
                refine r_if_ne (tgt := 51) d_Mm_mill_44 (by decide) (fun c_44 => ?_) (fun c_44 => ?_)
                · refine r_iconst d_Mm_mill_51 (v := 0) (by decide) ?_
                  refine r_iconst d_Mm_mill_52 (v := 1) (by decide) ?_
                  refine r_callV (As := [.int 0, .int 1]) (rest := []) (csC := [(m, .inr (12, [.int 0, .ref mp, .int pt, .ref mf, .ref mh, .ref mn, .ref mt, .ref mz, .ref mc_, .ref mq, .ref mgr, .int cl, .int wa, .int co_, .int fi, .int bu, .int ho, .ref ml, .ref mi, .ref mr, .int lh, .int mg, .int wd, .int fpi, .int fal, .ref mm, .ref mu, .ref mk, .ref mx, .long po, .long de]))]) (is := [0]) (q0 := 0) rfl rfl ln_Mm_103 w_im_Mm_fails w_se_Mm_fails ok_Mm_mill_Mm_fails d_Mm_mill_53 (C_Mm_fails0 g m mp mf mh mn mt mz mc_ mq mgr ml mi mr mm mu mk mx th pt cl wa co_ fi bu ho lh mg wd fpi fal po de 1) rfl rfl (Nat.le_of_ble_eq_true rfl) rfl (by decide) (by omega) (by omega) (fun E cs1 hx => ?_) (fun v cs1 hx => ?_)
                  · exact absurd hx.1 (by simp)
                  · obtain ⟨e1, rfl⟩ := hx
                    cases e1
                    refine ⟨rfl, ?_⟩
                    refine r_st (st2 := [.int 0]) rfl ?_
                    refine r_cs (cs2 := [(m, .inr (12, [.int 0, .ref mp, .int pt, .ref mf, .ref mh, .ref mn, .ref mt, .ref mz, .ref mc_, .ref mq, .ref mgr, .int cl, .int wa, .int co_, .int fi, .int bu, .int ho, .ref ml, .ref mi, .ref mr, .int lh, .int mg, .int wd, .int fpi, .int fal, .ref mm, .ref mu, .ref mk, .ref mx, .long po, .long de]))]) rfl ?_
                    refine r_if_eq (tgt := 61) d_Mm_mill_56 (by decide) (fun c_56 => ?_) (fun c_56 => ?_)
                    · refine r_aload_n d_Mm_mill_61 rfl 0 rfl ?_
                      refine r_dup d_Mm_mill_62 rfl ?_
                      refine r_get fs_Mm_52 d_Mm_mill_63 (q0 := 0) rfl rfl ?_
                      refine r_aload_n d_Mm_mill_66 rfl 0 rfl ?_
                      refine r_get fs_Mm_52 d_Mm_mill_67 (q0 := 0) rfl rfl ?_
                      refine r_iload d_Mm_mill_70 4 rfl ?_
                      refine r_imul d_Mm_mill_72 (v := (fi * m4)) rfl ?_
                      refine r_bipush d_Mm_mill_73 (v := 100) (by decide) ?_
                      refine r_idiv d_Mm_mill_75 (v := ((fi * m4) / 100)) (by decide) rfl ?_
                      refine r_isub d_Mm_mill_76 (v := (fi - ((fi * m4) / 100))) rfl ?_
                      refine r_put fp_Mm_52 d_Mm_mill_77 (fun h => nomatch h) rfl rfl (q0 := 0) rfl (Nat.le_of_ble_eq_true rfl) (cs' := [(m, .inr (12, [.int 0, .ref mp, .int pt, .ref mf, .ref mh, .ref mn, .ref mt, .ref mz, .ref mc_, .ref mq, .ref mgr, .int cl, .int wa, .int co_, .int (fi - ((fi * m4) / 100)), .int bu, .int ho, .ref ml, .ref mi, .ref mr, .int lh, .int mg, .int wd, .int fpi, .int fal, .ref mm, .ref mu, .ref mk, .ref mx, .long po, .long de]))]) rfl ?_
                      refine r_aload_n d_Mm_mill_80 rfl 0 rfl ?_
                      refine r_dup d_Mm_mill_81 rfl ?_
                      refine r_get fs_Mm_190 d_Mm_mill_82 (q0 := 0) rfl rfl ?_
                      refine r_aload_n d_Mm_mill_85 rfl 0 rfl ?_
                      refine r_get fs_Mm_190 d_Mm_mill_86 (q0 := 0) rfl rfl ?_
                      refine r_iload d_Mm_mill_89 4 rfl ?_
                      refine r_imul d_Mm_mill_91 (v := (bu * m4)) rfl ?_
                      refine r_bipush d_Mm_mill_92 (v := 100) (by decide) ?_
                      refine r_idiv d_Mm_mill_94 (v := ((bu * m4) / 100)) (by decide) rfl ?_
                      refine r_isub d_Mm_mill_95 (v := (bu - ((bu * m4) / 100))) rfl ?_
                      refine r_put fp_Mm_190 d_Mm_mill_96 (fun h => nomatch h) rfl rfl (q0 := 0) rfl (Nat.le_of_ble_eq_true rfl) (cs' := [(m, .inr (12, [.int 0, .ref mp, .int pt, .ref mf, .ref mh, .ref mn, .ref mt, .ref mz, .ref mc_, .ref mq, .ref mgr, .int cl, .int wa, .int co_, .int (fi - ((fi * m4) / 100)), .int (bu - ((bu * m4) / 100)), .int ho, .ref ml, .ref mi, .ref mr, .int lh, .int mg, .int wd, .int fpi, .int fal, .ref mm, .ref mu, .ref mk, .ref mx, .long po, .long de]))]) rfl ?_
                      refine r_aload_n d_Mm_mill_99 rfl 0 rfl ?_
                      refine r_aload_n d_Mm_mill_100 rfl 0 rfl ?_
                      refine r_get fs_Mm_43 d_Mm_mill_101 (q0 := 0) rfl rfl ?_
                      refine r_iload_n d_Mm_mill_104 rfl 1 rfl ?_
                      refine r_iadd d_Mm_mill_105 (v := cl + m1) rfl ?_
                      refine r_callS (As := [.int (cl + m1)]) (rest := [.ref m]) (csC := []) (is := []) ln_Mm_196 w_st_Mm_most ok_Mm_mill_Mm_most d_Mm_mill_106 (C_Mm_most g (cl + m1)) rfl rfl (Nat.le_of_ble_eq_true rfl) rfl (by decide) (by omega) (by omega) (fun E cs1 hx => ?_) (fun v cs1 hx => ?_)
                      · exact absurd hx.1 (by simp)
                      · obtain ⟨e1, rfl⟩ := hx
                        cases e1
                        refine ⟨rfl, ?_⟩
                        refine r_st (st2 := [.int (S_Mm_most (cl + m1)), .ref m]) rfl ?_
                        refine r_cs (cs2 := [(m, .inr (12, [.int 0, .ref mp, .int pt, .ref mf, .ref mh, .ref mn, .ref mt, .ref mz, .ref mc_, .ref mq, .ref mgr, .int cl, .int wa, .int co_, .int (fi - ((fi * m4) / 100)), .int (bu - ((bu * m4) / 100)), .int ho, .ref ml, .ref mi, .ref mr, .int lh, .int mg, .int wd, .int fpi, .int fal, .ref mm, .ref mu, .ref mk, .ref mx, .long po, .long de]))]) rfl ?_
                        refine r_put fp_Mm_43 d_Mm_mill_109 (fun h => nomatch h) rfl rfl (q0 := 0) rfl (Nat.le_of_ble_eq_true rfl) (cs' := [(m, .inr (12, [.int 0, .ref mp, .int pt, .ref mf, .ref mh, .ref mn, .ref mt, .ref mz, .ref mc_, .ref mq, .ref mgr, .int (S_Mm_most (cl + m1)), .int wa, .int co_, .int (fi - ((fi * m4) / 100)), .int (bu - ((bu * m4) / 100)), .int ho, .ref ml, .ref mi, .ref mr, .int lh, .int mg, .int wd, .int fpi, .int fal, .ref mm, .ref mu, .ref mk, .ref mx, .long po, .long de]))]) rfl ?_
                        refine r_aload_n d_Mm_mill_112 rfl 0 rfl ?_
                        refine r_aload_n d_Mm_mill_113 rfl 0 rfl ?_
                        refine r_get fs_Mm_46 d_Mm_mill_114 (q0 := 0) rfl rfl ?_
                        refine r_iload_n d_Mm_mill_117 rfl 2 rfl ?_
                        refine r_iadd d_Mm_mill_118 (v := wa + m2) rfl ?_
                        refine r_callS (As := [.int (wa + m2)]) (rest := [.ref m]) (csC := []) (is := []) ln_Mm_196 w_st_Mm_most ok_Mm_mill_Mm_most d_Mm_mill_119 (C_Mm_most g (wa + m2)) rfl rfl (Nat.le_of_ble_eq_true rfl) rfl (by decide) (by omega) (by omega) (fun E cs1 hx => ?_) (fun v cs1 hx => ?_)
                        · exact absurd hx.1 (by simp)
                        · obtain ⟨e1, rfl⟩ := hx
                          cases e1
                          refine ⟨rfl, ?_⟩
                          refine r_st (st2 := [.int (S_Mm_most (wa + m2)), .ref m]) rfl ?_
                          refine r_cs (cs2 := [(m, .inr (12, [.int 0, .ref mp, .int pt, .ref mf, .ref mh, .ref mn, .ref mt, .ref mz, .ref mc_, .ref mq, .ref mgr, .int (S_Mm_most (cl + m1)), .int wa, .int co_, .int (fi - ((fi * m4) / 100)), .int (bu - ((bu * m4) / 100)), .int ho, .ref ml, .ref mi, .ref mr, .int lh, .int mg, .int wd, .int fpi, .int fal, .ref mm, .ref mu, .ref mk, .ref mx, .long po, .long de]))]) rfl ?_
                          refine r_put fp_Mm_46 d_Mm_mill_122 (fun h => nomatch h) rfl rfl (q0 := 0) rfl (Nat.le_of_ble_eq_true rfl) (cs' := [(m, .inr (12, [.int 0, .ref mp, .int pt, .ref mf, .ref mh, .ref mn, .ref mt, .ref mz, .ref mc_, .ref mq, .ref mgr, .int (S_Mm_most (cl + m1)), .int (S_Mm_most (wa + m2)), .int co_, .int (fi - ((fi * m4) / 100)), .int (bu - ((bu * m4) / 100)), .int ho, .ref ml, .ref mi, .ref mr, .int lh, .int mg, .int wd, .int fpi, .int fal, .ref mm, .ref mu, .ref mk, .ref mx, .long po, .long de]))]) rfl ?_
                          refine r_aload_n d_Mm_mill_125 rfl 0 rfl ?_
                          refine r_aload_n d_Mm_mill_126 rfl 0 rfl ?_
                          refine r_get fs_Mm_49 d_Mm_mill_127 (q0 := 0) rfl rfl ?_
                          refine r_iload_n d_Mm_mill_130 rfl 3 rfl ?_
                          refine r_iadd d_Mm_mill_131 (v := co_ + m3) rfl ?_
                          refine r_callS (As := [.int (co_ + m3)]) (rest := [.ref m]) (csC := []) (is := []) ln_Mm_196 w_st_Mm_most ok_Mm_mill_Mm_most d_Mm_mill_132 (C_Mm_most g (co_ + m3)) rfl rfl (Nat.le_of_ble_eq_true rfl) rfl (by decide) (by omega) (by omega) (fun E cs1 hx => ?_) (fun v cs1 hx => ?_)
                          · exact absurd hx.1 (by simp)
                          · obtain ⟨e1, rfl⟩ := hx
                            cases e1
                            refine ⟨rfl, ?_⟩
                            refine r_st (st2 := [.int (S_Mm_most (co_ + m3)), .ref m]) rfl ?_
                            refine r_cs (cs2 := [(m, .inr (12, [.int 0, .ref mp, .int pt, .ref mf, .ref mh, .ref mn, .ref mt, .ref mz, .ref mc_, .ref mq, .ref mgr, .int (S_Mm_most (cl + m1)), .int (S_Mm_most (wa + m2)), .int co_, .int (fi - ((fi * m4) / 100)), .int (bu - ((bu * m4) / 100)), .int ho, .ref ml, .ref mi, .ref mr, .int lh, .int mg, .int wd, .int fpi, .int fal, .ref mm, .ref mu, .ref mk, .ref mx, .long po, .long de]))]) rfl ?_
                            refine r_put fp_Mm_49 d_Mm_mill_135 (fun h => nomatch h) rfl rfl (q0 := 0) rfl (Nat.le_of_ble_eq_true rfl) (cs' := [(m, .inr (12, [.int 0, .ref mp, .int pt, .ref mf, .ref mh, .ref mn, .ref mt, .ref mz, .ref mc_, .ref mq, .ref mgr, .int (S_Mm_most (cl + m1)), .int (S_Mm_most (wa + m2)), .int (S_Mm_most (co_ + m3)), .int (fi - ((fi * m4) / 100)), .int (bu - ((bu * m4) / 100)), .int ho, .ref ml, .ref mi, .ref mr, .int lh, .int mg, .int wd, .int fpi, .int fal, .ref mm, .ref mu, .ref mk, .ref mx, .long po, .long de]))]) rfl ?_
                            refine r_aload_n d_Mm_mill_138 rfl 0 rfl ?_
                            refine r_callV (As := []) (rest := []) (csC := [(m, .inr (12, [.int 0, .ref mp, .int pt, .ref mf, .ref mh, .ref mn, .ref mt, .ref mz, .ref mc_, .ref mq, .ref mgr, .int (S_Mm_most (cl + m1)), .int (S_Mm_most (wa + m2)), .int (S_Mm_most (co_ + m3)), .int (fi - ((fi * m4) / 100)), .int (bu - ((bu * m4) / 100)), .int ho, .ref ml, .ref mi, .ref mr, .int lh, .int mg, .int wd, .int fpi, .int fal, .ref mm, .ref mu, .ref mk, .ref mx, .long po, .long de]))]) (is := [0]) (q0 := 0) rfl rfl ln_Mm_199 w_im_Mm_strength w_se_Mm_strength ok_Mm_mill_Mm_strength d_Mm_mill_139 (C_Mm_strength g m mp mf mh mn mt mz mc_ mq mgr ml mi mr mm mu mk mx 0 pt (S_Mm_most (cl + m1)) (S_Mm_most (wa + m2)) (S_Mm_most (co_ + m3)) (fi - ((fi * m4) / 100)) (bu - ((bu * m4) / 100)) ho lh mg wd fpi fal po de) rfl rfl (Nat.le_of_ble_eq_true rfl) rfl (by decide) (by omega) (by omega) (fun E cs1 hx => ?_) (fun v cs1 hx => ?_)
                            · exact absurd hx.1 (by simp)
                            · obtain ⟨e1, rfl⟩ := hx
                              cases e1
                              refine ⟨rfl, ?_⟩
                              refine r_st (st2 := [.int (S_Mm_strength m mp mf mh mn mt mz mc_ mq mgr ml mi mr mm mu mk mx 0 pt (S_Mm_most (cl + m1)) (S_Mm_most (wa + m2)) (S_Mm_most (co_ + m3)) (fi - ((fi * m4) / 100)) (bu - ((bu * m4) / 100)) ho lh mg wd fpi fal po de)]) rfl ?_
                              refine r_cs (cs2 := [(m, .inr (12, [.int 0, .ref mp, .int pt, .ref mf, .ref mh, .ref mn, .ref mt, .ref mz, .ref mc_, .ref mq, .ref mgr, .int (S_Mm_most (cl + m1)), .int (S_Mm_most (wa + m2)), .int (S_Mm_most (co_ + m3)), .int (fi - ((fi * m4) / 100)), .int (bu - ((bu * m4) / 100)), .int ho, .ref ml, .ref mi, .ref mr, .int lh, .int mg, .int wd, .int fpi, .int fal, .ref mm, .ref mu, .ref mk, .ref mx, .long po, .long de]))]) rfl ?_
                              refine r_iret d_Mm_mill_142 rfl rfl ?_
                              exact ⟨rfl, rfl⟩
                    · exact absurd c_56 (by decide)
                · exact absurd c_44 (by decide)
abbrev M_Mm_sand : zM := (⟨"IronpourModel", "sand", "(C)I"⟩, prog_14_method_48_code, 2, (Option.some FieldType.int), 8, 179, [])
theorem d_Mm_sand_0 : decode prog_14_method_48_code 0 = .ok (.aload_n 0, 1) := zo_42 (zd_b zq_prog_14_method_48_code_0 0 rfl rfl rfl)
theorem d_Mm_sand_1 : decode prog_14_method_48_code 1 = .ok (.iconst 0, 1) := zo_3 (zd_b zq_prog_14_method_48_code_0 1 rfl rfl rfl)
theorem d_Mm_sand_2 : decode prog_14_method_48_code 2 = .ok (.putfield 84, 3) := zo_181 (d := 0) (e := 84) (zd_b zq_prog_14_method_48_code_0 2 rfl rfl rfl) (zd_b zq_prog_14_method_48_code_0 3 rfl rfl rfl) (zd_b zq_prog_14_method_48_code_0 4 rfl rfl rfl)
theorem d_Mm_sand_5 : decode prog_14_method_48_code 5 = .ok (.aload_n 0, 1) := zo_42 (zd_b zq_prog_14_method_48_code_0 5 rfl rfl rfl)
theorem d_Mm_sand_6 : decode prog_14_method_48_code 6 = .ok (.ldc 203, 2) := zo_18 (d := 203) (zd_b zq_prog_14_method_48_code_0 6 rfl rfl rfl) (zd_b zq_prog_14_method_48_code_0 7 rfl rfl rfl)
theorem d_Mm_sand_8 : decode prog_14_method_48_code 8 = .ok (.iload_n 1, 1) := zo_27 (zd_b zq_prog_14_method_48_code_0 8 rfl rfl rfl)
theorem d_Mm_sand_9 : decode prog_14_method_48_code 9 = .ok (.invokevirtual 97, 3) := zo_182 (d := 0) (e := 97) (zd_b zq_prog_14_method_48_code_0 9 rfl rfl rfl) (zd_b zq_prog_14_method_48_code_0 10 rfl rfl rfl) (zd_b zq_prog_14_method_48_code_0 11 rfl rfl rfl)
theorem ok_Mm_sand_String_indexOf_0 : z_ok M_Mm_sand M_String_indexOf_0 1 := ⟨z_mj3 (i := 58) rfl (by decide +kernel), rfl, ⟨by decide +kernel, by decide +kernel, by decide +kernel⟩, ⟨by decide, by decide⟩, z_mj1 (i := 15) rfl (by decide +kernel), rfl⟩
theorem d_Mm_sand_12 : decode prog_14_method_48_code 12 = .ok (.ifCond .ge 7, 3) := zo_156 (d := 0) (e := 7) (zd_b zq_prog_14_method_48_code_0 12 rfl rfl rfl) (zd_b zq_prog_14_method_48_code_0 13 rfl rfl rfl) (zd_b zq_prog_14_method_48_code_0 14 rfl rfl rfl) (by decide +kernel)
theorem d_Mm_sand_15 : decode prog_14_method_48_code 15 = .ok (.iconst 1, 1) := zo_4 (zd_b zq_prog_14_method_48_code_0 15 rfl rfl rfl)
theorem d_Mm_sand_16 : decode prog_14_method_48_code 16 = .ok (.goto 4, 3) := zo_167 (d := 0) (e := 4) (zd_b zq_prog_14_method_48_code_0 16 rfl rfl rfl) (zd_b zq_prog_14_method_48_code_0 17 rfl rfl rfl) (zd_b zq_prog_14_method_48_code_0 18 rfl rfl rfl) (by decide +kernel)
theorem d_Mm_sand_20 : decode prog_14_method_48_code 20 = .ok (.iconst 1, 1) := zo_4 (zd_b zq_prog_14_method_48_code_0 20 rfl rfl rfl)
theorem d_Mm_sand_21 : decode prog_14_method_48_code 21 = .ok (.invokevirtual 103, 3) := zo_182 (d := 0) (e := 103) (zd_b zq_prog_14_method_48_code_0 21 rfl rfl rfl) (zd_b zq_prog_14_method_48_code_0 22 rfl rfl rfl) (zd_b zq_prog_14_method_48_code_0 23 rfl rfl rfl)
theorem ok_Mm_sand_Mm_fails : z_ok M_Mm_sand M_Mm_fails 2 := ⟨z_mj7 (i := 196) rfl (by decide +kernel), rfl, ⟨by decide +kernel, by decide +kernel, by decide +kernel⟩, ⟨by decide, by decide⟩, z_mj1 (i := 14) rfl (by decide +kernel), rfl⟩
theorem d_Mm_sand_24 : decode prog_14_method_48_code 24 = .ok (.ifCond .eq 5, 3) := zo_153 (d := 0) (e := 5) (zd_b zq_prog_14_method_48_code_0 24 rfl rfl rfl) (zd_b zq_prog_14_method_48_code_0 25 rfl rfl rfl) (zd_b zq_prog_14_method_48_code_0 26 rfl rfl rfl) (by decide +kernel)
theorem d_Mm_sand_27 : decode prog_14_method_48_code 27 = .ok (.iconst 0, 1) := zo_3 (zd_b zq_prog_14_method_48_code_0 27 rfl rfl rfl)
theorem d_Mm_sand_28 : decode prog_14_method_48_code 28 = .ok (.ireturn, 1) := zo_172 (zd_b zq_prog_14_method_48_code_0 28 rfl rfl rfl)
set_option maxHeartbeats 4000000 in
set_option maxRecDepth 100000 in
theorem C_Mm_sandE (g : zG) (m mp mf mh mn mt mz mc_ mq mgr ml mi mr mm mu mk mx : Nat) (th pt cl wa co_ fi bu ho lh mg wd fpi fal : Int32) (po de : Int64) (w : Int32) (hw : z_ix 5 w < 0) : CT g M_Mm_sand [.ref m, .int w] [(m, .inr (12, [.int th, .ref mp, .int pt, .ref mf, .ref mh, .ref mn, .ref mt, .ref mz, .ref mc_, .ref mq, .ref mgr, .int cl, .int wa, .int co_, .int fi, .int bu, .int ho, .ref ml, .ref mi, .ref mr, .int lh, .int mg, .int wd, .int fpi, .int fal, .ref mm, .ref mu, .ref mk, .ref mx, .long po, .long de]))] (fun o cs1 => o = .inl (some (.int 0)) ∧ cs1 = [(m, .inr (12, [.int 1, .ref mp, .int pt, .ref mf, .ref mh, .ref mn, .ref mt, .ref mz, .ref mc_, .ref mq, .ref mgr, .int cl, .int wa, .int co_, .int fi, .int bu, .int ho, .ref ml, .ref mi, .ref mr, .int lh, .int mg, .int wd, .int fpi, .int fal, .ref mm, .ref mu, .ref mk, .ref mx, .long po, .long de]))]) 0 0 := by
  refine z_of (by decide) rfl (Nat.le_of_ble_eq_true rfl) (fun w0 => ?_)
  refine r_lvE (lv2 := [(0, .ref m), (1, .int w)]) rfl ?_
  refine r_aload_n d_Mm_sand_0 rfl 0 rfl ?_
  refine r_iconst d_Mm_sand_1 (v := 0) (by decide) ?_
  refine r_put fp_Mm_84 d_Mm_sand_2 (fun h => nomatch h) rfl rfl (q0 := 0) rfl (Nat.le_of_ble_eq_true rfl) (cs' := [(m, .inr (12, [.int 0, .ref mp, .int pt, .ref mf, .ref mh, .ref mn, .ref mt, .ref mz, .ref mc_, .ref mq, .ref mgr, .int cl, .int wa, .int co_, .int fi, .int bu, .int ho, .ref ml, .ref mi, .ref mr, .int lh, .int mg, .int wd, .int fpi, .int fal, .ref mm, .ref mu, .ref mk, .ref mx, .long po, .long de]))]) rfl ?_
  refine r_aload_n d_Mm_sand_5 rfl 0 rfl ?_
  refine r_ldcS (own := "IronpourModel") (i := 5) (by decide) d_Mm_sand_6 ?_
  refine r_iload_n d_Mm_sand_8 rfl 1 rfl ?_
  refine r_callVS (As := [.int w]) (rest := [.ref m]) (csC := []) (is := []) (i := 5) (by first | assumption | decide) rfl ln_Mm_97 w_im_String_indexOf_0 w_se_String_indexOf_0 ok_Mm_sand_String_indexOf_0 d_Mm_sand_9 (C_St_indexOf g 5 (by decide) w) rfl rfl (Nat.le_of_ble_eq_true rfl) rfl (by decide) (by omega) (by omega) (fun E cs1 hx => ?_) (fun v cs1 hx => ?_)
  · exact absurd hx.1 (by simp)
  · obtain ⟨e1, rfl⟩ := hx
    cases e1
    refine ⟨rfl, ?_⟩
    refine r_st (st2 := [.int (z_ix 5 w), .ref m]) rfl ?_
    refine r_cs (cs2 := [(m, .inr (12, [.int 0, .ref mp, .int pt, .ref mf, .ref mh, .ref mn, .ref mt, .ref mz, .ref mc_, .ref mq, .ref mgr, .int cl, .int wa, .int co_, .int fi, .int bu, .int ho, .ref ml, .ref mi, .ref mr, .int lh, .int mg, .int wd, .int fpi, .int fal, .ref mm, .ref mu, .ref mk, .ref mx, .long po, .long de]))]) rfl ?_
    refine r_if_ge (tgt := 19) d_Mm_sand_12 (by decide) (fun c_12 => ?_) (fun c_12 => ?_)
    · exact absurd hw (Int32.not_lt.mpr c_12)
    · refine r_iconst d_Mm_sand_15 (v := 1) (by decide) ?_
      refine r_goto (tgt := 20) d_Mm_sand_16 (by decide) ?_
      refine r_iconst d_Mm_sand_20 (v := 1) (by decide) ?_
      refine r_callV (As := [.int 1, .int 1]) (rest := []) (csC := [(m, .inr (12, [.int 0, .ref mp, .int pt, .ref mf, .ref mh, .ref mn, .ref mt, .ref mz, .ref mc_, .ref mq, .ref mgr, .int cl, .int wa, .int co_, .int fi, .int bu, .int ho, .ref ml, .ref mi, .ref mr, .int lh, .int mg, .int wd, .int fpi, .int fal, .ref mm, .ref mu, .ref mk, .ref mx, .long po, .long de]))]) (is := [0]) (q0 := 0) rfl rfl ln_Mm_103 w_im_Mm_fails w_se_Mm_fails ok_Mm_sand_Mm_fails d_Mm_sand_21 (C_Mm_fails1 g m mp mf mh mn mt mz mc_ mq mgr ml mi mr mm mu mk mx th pt cl wa co_ fi bu ho lh mg wd fpi fal po de) rfl rfl (Nat.le_of_ble_eq_true rfl) rfl (by decide) (by omega) (by omega) (fun E cs1 hx => ?_) (fun v cs1 hx => ?_)
      · exact absurd hx.1 (by simp)
      · obtain ⟨e1, rfl⟩ := hx
        cases e1
        refine ⟨rfl, ?_⟩
        refine r_st (st2 := [.int 1]) rfl ?_
        refine r_cs (cs2 := [(m, .inr (12, [.int 1, .ref mp, .int pt, .ref mf, .ref mh, .ref mn, .ref mt, .ref mz, .ref mc_, .ref mq, .ref mgr, .int cl, .int wa, .int co_, .int fi, .int bu, .int ho, .ref ml, .ref mi, .ref mr, .int lh, .int mg, .int wd, .int fpi, .int fal, .ref mm, .ref mu, .ref mk, .ref mx, .long po, .long de]))]) rfl ?_
        refine r_if_eq (tgt := 29) d_Mm_sand_24 (by decide) (fun c_24 => ?_) (fun c_24 => ?_)
        · exact absurd c_24 (by decide)
        · refine r_iconst d_Mm_sand_27 (v := 0) (by decide) ?_
          refine r_iret d_Mm_sand_28 rfl rfl ?_
          exact ⟨rfl, rfl⟩
theorem d_Mm_sand_19 : decode prog_14_method_48_code 19 = .ok (.iconst 0, 1) := zo_3 (zd_b zq_prog_14_method_48_code_0 19 rfl rfl rfl)
theorem d_Mm_sand_29 : decode prog_14_method_48_code 29 = .ok (.iload_n 1, 1) := zo_27 (zd_b zq_prog_14_method_48_code_0 29 rfl rfl rfl)
theorem d_Mm_sand_30 : decode prog_14_method_48_code 30 = .ok (.lookupswitch 88 #[(98, 78), (99, 58), (102, 73), (107, 68), (115, 83), (119, 63)], 58) := by decide +kernel
theorem d_Mm_sand_88 : decode prog_14_method_48_code 88 = .ok (.aload_n 0, 1) := zo_42 (zd_b zq_prog_14_method_48_code_2 24 rfl rfl rfl)
theorem d_Mm_sand_89 : decode prog_14_method_48_code 89 = .ok (.getfield 43, 3) := zo_180 (d := 0) (e := 43) (zd_b zq_prog_14_method_48_code_2 25 rfl rfl rfl) (zd_b zq_prog_14_method_48_code_2 26 rfl rfl rfl) (zd_b zq_prog_14_method_48_code_2 27 rfl rfl rfl)
theorem d_Mm_sand_92 : decode prog_14_method_48_code 92 = .ok (.ireturn, 1) := zo_172 (zd_b zq_prog_14_method_48_code_2 28 rfl rfl rfl)
set_option maxHeartbeats 4000000 in
set_option maxRecDepth 100000 in
theorem C_Mm_sand99 (g : zG) (m mp mf mh mn mt mz mc_ mq mgr ml mi mr mm mu mk mx : Nat) (th pt cl wa co_ fi bu ho lh mg wd fpi fal : Int32) (po de : Int64) : CT g M_Mm_sand [.ref m, .int 99] [(m, .inr (12, [.int th, .ref mp, .int pt, .ref mf, .ref mh, .ref mn, .ref mt, .ref mz, .ref mc_, .ref mq, .ref mgr, .int cl, .int wa, .int co_, .int fi, .int bu, .int ho, .ref ml, .ref mi, .ref mr, .int lh, .int mg, .int wd, .int fpi, .int fal, .ref mm, .ref mu, .ref mk, .ref mx, .long po, .long de]))] (fun o cs1 => o = .inl (some (.int cl)) ∧ cs1 = [(m, .inr (12, [.int 0, .ref mp, .int pt, .ref mf, .ref mh, .ref mn, .ref mt, .ref mz, .ref mc_, .ref mq, .ref mgr, .int cl, .int wa, .int co_, .int fi, .int bu, .int ho, .ref ml, .ref mi, .ref mr, .int lh, .int mg, .int wd, .int fpi, .int fal, .ref mm, .ref mu, .ref mk, .ref mx, .long po, .long de]))]) 0 0 := by
  refine z_of (by decide) rfl (Nat.le_of_ble_eq_true rfl) (fun w0 => ?_)
  refine r_lvE (lv2 := [(0, .ref m), (1, .int 99)]) rfl ?_
  refine r_aload_n d_Mm_sand_0 rfl 0 rfl ?_
  refine r_iconst d_Mm_sand_1 (v := 0) (by decide) ?_
  refine r_put fp_Mm_84 d_Mm_sand_2 (fun h => nomatch h) rfl rfl (q0 := 0) rfl (Nat.le_of_ble_eq_true rfl) (cs' := [(m, .inr (12, [.int 0, .ref mp, .int pt, .ref mf, .ref mh, .ref mn, .ref mt, .ref mz, .ref mc_, .ref mq, .ref mgr, .int cl, .int wa, .int co_, .int fi, .int bu, .int ho, .ref ml, .ref mi, .ref mr, .int lh, .int mg, .int wd, .int fpi, .int fal, .ref mm, .ref mu, .ref mk, .ref mx, .long po, .long de]))]) rfl ?_
  refine r_aload_n d_Mm_sand_5 rfl 0 rfl ?_
  refine r_ldcS (own := "IronpourModel") (i := 5) (by decide) d_Mm_sand_6 ?_
  refine r_iload_n d_Mm_sand_8 rfl 1 rfl ?_
  refine r_callVS (As := [.int 99]) (rest := [.ref m]) (csC := []) (is := []) (i := 5) (by first | assumption | decide) rfl ln_Mm_97 w_im_String_indexOf_0 w_se_String_indexOf_0 ok_Mm_sand_String_indexOf_0 d_Mm_sand_9 (C_St_indexOf g 5 (by decide) 99) rfl rfl (Nat.le_of_ble_eq_true rfl) rfl (by decide) (by omega) (by omega) (fun E cs1 hx => ?_) (fun v cs1 hx => ?_)
  · exact absurd hx.1 (by simp)
  · obtain ⟨e1, rfl⟩ := hx
    cases e1
    refine ⟨rfl, ?_⟩
    refine r_st (st2 := [.int (z_ix 5 99), .ref m]) rfl ?_
    refine r_cs (cs2 := [(m, .inr (12, [.int 0, .ref mp, .int pt, .ref mf, .ref mh, .ref mn, .ref mt, .ref mz, .ref mc_, .ref mq, .ref mgr, .int cl, .int wa, .int co_, .int fi, .int bu, .int ho, .ref ml, .ref mi, .ref mr, .int lh, .int mg, .int wd, .int fpi, .int fal, .ref mm, .ref mu, .ref mk, .ref mx, .long po, .long de]))]) rfl ?_
    refine r_if_ge (tgt := 19) d_Mm_sand_12 (by decide) (fun c_12 => ?_) (fun c_12 => ?_)
    · refine r_iconst d_Mm_sand_19 (v := 0) (by decide) ?_
      refine r_iconst d_Mm_sand_20 (v := 1) (by decide) ?_
      refine r_callV (As := [.int 0, .int 1]) (rest := []) (csC := [(m, .inr (12, [.int 0, .ref mp, .int pt, .ref mf, .ref mh, .ref mn, .ref mt, .ref mz, .ref mc_, .ref mq, .ref mgr, .int cl, .int wa, .int co_, .int fi, .int bu, .int ho, .ref ml, .ref mi, .ref mr, .int lh, .int mg, .int wd, .int fpi, .int fal, .ref mm, .ref mu, .ref mk, .ref mx, .long po, .long de]))]) (is := [0]) (q0 := 0) rfl rfl ln_Mm_103 w_im_Mm_fails w_se_Mm_fails ok_Mm_sand_Mm_fails d_Mm_sand_21 (C_Mm_fails0 g m mp mf mh mn mt mz mc_ mq mgr ml mi mr mm mu mk mx th pt cl wa co_ fi bu ho lh mg wd fpi fal po de 1) rfl rfl (Nat.le_of_ble_eq_true rfl) rfl (by decide) (by omega) (by omega) (fun E cs1 hx => ?_) (fun v cs1 hx => ?_)
      · exact absurd hx.1 (by simp)
      · obtain ⟨e1, rfl⟩ := hx
        cases e1
        refine ⟨rfl, ?_⟩
        refine r_st (st2 := [.int 0]) rfl ?_
        refine r_cs (cs2 := [(m, .inr (12, [.int 0, .ref mp, .int pt, .ref mf, .ref mh, .ref mn, .ref mt, .ref mz, .ref mc_, .ref mq, .ref mgr, .int cl, .int wa, .int co_, .int fi, .int bu, .int ho, .ref ml, .ref mi, .ref mr, .int lh, .int mg, .int wd, .int fpi, .int fal, .ref mm, .ref mu, .ref mk, .ref mx, .long po, .long de]))]) rfl ?_
        refine r_if_eq (tgt := 29) d_Mm_sand_24 (by decide) (fun c_24 => ?_) (fun c_24 => ?_)
        · refine r_iload_n d_Mm_sand_29 rfl 1 rfl ?_
          · refine r_lookup (off := 58) (tgt := 88) d_Mm_sand_30 (by decide) (by decide) (by decide) ?_
            refine r_aload_n d_Mm_sand_88 rfl 0 rfl ?_
            refine r_get fs_Mm_43 d_Mm_sand_89 (q0 := 0) rfl rfl ?_
            refine r_iret d_Mm_sand_92 rfl rfl ?_
            exact ⟨rfl, rfl⟩
        · exact absurd c_24 (by decide)
    · exact absurd (by decide) c_12
theorem d_Mm_sand_93 : decode prog_14_method_48_code 93 = .ok (.aload_n 0, 1) := zo_42 (zd_b zq_prog_14_method_48_code_2 29 rfl rfl rfl)
theorem d_Mm_sand_94 : decode prog_14_method_48_code 94 = .ok (.getfield 46, 3) := zo_180 (d := 0) (e := 46) (zd_b zq_prog_14_method_48_code_2 30 rfl rfl rfl) (zd_b zq_prog_14_method_48_code_2 31 rfl rfl rfl) (zd_b zq_prog_14_method_48_code_3 0 rfl rfl rfl)
theorem d_Mm_sand_97 : decode prog_14_method_48_code 97 = .ok (.ireturn, 1) := zo_172 (zd_b zq_prog_14_method_48_code_3 1 rfl rfl rfl)
set_option maxHeartbeats 4000000 in
set_option maxRecDepth 100000 in
theorem C_Mm_sand119 (g : zG) (m mp mf mh mn mt mz mc_ mq mgr ml mi mr mm mu mk mx : Nat) (th pt cl wa co_ fi bu ho lh mg wd fpi fal : Int32) (po de : Int64) : CT g M_Mm_sand [.ref m, .int 119] [(m, .inr (12, [.int th, .ref mp, .int pt, .ref mf, .ref mh, .ref mn, .ref mt, .ref mz, .ref mc_, .ref mq, .ref mgr, .int cl, .int wa, .int co_, .int fi, .int bu, .int ho, .ref ml, .ref mi, .ref mr, .int lh, .int mg, .int wd, .int fpi, .int fal, .ref mm, .ref mu, .ref mk, .ref mx, .long po, .long de]))] (fun o cs1 => o = .inl (some (.int wa)) ∧ cs1 = [(m, .inr (12, [.int 0, .ref mp, .int pt, .ref mf, .ref mh, .ref mn, .ref mt, .ref mz, .ref mc_, .ref mq, .ref mgr, .int cl, .int wa, .int co_, .int fi, .int bu, .int ho, .ref ml, .ref mi, .ref mr, .int lh, .int mg, .int wd, .int fpi, .int fal, .ref mm, .ref mu, .ref mk, .ref mx, .long po, .long de]))]) 0 0 := by
  refine z_of (by decide) rfl (Nat.le_of_ble_eq_true rfl) (fun w0 => ?_)
  refine r_lvE (lv2 := [(0, .ref m), (1, .int 119)]) rfl ?_
  refine r_aload_n d_Mm_sand_0 rfl 0 rfl ?_
  refine r_iconst d_Mm_sand_1 (v := 0) (by decide) ?_
  refine r_put fp_Mm_84 d_Mm_sand_2 (fun h => nomatch h) rfl rfl (q0 := 0) rfl (Nat.le_of_ble_eq_true rfl) (cs' := [(m, .inr (12, [.int 0, .ref mp, .int pt, .ref mf, .ref mh, .ref mn, .ref mt, .ref mz, .ref mc_, .ref mq, .ref mgr, .int cl, .int wa, .int co_, .int fi, .int bu, .int ho, .ref ml, .ref mi, .ref mr, .int lh, .int mg, .int wd, .int fpi, .int fal, .ref mm, .ref mu, .ref mk, .ref mx, .long po, .long de]))]) rfl ?_
  refine r_aload_n d_Mm_sand_5 rfl 0 rfl ?_
  refine r_ldcS (own := "IronpourModel") (i := 5) (by decide) d_Mm_sand_6 ?_
  refine r_iload_n d_Mm_sand_8 rfl 1 rfl ?_
  refine r_callVS (As := [.int 119]) (rest := [.ref m]) (csC := []) (is := []) (i := 5) (by first | assumption | decide) rfl ln_Mm_97 w_im_String_indexOf_0 w_se_String_indexOf_0 ok_Mm_sand_String_indexOf_0 d_Mm_sand_9 (C_St_indexOf g 5 (by decide) 119) rfl rfl (Nat.le_of_ble_eq_true rfl) rfl (by decide) (by omega) (by omega) (fun E cs1 hx => ?_) (fun v cs1 hx => ?_)
  · exact absurd hx.1 (by simp)
  · obtain ⟨e1, rfl⟩ := hx
    cases e1
    refine ⟨rfl, ?_⟩
    refine r_st (st2 := [.int (z_ix 5 119), .ref m]) rfl ?_
    refine r_cs (cs2 := [(m, .inr (12, [.int 0, .ref mp, .int pt, .ref mf, .ref mh, .ref mn, .ref mt, .ref mz, .ref mc_, .ref mq, .ref mgr, .int cl, .int wa, .int co_, .int fi, .int bu, .int ho, .ref ml, .ref mi, .ref mr, .int lh, .int mg, .int wd, .int fpi, .int fal, .ref mm, .ref mu, .ref mk, .ref mx, .long po, .long de]))]) rfl ?_
    refine r_if_ge (tgt := 19) d_Mm_sand_12 (by decide) (fun c_12 => ?_) (fun c_12 => ?_)
    · refine r_iconst d_Mm_sand_19 (v := 0) (by decide) ?_
      refine r_iconst d_Mm_sand_20 (v := 1) (by decide) ?_
      refine r_callV (As := [.int 0, .int 1]) (rest := []) (csC := [(m, .inr (12, [.int 0, .ref mp, .int pt, .ref mf, .ref mh, .ref mn, .ref mt, .ref mz, .ref mc_, .ref mq, .ref mgr, .int cl, .int wa, .int co_, .int fi, .int bu, .int ho, .ref ml, .ref mi, .ref mr, .int lh, .int mg, .int wd, .int fpi, .int fal, .ref mm, .ref mu, .ref mk, .ref mx, .long po, .long de]))]) (is := [0]) (q0 := 0) rfl rfl ln_Mm_103 w_im_Mm_fails w_se_Mm_fails ok_Mm_sand_Mm_fails d_Mm_sand_21 (C_Mm_fails0 g m mp mf mh mn mt mz mc_ mq mgr ml mi mr mm mu mk mx th pt cl wa co_ fi bu ho lh mg wd fpi fal po de 1) rfl rfl (Nat.le_of_ble_eq_true rfl) rfl (by decide) (by omega) (by omega) (fun E cs1 hx => ?_) (fun v cs1 hx => ?_)
      · exact absurd hx.1 (by simp)
      · obtain ⟨e1, rfl⟩ := hx
        cases e1
        refine ⟨rfl, ?_⟩
        refine r_st (st2 := [.int 0]) rfl ?_
        refine r_cs (cs2 := [(m, .inr (12, [.int 0, .ref mp, .int pt, .ref mf, .ref mh, .ref mn, .ref mt, .ref mz, .ref mc_, .ref mq, .ref mgr, .int cl, .int wa, .int co_, .int fi, .int bu, .int ho, .ref ml, .ref mi, .ref mr, .int lh, .int mg, .int wd, .int fpi, .int fal, .ref mm, .ref mu, .ref mk, .ref mx, .long po, .long de]))]) rfl ?_
        refine r_if_eq (tgt := 29) d_Mm_sand_24 (by decide) (fun c_24 => ?_) (fun c_24 => ?_)
        · refine r_iload_n d_Mm_sand_29 rfl 1 rfl ?_
          · refine r_lookup (off := 63) (tgt := 93) d_Mm_sand_30 (by decide) (by decide) (by decide) ?_
            refine r_aload_n d_Mm_sand_93 rfl 0 rfl ?_
            refine r_get fs_Mm_46 d_Mm_sand_94 (q0 := 0) rfl rfl ?_
            refine r_iret d_Mm_sand_97 rfl rfl ?_
            exact ⟨rfl, rfl⟩
        · exact absurd c_24 (by decide)
    · exact absurd (by decide) c_12
theorem d_Mm_sand_98 : decode prog_14_method_48_code 98 = .ok (.aload_n 0, 1) := zo_42 (zd_b zq_prog_14_method_48_code_3 2 rfl rfl rfl)
theorem d_Mm_sand_99 : decode prog_14_method_48_code 99 = .ok (.getfield 49, 3) := zo_180 (d := 0) (e := 49) (zd_b zq_prog_14_method_48_code_3 3 rfl rfl rfl) (zd_b zq_prog_14_method_48_code_3 4 rfl rfl rfl) (zd_b zq_prog_14_method_48_code_3 5 rfl rfl rfl)
theorem d_Mm_sand_102 : decode prog_14_method_48_code 102 = .ok (.ireturn, 1) := zo_172 (zd_b zq_prog_14_method_48_code_3 6 rfl rfl rfl)
set_option maxHeartbeats 4000000 in
set_option maxRecDepth 100000 in
theorem C_Mm_sand107 (g : zG) (m mp mf mh mn mt mz mc_ mq mgr ml mi mr mm mu mk mx : Nat) (th pt cl wa co_ fi bu ho lh mg wd fpi fal : Int32) (po de : Int64) : CT g M_Mm_sand [.ref m, .int 107] [(m, .inr (12, [.int th, .ref mp, .int pt, .ref mf, .ref mh, .ref mn, .ref mt, .ref mz, .ref mc_, .ref mq, .ref mgr, .int cl, .int wa, .int co_, .int fi, .int bu, .int ho, .ref ml, .ref mi, .ref mr, .int lh, .int mg, .int wd, .int fpi, .int fal, .ref mm, .ref mu, .ref mk, .ref mx, .long po, .long de]))] (fun o cs1 => o = .inl (some (.int co_)) ∧ cs1 = [(m, .inr (12, [.int 0, .ref mp, .int pt, .ref mf, .ref mh, .ref mn, .ref mt, .ref mz, .ref mc_, .ref mq, .ref mgr, .int cl, .int wa, .int co_, .int fi, .int bu, .int ho, .ref ml, .ref mi, .ref mr, .int lh, .int mg, .int wd, .int fpi, .int fal, .ref mm, .ref mu, .ref mk, .ref mx, .long po, .long de]))]) 0 0 := by
  refine z_of (by decide) rfl (Nat.le_of_ble_eq_true rfl) (fun w0 => ?_)
  refine r_lvE (lv2 := [(0, .ref m), (1, .int 107)]) rfl ?_
  refine r_aload_n d_Mm_sand_0 rfl 0 rfl ?_
  refine r_iconst d_Mm_sand_1 (v := 0) (by decide) ?_
  refine r_put fp_Mm_84 d_Mm_sand_2 (fun h => nomatch h) rfl rfl (q0 := 0) rfl (Nat.le_of_ble_eq_true rfl) (cs' := [(m, .inr (12, [.int 0, .ref mp, .int pt, .ref mf, .ref mh, .ref mn, .ref mt, .ref mz, .ref mc_, .ref mq, .ref mgr, .int cl, .int wa, .int co_, .int fi, .int bu, .int ho, .ref ml, .ref mi, .ref mr, .int lh, .int mg, .int wd, .int fpi, .int fal, .ref mm, .ref mu, .ref mk, .ref mx, .long po, .long de]))]) rfl ?_
  refine r_aload_n d_Mm_sand_5 rfl 0 rfl ?_
  refine r_ldcS (own := "IronpourModel") (i := 5) (by decide) d_Mm_sand_6 ?_
  refine r_iload_n d_Mm_sand_8 rfl 1 rfl ?_
  refine r_callVS (As := [.int 107]) (rest := [.ref m]) (csC := []) (is := []) (i := 5) (by first | assumption | decide) rfl ln_Mm_97 w_im_String_indexOf_0 w_se_String_indexOf_0 ok_Mm_sand_String_indexOf_0 d_Mm_sand_9 (C_St_indexOf g 5 (by decide) 107) rfl rfl (Nat.le_of_ble_eq_true rfl) rfl (by decide) (by omega) (by omega) (fun E cs1 hx => ?_) (fun v cs1 hx => ?_)
  · exact absurd hx.1 (by simp)
  · obtain ⟨e1, rfl⟩ := hx
    cases e1
    refine ⟨rfl, ?_⟩
    refine r_st (st2 := [.int (z_ix 5 107), .ref m]) rfl ?_
    refine r_cs (cs2 := [(m, .inr (12, [.int 0, .ref mp, .int pt, .ref mf, .ref mh, .ref mn, .ref mt, .ref mz, .ref mc_, .ref mq, .ref mgr, .int cl, .int wa, .int co_, .int fi, .int bu, .int ho, .ref ml, .ref mi, .ref mr, .int lh, .int mg, .int wd, .int fpi, .int fal, .ref mm, .ref mu, .ref mk, .ref mx, .long po, .long de]))]) rfl ?_
    refine r_if_ge (tgt := 19) d_Mm_sand_12 (by decide) (fun c_12 => ?_) (fun c_12 => ?_)
    · refine r_iconst d_Mm_sand_19 (v := 0) (by decide) ?_
      refine r_iconst d_Mm_sand_20 (v := 1) (by decide) ?_
      refine r_callV (As := [.int 0, .int 1]) (rest := []) (csC := [(m, .inr (12, [.int 0, .ref mp, .int pt, .ref mf, .ref mh, .ref mn, .ref mt, .ref mz, .ref mc_, .ref mq, .ref mgr, .int cl, .int wa, .int co_, .int fi, .int bu, .int ho, .ref ml, .ref mi, .ref mr, .int lh, .int mg, .int wd, .int fpi, .int fal, .ref mm, .ref mu, .ref mk, .ref mx, .long po, .long de]))]) (is := [0]) (q0 := 0) rfl rfl ln_Mm_103 w_im_Mm_fails w_se_Mm_fails ok_Mm_sand_Mm_fails d_Mm_sand_21 (C_Mm_fails0 g m mp mf mh mn mt mz mc_ mq mgr ml mi mr mm mu mk mx th pt cl wa co_ fi bu ho lh mg wd fpi fal po de 1) rfl rfl (Nat.le_of_ble_eq_true rfl) rfl (by decide) (by omega) (by omega) (fun E cs1 hx => ?_) (fun v cs1 hx => ?_)
      · exact absurd hx.1 (by simp)
      · obtain ⟨e1, rfl⟩ := hx
        cases e1
        refine ⟨rfl, ?_⟩
        refine r_st (st2 := [.int 0]) rfl ?_
        refine r_cs (cs2 := [(m, .inr (12, [.int 0, .ref mp, .int pt, .ref mf, .ref mh, .ref mn, .ref mt, .ref mz, .ref mc_, .ref mq, .ref mgr, .int cl, .int wa, .int co_, .int fi, .int bu, .int ho, .ref ml, .ref mi, .ref mr, .int lh, .int mg, .int wd, .int fpi, .int fal, .ref mm, .ref mu, .ref mk, .ref mx, .long po, .long de]))]) rfl ?_
        refine r_if_eq (tgt := 29) d_Mm_sand_24 (by decide) (fun c_24 => ?_) (fun c_24 => ?_)
        · refine r_iload_n d_Mm_sand_29 rfl 1 rfl ?_
          · refine r_lookup (off := 68) (tgt := 98) d_Mm_sand_30 (by decide) (by decide) (by decide) ?_
            refine r_aload_n d_Mm_sand_98 rfl 0 rfl ?_
            refine r_get fs_Mm_49 d_Mm_sand_99 (q0 := 0) rfl rfl ?_
            refine r_iret d_Mm_sand_102 rfl rfl ?_
            exact ⟨rfl, rfl⟩
        · exact absurd c_24 (by decide)
    · exact absurd (by decide) c_12
theorem d_Mm_sand_103 : decode prog_14_method_48_code 103 = .ok (.aload_n 0, 1) := zo_42 (zd_b zq_prog_14_method_48_code_3 7 rfl rfl rfl)
theorem d_Mm_sand_104 : decode prog_14_method_48_code 104 = .ok (.getfield 52, 3) := zo_180 (d := 0) (e := 52) (zd_b zq_prog_14_method_48_code_3 8 rfl rfl rfl) (zd_b zq_prog_14_method_48_code_3 9 rfl rfl rfl) (zd_b zq_prog_14_method_48_code_3 10 rfl rfl rfl)
theorem d_Mm_sand_107 : decode prog_14_method_48_code 107 = .ok (.ireturn, 1) := zo_172 (zd_b zq_prog_14_method_48_code_3 11 rfl rfl rfl)
set_option maxHeartbeats 4000000 in
set_option maxRecDepth 100000 in
theorem C_Mm_sand102 (g : zG) (m mp mf mh mn mt mz mc_ mq mgr ml mi mr mm mu mk mx : Nat) (th pt cl wa co_ fi bu ho lh mg wd fpi fal : Int32) (po de : Int64) : CT g M_Mm_sand [.ref m, .int 102] [(m, .inr (12, [.int th, .ref mp, .int pt, .ref mf, .ref mh, .ref mn, .ref mt, .ref mz, .ref mc_, .ref mq, .ref mgr, .int cl, .int wa, .int co_, .int fi, .int bu, .int ho, .ref ml, .ref mi, .ref mr, .int lh, .int mg, .int wd, .int fpi, .int fal, .ref mm, .ref mu, .ref mk, .ref mx, .long po, .long de]))] (fun o cs1 => o = .inl (some (.int fi)) ∧ cs1 = [(m, .inr (12, [.int 0, .ref mp, .int pt, .ref mf, .ref mh, .ref mn, .ref mt, .ref mz, .ref mc_, .ref mq, .ref mgr, .int cl, .int wa, .int co_, .int fi, .int bu, .int ho, .ref ml, .ref mi, .ref mr, .int lh, .int mg, .int wd, .int fpi, .int fal, .ref mm, .ref mu, .ref mk, .ref mx, .long po, .long de]))]) 0 0 := by
  refine z_of (by decide) rfl (Nat.le_of_ble_eq_true rfl) (fun w0 => ?_)
  refine r_lvE (lv2 := [(0, .ref m), (1, .int 102)]) rfl ?_
  refine r_aload_n d_Mm_sand_0 rfl 0 rfl ?_
  refine r_iconst d_Mm_sand_1 (v := 0) (by decide) ?_
  refine r_put fp_Mm_84 d_Mm_sand_2 (fun h => nomatch h) rfl rfl (q0 := 0) rfl (Nat.le_of_ble_eq_true rfl) (cs' := [(m, .inr (12, [.int 0, .ref mp, .int pt, .ref mf, .ref mh, .ref mn, .ref mt, .ref mz, .ref mc_, .ref mq, .ref mgr, .int cl, .int wa, .int co_, .int fi, .int bu, .int ho, .ref ml, .ref mi, .ref mr, .int lh, .int mg, .int wd, .int fpi, .int fal, .ref mm, .ref mu, .ref mk, .ref mx, .long po, .long de]))]) rfl ?_
  refine r_aload_n d_Mm_sand_5 rfl 0 rfl ?_
  refine r_ldcS (own := "IronpourModel") (i := 5) (by decide) d_Mm_sand_6 ?_
  refine r_iload_n d_Mm_sand_8 rfl 1 rfl ?_
  refine r_callVS (As := [.int 102]) (rest := [.ref m]) (csC := []) (is := []) (i := 5) (by first | assumption | decide) rfl ln_Mm_97 w_im_String_indexOf_0 w_se_String_indexOf_0 ok_Mm_sand_String_indexOf_0 d_Mm_sand_9 (C_St_indexOf g 5 (by decide) 102) rfl rfl (Nat.le_of_ble_eq_true rfl) rfl (by decide) (by omega) (by omega) (fun E cs1 hx => ?_) (fun v cs1 hx => ?_)
  · exact absurd hx.1 (by simp)
  · obtain ⟨e1, rfl⟩ := hx
    cases e1
    refine ⟨rfl, ?_⟩
    refine r_st (st2 := [.int (z_ix 5 102), .ref m]) rfl ?_
    refine r_cs (cs2 := [(m, .inr (12, [.int 0, .ref mp, .int pt, .ref mf, .ref mh, .ref mn, .ref mt, .ref mz, .ref mc_, .ref mq, .ref mgr, .int cl, .int wa, .int co_, .int fi, .int bu, .int ho, .ref ml, .ref mi, .ref mr, .int lh, .int mg, .int wd, .int fpi, .int fal, .ref mm, .ref mu, .ref mk, .ref mx, .long po, .long de]))]) rfl ?_
    refine r_if_ge (tgt := 19) d_Mm_sand_12 (by decide) (fun c_12 => ?_) (fun c_12 => ?_)
    · refine r_iconst d_Mm_sand_19 (v := 0) (by decide) ?_
      refine r_iconst d_Mm_sand_20 (v := 1) (by decide) ?_
      refine r_callV (As := [.int 0, .int 1]) (rest := []) (csC := [(m, .inr (12, [.int 0, .ref mp, .int pt, .ref mf, .ref mh, .ref mn, .ref mt, .ref mz, .ref mc_, .ref mq, .ref mgr, .int cl, .int wa, .int co_, .int fi, .int bu, .int ho, .ref ml, .ref mi, .ref mr, .int lh, .int mg, .int wd, .int fpi, .int fal, .ref mm, .ref mu, .ref mk, .ref mx, .long po, .long de]))]) (is := [0]) (q0 := 0) rfl rfl ln_Mm_103 w_im_Mm_fails w_se_Mm_fails ok_Mm_sand_Mm_fails d_Mm_sand_21 (C_Mm_fails0 g m mp mf mh mn mt mz mc_ mq mgr ml mi mr mm mu mk mx th pt cl wa co_ fi bu ho lh mg wd fpi fal po de 1) rfl rfl (Nat.le_of_ble_eq_true rfl) rfl (by decide) (by omega) (by omega) (fun E cs1 hx => ?_) (fun v cs1 hx => ?_)
      · exact absurd hx.1 (by simp)
      · obtain ⟨e1, rfl⟩ := hx
        cases e1
        refine ⟨rfl, ?_⟩
        refine r_st (st2 := [.int 0]) rfl ?_
        refine r_cs (cs2 := [(m, .inr (12, [.int 0, .ref mp, .int pt, .ref mf, .ref mh, .ref mn, .ref mt, .ref mz, .ref mc_, .ref mq, .ref mgr, .int cl, .int wa, .int co_, .int fi, .int bu, .int ho, .ref ml, .ref mi, .ref mr, .int lh, .int mg, .int wd, .int fpi, .int fal, .ref mm, .ref mu, .ref mk, .ref mx, .long po, .long de]))]) rfl ?_
        refine r_if_eq (tgt := 29) d_Mm_sand_24 (by decide) (fun c_24 => ?_) (fun c_24 => ?_)
        · refine r_iload_n d_Mm_sand_29 rfl 1 rfl ?_
          · refine r_lookup (off := 73) (tgt := 103) d_Mm_sand_30 (by decide) (by decide) (by decide) ?_
            refine r_aload_n d_Mm_sand_103 rfl 0 rfl ?_
            refine r_get fs_Mm_52 d_Mm_sand_104 (q0 := 0) rfl rfl ?_
            refine r_iret d_Mm_sand_107 rfl rfl ?_
            exact ⟨rfl, rfl⟩
        · exact absurd c_24 (by decide)
    · exact absurd (by decide) c_12
theorem d_Mm_sand_108 : decode prog_14_method_48_code 108 = .ok (.aload_n 0, 1) := zo_42 (zd_b zq_prog_14_method_48_code_3 12 rfl rfl rfl)
theorem d_Mm_sand_109 : decode prog_14_method_48_code 109 = .ok (.getfield 190, 3) := zo_180 (d := 0) (e := 190) (zd_b zq_prog_14_method_48_code_3 13 rfl rfl rfl) (zd_b zq_prog_14_method_48_code_3 14 rfl rfl rfl) (zd_b zq_prog_14_method_48_code_3 15 rfl rfl rfl)
theorem d_Mm_sand_112 : decode prog_14_method_48_code 112 = .ok (.ireturn, 1) := zo_172 (zd_b zq_prog_14_method_48_code_3 16 rfl rfl rfl)
set_option maxHeartbeats 4000000 in
set_option maxRecDepth 100000 in
theorem C_Mm_sand98 (g : zG) (m mp mf mh mn mt mz mc_ mq mgr ml mi mr mm mu mk mx : Nat) (th pt cl wa co_ fi bu ho lh mg wd fpi fal : Int32) (po de : Int64) : CT g M_Mm_sand [.ref m, .int 98] [(m, .inr (12, [.int th, .ref mp, .int pt, .ref mf, .ref mh, .ref mn, .ref mt, .ref mz, .ref mc_, .ref mq, .ref mgr, .int cl, .int wa, .int co_, .int fi, .int bu, .int ho, .ref ml, .ref mi, .ref mr, .int lh, .int mg, .int wd, .int fpi, .int fal, .ref mm, .ref mu, .ref mk, .ref mx, .long po, .long de]))] (fun o cs1 => o = .inl (some (.int bu)) ∧ cs1 = [(m, .inr (12, [.int 0, .ref mp, .int pt, .ref mf, .ref mh, .ref mn, .ref mt, .ref mz, .ref mc_, .ref mq, .ref mgr, .int cl, .int wa, .int co_, .int fi, .int bu, .int ho, .ref ml, .ref mi, .ref mr, .int lh, .int mg, .int wd, .int fpi, .int fal, .ref mm, .ref mu, .ref mk, .ref mx, .long po, .long de]))]) 0 0 := by
  refine z_of (by decide) rfl (Nat.le_of_ble_eq_true rfl) (fun w0 => ?_)
  refine r_lvE (lv2 := [(0, .ref m), (1, .int 98)]) rfl ?_
  refine r_aload_n d_Mm_sand_0 rfl 0 rfl ?_
  refine r_iconst d_Mm_sand_1 (v := 0) (by decide) ?_
  refine r_put fp_Mm_84 d_Mm_sand_2 (fun h => nomatch h) rfl rfl (q0 := 0) rfl (Nat.le_of_ble_eq_true rfl) (cs' := [(m, .inr (12, [.int 0, .ref mp, .int pt, .ref mf, .ref mh, .ref mn, .ref mt, .ref mz, .ref mc_, .ref mq, .ref mgr, .int cl, .int wa, .int co_, .int fi, .int bu, .int ho, .ref ml, .ref mi, .ref mr, .int lh, .int mg, .int wd, .int fpi, .int fal, .ref mm, .ref mu, .ref mk, .ref mx, .long po, .long de]))]) rfl ?_
  refine r_aload_n d_Mm_sand_5 rfl 0 rfl ?_
  refine r_ldcS (own := "IronpourModel") (i := 5) (by decide) d_Mm_sand_6 ?_
  refine r_iload_n d_Mm_sand_8 rfl 1 rfl ?_
  refine r_callVS (As := [.int 98]) (rest := [.ref m]) (csC := []) (is := []) (i := 5) (by first | assumption | decide) rfl ln_Mm_97 w_im_String_indexOf_0 w_se_String_indexOf_0 ok_Mm_sand_String_indexOf_0 d_Mm_sand_9 (C_St_indexOf g 5 (by decide) 98) rfl rfl (Nat.le_of_ble_eq_true rfl) rfl (by decide) (by omega) (by omega) (fun E cs1 hx => ?_) (fun v cs1 hx => ?_)
  · exact absurd hx.1 (by simp)
  · obtain ⟨e1, rfl⟩ := hx
    cases e1
    refine ⟨rfl, ?_⟩
    refine r_st (st2 := [.int (z_ix 5 98), .ref m]) rfl ?_
    refine r_cs (cs2 := [(m, .inr (12, [.int 0, .ref mp, .int pt, .ref mf, .ref mh, .ref mn, .ref mt, .ref mz, .ref mc_, .ref mq, .ref mgr, .int cl, .int wa, .int co_, .int fi, .int bu, .int ho, .ref ml, .ref mi, .ref mr, .int lh, .int mg, .int wd, .int fpi, .int fal, .ref mm, .ref mu, .ref mk, .ref mx, .long po, .long de]))]) rfl ?_
    refine r_if_ge (tgt := 19) d_Mm_sand_12 (by decide) (fun c_12 => ?_) (fun c_12 => ?_)
    · refine r_iconst d_Mm_sand_19 (v := 0) (by decide) ?_
      refine r_iconst d_Mm_sand_20 (v := 1) (by decide) ?_
      refine r_callV (As := [.int 0, .int 1]) (rest := []) (csC := [(m, .inr (12, [.int 0, .ref mp, .int pt, .ref mf, .ref mh, .ref mn, .ref mt, .ref mz, .ref mc_, .ref mq, .ref mgr, .int cl, .int wa, .int co_, .int fi, .int bu, .int ho, .ref ml, .ref mi, .ref mr, .int lh, .int mg, .int wd, .int fpi, .int fal, .ref mm, .ref mu, .ref mk, .ref mx, .long po, .long de]))]) (is := [0]) (q0 := 0) rfl rfl ln_Mm_103 w_im_Mm_fails w_se_Mm_fails ok_Mm_sand_Mm_fails d_Mm_sand_21 (C_Mm_fails0 g m mp mf mh mn mt mz mc_ mq mgr ml mi mr mm mu mk mx th pt cl wa co_ fi bu ho lh mg wd fpi fal po de 1) rfl rfl (Nat.le_of_ble_eq_true rfl) rfl (by decide) (by omega) (by omega) (fun E cs1 hx => ?_) (fun v cs1 hx => ?_)
      · exact absurd hx.1 (by simp)
      · obtain ⟨e1, rfl⟩ := hx
        cases e1
        refine ⟨rfl, ?_⟩
        refine r_st (st2 := [.int 0]) rfl ?_
        refine r_cs (cs2 := [(m, .inr (12, [.int 0, .ref mp, .int pt, .ref mf, .ref mh, .ref mn, .ref mt, .ref mz, .ref mc_, .ref mq, .ref mgr, .int cl, .int wa, .int co_, .int fi, .int bu, .int ho, .ref ml, .ref mi, .ref mr, .int lh, .int mg, .int wd, .int fpi, .int fal, .ref mm, .ref mu, .ref mk, .ref mx, .long po, .long de]))]) rfl ?_
        refine r_if_eq (tgt := 29) d_Mm_sand_24 (by decide) (fun c_24 => ?_) (fun c_24 => ?_)
        · refine r_iload_n d_Mm_sand_29 rfl 1 rfl ?_
          · refine r_lookup (off := 78) (tgt := 108) d_Mm_sand_30 (by decide) (by decide) (by decide) ?_
            refine r_aload_n d_Mm_sand_108 rfl 0 rfl ?_
            refine r_get fs_Mm_190 d_Mm_sand_109 (q0 := 0) rfl rfl ?_
            refine r_iret d_Mm_sand_112 rfl rfl ?_
            exact ⟨rfl, rfl⟩
        · exact absurd c_24 (by decide)
    · exact absurd (by decide) c_12
theorem d_Mm_sand_113 : decode prog_14_method_48_code 113 = .ok (.aload_n 0, 1) := zo_42 (zd_b zq_prog_14_method_48_code_3 17 rfl rfl rfl)
theorem d_Mm_sand_114 : decode prog_14_method_48_code 114 = .ok (.invokevirtual 199, 3) := zo_182 (d := 0) (e := 199) (zd_b zq_prog_14_method_48_code_3 18 rfl rfl rfl) (zd_b zq_prog_14_method_48_code_3 19 rfl rfl rfl) (zd_b zq_prog_14_method_48_code_3 20 rfl rfl rfl)
theorem ok_Mm_sand_Mm_strength : z_ok M_Mm_sand M_Mm_strength 0 := ⟨z_mj8 (i := 109) rfl (by decide +kernel), rfl, ⟨by decide +kernel, by decide +kernel, by decide +kernel⟩, ⟨by decide, by decide⟩, z_mj1 (i := 14) rfl (by decide +kernel), rfl⟩
theorem d_Mm_sand_117 : decode prog_14_method_48_code 117 = .ok (.ireturn, 1) := zo_172 (zd_b zq_prog_14_method_48_code_3 21 rfl rfl rfl)
set_option maxHeartbeats 4000000 in
set_option maxRecDepth 100000 in
theorem C_Mm_sand115 (g : zG) (m mp mf mh mn mt mz mc_ mq mgr ml mi mr mm mu mk mx : Nat) (th pt cl wa co_ fi bu ho lh mg wd fpi fal : Int32) (po de : Int64) : CT g M_Mm_sand [.ref m, .int 115] [(m, .inr (12, [.int th, .ref mp, .int pt, .ref mf, .ref mh, .ref mn, .ref mt, .ref mz, .ref mc_, .ref mq, .ref mgr, .int cl, .int wa, .int co_, .int fi, .int bu, .int ho, .ref ml, .ref mi, .ref mr, .int lh, .int mg, .int wd, .int fpi, .int fal, .ref mm, .ref mu, .ref mk, .ref mx, .long po, .long de]))] (fun o cs1 => o = .inl (some (.int (S_Mm_strength m mp mf mh mn mt mz mc_ mq mgr ml mi mr mm mu mk mx 0 pt cl wa co_ fi bu ho lh mg wd fpi fal po de))) ∧ cs1 = [(m, .inr (12, [.int 0, .ref mp, .int pt, .ref mf, .ref mh, .ref mn, .ref mt, .ref mz, .ref mc_, .ref mq, .ref mgr, .int cl, .int wa, .int co_, .int fi, .int bu, .int ho, .ref ml, .ref mi, .ref mr, .int lh, .int mg, .int wd, .int fpi, .int fal, .ref mm, .ref mu, .ref mk, .ref mx, .long po, .long de]))]) 0 0 := by
  refine z_of (by decide) rfl (Nat.le_of_ble_eq_true rfl) (fun w0 => ?_)
  refine r_lvE (lv2 := [(0, .ref m), (1, .int 115)]) rfl ?_
  refine r_aload_n d_Mm_sand_0 rfl 0 rfl ?_
  refine r_iconst d_Mm_sand_1 (v := 0) (by decide) ?_
  refine r_put fp_Mm_84 d_Mm_sand_2 (fun h => nomatch h) rfl rfl (q0 := 0) rfl (Nat.le_of_ble_eq_true rfl) (cs' := [(m, .inr (12, [.int 0, .ref mp, .int pt, .ref mf, .ref mh, .ref mn, .ref mt, .ref mz, .ref mc_, .ref mq, .ref mgr, .int cl, .int wa, .int co_, .int fi, .int bu, .int ho, .ref ml, .ref mi, .ref mr, .int lh, .int mg, .int wd, .int fpi, .int fal, .ref mm, .ref mu, .ref mk, .ref mx, .long po, .long de]))]) rfl ?_
  refine r_aload_n d_Mm_sand_5 rfl 0 rfl ?_
  refine r_ldcS (own := "IronpourModel") (i := 5) (by decide) d_Mm_sand_6 ?_
  refine r_iload_n d_Mm_sand_8 rfl 1 rfl ?_
  refine r_callVS (As := [.int 115]) (rest := [.ref m]) (csC := []) (is := []) (i := 5) (by first | assumption | decide) rfl ln_Mm_97 w_im_String_indexOf_0 w_se_String_indexOf_0 ok_Mm_sand_String_indexOf_0 d_Mm_sand_9 (C_St_indexOf g 5 (by decide) 115) rfl rfl (Nat.le_of_ble_eq_true rfl) rfl (by decide) (by omega) (by omega) (fun E cs1 hx => ?_) (fun v cs1 hx => ?_)
  · exact absurd hx.1 (by simp)
  · obtain ⟨e1, rfl⟩ := hx
    cases e1
    refine ⟨rfl, ?_⟩
    refine r_st (st2 := [.int (z_ix 5 115), .ref m]) rfl ?_
    refine r_cs (cs2 := [(m, .inr (12, [.int 0, .ref mp, .int pt, .ref mf, .ref mh, .ref mn, .ref mt, .ref mz, .ref mc_, .ref mq, .ref mgr, .int cl, .int wa, .int co_, .int fi, .int bu, .int ho, .ref ml, .ref mi, .ref mr, .int lh, .int mg, .int wd, .int fpi, .int fal, .ref mm, .ref mu, .ref mk, .ref mx, .long po, .long de]))]) rfl ?_
    refine r_if_ge (tgt := 19) d_Mm_sand_12 (by decide) (fun c_12 => ?_) (fun c_12 => ?_)
    · refine r_iconst d_Mm_sand_19 (v := 0) (by decide) ?_
      refine r_iconst d_Mm_sand_20 (v := 1) (by decide) ?_
      refine r_callV (As := [.int 0, .int 1]) (rest := []) (csC := [(m, .inr (12, [.int 0, .ref mp, .int pt, .ref mf, .ref mh, .ref mn, .ref mt, .ref mz, .ref mc_, .ref mq, .ref mgr, .int cl, .int wa, .int co_, .int fi, .int bu, .int ho, .ref ml, .ref mi, .ref mr, .int lh, .int mg, .int wd, .int fpi, .int fal, .ref mm, .ref mu, .ref mk, .ref mx, .long po, .long de]))]) (is := [0]) (q0 := 0) rfl rfl ln_Mm_103 w_im_Mm_fails w_se_Mm_fails ok_Mm_sand_Mm_fails d_Mm_sand_21 (C_Mm_fails0 g m mp mf mh mn mt mz mc_ mq mgr ml mi mr mm mu mk mx th pt cl wa co_ fi bu ho lh mg wd fpi fal po de 1) rfl rfl (Nat.le_of_ble_eq_true rfl) rfl (by decide) (by omega) (by omega) (fun E cs1 hx => ?_) (fun v cs1 hx => ?_)
      · exact absurd hx.1 (by simp)
      · obtain ⟨e1, rfl⟩ := hx
        cases e1
        refine ⟨rfl, ?_⟩
        refine r_st (st2 := [.int 0]) rfl ?_
        refine r_cs (cs2 := [(m, .inr (12, [.int 0, .ref mp, .int pt, .ref mf, .ref mh, .ref mn, .ref mt, .ref mz, .ref mc_, .ref mq, .ref mgr, .int cl, .int wa, .int co_, .int fi, .int bu, .int ho, .ref ml, .ref mi, .ref mr, .int lh, .int mg, .int wd, .int fpi, .int fal, .ref mm, .ref mu, .ref mk, .ref mx, .long po, .long de]))]) rfl ?_
        refine r_if_eq (tgt := 29) d_Mm_sand_24 (by decide) (fun c_24 => ?_) (fun c_24 => ?_)
        · refine r_iload_n d_Mm_sand_29 rfl 1 rfl ?_
          · refine r_lookup (off := 83) (tgt := 113) d_Mm_sand_30 (by decide) (by decide) (by decide) ?_
            refine r_aload_n d_Mm_sand_113 rfl 0 rfl ?_
            refine r_callV (As := []) (rest := []) (csC := [(m, .inr (12, [.int 0, .ref mp, .int pt, .ref mf, .ref mh, .ref mn, .ref mt, .ref mz, .ref mc_, .ref mq, .ref mgr, .int cl, .int wa, .int co_, .int fi, .int bu, .int ho, .ref ml, .ref mi, .ref mr, .int lh, .int mg, .int wd, .int fpi, .int fal, .ref mm, .ref mu, .ref mk, .ref mx, .long po, .long de]))]) (is := [0]) (q0 := 0) rfl rfl ln_Mm_199 w_im_Mm_strength w_se_Mm_strength ok_Mm_sand_Mm_strength d_Mm_sand_114 (C_Mm_strength g m mp mf mh mn mt mz mc_ mq mgr ml mi mr mm mu mk mx 0 pt cl wa co_ fi bu ho lh mg wd fpi fal po de) rfl rfl (Nat.le_of_ble_eq_true rfl) rfl (by decide) (by omega) (by omega) (fun E cs1 hx => ?_) (fun v cs1 hx => ?_)
            · exact absurd hx.1 (by simp)
            · obtain ⟨e1, rfl⟩ := hx
              cases e1
              refine ⟨rfl, ?_⟩
              refine r_st (st2 := [.int (S_Mm_strength m mp mf mh mn mt mz mc_ mq mgr ml mi mr mm mu mk mx 0 pt cl wa co_ fi bu ho lh mg wd fpi fal po de)]) rfl ?_
              refine r_cs (cs2 := [(m, .inr (12, [.int 0, .ref mp, .int pt, .ref mf, .ref mh, .ref mn, .ref mt, .ref mz, .ref mc_, .ref mq, .ref mgr, .int cl, .int wa, .int co_, .int fi, .int bu, .int ho, .ref ml, .ref mi, .ref mr, .int lh, .int mg, .int wd, .int fpi, .int fal, .ref mm, .ref mu, .ref mk, .ref mx, .long po, .long de]))]) rfl ?_
              refine r_iret d_Mm_sand_117 rfl rfl ?_
              exact ⟨rfl, rfl⟩
        · exact absurd c_24 (by decide)
    · exact absurd (by decide) c_12
theorem d_Mm_sand_118 : decode prog_14_method_48_code 118 = .ok (.aload_n 0, 1) := zo_42 (zd_b zq_prog_14_method_48_code_3 22 rfl rfl rfl)
theorem d_Mm_sand_119 : decode prog_14_method_48_code 119 = .ok (.invokevirtual 205, 3) := zo_182 (d := 0) (e := 205) (zd_b zq_prog_14_method_48_code_3 23 rfl rfl rfl) (zd_b zq_prog_14_method_48_code_3 24 rfl rfl rfl) (zd_b zq_prog_14_method_48_code_3 25 rfl rfl rfl)
theorem ok_Mm_sand_Mm_draught : z_ok M_Mm_sand M_Mm_draught 0 := ⟨z_mj8 (i := 119) rfl (by decide +kernel), rfl, ⟨by decide +kernel, by decide +kernel, by decide +kernel⟩, ⟨by decide, by decide⟩, z_mj1 (i := 14) rfl (by decide +kernel), rfl⟩
theorem ln_Mm_205 : Cond.methodLink "IronpourModel" 205 M_Mm_draught.1 ∈ z_gw := z_mj8 (i := 116) rfl (by decide +kernel)
theorem w_im_Mm_draught : Cond.instanceMethod M_Mm_draught.1 ∈ z_gw := z_mj8 (i := 118) rfl (by decide +kernel)
theorem w_se_Mm_draught : Cond.selects M_Mm_draught.1.cls M_Mm_draught.1 M_Mm_draught.1 ∈ z_gw := z_mem (i := 45) (by decide +kernel) (by decide +kernel)
theorem d_Mm_sand_122 : decode prog_14_method_48_code 122 = .ok (.ireturn, 1) := zo_172 (zd_b zq_prog_14_method_48_code_3 26 rfl rfl rfl)
set_option maxHeartbeats 4000000 in
set_option maxRecDepth 100000 in
theorem C_Mm_sand100 (g : zG) (m mp mf mh mn mt mz mc_ mq mgr ml mi mr mm mu mk mx : Nat) (th pt cl wa co_ fi bu ho lh mg wd fpi fal : Int32) (po de : Int64) : CT g M_Mm_sand [.ref m, .int 100] [(m, .inr (12, [.int th, .ref mp, .int pt, .ref mf, .ref mh, .ref mn, .ref mt, .ref mz, .ref mc_, .ref mq, .ref mgr, .int cl, .int wa, .int co_, .int fi, .int bu, .int ho, .ref ml, .ref mi, .ref mr, .int lh, .int mg, .int wd, .int fpi, .int fal, .ref mm, .ref mu, .ref mk, .ref mx, .long po, .long de]))] (fun o cs1 => o = .inl (some (.int (S_Mm_draught m mp mf mh mn mt mz mc_ mq mgr ml mi mr mm mu mk mx 0 pt cl wa co_ fi bu ho lh mg wd fpi fal po de))) ∧ cs1 = [(m, .inr (12, [.int 0, .ref mp, .int pt, .ref mf, .ref mh, .ref mn, .ref mt, .ref mz, .ref mc_, .ref mq, .ref mgr, .int cl, .int wa, .int co_, .int fi, .int bu, .int ho, .ref ml, .ref mi, .ref mr, .int lh, .int mg, .int wd, .int fpi, .int fal, .ref mm, .ref mu, .ref mk, .ref mx, .long po, .long de]))]) 0 0 := by
  refine z_of (by decide) rfl (Nat.le_of_ble_eq_true rfl) (fun w0 => ?_)
  refine r_lvE (lv2 := [(0, .ref m), (1, .int 100)]) rfl ?_
  refine r_aload_n d_Mm_sand_0 rfl 0 rfl ?_
  refine r_iconst d_Mm_sand_1 (v := 0) (by decide) ?_
  refine r_put fp_Mm_84 d_Mm_sand_2 (fun h => nomatch h) rfl rfl (q0 := 0) rfl (Nat.le_of_ble_eq_true rfl) (cs' := [(m, .inr (12, [.int 0, .ref mp, .int pt, .ref mf, .ref mh, .ref mn, .ref mt, .ref mz, .ref mc_, .ref mq, .ref mgr, .int cl, .int wa, .int co_, .int fi, .int bu, .int ho, .ref ml, .ref mi, .ref mr, .int lh, .int mg, .int wd, .int fpi, .int fal, .ref mm, .ref mu, .ref mk, .ref mx, .long po, .long de]))]) rfl ?_
  refine r_aload_n d_Mm_sand_5 rfl 0 rfl ?_
  refine r_ldcS (own := "IronpourModel") (i := 5) (by decide) d_Mm_sand_6 ?_
  refine r_iload_n d_Mm_sand_8 rfl 1 rfl ?_
  refine r_callVS (As := [.int 100]) (rest := [.ref m]) (csC := []) (is := []) (i := 5) (by first | assumption | decide) rfl ln_Mm_97 w_im_String_indexOf_0 w_se_String_indexOf_0 ok_Mm_sand_String_indexOf_0 d_Mm_sand_9 (C_St_indexOf g 5 (by decide) 100) rfl rfl (Nat.le_of_ble_eq_true rfl) rfl (by decide) (by omega) (by omega) (fun E cs1 hx => ?_) (fun v cs1 hx => ?_)
  · exact absurd hx.1 (by simp)
  · obtain ⟨e1, rfl⟩ := hx
    cases e1
    refine ⟨rfl, ?_⟩
    refine r_st (st2 := [.int (z_ix 5 100), .ref m]) rfl ?_
    refine r_cs (cs2 := [(m, .inr (12, [.int 0, .ref mp, .int pt, .ref mf, .ref mh, .ref mn, .ref mt, .ref mz, .ref mc_, .ref mq, .ref mgr, .int cl, .int wa, .int co_, .int fi, .int bu, .int ho, .ref ml, .ref mi, .ref mr, .int lh, .int mg, .int wd, .int fpi, .int fal, .ref mm, .ref mu, .ref mk, .ref mx, .long po, .long de]))]) rfl ?_
    refine r_if_ge (tgt := 19) d_Mm_sand_12 (by decide) (fun c_12 => ?_) (fun c_12 => ?_)
    · refine r_iconst d_Mm_sand_19 (v := 0) (by decide) ?_
      refine r_iconst d_Mm_sand_20 (v := 1) (by decide) ?_
      refine r_callV (As := [.int 0, .int 1]) (rest := []) (csC := [(m, .inr (12, [.int 0, .ref mp, .int pt, .ref mf, .ref mh, .ref mn, .ref mt, .ref mz, .ref mc_, .ref mq, .ref mgr, .int cl, .int wa, .int co_, .int fi, .int bu, .int ho, .ref ml, .ref mi, .ref mr, .int lh, .int mg, .int wd, .int fpi, .int fal, .ref mm, .ref mu, .ref mk, .ref mx, .long po, .long de]))]) (is := [0]) (q0 := 0) rfl rfl ln_Mm_103 w_im_Mm_fails w_se_Mm_fails ok_Mm_sand_Mm_fails d_Mm_sand_21 (C_Mm_fails0 g m mp mf mh mn mt mz mc_ mq mgr ml mi mr mm mu mk mx th pt cl wa co_ fi bu ho lh mg wd fpi fal po de 1) rfl rfl (Nat.le_of_ble_eq_true rfl) rfl (by decide) (by omega) (by omega) (fun E cs1 hx => ?_) (fun v cs1 hx => ?_)
      · exact absurd hx.1 (by simp)
      · obtain ⟨e1, rfl⟩ := hx
        cases e1
        refine ⟨rfl, ?_⟩
        refine r_st (st2 := [.int 0]) rfl ?_
        refine r_cs (cs2 := [(m, .inr (12, [.int 0, .ref mp, .int pt, .ref mf, .ref mh, .ref mn, .ref mt, .ref mz, .ref mc_, .ref mq, .ref mgr, .int cl, .int wa, .int co_, .int fi, .int bu, .int ho, .ref ml, .ref mi, .ref mr, .int lh, .int mg, .int wd, .int fpi, .int fal, .ref mm, .ref mu, .ref mk, .ref mx, .long po, .long de]))]) rfl ?_
        refine r_if_eq (tgt := 29) d_Mm_sand_24 (by decide) (fun c_24 => ?_) (fun c_24 => ?_)
        · refine r_iload_n d_Mm_sand_29 rfl 1 rfl ?_
          · refine r_lookup (off := 88) (tgt := 118) d_Mm_sand_30 (by decide) (by decide) (by decide) ?_
            refine r_aload_n d_Mm_sand_118 rfl 0 rfl ?_
            refine r_callV (As := []) (rest := []) (csC := [(m, .inr (12, [.int 0, .ref mp, .int pt, .ref mf, .ref mh, .ref mn, .ref mt, .ref mz, .ref mc_, .ref mq, .ref mgr, .int cl, .int wa, .int co_, .int fi, .int bu, .int ho, .ref ml, .ref mi, .ref mr, .int lh, .int mg, .int wd, .int fpi, .int fal, .ref mm, .ref mu, .ref mk, .ref mx, .long po, .long de]))]) (is := [0]) (q0 := 0) rfl rfl ln_Mm_205 w_im_Mm_draught w_se_Mm_draught ok_Mm_sand_Mm_draught d_Mm_sand_119 (C_Mm_draught g m mp mf mh mn mt mz mc_ mq mgr ml mi mr mm mu mk mx 0 pt cl wa co_ fi bu ho lh mg wd fpi fal po de) rfl rfl (Nat.le_of_ble_eq_true rfl) rfl (by decide) (by omega) (by omega) (fun E cs1 hx => ?_) (fun v cs1 hx => ?_)
            · exact absurd hx.1 (by simp)
            · obtain ⟨e1, rfl⟩ := hx
              cases e1
              refine ⟨rfl, ?_⟩
              refine r_st (st2 := [.int (S_Mm_draught m mp mf mh mn mt mz mc_ mq mgr ml mi mr mm mu mk mx 0 pt cl wa co_ fi bu ho lh mg wd fpi fal po de)]) rfl ?_
              refine r_cs (cs2 := [(m, .inr (12, [.int 0, .ref mp, .int pt, .ref mf, .ref mh, .ref mn, .ref mt, .ref mz, .ref mc_, .ref mq, .ref mgr, .int cl, .int wa, .int co_, .int fi, .int bu, .int ho, .ref ml, .ref mi, .ref mr, .int lh, .int mg, .int wd, .int fpi, .int fal, .ref mm, .ref mu, .ref mk, .ref mx, .long po, .long de]))]) rfl ?_
              refine r_iret d_Mm_sand_122 rfl rfl ?_
              exact ⟨rfl, rfl⟩
        · exact absurd c_24 (by decide)
    · exact absurd (by decide) c_12
abbrev M_Mm_good : zM := (⟨"IronpourModel", "good", "()I"⟩, prog_14_method_51_code, 3, (Option.some FieldType.int), 4, 84, [])
theorem d_Mm_good_0 : decode prog_14_method_51_code 0 = .ok (.iconst 0, 1) := zo_3 (zd_b zq_prog_14_method_51_code_0 0 rfl rfl rfl)
theorem d_Mm_good_1 : decode prog_14_method_51_code 1 = .ok (.istore_n 1, 1) := zo_60 (zd_b zq_prog_14_method_51_code_0 1 rfl rfl rfl)
theorem d_Mm_good_2 : decode prog_14_method_51_code 2 = .ok (.iconst 0, 1) := zo_3 (zd_b zq_prog_14_method_51_code_0 2 rfl rfl rfl)
theorem d_Mm_good_3 : decode prog_14_method_51_code 3 = .ok (.istore_n 2, 1) := zo_61 (zd_b zq_prog_14_method_51_code_0 3 rfl rfl rfl)
theorem d_Mm_good_4 : decode prog_14_method_51_code 4 = .ok (.iload_n 2, 1) := zo_28 (zd_b zq_prog_14_method_51_code_0 4 rfl rfl rfl)
theorem d_Mm_good_5 : decode prog_14_method_51_code 5 = .ok (.aload_n 0, 1) := zo_42 (zd_b zq_prog_14_method_51_code_0 5 rfl rfl rfl)
theorem d_Mm_good_6 : decode prog_14_method_51_code 6 = .ok (.getfield 58, 3) := zo_180 (d := 0) (e := 58) (zd_b zq_prog_14_method_51_code_0 6 rfl rfl rfl) (zd_b zq_prog_14_method_51_code_0 7 rfl rfl rfl) (zd_b zq_prog_14_method_51_code_0 8 rfl rfl rfl)
theorem fs_Mm_58 : z_fs "IronpourModel" 58 12 17 := ⟨R_Mm, "IronpourModel", F_Mm, 31, rfl, u_Mm, by decide, Or.inl ⟨z_mj7 (i := 100) rfl (by decide +kernel), Or.inl rfl⟩⟩
theorem d_Mm_good_9 : decode prog_14_method_51_code 9 = .ok (.invokevirtual 208, 3) := zo_182 (d := 0) (e := 208) (zd_b zq_prog_14_method_51_code_0 9 rfl rfl rfl) (zd_b zq_prog_14_method_51_code_0 10 rfl rfl rfl) (zd_b zq_prog_14_method_51_code_0 11 rfl rfl rfl)
theorem ok_Mm_good_AL_size : z_ok M_Mm_good M_AL_size 0 := ⟨z_mj2 (i := 172) rfl (by decide +kernel), rfl, ⟨by decide +kernel, by decide +kernel, by decide +kernel⟩, ⟨by decide, by decide⟩, z_mj1 (i := 13) rfl (by decide +kernel), rfl⟩
theorem ln_Mm_208 : Cond.methodLink "IronpourModel" 208 M_AL_size.1 ∈ z_gw := z_mj8 (i := 124) rfl (by decide +kernel)
theorem w_im_AL_size : Cond.instanceMethod M_AL_size.1 ∈ z_gw := z_mj2 (i := 170) rfl (by decide +kernel)
theorem w_se_AL_size : Cond.selects M_AL_size.1.cls M_AL_size.1 M_AL_size.1 ∈ z_gw := z_mj2 (i := 171) rfl (by decide +kernel)
theorem d_Mm_good_12 : decode prog_14_method_51_code 12 = .ok (.if_icmp .ge 49, 3) := zo_162 (d := 0) (e := 49) (zd_b zq_prog_14_method_51_code_0 12 rfl rfl rfl) (zd_b zq_prog_14_method_51_code_0 13 rfl rfl rfl) (zd_b zq_prog_14_method_51_code_0 14 rfl rfl rfl) (by decide +kernel)
theorem d_Mm_good_61 : decode prog_14_method_51_code 61 = .ok (.iload_n 1, 1) := zo_27 (zd_b zq_prog_14_method_51_code_1 29 rfl rfl rfl)
theorem d_Mm_good_62 : decode prog_14_method_51_code 62 = .ok (.ireturn, 1) := zo_172 (zd_b zq_prog_14_method_51_code_1 30 rfl rfl rfl)
abbrev M_Mm_goodCores : zM := (⟨"IronpourModel", "goodCores", "()I"⟩, prog_14_method_52_code, 1, (Option.some FieldType.int), 5, 106, [])
theorem d_Mm_goodCores_0 : decode prog_14_method_52_code 0 = .ok (.aload_n 0, 1) := zo_42 (zd_b zq_prog_14_method_52_code_0 0 rfl rfl rfl)
theorem d_Mm_goodCores_1 : decode prog_14_method_52_code 1 = .ok (.iconst 0, 1) := zo_3 (zd_b zq_prog_14_method_52_code_0 1 rfl rfl rfl)
theorem d_Mm_goodCores_2 : decode prog_14_method_52_code 2 = .ok (.putfield 84, 3) := zo_181 (d := 0) (e := 84) (zd_b zq_prog_14_method_52_code_0 2 rfl rfl rfl) (zd_b zq_prog_14_method_52_code_0 3 rfl rfl rfl) (zd_b zq_prog_14_method_52_code_0 4 rfl rfl rfl)
theorem d_Mm_goodCores_5 : decode prog_14_method_52_code 5 = .ok (.aload_n 0, 1) := zo_42 (zd_b zq_prog_14_method_52_code_0 5 rfl rfl rfl)
theorem d_Mm_goodCores_6 : decode prog_14_method_52_code 6 = .ok (.invokevirtual 226, 3) := zo_182 (d := 0) (e := 226) (zd_b zq_prog_14_method_52_code_0 6 rfl rfl rfl) (zd_b zq_prog_14_method_52_code_0 7 rfl rfl rfl) (zd_b zq_prog_14_method_52_code_0 8 rfl rfl rfl)
theorem ok_Mm_goodCores_Mm_good : z_ok M_Mm_goodCores M_Mm_good 0 := ⟨z_mj8 (i := 139) rfl (by decide +kernel), rfl, ⟨by decide +kernel, by decide +kernel, by decide +kernel⟩, ⟨by decide, by decide⟩, z_mj1 (i := 14) rfl (by decide +kernel), rfl⟩
theorem ln_Mm_226 : Cond.methodLink "IronpourModel" 226 M_Mm_good.1 ∈ z_gw := z_mj8 (i := 136) rfl (by decide +kernel)
theorem w_im_Mm_good : Cond.instanceMethod M_Mm_good.1 ∈ z_gw := z_mj8 (i := 138) rfl (by decide +kernel)
theorem w_se_Mm_good : Cond.selects M_Mm_good.1.cls M_Mm_good.1 M_Mm_good.1 ∈ z_gw := z_mem (i := 47) (by decide +kernel) (by decide +kernel)
theorem d_Mm_goodCores_9 : decode prog_14_method_52_code 9 = .ok (.ireturn, 1) := zo_172 (zd_b zq_prog_14_method_52_code_0 9 rfl rfl rfl)
abbrev M_Mm_hours : zM := (⟨"IronpourModel", "hours", "(I)I"⟩, prog_14_method_53_code, 4, (Option.some FieldType.int), 4, 146, [])
theorem d_Mm_hours_0 : decode prog_14_method_53_code 0 = .ok (.aload_n 0, 1) := zo_42 (zd_b zq_prog_14_method_53_code_0 0 rfl rfl rfl)
theorem d_Mm_hours_1 : decode prog_14_method_53_code 1 = .ok (.iconst 0, 1) := zo_3 (zd_b zq_prog_14_method_53_code_0 1 rfl rfl rfl)
theorem d_Mm_hours_2 : decode prog_14_method_53_code 2 = .ok (.putfield 84, 3) := zo_181 (d := 0) (e := 84) (zd_b zq_prog_14_method_53_code_0 2 rfl rfl rfl) (zd_b zq_prog_14_method_53_code_0 3 rfl rfl rfl) (zd_b zq_prog_14_method_53_code_0 4 rfl rfl rfl)
theorem d_Mm_hours_5 : decode prog_14_method_53_code 5 = .ok (.aload_n 0, 1) := zo_42 (zd_b zq_prog_14_method_53_code_0 5 rfl rfl rfl)
theorem d_Mm_hours_6 : decode prog_14_method_53_code 6 = .ok (.iload_n 1, 1) := zo_27 (zd_b zq_prog_14_method_53_code_0 6 rfl rfl rfl)
theorem d_Mm_hours_7 : decode prog_14_method_53_code 7 = .ok (.iconst 1, 1) := zo_4 (zd_b zq_prog_14_method_53_code_0 7 rfl rfl rfl)
theorem d_Mm_hours_8 : decode prog_14_method_53_code 8 = .ok (.bipush 48, 2) := zo_16 (d := 48) (zd_b zq_prog_14_method_53_code_0 8 rfl rfl rfl) (zd_b zq_prog_14_method_53_code_0 9 rfl rfl rfl) (by decide +kernel)
theorem d_Mm_hours_10 : decode prog_14_method_53_code 10 = .ok (.invokestatic 87, 3) := zo_184 (d := 0) (e := 87) (zd_b zq_prog_14_method_53_code_0 10 rfl rfl rfl) (zd_b zq_prog_14_method_53_code_0 11 rfl rfl rfl) (zd_b zq_prog_14_method_53_code_0 12 rfl rfl rfl)
theorem ok_Mm_hours_Mm_in : z_ok M_Mm_hours M_Mm_in 3 := ⟨z_mj7 (i := 190) rfl (by decide +kernel), rfl, ⟨by decide +kernel, by decide +kernel, by decide +kernel⟩, ⟨by decide, by decide⟩, z_mj1 (i := 14) rfl (by decide +kernel), rfl⟩
theorem d_Mm_hours_13 : decode prog_14_method_53_code 13 = .ok (.ifCond .ne 7, 3) := zo_154 (d := 0) (e := 7) (zd_b zq_prog_14_method_53_code_0 13 rfl rfl rfl) (zd_b zq_prog_14_method_53_code_0 14 rfl rfl rfl) (zd_b zq_prog_14_method_53_code_0 15 rfl rfl rfl) (by decide +kernel)
theorem d_Mm_hours_16 : decode prog_14_method_53_code 16 = .ok (.iconst 1, 1) := zo_4 (zd_b zq_prog_14_method_53_code_0 16 rfl rfl rfl)
theorem d_Mm_hours_17 : decode prog_14_method_53_code 17 = .ok (.goto 4, 3) := zo_167 (d := 0) (e := 4) (zd_b zq_prog_14_method_53_code_0 17 rfl rfl rfl) (zd_b zq_prog_14_method_53_code_0 18 rfl rfl rfl) (zd_b zq_prog_14_method_53_code_0 19 rfl rfl rfl) (by decide +kernel)
theorem d_Mm_hours_21 : decode prog_14_method_53_code 21 = .ok (.iconst 1, 1) := zo_4 (zd_b zq_prog_14_method_53_code_0 21 rfl rfl rfl)
theorem d_Mm_hours_22 : decode prog_14_method_53_code 22 = .ok (.invokevirtual 103, 3) := zo_182 (d := 0) (e := 103) (zd_b zq_prog_14_method_53_code_0 22 rfl rfl rfl) (zd_b zq_prog_14_method_53_code_0 23 rfl rfl rfl) (zd_b zq_prog_14_method_53_code_0 24 rfl rfl rfl)
theorem ok_Mm_hours_Mm_fails : z_ok M_Mm_hours M_Mm_fails 2 := ⟨z_mj7 (i := 196) rfl (by decide +kernel), rfl, ⟨by decide +kernel, by decide +kernel, by decide +kernel⟩, ⟨by decide, by decide⟩, z_mj1 (i := 14) rfl (by decide +kernel), rfl⟩
theorem d_Mm_hours_25 : decode prog_14_method_53_code 25 = .ok (.ifCond .eq 5, 3) := zo_153 (d := 0) (e := 5) (zd_b zq_prog_14_method_53_code_0 25 rfl rfl rfl) (zd_b zq_prog_14_method_53_code_0 26 rfl rfl rfl) (zd_b zq_prog_14_method_53_code_0 27 rfl rfl rfl) (by decide +kernel)
theorem d_Mm_hours_28 : decode prog_14_method_53_code 28 = .ok (.iconst 0, 1) := zo_3 (zd_b zq_prog_14_method_53_code_0 28 rfl rfl rfl)
theorem d_Mm_hours_29 : decode prog_14_method_53_code 29 = .ok (.ireturn, 1) := zo_172 (zd_b zq_prog_14_method_53_code_0 29 rfl rfl rfl)
theorem d_Mm_hours_20 : decode prog_14_method_53_code 20 = .ok (.iconst 0, 1) := zo_3 (zd_b zq_prog_14_method_53_code_0 20 rfl rfl rfl)
theorem d_Mm_hours_30 : decode prog_14_method_53_code 30 = .ok (.aload_n 0, 1) := zo_42 (zd_b zq_prog_14_method_53_code_0 30 rfl rfl rfl)
theorem d_Mm_hours_31 : decode prog_14_method_53_code 31 = .ok (.dup, 1) := zo_89 (zd_b zq_prog_14_method_53_code_0 31 rfl rfl rfl)
theorem d_Mm_hours_32 : decode prog_14_method_53_code 32 = .ok (.getfield 216, 3) := zo_180 (d := 0) (e := 216) (zd_b zq_prog_14_method_53_code_1 0 rfl rfl rfl) (zd_b zq_prog_14_method_53_code_1 1 rfl rfl rfl) (zd_b zq_prog_14_method_53_code_1 2 rfl rfl rfl)
theorem fs_Mm_216 : z_fs "IronpourModel" 216 12 16 := ⟨R_Mm, "IronpourModel", F_Mm, 31, rfl, u_Mm, by decide, Or.inl ⟨z_mj7 (i := 99) rfl (by decide +kernel), Or.inl rfl⟩⟩
theorem d_Mm_hours_35 : decode prog_14_method_53_code 35 = .ok (.iload_n 1, 1) := zo_27 (zd_b zq_prog_14_method_53_code_1 3 rfl rfl rfl)
theorem d_Mm_hours_36 : decode prog_14_method_53_code 36 = .ok (.iadd, 1) := zo_96 (zd_b zq_prog_14_method_53_code_1 4 rfl rfl rfl)
theorem d_Mm_hours_37 : decode prog_14_method_53_code 37 = .ok (.putfield 216, 3) := zo_181 (d := 0) (e := 216) (zd_b zq_prog_14_method_53_code_1 5 rfl rfl rfl) (zd_b zq_prog_14_method_53_code_1 6 rfl rfl rfl) (zd_b zq_prog_14_method_53_code_1 7 rfl rfl rfl)
theorem fp_Mm_216 : z_fp "IronpourModel" 216 12 16 false .int := ⟨R_Mm, "IronpourModel", F_Mm, 31, t_Mm, rfl, u_Mm, by decide, t_Mm_ok, n_Mm, rfl, rfl, Or.inl ⟨z_mj7 (i := 99) rfl (by decide +kernel), Or.inl rfl, fun h => nomatch h⟩⟩
theorem d_Mm_hours_40 : decode prog_14_method_53_code 40 = .ok (.iconst 0, 1) := zo_3 (zd_b zq_prog_14_method_53_code_1 8 rfl rfl rfl)
theorem d_Mm_hours_41 : decode prog_14_method_53_code 41 = .ok (.istore_n 2, 1) := zo_61 (zd_b zq_prog_14_method_53_code_1 9 rfl rfl rfl)
theorem d_Mm_hours_42 : decode prog_14_method_53_code 42 = .ok (.aload_n 0, 1) := zo_42 (zd_b zq_prog_14_method_53_code_1 10 rfl rfl rfl)
theorem d_Mm_hours_43 : decode prog_14_method_53_code 43 = .ok (.getfield 58, 3) := zo_180 (d := 0) (e := 58) (zd_b zq_prog_14_method_53_code_1 11 rfl rfl rfl) (zd_b zq_prog_14_method_53_code_1 12 rfl rfl rfl) (zd_b zq_prog_14_method_53_code_1 13 rfl rfl rfl)
theorem d_Mm_hours_46 : decode prog_14_method_53_code 46 = .ok (.invokevirtual 208, 3) := zo_182 (d := 0) (e := 208) (zd_b zq_prog_14_method_53_code_1 14 rfl rfl rfl) (zd_b zq_prog_14_method_53_code_1 15 rfl rfl rfl) (zd_b zq_prog_14_method_53_code_1 16 rfl rfl rfl)
theorem ok_Mm_hours_AL_size : z_ok M_Mm_hours M_AL_size 0 := ⟨z_mj2 (i := 172) rfl (by decide +kernel), rfl, ⟨by decide +kernel, by decide +kernel, by decide +kernel⟩, ⟨by decide, by decide⟩, z_mj1 (i := 13) rfl (by decide +kernel), rfl⟩
theorem d_Mm_hours_49 : decode prog_14_method_53_code 49 = .ok (.iconst 1, 1) := zo_4 (zd_b zq_prog_14_method_53_code_1 17 rfl rfl rfl)
theorem d_Mm_hours_50 : decode prog_14_method_53_code 50 = .ok (.isub, 1) := zo_100 (zd_b zq_prog_14_method_53_code_1 18 rfl rfl rfl)
theorem d_Mm_hours_51 : decode prog_14_method_53_code 51 = .ok (.istore_n 3, 1) := zo_62 (zd_b zq_prog_14_method_53_code_1 19 rfl rfl rfl)
theorem d_Mm_hours_52 : decode prog_14_method_53_code 52 = .ok (.iload_n 3, 1) := zo_29 (zd_b zq_prog_14_method_53_code_1 20 rfl rfl rfl)
theorem d_Mm_hours_53 : decode prog_14_method_53_code 53 = .ok (.ifCond .lt 57, 3) := zo_155 (d := 0) (e := 57) (zd_b zq_prog_14_method_53_code_1 21 rfl rfl rfl) (zd_b zq_prog_14_method_53_code_1 22 rfl rfl rfl) (zd_b zq_prog_14_method_53_code_1 23 rfl rfl rfl) (by decide +kernel)
theorem d_Mm_hours_110 : decode prog_14_method_53_code 110 = .ok (.iload_n 2, 1) := zo_28 (zd_b zq_prog_14_method_53_code_3 14 rfl rfl rfl)
theorem d_Mm_hours_111 : decode prog_14_method_53_code 111 = .ok (.ireturn, 1) := zo_172 (zd_b zq_prog_14_method_53_code_3 15 rfl rfl rfl)
abbrev M_Mm_makeCores : zM := (⟨"IronpourModel", "makeCores", "(II)I"⟩, prog_14_method_50_code, 4, (Option.some FieldType.int), 8, 231, [])
theorem d_Mm_makeCores_0 : decode prog_14_method_50_code 0 = .ok (.aload_n 0, 1) := zo_42 (zd_b zq_prog_14_method_50_code_0 0 rfl rfl rfl)
theorem d_Mm_makeCores_1 : decode prog_14_method_50_code 1 = .ok (.iconst 0, 1) := zo_3 (zd_b zq_prog_14_method_50_code_0 1 rfl rfl rfl)
theorem d_Mm_makeCores_2 : decode prog_14_method_50_code 2 = .ok (.putfield 84, 3) := zo_181 (d := 0) (e := 84) (zd_b zq_prog_14_method_50_code_0 2 rfl rfl rfl) (zd_b zq_prog_14_method_50_code_0 3 rfl rfl rfl) (zd_b zq_prog_14_method_50_code_0 4 rfl rfl rfl)
theorem d_Mm_makeCores_5 : decode prog_14_method_50_code 5 = .ok (.aload_n 0, 1) := zo_42 (zd_b zq_prog_14_method_50_code_0 5 rfl rfl rfl)
theorem d_Mm_makeCores_6 : decode prog_14_method_50_code 6 = .ok (.iload_n 1, 1) := zo_27 (zd_b zq_prog_14_method_50_code_0 6 rfl rfl rfl)
theorem d_Mm_makeCores_7 : decode prog_14_method_50_code 7 = .ok (.iconst 1, 1) := zo_4 (zd_b zq_prog_14_method_50_code_0 7 rfl rfl rfl)
theorem d_Mm_makeCores_8 : decode prog_14_method_50_code 8 = .ok (.bipush 10, 2) := zo_16 (d := 10) (zd_b zq_prog_14_method_50_code_0 8 rfl rfl rfl) (zd_b zq_prog_14_method_50_code_0 9 rfl rfl rfl) (by decide +kernel)
theorem d_Mm_makeCores_10 : decode prog_14_method_50_code 10 = .ok (.invokestatic 87, 3) := zo_184 (d := 0) (e := 87) (zd_b zq_prog_14_method_50_code_0 10 rfl rfl rfl) (zd_b zq_prog_14_method_50_code_0 11 rfl rfl rfl) (zd_b zq_prog_14_method_50_code_0 12 rfl rfl rfl)
theorem ok_Mm_makeCores_Mm_in : z_ok M_Mm_makeCores M_Mm_in 3 := ⟨z_mj7 (i := 190) rfl (by decide +kernel), rfl, ⟨by decide +kernel, by decide +kernel, by decide +kernel⟩, ⟨by decide, by decide⟩, z_mj1 (i := 14) rfl (by decide +kernel), rfl⟩
theorem d_Mm_makeCores_13 : decode prog_14_method_50_code 13 = .ok (.ifCond .eq 13, 3) := zo_153 (d := 0) (e := 13) (zd_b zq_prog_14_method_50_code_0 13 rfl rfl rfl) (zd_b zq_prog_14_method_50_code_0 14 rfl rfl rfl) (zd_b zq_prog_14_method_50_code_0 15 rfl rfl rfl) (by decide +kernel)
theorem d_Mm_makeCores_26 : decode prog_14_method_50_code 26 = .ok (.iconst 1, 1) := zo_4 (zd_b zq_prog_14_method_50_code_0 26 rfl rfl rfl)
theorem d_Mm_makeCores_27 : decode prog_14_method_50_code 27 = .ok (.goto 4, 3) := zo_167 (d := 0) (e := 4) (zd_b zq_prog_14_method_50_code_0 27 rfl rfl rfl) (zd_b zq_prog_14_method_50_code_0 28 rfl rfl rfl) (zd_b zq_prog_14_method_50_code_0 29 rfl rfl rfl) (by decide +kernel)
theorem d_Mm_makeCores_31 : decode prog_14_method_50_code 31 = .ok (.iconst 1, 1) := zo_4 (zd_b zq_prog_14_method_50_code_0 31 rfl rfl rfl)
theorem d_Mm_makeCores_32 : decode prog_14_method_50_code 32 = .ok (.invokevirtual 103, 3) := zo_182 (d := 0) (e := 103) (zd_b zq_prog_14_method_50_code_1 0 rfl rfl rfl) (zd_b zq_prog_14_method_50_code_1 1 rfl rfl rfl) (zd_b zq_prog_14_method_50_code_1 2 rfl rfl rfl)
theorem ok_Mm_makeCores_Mm_fails : z_ok M_Mm_makeCores M_Mm_fails 2 := ⟨z_mj7 (i := 196) rfl (by decide +kernel), rfl, ⟨by decide +kernel, by decide +kernel, by decide +kernel⟩, ⟨by decide, by decide⟩, z_mj1 (i := 14) rfl (by decide +kernel), rfl⟩
theorem d_Mm_makeCores_35 : decode prog_14_method_50_code 35 = .ok (.ifCond .ne 28, 3) := zo_154 (d := 0) (e := 28) (zd_b zq_prog_14_method_50_code_1 3 rfl rfl rfl) (zd_b zq_prog_14_method_50_code_1 4 rfl rfl rfl) (zd_b zq_prog_14_method_50_code_1 5 rfl rfl rfl) (by decide +kernel)
theorem d_Mm_makeCores_63 : decode prog_14_method_50_code 63 = .ok (.iconst 0, 1) := zo_3 (zd_b zq_prog_14_method_50_code_1 31 rfl rfl rfl)
theorem d_Mm_makeCores_64 : decode prog_14_method_50_code 64 = .ok (.ireturn, 1) := zo_172 (zd_b zq_prog_14_method_50_code_2 0 rfl rfl rfl)
theorem d_Mm_makeCores_16 : decode prog_14_method_50_code 16 = .ok (.iload_n 2, 1) := zo_28 (zd_b zq_prog_14_method_50_code_0 16 rfl rfl rfl)
theorem d_Mm_makeCores_17 : decode prog_14_method_50_code 17 = .ok (.iconst 1, 1) := zo_4 (zd_b zq_prog_14_method_50_code_0 17 rfl rfl rfl)
theorem d_Mm_makeCores_18 : decode prog_14_method_50_code 18 = .ok (.bipush 24, 2) := zo_16 (d := 24) (zd_b zq_prog_14_method_50_code_0 18 rfl rfl rfl) (zd_b zq_prog_14_method_50_code_0 19 rfl rfl rfl) (by decide +kernel)
theorem d_Mm_makeCores_20 : decode prog_14_method_50_code 20 = .ok (.invokestatic 87, 3) := zo_184 (d := 0) (e := 87) (zd_b zq_prog_14_method_50_code_0 20 rfl rfl rfl) (zd_b zq_prog_14_method_50_code_0 21 rfl rfl rfl) (zd_b zq_prog_14_method_50_code_0 22 rfl rfl rfl)
theorem d_Mm_makeCores_23 : decode prog_14_method_50_code 23 = .ok (.ifCond .ne 7, 3) := zo_154 (d := 0) (e := 7) (zd_b zq_prog_14_method_50_code_0 23 rfl rfl rfl) (zd_b zq_prog_14_method_50_code_0 24 rfl rfl rfl) (zd_b zq_prog_14_method_50_code_0 25 rfl rfl rfl) (by decide +kernel)
abbrev M_Mm_inStore : zM := (⟨"IronpourModel", "inStore", "()I"⟩, prog_14_method_49_code, 3, (Option.some FieldType.int), 4, 84, [])
theorem d_Mm_inStore_0 : decode prog_14_method_49_code 0 = .ok (.iconst 0, 1) := zo_3 (zd_b zq_prog_14_method_49_code_0 0 rfl rfl rfl)
theorem d_Mm_inStore_1 : decode prog_14_method_49_code 1 = .ok (.istore_n 1, 1) := zo_60 (zd_b zq_prog_14_method_49_code_0 1 rfl rfl rfl)
theorem d_Mm_inStore_2 : decode prog_14_method_49_code 2 = .ok (.iconst 0, 1) := zo_3 (zd_b zq_prog_14_method_49_code_0 2 rfl rfl rfl)
theorem d_Mm_inStore_3 : decode prog_14_method_49_code 3 = .ok (.istore_n 2, 1) := zo_61 (zd_b zq_prog_14_method_49_code_0 3 rfl rfl rfl)
theorem d_Mm_inStore_4 : decode prog_14_method_49_code 4 = .ok (.iload_n 2, 1) := zo_28 (zd_b zq_prog_14_method_49_code_0 4 rfl rfl rfl)
theorem d_Mm_inStore_5 : decode prog_14_method_49_code 5 = .ok (.aload_n 0, 1) := zo_42 (zd_b zq_prog_14_method_49_code_0 5 rfl rfl rfl)
theorem d_Mm_inStore_6 : decode prog_14_method_49_code 6 = .ok (.getfield 58, 3) := zo_180 (d := 0) (e := 58) (zd_b zq_prog_14_method_49_code_0 6 rfl rfl rfl) (zd_b zq_prog_14_method_49_code_0 7 rfl rfl rfl) (zd_b zq_prog_14_method_49_code_0 8 rfl rfl rfl)
theorem d_Mm_inStore_9 : decode prog_14_method_49_code 9 = .ok (.invokevirtual 208, 3) := zo_182 (d := 0) (e := 208) (zd_b zq_prog_14_method_49_code_0 9 rfl rfl rfl) (zd_b zq_prog_14_method_49_code_0 10 rfl rfl rfl) (zd_b zq_prog_14_method_49_code_0 11 rfl rfl rfl)
theorem ok_Mm_inStore_AL_size : z_ok M_Mm_inStore M_AL_size 0 := ⟨z_mj2 (i := 172) rfl (by decide +kernel), rfl, ⟨by decide +kernel, by decide +kernel, by decide +kernel⟩, ⟨by decide, by decide⟩, z_mj1 (i := 13) rfl (by decide +kernel), rfl⟩
theorem d_Mm_inStore_12 : decode prog_14_method_49_code 12 = .ok (.if_icmp .ge 25, 3) := zo_162 (d := 0) (e := 25) (zd_b zq_prog_14_method_49_code_0 12 rfl rfl rfl) (zd_b zq_prog_14_method_49_code_0 13 rfl rfl rfl) (zd_b zq_prog_14_method_49_code_0 14 rfl rfl rfl) (by decide +kernel)
theorem d_Mm_inStore_15 : decode prog_14_method_49_code 15 = .ok (.iload_n 1, 1) := zo_27 (zd_b zq_prog_14_method_49_code_0 15 rfl rfl rfl)
theorem d_Mm_inStore_16 : decode prog_14_method_49_code 16 = .ok (.aload_n 0, 1) := zo_42 (zd_b zq_prog_14_method_49_code_0 16 rfl rfl rfl)
theorem d_Mm_inStore_17 : decode prog_14_method_49_code 17 = .ok (.getfield 58, 3) := zo_180 (d := 0) (e := 58) (zd_b zq_prog_14_method_49_code_0 17 rfl rfl rfl) (zd_b zq_prog_14_method_49_code_0 18 rfl rfl rfl) (zd_b zq_prog_14_method_49_code_0 19 rfl rfl rfl)
theorem d_Mm_inStore_20 : decode prog_14_method_49_code 20 = .ok (.iload_n 2, 1) := zo_28 (zd_b zq_prog_14_method_49_code_0 20 rfl rfl rfl)
theorem d_Mm_inStore_21 : decode prog_14_method_49_code 21 = .ok (.invokevirtual 211, 3) := zo_182 (d := 0) (e := 211) (zd_b zq_prog_14_method_49_code_0 21 rfl rfl rfl) (zd_b zq_prog_14_method_49_code_0 22 rfl rfl rfl) (zd_b zq_prog_14_method_49_code_0 23 rfl rfl rfl)
theorem ok_Mm_inStore_AL_get : z_ok M_Mm_inStore M_AL_get 1 := ⟨z_mj2 (i := 180) rfl (by decide +kernel), rfl, ⟨by decide +kernel, by decide +kernel, by decide +kernel⟩, ⟨by decide, by decide⟩, z_mj1 (i := 13) rfl (by decide +kernel), rfl⟩
theorem ln_Mm_211 : Cond.methodLink "IronpourModel" 211 M_AL_get.1 ∈ z_gw := z_mj8 (i := 130) rfl (by decide +kernel)
theorem w_im_AL_get : Cond.instanceMethod M_AL_get.1 ∈ z_gw := z_mj2 (i := 178) rfl (by decide +kernel)
theorem w_se_AL_get : Cond.selects M_AL_get.1.cls M_AL_get.1 M_AL_get.1 ∈ z_gw := z_mj2 (i := 179) rfl (by decide +kernel)
theorem d_Mm_inStore_24 : decode prog_14_method_49_code 24 = .ok (.checkcast 215, 3) := zo_192 (d := 0) (e := 215) (zd_b zq_prog_14_method_49_code_0 24 rfl rfl rfl) (zd_b zq_prog_14_method_49_code_0 25 rfl rfl rfl) (zd_b zq_prog_14_method_49_code_0 26 rfl rfl rfl)
theorem lk_Mm_215 : Cond.classLink "IronpourModel" 215 (z_an 0) ∈ z_gw := z_mj8 (i := 131) rfl (by decide +kernel)
theorem d_Mm_inStore_27 : decode prog_14_method_49_code 27 = .ok (.iconst 0, 1) := zo_3 (zd_b zq_prog_14_method_49_code_0 27 rfl rfl rfl)
theorem d_Mm_inStore_28 : decode prog_14_method_49_code 28 = .ok (.iaload, 1) := zo_46 (zd_b zq_prog_14_method_49_code_0 28 rfl rfl rfl)
theorem d_Mm_inStore_29 : decode prog_14_method_49_code 29 = .ok (.iadd, 1) := zo_96 (zd_b zq_prog_14_method_49_code_0 29 rfl rfl rfl)
theorem d_Mm_inStore_30 : decode prog_14_method_49_code 30 = .ok (.istore_n 1, 1) := zo_60 (zd_b zq_prog_14_method_49_code_0 30 rfl rfl rfl)
theorem d_Mm_inStore_31 : decode prog_14_method_49_code 31 = .ok (.iinc 2 1, 3) := by decide +kernel
theorem d_Mm_inStore_34 : decode prog_14_method_49_code 34 = .ok (.goto (-30), 3) := zo_167 (d := 255) (e := 226) (zd_b zq_prog_14_method_49_code_1 2 rfl rfl rfl) (zd_b zq_prog_14_method_49_code_1 3 rfl rfl rfl) (zd_b zq_prog_14_method_49_code_1 4 rfl rfl rfl) (by decide +kernel)
theorem d_Mm_inStore_37 : decode prog_14_method_49_code 37 = .ok (.iload_n 1, 1) := zo_27 (zd_b zq_prog_14_method_49_code_1 5 rfl rfl rfl)
theorem d_Mm_inStore_38 : decode prog_14_method_49_code 38 = .ok (.ireturn, 1) := zo_172 (zd_b zq_prog_14_method_49_code_1 6 rfl rfl rfl)
theorem d_Mm_makeCores_30 : decode prog_14_method_50_code 30 = .ok (.iconst 0, 1) := zo_3 (zd_b zq_prog_14_method_50_code_0 30 rfl rfl rfl)
theorem d_Mm_makeCores_38 : decode prog_14_method_50_code 38 = .ok (.aload_n 0, 1) := zo_42 (zd_b zq_prog_14_method_50_code_1 6 rfl rfl rfl)
theorem d_Mm_makeCores_39 : decode prog_14_method_50_code 39 = .ok (.aload_n 0, 1) := zo_42 (zd_b zq_prog_14_method_50_code_1 7 rfl rfl rfl)
theorem d_Mm_makeCores_40 : decode prog_14_method_50_code 40 = .ok (.getfield 58, 3) := zo_180 (d := 0) (e := 58) (zd_b zq_prog_14_method_50_code_1 8 rfl rfl rfl) (zd_b zq_prog_14_method_50_code_1 9 rfl rfl rfl) (zd_b zq_prog_14_method_50_code_1 10 rfl rfl rfl)
theorem d_Mm_makeCores_43 : decode prog_14_method_50_code 43 = .ok (.invokevirtual 208, 3) := zo_182 (d := 0) (e := 208) (zd_b zq_prog_14_method_50_code_1 11 rfl rfl rfl) (zd_b zq_prog_14_method_50_code_1 12 rfl rfl rfl) (zd_b zq_prog_14_method_50_code_1 13 rfl rfl rfl)
theorem ok_Mm_makeCores_AL_size : z_ok M_Mm_makeCores M_AL_size 0 := ⟨z_mj2 (i := 172) rfl (by decide +kernel), rfl, ⟨by decide +kernel, by decide +kernel, by decide +kernel⟩, ⟨by decide, by decide⟩, z_mj1 (i := 13) rfl (by decide +kernel), rfl⟩
theorem d_Mm_makeCores_46 : decode prog_14_method_50_code 46 = .ok (.bipush 20, 2) := zo_16 (d := 20) (zd_b zq_prog_14_method_50_code_1 14 rfl rfl rfl) (zd_b zq_prog_14_method_50_code_1 15 rfl rfl rfl) (by decide +kernel)
theorem d_Mm_makeCores_48 : decode prog_14_method_50_code 48 = .ok (.if_icmp .ne 7, 3) := zo_160 (d := 0) (e := 7) (zd_b zq_prog_14_method_50_code_1 16 rfl rfl rfl) (zd_b zq_prog_14_method_50_code_1 17 rfl rfl rfl) (zd_b zq_prog_14_method_50_code_1 18 rfl rfl rfl) (by decide +kernel)
theorem d_Mm_makeCores_55 : decode prog_14_method_50_code 55 = .ok (.iconst 0, 1) := zo_3 (zd_b zq_prog_14_method_50_code_1 23 rfl rfl rfl)
theorem d_Mm_makeCores_56 : decode prog_14_method_50_code 56 = .ok (.iconst 2, 1) := zo_5 (zd_b zq_prog_14_method_50_code_1 24 rfl rfl rfl)
theorem d_Mm_makeCores_57 : decode prog_14_method_50_code 57 = .ok (.invokevirtual 103, 3) := zo_182 (d := 0) (e := 103) (zd_b zq_prog_14_method_50_code_1 25 rfl rfl rfl) (zd_b zq_prog_14_method_50_code_1 26 rfl rfl rfl) (zd_b zq_prog_14_method_50_code_1 27 rfl rfl rfl)
theorem d_Mm_makeCores_60 : decode prog_14_method_50_code 60 = .ok (.ifCond .eq 5, 3) := zo_153 (d := 0) (e := 5) (zd_b zq_prog_14_method_50_code_1 28 rfl rfl rfl) (zd_b zq_prog_14_method_50_code_1 29 rfl rfl rfl) (zd_b zq_prog_14_method_50_code_1 30 rfl rfl rfl) (by decide +kernel)
theorem d_Mm_makeCores_65 : decode prog_14_method_50_code 65 = .ok (.iconst 2, 1) := zo_5 (zd_b zq_prog_14_method_50_code_2 1 rfl rfl rfl)
theorem d_Mm_makeCores_66 : decode prog_14_method_50_code 66 = .ok (.newarray .int, 2) := by decide +kernel
theorem d_Mm_makeCores_68 : decode prog_14_method_50_code 68 = .ok (.astore_n 3, 1) := zo_78 (zd_b zq_prog_14_method_50_code_2 4 rfl rfl rfl)
theorem d_Mm_makeCores_69 : decode prog_14_method_50_code 69 = .ok (.aload_n 3, 1) := zo_45 (zd_b zq_prog_14_method_50_code_2 5 rfl rfl rfl)
theorem d_Mm_makeCores_70 : decode prog_14_method_50_code 70 = .ok (.iconst 0, 1) := zo_3 (zd_b zq_prog_14_method_50_code_2 6 rfl rfl rfl)
theorem d_Mm_makeCores_71 : decode prog_14_method_50_code 71 = .ok (.iload_n 1, 1) := zo_27 (zd_b zq_prog_14_method_50_code_2 7 rfl rfl rfl)
theorem d_Mm_makeCores_72 : decode prog_14_method_50_code 72 = .ok (.iastore, 1) := zo_79 (zd_b zq_prog_14_method_50_code_2 8 rfl rfl rfl)
theorem d_Mm_makeCores_73 : decode prog_14_method_50_code 73 = .ok (.aload_n 3, 1) := zo_45 (zd_b zq_prog_14_method_50_code_2 9 rfl rfl rfl)
theorem d_Mm_makeCores_74 : decode prog_14_method_50_code 74 = .ok (.iconst 1, 1) := zo_4 (zd_b zq_prog_14_method_50_code_2 10 rfl rfl rfl)
theorem d_Mm_makeCores_75 : decode prog_14_method_50_code 75 = .ok (.aload_n 0, 1) := zo_42 (zd_b zq_prog_14_method_50_code_2 11 rfl rfl rfl)
theorem d_Mm_makeCores_76 : decode prog_14_method_50_code 76 = .ok (.getfield 216, 3) := zo_180 (d := 0) (e := 216) (zd_b zq_prog_14_method_50_code_2 12 rfl rfl rfl) (zd_b zq_prog_14_method_50_code_2 13 rfl rfl rfl) (zd_b zq_prog_14_method_50_code_2 14 rfl rfl rfl)
theorem d_Mm_makeCores_79 : decode prog_14_method_50_code 79 = .ok (.iload_n 2, 1) := zo_28 (zd_b zq_prog_14_method_50_code_2 15 rfl rfl rfl)
theorem d_Mm_makeCores_80 : decode prog_14_method_50_code 80 = .ok (.iadd, 1) := zo_96 (zd_b zq_prog_14_method_50_code_2 16 rfl rfl rfl)
theorem d_Mm_makeCores_81 : decode prog_14_method_50_code 81 = .ok (.iastore, 1) := zo_79 (zd_b zq_prog_14_method_50_code_2 17 rfl rfl rfl)
theorem d_Mm_makeCores_82 : decode prog_14_method_50_code 82 = .ok (.aload_n 0, 1) := zo_42 (zd_b zq_prog_14_method_50_code_2 18 rfl rfl rfl)
theorem d_Mm_makeCores_83 : decode prog_14_method_50_code 83 = .ok (.getfield 58, 3) := zo_180 (d := 0) (e := 58) (zd_b zq_prog_14_method_50_code_2 19 rfl rfl rfl) (zd_b zq_prog_14_method_50_code_2 20 rfl rfl rfl) (zd_b zq_prog_14_method_50_code_2 21 rfl rfl rfl)
theorem d_Mm_makeCores_86 : decode prog_14_method_50_code 86 = .ok (.aload_n 3, 1) := zo_45 (zd_b zq_prog_14_method_50_code_2 22 rfl rfl rfl)
theorem d_Mm_makeCores_87 : decode prog_14_method_50_code 87 = .ok (.invokevirtual 219, 3) := zo_182 (d := 0) (e := 219) (zd_b zq_prog_14_method_50_code_2 23 rfl rfl rfl) (zd_b zq_prog_14_method_50_code_2 24 rfl rfl rfl) (zd_b zq_prog_14_method_50_code_2 25 rfl rfl rfl)
theorem ok_Mm_makeCores_AL_add_0 : z_ok M_Mm_makeCores M_AL_add_0 1 := ⟨z_mj6 (i := 34) rfl (by decide +kernel), rfl, ⟨by decide +kernel, by decide +kernel, by decide +kernel⟩, ⟨by decide, by decide⟩, z_mj1 (i := 13) rfl (by decide +kernel), rfl⟩
theorem ln_Mm_219 : Cond.methodLink "IronpourModel" 219 M_AL_add_0.1 ∈ z_gw := z_mj8 (i := 125) rfl (by decide +kernel)
theorem w_im_AL_add_0 : Cond.instanceMethod M_AL_add_0.1 ∈ z_gw := z_mj6 (i := 32) rfl (by decide +kernel)
theorem w_se_AL_add_0 : Cond.selects M_AL_add_0.1.cls M_AL_add_0.1 M_AL_add_0.1 ∈ z_gw := z_mj6 (i := 33) rfl (by decide +kernel)
theorem d_Mm_makeCores_90 : decode prog_14_method_50_code 90 = .ok (.pop, 1) := zo_87 (zd_b zq_prog_14_method_50_code_2 26 rfl rfl rfl)
theorem d_Mm_makeCores_91 : decode prog_14_method_50_code 91 = .ok (.aload_n 0, 1) := zo_42 (zd_b zq_prog_14_method_50_code_2 27 rfl rfl rfl)
theorem d_Mm_makeCores_92 : decode prog_14_method_50_code 92 = .ok (.invokevirtual 223, 3) := zo_182 (d := 0) (e := 223) (zd_b zq_prog_14_method_50_code_2 28 rfl rfl rfl) (zd_b zq_prog_14_method_50_code_2 29 rfl rfl rfl) (zd_b zq_prog_14_method_50_code_2 30 rfl rfl rfl)
theorem ok_Mm_makeCores_Mm_inStore : z_ok M_Mm_makeCores M_Mm_inStore 0 := ⟨z_mj8 (i := 129) rfl (by decide +kernel), rfl, ⟨by decide +kernel, by decide +kernel, by decide +kernel⟩, ⟨by decide, by decide⟩, z_mj1 (i := 14) rfl (by decide +kernel), rfl⟩
theorem ln_Mm_223 : Cond.methodLink "IronpourModel" 223 M_Mm_inStore.1 ∈ z_gw := z_mj8 (i := 126) rfl (by decide +kernel)
theorem w_im_Mm_inStore : Cond.instanceMethod M_Mm_inStore.1 ∈ z_gw := z_mj8 (i := 128) rfl (by decide +kernel)
theorem w_se_Mm_inStore : Cond.selects M_Mm_inStore.1.cls M_Mm_inStore.1 M_Mm_inStore.1 ∈ z_gw := z_mem (i := 46) (by decide +kernel) (by decide +kernel)
theorem d_Mm_makeCores_95 : decode prog_14_method_50_code 95 = .ok (.ireturn, 1) := zo_172 (zd_b zq_prog_14_method_50_code_2 31 rfl rfl rfl)
end
section
def hdE (gr : Nat → Int64) (e : Nat) (d : Int64) : Nat → Int64 := vp_updL gr e (gr e - gr e / d)
def hdR (gr : Nat → Int64) : Nat → Nat → Int64
  | 0 => gr
  | i + 1 => hdE (hdE (hdE (hdR gr i) 0 2000) 1 4000) 2 4000
abbrev M_Mm_element : zM := (⟨"IronpourModel", "element", "(C)I"⟩, prog_14_method_55_code, 1, (Option.some FieldType.int), 8, 179, [])
theorem d_Mm_element_0 : decode prog_14_method_55_code 0 = .ok (.ldc 232, 2) := zo_18 (d := 232) (zd_b zq_prog_14_method_55_code_0 0 rfl rfl rfl) (zd_b zq_prog_14_method_55_code_0 1 rfl rfl rfl)
theorem d_Mm_element_2 : decode prog_14_method_55_code 2 = .ok (.iload_n 0, 1) := zo_26 (zd_b zq_prog_14_method_55_code_0 2 rfl rfl rfl)
theorem d_Mm_element_3 : decode prog_14_method_55_code 3 = .ok (.invokevirtual 97, 3) := zo_182 (d := 0) (e := 97) (zd_b zq_prog_14_method_55_code_0 3 rfl rfl rfl) (zd_b zq_prog_14_method_55_code_0 4 rfl rfl rfl) (zd_b zq_prog_14_method_55_code_0 5 rfl rfl rfl)
theorem ok_Mm_element_String_indexOf_0 : z_ok M_Mm_element M_String_indexOf_0 1 := ⟨z_mj3 (i := 58) rfl (by decide +kernel), rfl, ⟨by decide +kernel, by decide +kernel, by decide +kernel⟩, ⟨by decide, by decide⟩, z_mj1 (i := 15) rfl (by decide +kernel), rfl⟩
theorem d_Mm_element_6 : decode prog_14_method_55_code 6 = .ok (.ireturn, 1) := zo_172 (zd_b zq_prog_14_method_55_code_0 6 rfl rfl rfl)
set_option maxHeartbeats 4000000 in
set_option maxRecDepth 100000 in
theorem C_Mm_element (g : zG) (k : Int32) : CT g M_Mm_element [.int k] [] (fun o cs1 => o = .inl (some (.int (z_ix 2 k))) ∧ cs1 = []) 0 0 := by
  refine z_of (by decide) rfl (Nat.le_of_ble_eq_true rfl) (fun w0 => ?_)
  refine r_lvE (lv2 := [(0, .int k)]) rfl ?_
  refine r_ldcS (own := "IronpourModel") (i := 2) (by decide) d_Mm_element_0 ?_
  refine r_iload_n d_Mm_element_2 rfl 0 rfl ?_
  refine r_callVS (As := [.int k]) (rest := []) (csC := []) (is := []) (i := 2) (by first | assumption | decide) rfl ln_Mm_97 w_im_String_indexOf_0 w_se_String_indexOf_0 ok_Mm_element_String_indexOf_0 d_Mm_element_3 (C_St_indexOf g 2 (by decide) k) rfl rfl (Nat.le_of_ble_eq_true rfl) rfl (by decide) (by omega) (by omega) (fun E cs1 hx => ?_) (fun v cs1 hx => ?_)
  · exact absurd hx.1 (by simp)
  · obtain ⟨e1, rfl⟩ := hx
    cases e1
    refine ⟨rfl, ?_⟩
    refine r_st (st2 := [.int (z_ix 2 k)]) rfl ?_
    refine r_cs (cs2 := []) rfl ?_
    refine r_iret d_Mm_element_6 rfl rfl ?_
    exact ⟨rfl, rfl⟩
abbrev M_Mm_place : zM := (⟨"IronpourModel", "place", "(C)I"⟩, prog_14_method_67_code, 1, (Option.some FieldType.int), 1, 20, [])
theorem d_Mm_place_0 : decode prog_14_method_67_code 0 = .ok (.iload_n 0, 1) := zo_26 (zd_b zq_prog_14_method_67_code_0 0 rfl rfl rfl)
theorem d_Mm_place_1 : decode prog_14_method_67_code 1 = .ok (.bipush 103, 2) := zo_16 (d := 103) (zd_b zq_prog_14_method_67_code_0 1 rfl rfl rfl) (zd_b zq_prog_14_method_67_code_0 2 rfl rfl rfl) (by decide +kernel)
theorem d_Mm_place_3 : decode prog_14_method_67_code 3 = .ok (.if_icmp .ne 7, 3) := zo_160 (d := 0) (e := 7) (zd_b zq_prog_14_method_67_code_0 3 rfl rfl rfl) (zd_b zq_prog_14_method_67_code_0 4 rfl rfl rfl) (zd_b zq_prog_14_method_67_code_0 5 rfl rfl rfl) (by decide +kernel)
theorem d_Mm_place_6 : decode prog_14_method_67_code 6 = .ok (.iconst 2, 1) := zo_5 (zd_b zq_prog_14_method_67_code_0 6 rfl rfl rfl)
theorem d_Mm_place_7 : decode prog_14_method_67_code 7 = .ok (.goto 14, 3) := zo_167 (d := 0) (e := 14) (zd_b zq_prog_14_method_67_code_0 7 rfl rfl rfl) (zd_b zq_prog_14_method_67_code_0 8 rfl rfl rfl) (zd_b zq_prog_14_method_67_code_0 9 rfl rfl rfl) (by decide +kernel)
theorem d_Mm_place_21 : decode prog_14_method_67_code 21 = .ok (.ireturn, 1) := zo_172 (zd_b zq_prog_14_method_67_code_0 21 rfl rfl rfl)
set_option maxHeartbeats 4000000 in
set_option maxRecDepth 100000 in
theorem C_Mm_placeG (g : zG)  : CT g M_Mm_place [.int 103] [] (fun o cs1 => o = .inl (some (.int 2)) ∧ cs1 = []) 0 0 := by
  refine z_of (by decide) rfl (Nat.le_of_ble_eq_true rfl) (fun w0 => ?_)
  refine r_lvE (lv2 := [(0, .int 103)]) rfl ?_
  refine r_iload_n d_Mm_place_0 rfl 0 rfl ?_
  refine r_bipush d_Mm_place_1 (v := 103) (by decide) ?_
  refine r_icmp_ne (tgt := 10) d_Mm_place_3 (by decide) (fun c_3 => ?_) (fun c_3 => ?_)
  · exact absurd c_3 (by decide)
  · refine r_iconst d_Mm_place_6 (v := 2) (by decide) ?_
    refine r_goto (tgt := 21) d_Mm_place_7 (by decide) ?_
    refine r_iret d_Mm_place_21 rfl rfl ?_
    exact ⟨rfl, rfl⟩
theorem d_Mm_place_10 : decode prog_14_method_67_code 10 = .ok (.iload_n 0, 1) := zo_26 (zd_b zq_prog_14_method_67_code_0 10 rfl rfl rfl)
theorem d_Mm_place_11 : decode prog_14_method_67_code 11 = .ok (.bipush 100, 2) := zo_16 (d := 100) (zd_b zq_prog_14_method_67_code_0 11 rfl rfl rfl) (zd_b zq_prog_14_method_67_code_0 12 rfl rfl rfl) (by decide +kernel)
theorem d_Mm_place_13 : decode prog_14_method_67_code 13 = .ok (.if_icmp .ne 7, 3) := zo_160 (d := 0) (e := 7) (zd_b zq_prog_14_method_67_code_0 13 rfl rfl rfl) (zd_b zq_prog_14_method_67_code_0 14 rfl rfl rfl) (zd_b zq_prog_14_method_67_code_0 15 rfl rfl rfl) (by decide +kernel)
theorem d_Mm_place_16 : decode prog_14_method_67_code 16 = .ok (.iconst 3, 1) := zo_6 (zd_b zq_prog_14_method_67_code_0 16 rfl rfl rfl)
theorem d_Mm_place_17 : decode prog_14_method_67_code 17 = .ok (.goto 4, 3) := zo_167 (d := 0) (e := 4) (zd_b zq_prog_14_method_67_code_0 17 rfl rfl rfl) (zd_b zq_prog_14_method_67_code_0 18 rfl rfl rfl) (zd_b zq_prog_14_method_67_code_0 19 rfl rfl rfl) (by decide +kernel)
set_option maxHeartbeats 4000000 in
set_option maxRecDepth 100000 in
theorem C_Mm_placeD (g : zG)  : CT g M_Mm_place [.int 100] [] (fun o cs1 => o = .inl (some (.int 3)) ∧ cs1 = []) 0 0 := by
  refine z_of (by decide) rfl (Nat.le_of_ble_eq_true rfl) (fun w0 => ?_)
  refine r_lvE (lv2 := [(0, .int 100)]) rfl ?_
  refine r_iload_n d_Mm_place_0 rfl 0 rfl ?_
  refine r_bipush d_Mm_place_1 (v := 103) (by decide) ?_
  refine r_icmp_ne (tgt := 10) d_Mm_place_3 (by decide) (fun c_3 => ?_) (fun c_3 => ?_)
  · refine r_iload_n d_Mm_place_10 rfl 0 rfl ?_
    refine r_bipush d_Mm_place_11 (v := 100) (by decide) ?_
    refine r_icmp_ne (tgt := 20) d_Mm_place_13 (by decide) (fun c_13 => ?_) (fun c_13 => ?_)
    · exact absurd c_13 (by decide)
    · refine r_iconst d_Mm_place_16 (v := 3) (by decide) ?_
      refine r_goto (tgt := 21) d_Mm_place_17 (by decide) ?_
      refine r_iret d_Mm_place_21 rfl rfl ?_
      exact ⟨rfl, rfl⟩
  · exact absurd c_3 (by decide)
theorem d_Mm_place_20 : decode prog_14_method_67_code 20 = .ok (.iconst (-1), 1) := zo_2 (zd_b zq_prog_14_method_67_code_0 20 rfl rfl rfl)
set_option maxHeartbeats 4000000 in
set_option maxRecDepth 100000 in
theorem C_Mm_placeO (g : zG) (k : Int32) (h1 : ¬ k = 103) (h2 : ¬ k = 100) : CT g M_Mm_place [.int k] [] (fun o cs1 => o = .inl (some (.int (-1))) ∧ cs1 = []) 0 0 := by
  refine z_of (by decide) rfl (Nat.le_of_ble_eq_true rfl) (fun w0 => ?_)
  refine r_lvE (lv2 := [(0, .int k)]) rfl ?_
  refine r_iload_n d_Mm_place_0 rfl 0 rfl ?_
  refine r_bipush d_Mm_place_1 (v := 103) (by decide) ?_
  refine r_icmp_ne (tgt := 10) d_Mm_place_3 (by decide) (fun c_3 => ?_) (fun c_3 => ?_)
  · refine r_iload_n d_Mm_place_10 rfl 0 rfl ?_
    refine r_bipush d_Mm_place_11 (v := 100) (by decide) ?_
    refine r_icmp_ne (tgt := 20) d_Mm_place_13 (by decide) (fun c_13 => ?_) (fun c_13 => ?_)
    · refine r_iconst d_Mm_place_20 (v := (-1)) (by decide) ?_
      refine r_iret d_Mm_place_21 rfl rfl ?_
      exact ⟨rfl, rfl⟩
    · exact absurd c_13 h2
  · exact absurd c_3 h1
abbrev M_Mm_tenths : zM := (⟨"IronpourModel", "tenths", "(CI)I"⟩, prog_14_method_56_code, 2, (Option.some FieldType.int), 1, 20, [])
theorem d_Mm_tenths_0 : decode prog_14_method_56_code 0 = .ok (.iload_n 0, 1) := zo_26 (zd_b zq_prog_14_method_56_code_0 0 rfl rfl rfl)
theorem d_Mm_tenths_1 : decode prog_14_method_56_code 1 = .ok (.lookupswitch 120 #[(102, 99), (112, 35), (115, 68)], 35) := by decide +kernel
theorem d_Mm_tenths_36 : decode prog_14_method_56_code 36 = .ok (.iload_n 1, 1) := zo_27 (zd_b zq_prog_14_method_56_code_1 4 rfl rfl rfl)
theorem d_Mm_tenths_37 : decode prog_14_method_56_code 37 = .ok (.ifCond .ne 9, 3) := zo_154 (d := 0) (e := 9) (zd_b zq_prog_14_method_56_code_1 5 rfl rfl rfl) (zd_b zq_prog_14_method_56_code_1 6 rfl rfl rfl) (zd_b zq_prog_14_method_56_code_1 7 rfl rfl rfl) (by decide +kernel)
theorem d_Mm_tenths_40 : decode prog_14_method_56_code 40 = .ok (.sipush 420, 3) := zo_17 (d := 1) (e := 164) (zd_b zq_prog_14_method_56_code_1 8 rfl rfl rfl) (zd_b zq_prog_14_method_56_code_1 9 rfl rfl rfl) (zd_b zq_prog_14_method_56_code_1 10 rfl rfl rfl) (by decide +kernel)
theorem d_Mm_tenths_43 : decode prog_14_method_56_code 43 = .ok (.goto 25, 3) := zo_167 (d := 0) (e := 25) (zd_b zq_prog_14_method_56_code_1 11 rfl rfl rfl) (zd_b zq_prog_14_method_56_code_1 12 rfl rfl rfl) (zd_b zq_prog_14_method_56_code_1 13 rfl rfl rfl) (by decide +kernel)
theorem d_Mm_tenths_68 : decode prog_14_method_56_code 68 = .ok (.ireturn, 1) := zo_172 (zd_b zq_prog_14_method_56_code_2 4 rfl rfl rfl)
set_option maxHeartbeats 4000000 in
set_option maxRecDepth 100000 in
theorem C_Mm_tenths112_0 (g : zG)  : CT g M_Mm_tenths [.int 112, .int 0] [] (fun o cs1 => o = .inl (some (.int 420)) ∧ cs1 = []) 0 0 := by
  refine z_of (by decide) rfl (Nat.le_of_ble_eq_true rfl) (fun w0 => ?_)
  refine r_lvE (lv2 := [(0, .int 112), (1, .int 0)]) rfl ?_
  refine r_iload_n d_Mm_tenths_0 rfl 0 rfl ?_
  · refine r_lookup (off := 35) (tgt := 36) d_Mm_tenths_1 (by decide) (by decide) (by decide) ?_
    refine r_iload_n d_Mm_tenths_36 rfl 1 rfl ?_
    refine r_if_ne (tgt := 46) d_Mm_tenths_37 (by decide) (fun c_37 => ?_) (fun c_37 => ?_)
    · exact absurd c_37 (by decide)
    · refine r_sipush d_Mm_tenths_40 (v := 420) (by decide) ?_
      refine r_goto (tgt := 68) d_Mm_tenths_43 (by decide) ?_
      refine r_iret d_Mm_tenths_68 rfl rfl ?_
      exact ⟨rfl, rfl⟩
theorem d_Mm_tenths_46 : decode prog_14_method_56_code 46 = .ok (.iload_n 1, 1) := zo_27 (zd_b zq_prog_14_method_56_code_1 14 rfl rfl rfl)
theorem d_Mm_tenths_47 : decode prog_14_method_56_code 47 = .ok (.iconst 1, 1) := zo_4 (zd_b zq_prog_14_method_56_code_1 15 rfl rfl rfl)
theorem d_Mm_tenths_48 : decode prog_14_method_56_code 48 = .ok (.if_icmp .ne 8, 3) := zo_160 (d := 0) (e := 8) (zd_b zq_prog_14_method_56_code_1 16 rfl rfl rfl) (zd_b zq_prog_14_method_56_code_1 17 rfl rfl rfl) (zd_b zq_prog_14_method_56_code_1 18 rfl rfl rfl) (by decide +kernel)
theorem d_Mm_tenths_51 : decode prog_14_method_56_code 51 = .ok (.bipush 100, 2) := zo_16 (d := 100) (zd_b zq_prog_14_method_56_code_1 19 rfl rfl rfl) (zd_b zq_prog_14_method_56_code_1 20 rfl rfl rfl) (by decide +kernel)
theorem d_Mm_tenths_53 : decode prog_14_method_56_code 53 = .ok (.goto 15, 3) := zo_167 (d := 0) (e := 15) (zd_b zq_prog_14_method_56_code_1 21 rfl rfl rfl) (zd_b zq_prog_14_method_56_code_1 22 rfl rfl rfl) (zd_b zq_prog_14_method_56_code_1 23 rfl rfl rfl) (by decide +kernel)
set_option maxHeartbeats 4000000 in
set_option maxRecDepth 100000 in
theorem C_Mm_tenths112_1 (g : zG)  : CT g M_Mm_tenths [.int 112, .int 1] [] (fun o cs1 => o = .inl (some (.int 100)) ∧ cs1 = []) 0 0 := by
  refine z_of (by decide) rfl (Nat.le_of_ble_eq_true rfl) (fun w0 => ?_)
  refine r_lvE (lv2 := [(0, .int 112), (1, .int 1)]) rfl ?_
  refine r_iload_n d_Mm_tenths_0 rfl 0 rfl ?_
  · refine r_lookup (off := 35) (tgt := 36) d_Mm_tenths_1 (by decide) (by decide) (by decide) ?_
    refine r_iload_n d_Mm_tenths_36 rfl 1 rfl ?_
    refine r_if_ne (tgt := 46) d_Mm_tenths_37 (by decide) (fun c_37 => ?_) (fun c_37 => ?_)
    · refine r_iload_n d_Mm_tenths_46 rfl 1 rfl ?_
      refine r_iconst d_Mm_tenths_47 (v := 1) (by decide) ?_
      refine r_icmp_ne (tgt := 56) d_Mm_tenths_48 (by decide) (fun c_48 => ?_) (fun c_48 => ?_)
      · exact absurd c_48 (by decide)
      · refine r_bipush d_Mm_tenths_51 (v := 100) (by decide) ?_
        refine r_goto (tgt := 68) d_Mm_tenths_53 (by decide) ?_
        refine r_iret d_Mm_tenths_68 rfl rfl ?_
        exact ⟨rfl, rfl⟩
    · exact absurd c_37 (by decide)
theorem d_Mm_tenths_56 : decode prog_14_method_56_code 56 = .ok (.iload_n 1, 1) := zo_27 (zd_b zq_prog_14_method_56_code_1 24 rfl rfl rfl)
theorem d_Mm_tenths_57 : decode prog_14_method_56_code 57 = .ok (.iconst 2, 1) := zo_5 (zd_b zq_prog_14_method_56_code_1 25 rfl rfl rfl)
theorem d_Mm_tenths_58 : decode prog_14_method_56_code 58 = .ok (.if_icmp .ne 8, 3) := zo_160 (d := 0) (e := 8) (zd_b zq_prog_14_method_56_code_1 26 rfl rfl rfl) (zd_b zq_prog_14_method_56_code_1 27 rfl rfl rfl) (zd_b zq_prog_14_method_56_code_1 28 rfl rfl rfl) (by decide +kernel)
theorem d_Mm_tenths_61 : decode prog_14_method_56_code 61 = .ok (.bipush 50, 2) := zo_16 (d := 50) (zd_b zq_prog_14_method_56_code_1 29 rfl rfl rfl) (zd_b zq_prog_14_method_56_code_1 30 rfl rfl rfl) (by decide +kernel)
theorem d_Mm_tenths_63 : decode prog_14_method_56_code 63 = .ok (.goto 5, 3) := zo_167 (d := 0) (e := 5) (zd_b zq_prog_14_method_56_code_1 31 rfl rfl rfl) (zd_b zq_prog_14_method_56_code_2 0 rfl rfl rfl) (zd_b zq_prog_14_method_56_code_2 1 rfl rfl rfl) (by decide +kernel)
set_option maxHeartbeats 4000000 in
set_option maxRecDepth 100000 in
theorem C_Mm_tenths112_2 (g : zG)  : CT g M_Mm_tenths [.int 112, .int 2] [] (fun o cs1 => o = .inl (some (.int 50)) ∧ cs1 = []) 0 0 := by
  refine z_of (by decide) rfl (Nat.le_of_ble_eq_true rfl) (fun w0 => ?_)
  refine r_lvE (lv2 := [(0, .int 112), (1, .int 2)]) rfl ?_
  refine r_iload_n d_Mm_tenths_0 rfl 0 rfl ?_
  · refine r_lookup (off := 35) (tgt := 36) d_Mm_tenths_1 (by decide) (by decide) (by decide) ?_
    refine r_iload_n d_Mm_tenths_36 rfl 1 rfl ?_
    refine r_if_ne (tgt := 46) d_Mm_tenths_37 (by decide) (fun c_37 => ?_) (fun c_37 => ?_)
    · refine r_iload_n d_Mm_tenths_46 rfl 1 rfl ?_
      refine r_iconst d_Mm_tenths_47 (v := 1) (by decide) ?_
      refine r_icmp_ne (tgt := 56) d_Mm_tenths_48 (by decide) (fun c_48 => ?_) (fun c_48 => ?_)
      · refine r_iload_n d_Mm_tenths_56 rfl 1 rfl ?_
        refine r_iconst d_Mm_tenths_57 (v := 2) (by decide) ?_
        refine r_icmp_ne (tgt := 66) d_Mm_tenths_58 (by decide) (fun c_58 => ?_) (fun c_58 => ?_)
        · exact absurd c_58 (by decide)
        · refine r_bipush d_Mm_tenths_61 (v := 50) (by decide) ?_
          refine r_goto (tgt := 68) d_Mm_tenths_63 (by decide) ?_
          refine r_iret d_Mm_tenths_68 rfl rfl ?_
          exact ⟨rfl, rfl⟩
      · exact absurd c_48 (by decide)
    · exact absurd c_37 (by decide)
theorem d_Mm_tenths_66 : decode prog_14_method_56_code 66 = .ok (.bipush 8, 2) := zo_16 (d := 8) (zd_b zq_prog_14_method_56_code_2 2 rfl rfl rfl) (zd_b zq_prog_14_method_56_code_2 3 rfl rfl rfl) (by decide +kernel)
set_option maxHeartbeats 4000000 in
set_option maxRecDepth 100000 in
theorem C_Mm_tenths112_3 (g : zG)  : CT g M_Mm_tenths [.int 112, .int 3] [] (fun o cs1 => o = .inl (some (.int 8)) ∧ cs1 = []) 0 0 := by
  refine z_of (by decide) rfl (Nat.le_of_ble_eq_true rfl) (fun w0 => ?_)
  refine r_lvE (lv2 := [(0, .int 112), (1, .int 3)]) rfl ?_
  refine r_iload_n d_Mm_tenths_0 rfl 0 rfl ?_
  · refine r_lookup (off := 35) (tgt := 36) d_Mm_tenths_1 (by decide) (by decide) (by decide) ?_
    refine r_iload_n d_Mm_tenths_36 rfl 1 rfl ?_
    refine r_if_ne (tgt := 46) d_Mm_tenths_37 (by decide) (fun c_37 => ?_) (fun c_37 => ?_)
    · refine r_iload_n d_Mm_tenths_46 rfl 1 rfl ?_
      refine r_iconst d_Mm_tenths_47 (v := 1) (by decide) ?_
      refine r_icmp_ne (tgt := 56) d_Mm_tenths_48 (by decide) (fun c_48 => ?_) (fun c_48 => ?_)
      · refine r_iload_n d_Mm_tenths_56 rfl 1 rfl ?_
        refine r_iconst d_Mm_tenths_57 (v := 2) (by decide) ?_
        refine r_icmp_ne (tgt := 66) d_Mm_tenths_58 (by decide) (fun c_58 => ?_) (fun c_58 => ?_)
        · refine r_bipush d_Mm_tenths_66 (v := 8) (by decide) ?_
          refine r_iret d_Mm_tenths_68 rfl rfl ?_
          exact ⟨rfl, rfl⟩
        · exact absurd c_58 (by decide)
      · exact absurd c_48 (by decide)
    · exact absurd c_37 (by decide)
theorem d_Mm_tenths_69 : decode prog_14_method_56_code 69 = .ok (.iload_n 1, 1) := zo_27 (zd_b zq_prog_14_method_56_code_2 5 rfl rfl rfl)
theorem d_Mm_tenths_70 : decode prog_14_method_56_code 70 = .ok (.ifCond .ne 8, 3) := zo_154 (d := 0) (e := 8) (zd_b zq_prog_14_method_56_code_2 6 rfl rfl rfl) (zd_b zq_prog_14_method_56_code_2 7 rfl rfl rfl) (zd_b zq_prog_14_method_56_code_2 8 rfl rfl rfl) (by decide +kernel)
theorem d_Mm_tenths_73 : decode prog_14_method_56_code 73 = .ok (.bipush 20, 2) := zo_16 (d := 20) (zd_b zq_prog_14_method_56_code_2 9 rfl rfl rfl) (zd_b zq_prog_14_method_56_code_2 10 rfl rfl rfl) (by decide +kernel)
theorem d_Mm_tenths_75 : decode prog_14_method_56_code 75 = .ok (.goto 24, 3) := zo_167 (d := 0) (e := 24) (zd_b zq_prog_14_method_56_code_2 11 rfl rfl rfl) (zd_b zq_prog_14_method_56_code_2 12 rfl rfl rfl) (zd_b zq_prog_14_method_56_code_2 13 rfl rfl rfl) (by decide +kernel)
theorem d_Mm_tenths_99 : decode prog_14_method_56_code 99 = .ok (.ireturn, 1) := zo_172 (zd_b zq_prog_14_method_56_code_3 3 rfl rfl rfl)
set_option maxHeartbeats 4000000 in
set_option maxRecDepth 100000 in
theorem C_Mm_tenths115_0 (g : zG)  : CT g M_Mm_tenths [.int 115, .int 0] [] (fun o cs1 => o = .inl (some (.int 20)) ∧ cs1 = []) 0 0 := by
  refine z_of (by decide) rfl (Nat.le_of_ble_eq_true rfl) (fun w0 => ?_)
  refine r_lvE (lv2 := [(0, .int 115), (1, .int 0)]) rfl ?_
  refine r_iload_n d_Mm_tenths_0 rfl 0 rfl ?_
  · refine r_lookup (off := 68) (tgt := 69) d_Mm_tenths_1 (by decide) (by decide) (by decide) ?_
    refine r_iload_n d_Mm_tenths_69 rfl 1 rfl ?_
    refine r_if_ne (tgt := 78) d_Mm_tenths_70 (by decide) (fun c_70 => ?_) (fun c_70 => ?_)
    · exact absurd c_70 (by decide)
    · refine r_bipush d_Mm_tenths_73 (v := 20) (by decide) ?_
      refine r_goto (tgt := 99) d_Mm_tenths_75 (by decide) ?_
      refine r_iret d_Mm_tenths_99 rfl rfl ?_
      exact ⟨rfl, rfl⟩
theorem d_Mm_tenths_78 : decode prog_14_method_56_code 78 = .ok (.iload_n 1, 1) := zo_27 (zd_b zq_prog_14_method_56_code_2 14 rfl rfl rfl)
theorem d_Mm_tenths_79 : decode prog_14_method_56_code 79 = .ok (.iconst 1, 1) := zo_4 (zd_b zq_prog_14_method_56_code_2 15 rfl rfl rfl)
theorem d_Mm_tenths_80 : decode prog_14_method_56_code 80 = .ok (.if_icmp .ne 8, 3) := zo_160 (d := 0) (e := 8) (zd_b zq_prog_14_method_56_code_2 16 rfl rfl rfl) (zd_b zq_prog_14_method_56_code_2 17 rfl rfl rfl) (zd_b zq_prog_14_method_56_code_2 18 rfl rfl rfl) (by decide +kernel)
theorem d_Mm_tenths_83 : decode prog_14_method_56_code 83 = .ok (.bipush 30, 2) := zo_16 (d := 30) (zd_b zq_prog_14_method_56_code_2 19 rfl rfl rfl) (zd_b zq_prog_14_method_56_code_2 20 rfl rfl rfl) (by decide +kernel)
theorem d_Mm_tenths_85 : decode prog_14_method_56_code 85 = .ok (.goto 14, 3) := zo_167 (d := 0) (e := 14) (zd_b zq_prog_14_method_56_code_2 21 rfl rfl rfl) (zd_b zq_prog_14_method_56_code_2 22 rfl rfl rfl) (zd_b zq_prog_14_method_56_code_2 23 rfl rfl rfl) (by decide +kernel)
set_option maxHeartbeats 4000000 in
set_option maxRecDepth 100000 in
theorem C_Mm_tenths115_1 (g : zG)  : CT g M_Mm_tenths [.int 115, .int 1] [] (fun o cs1 => o = .inl (some (.int 30)) ∧ cs1 = []) 0 0 := by
  refine z_of (by decide) rfl (Nat.le_of_ble_eq_true rfl) (fun w0 => ?_)
  refine r_lvE (lv2 := [(0, .int 115), (1, .int 1)]) rfl ?_
  refine r_iload_n d_Mm_tenths_0 rfl 0 rfl ?_
  · refine r_lookup (off := 68) (tgt := 69) d_Mm_tenths_1 (by decide) (by decide) (by decide) ?_
    refine r_iload_n d_Mm_tenths_69 rfl 1 rfl ?_
    refine r_if_ne (tgt := 78) d_Mm_tenths_70 (by decide) (fun c_70 => ?_) (fun c_70 => ?_)
    · refine r_iload_n d_Mm_tenths_78 rfl 1 rfl ?_
      refine r_iconst d_Mm_tenths_79 (v := 1) (by decide) ?_
      refine r_icmp_ne (tgt := 88) d_Mm_tenths_80 (by decide) (fun c_80 => ?_) (fun c_80 => ?_)
      · exact absurd c_80 (by decide)
      · refine r_bipush d_Mm_tenths_83 (v := 30) (by decide) ?_
        refine r_goto (tgt := 99) d_Mm_tenths_85 (by decide) ?_
        refine r_iret d_Mm_tenths_99 rfl rfl ?_
        exact ⟨rfl, rfl⟩
    · exact absurd c_70 (by decide)
theorem d_Mm_tenths_88 : decode prog_14_method_56_code 88 = .ok (.iload_n 1, 1) := zo_27 (zd_b zq_prog_14_method_56_code_2 24 rfl rfl rfl)
theorem d_Mm_tenths_89 : decode prog_14_method_56_code 89 = .ok (.iconst 2, 1) := zo_5 (zd_b zq_prog_14_method_56_code_2 25 rfl rfl rfl)
theorem d_Mm_tenths_90 : decode prog_14_method_56_code 90 = .ok (.if_icmp .ne 8, 3) := zo_160 (d := 0) (e := 8) (zd_b zq_prog_14_method_56_code_2 26 rfl rfl rfl) (zd_b zq_prog_14_method_56_code_2 27 rfl rfl rfl) (zd_b zq_prog_14_method_56_code_2 28 rfl rfl rfl) (by decide +kernel)
theorem d_Mm_tenths_93 : decode prog_14_method_56_code 93 = .ok (.bipush 80, 2) := zo_16 (d := 80) (zd_b zq_prog_14_method_56_code_2 29 rfl rfl rfl) (zd_b zq_prog_14_method_56_code_2 30 rfl rfl rfl) (by decide +kernel)
theorem d_Mm_tenths_95 : decode prog_14_method_56_code 95 = .ok (.goto 4, 3) := zo_167 (d := 0) (e := 4) (zd_b zq_prog_14_method_56_code_2 31 rfl rfl rfl) (zd_b zq_prog_14_method_56_code_3 0 rfl rfl rfl) (zd_b zq_prog_14_method_56_code_3 1 rfl rfl rfl) (by decide +kernel)
set_option maxHeartbeats 4000000 in
set_option maxRecDepth 100000 in
theorem C_Mm_tenths115_2 (g : zG)  : CT g M_Mm_tenths [.int 115, .int 2] [] (fun o cs1 => o = .inl (some (.int 80)) ∧ cs1 = []) 0 0 := by
  refine z_of (by decide) rfl (Nat.le_of_ble_eq_true rfl) (fun w0 => ?_)
  refine r_lvE (lv2 := [(0, .int 115), (1, .int 2)]) rfl ?_
  refine r_iload_n d_Mm_tenths_0 rfl 0 rfl ?_
  · refine r_lookup (off := 68) (tgt := 69) d_Mm_tenths_1 (by decide) (by decide) (by decide) ?_
    refine r_iload_n d_Mm_tenths_69 rfl 1 rfl ?_
    refine r_if_ne (tgt := 78) d_Mm_tenths_70 (by decide) (fun c_70 => ?_) (fun c_70 => ?_)
    · refine r_iload_n d_Mm_tenths_78 rfl 1 rfl ?_
      refine r_iconst d_Mm_tenths_79 (v := 1) (by decide) ?_
      refine r_icmp_ne (tgt := 88) d_Mm_tenths_80 (by decide) (fun c_80 => ?_) (fun c_80 => ?_)
      · refine r_iload_n d_Mm_tenths_88 rfl 1 rfl ?_
        refine r_iconst d_Mm_tenths_89 (v := 2) (by decide) ?_
        refine r_icmp_ne (tgt := 98) d_Mm_tenths_90 (by decide) (fun c_90 => ?_) (fun c_90 => ?_)
        · exact absurd c_90 (by decide)
        · refine r_bipush d_Mm_tenths_93 (v := 80) (by decide) ?_
          refine r_goto (tgt := 99) d_Mm_tenths_95 (by decide) ?_
          refine r_iret d_Mm_tenths_99 rfl rfl ?_
          exact ⟨rfl, rfl⟩
      · exact absurd c_80 (by decide)
    · exact absurd c_70 (by decide)
theorem d_Mm_tenths_98 : decode prog_14_method_56_code 98 = .ok (.iconst 2, 1) := zo_5 (zd_b zq_prog_14_method_56_code_3 2 rfl rfl rfl)
set_option maxHeartbeats 4000000 in
set_option maxRecDepth 100000 in
theorem C_Mm_tenths115_3 (g : zG)  : CT g M_Mm_tenths [.int 115, .int 3] [] (fun o cs1 => o = .inl (some (.int 2)) ∧ cs1 = []) 0 0 := by
  refine z_of (by decide) rfl (Nat.le_of_ble_eq_true rfl) (fun w0 => ?_)
  refine r_lvE (lv2 := [(0, .int 115), (1, .int 3)]) rfl ?_
  refine r_iload_n d_Mm_tenths_0 rfl 0 rfl ?_
  · refine r_lookup (off := 68) (tgt := 69) d_Mm_tenths_1 (by decide) (by decide) (by decide) ?_
    refine r_iload_n d_Mm_tenths_69 rfl 1 rfl ?_
    refine r_if_ne (tgt := 78) d_Mm_tenths_70 (by decide) (fun c_70 => ?_) (fun c_70 => ?_)
    · refine r_iload_n d_Mm_tenths_78 rfl 1 rfl ?_
      refine r_iconst d_Mm_tenths_79 (v := 1) (by decide) ?_
      refine r_icmp_ne (tgt := 88) d_Mm_tenths_80 (by decide) (fun c_80 => ?_) (fun c_80 => ?_)
      · refine r_iload_n d_Mm_tenths_88 rfl 1 rfl ?_
        refine r_iconst d_Mm_tenths_89 (v := 2) (by decide) ?_
        refine r_icmp_ne (tgt := 98) d_Mm_tenths_90 (by decide) (fun c_90 => ?_) (fun c_90 => ?_)
        · refine r_iconst d_Mm_tenths_98 (v := 2) (by decide) ?_
          refine r_iret d_Mm_tenths_99 rfl rfl ?_
          exact ⟨rfl, rfl⟩
        · exact absurd c_90 (by decide)
      · exact absurd c_80 (by decide)
    · exact absurd c_70 (by decide)
theorem d_Mm_tenths_100 : decode prog_14_method_56_code 100 = .ok (.iload_n 1, 1) := zo_27 (zd_b zq_prog_14_method_56_code_3 4 rfl rfl rfl)
theorem d_Mm_tenths_101 : decode prog_14_method_56_code 101 = .ok (.ifCond .ne 7, 3) := zo_154 (d := 0) (e := 7) (zd_b zq_prog_14_method_56_code_3 5 rfl rfl rfl) (zd_b zq_prog_14_method_56_code_3 6 rfl rfl rfl) (zd_b zq_prog_14_method_56_code_3 7 rfl rfl rfl) (by decide +kernel)
theorem d_Mm_tenths_104 : decode prog_14_method_56_code 104 = .ok (.iconst 1, 1) := zo_4 (zd_b zq_prog_14_method_56_code_3 8 rfl rfl rfl)
theorem d_Mm_tenths_105 : decode prog_14_method_56_code 105 = .ok (.goto 15, 3) := zo_167 (d := 0) (e := 15) (zd_b zq_prog_14_method_56_code_3 9 rfl rfl rfl) (zd_b zq_prog_14_method_56_code_3 10 rfl rfl rfl) (zd_b zq_prog_14_method_56_code_3 11 rfl rfl rfl) (by decide +kernel)
theorem d_Mm_tenths_120 : decode prog_14_method_56_code 120 = .ok (.ireturn, 1) := zo_172 (zd_b zq_prog_14_method_56_code_3 24 rfl rfl rfl)
set_option maxHeartbeats 4000000 in
set_option maxRecDepth 100000 in
theorem C_Mm_tenths102_0 (g : zG)  : CT g M_Mm_tenths [.int 102, .int 0] [] (fun o cs1 => o = .inl (some (.int 1)) ∧ cs1 = []) 0 0 := by
  refine z_of (by decide) rfl (Nat.le_of_ble_eq_true rfl) (fun w0 => ?_)
  refine r_lvE (lv2 := [(0, .int 102), (1, .int 0)]) rfl ?_
  refine r_iload_n d_Mm_tenths_0 rfl 0 rfl ?_
  · refine r_lookup (off := 99) (tgt := 100) d_Mm_tenths_1 (by decide) (by decide) (by decide) ?_
    refine r_iload_n d_Mm_tenths_100 rfl 1 rfl ?_
    refine r_if_ne (tgt := 108) d_Mm_tenths_101 (by decide) (fun c_101 => ?_) (fun c_101 => ?_)
    · exact absurd c_101 (by decide)
    · refine r_iconst d_Mm_tenths_104 (v := 1) (by decide) ?_
      refine r_goto (tgt := 120) d_Mm_tenths_105 (by decide) ?_
      refine r_iret d_Mm_tenths_120 rfl rfl ?_
      exact ⟨rfl, rfl⟩
theorem d_Mm_tenths_108 : decode prog_14_method_56_code 108 = .ok (.iload_n 1, 1) := zo_27 (zd_b zq_prog_14_method_56_code_3 12 rfl rfl rfl)
theorem d_Mm_tenths_109 : decode prog_14_method_56_code 109 = .ok (.iconst 1, 1) := zo_4 (zd_b zq_prog_14_method_56_code_3 13 rfl rfl rfl)
theorem d_Mm_tenths_110 : decode prog_14_method_56_code 110 = .ok (.if_icmp .ne 9, 3) := zo_160 (d := 0) (e := 9) (zd_b zq_prog_14_method_56_code_3 14 rfl rfl rfl) (zd_b zq_prog_14_method_56_code_3 15 rfl rfl rfl) (zd_b zq_prog_14_method_56_code_3 16 rfl rfl rfl) (by decide +kernel)
theorem d_Mm_tenths_113 : decode prog_14_method_56_code 113 = .ok (.sipush 750, 3) := zo_17 (d := 2) (e := 238) (zd_b zq_prog_14_method_56_code_3 17 rfl rfl rfl) (zd_b zq_prog_14_method_56_code_3 18 rfl rfl rfl) (zd_b zq_prog_14_method_56_code_3 19 rfl rfl rfl) (by decide +kernel)
theorem d_Mm_tenths_116 : decode prog_14_method_56_code 116 = .ok (.goto 4, 3) := zo_167 (d := 0) (e := 4) (zd_b zq_prog_14_method_56_code_3 20 rfl rfl rfl) (zd_b zq_prog_14_method_56_code_3 21 rfl rfl rfl) (zd_b zq_prog_14_method_56_code_3 22 rfl rfl rfl) (by decide +kernel)
set_option maxHeartbeats 4000000 in
set_option maxRecDepth 100000 in
theorem C_Mm_tenths102_1 (g : zG)  : CT g M_Mm_tenths [.int 102, .int 1] [] (fun o cs1 => o = .inl (some (.int 750)) ∧ cs1 = []) 0 0 := by
  refine z_of (by decide) rfl (Nat.le_of_ble_eq_true rfl) (fun w0 => ?_)
  refine r_lvE (lv2 := [(0, .int 102), (1, .int 1)]) rfl ?_
  refine r_iload_n d_Mm_tenths_0 rfl 0 rfl ?_
  · refine r_lookup (off := 99) (tgt := 100) d_Mm_tenths_1 (by decide) (by decide) (by decide) ?_
    refine r_iload_n d_Mm_tenths_100 rfl 1 rfl ?_
    refine r_if_ne (tgt := 108) d_Mm_tenths_101 (by decide) (fun c_101 => ?_) (fun c_101 => ?_)
    · refine r_iload_n d_Mm_tenths_108 rfl 1 rfl ?_
      refine r_iconst d_Mm_tenths_109 (v := 1) (by decide) ?_
      refine r_icmp_ne (tgt := 119) d_Mm_tenths_110 (by decide) (fun c_110 => ?_) (fun c_110 => ?_)
      · exact absurd c_110 (by decide)
      · refine r_sipush d_Mm_tenths_113 (v := 750) (by decide) ?_
        refine r_goto (tgt := 120) d_Mm_tenths_116 (by decide) ?_
        refine r_iret d_Mm_tenths_120 rfl rfl ?_
        exact ⟨rfl, rfl⟩
    · exact absurd c_101 (by decide)
theorem d_Mm_tenths_119 : decode prog_14_method_56_code 119 = .ok (.iconst 0, 1) := zo_3 (zd_b zq_prog_14_method_56_code_3 23 rfl rfl rfl)
set_option maxHeartbeats 4000000 in
set_option maxRecDepth 100000 in
theorem C_Mm_tenths102_2 (g : zG)  : CT g M_Mm_tenths [.int 102, .int 2] [] (fun o cs1 => o = .inl (some (.int 0)) ∧ cs1 = []) 0 0 := by
  refine z_of (by decide) rfl (Nat.le_of_ble_eq_true rfl) (fun w0 => ?_)
  refine r_lvE (lv2 := [(0, .int 102), (1, .int 2)]) rfl ?_
  refine r_iload_n d_Mm_tenths_0 rfl 0 rfl ?_
  · refine r_lookup (off := 99) (tgt := 100) d_Mm_tenths_1 (by decide) (by decide) (by decide) ?_
    refine r_iload_n d_Mm_tenths_100 rfl 1 rfl ?_
    refine r_if_ne (tgt := 108) d_Mm_tenths_101 (by decide) (fun c_101 => ?_) (fun c_101 => ?_)
    · refine r_iload_n d_Mm_tenths_108 rfl 1 rfl ?_
      refine r_iconst d_Mm_tenths_109 (v := 1) (by decide) ?_
      refine r_icmp_ne (tgt := 119) d_Mm_tenths_110 (by decide) (fun c_110 => ?_) (fun c_110 => ?_)
      · refine r_iconst d_Mm_tenths_119 (v := 0) (by decide) ?_
        refine r_iret d_Mm_tenths_120 rfl rfl ?_
        exact ⟨rfl, rfl⟩
      · exact absurd c_110 (by decide)
    · exact absurd c_101 (by decide)
set_option maxHeartbeats 4000000 in
set_option maxRecDepth 100000 in
theorem C_Mm_tenths102_3 (g : zG)  : CT g M_Mm_tenths [.int 102, .int 3] [] (fun o cs1 => o = .inl (some (.int 0)) ∧ cs1 = []) 0 0 := by
  refine z_of (by decide) rfl (Nat.le_of_ble_eq_true rfl) (fun w0 => ?_)
  refine r_lvE (lv2 := [(0, .int 102), (1, .int 3)]) rfl ?_
  refine r_iload_n d_Mm_tenths_0 rfl 0 rfl ?_
  · refine r_lookup (off := 99) (tgt := 100) d_Mm_tenths_1 (by decide) (by decide) (by decide) ?_
    refine r_iload_n d_Mm_tenths_100 rfl 1 rfl ?_
    refine r_if_ne (tgt := 108) d_Mm_tenths_101 (by decide) (fun c_101 => ?_) (fun c_101 => ?_)
    · refine r_iload_n d_Mm_tenths_108 rfl 1 rfl ?_
      refine r_iconst d_Mm_tenths_109 (v := 1) (by decide) ?_
      refine r_icmp_ne (tgt := 119) d_Mm_tenths_110 (by decide) (fun c_110 => ?_) (fun c_110 => ?_)
      · refine r_iconst d_Mm_tenths_119 (v := 0) (by decide) ?_
        refine r_iret d_Mm_tenths_120 rfl rfl ?_
        exact ⟨rfl, rfl⟩
      · exact absurd c_110 (by decide)
    · exact absurd c_101 (by decide)
theorem d_Mm_tenths_121 : decode prog_14_method_56_code 121 = .ok (.iload_n 1, 1) := zo_27 (zd_b zq_prog_14_method_56_code_3 25 rfl rfl rfl)
theorem d_Mm_tenths_122 : decode prog_14_method_56_code 122 = .ok (.ifCond .ne 9, 3) := zo_154 (d := 0) (e := 9) (zd_b zq_prog_14_method_56_code_3 26 rfl rfl rfl) (zd_b zq_prog_14_method_56_code_3 27 rfl rfl rfl) (zd_b zq_prog_14_method_56_code_3 28 rfl rfl rfl) (by decide +kernel)
theorem d_Mm_tenths_125 : decode prog_14_method_56_code 125 = .ok (.sipush 950, 3) := zo_17 (d := 3) (e := 182) (zd_b zq_prog_14_method_56_code_3 29 rfl rfl rfl) (zd_b zq_prog_14_method_56_code_3 30 rfl rfl rfl) (zd_b zq_prog_14_method_56_code_3 31 rfl rfl rfl) (by decide +kernel)
theorem d_Mm_tenths_128 : decode prog_14_method_56_code 128 = .ok (.goto 4, 3) := zo_167 (d := 0) (e := 4) (zd_b zq_prog_14_method_56_code_4 0 rfl rfl rfl) (zd_b zq_prog_14_method_56_code_4 1 rfl rfl rfl) (zd_b zq_prog_14_method_56_code_4 2 rfl rfl rfl) (by decide +kernel)
theorem d_Mm_tenths_132 : decode prog_14_method_56_code 132 = .ok (.ireturn, 1) := zo_172 (zd_b zq_prog_14_method_56_code_4 4 rfl rfl rfl)
set_option maxHeartbeats 4000000 in
set_option maxRecDepth 100000 in
theorem C_Mm_tenths107_0 (g : zG)  : CT g M_Mm_tenths [.int 107, .int 0] [] (fun o cs1 => o = .inl (some (.int 950)) ∧ cs1 = []) 0 0 := by
  refine z_of (by decide) rfl (Nat.le_of_ble_eq_true rfl) (fun w0 => ?_)
  refine r_lvE (lv2 := [(0, .int 107), (1, .int 0)]) rfl ?_
  refine r_iload_n d_Mm_tenths_0 rfl 0 rfl ?_
  · refine r_lookup (off := 120) (tgt := 121) d_Mm_tenths_1 (by decide) (by decide) (by decide) ?_
    refine r_iload_n d_Mm_tenths_121 rfl 1 rfl ?_
    refine r_if_ne (tgt := 131) d_Mm_tenths_122 (by decide) (fun c_122 => ?_) (fun c_122 => ?_)
    · exact absurd c_122 (by decide)
    · refine r_sipush d_Mm_tenths_125 (v := 950) (by decide) ?_
      refine r_goto (tgt := 132) d_Mm_tenths_128 (by decide) ?_
      refine r_iret d_Mm_tenths_132 rfl rfl ?_
      exact ⟨rfl, rfl⟩
theorem d_Mm_tenths_131 : decode prog_14_method_56_code 131 = .ok (.iconst 0, 1) := zo_3 (zd_b zq_prog_14_method_56_code_4 3 rfl rfl rfl)
set_option maxHeartbeats 4000000 in
set_option maxRecDepth 100000 in
theorem C_Mm_tenths107_1 (g : zG)  : CT g M_Mm_tenths [.int 107, .int 1] [] (fun o cs1 => o = .inl (some (.int 0)) ∧ cs1 = []) 0 0 := by
  refine z_of (by decide) rfl (Nat.le_of_ble_eq_true rfl) (fun w0 => ?_)
  refine r_lvE (lv2 := [(0, .int 107), (1, .int 1)]) rfl ?_
  refine r_iload_n d_Mm_tenths_0 rfl 0 rfl ?_
  · refine r_lookup (off := 120) (tgt := 121) d_Mm_tenths_1 (by decide) (by decide) (by decide) ?_
    refine r_iload_n d_Mm_tenths_121 rfl 1 rfl ?_
    refine r_if_ne (tgt := 131) d_Mm_tenths_122 (by decide) (fun c_122 => ?_) (fun c_122 => ?_)
    · refine r_iconst d_Mm_tenths_131 (v := 0) (by decide) ?_
      refine r_iret d_Mm_tenths_132 rfl rfl ?_
      exact ⟨rfl, rfl⟩
    · exact absurd c_122 (by decide)
set_option maxHeartbeats 4000000 in
set_option maxRecDepth 100000 in
theorem C_Mm_tenths107_2 (g : zG)  : CT g M_Mm_tenths [.int 107, .int 2] [] (fun o cs1 => o = .inl (some (.int 0)) ∧ cs1 = []) 0 0 := by
  refine z_of (by decide) rfl (Nat.le_of_ble_eq_true rfl) (fun w0 => ?_)
  refine r_lvE (lv2 := [(0, .int 107), (1, .int 2)]) rfl ?_
  refine r_iload_n d_Mm_tenths_0 rfl 0 rfl ?_
  · refine r_lookup (off := 120) (tgt := 121) d_Mm_tenths_1 (by decide) (by decide) (by decide) ?_
    refine r_iload_n d_Mm_tenths_121 rfl 1 rfl ?_
    refine r_if_ne (tgt := 131) d_Mm_tenths_122 (by decide) (fun c_122 => ?_) (fun c_122 => ?_)
    · refine r_iconst d_Mm_tenths_131 (v := 0) (by decide) ?_
      refine r_iret d_Mm_tenths_132 rfl rfl ?_
      exact ⟨rfl, rfl⟩
    · exact absurd c_122 (by decide)
set_option maxHeartbeats 4000000 in
set_option maxRecDepth 100000 in
theorem C_Mm_tenths107_3 (g : zG)  : CT g M_Mm_tenths [.int 107, .int 3] [] (fun o cs1 => o = .inl (some (.int 0)) ∧ cs1 = []) 0 0 := by
  refine z_of (by decide) rfl (Nat.le_of_ble_eq_true rfl) (fun w0 => ?_)
  refine r_lvE (lv2 := [(0, .int 107), (1, .int 3)]) rfl ?_
  refine r_iload_n d_Mm_tenths_0 rfl 0 rfl ?_
  · refine r_lookup (off := 120) (tgt := 121) d_Mm_tenths_1 (by decide) (by decide) (by decide) ?_
    refine r_iload_n d_Mm_tenths_121 rfl 1 rfl ?_
    refine r_if_ne (tgt := 131) d_Mm_tenths_122 (by decide) (fun c_122 => ?_) (fun c_122 => ?_)
    · refine r_iconst d_Mm_tenths_131 (v := 0) (by decide) ?_
      refine r_iret d_Mm_tenths_132 rfl rfl ?_
      exact ⟨rfl, rfl⟩
    · exact absurd c_122 (by decide)
end
