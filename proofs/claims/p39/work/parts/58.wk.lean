theorem d_Mm_treat_42 : decode prog_14_method_63_code 42 = .ok (.iconst 0, 1) := zo_3 (zd_b zq_prog_14_method_63_code_1 10 rfl rfl rfl)
theorem d_Mm_treat_50 : decode prog_14_method_63_code 50 = .ok (.aload_n 0, 1) := zo_42 (zd_b zq_prog_14_method_63_code_1 18 rfl rfl rfl)
theorem d_Mm_treat_51 : decode prog_14_method_63_code 51 = .ok (.aload_n 0, 1) := zo_42 (zd_b zq_prog_14_method_63_code_1 19 rfl rfl rfl)
theorem d_Mm_treat_52 : decode prog_14_method_63_code 52 = .ok (.getfield 260, 3) := zo_180 (d := 1) (e := 4) (zd_b zq_prog_14_method_63_code_1 20 rfl rfl rfl) (zd_b zq_prog_14_method_63_code_1 21 rfl rfl rfl) (zd_b zq_prog_14_method_63_code_1 22 rfl rfl rfl)
theorem fs_Mm_260 : z_fs "IronpourModel" 260 12 21 := ⟨R_Mm, "IronpourModel", F_Mm, 31, rfl, u_Mm, by decide, Or.inl ⟨z_mj7 (i := 104) rfl (by decide +kernel), Or.inl rfl⟩⟩
theorem d_Mm_treat_55 : decode prog_14_method_63_code 55 = .ok (.iload_n 1, 1) := zo_27 (zd_b zq_prog_14_method_63_code_1 23 rfl rfl rfl)
theorem d_Mm_treat_56 : decode prog_14_method_63_code 56 = .ok (.iadd, 1) := zo_96 (zd_b zq_prog_14_method_63_code_1 24 rfl rfl rfl)
theorem d_Mm_treat_57 : decode prog_14_method_63_code 57 = .ok (.bipush 100, 2) := zo_16 (d := 100) (zd_b zq_prog_14_method_63_code_1 25 rfl rfl rfl) (zd_b zq_prog_14_method_63_code_1 26 rfl rfl rfl) (by decide +kernel)
theorem d_Mm_treat_59 : decode prog_14_method_63_code 59 = .ok (.if_icmp .le 7, 3) := zo_164 (d := 0) (e := 7) (zd_b zq_prog_14_method_63_code_1 27 rfl rfl rfl) (zd_b zq_prog_14_method_63_code_1 28 rfl rfl rfl) (zd_b zq_prog_14_method_63_code_1 29 rfl rfl rfl) (by decide +kernel)
theorem d_Mm_treat_66 : decode prog_14_method_63_code 66 = .ok (.iconst 0, 1) := zo_3 (zd_b zq_prog_14_method_63_code_2 2 rfl rfl rfl)
theorem d_Mm_treat_67 : decode prog_14_method_63_code 67 = .ok (.iconst 3, 1) := zo_6 (zd_b zq_prog_14_method_63_code_2 3 rfl rfl rfl)
theorem d_Mm_treat_68 : decode prog_14_method_63_code 68 = .ok (.invokevirtual 103, 3) := zo_182 (d := 0) (e := 103) (zd_b zq_prog_14_method_63_code_2 4 rfl rfl rfl) (zd_b zq_prog_14_method_63_code_2 5 rfl rfl rfl) (zd_b zq_prog_14_method_63_code_2 6 rfl rfl rfl)
theorem d_Mm_treat_71 : decode prog_14_method_63_code 71 = .ok (.ifCond .eq 5, 3) := zo_153 (d := 0) (e := 5) (zd_b zq_prog_14_method_63_code_2 7 rfl rfl rfl) (zd_b zq_prog_14_method_63_code_2 8 rfl rfl rfl) (zd_b zq_prog_14_method_63_code_2 9 rfl rfl rfl) (by decide +kernel)
theorem d_Mm_treat_76 : decode prog_14_method_63_code 76 = .ok (.aload_n 0, 1) := zo_42 (zd_b zq_prog_14_method_63_code_2 12 rfl rfl rfl)
theorem d_Mm_treat_77 : decode prog_14_method_63_code 77 = .ok (.dup, 1) := zo_89 (zd_b zq_prog_14_method_63_code_2 13 rfl rfl rfl)
theorem d_Mm_treat_78 : decode prog_14_method_63_code 78 = .ok (.getfield 260, 3) := zo_180 (d := 1) (e := 4) (zd_b zq_prog_14_method_63_code_2 14 rfl rfl rfl) (zd_b zq_prog_14_method_63_code_2 15 rfl rfl rfl) (zd_b zq_prog_14_method_63_code_2 16 rfl rfl rfl)
theorem d_Mm_treat_81 : decode prog_14_method_63_code 81 = .ok (.iload_n 1, 1) := zo_27 (zd_b zq_prog_14_method_63_code_2 17 rfl rfl rfl)
theorem d_Mm_treat_82 : decode prog_14_method_63_code 82 = .ok (.iadd, 1) := zo_96 (zd_b zq_prog_14_method_63_code_2 18 rfl rfl rfl)
theorem d_Mm_treat_83 : decode prog_14_method_63_code 83 = .ok (.putfield 260, 3) := zo_181 (d := 1) (e := 4) (zd_b zq_prog_14_method_63_code_2 19 rfl rfl rfl) (zd_b zq_prog_14_method_63_code_2 20 rfl rfl rfl) (zd_b zq_prog_14_method_63_code_2 21 rfl rfl rfl)
theorem d_Mm_treat_86 : decode prog_14_method_63_code 86 = .ok (.aload_n 0, 1) := zo_42 (zd_b zq_prog_14_method_63_code_2 22 rfl rfl rfl)
theorem d_Mm_treat_87 : decode prog_14_method_63_code 87 = .ok (.aload_n 0, 1) := zo_42 (zd_b zq_prog_14_method_63_code_2 23 rfl rfl rfl)
theorem d_Mm_treat_88 : decode prog_14_method_63_code 88 = .ok (.getfield 263, 3) := zo_180 (d := 1) (e := 7) (zd_b zq_prog_14_method_63_code_2 24 rfl rfl rfl) (zd_b zq_prog_14_method_63_code_2 25 rfl rfl rfl) (zd_b zq_prog_14_method_63_code_2 26 rfl rfl rfl)
theorem d_Mm_treat_91 : decode prog_14_method_63_code 91 = .ok (.ifCond .ne 12, 3) := zo_154 (d := 0) (e := 12) (zd_b zq_prog_14_method_63_code_2 27 rfl rfl rfl) (zd_b zq_prog_14_method_63_code_2 28 rfl rfl rfl) (zd_b zq_prog_14_method_63_code_2 29 rfl rfl rfl) (by decide +kernel)
theorem d_Mm_treat_103 : decode prog_14_method_63_code 103 = .ok (.iconst 1, 1) := zo_4 (zd_b zq_prog_14_method_63_code_3 7 rfl rfl rfl)
theorem d_Mm_treat_104 : decode prog_14_method_63_code 104 = .ok (.goto 4, 3) := zo_167 (d := 0) (e := 4) (zd_b zq_prog_14_method_63_code_3 8 rfl rfl rfl) (zd_b zq_prog_14_method_63_code_3 9 rfl rfl rfl) (zd_b zq_prog_14_method_63_code_3 10 rfl rfl rfl) (by decide +kernel)
theorem d_Mm_treat_108 : decode prog_14_method_63_code 108 = .ok (.putfield 263, 3) := zo_181 (d := 1) (e := 7) (zd_b zq_prog_14_method_63_code_3 12 rfl rfl rfl) (zd_b zq_prog_14_method_63_code_3 13 rfl rfl rfl) (zd_b zq_prog_14_method_63_code_3 14 rfl rfl rfl)
theorem d_Mm_treat_111 : decode prog_14_method_63_code 111 = .ok (.aload_n 0, 1) := zo_42 (zd_b zq_prog_14_method_63_code_3 15 rfl rfl rfl)
theorem d_Mm_treat_112 : decode prog_14_method_63_code 112 = .ok (.getfield 260, 3) := zo_180 (d := 1) (e := 4) (zd_b zq_prog_14_method_63_code_3 16 rfl rfl rfl) (zd_b zq_prog_14_method_63_code_3 17 rfl rfl rfl) (zd_b zq_prog_14_method_63_code_3 18 rfl rfl rfl)
theorem d_Mm_treat_115 : decode prog_14_method_63_code 115 = .ok (.ireturn, 1) := zo_172 (zd_b zq_prog_14_method_63_code_3 19 rfl rfl rfl)
theorem d_Mm_treat_94 : decode prog_14_method_63_code 94 = .ok (.aload_n 0, 1) := zo_42 (zd_b zq_prog_14_method_63_code_2 30 rfl rfl rfl)
theorem d_Mm_treat_95 : decode prog_14_method_63_code 95 = .ok (.getfield 260, 3) := zo_180 (d := 1) (e := 4) (zd_b zq_prog_14_method_63_code_2 31 rfl rfl rfl) (zd_b zq_prog_14_method_63_code_3 0 rfl rfl rfl) (zd_b zq_prog_14_method_63_code_3 1 rfl rfl rfl)
theorem d_Mm_treat_98 : decode prog_14_method_63_code 98 = .ok (.bipush 20, 2) := zo_16 (d := 20) (zd_b zq_prog_14_method_63_code_3 2 rfl rfl rfl) (zd_b zq_prog_14_method_63_code_3 3 rfl rfl rfl) (by decide +kernel)
theorem d_Mm_treat_100 : decode prog_14_method_63_code 100 = .ok (.if_icmp .lt 7, 3) := zo_161 (d := 0) (e := 7) (zd_b zq_prog_14_method_63_code_3 4 rfl rfl rfl) (zd_b zq_prog_14_method_63_code_3 5 rfl rfl rfl) (zd_b zq_prog_14_method_63_code_3 6 rfl rfl rfl) (by decide +kernel)
theorem d_Mm_treat_107 : decode prog_14_method_63_code 107 = .ok (.iconst 0, 1) := zo_3 (zd_b zq_prog_14_method_63_code_3 11 rfl rfl rfl)
theorem d_Mm_treat_62 : decode prog_14_method_63_code 62 = .ok (.iconst 1, 1) := zo_4 (zd_b zq_prog_14_method_63_code_1 30 rfl rfl rfl)
theorem d_Mm_treat_63 : decode prog_14_method_63_code 63 = .ok (.goto 4, 3) := zo_167 (d := 0) (e := 4) (zd_b zq_prog_14_method_63_code_1 31 rfl rfl rfl) (zd_b zq_prog_14_method_63_code_2 0 rfl rfl rfl) (zd_b zq_prog_14_method_63_code_2 1 rfl rfl rfl) (by decide +kernel)
abbrev M_Mm_percent : zM := (⟨"IronpourModel", "percent", "(II)I"⟩, prog_14_method_59_code, 3, (Option.some FieldType.int), 1, 20, [])
theorem d_Mm_percent_0 : decode prog_14_method_59_code 0 = .ok (.aload_n 0, 1) := zo_42 (zd_b zq_prog_14_method_59_code_0 0 rfl rfl rfl)
theorem d_Mm_percent_1 : decode prog_14_method_59_code 1 = .ok (.getfield 65, 3) := zo_180 (d := 0) (e := 65) (zd_b zq_prog_14_method_59_code_0 1 rfl rfl rfl) (zd_b zq_prog_14_method_59_code_0 2 rfl rfl rfl) (zd_b zq_prog_14_method_59_code_0 3 rfl rfl rfl)
theorem d_Mm_percent_4 : decode prog_14_method_59_code 4 = .ok (.iconst 4, 1) := zo_7 (zd_b zq_prog_14_method_59_code_0 4 rfl rfl rfl)
theorem d_Mm_percent_5 : decode prog_14_method_59_code 5 = .ok (.iload_n 1, 1) := zo_27 (zd_b zq_prog_14_method_59_code_0 5 rfl rfl rfl)
theorem d_Mm_percent_6 : decode prog_14_method_59_code 6 = .ok (.imul, 1) := zo_104 (zd_b zq_prog_14_method_59_code_0 6 rfl rfl rfl)
theorem d_Mm_percent_7 : decode prog_14_method_59_code 7 = .ok (.iload_n 2, 1) := zo_28 (zd_b zq_prog_14_method_59_code_0 7 rfl rfl rfl)
theorem d_Mm_percent_8 : decode prog_14_method_59_code 8 = .ok (.iadd, 1) := zo_96 (zd_b zq_prog_14_method_59_code_0 8 rfl rfl rfl)
theorem d_Mm_percent_9 : decode prog_14_method_59_code 9 = .ok (.laload, 1) := zo_47 (zd_b zq_prog_14_method_59_code_0 9 rfl rfl rfl)
theorem d_Mm_percent_10 : decode prog_14_method_59_code 10 = .ok (.ldc2_w 244, 3) := zo_20 (d := 0) (e := 244) (zd_b zq_prog_14_method_59_code_0 10 rfl rfl rfl) (zd_b zq_prog_14_method_59_code_0 11 rfl rfl rfl) (zd_b zq_prog_14_method_59_code_0 12 rfl rfl rfl)
theorem d_Mm_percent_13 : decode prog_14_method_59_code 13 = .ok (.lmul, 1) := zo_105 (zd_b zq_prog_14_method_59_code_0 13 rfl rfl rfl)
theorem d_Mm_percent_14 : decode prog_14_method_59_code 14 = .ok (.aload_n 0, 1) := zo_42 (zd_b zq_prog_14_method_59_code_0 14 rfl rfl rfl)
theorem d_Mm_percent_15 : decode prog_14_method_59_code 15 = .ok (.getfield 62, 3) := zo_180 (d := 0) (e := 62) (zd_b zq_prog_14_method_59_code_0 15 rfl rfl rfl) (zd_b zq_prog_14_method_59_code_0 16 rfl rfl rfl) (zd_b zq_prog_14_method_59_code_0 17 rfl rfl rfl)
theorem d_Mm_percent_18 : decode prog_14_method_59_code 18 = .ok (.iload_n 1, 1) := zo_27 (zd_b zq_prog_14_method_59_code_0 18 rfl rfl rfl)
theorem d_Mm_percent_19 : decode prog_14_method_59_code 19 = .ok (.iaload, 1) := zo_46 (zd_b zq_prog_14_method_59_code_0 19 rfl rfl rfl)
theorem d_Mm_percent_20 : decode prog_14_method_59_code 20 = .ok (.i2l, 1) := zo_133 (zd_b zq_prog_14_method_59_code_0 20 rfl rfl rfl)
theorem d_Mm_percent_21 : decode prog_14_method_59_code 21 = .ok (.ldiv, 1) := zo_109 (zd_b zq_prog_14_method_59_code_0 21 rfl rfl rfl)
theorem d_Mm_percent_22 : decode prog_14_method_59_code 22 = .ok (.l2i, 1) := zo_136 (zd_b zq_prog_14_method_59_code_0 22 rfl rfl rfl)
theorem d_Mm_percent_23 : decode prog_14_method_59_code 23 = .ok (.ireturn, 1) := zo_172 (zd_b zq_prog_14_method_59_code_0 23 rfl rfl rfl)
theorem d_Mm_furnace_39 : decode prog_14_method_60_code 39 = .ok (.iconst 0, 1) := zo_3 (zd_b zq_prog_14_method_60_code_1 7 rfl rfl rfl)
theorem d_Mm_furnace_51 : decode prog_14_method_60_code 51 = .ok (.aload_n 0, 1) := zo_42 (zd_b zq_prog_14_method_60_code_1 19 rfl rfl rfl)
theorem d_Mm_furnace_52 : decode prog_14_method_60_code 52 = .ok (.iconst 0, 1) := zo_3 (zd_b zq_prog_14_method_60_code_1 20 rfl rfl rfl)
theorem d_Mm_furnace_53 : decode prog_14_method_60_code 53 = .ok (.iload_n 1, 1) := zo_27 (zd_b zq_prog_14_method_60_code_1 21 rfl rfl rfl)
theorem d_Mm_furnace_54 : decode prog_14_method_60_code 54 = .ok (.invokestatic 246, 3) := zo_184 (d := 0) (e := 246) (zd_b zq_prog_14_method_60_code_1 22 rfl rfl rfl) (zd_b zq_prog_14_method_60_code_1 23 rfl rfl rfl) (zd_b zq_prog_14_method_60_code_1 24 rfl rfl rfl)
theorem d_Mm_furnace_57 : decode prog_14_method_60_code 57 = .ok (.invokevirtual 250, 3) := zo_182 (d := 0) (e := 250) (zd_b zq_prog_14_method_60_code_1 25 rfl rfl rfl) (zd_b zq_prog_14_method_60_code_1 26 rfl rfl rfl) (zd_b zq_prog_14_method_60_code_1 27 rfl rfl rfl)
theorem ok_Mm_furnace_Mm_percent : z_ok M_Mm_furnace M_Mm_percent 2 := ⟨z_mj8 (i := 169) rfl (by decide +kernel), rfl, ⟨by decide +kernel, by decide +kernel, by decide +kernel⟩, ⟨by decide, by decide⟩, z_mj1 (i := 14) rfl (by decide +kernel), rfl⟩
theorem ln_Mm_250 : Cond.methodLink "IronpourModel" 250 M_Mm_percent.1 ∈ z_gw := z_mj8 (i := 166) rfl (by decide +kernel)
theorem w_im_Mm_percent : Cond.instanceMethod M_Mm_percent.1 ∈ z_gw := z_mj8 (i := 168) rfl (by decide +kernel)
theorem w_se_Mm_percent : Cond.selects M_Mm_percent.1.cls M_Mm_percent.1 M_Mm_percent.1 ∈ z_gw := z_mem (i := 49) (by decide +kernel) (by decide +kernel)
theorem d_Mm_poolHas_50 : decode prog_14_method_69_code 50 = .ok (.iconst 0, 1) := zo_3 (zd_b zq_prog_14_method_69_code_1 18 rfl rfl rfl)
theorem d_Mm_poolHas_60 : decode prog_14_method_69_code 60 = .ok (.aload_n 0, 1) := zo_42 (zd_b zq_prog_14_method_69_code_1 28 rfl rfl rfl)
theorem d_Mm_poolHas_61 : decode prog_14_method_69_code 61 = .ok (.iload_n 1, 1) := zo_27 (zd_b zq_prog_14_method_69_code_1 29 rfl rfl rfl)
theorem d_Mm_poolHas_62 : decode prog_14_method_69_code 62 = .ok (.invokestatic 269, 3) := zo_184 (d := 1) (e := 13) (zd_b zq_prog_14_method_69_code_1 30 rfl rfl rfl) (zd_b zq_prog_14_method_69_code_1 31 rfl rfl rfl) (zd_b zq_prog_14_method_69_code_2 0 rfl rfl rfl)
theorem d_Mm_poolHas_65 : decode prog_14_method_69_code 65 = .ok (.iload_n 2, 1) := zo_28 (zd_b zq_prog_14_method_69_code_2 1 rfl rfl rfl)
theorem d_Mm_poolHas_66 : decode prog_14_method_69_code 66 = .ok (.invokestatic 246, 3) := zo_184 (d := 0) (e := 246) (zd_b zq_prog_14_method_69_code_2 2 rfl rfl rfl) (zd_b zq_prog_14_method_69_code_2 3 rfl rfl rfl) (zd_b zq_prog_14_method_69_code_2 4 rfl rfl rfl)
theorem d_Mm_poolHas_69 : decode prog_14_method_69_code 69 = .ok (.invokevirtual 250, 3) := zo_182 (d := 0) (e := 250) (zd_b zq_prog_14_method_69_code_2 5 rfl rfl rfl) (zd_b zq_prog_14_method_69_code_2 6 rfl rfl rfl) (zd_b zq_prog_14_method_69_code_2 7 rfl rfl rfl)
theorem ok_Mm_poolHas_Mm_percent : z_ok M_Mm_poolHas M_Mm_percent 2 := ⟨z_mj8 (i := 169) rfl (by decide +kernel), rfl, ⟨by decide +kernel, by decide +kernel, by decide +kernel⟩, ⟨by decide, by decide⟩, z_mj1 (i := 14) rfl (by decide +kernel), rfl⟩
theorem d_Mm_poolHas_72 : decode prog_14_method_69_code 72 = .ok (.ireturn, 1) := zo_172 (zd_b zq_prog_14_method_69_code_2 8 rfl rfl rfl)
theorem d_Mm_ladle_43 : decode prog_14_method_65_code 43 = .ok (.iload_n 1, 1) := zo_27 (zd_b zq_prog_14_method_65_code_1 11 rfl rfl rfl)
theorem d_Mm_ladle_44 : decode prog_14_method_65_code 44 = .ok (.bipush 119, 2) := zo_16 (d := 119) (zd_b zq_prog_14_method_65_code_1 12 rfl rfl rfl) (zd_b zq_prog_14_method_65_code_1 13 rfl rfl rfl) (by decide +kernel)
theorem d_Mm_ladle_46 : decode prog_14_method_65_code 46 = .ok (.if_icmp .ne 12, 3) := zo_160 (d := 0) (e := 12) (zd_b zq_prog_14_method_65_code_1 14 rfl rfl rfl) (zd_b zq_prog_14_method_65_code_1 15 rfl rfl rfl) (zd_b zq_prog_14_method_65_code_1 16 rfl rfl rfl) (by decide +kernel)
theorem d_Mm_ladle_58 : decode prog_14_method_65_code 58 = .ok (.iload_n 1, 1) := zo_27 (zd_b zq_prog_14_method_65_code_1 26 rfl rfl rfl)
theorem d_Mm_ladle_59 : decode prog_14_method_65_code 59 = .ok (.bipush 104, 2) := zo_16 (d := 104) (zd_b zq_prog_14_method_65_code_1 27 rfl rfl rfl) (zd_b zq_prog_14_method_65_code_1 28 rfl rfl rfl) (by decide +kernel)
theorem d_Mm_ladle_61 : decode prog_14_method_65_code 61 = .ok (.if_icmp .ne 10, 3) := zo_160 (d := 0) (e := 10) (zd_b zq_prog_14_method_65_code_1 29 rfl rfl rfl) (zd_b zq_prog_14_method_65_code_1 30 rfl rfl rfl) (zd_b zq_prog_14_method_65_code_1 31 rfl rfl rfl) (by decide +kernel)
theorem d_Mm_ladle_71 : decode prog_14_method_65_code 71 = .ok (.aload_n 0, 1) := zo_42 (zd_b zq_prog_14_method_65_code_2 7 rfl rfl rfl)
theorem d_Mm_ladle_72 : decode prog_14_method_65_code 72 = .ok (.getfield 260, 3) := zo_180 (d := 1) (e := 4) (zd_b zq_prog_14_method_65_code_2 8 rfl rfl rfl) (zd_b zq_prog_14_method_65_code_2 9 rfl rfl rfl) (zd_b zq_prog_14_method_65_code_2 10 rfl rfl rfl)
theorem d_Mm_ladle_64 : decode prog_14_method_65_code 64 = .ok (.aload_n 0, 1) := zo_42 (zd_b zq_prog_14_method_65_code_2 0 rfl rfl rfl)
theorem d_Mm_ladle_65 : decode prog_14_method_65_code 65 = .ok (.getfield 257, 3) := zo_180 (d := 1) (e := 1) (zd_b zq_prog_14_method_65_code_2 1 rfl rfl rfl) (zd_b zq_prog_14_method_65_code_2 2 rfl rfl rfl) (zd_b zq_prog_14_method_65_code_2 3 rfl rfl rfl)
theorem fs_Mm_257 : z_fs "IronpourModel" 257 12 20 := ⟨R_Mm, "IronpourModel", F_Mm, 31, rfl, u_Mm, by decide, Or.inl ⟨z_mj7 (i := 103) rfl (by decide +kernel), Or.inl rfl⟩⟩
theorem d_Mm_ladle_68 : decode prog_14_method_65_code 68 = .ok (.goto 7, 3) := zo_167 (d := 0) (e := 7) (zd_b zq_prog_14_method_65_code_2 4 rfl rfl rfl) (zd_b zq_prog_14_method_65_code_2 5 rfl rfl rfl) (zd_b zq_prog_14_method_65_code_2 6 rfl rfl rfl) (by decide +kernel)
theorem d_Mm_ladle_49 : decode prog_14_method_65_code 49 = .ok (.aload_n 0, 1) := zo_42 (zd_b zq_prog_14_method_65_code_1 17 rfl rfl rfl)
theorem d_Mm_ladle_50 : decode prog_14_method_65_code 50 = .ok (.getfield 62, 3) := zo_180 (d := 0) (e := 62) (zd_b zq_prog_14_method_65_code_1 18 rfl rfl rfl) (zd_b zq_prog_14_method_65_code_1 19 rfl rfl rfl) (zd_b zq_prog_14_method_65_code_1 20 rfl rfl rfl)
theorem d_Mm_ladle_53 : decode prog_14_method_65_code 53 = .ok (.iconst 1, 1) := zo_4 (zd_b zq_prog_14_method_65_code_1 21 rfl rfl rfl)
theorem d_Mm_ladle_54 : decode prog_14_method_65_code 54 = .ok (.iaload, 1) := zo_46 (zd_b zq_prog_14_method_65_code_1 22 rfl rfl rfl)
theorem d_Mm_ladle_55 : decode prog_14_method_65_code 55 = .ok (.goto 20, 3) := zo_167 (d := 0) (e := 20) (zd_b zq_prog_14_method_65_code_1 23 rfl rfl rfl) (zd_b zq_prog_14_method_65_code_1 24 rfl rfl rfl) (zd_b zq_prog_14_method_65_code_1 25 rfl rfl rfl) (by decide +kernel)
theorem d_Mm_cheapest_41 : decode prog_14_method_72_code 41 = .ok (.iconst 0, 1) := zo_3 (zd_b zq_prog_14_method_72_code_1 9 rfl rfl rfl)
theorem d_Mm_cheapest_51 : decode prog_14_method_72_code 51 = .ok (.iload_n 1, 1) := zo_27 (zd_b zq_prog_14_method_72_code_1 19 rfl rfl rfl)
theorem d_Mm_cheapest_52 : decode prog_14_method_72_code 52 = .ok (.bipush 112, 2) := zo_16 (d := 112) (zd_b zq_prog_14_method_72_code_1 20 rfl rfl rfl) (zd_b zq_prog_14_method_72_code_1 21 rfl rfl rfl) (by decide +kernel)
theorem d_Mm_cheapest_54 : decode prog_14_method_72_code 54 = .ok (.if_icmp .ne 10, 3) := zo_160 (d := 0) (e := 10) (zd_b zq_prog_14_method_72_code_1 22 rfl rfl rfl) (zd_b zq_prog_14_method_72_code_1 23 rfl rfl rfl) (zd_b zq_prog_14_method_72_code_1 24 rfl rfl rfl) (by decide +kernel)
theorem d_Mm_cheapest_64 : decode prog_14_method_72_code 64 = .ok (.iload_n 1, 1) := zo_27 (zd_b zq_prog_14_method_72_code_2 0 rfl rfl rfl)
theorem d_Mm_cheapest_65 : decode prog_14_method_72_code 65 = .ok (.bipush 102, 2) := zo_16 (d := 102) (zd_b zq_prog_14_method_72_code_2 1 rfl rfl rfl) (zd_b zq_prog_14_method_72_code_2 2 rfl rfl rfl) (by decide +kernel)
theorem d_Mm_cheapest_67 : decode prog_14_method_72_code 67 = .ok (.if_icmp .ne 10, 3) := zo_160 (d := 0) (e := 10) (zd_b zq_prog_14_method_72_code_2 3 rfl rfl rfl) (zd_b zq_prog_14_method_72_code_2 4 rfl rfl rfl) (zd_b zq_prog_14_method_72_code_2 5 rfl rfl rfl) (by decide +kernel)
theorem d_Mm_cheapest_77 : decode prog_14_method_72_code 77 = .ok (.bipush 100, 2) := zo_16 (d := 100) (zd_b zq_prog_14_method_72_code_2 13 rfl rfl rfl) (zd_b zq_prog_14_method_72_code_2 14 rfl rfl rfl) (by decide +kernel)
theorem d_Mm_cheapest_79 : decode prog_14_method_72_code 79 = .ok (.aload_n 0, 1) := zo_42 (zd_b zq_prog_14_method_72_code_2 15 rfl rfl rfl)
theorem d_Mm_cheapest_80 : decode prog_14_method_72_code 80 = .ok (.getfield 69, 3) := zo_180 (d := 0) (e := 69) (zd_b zq_prog_14_method_72_code_2 16 rfl rfl rfl) (zd_b zq_prog_14_method_72_code_2 17 rfl rfl rfl) (zd_b zq_prog_14_method_72_code_2 18 rfl rfl rfl)
theorem d_Mm_cheapest_83 : decode prog_14_method_72_code 83 = .ok (.isub, 1) := zo_100 (zd_b zq_prog_14_method_72_code_2 19 rfl rfl rfl)
theorem d_Mm_cheapest_84 : decode prog_14_method_72_code 84 = .ok (.aload_n 0, 1) := zo_42 (zd_b zq_prog_14_method_72_code_2 20 rfl rfl rfl)
theorem d_Mm_cheapest_85 : decode prog_14_method_72_code 85 = .ok (.getfield 276, 3) := zo_180 (d := 1) (e := 20) (zd_b zq_prog_14_method_72_code_2 21 rfl rfl rfl) (zd_b zq_prog_14_method_72_code_2 22 rfl rfl rfl) (zd_b zq_prog_14_method_72_code_2 23 rfl rfl rfl)
theorem fs_Mm_276 : z_fs "IronpourModel" 276 12 24 := ⟨R_Mm, "IronpourModel", F_Mm, 31, rfl, u_Mm, by decide, Or.inl ⟨z_mj7 (i := 107) rfl (by decide +kernel), Or.inl rfl⟩⟩
theorem d_Mm_cheapest_88 : decode prog_14_method_72_code 88 = .ok (.isub, 1) := zo_100 (zd_b zq_prog_14_method_72_code_2 24 rfl rfl rfl)
theorem d_Mm_cheapest_89 : decode prog_14_method_72_code 89 = .ok (.ireturn, 1) := zo_172 (zd_b zq_prog_14_method_72_code_2 25 rfl rfl rfl)
theorem d_Mm_cheapest_70 : decode prog_14_method_72_code 70 = .ok (.aload_n 0, 1) := zo_42 (zd_b zq_prog_14_method_72_code_2 6 rfl rfl rfl)
theorem d_Mm_cheapest_71 : decode prog_14_method_72_code 71 = .ok (.getfield 276, 3) := zo_180 (d := 1) (e := 20) (zd_b zq_prog_14_method_72_code_2 7 rfl rfl rfl) (zd_b zq_prog_14_method_72_code_2 8 rfl rfl rfl) (zd_b zq_prog_14_method_72_code_2 9 rfl rfl rfl)
theorem d_Mm_cheapest_74 : decode prog_14_method_72_code 74 = .ok (.goto 15, 3) := zo_167 (d := 0) (e := 15) (zd_b zq_prog_14_method_72_code_2 10 rfl rfl rfl) (zd_b zq_prog_14_method_72_code_2 11 rfl rfl rfl) (zd_b zq_prog_14_method_72_code_2 12 rfl rfl rfl) (by decide +kernel)
theorem d_Mm_cheapest_57 : decode prog_14_method_72_code 57 = .ok (.aload_n 0, 1) := zo_42 (zd_b zq_prog_14_method_72_code_1 25 rfl rfl rfl)
theorem d_Mm_cheapest_58 : decode prog_14_method_72_code 58 = .ok (.getfield 69, 3) := zo_180 (d := 0) (e := 69) (zd_b zq_prog_14_method_72_code_1 26 rfl rfl rfl) (zd_b zq_prog_14_method_72_code_1 27 rfl rfl rfl) (zd_b zq_prog_14_method_72_code_1 28 rfl rfl rfl)
theorem d_Mm_cheapest_61 : decode prog_14_method_72_code 61 = .ok (.goto 28, 3) := zo_167 (d := 0) (e := 28) (zd_b zq_prog_14_method_72_code_1 29 rfl rfl rfl) (zd_b zq_prog_14_method_72_code_1 30 rfl rfl rfl) (zd_b zq_prog_14_method_72_code_1 31 rfl rfl rfl) (by decide +kernel)
set_option maxHeartbeats 4000000 in
set_option maxRecDepth 100000 in
theorem C_Mm_cheapestW (g : zG) (m mp mf mh mn mt mz mc_ mq mgr ml mi mr mm mu mk mx : Nat) (th pt cl wa co_ fi bu ho lh mg wd fpi fal : Int32) (po de : Int64) (w : Int32) (hw : ¬ z_ix 4 w < 0) : CT g M_Mm_cheapest [.ref m, .int w] [(m, .inr (12, [.int th, .ref mp, .int pt, .ref mf, .ref mh, .ref mn, .ref mt, .ref mz, .ref mc_, .ref mq, .ref mgr, .int cl, .int wa, .int co_, .int fi, .int bu, .int ho, .ref ml, .ref mi, .ref mr, .int lh, .int mg, .int wd, .int fpi, .int fal, .ref mm, .ref mu, .ref mk, .ref mx, .long po, .long de]))] (fun o cs1 => ∃ v9 th9 : Int32, o = .inl (some (.int v9)) ∧ cs1 = [(m, .inr (12, [.int th9, .ref mp, .int pt, .ref mf, .ref mh, .ref mn, .ref mt, .ref mz, .ref mc_, .ref mq, .ref mgr, .int cl, .int wa, .int co_, .int fi, .int bu, .int ho, .ref ml, .ref mi, .ref mr, .int lh, .int mg, .int wd, .int fpi, .int fal, .ref mm, .ref mu, .ref mk, .ref mx, .long po, .long de]))]) 0 0 := by
  refine z_of (by decide) rfl (Nat.le_of_ble_eq_true rfl) (fun w0 => ?_)
  refine r_lvE (lv2 := [(0, .ref m), (1, .int w)]) rfl ?_
  refine r_aload_n d_Mm_cheapest_0 rfl 0 rfl ?_
  refine r_iconst d_Mm_cheapest_1 (v := 0) (by decide) ?_
  refine r_put fp_Mm_84 d_Mm_cheapest_2 (fun h => nomatch h) rfl rfl (q0 := 0) rfl (Nat.le_of_ble_eq_true rfl) (cs' := [(m, .inr (12, [.int 0, .ref mp, .int pt, .ref mf, .ref mh, .ref mn, .ref mt, .ref mz, .ref mc_, .ref mq, .ref mgr, .int cl, .int wa, .int co_, .int fi, .int bu, .int ho, .ref ml, .ref mi, .ref mr, .int lh, .int mg, .int wd, .int fpi, .int fal, .ref mm, .ref mu, .ref mk, .ref mx, .long po, .long de]))]) rfl ?_
  refine r_aload_n d_Mm_cheapest_5 rfl 0 rfl ?_
  refine r_ldcWS (own := "IronpourModel") (i := 4) (by decide) d_Mm_cheapest_6 ?_
  refine r_iload_n d_Mm_cheapest_9 rfl 1 rfl ?_
  refine r_callVS (As := [.int w]) (rest := [.ref m]) (csC := []) (is := []) (i := 4) (by first | assumption | decide) rfl ln_Mm_97 w_im_String_indexOf_0 w_se_String_indexOf_0 ok_Mm_cheapest_String_indexOf_0 d_Mm_cheapest_10 (C_St_indexOf g 4 (by decide) w) rfl rfl (Nat.le_of_ble_eq_true rfl) rfl (by decide) (by omega) (by omega) (fun E cs1 hx => ?_) (fun v cs1 hx => ?_)
  · exact absurd hx.1 (by simp)
  · obtain ⟨e1, rfl⟩ := hx
    cases e1
    refine ⟨rfl, ?_⟩
    refine r_st (st2 := [.int (z_ix 4 w), .ref m]) rfl ?_
    refine r_cs (cs2 := [(m, .inr (12, [.int 0, .ref mp, .int pt, .ref mf, .ref mh, .ref mn, .ref mt, .ref mz, .ref mc_, .ref mq, .ref mgr, .int cl, .int wa, .int co_, .int fi, .int bu, .int ho, .ref ml, .ref mi, .ref mr, .int lh, .int mg, .int wd, .int fpi, .int fal, .ref mm, .ref mu, .ref mk, .ref mx, .long po, .long de]))]) rfl ?_
    refine r_if_ge (tgt := 20) d_Mm_cheapest_13 (by decide) (fun c_13 => ?_) (fun c_13 => ?_)
    · refine r_iconst d_Mm_cheapest_20 (v := 0) (by decide) ?_
      refine r_iconst d_Mm_cheapest_21 (v := 1) (by decide) ?_
      refine r_callV (As := [.int 0, .int 1]) (rest := []) (csC := [(m, .inr (12, [.int 0, .ref mp, .int pt, .ref mf, .ref mh, .ref mn, .ref mt, .ref mz, .ref mc_, .ref mq, .ref mgr, .int cl, .int wa, .int co_, .int fi, .int bu, .int ho, .ref ml, .ref mi, .ref mr, .int lh, .int mg, .int wd, .int fpi, .int fal, .ref mm, .ref mu, .ref mk, .ref mx, .long po, .long de]))]) (is := [0]) (q0 := 0) rfl rfl ln_Mm_103 w_im_Mm_fails w_se_Mm_fails ok_Mm_cheapest_Mm_fails d_Mm_cheapest_22 (C_Mm_fails0 g m mp mf mh mn mt mz mc_ mq mgr ml mi mr mm mu mk mx th pt cl wa co_ fi bu ho lh mg wd fpi fal po de 1) rfl rfl (Nat.le_of_ble_eq_true rfl) rfl (by decide) (by omega) (by omega) (fun E cs1 hx => ?_) (fun v cs1 hx => ?_)
      · exact absurd hx.1 (by simp)
      · obtain ⟨e1, rfl⟩ := hx
        cases e1
        refine ⟨rfl, ?_⟩
        refine r_st (st2 := [.int 0]) rfl ?_
        refine r_cs (cs2 := [(m, .inr (12, [.int 0, .ref mp, .int pt, .ref mf, .ref mh, .ref mn, .ref mt, .ref mz, .ref mc_, .ref mq, .ref mgr, .int cl, .int wa, .int co_, .int fi, .int bu, .int ho, .ref ml, .ref mi, .ref mr, .int lh, .int mg, .int wd, .int fpi, .int fal, .ref mm, .ref mu, .ref mk, .ref mx, .long po, .long de]))]) rfl ?_
        refine r_if_ne (tgt := 49) d_Mm_cheapest_25 (by decide) (fun c_25 => ?_) (fun c_25 => ?_)
        · exact absurd c_25 (by decide)
        · refine r_aload_n d_Mm_cheapest_28 rfl 0 rfl ?_
          refine r_aload_n d_Mm_cheapest_29 rfl 0 rfl ?_
          refine r_get fs_Mm_69 d_Mm_cheapest_30 (q0 := 0) rfl rfl ?_
          refine r_iconst d_Mm_cheapest_33 (v := (-1)) (by decide) ?_
          refine r_icmp_ne (tgt := 41) d_Mm_cheapest_34 (by decide) (fun c_34 => ?_) (fun c_34 => ?_)
          · refine r_iconst d_Mm_cheapest_41 (v := 0) (by decide) ?_
            refine r_iconst d_Mm_cheapest_42 (v := 2) (by decide) ?_
            refine r_callV (As := [.int 0, .int 2]) (rest := []) (csC := [(m, .inr (12, [.int 0, .ref mp, .int pt, .ref mf, .ref mh, .ref mn, .ref mt, .ref mz, .ref mc_, .ref mq, .ref mgr, .int cl, .int wa, .int co_, .int fi, .int bu, .int ho, .ref ml, .ref mi, .ref mr, .int lh, .int mg, .int wd, .int fpi, .int fal, .ref mm, .ref mu, .ref mk, .ref mx, .long po, .long de]))]) (is := [0]) (q0 := 0) rfl rfl ln_Mm_103 w_im_Mm_fails w_se_Mm_fails ok_Mm_cheapest_Mm_fails d_Mm_cheapest_43 (C_Mm_fails0 g m mp mf mh mn mt mz mc_ mq mgr ml mi mr mm mu mk mx th pt cl wa co_ fi bu ho lh mg wd fpi fal po de 2) rfl rfl (Nat.le_of_ble_eq_true rfl) rfl (by decide) (by omega) (by omega) (fun E cs1 hx => ?_) (fun v cs1 hx => ?_)
            · exact absurd hx.1 (by simp)
            · obtain ⟨e1, rfl⟩ := hx
              cases e1
              refine ⟨rfl, ?_⟩
              refine r_st (st2 := [.int 0]) rfl ?_
              refine r_cs (cs2 := [(m, .inr (12, [.int 0, .ref mp, .int pt, .ref mf, .ref mh, .ref mn, .ref mt, .ref mz, .ref mc_, .ref mq, .ref mgr, .int cl, .int wa, .int co_, .int fi, .int bu, .int ho, .ref ml, .ref mi, .ref mr, .int lh, .int mg, .int wd, .int fpi, .int fal, .ref mm, .ref mu, .ref mk, .ref mx, .long po, .long de]))]) rfl ?_
              refine r_if_eq (tgt := 51) d_Mm_cheapest_46 (by decide) (fun c_46 => ?_) (fun c_46 => ?_)
              · refine r_iload_n d_Mm_cheapest_51 rfl 1 rfl ?_
                refine r_bipush d_Mm_cheapest_52 (v := 112) (by decide) ?_
                refine r_icmp_ne (tgt := 64) d_Mm_cheapest_54 (by decide) (fun c_54 => ?_) (fun c_54 => ?_)
                · refine r_iload_n d_Mm_cheapest_64 rfl 1 rfl ?_
                  refine r_bipush d_Mm_cheapest_65 (v := 102) (by decide) ?_
                  refine r_icmp_ne (tgt := 77) d_Mm_cheapest_67 (by decide) (fun c_67 => ?_) (fun c_67 => ?_)
                  · refine r_bipush d_Mm_cheapest_77 (v := 100) (by decide) ?_
                    refine r_aload_n d_Mm_cheapest_79 rfl 0 rfl ?_
                    refine r_get fs_Mm_69 d_Mm_cheapest_80 (q0 := 0) rfl rfl ?_
                    refine r_isub d_Mm_cheapest_83 (v := 100 - fpi) rfl ?_
                    refine r_aload_n d_Mm_cheapest_84 rfl 0 rfl ?_
                    refine r_get fs_Mm_276 d_Mm_cheapest_85 (q0 := 0) rfl rfl ?_
                    refine r_isub d_Mm_cheapest_88 (v := (100 - fpi) - fal) rfl ?_
                    refine r_iret d_Mm_cheapest_89 rfl rfl ?_
                    exact ⟨_, _, rfl, rfl⟩
                  · refine r_aload_n d_Mm_cheapest_70 rfl 0 rfl ?_
                    refine r_get fs_Mm_276 d_Mm_cheapest_71 (q0 := 0) rfl rfl ?_
                    refine r_goto (tgt := 89) d_Mm_cheapest_74 (by decide) ?_
                    refine r_iret d_Mm_cheapest_89 rfl rfl ?_
                    exact ⟨_, _, rfl, rfl⟩
                · refine r_aload_n d_Mm_cheapest_57 rfl 0 rfl ?_
                  refine r_get fs_Mm_69 d_Mm_cheapest_58 (q0 := 0) rfl rfl ?_
                  refine r_goto (tgt := 89) d_Mm_cheapest_61 (by decide) ?_
                  refine r_iret d_Mm_cheapest_89 rfl rfl ?_
                  exact ⟨_, _, rfl, rfl⟩
              · exact absurd c_46 (by decide)
          · refine r_iconst d_Mm_cheapest_37 (v := 1) (by decide) ?_
            refine r_goto (tgt := 42) d_Mm_cheapest_38 (by decide) ?_
            refine r_iconst d_Mm_cheapest_42 (v := 2) (by decide) ?_
            refine r_callV (As := [.int 1, .int 2]) (rest := []) (csC := [(m, .inr (12, [.int 0, .ref mp, .int pt, .ref mf, .ref mh, .ref mn, .ref mt, .ref mz, .ref mc_, .ref mq, .ref mgr, .int cl, .int wa, .int co_, .int fi, .int bu, .int ho, .ref ml, .ref mi, .ref mr, .int lh, .int mg, .int wd, .int fpi, .int fal, .ref mm, .ref mu, .ref mk, .ref mx, .long po, .long de]))]) (is := [0]) (q0 := 0) rfl rfl ln_Mm_103 w_im_Mm_fails w_se_Mm_fails ok_Mm_cheapest_Mm_fails d_Mm_cheapest_43 (C_Mm_fails2 g m mp mf mh mn mt mz mc_ mq mgr ml mi mr mm mu mk mx th pt cl wa co_ fi bu ho lh mg wd fpi fal po de) rfl rfl (Nat.le_of_ble_eq_true rfl) rfl (by decide) (by omega) (by omega) (fun E cs1 hx => ?_) (fun v cs1 hx => ?_)
            · exact absurd hx.1 (by simp)
            · obtain ⟨e1, rfl⟩ := hx
              cases e1
              refine ⟨rfl, ?_⟩
              refine r_st (st2 := [.int 1]) rfl ?_
              refine r_cs (cs2 := [(m, .inr (12, [.int 2, .ref mp, .int pt, .ref mf, .ref mh, .ref mn, .ref mt, .ref mz, .ref mc_, .ref mq, .ref mgr, .int cl, .int wa, .int co_, .int fi, .int bu, .int ho, .ref ml, .ref mi, .ref mr, .int lh, .int mg, .int wd, .int fpi, .int fal, .ref mm, .ref mu, .ref mk, .ref mx, .long po, .long de]))]) rfl ?_
              refine r_if_eq (tgt := 51) d_Mm_cheapest_46 (by decide) (fun c_46 => ?_) (fun c_46 => ?_)
              · exact absurd c_46 (by decide)
              · refine r_iconst d_Mm_cheapest_49 (v := 0) (by decide) ?_
                refine r_iret d_Mm_cheapest_50 rfl rfl ?_
                exact ⟨_, _, rfl, rfl⟩
    · exact absurd (Int32.not_le.mp c_13) hw
