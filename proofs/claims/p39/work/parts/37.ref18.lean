theorem d_Mm_init_7 : decode prog_14_method_1_code 7 = .ok (.newarray .char, 2) := by decide +kernel
theorem d_Mm_init_9 : decode prog_14_method_1_code 9 = .ok (.putfield 7, 3) := zo_181 (d := 0) (e := 7) (zd_b zq_prog_14_method_1_code_0 9 rfl rfl rfl) (zd_b zq_prog_14_method_1_code_0 10 rfl rfl rfl) (zd_b zq_prog_14_method_1_code_0 11 rfl rfl rfl)
theorem fp_Mm_7 : z_fp "IronpourModel" 7 12 1 false (t_Mm 1) := ⟨R_Mm, "IronpourModel", F_Mm, 31, t_Mm, rfl, u_Mm, by decide, t_Mm_ok, n_Mm, rfl, rfl, Or.inl ⟨z_mj7 (i := 84) rfl (by decide +kernel), Or.inl rfl, fun h => nomatch h⟩⟩
theorem d_Mm_init_12 : decode prog_14_method_1_code 12 = .ok (.aload_n 0, 1) := zo_42 (zd_b zq_prog_14_method_1_code_0 12 rfl rfl rfl)
theorem d_Mm_init_13 : decode prog_14_method_1_code 13 = .ok (.iconst 4, 1) := zo_7 (zd_b zq_prog_14_method_1_code_0 13 rfl rfl rfl)
theorem d_Mm_init_14 : decode prog_14_method_1_code 14 = .ok (.putfield 13, 3) := zo_181 (d := 0) (e := 13) (zd_b zq_prog_14_method_1_code_0 14 rfl rfl rfl) (zd_b zq_prog_14_method_1_code_0 15 rfl rfl rfl) (zd_b zq_prog_14_method_1_code_0 16 rfl rfl rfl)
theorem d_Mm_init_17 : decode prog_14_method_1_code 17 = .ok (.aload_n 0, 1) := zo_42 (zd_b zq_prog_14_method_1_code_0 17 rfl rfl rfl)
theorem d_Mm_init_18 : decode prog_14_method_1_code 18 = .ok (.bipush 108, 2) := zo_16 (d := 108) (zd_b zq_prog_14_method_1_code_0 18 rfl rfl rfl) (zd_b zq_prog_14_method_1_code_0 19 rfl rfl rfl) (by decide +kernel)
theorem d_Mm_init_20 : decode prog_14_method_1_code 20 = .ok (.newarray .int, 2) := by decide +kernel
theorem d_Mm_init_22 : decode prog_14_method_1_code 22 = .ok (.putfield 17, 3) := zo_181 (d := 0) (e := 17) (zd_b zq_prog_14_method_1_code_0 22 rfl rfl rfl) (zd_b zq_prog_14_method_1_code_0 23 rfl rfl rfl) (zd_b zq_prog_14_method_1_code_0 24 rfl rfl rfl)
theorem fp_Mm_17 : z_fp "IronpourModel" 17 12 3 true (t_Mm 3) := ⟨R_Mm, "IronpourModel", F_Mm, 31, t_Mm, rfl, u_Mm, by decide, t_Mm_ok, n_Mm, rfl, rfl, Or.inl ⟨z_mj7 (i := 86) rfl (by decide +kernel), Or.inl rfl, fun _ => ⟨rfl, rfl⟩⟩⟩
theorem d_Mm_init_25 : decode prog_14_method_1_code 25 = .ok (.aload_n 0, 1) := zo_42 (zd_b zq_prog_14_method_1_code_0 25 rfl rfl rfl)
theorem d_Mm_init_26 : decode prog_14_method_1_code 26 = .ok (.bipush 108, 2) := zo_16 (d := 108) (zd_b zq_prog_14_method_1_code_0 26 rfl rfl rfl) (zd_b zq_prog_14_method_1_code_0 27 rfl rfl rfl) (by decide +kernel)
theorem d_Mm_init_28 : decode prog_14_method_1_code 28 = .ok (.newarray .int, 2) := by decide +kernel
theorem d_Mm_init_30 : decode prog_14_method_1_code 30 = .ok (.putfield 21, 3) := zo_181 (d := 0) (e := 21) (zd_b zq_prog_14_method_1_code_0 30 rfl rfl rfl) (zd_b zq_prog_14_method_1_code_0 31 rfl rfl rfl) (zd_b zq_prog_14_method_1_code_1 0 rfl rfl rfl)
theorem fp_Mm_21 : z_fp "IronpourModel" 21 12 4 true (t_Mm 4) := ⟨R_Mm, "IronpourModel", F_Mm, 31, t_Mm, rfl, u_Mm, by decide, t_Mm_ok, n_Mm, rfl, rfl, Or.inl ⟨z_mj7 (i := 87) rfl (by decide +kernel), Or.inl rfl, fun _ => ⟨rfl, rfl⟩⟩⟩
theorem d_Mm_init_33 : decode prog_14_method_1_code 33 = .ok (.aload_n 0, 1) := zo_42 (zd_b zq_prog_14_method_1_code_1 1 rfl rfl rfl)
theorem d_Mm_init_34 : decode prog_14_method_1_code 34 = .ok (.bipush 108, 2) := zo_16 (d := 108) (zd_b zq_prog_14_method_1_code_1 2 rfl rfl rfl) (zd_b zq_prog_14_method_1_code_1 3 rfl rfl rfl) (by decide +kernel)
theorem d_Mm_init_36 : decode prog_14_method_1_code 36 = .ok (.newarray .int, 2) := by decide +kernel
theorem d_Mm_init_38 : decode prog_14_method_1_code 38 = .ok (.putfield 24, 3) := zo_181 (d := 0) (e := 24) (zd_b zq_prog_14_method_1_code_1 6 rfl rfl rfl) (zd_b zq_prog_14_method_1_code_1 7 rfl rfl rfl) (zd_b zq_prog_14_method_1_code_1 8 rfl rfl rfl)
theorem fp_Mm_24 : z_fp "IronpourModel" 24 12 5 true (t_Mm 5) := ⟨R_Mm, "IronpourModel", F_Mm, 31, t_Mm, rfl, u_Mm, by decide, t_Mm_ok, n_Mm, rfl, rfl, Or.inl ⟨z_mj7 (i := 88) rfl (by decide +kernel), Or.inl rfl, fun _ => ⟨rfl, rfl⟩⟩⟩
theorem d_Mm_init_41 : decode prog_14_method_1_code 41 = .ok (.aload_n 0, 1) := zo_42 (zd_b zq_prog_14_method_1_code_1 9 rfl rfl rfl)
theorem d_Mm_init_42 : decode prog_14_method_1_code 42 = .ok (.bipush 108, 2) := zo_16 (d := 108) (zd_b zq_prog_14_method_1_code_1 10 rfl rfl rfl) (zd_b zq_prog_14_method_1_code_1 11 rfl rfl rfl) (by decide +kernel)
theorem d_Mm_init_44 : decode prog_14_method_1_code 44 = .ok (.newarray .int, 2) := by decide +kernel
theorem d_Mm_init_46 : decode prog_14_method_1_code 46 = .ok (.putfield 27, 3) := zo_181 (d := 0) (e := 27) (zd_b zq_prog_14_method_1_code_1 14 rfl rfl rfl) (zd_b zq_prog_14_method_1_code_1 15 rfl rfl rfl) (zd_b zq_prog_14_method_1_code_1 16 rfl rfl rfl)
theorem fp_Mm_27 : z_fp "IronpourModel" 27 12 6 true (t_Mm 6) := ⟨R_Mm, "IronpourModel", F_Mm, 31, t_Mm, rfl, u_Mm, by decide, t_Mm_ok, n_Mm, rfl, rfl, Or.inl ⟨z_mj7 (i := 89) rfl (by decide +kernel), Or.inl rfl, fun _ => ⟨rfl, rfl⟩⟩⟩
theorem d_Mm_init_49 : decode prog_14_method_1_code 49 = .ok (.aload_n 0, 1) := zo_42 (zd_b zq_prog_14_method_1_code_1 17 rfl rfl rfl)
theorem d_Mm_init_50 : decode prog_14_method_1_code 50 = .ok (.bipush 108, 2) := zo_16 (d := 108) (zd_b zq_prog_14_method_1_code_1 18 rfl rfl rfl) (zd_b zq_prog_14_method_1_code_1 19 rfl rfl rfl) (by decide +kernel)
theorem d_Mm_init_52 : decode prog_14_method_1_code 52 = .ok (.newarray .int, 2) := by decide +kernel
theorem d_Mm_init_54 : decode prog_14_method_1_code 54 = .ok (.putfield 30, 3) := zo_181 (d := 0) (e := 30) (zd_b zq_prog_14_method_1_code_1 22 rfl rfl rfl) (zd_b zq_prog_14_method_1_code_1 23 rfl rfl rfl) (zd_b zq_prog_14_method_1_code_1 24 rfl rfl rfl)
theorem fp_Mm_30 : z_fp "IronpourModel" 30 12 7 true (t_Mm 7) := ⟨R_Mm, "IronpourModel", F_Mm, 31, t_Mm, rfl, u_Mm, by decide, t_Mm_ok, n_Mm, rfl, rfl, Or.inl ⟨z_mj7 (i := 90) rfl (by decide +kernel), Or.inl rfl, fun _ => ⟨rfl, rfl⟩⟩⟩
theorem d_Mm_init_57 : decode prog_14_method_1_code 57 = .ok (.aload_n 0, 1) := zo_42 (zd_b zq_prog_14_method_1_code_1 25 rfl rfl rfl)
theorem d_Mm_init_58 : decode prog_14_method_1_code 58 = .ok (.bipush 108, 2) := zo_16 (d := 108) (zd_b zq_prog_14_method_1_code_1 26 rfl rfl rfl) (zd_b zq_prog_14_method_1_code_1 27 rfl rfl rfl) (by decide +kernel)
theorem d_Mm_init_60 : decode prog_14_method_1_code 60 = .ok (.newarray .boolean, 2) := by decide +kernel
theorem d_Mm_init_62 : decode prog_14_method_1_code 62 = .ok (.putfield 33, 3) := zo_181 (d := 0) (e := 33) (zd_b zq_prog_14_method_1_code_1 30 rfl rfl rfl) (zd_b zq_prog_14_method_1_code_1 31 rfl rfl rfl) (zd_b zq_prog_14_method_1_code_2 0 rfl rfl rfl)
theorem fp_Mm_33 : z_fp "IronpourModel" 33 12 8 true (t_Mm 8) := ⟨R_Mm, "IronpourModel", F_Mm, 31, t_Mm, rfl, u_Mm, by decide, t_Mm_ok, n_Mm, rfl, rfl, Or.inl ⟨z_mj7 (i := 91) rfl (by decide +kernel), Or.inl rfl, fun _ => ⟨rfl, rfl⟩⟩⟩
theorem d_Mm_init_65 : decode prog_14_method_1_code 65 = .ok (.aload_n 0, 1) := zo_42 (zd_b zq_prog_14_method_1_code_2 1 rfl rfl rfl)
theorem d_Mm_init_66 : decode prog_14_method_1_code 66 = .ok (.bipush 108, 2) := zo_16 (d := 108) (zd_b zq_prog_14_method_1_code_2 2 rfl rfl rfl) (zd_b zq_prog_14_method_1_code_2 3 rfl rfl rfl) (by decide +kernel)
theorem d_Mm_init_68 : decode prog_14_method_1_code 68 = .ok (.newarray .int, 2) := by decide +kernel
theorem d_Mm_init_70 : decode prog_14_method_1_code 70 = .ok (.putfield 37, 3) := zo_181 (d := 0) (e := 37) (zd_b zq_prog_14_method_1_code_2 6 rfl rfl rfl) (zd_b zq_prog_14_method_1_code_2 7 rfl rfl rfl) (zd_b zq_prog_14_method_1_code_2 8 rfl rfl rfl)
theorem fp_Mm_37 : z_fp "IronpourModel" 37 12 9 true (t_Mm 9) := ⟨R_Mm, "IronpourModel", F_Mm, 31, t_Mm, rfl, u_Mm, by decide, t_Mm_ok, n_Mm, rfl, rfl, Or.inl ⟨z_mj7 (i := 92) rfl (by decide +kernel), Or.inl rfl, fun _ => ⟨rfl, rfl⟩⟩⟩
theorem d_Mm_init_73 : decode prog_14_method_1_code 73 = .ok (.aload_n 0, 1) := zo_42 (zd_b zq_prog_14_method_1_code_2 9 rfl rfl rfl)
theorem d_Mm_init_74 : decode prog_14_method_1_code 74 = .ok (.bipush 108, 2) := zo_16 (d := 108) (zd_b zq_prog_14_method_1_code_2 10 rfl rfl rfl) (zd_b zq_prog_14_method_1_code_2 11 rfl rfl rfl) (by decide +kernel)
theorem d_Mm_init_76 : decode prog_14_method_1_code 76 = .ok (.newarray .int, 2) := by decide +kernel
theorem d_Mm_init_78 : decode prog_14_method_1_code 78 = .ok (.putfield 40, 3) := zo_181 (d := 0) (e := 40) (zd_b zq_prog_14_method_1_code_2 14 rfl rfl rfl) (zd_b zq_prog_14_method_1_code_2 15 rfl rfl rfl) (zd_b zq_prog_14_method_1_code_2 16 rfl rfl rfl)
theorem fp_Mm_40 : z_fp "IronpourModel" 40 12 10 true (t_Mm 10) := ⟨R_Mm, "IronpourModel", F_Mm, 31, t_Mm, rfl, u_Mm, by decide, t_Mm_ok, n_Mm, rfl, rfl, Or.inl ⟨z_mj7 (i := 93) rfl (by decide +kernel), Or.inl rfl, fun _ => ⟨rfl, rfl⟩⟩⟩
theorem d_Mm_init_81 : decode prog_14_method_1_code 81 = .ok (.aload_n 0, 1) := zo_42 (zd_b zq_prog_14_method_1_code_2 17 rfl rfl rfl)
theorem d_Mm_init_82 : decode prog_14_method_1_code 82 = .ok (.bipush 80, 2) := zo_16 (d := 80) (zd_b zq_prog_14_method_1_code_2 18 rfl rfl rfl) (zd_b zq_prog_14_method_1_code_2 19 rfl rfl rfl) (by decide +kernel)
theorem d_Mm_init_84 : decode prog_14_method_1_code 84 = .ok (.putfield 43, 3) := zo_181 (d := 0) (e := 43) (zd_b zq_prog_14_method_1_code_2 20 rfl rfl rfl) (zd_b zq_prog_14_method_1_code_2 21 rfl rfl rfl) (zd_b zq_prog_14_method_1_code_2 22 rfl rfl rfl)
theorem d_Mm_init_87 : decode prog_14_method_1_code 87 = .ok (.aload_n 0, 1) := zo_42 (zd_b zq_prog_14_method_1_code_2 23 rfl rfl rfl)
theorem d_Mm_init_88 : decode prog_14_method_1_code 88 = .ok (.bipush 35, 2) := zo_16 (d := 35) (zd_b zq_prog_14_method_1_code_2 24 rfl rfl rfl) (zd_b zq_prog_14_method_1_code_2 25 rfl rfl rfl) (by decide +kernel)
theorem d_Mm_init_90 : decode prog_14_method_1_code 90 = .ok (.putfield 46, 3) := zo_181 (d := 0) (e := 46) (zd_b zq_prog_14_method_1_code_2 26 rfl rfl rfl) (zd_b zq_prog_14_method_1_code_2 27 rfl rfl rfl) (zd_b zq_prog_14_method_1_code_2 28 rfl rfl rfl)
theorem d_Mm_init_93 : decode prog_14_method_1_code 93 = .ok (.aload_n 0, 1) := zo_42 (zd_b zq_prog_14_method_1_code_2 29 rfl rfl rfl)
theorem d_Mm_init_94 : decode prog_14_method_1_code 94 = .ok (.bipush 30, 2) := zo_16 (d := 30) (zd_b zq_prog_14_method_1_code_2 30 rfl rfl rfl) (zd_b zq_prog_14_method_1_code_2 31 rfl rfl rfl) (by decide +kernel)
theorem d_Mm_init_96 : decode prog_14_method_1_code 96 = .ok (.putfield 49, 3) := zo_181 (d := 0) (e := 49) (zd_b zq_prog_14_method_1_code_3 0 rfl rfl rfl) (zd_b zq_prog_14_method_1_code_3 1 rfl rfl rfl) (zd_b zq_prog_14_method_1_code_3 2 rfl rfl rfl)
theorem d_Mm_init_99 : decode prog_14_method_1_code 99 = .ok (.aload_n 0, 1) := zo_42 (zd_b zq_prog_14_method_1_code_3 3 rfl rfl rfl)
theorem d_Mm_init_100 : decode prog_14_method_1_code 100 = .ok (.bipush 50, 2) := zo_16 (d := 50) (zd_b zq_prog_14_method_1_code_3 4 rfl rfl rfl) (zd_b zq_prog_14_method_1_code_3 5 rfl rfl rfl) (by decide +kernel)
theorem d_Mm_init_102 : decode prog_14_method_1_code 102 = .ok (.putfield 52, 3) := zo_181 (d := 0) (e := 52) (zd_b zq_prog_14_method_1_code_3 6 rfl rfl rfl) (zd_b zq_prog_14_method_1_code_3 7 rfl rfl rfl) (zd_b zq_prog_14_method_1_code_3 8 rfl rfl rfl)
theorem d_Mm_init_105 : decode prog_14_method_1_code 105 = .ok (.aload_n 0, 1) := zo_42 (zd_b zq_prog_14_method_1_code_3 9 rfl rfl rfl)
theorem d_Mm_init_106 : decode prog_14_method_1_code 106 = .ok (.new 55, 3) := zo_187 (d := 0) (e := 55) (zd_b zq_prog_14_method_1_code_3 10 rfl rfl rfl) (zd_b zq_prog_14_method_1_code_3 11 rfl rfl rfl) (zd_b zq_prog_14_method_1_code_3 12 rfl rfl rfl)
theorem nc_Mm_55 : z_nc "IronpourModel" 55 13 3 [.int 0, .null, .int 0] := ⟨R_AL, F_AL, t_AL, rfl, u_AL, t_AL_ok, z_mj7 (i := 81) rfl (by decide +kernel), z_mj2 (i := 38) rfl (by decide +kernel), z_mj1 (i := 13) rfl (by decide +kernel), by decide +kernel⟩
theorem d_Mm_init_109 : decode prog_14_method_1_code 109 = .ok (.dup, 1) := zo_89 (zd_b zq_prog_14_method_1_code_3 13 rfl rfl rfl)
theorem d_Mm_init_110 : decode prog_14_method_1_code 110 = .ok (.invokespecial 57, 3) := zo_183 (d := 0) (e := 57) (zd_b zq_prog_14_method_1_code_3 14 rfl rfl rfl) (zd_b zq_prog_14_method_1_code_3 15 rfl rfl rfl) (zd_b zq_prog_14_method_1_code_3 16 rfl rfl rfl)
theorem ok_Mm_init_AL_init : z_ok M_Mm_init M_AL_init 0 := ⟨z_mj2 (i := 41) rfl (by decide +kernel), rfl, ⟨by decide +kernel, by decide +kernel, by decide +kernel⟩, ⟨by decide, by decide⟩, z_mj1 (i := 13) rfl (by decide +kernel), rfl⟩
theorem ln_Mm_57 : Cond.methodLink "IronpourModel" 57 M_AL_init.1 ∈ z_gw := z_mj7 (i := 82) rfl (by decide +kernel)
theorem w_im_AL_init : Cond.instanceMethod M_AL_init.1 ∈ z_gw := z_mj2 (i := 40) rfl (by decide +kernel)
theorem d_Mm_init_113 : decode prog_14_method_1_code 113 = .ok (.putfield 58, 3) := zo_181 (d := 0) (e := 58) (zd_b zq_prog_14_method_1_code_3 17 rfl rfl rfl) (zd_b zq_prog_14_method_1_code_3 18 rfl rfl rfl) (zd_b zq_prog_14_method_1_code_3 19 rfl rfl rfl)
theorem fp_Mm_58 : z_fp "IronpourModel" 58 12 17 true (t_Mm 17) := ⟨R_Mm, "IronpourModel", F_Mm, 31, t_Mm, rfl, u_Mm, by decide, t_Mm_ok, n_Mm, rfl, rfl, Or.inl ⟨z_mj7 (i := 100) rfl (by decide +kernel), Or.inl rfl, fun _ => ⟨rfl, rfl⟩⟩⟩
theorem d_Mm_init_116 : decode prog_14_method_1_code 116 = .ok (.aload_n 0, 1) := zo_42 (zd_b zq_prog_14_method_1_code_3 20 rfl rfl rfl)
theorem d_Mm_init_117 : decode prog_14_method_1_code 117 = .ok (.iconst 4, 1) := zo_7 (zd_b zq_prog_14_method_1_code_3 21 rfl rfl rfl)
theorem d_Mm_init_118 : decode prog_14_method_1_code 118 = .ok (.newarray .int, 2) := by decide +kernel
theorem d_Mm_init_120 : decode prog_14_method_1_code 120 = .ok (.putfield 62, 3) := zo_181 (d := 0) (e := 62) (zd_b zq_prog_14_method_1_code_3 24 rfl rfl rfl) (zd_b zq_prog_14_method_1_code_3 25 rfl rfl rfl) (zd_b zq_prog_14_method_1_code_3 26 rfl rfl rfl)
theorem fp_Mm_62 : z_fp "IronpourModel" 62 12 18 true (t_Mm 18) := ⟨R_Mm, "IronpourModel", F_Mm, 31, t_Mm, rfl, u_Mm, by decide, t_Mm_ok, n_Mm, rfl, rfl, Or.inl ⟨z_mj7 (i := 101) rfl (by decide +kernel), Or.inl rfl, fun _ => ⟨rfl, rfl⟩⟩⟩
theorem d_Mm_init_123 : decode prog_14_method_1_code 123 = .ok (.aload_n 0, 1) := zo_42 (zd_b zq_prog_14_method_1_code_3 27 rfl rfl rfl)
theorem d_Mm_init_124 : decode prog_14_method_1_code 124 = .ok (.bipush 16, 2) := zo_16 (d := 16) (zd_b zq_prog_14_method_1_code_3 28 rfl rfl rfl) (zd_b zq_prog_14_method_1_code_3 29 rfl rfl rfl) (by decide +kernel)
theorem d_Mm_init_126 : decode prog_14_method_1_code 126 = .ok (.newarray .long, 2) := by decide +kernel
theorem d_Mm_init_128 : decode prog_14_method_1_code 128 = .ok (.putfield 65, 3) := zo_181 (d := 0) (e := 65) (zd_b zq_prog_14_method_1_code_4 0 rfl rfl rfl) (zd_b zq_prog_14_method_1_code_4 1 rfl rfl rfl) (zd_b zq_prog_14_method_1_code_4 2 rfl rfl rfl)
theorem fp_Mm_65 : z_fp "IronpourModel" 65 12 19 true (t_Mm 19) := ⟨R_Mm, "IronpourModel", F_Mm, 31, t_Mm, rfl, u_Mm, by decide, t_Mm_ok, n_Mm, rfl, rfl, Or.inl ⟨z_mj7 (i := 102) rfl (by decide +kernel), Or.inl rfl, fun _ => ⟨rfl, rfl⟩⟩⟩
theorem d_Mm_init_131 : decode prog_14_method_1_code 131 = .ok (.aload_n 0, 1) := zo_42 (zd_b zq_prog_14_method_1_code_4 3 rfl rfl rfl)
theorem d_Mm_init_132 : decode prog_14_method_1_code 132 = .ok (.iconst (-1), 1) := zo_2 (zd_b zq_prog_14_method_1_code_4 4 rfl rfl rfl)
theorem d_Mm_init_133 : decode prog_14_method_1_code 133 = .ok (.putfield 69, 3) := zo_181 (d := 0) (e := 69) (zd_b zq_prog_14_method_1_code_4 5 rfl rfl rfl) (zd_b zq_prog_14_method_1_code_4 6 rfl rfl rfl) (zd_b zq_prog_14_method_1_code_4 7 rfl rfl rfl)
theorem fp_Mm_69 : z_fp "IronpourModel" 69 12 23 false .int := ⟨R_Mm, "IronpourModel", F_Mm, 31, t_Mm, rfl, u_Mm, by decide, t_Mm_ok, n_Mm, rfl, rfl, Or.inl ⟨z_mj7 (i := 106) rfl (by decide +kernel), Or.inl rfl, fun h => nomatch h⟩⟩
theorem d_Mm_init_136 : decode prog_14_method_1_code 136 = .ok (.aload_n 0, 1) := zo_42 (zd_b zq_prog_14_method_1_code_4 8 rfl rfl rfl)
theorem d_Mm_init_137 : decode prog_14_method_1_code 137 = .ok (.new 55, 3) := zo_187 (d := 0) (e := 55) (zd_b zq_prog_14_method_1_code_4 9 rfl rfl rfl) (zd_b zq_prog_14_method_1_code_4 10 rfl rfl rfl) (zd_b zq_prog_14_method_1_code_4 11 rfl rfl rfl)
theorem d_Mm_init_140 : decode prog_14_method_1_code 140 = .ok (.dup, 1) := zo_89 (zd_b zq_prog_14_method_1_code_4 12 rfl rfl rfl)
theorem d_Mm_init_141 : decode prog_14_method_1_code 141 = .ok (.invokespecial 57, 3) := zo_183 (d := 0) (e := 57) (zd_b zq_prog_14_method_1_code_4 13 rfl rfl rfl) (zd_b zq_prog_14_method_1_code_4 14 rfl rfl rfl) (zd_b zq_prog_14_method_1_code_4 15 rfl rfl rfl)
theorem d_Mm_init_144 : decode prog_14_method_1_code 144 = .ok (.putfield 72, 3) := zo_181 (d := 0) (e := 72) (zd_b zq_prog_14_method_1_code_4 16 rfl rfl rfl) (zd_b zq_prog_14_method_1_code_4 17 rfl rfl rfl) (zd_b zq_prog_14_method_1_code_4 18 rfl rfl rfl)
theorem fp_Mm_72 : z_fp "IronpourModel" 72 12 25 true (t_Mm 25) := ⟨R_Mm, "IronpourModel", F_Mm, 31, t_Mm, rfl, u_Mm, by decide, t_Mm_ok, n_Mm, rfl, rfl, Or.inl ⟨z_mj7 (i := 108) rfl (by decide +kernel), Or.inl rfl, fun _ => ⟨rfl, rfl⟩⟩⟩
theorem d_Mm_init_147 : decode prog_14_method_1_code 147 = .ok (.aload_n 0, 1) := zo_42 (zd_b zq_prog_14_method_1_code_4 19 rfl rfl rfl)
theorem d_Mm_init_148 : decode prog_14_method_1_code 148 = .ok (.new 55, 3) := zo_187 (d := 0) (e := 55) (zd_b zq_prog_14_method_1_code_4 20 rfl rfl rfl) (zd_b zq_prog_14_method_1_code_4 21 rfl rfl rfl) (zd_b zq_prog_14_method_1_code_4 22 rfl rfl rfl)
theorem d_Mm_init_151 : decode prog_14_method_1_code 151 = .ok (.dup, 1) := zo_89 (zd_b zq_prog_14_method_1_code_4 23 rfl rfl rfl)
theorem d_Mm_init_152 : decode prog_14_method_1_code 152 = .ok (.invokespecial 57, 3) := zo_183 (d := 0) (e := 57) (zd_b zq_prog_14_method_1_code_4 24 rfl rfl rfl) (zd_b zq_prog_14_method_1_code_4 25 rfl rfl rfl) (zd_b zq_prog_14_method_1_code_4 26 rfl rfl rfl)
theorem d_Mm_init_155 : decode prog_14_method_1_code 155 = .ok (.putfield 75, 3) := zo_181 (d := 0) (e := 75) (zd_b zq_prog_14_method_1_code_4 27 rfl rfl rfl) (zd_b zq_prog_14_method_1_code_4 28 rfl rfl rfl) (zd_b zq_prog_14_method_1_code_4 29 rfl rfl rfl)
theorem fp_Mm_75 : z_fp "IronpourModel" 75 12 26 true (t_Mm 26) := ⟨R_Mm, "IronpourModel", F_Mm, 31, t_Mm, rfl, u_Mm, by decide, t_Mm_ok, n_Mm, rfl, rfl, Or.inl ⟨z_mj7 (i := 109) rfl (by decide +kernel), Or.inl rfl, fun _ => ⟨rfl, rfl⟩⟩⟩
theorem d_Mm_init_158 : decode prog_14_method_1_code 158 = .ok (.aload_n 0, 1) := zo_42 (zd_b zq_prog_14_method_1_code_4 30 rfl rfl rfl)
theorem d_Mm_init_159 : decode prog_14_method_1_code 159 = .ok (.new 55, 3) := zo_187 (d := 0) (e := 55) (zd_b zq_prog_14_method_1_code_4 31 rfl rfl rfl) (zd_b zq_prog_14_method_1_code_5 0 rfl rfl rfl) (zd_b zq_prog_14_method_1_code_5 1 rfl rfl rfl)
theorem d_Mm_init_162 : decode prog_14_method_1_code 162 = .ok (.dup, 1) := zo_89 (zd_b zq_prog_14_method_1_code_5 2 rfl rfl rfl)
theorem d_Mm_init_163 : decode prog_14_method_1_code 163 = .ok (.invokespecial 57, 3) := zo_183 (d := 0) (e := 57) (zd_b zq_prog_14_method_1_code_5 3 rfl rfl rfl) (zd_b zq_prog_14_method_1_code_5 4 rfl rfl rfl) (zd_b zq_prog_14_method_1_code_5 5 rfl rfl rfl)
theorem d_Mm_init_166 : decode prog_14_method_1_code 166 = .ok (.putfield 78, 3) := zo_181 (d := 0) (e := 78) (zd_b zq_prog_14_method_1_code_5 6 rfl rfl rfl) (zd_b zq_prog_14_method_1_code_5 7 rfl rfl rfl) (zd_b zq_prog_14_method_1_code_5 8 rfl rfl rfl)
theorem fp_Mm_78 : z_fp "IronpourModel" 78 12 27 true (t_Mm 27) := ⟨R_Mm, "IronpourModel", F_Mm, 31, t_Mm, rfl, u_Mm, by decide, t_Mm_ok, n_Mm, rfl, rfl, Or.inl ⟨z_mj7 (i := 110) rfl (by decide +kernel), Or.inl rfl, fun _ => ⟨rfl, rfl⟩⟩⟩
theorem d_Mm_init_169 : decode prog_14_method_1_code 169 = .ok (.aload_n 0, 1) := zo_42 (zd_b zq_prog_14_method_1_code_5 9 rfl rfl rfl)
theorem d_Mm_init_170 : decode prog_14_method_1_code 170 = .ok (.new 55, 3) := zo_187 (d := 0) (e := 55) (zd_b zq_prog_14_method_1_code_5 10 rfl rfl rfl) (zd_b zq_prog_14_method_1_code_5 11 rfl rfl rfl) (zd_b zq_prog_14_method_1_code_5 12 rfl rfl rfl)
theorem d_Mm_init_173 : decode prog_14_method_1_code 173 = .ok (.dup, 1) := zo_89 (zd_b zq_prog_14_method_1_code_5 13 rfl rfl rfl)
theorem d_Mm_init_174 : decode prog_14_method_1_code 174 = .ok (.invokespecial 57, 3) := zo_183 (d := 0) (e := 57) (zd_b zq_prog_14_method_1_code_5 14 rfl rfl rfl) (zd_b zq_prog_14_method_1_code_5 15 rfl rfl rfl) (zd_b zq_prog_14_method_1_code_5 16 rfl rfl rfl)
theorem d_Mm_init_177 : decode prog_14_method_1_code 177 = .ok (.putfield 81, 3) := zo_181 (d := 0) (e := 81) (zd_b zq_prog_14_method_1_code_5 17 rfl rfl rfl) (zd_b zq_prog_14_method_1_code_5 18 rfl rfl rfl) (zd_b zq_prog_14_method_1_code_5 19 rfl rfl rfl)
theorem fp_Mm_81 : z_fp "IronpourModel" 81 12 28 true (t_Mm 28) := ⟨R_Mm, "IronpourModel", F_Mm, 31, t_Mm, rfl, u_Mm, by decide, t_Mm_ok, n_Mm, rfl, rfl, Or.inl ⟨z_mj7 (i := 111) rfl (by decide +kernel), Or.inl rfl, fun _ => ⟨rfl, rfl⟩⟩⟩
theorem d_Mm_init_180 : decode prog_14_method_1_code 180 = .ok (.iconst 0, 1) := zo_3 (zd_b zq_prog_14_method_1_code_5 20 rfl rfl rfl)
theorem d_Mm_init_181 : decode prog_14_method_1_code 181 = .ok (.istore_n 1, 1) := zo_60 (zd_b zq_prog_14_method_1_code_5 21 rfl rfl rfl)
