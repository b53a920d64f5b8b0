theorem nc_Ip_7 : z_nc "Ironpour" 7 8 4 [.null, .null, .null, .int 0] := ⟨R_Pa, F_Pa, t_Pa, rfl, u_Pa, t_Pa_ok, z_mj1 (i := 46) rfl (by decide +kernel), z_mj1 (i := 47) rfl (by decide +kernel), z_mj1 (i := 2) rfl (by decide +kernel), by decide +kernel⟩
theorem d_Ip_init_8 : decode prog_1_method_1_code 8 = .ok (.dup, 1) := zo_89 (zd_b zq_prog_1_method_1_code_0 8 rfl rfl rfl)
theorem d_Ip_init_9 : decode prog_1_method_1_code 9 = .ok (.invokespecial 9, 3) := zo_183 (d := 0) (e := 9) (zd_b zq_prog_1_method_1_code_0 9 rfl rfl rfl) (zd_b zq_prog_1_method_1_code_0 10 rfl rfl rfl) (zd_b zq_prog_1_method_1_code_0 11 rfl rfl rfl)
theorem ok_Ip_init_Pa_init : z_ok M_Ip_init M_Pa_init 0 := ⟨z_mj1 (i := 50) rfl (by decide +kernel), rfl, ⟨by decide +kernel, by decide +kernel, by decide +kernel⟩, ⟨by decide, by decide⟩, z_mj1 (i := 2) rfl (by decide +kernel), rfl⟩
theorem ln_Ip_9 : Cond.methodLink "Ironpour" 9 M_Pa_init.1 ∈ z_gw := z_mj1 (i := 48) rfl (by decide +kernel)
theorem w_im_Pa_init : Cond.instanceMethod M_Pa_init.1 ∈ z_gw := z_mj1 (i := 49) rfl (by decide +kernel)
theorem d_Ip_init_12 : decode prog_1_method_1_code 12 = .ok (.putfield 10, 3) := zo_181 (d := 0) (e := 10) (zd_b zq_prog_1_method_1_code_0 12 rfl rfl rfl) (zd_b zq_prog_1_method_1_code_0 13 rfl rfl rfl) (zd_b zq_prog_1_method_1_code_0 14 rfl rfl rfl)
theorem fp_Ip_10 : z_fp "Ironpour" 10 11 0 true (t_Ip 0) := ⟨R_Ip, "Ironpour", F_Ip, 12, t_Ip, rfl, u_Ip, by decide, t_Ip_ok, n_Ip, rfl, rfl, Or.inl ⟨z_mj2 (i := 63) rfl (by decide +kernel), Or.inl rfl, fun _ => ⟨rfl, rfl⟩⟩⟩
theorem d_Ip_init_15 : decode prog_1_method_1_code 15 = .ok (.aload_n 0, 1) := zo_42 (zd_b zq_prog_1_method_1_code_0 15 rfl rfl rfl)
theorem d_Ip_init_16 : decode prog_1_method_1_code 16 = .ok (.new 16, 3) := zo_187 (d := 0) (e := 16) (zd_b zq_prog_1_method_1_code_0 16 rfl rfl rfl) (zd_b zq_prog_1_method_1_code_0 17 rfl rfl rfl) (zd_b zq_prog_1_method_1_code_0 18 rfl rfl rfl)
theorem nc_Ip_16 : z_nc "Ironpour" 16 10 8 [.null, .null, .null, .null, .null, .null, .int 0, .int 0] := ⟨R_Tr, F_Tr, t_Tr, rfl, u_Tr, t_Tr_ok, z_mj1 (i := 71) rfl (by decide +kernel), z_mj1 (i := 72) rfl (by decide +kernel), z_mj1 (i := 3) rfl (by decide +kernel), by decide +kernel⟩
theorem d_Ip_init_19 : decode prog_1_method_1_code 19 = .ok (.dup, 1) := zo_89 (zd_b zq_prog_1_method_1_code_0 19 rfl rfl rfl)
theorem d_Ip_init_20 : decode prog_1_method_1_code 20 = .ok (.invokespecial 18, 3) := zo_183 (d := 0) (e := 18) (zd_b zq_prog_1_method_1_code_0 20 rfl rfl rfl) (zd_b zq_prog_1_method_1_code_0 21 rfl rfl rfl) (zd_b zq_prog_1_method_1_code_0 22 rfl rfl rfl)
theorem ok_Ip_init_Tr_init : z_ok M_Ip_init M_Tr_init 0 := ⟨z_mj1 (i := 75) rfl (by decide +kernel), rfl, ⟨by decide +kernel, by decide +kernel, by decide +kernel⟩, ⟨by decide, by decide⟩, z_mj1 (i := 3) rfl (by decide +kernel), rfl⟩
theorem ln_Ip_18 : Cond.methodLink "Ironpour" 18 M_Tr_init.1 ∈ z_gw := z_mj1 (i := 73) rfl (by decide +kernel)
theorem w_im_Tr_init : Cond.instanceMethod M_Tr_init.1 ∈ z_gw := z_mj1 (i := 74) rfl (by decide +kernel)
theorem d_Ip_init_23 : decode prog_1_method_1_code 23 = .ok (.putfield 19, 3) := zo_181 (d := 0) (e := 19) (zd_b zq_prog_1_method_1_code_0 23 rfl rfl rfl) (zd_b zq_prog_1_method_1_code_0 24 rfl rfl rfl) (zd_b zq_prog_1_method_1_code_0 25 rfl rfl rfl)
theorem fp_Ip_19 : z_fp "Ironpour" 19 11 1 true (t_Ip 1) := ⟨R_Ip, "Ironpour", F_Ip, 12, t_Ip, rfl, u_Ip, by decide, t_Ip_ok, n_Ip, rfl, rfl, Or.inl ⟨z_mj2 (i := 64) rfl (by decide +kernel), Or.inl rfl, fun _ => ⟨rfl, rfl⟩⟩⟩
theorem d_Ip_init_26 : decode prog_1_method_1_code 26 = .ok (.aload_n 0, 1) := zo_42 (zd_b zq_prog_1_method_1_code_0 26 rfl rfl rfl)
theorem d_Ip_init_27 : decode prog_1_method_1_code 27 = .ok (.new 16, 3) := zo_187 (d := 0) (e := 16) (zd_b zq_prog_1_method_1_code_0 27 rfl rfl rfl) (zd_b zq_prog_1_method_1_code_0 28 rfl rfl rfl) (zd_b zq_prog_1_method_1_code_0 29 rfl rfl rfl)
theorem d_Ip_init_30 : decode prog_1_method_1_code 30 = .ok (.dup, 1) := zo_89 (zd_b zq_prog_1_method_1_code_0 30 rfl rfl rfl)
theorem d_Ip_init_31 : decode prog_1_method_1_code 31 = .ok (.invokespecial 18, 3) := zo_183 (d := 0) (e := 18) (zd_b zq_prog_1_method_1_code_0 31 rfl rfl rfl) (zd_b zq_prog_1_method_1_code_1 0 rfl rfl rfl) (zd_b zq_prog_1_method_1_code_1 1 rfl rfl rfl)
theorem d_Ip_init_34 : decode prog_1_method_1_code 34 = .ok (.putfield 23, 3) := zo_181 (d := 0) (e := 23) (zd_b zq_prog_1_method_1_code_1 2 rfl rfl rfl) (zd_b zq_prog_1_method_1_code_1 3 rfl rfl rfl) (zd_b zq_prog_1_method_1_code_1 4 rfl rfl rfl)
theorem fp_Ip_23 : z_fp "Ironpour" 23 11 2 true (t_Ip 2) := ⟨R_Ip, "Ironpour", F_Ip, 12, t_Ip, rfl, u_Ip, by decide, t_Ip_ok, n_Ip, rfl, rfl, Or.inl ⟨z_mj2 (i := 65) rfl (by decide +kernel), Or.inl rfl, fun _ => ⟨rfl, rfl⟩⟩⟩
theorem d_Ip_init_37 : decode prog_1_method_1_code 37 = .ok (.aload_n 0, 1) := zo_42 (zd_b zq_prog_1_method_1_code_1 5 rfl rfl rfl)
theorem d_Ip_init_38 : decode prog_1_method_1_code 38 = .ok (.new 26, 3) := zo_187 (d := 0) (e := 26) (zd_b zq_prog_1_method_1_code_1 6 rfl rfl rfl) (zd_b zq_prog_1_method_1_code_1 7 rfl rfl rfl) (zd_b zq_prog_1_method_1_code_1 8 rfl rfl rfl)
theorem nc_Ip_26 : z_nc "Ironpour" 26 4 5 [.int 0, .int 0, .int 0, .int 0, .int 0] := ⟨R_GS, F_GS, t_GS, rfl, u_GS, t_GS_ok, z_mj1 (i := 138) rfl (by decide +kernel), z_mj1 (i := 139) rfl (by decide +kernel), z_mj1 (i := 5) rfl (by decide +kernel), by decide +kernel⟩
theorem d_Ip_init_41 : decode prog_1_method_1_code 41 = .ok (.dup, 1) := zo_89 (zd_b zq_prog_1_method_1_code_1 9 rfl rfl rfl)
theorem d_Ip_init_42 : decode prog_1_method_1_code 42 = .ok (.invokespecial 28, 3) := zo_183 (d := 0) (e := 28) (zd_b zq_prog_1_method_1_code_1 10 rfl rfl rfl) (zd_b zq_prog_1_method_1_code_1 11 rfl rfl rfl) (zd_b zq_prog_1_method_1_code_1 12 rfl rfl rfl)
theorem ok_Ip_init_GS_init : z_ok M_Ip_init M_GS_init 0 := ⟨z_mj1 (i := 142) rfl (by decide +kernel), rfl, ⟨by decide +kernel, by decide +kernel, by decide +kernel⟩, ⟨by decide, by decide⟩, z_mj1 (i := 5) rfl (by decide +kernel), rfl⟩
theorem ln_Ip_28 : Cond.methodLinkNest "Ironpour" 28 M_GS_init.1 "Ironpour" ∈ z_nw := z_mk1 (i := 140) rfl (by decide +kernel)
theorem w_im_GS_init : Cond.instanceMethod M_GS_init.1 ∈ z_gw := z_mj1 (i := 141) rfl (by decide +kernel)
theorem d_Ip_init_45 : decode prog_1_method_1_code 45 = .ok (.putfield 29, 3) := zo_181 (d := 0) (e := 29) (zd_b zq_prog_1_method_1_code_1 13 rfl rfl rfl) (zd_b zq_prog_1_method_1_code_1 14 rfl rfl rfl) (zd_b zq_prog_1_method_1_code_1 15 rfl rfl rfl)
theorem fp_Ip_29 : z_fp "Ironpour" 29 11 3 true (t_Ip 3) := ⟨R_Ip, "Ironpour", F_Ip, 12, t_Ip, rfl, u_Ip, by decide, t_Ip_ok, n_Ip, rfl, rfl, Or.inl ⟨z_mj2 (i := 66) rfl (by decide +kernel), Or.inl rfl, fun _ => ⟨rfl, rfl⟩⟩⟩
theorem d_Ip_init_48 : decode prog_1_method_1_code 48 = .ok (.aload_n 0, 1) := zo_42 (zd_b zq_prog_1_method_1_code_1 16 rfl rfl rfl)
theorem d_Ip_init_49 : decode prog_1_method_1_code 49 = .ok (.new 33, 3) := zo_187 (d := 0) (e := 33) (zd_b zq_prog_1_method_1_code_1 17 rfl rfl rfl) (zd_b zq_prog_1_method_1_code_1 18 rfl rfl rfl) (zd_b zq_prog_1_method_1_code_1 19 rfl rfl rfl)
theorem nc_Ip_33 : z_nc "Ironpour" 33 1 4 [.null, .null, .null, .int 0] := ⟨R_CS, F_CS, t_CS, rfl, u_CS, t_CS_ok, z_mj1 (i := 166) rfl (by decide +kernel), z_mj1 (i := 167) rfl (by decide +kernel), z_mj1 (i := 6) rfl (by decide +kernel), by decide +kernel⟩
theorem d_Ip_init_52 : decode prog_1_method_1_code 52 = .ok (.dup, 1) := zo_89 (zd_b zq_prog_1_method_1_code_1 20 rfl rfl rfl)
theorem d_Ip_init_53 : decode prog_1_method_1_code 53 = .ok (.invokespecial 35, 3) := zo_183 (d := 0) (e := 35) (zd_b zq_prog_1_method_1_code_1 21 rfl rfl rfl) (zd_b zq_prog_1_method_1_code_1 22 rfl rfl rfl) (zd_b zq_prog_1_method_1_code_1 23 rfl rfl rfl)
theorem ok_Ip_init_CS_init : z_ok M_Ip_init M_CS_init 0 := ⟨z_mj1 (i := 170) rfl (by decide +kernel), rfl, ⟨by decide +kernel, by decide +kernel, by decide +kernel⟩, ⟨by decide, by decide⟩, z_mj1 (i := 6) rfl (by decide +kernel), rfl⟩
theorem ln_Ip_35 : Cond.methodLinkNest "Ironpour" 35 M_CS_init.1 "Ironpour" ∈ z_nw := z_mk1 (i := 168) rfl (by decide +kernel)
theorem w_im_CS_init : Cond.instanceMethod M_CS_init.1 ∈ z_gw := z_mj1 (i := 169) rfl (by decide +kernel)
theorem d_Ip_init_56 : decode prog_1_method_1_code 56 = .ok (.putfield 36, 3) := zo_181 (d := 0) (e := 36) (zd_b zq_prog_1_method_1_code_1 24 rfl rfl rfl) (zd_b zq_prog_1_method_1_code_1 25 rfl rfl rfl) (zd_b zq_prog_1_method_1_code_1 26 rfl rfl rfl)
theorem fp_Ip_36 : z_fp "Ironpour" 36 11 4 true (t_Ip 4) := ⟨R_Ip, "Ironpour", F_Ip, 12, t_Ip, rfl, u_Ip, by decide, t_Ip_ok, n_Ip, rfl, rfl, Or.inl ⟨z_mj2 (i := 67) rfl (by decide +kernel), Or.inl rfl, fun _ => ⟨rfl, rfl⟩⟩⟩
theorem d_Ip_init_59 : decode prog_1_method_1_code 59 = .ok (.aload_n 0, 1) := zo_42 (zd_b zq_prog_1_method_1_code_1 27 rfl rfl rfl)
theorem d_Ip_init_60 : decode prog_1_method_1_code 60 = .ok (.new 40, 3) := zo_187 (d := 0) (e := 40) (zd_b zq_prog_1_method_1_code_1 28 rfl rfl rfl) (zd_b zq_prog_1_method_1_code_1 29 rfl rfl rfl) (zd_b zq_prog_1_method_1_code_1 30 rfl rfl rfl)
theorem nc_Ip_40 : z_nc "Ironpour" 40 3 5 [.null, .null, .null, .null, .long 0] := ⟨R_Fu, F_Fu, t_Fu, rfl, u_Fu, t_Fu_ok, z_mj1 (i := 185) rfl (by decide +kernel), z_mj1 (i := 186) rfl (by decide +kernel), z_mj1 (i := 7) rfl (by decide +kernel), by decide +kernel⟩
theorem d_Ip_init_63 : decode prog_1_method_1_code 63 = .ok (.dup, 1) := zo_89 (zd_b zq_prog_1_method_1_code_1 31 rfl rfl rfl)
theorem d_Ip_init_64 : decode prog_1_method_1_code 64 = .ok (.invokespecial 42, 3) := zo_183 (d := 0) (e := 42) (zd_b zq_prog_1_method_1_code_2 0 rfl rfl rfl) (zd_b zq_prog_1_method_1_code_2 1 rfl rfl rfl) (zd_b zq_prog_1_method_1_code_2 2 rfl rfl rfl)
theorem ok_Ip_init_Fu_init : z_ok M_Ip_init M_Fu_init 0 := ⟨z_mj1 (i := 189) rfl (by decide +kernel), rfl, ⟨by decide +kernel, by decide +kernel, by decide +kernel⟩, ⟨by decide, by decide⟩, z_mj1 (i := 7) rfl (by decide +kernel), rfl⟩
theorem ln_Ip_42 : Cond.methodLinkNest "Ironpour" 42 M_Fu_init.1 "Ironpour" ∈ z_nw := z_mk1 (i := 187) rfl (by decide +kernel)
theorem w_im_Fu_init : Cond.instanceMethod M_Fu_init.1 ∈ z_gw := z_mj1 (i := 188) rfl (by decide +kernel)
theorem d_Ip_init_67 : decode prog_1_method_1_code 67 = .ok (.putfield 43, 3) := zo_181 (d := 0) (e := 43) (zd_b zq_prog_1_method_1_code_2 3 rfl rfl rfl) (zd_b zq_prog_1_method_1_code_2 4 rfl rfl rfl) (zd_b zq_prog_1_method_1_code_2 5 rfl rfl rfl)
theorem fp_Ip_43 : z_fp "Ironpour" 43 11 5 true (t_Ip 5) := ⟨R_Ip, "Ironpour", F_Ip, 12, t_Ip, rfl, u_Ip, by decide, t_Ip_ok, n_Ip, rfl, rfl, Or.inl ⟨z_mj2 (i := 68) rfl (by decide +kernel), Or.inl rfl, fun _ => ⟨rfl, rfl⟩⟩⟩
theorem d_Ip_init_70 : decode prog_1_method_1_code 70 = .ok (.aload_n 0, 1) := zo_42 (zd_b zq_prog_1_method_1_code_2 6 rfl rfl rfl)
theorem d_Ip_init_71 : decode prog_1_method_1_code 71 = .ok (.new 47, 3) := zo_187 (d := 0) (e := 47) (zd_b zq_prog_1_method_1_code_2 7 rfl rfl rfl) (zd_b zq_prog_1_method_1_code_2 8 rfl rfl rfl) (zd_b zq_prog_1_method_1_code_2 9 rfl rfl rfl)
theorem nc_Ip_47 : z_nc "Ironpour" 47 5 4 [.null, .int 0, .int 0, .int 0] := ⟨R_La, F_La, t_La, rfl, u_La, t_La_ok, z_mj1 (i := 231) rfl (by decide +kernel), z_mj1 (i := 232) rfl (by decide +kernel), z_mj1 (i := 9) rfl (by decide +kernel), by decide +kernel⟩
theorem d_Ip_init_74 : decode prog_1_method_1_code 74 = .ok (.dup, 1) := zo_89 (zd_b zq_prog_1_method_1_code_2 10 rfl rfl rfl)
theorem d_Ip_init_75 : decode prog_1_method_1_code 75 = .ok (.invokespecial 49, 3) := zo_183 (d := 0) (e := 49) (zd_b zq_prog_1_method_1_code_2 11 rfl rfl rfl) (zd_b zq_prog_1_method_1_code_2 12 rfl rfl rfl) (zd_b zq_prog_1_method_1_code_2 13 rfl rfl rfl)
theorem ok_Ip_init_La_init : z_ok M_Ip_init M_La_init 0 := ⟨z_mj1 (i := 235) rfl (by decide +kernel), rfl, ⟨by decide +kernel, by decide +kernel, by decide +kernel⟩, ⟨by decide, by decide⟩, z_mj1 (i := 9) rfl (by decide +kernel), rfl⟩
theorem ln_Ip_49 : Cond.methodLinkNest "Ironpour" 49 M_La_init.1 "Ironpour" ∈ z_nw := z_mk1 (i := 233) rfl (by decide +kernel)
theorem w_im_La_init : Cond.instanceMethod M_La_init.1 ∈ z_gw := z_mj1 (i := 234) rfl (by decide +kernel)
theorem d_Ip_init_78 : decode prog_1_method_1_code 78 = .ok (.putfield 50, 3) := zo_181 (d := 0) (e := 50) (zd_b zq_prog_1_method_1_code_2 14 rfl rfl rfl) (zd_b zq_prog_1_method_1_code_2 15 rfl rfl rfl) (zd_b zq_prog_1_method_1_code_2 16 rfl rfl rfl)
theorem fp_Ip_50 : z_fp "Ironpour" 50 11 6 true (t_Ip 6) := ⟨R_Ip, "Ironpour", F_Ip, 12, t_Ip, rfl, u_Ip, by decide, t_Ip_ok, n_Ip, rfl, rfl, Or.inl ⟨z_mj2 (i := 69) rfl (by decide +kernel), Or.inl rfl, fun _ => ⟨rfl, rfl⟩⟩⟩
theorem d_Ip_init_81 : decode prog_1_method_1_code 81 = .ok (.aload_n 0, 1) := zo_42 (zd_b zq_prog_1_method_1_code_2 17 rfl rfl rfl)
theorem d_Ip_init_82 : decode prog_1_method_1_code 82 = .ok (.new 54, 3) := zo_187 (d := 0) (e := 54) (zd_b zq_prog_1_method_1_code_2 18 rfl rfl rfl) (zd_b zq_prog_1_method_1_code_2 19 rfl rfl rfl) (zd_b zq_prog_1_method_1_code_2 20 rfl rfl rfl)
theorem nc_Ip_54 : z_nc "Ironpour" 54 6 2 [.null, .int 0] := ⟨R_Me, F_Me, t_Me, rfl, u_Me, t_Me_ok, z_mj2 (i := 16) rfl (by decide +kernel), z_mj1 (i := 192) rfl (by decide +kernel), z_mj1 (i := 8) rfl (by decide +kernel), by decide +kernel⟩
theorem d_Ip_init_85 : decode prog_1_method_1_code 85 = .ok (.dup, 1) := zo_89 (zd_b zq_prog_1_method_1_code_2 21 rfl rfl rfl)
theorem d_Ip_init_86 : decode prog_1_method_1_code 86 = .ok (.invokespecial 56, 3) := zo_183 (d := 0) (e := 56) (zd_b zq_prog_1_method_1_code_2 22 rfl rfl rfl) (zd_b zq_prog_1_method_1_code_2 23 rfl rfl rfl) (zd_b zq_prog_1_method_1_code_2 24 rfl rfl rfl)
theorem ok_Ip_init_Me_init : z_ok M_Ip_init M_Me_init 0 := ⟨z_mj1 (i := 195) rfl (by decide +kernel), rfl, ⟨by decide +kernel, by decide +kernel, by decide +kernel⟩, ⟨by decide, by decide⟩, z_mj1 (i := 8) rfl (by decide +kernel), rfl⟩
theorem ln_Ip_56 : Cond.methodLinkNest "Ironpour" 56 M_Me_init.1 "Ironpour" ∈ z_nw := z_mk2 (i := 17) rfl (by decide +kernel)
theorem d_Ip_init_89 : decode prog_1_method_1_code 89 = .ok (.putfield 57, 3) := zo_181 (d := 0) (e := 57) (zd_b zq_prog_1_method_1_code_2 25 rfl rfl rfl) (zd_b zq_prog_1_method_1_code_2 26 rfl rfl rfl) (zd_b zq_prog_1_method_1_code_2 27 rfl rfl rfl)
theorem fp_Ip_57 : z_fp "Ironpour" 57 11 7 true (t_Ip 7) := ⟨R_Ip, "Ironpour", F_Ip, 12, t_Ip, rfl, u_Ip, by decide, t_Ip_ok, n_Ip, rfl, rfl, Or.inl ⟨z_mj2 (i := 70) rfl (by decide +kernel), Or.inl rfl, fun _ => ⟨rfl, rfl⟩⟩⟩
theorem d_Ip_init_92 : decode prog_1_method_1_code 92 = .ok (.aload_n 0, 1) := zo_42 (zd_b zq_prog_1_method_1_code_2 28 rfl rfl rfl)
theorem d_Ip_init_93 : decode prog_1_method_1_code 93 = .ok (.new 54, 3) := zo_187 (d := 0) (e := 54) (zd_b zq_prog_1_method_1_code_2 29 rfl rfl rfl) (zd_b zq_prog_1_method_1_code_2 30 rfl rfl rfl) (zd_b zq_prog_1_method_1_code_2 31 rfl rfl rfl)
theorem d_Ip_init_96 : decode prog_1_method_1_code 96 = .ok (.dup, 1) := zo_89 (zd_b zq_prog_1_method_1_code_3 0 rfl rfl rfl)
theorem d_Ip_init_97 : decode prog_1_method_1_code 97 = .ok (.invokespecial 56, 3) := zo_183 (d := 0) (e := 56) (zd_b zq_prog_1_method_1_code_3 1 rfl rfl rfl) (zd_b zq_prog_1_method_1_code_3 2 rfl rfl rfl) (zd_b zq_prog_1_method_1_code_3 3 rfl rfl rfl)
theorem d_Ip_init_100 : decode prog_1_method_1_code 100 = .ok (.putfield 61, 3) := zo_181 (d := 0) (e := 61) (zd_b zq_prog_1_method_1_code_3 4 rfl rfl rfl) (zd_b zq_prog_1_method_1_code_3 5 rfl rfl rfl) (zd_b zq_prog_1_method_1_code_3 6 rfl rfl rfl)
theorem fp_Ip_61 : z_fp "Ironpour" 61 11 8 true (t_Ip 8) := ⟨R_Ip, "Ironpour", F_Ip, 12, t_Ip, rfl, u_Ip, by decide, t_Ip_ok, n_Ip, rfl, rfl, Or.inl ⟨z_mj2 (i := 71) rfl (by decide +kernel), Or.inl rfl, fun _ => ⟨rfl, rfl⟩⟩⟩
theorem d_Ip_init_103 : decode prog_1_method_1_code 103 = .ok (.aload_n 0, 1) := zo_42 (zd_b zq_prog_1_method_1_code_3 7 rfl rfl rfl)
theorem d_Ip_init_104 : decode prog_1_method_1_code 104 = .ok (.new 64, 3) := zo_187 (d := 0) (e := 64) (zd_b zq_prog_1_method_1_code_3 8 rfl rfl rfl) (zd_b zq_prog_1_method_1_code_3 9 rfl rfl rfl) (zd_b zq_prog_1_method_1_code_3 10 rfl rfl rfl)
theorem nc_Ip_64 : z_nc "Ironpour" 64 9 3 [.int 0, .int 0, .int 0] := ⟨R_Re, F_Re, t_Re, rfl, u_Re, t_Re_ok, z_mj2 (i := 18) rfl (by decide +kernel), z_mj2 (i := 19) rfl (by decide +kernel), z_mj1 (i := 10) rfl (by decide +kernel), by decide +kernel⟩
theorem d_Ip_init_107 : decode prog_1_method_1_code 107 = .ok (.dup, 1) := zo_89 (zd_b zq_prog_1_method_1_code_3 11 rfl rfl rfl)
theorem d_Ip_init_108 : decode prog_1_method_1_code 108 = .ok (.invokespecial 66, 3) := zo_183 (d := 0) (e := 66) (zd_b zq_prog_1_method_1_code_3 12 rfl rfl rfl) (zd_b zq_prog_1_method_1_code_3 13 rfl rfl rfl) (zd_b zq_prog_1_method_1_code_3 14 rfl rfl rfl)
theorem ok_Ip_init_Re_init : z_ok M_Ip_init M_Re_init 0 := ⟨z_mj2 (i := 22) rfl (by decide +kernel), rfl, ⟨by decide +kernel, by decide +kernel, by decide +kernel⟩, ⟨by decide, by decide⟩, z_mj1 (i := 10) rfl (by decide +kernel), rfl⟩
theorem ln_Ip_66 : Cond.methodLinkNest "Ironpour" 66 M_Re_init.1 "Ironpour" ∈ z_nw := z_mk2 (i := 20) rfl (by decide +kernel)
theorem w_im_Re_init : Cond.instanceMethod M_Re_init.1 ∈ z_gw := z_mj2 (i := 21) rfl (by decide +kernel)
theorem d_Ip_init_111 : decode prog_1_method_1_code 111 = .ok (.putfield 67, 3) := zo_181 (d := 0) (e := 67) (zd_b zq_prog_1_method_1_code_3 15 rfl rfl rfl) (zd_b zq_prog_1_method_1_code_3 16 rfl rfl rfl) (zd_b zq_prog_1_method_1_code_3 17 rfl rfl rfl)
theorem fp_Ip_67 : z_fp "Ironpour" 67 11 9 true (t_Ip 9) := ⟨R_Ip, "Ironpour", F_Ip, 12, t_Ip, rfl, u_Ip, by decide, t_Ip_ok, n_Ip, rfl, rfl, Or.inl ⟨z_mj2 (i := 72) rfl (by decide +kernel), Or.inl rfl, fun _ => ⟨rfl, rfl⟩⟩⟩
theorem d_Ip_init_114 : decode prog_1_method_1_code 114 = .ok (.aload_n 0, 1) := zo_42 (zd_b zq_prog_1_method_1_code_3 18 rfl rfl rfl)
theorem d_Ip_init_115 : decode prog_1_method_1_code 115 = .ok (.new 71, 3) := zo_187 (d := 0) (e := 71) (zd_b zq_prog_1_method_1_code_3 19 rfl rfl rfl) (zd_b zq_prog_1_method_1_code_3 20 rfl rfl rfl) (zd_b zq_prog_1_method_1_code_3 21 rfl rfl rfl)
theorem nc_Ip_71 : z_nc "Ironpour" 71 13 3 [.int 0, .null, .int 0] := ⟨R_AL, F_AL, t_AL, rfl, u_AL, t_AL_ok, z_mj2 (i := 37) rfl (by decide +kernel), z_mj2 (i := 38) rfl (by decide +kernel), z_mj1 (i := 13) rfl (by decide +kernel), by decide +kernel⟩
theorem d_Ip_init_118 : decode prog_1_method_1_code 118 = .ok (.dup, 1) := zo_89 (zd_b zq_prog_1_method_1_code_3 22 rfl rfl rfl)
theorem d_Ip_init_119 : decode prog_1_method_1_code 119 = .ok (.invokespecial 73, 3) := zo_183 (d := 0) (e := 73) (zd_b zq_prog_1_method_1_code_3 23 rfl rfl rfl) (zd_b zq_prog_1_method_1_code_3 24 rfl rfl rfl) (zd_b zq_prog_1_method_1_code_3 25 rfl rfl rfl)
theorem ok_Ip_init_AL_init : z_ok M_Ip_init M_AL_init 0 := ⟨z_mj2 (i := 41) rfl (by decide +kernel), rfl, ⟨by decide +kernel, by decide +kernel, by decide +kernel⟩, ⟨by decide, by decide⟩, z_mj1 (i := 13) rfl (by decide +kernel), rfl⟩
theorem ln_Ip_73 : Cond.methodLink "Ironpour" 73 M_AL_init.1 ∈ z_gw := z_mj2 (i := 39) rfl (by decide +kernel)
theorem d_Ip_init_122 : decode prog_1_method_1_code 122 = .ok (.putfield 74, 3) := zo_181 (d := 0) (e := 74) (zd_b zq_prog_1_method_1_code_3 26 rfl rfl rfl) (zd_b zq_prog_1_method_1_code_3 27 rfl rfl rfl) (zd_b zq_prog_1_method_1_code_3 28 rfl rfl rfl)
theorem fp_Ip_74 : z_fp "Ironpour" 74 11 10 true (t_Ip 10) := ⟨R_Ip, "Ironpour", F_Ip, 12, t_Ip, rfl, u_Ip, by decide, t_Ip_ok, n_Ip, rfl, rfl, Or.inl ⟨z_mj2 (i := 73) rfl (by decide +kernel), Or.inl rfl, fun _ => ⟨rfl, rfl⟩⟩⟩
theorem d_Ip_init_125 : decode prog_1_method_1_code 125 = .ok (.aload_n 0, 1) := zo_42 (zd_b zq_prog_1_method_1_code_3 29 rfl rfl rfl)
theorem d_Ip_init_126 : decode prog_1_method_1_code 126 = .ok (.new 71, 3) := zo_187 (d := 0) (e := 71) (zd_b zq_prog_1_method_1_code_3 30 rfl rfl rfl) (zd_b zq_prog_1_method_1_code_3 31 rfl rfl rfl) (zd_b zq_prog_1_method_1_code_4 0 rfl rfl rfl)
theorem d_Ip_init_129 : decode prog_1_method_1_code 129 = .ok (.dup, 1) := zo_89 (zd_b zq_prog_1_method_1_code_4 1 rfl rfl rfl)
theorem d_Ip_init_130 : decode prog_1_method_1_code 130 = .ok (.invokespecial 73, 3) := zo_183 (d := 0) (e := 73) (zd_b zq_prog_1_method_1_code_4 2 rfl rfl rfl) (zd_b zq_prog_1_method_1_code_4 3 rfl rfl rfl) (zd_b zq_prog_1_method_1_code_4 4 rfl rfl rfl)
theorem d_Ip_init_133 : decode prog_1_method_1_code 133 = .ok (.putfield 78, 3) := zo_181 (d := 0) (e := 78) (zd_b zq_prog_1_method_1_code_4 5 rfl rfl rfl) (zd_b zq_prog_1_method_1_code_4 6 rfl rfl rfl) (zd_b zq_prog_1_method_1_code_4 7 rfl rfl rfl)
theorem fp_Ip_78 : z_fp "Ironpour" 78 11 11 true (t_Ip 11) := ⟨R_Ip, "Ironpour", F_Ip, 12, t_Ip, rfl, u_Ip, by decide, t_Ip_ok, n_Ip, rfl, rfl, Or.inl ⟨z_mj2 (i := 74) rfl (by decide +kernel), Or.inl rfl, fun _ => ⟨rfl, rfl⟩⟩⟩
theorem d_Ip_init_136 : decode prog_1_method_1_code 136 = .ok (.return_, 1) := zo_177 (zd_b zq_prog_1_method_1_code_4 8 rfl rfl rfl)
