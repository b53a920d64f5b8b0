section
abbrev M_Ip_tenthsOf : zM := (⟨"Ironpour", "tenthsOf", "(C)[I"⟩, prog_1_method_61_code, 1, (Option.some (FieldType.array FieldType.int)), 1, 20, [])
theorem d_Ip_tenthsOf_0 : decode prog_1_method_61_code 0 = .ok (.iload_n 0, 1) := zo_26 (zd_b zq_prog_1_method_61_code_0 0 rfl rfl rfl)
theorem d_Ip_tenthsOf_1 : decode prog_1_method_61_code 1 = .ok (.lookupswitch 47 #[(102, 43), (112, 35), (115, 39)], 35) := by decide +kernel
theorem d_Ip_tenthsOf_36 : decode prog_1_method_61_code 36 = .ok (.getstatic 523, 3) := zo_178 (d := 2) (e := 11) (zd_b zq_prog_1_method_61_code_1 4 rfl rfl rfl) (zd_b zq_prog_1_method_61_code_1 5 rfl rfl rfl) (zd_b zq_prog_1_method_61_code_1 6 rfl rfl rfl)
theorem ls_Ip_523 : Cond.fieldLink "Ironpour" 523 "Ironpour" (z_sn 0) "[I" ∈ z_gw := z_mj5 (i := 52) rfl (by decide +kernel)
theorem d_Ip_tenthsOf_39 : decode prog_1_method_61_code 39 = .ok (.areturn, 1) := zo_176 (zd_b zq_prog_1_method_61_code_1 7 rfl rfl rfl)
set_option maxHeartbeats 4000000 in
set_option maxRecDepth 100000 in
theorem C_Ip_tenthsOf112 (g : zG)  : CT g M_Ip_tenthsOf [.int 112] [] (fun o cs1 => o = .inl (some (.ref (g.2.2 0))) ∧ cs1 = []) 0 0 := by
  refine z_of (by decide) rfl (Nat.le_of_ble_eq_true rfl) (fun w0 => ?_)
  refine r_lvE (lv2 := [(0, .int 112)]) rfl ?_
  refine r_iload_n d_Ip_tenthsOf_0 rfl 0 rfl ?_
  · refine r_lookup (off := 35) (tgt := 36) d_Ip_tenthsOf_1 (by decide) (by decide) (by decide) ?_
    refine r_getsA (i := 0) (by decide) ls_Ip_523 d_Ip_tenthsOf_36 ?_
    refine r_aret d_Ip_tenthsOf_39 rfl (Or.inr ⟨_, rfl⟩) (Or.inr ⟨_, rfl⟩) ?_
    exact ⟨rfl, rfl⟩
theorem d_Ip_tenthsOf_40 : decode prog_1_method_61_code 40 = .ok (.getstatic 526, 3) := zo_178 (d := 2) (e := 14) (zd_b zq_prog_1_method_61_code_1 8 rfl rfl rfl) (zd_b zq_prog_1_method_61_code_1 9 rfl rfl rfl) (zd_b zq_prog_1_method_61_code_1 10 rfl rfl rfl)
theorem ls_Ip_526 : Cond.fieldLink "Ironpour" 526 "Ironpour" (z_sn 1) "[I" ∈ z_gw := z_mj5 (i := 54) rfl (by decide +kernel)
theorem d_Ip_tenthsOf_43 : decode prog_1_method_61_code 43 = .ok (.areturn, 1) := zo_176 (zd_b zq_prog_1_method_61_code_1 11 rfl rfl rfl)
set_option maxHeartbeats 4000000 in
set_option maxRecDepth 100000 in
theorem C_Ip_tenthsOf115 (g : zG)  : CT g M_Ip_tenthsOf [.int 115] [] (fun o cs1 => o = .inl (some (.ref (g.2.2 1))) ∧ cs1 = []) 0 0 := by
  refine z_of (by decide) rfl (Nat.le_of_ble_eq_true rfl) (fun w0 => ?_)
  refine r_lvE (lv2 := [(0, .int 115)]) rfl ?_
  refine r_iload_n d_Ip_tenthsOf_0 rfl 0 rfl ?_
  · refine r_lookup (off := 39) (tgt := 40) d_Ip_tenthsOf_1 (by decide) (by decide) (by decide) ?_
    refine r_getsA (i := 1) (by decide) ls_Ip_526 d_Ip_tenthsOf_40 ?_
    refine r_aret d_Ip_tenthsOf_43 rfl (Or.inr ⟨_, rfl⟩) (Or.inr ⟨_, rfl⟩) ?_
    exact ⟨rfl, rfl⟩
theorem d_Ip_tenthsOf_44 : decode prog_1_method_61_code 44 = .ok (.getstatic 529, 3) := zo_178 (d := 2) (e := 17) (zd_b zq_prog_1_method_61_code_1 12 rfl rfl rfl) (zd_b zq_prog_1_method_61_code_1 13 rfl rfl rfl) (zd_b zq_prog_1_method_61_code_1 14 rfl rfl rfl)
theorem ls_Ip_529 : Cond.fieldLink "Ironpour" 529 "Ironpour" (z_sn 2) "[I" ∈ z_gw := z_mj5 (i := 56) rfl (by decide +kernel)
theorem d_Ip_tenthsOf_47 : decode prog_1_method_61_code 47 = .ok (.areturn, 1) := zo_176 (zd_b zq_prog_1_method_61_code_1 15 rfl rfl rfl)
set_option maxHeartbeats 4000000 in
set_option maxRecDepth 100000 in
theorem C_Ip_tenthsOf102 (g : zG)  : CT g M_Ip_tenthsOf [.int 102] [] (fun o cs1 => o = .inl (some (.ref (g.2.2 2))) ∧ cs1 = []) 0 0 := by
  refine z_of (by decide) rfl (Nat.le_of_ble_eq_true rfl) (fun w0 => ?_)
  refine r_lvE (lv2 := [(0, .int 102)]) rfl ?_
  refine r_iload_n d_Ip_tenthsOf_0 rfl 0 rfl ?_
  · refine r_lookup (off := 43) (tgt := 44) d_Ip_tenthsOf_1 (by decide) (by decide) (by decide) ?_
    refine r_getsA (i := 2) (by decide) ls_Ip_529 d_Ip_tenthsOf_44 ?_
    refine r_aret d_Ip_tenthsOf_47 rfl (Or.inr ⟨_, rfl⟩) (Or.inr ⟨_, rfl⟩) ?_
    exact ⟨rfl, rfl⟩
theorem d_Ip_tenthsOf_48 : decode prog_1_method_61_code 48 = .ok (.getstatic 532, 3) := zo_178 (d := 2) (e := 20) (zd_b zq_prog_1_method_61_code_1 16 rfl rfl rfl) (zd_b zq_prog_1_method_61_code_1 17 rfl rfl rfl) (zd_b zq_prog_1_method_61_code_1 18 rfl rfl rfl)
theorem ls_Ip_532 : Cond.fieldLink "Ironpour" 532 "Ironpour" (z_sn 3) "[I" ∈ z_gw := z_mj5 (i := 58) rfl (by decide +kernel)
theorem d_Ip_tenthsOf_51 : decode prog_1_method_61_code 51 = .ok (.areturn, 1) := zo_176 (zd_b zq_prog_1_method_61_code_1 19 rfl rfl rfl)
set_option maxHeartbeats 4000000 in
set_option maxRecDepth 100000 in
theorem C_Ip_tenthsOf107 (g : zG)  : CT g M_Ip_tenthsOf [.int 107] [] (fun o cs1 => o = .inl (some (.ref (g.2.2 3))) ∧ cs1 = []) 0 0 := by
  refine z_of (by decide) rfl (Nat.le_of_ble_eq_true rfl) (fun w0 => ?_)
  refine r_lvE (lv2 := [(0, .int 107)]) rfl ?_
  refine r_iload_n d_Ip_tenthsOf_0 rfl 0 rfl ?_
  · refine r_lookup (off := 47) (tgt := 48) d_Ip_tenthsOf_1 (by decide) (by decide) (by decide) ?_
    refine r_getsA (i := 3) (by decide) ls_Ip_532 d_Ip_tenthsOf_48 ?_
    refine r_aret d_Ip_tenthsOf_51 rfl (Or.inr ⟨_, rfl⟩) (Or.inr ⟨_, rfl⟩) ?_
    exact ⟨rfl, rfl⟩
abbrev M_Ip_minutes : zM := (⟨"Ironpour", "minutes", "(I)I"⟩, prog_1_method_28_code, 3, (Option.some FieldType.int), 6, 100, [])
theorem d_Ip_minutes_0 : decode prog_1_method_28_code 0 = .ok (.iload_n 1, 1) := zo_27 (zd_b zq_prog_1_method_28_code_0 0 rfl rfl rfl)
theorem d_Ip_minutes_1 : decode prog_1_method_28_code 1 = .ok (.iconst 1, 1) := zo_4 (zd_b zq_prog_1_method_28_code_0 1 rfl rfl rfl)
theorem d_Ip_minutes_2 : decode prog_1_method_28_code 2 = .ok (.bipush 60, 2) := zo_16 (d := 60) (zd_b zq_prog_1_method_28_code_0 2 rfl rfl rfl) (zd_b zq_prog_1_method_28_code_0 3 rfl rfl rfl) (by decide +kernel)
theorem d_Ip_minutes_4 : decode prog_1_method_28_code 4 = .ok (.invokestatic 203, 3) := zo_184 (d := 0) (e := 203) (zd_b zq_prog_1_method_28_code_0 4 rfl rfl rfl) (zd_b zq_prog_1_method_28_code_0 5 rfl rfl rfl) (zd_b zq_prog_1_method_28_code_0 6 rfl rfl rfl)
theorem ok_Ip_minutes_Ip_isWithin : z_ok M_Ip_minutes M_Ip_isWithin 3 := ⟨z_mj4 (i := 97) rfl (by decide +kernel), rfl, ⟨by decide +kernel, by decide +kernel, by decide +kernel⟩, ⟨by decide, by decide⟩, z_mj1 (i := 1) rfl (by decide +kernel), rfl⟩
theorem d_Ip_minutes_7 : decode prog_1_method_28_code 7 = .ok (.ifCond .ne 14, 3) := zo_154 (d := 0) (e := 14) (zd_b zq_prog_1_method_28_code_0 7 rfl rfl rfl) (zd_b zq_prog_1_method_28_code_0 8 rfl rfl rfl) (zd_b zq_prog_1_method_28_code_0 9 rfl rfl rfl) (by decide +kernel)
theorem d_Ip_minutes_10 : decode prog_1_method_28_code 10 = .ok (.new 89, 3) := zo_187 (d := 0) (e := 89) (zd_b zq_prog_1_method_28_code_0 10 rfl rfl rfl) (zd_b zq_prog_1_method_28_code_0 11 rfl rfl rfl) (zd_b zq_prog_1_method_28_code_0 12 rfl rfl rfl)
theorem sr_Ip_336 : Cond.stringRef "Ironpour" 336 "1 to 60 minutes go by" ∈ lw_tbl := z_tb5 (i := 139) rfl
theorem d_Ip_minutes_13 : decode prog_1_method_28_code 13 = .ok (.dup, 1) := zo_89 (zd_b zq_prog_1_method_28_code_0 13 rfl rfl rfl)
theorem d_Ip_minutes_14 : decode prog_1_method_28_code 14 = .ok (.ldc_w 336, 3) := zo_19 (d := 1) (e := 80) (zd_b zq_prog_1_method_28_code_0 14 rfl rfl rfl) (zd_b zq_prog_1_method_28_code_0 15 rfl rfl rfl) (zd_b zq_prog_1_method_28_code_0 16 rfl rfl rfl)
theorem d_Ip_minutes_17 : decode prog_1_method_28_code 17 = .ok (.invokespecial 93, 3) := zo_183 (d := 0) (e := 93) (zd_b zq_prog_1_method_28_code_0 17 rfl rfl rfl) (zd_b zq_prog_1_method_28_code_0 18 rfl rfl rfl) (zd_b zq_prog_1_method_28_code_0 19 rfl rfl rfl)
theorem d_Ip_minutes_20 : decode prog_1_method_28_code 20 = .ok (.athrow, 1) := zo_191 (zd_b zq_prog_1_method_28_code_0 20 rfl rfl rfl)
theorem d_Ip_minutes_21 : decode prog_1_method_28_code 21 = .ok (.aload_n 0, 1) := zo_42 (zd_b zq_prog_1_method_28_code_0 21 rfl rfl rfl)
theorem d_Ip_minutes_22 : decode prog_1_method_28_code 22 = .ok (.getfield 50, 3) := zo_180 (d := 0) (e := 50) (zd_b zq_prog_1_method_28_code_0 22 rfl rfl rfl) (zd_b zq_prog_1_method_28_code_0 23 rfl rfl rfl) (zd_b zq_prog_1_method_28_code_0 24 rfl rfl rfl)
theorem d_Ip_minutes_25 : decode prog_1_method_28_code 25 = .ok (.iload_n 1, 1) := zo_27 (zd_b zq_prog_1_method_28_code_0 25 rfl rfl rfl)
theorem d_Ip_minutes_26 : decode prog_1_method_28_code 26 = .ok (.invokevirtual 338, 3) := zo_182 (d := 1) (e := 82) (zd_b zq_prog_1_method_28_code_0 26 rfl rfl rfl) (zd_b zq_prog_1_method_28_code_0 27 rfl rfl rfl) (zd_b zq_prog_1_method_28_code_0 28 rfl rfl rfl)
theorem ok_Ip_minutes_La_fadeFor : z_ok M_Ip_minutes M_La_fadeFor 1 := ⟨z_mj5 (i := 143) rfl (by decide +kernel), rfl, ⟨by decide +kernel, by decide +kernel, by decide +kernel⟩, ⟨by decide, by decide⟩, z_mj1 (i := 9) rfl (by decide +kernel), rfl⟩
theorem ln_Ip_338 : Cond.methodLink "Ironpour" 338 M_La_fadeFor.1 ∈ z_gw := z_mj5 (i := 140) rfl (by decide +kernel)
theorem w_im_La_fadeFor : Cond.instanceMethod M_La_fadeFor.1 ∈ z_gw := z_mj5 (i := 141) rfl (by decide +kernel)
theorem w_se_La_fadeFor : Cond.selects M_La_fadeFor.1.cls M_La_fadeFor.1 M_La_fadeFor.1 ∈ z_gw := z_mj5 (i := 142) rfl (by decide +kernel)
theorem d_Ip_minutes_29 : decode prog_1_method_28_code 29 = .ok (.iconst 0, 1) := zo_3 (zd_b zq_prog_1_method_28_code_0 29 rfl rfl rfl)
theorem d_Ip_minutes_30 : decode prog_1_method_28_code 30 = .ok (.istore_n 2, 1) := zo_61 (zd_b zq_prog_1_method_28_code_0 30 rfl rfl rfl)
theorem d_Ip_minutes_31 : decode prog_1_method_28_code 31 = .ok (.iload_n 2, 1) := zo_28 (zd_b zq_prog_1_method_28_code_0 31 rfl rfl rfl)
theorem d_Ip_minutes_32 : decode prog_1_method_28_code 32 = .ok (.aload_n 0, 1) := zo_42 (zd_b zq_prog_1_method_28_code_1 0 rfl rfl rfl)
theorem d_Ip_minutes_33 : decode prog_1_method_28_code 33 = .ok (.getfield 74, 3) := zo_180 (d := 0) (e := 74) (zd_b zq_prog_1_method_28_code_1 1 rfl rfl rfl) (zd_b zq_prog_1_method_28_code_1 2 rfl rfl rfl) (zd_b zq_prog_1_method_28_code_1 3 rfl rfl rfl)
theorem fs_Ip_74 : z_fs "Ironpour" 74 11 10 := ⟨R_Ip, "Ironpour", F_Ip, 12, rfl, u_Ip, by decide, Or.inl ⟨z_mj2 (i := 73) rfl (by decide +kernel), Or.inl rfl⟩⟩
theorem d_Ip_minutes_36 : decode prog_1_method_28_code 36 = .ok (.invokevirtual 341, 3) := zo_182 (d := 1) (e := 85) (zd_b zq_prog_1_method_28_code_1 4 rfl rfl rfl) (zd_b zq_prog_1_method_28_code_1 5 rfl rfl rfl) (zd_b zq_prog_1_method_28_code_1 6 rfl rfl rfl)
theorem ok_Ip_minutes_AL_size : z_ok M_Ip_minutes M_AL_size 0 := ⟨z_mj2 (i := 172) rfl (by decide +kernel), rfl, ⟨by decide +kernel, by decide +kernel, by decide +kernel⟩, ⟨by decide, by decide⟩, z_mj1 (i := 13) rfl (by decide +kernel), rfl⟩
theorem ln_Ip_341 : Cond.methodLink "Ironpour" 341 M_AL_size.1 ∈ z_gw := z_mj2 (i := 169) rfl (by decide +kernel)
theorem d_Ip_minutes_39 : decode prog_1_method_28_code 39 = .ok (.if_icmp .ge 29, 3) := zo_162 (d := 0) (e := 29) (zd_b zq_prog_1_method_28_code_1 7 rfl rfl rfl) (zd_b zq_prog_1_method_28_code_1 8 rfl rfl rfl) (zd_b zq_prog_1_method_28_code_1 9 rfl rfl rfl) (by decide +kernel)
theorem d_Ip_minutes_68 : decode prog_1_method_28_code 68 = .ok (.aload_n 0, 1) := zo_42 (zd_b zq_prog_1_method_28_code_2 4 rfl rfl rfl)
theorem d_Ip_minutes_69 : decode prog_1_method_28_code 69 = .ok (.getfield 50, 3) := zo_180 (d := 0) (e := 50) (zd_b zq_prog_1_method_28_code_2 5 rfl rfl rfl) (zd_b zq_prog_1_method_28_code_2 6 rfl rfl rfl) (zd_b zq_prog_1_method_28_code_2 7 rfl rfl rfl)
theorem d_Ip_minutes_72 : decode prog_1_method_28_code 72 = .ok (.invokevirtual 314, 3) := zo_182 (d := 1) (e := 58) (zd_b zq_prog_1_method_28_code_2 8 rfl rfl rfl) (zd_b zq_prog_1_method_28_code_2 9 rfl rfl rfl) (zd_b zq_prog_1_method_28_code_2 10 rfl rfl rfl)
theorem ok_Ip_minutes_La_isEmpty : z_ok M_Ip_minutes M_La_isEmpty 0 := ⟨z_mj5 (i := 110) rfl (by decide +kernel), rfl, ⟨by decide +kernel, by decide +kernel, by decide +kernel⟩, ⟨by decide, by decide⟩, z_mj1 (i := 9) rfl (by decide +kernel), rfl⟩
theorem d_Ip_minutes_75 : decode prog_1_method_28_code 75 = .ok (.ifCond .eq 7, 3) := zo_153 (d := 0) (e := 7) (zd_b zq_prog_1_method_28_code_2 11 rfl rfl rfl) (zd_b zq_prog_1_method_28_code_2 12 rfl rfl rfl) (zd_b zq_prog_1_method_28_code_2 13 rfl rfl rfl) (by decide +kernel)
theorem d_Ip_minutes_82 : decode prog_1_method_28_code 82 = .ok (.aload_n 0, 1) := zo_42 (zd_b zq_prog_1_method_28_code_2 18 rfl rfl rfl)
theorem d_Ip_minutes_83 : decode prog_1_method_28_code 83 = .ok (.getfield 50, 3) := zo_180 (d := 0) (e := 50) (zd_b zq_prog_1_method_28_code_2 19 rfl rfl rfl) (zd_b zq_prog_1_method_28_code_2 20 rfl rfl rfl) (zd_b zq_prog_1_method_28_code_2 21 rfl rfl rfl)
theorem d_Ip_minutes_86 : decode prog_1_method_28_code 86 = .ok (.getfield 353, 3) := zo_180 (d := 1) (e := 97) (zd_b zq_prog_1_method_28_code_2 22 rfl rfl rfl) (zd_b zq_prog_1_method_28_code_2 23 rfl rfl rfl) (zd_b zq_prog_1_method_28_code_2 24 rfl rfl rfl)
theorem d_Ip_minutes_89 : decode prog_1_method_28_code 89 = .ok (.ireturn, 1) := zo_172 (zd_b zq_prog_1_method_28_code_2 25 rfl rfl rfl)
theorem d_Ip_minutes_78 : decode prog_1_method_28_code 78 = .ok (.iconst 0, 1) := zo_3 (zd_b zq_prog_1_method_28_code_2 14 rfl rfl rfl)
theorem d_Ip_minutes_79 : decode prog_1_method_28_code 79 = .ok (.goto 10, 3) := zo_167 (d := 0) (e := 10) (zd_b zq_prog_1_method_28_code_2 15 rfl rfl rfl) (zd_b zq_prog_1_method_28_code_2 16 rfl rfl rfl) (zd_b zq_prog_1_method_28_code_2 17 rfl rfl rfl) (by decide +kernel)
abbrev M_Ip_mould : zM := (⟨"Ironpour", "mould", "()I"⟩, prog_1_method_35_code, 2, (Option.some FieldType.int), 8, 231, [])
theorem d_Ip_mould_0 : decode prog_1_method_35_code 0 = .ok (.aload_n 0, 1) := zo_42 (zd_b zq_prog_1_method_35_code_0 0 rfl rfl rfl)
theorem d_Ip_mould_1 : decode prog_1_method_35_code 1 = .ok (.getfield 10, 3) := zo_180 (d := 0) (e := 10) (zd_b zq_prog_1_method_35_code_0 1 rfl rfl rfl) (zd_b zq_prog_1_method_35_code_0 2 rfl rfl rfl) (zd_b zq_prog_1_method_35_code_0 3 rfl rfl rfl)
theorem d_Ip_mould_4 : decode prog_1_method_35_code 4 = .ok (.invokevirtual 147, 3) := zo_182 (d := 0) (e := 147) (zd_b zq_prog_1_method_35_code_0 4 rfl rfl rfl) (zd_b zq_prog_1_method_35_code_0 5 rfl rfl rfl) (zd_b zq_prog_1_method_35_code_0 6 rfl rfl rfl)
theorem ok_Ip_mould_Pa_gatesOnTop : z_ok M_Ip_mould M_Pa_gatesOnTop 0 := ⟨z_mj4 (i := 63) rfl (by decide +kernel), rfl, ⟨by decide +kernel, by decide +kernel, by decide +kernel⟩, ⟨by decide, by decide⟩, z_mj1 (i := 2) rfl (by decide +kernel), rfl⟩
theorem d_Ip_mould_7 : decode prog_1_method_35_code 7 = .ok (.ifCond .eq 13, 3) := zo_153 (d := 0) (e := 13) (zd_b zq_prog_1_method_35_code_0 7 rfl rfl rfl) (zd_b zq_prog_1_method_35_code_0 8 rfl rfl rfl) (zd_b zq_prog_1_method_35_code_0 9 rfl rfl rfl) (by decide +kernel)
theorem d_Ip_mould_20 : decode prog_1_method_35_code 20 = .ok (.new 150, 3) := zo_187 (d := 0) (e := 150) (zd_b zq_prog_1_method_35_code_0 20 rfl rfl rfl) (zd_b zq_prog_1_method_35_code_0 21 rfl rfl rfl) (zd_b zq_prog_1_method_35_code_0 22 rfl rfl rfl)
theorem sr_Ip_401 : Cond.stringRef "Ironpour" 401 "no gate in the row 0, or no cell of the casting" ∈ lw_tbl := z_tb5 (i := 223) rfl
theorem d_Ip_mould_23 : decode prog_1_method_35_code 23 = .ok (.dup, 1) := zo_89 (zd_b zq_prog_1_method_35_code_0 23 rfl rfl rfl)
theorem d_Ip_mould_24 : decode prog_1_method_35_code 24 = .ok (.ldc_w 401, 3) := zo_19 (d := 1) (e := 145) (zd_b zq_prog_1_method_35_code_0 24 rfl rfl rfl) (zd_b zq_prog_1_method_35_code_0 25 rfl rfl rfl) (zd_b zq_prog_1_method_35_code_0 26 rfl rfl rfl)
theorem d_Ip_mould_27 : decode prog_1_method_35_code 27 = .ok (.invokespecial 154, 3) := zo_183 (d := 0) (e := 154) (zd_b zq_prog_1_method_35_code_0 27 rfl rfl rfl) (zd_b zq_prog_1_method_35_code_0 28 rfl rfl rfl) (zd_b zq_prog_1_method_35_code_0 29 rfl rfl rfl)
theorem d_Ip_mould_30 : decode prog_1_method_35_code 30 = .ok (.athrow, 1) := zo_191 (zd_b zq_prog_1_method_35_code_0 30 rfl rfl rfl)
theorem d_Ip_mould_10 : decode prog_1_method_35_code 10 = .ok (.aload_n 0, 1) := zo_42 (zd_b zq_prog_1_method_35_code_0 10 rfl rfl rfl)
theorem d_Ip_mould_11 : decode prog_1_method_35_code 11 = .ok (.getfield 10, 3) := zo_180 (d := 0) (e := 10) (zd_b zq_prog_1_method_35_code_0 11 rfl rfl rfl) (zd_b zq_prog_1_method_35_code_0 12 rfl rfl rfl) (zd_b zq_prog_1_method_35_code_0 13 rfl rfl rfl)
theorem d_Ip_mould_14 : decode prog_1_method_35_code 14 = .ok (.invokevirtual 398, 3) := zo_182 (d := 1) (e := 142) (zd_b zq_prog_1_method_35_code_0 14 rfl rfl rfl) (zd_b zq_prog_1_method_35_code_0 15 rfl rfl rfl) (zd_b zq_prog_1_method_35_code_0 16 rfl rfl rfl)
theorem ok_Ip_mould_Pa_hasCasting : z_ok M_Ip_mould M_Pa_hasCasting 0 := ⟨z_mj5 (i := 222) rfl (by decide +kernel), rfl, ⟨by decide +kernel, by decide +kernel, by decide +kernel⟩, ⟨by decide, by decide⟩, z_mj1 (i := 2) rfl (by decide +kernel), rfl⟩
theorem ln_Ip_398 : Cond.methodLink "Ironpour" 398 M_Pa_hasCasting.1 ∈ z_gw := z_mj5 (i := 219) rfl (by decide +kernel)
theorem w_im_Pa_hasCasting : Cond.instanceMethod M_Pa_hasCasting.1 ∈ z_gw := z_mj5 (i := 220) rfl (by decide +kernel)
theorem w_se_Pa_hasCasting : Cond.selects M_Pa_hasCasting.1.cls M_Pa_hasCasting.1 M_Pa_hasCasting.1 ∈ z_gw := z_mj5 (i := 221) rfl (by decide +kernel)
theorem d_Ip_mould_17 : decode prog_1_method_35_code 17 = .ok (.ifCond .ne 14, 3) := zo_154 (d := 0) (e := 14) (zd_b zq_prog_1_method_35_code_0 17 rfl rfl rfl) (zd_b zq_prog_1_method_35_code_0 18 rfl rfl rfl) (zd_b zq_prog_1_method_35_code_0 19 rfl rfl rfl) (by decide +kernel)
set_option maxHeartbeats 4000000 in
set_option maxRecDepth 100000 in
theorem C_Ip_mouldE (g : zG) (a pa ta sa gs co fu la gy du re wm ac : Nat) (pa1 pa2 pa3 : Nat) (f sn : Nat → Int32) (qn : Nat → Nat) (p : Nat) (hE : fa_cnt (fun k => decide (f k = 103)) 12 = 0 ∨ anB (fun k => decide (f k = 99)) 108 = false) : CT g M_Ip_mould [.ref a] [(a, .inr (11, [.ref pa, .ref ta, .ref sa, .ref gs, .ref co, .ref fu, .ref la, .ref gy, .ref du, .ref re, .ref wm, .ref ac])), (pa, .inr (8, [.ref pa1, .ref pa2, .ref pa3, .int (nI p)])), (pa1, .inl (1, 108, .inl f)), (pa2, .inl (2, 108, .inl sn)), (pa3, .inl (0, 108, .inl (fun k => nI (qn k))))] (fun o cs1 => o = .inr "java/util/NoSuchElementException" ∧ cs1 = [(a, .inr (11, [.ref pa, .ref ta, .ref sa, .ref gs, .ref co, .ref fu, .ref la, .ref gy, .ref du, .ref re, .ref wm, .ref ac])), (pa, .inr (8, [.ref pa1, .ref pa2, .ref pa3, .int (nI p)])), (pa1, .inl (1, 108, .inl f)), (pa2, .inl (2, 108, .inl sn)), (pa3, .inl (0, 108, .inl (fun k => nI (qn k))))]) 1 6 := by
  refine z_of (by decide) rfl (Nat.le_of_ble_eq_true rfl) (fun w0 => ?_)
  refine r_lvE (lv2 := [(0, .ref a)]) rfl ?_
  refine r_aload_n d_Ip_mould_0 rfl 0 rfl ?_
  refine r_get fs_Ip_10 d_Ip_mould_1 (q0 := 0) rfl rfl ?_
  refine r_callV (As := []) (rest := []) (csC := [(pa, .inr (8, [.ref pa1, .ref pa2, .ref pa3, .int (nI p)])), (pa1, .inl (1, 108, .inl f)), (pa2, .inl (2, 108, .inl sn)), (pa3, .inl (0, 108, .inl (fun k => nI (qn k))))]) (is := [1, 2, 3, 4]) (q0 := 1) rfl rfl ln_Ip_147 w_im_Pa_gatesOnTop w_se_Pa_gatesOnTop ok_Ip_mould_Pa_gatesOnTop d_Ip_mould_4 (C_Pa_gatesOnTop g pa pa1 pa2 pa3 f sn (fun k => nI (qn k)) (nI p)) rfl rfl (Nat.le_of_ble_eq_true rfl) rfl (by decide) (by omega) (by omega) (fun E cs1 hx => ?_) (fun v cs1 hx => ?_)
  · exact absurd hx.1 (by simp)
  · obtain ⟨e1, rfl⟩ := hx
    cases e1
    refine ⟨rfl, ?_⟩
    refine r_st (st2 := [.int (nI (fa_cnt (fun k => decide (f k = 103)) 12))]) rfl ?_
    refine r_cs (cs2 := [(a, .inr (11, [.ref pa, .ref ta, .ref sa, .ref gs, .ref co, .ref fu, .ref la, .ref gy, .ref du, .ref re, .ref wm, .ref ac])), (pa, .inr (8, [.ref pa1, .ref pa2, .ref pa3, .int (nI p)])), (pa1, .inl (1, 108, .inl f)), (pa2, .inl (2, 108, .inl sn)), (pa3, .inl (0, 108, .inl (fun k => nI (qn k))))]) rfl ?_
    refine r_if_eq (tgt := 20) d_Ip_mould_7 (by decide) (fun c_7 => ?_) (fun c_7 => ?_)
    · refine r_throwXW tb_Ip_150_154 sr_Ip_401 d_Ip_mould_20 d_Ip_mould_23 d_Ip_mould_24 d_Ip_mould_27 d_Ip_mould_30 rfl (by decide) (by decide) (Nat.le_of_ble_eq_true rfl) (by omega) (by omega) ?_
      exact ⟨rfl, rfl⟩
    · refine r_aload_n d_Ip_mould_10 rfl 0 rfl ?_
      refine r_get fs_Ip_10 d_Ip_mould_11 (q0 := 0) rfl rfl ?_
      refine r_callV (As := []) (rest := []) (csC := [(pa, .inr (8, [.ref pa1, .ref pa2, .ref pa3, .int (nI p)])), (pa1, .inl (1, 108, .inl f)), (pa2, .inl (2, 108, .inl sn)), (pa3, .inl (0, 108, .inl (fun k => nI (qn k))))]) (is := [1, 2, 3, 4]) (q0 := 1) rfl rfl ln_Ip_398 w_im_Pa_hasCasting w_se_Pa_hasCasting ok_Ip_mould_Pa_hasCasting d_Ip_mould_14 (C_Pa_hasCasting g pa pa1 pa2 pa3 f sn (fun k => nI (qn k)) (nI p)) rfl rfl (Nat.le_of_ble_eq_true rfl) rfl (by decide) (by omega) (by omega) (fun E cs1 hx => ?_) (fun v cs1 hx => ?_)
      · exact absurd hx.1 (by simp)
      · obtain ⟨e1, rfl⟩ := hx
        cases e1
        refine ⟨rfl, ?_⟩
        refine r_st (st2 := [.int (z_bi (anB (fun k => decide (f k = 99)) 108))]) rfl ?_
        refine r_cs (cs2 := [(a, .inr (11, [.ref pa, .ref ta, .ref sa, .ref gs, .ref co, .ref fu, .ref la, .ref gy, .ref du, .ref re, .ref wm, .ref ac])), (pa, .inr (8, [.ref pa1, .ref pa2, .ref pa3, .int (nI p)])), (pa1, .inl (1, 108, .inl f)), (pa2, .inl (2, 108, .inl sn)), (pa3, .inl (0, 108, .inl (fun k => nI (qn k))))]) rfl ?_
        refine r_if_ne (tgt := 31) d_Ip_mould_17 (by decide) (fun c_17 => ?_) (fun c_17 => ?_)
        · exact absurd hE (fun q => q.elim (fun e => c_7 (by rw [e]; rfl)) (fun e => by have := z_bi1 c_17; rw [e] at this; cases this))
        · refine r_throwXW tb_Ip_150_154 sr_Ip_401 d_Ip_mould_20 d_Ip_mould_23 d_Ip_mould_24 d_Ip_mould_27 d_Ip_mould_30 rfl (by decide) (by decide) (Nat.le_of_ble_eq_true rfl) (by omega) (by omega) ?_
          exact ⟨rfl, rfl⟩
abbrev M_Ip_waiting : zM := (⟨"Ironpour", "waiting", "(I)I"⟩, prog_1_method_36_code, 2, (Option.some FieldType.int), 6, 100, [])
theorem d_Ip_waiting_0 : decode prog_1_method_36_code 0 = .ok (.iload_n 1, 1) := zo_27 (zd_b zq_prog_1_method_36_code_0 0 rfl rfl rfl)
theorem d_Ip_waiting_1 : decode prog_1_method_36_code 1 = .ok (.ifCond .lt 14, 3) := zo_155 (d := 0) (e := 14) (zd_b zq_prog_1_method_36_code_0 1 rfl rfl rfl) (zd_b zq_prog_1_method_36_code_0 2 rfl rfl rfl) (zd_b zq_prog_1_method_36_code_0 3 rfl rfl rfl) (by decide +kernel)
theorem d_Ip_waiting_15 : decode prog_1_method_36_code 15 = .ok (.new 150, 3) := zo_187 (d := 0) (e := 150) (zd_b zq_prog_1_method_36_code_0 15 rfl rfl rfl) (zd_b zq_prog_1_method_36_code_0 16 rfl rfl rfl) (zd_b zq_prog_1_method_36_code_0 17 rfl rfl rfl)
theorem sr_Ip_420 : Cond.stringRef "Ironpour" 420 "no such mould" ∈ lw_tbl := z_tb6 (i := 104) rfl
theorem d_Ip_waiting_18 : decode prog_1_method_36_code 18 = .ok (.dup, 1) := zo_89 (zd_b zq_prog_1_method_36_code_0 18 rfl rfl rfl)
theorem d_Ip_waiting_19 : decode prog_1_method_36_code 19 = .ok (.ldc_w 420, 3) := zo_19 (d := 1) (e := 164) (zd_b zq_prog_1_method_36_code_0 19 rfl rfl rfl) (zd_b zq_prog_1_method_36_code_0 20 rfl rfl rfl) (zd_b zq_prog_1_method_36_code_0 21 rfl rfl rfl)
theorem d_Ip_waiting_22 : decode prog_1_method_36_code 22 = .ok (.invokespecial 154, 3) := zo_183 (d := 0) (e := 154) (zd_b zq_prog_1_method_36_code_0 22 rfl rfl rfl) (zd_b zq_prog_1_method_36_code_0 23 rfl rfl rfl) (zd_b zq_prog_1_method_36_code_0 24 rfl rfl rfl)
theorem d_Ip_waiting_25 : decode prog_1_method_36_code 25 = .ok (.athrow, 1) := zo_191 (zd_b zq_prog_1_method_36_code_0 25 rfl rfl rfl)
theorem d_Ip_waiting_4 : decode prog_1_method_36_code 4 = .ok (.iload_n 1, 1) := zo_27 (zd_b zq_prog_1_method_36_code_0 4 rfl rfl rfl)
theorem d_Ip_waiting_5 : decode prog_1_method_36_code 5 = .ok (.aload_n 0, 1) := zo_42 (zd_b zq_prog_1_method_36_code_0 5 rfl rfl rfl)
theorem d_Ip_waiting_6 : decode prog_1_method_36_code 6 = .ok (.getfield 74, 3) := zo_180 (d := 0) (e := 74) (zd_b zq_prog_1_method_36_code_0 6 rfl rfl rfl) (zd_b zq_prog_1_method_36_code_0 7 rfl rfl rfl) (zd_b zq_prog_1_method_36_code_0 8 rfl rfl rfl)
theorem d_Ip_waiting_9 : decode prog_1_method_36_code 9 = .ok (.invokevirtual 341, 3) := zo_182 (d := 1) (e := 85) (zd_b zq_prog_1_method_36_code_0 9 rfl rfl rfl) (zd_b zq_prog_1_method_36_code_0 10 rfl rfl rfl) (zd_b zq_prog_1_method_36_code_0 11 rfl rfl rfl)
theorem ok_Ip_waiting_AL_size : z_ok M_Ip_waiting M_AL_size 0 := ⟨z_mj2 (i := 172) rfl (by decide +kernel), rfl, ⟨by decide +kernel, by decide +kernel, by decide +kernel⟩, ⟨by decide, by decide⟩, z_mj1 (i := 13) rfl (by decide +kernel), rfl⟩
theorem d_Ip_waiting_12 : decode prog_1_method_36_code 12 = .ok (.if_icmp .lt 14, 3) := zo_161 (d := 0) (e := 14) (zd_b zq_prog_1_method_36_code_0 12 rfl rfl rfl) (zd_b zq_prog_1_method_36_code_0 13 rfl rfl rfl) (zd_b zq_prog_1_method_36_code_0 14 rfl rfl rfl) (by decide +kernel)
abbrev M_Ip_pour : zM := (⟨"Ironpour", "pour", "()I"⟩, prog_1_method_37_code, 1, (Option.some FieldType.int), 8, 231, [])
theorem d_Ip_pour_0 : decode prog_1_method_37_code 0 = .ok (.aload_n 0, 1) := zo_42 (zd_b zq_prog_1_method_37_code_0 0 rfl rfl rfl)
theorem d_Ip_pour_1 : decode prog_1_method_37_code 1 = .ok (.getfield 74, 3) := zo_180 (d := 0) (e := 74) (zd_b zq_prog_1_method_37_code_0 1 rfl rfl rfl) (zd_b zq_prog_1_method_37_code_0 2 rfl rfl rfl) (zd_b zq_prog_1_method_37_code_0 3 rfl rfl rfl)
theorem d_Ip_pour_4 : decode prog_1_method_37_code 4 = .ok (.invokevirtual 422, 3) := zo_182 (d := 1) (e := 166) (zd_b zq_prog_1_method_37_code_0 4 rfl rfl rfl) (zd_b zq_prog_1_method_37_code_0 5 rfl rfl rfl) (zd_b zq_prog_1_method_37_code_0 6 rfl rfl rfl)
theorem ok_Ip_pour_AL_isEmpty : z_ok M_Ip_pour M_AL_isEmpty 0 := ⟨z_mj6 (i := 115) rfl (by decide +kernel), rfl, ⟨by decide +kernel, by decide +kernel, by decide +kernel⟩, ⟨by decide, by decide⟩, z_mj1 (i := 13) rfl (by decide +kernel), rfl⟩
theorem ln_Ip_422 : Cond.methodLink "Ironpour" 422 M_AL_isEmpty.1 ∈ z_gw := z_mj6 (i := 112) rfl (by decide +kernel)
theorem d_Ip_pour_7 : decode prog_1_method_37_code 7 = .ok (.ifCond .eq 14, 3) := zo_153 (d := 0) (e := 14) (zd_b zq_prog_1_method_37_code_0 7 rfl rfl rfl) (zd_b zq_prog_1_method_37_code_0 8 rfl rfl rfl) (zd_b zq_prog_1_method_37_code_0 9 rfl rfl rfl) (by decide +kernel)
theorem d_Ip_pour_10 : decode prog_1_method_37_code 10 = .ok (.new 150, 3) := zo_187 (d := 0) (e := 150) (zd_b zq_prog_1_method_37_code_0 10 rfl rfl rfl) (zd_b zq_prog_1_method_37_code_0 11 rfl rfl rfl) (zd_b zq_prog_1_method_37_code_0 12 rfl rfl rfl)
theorem sr_Ip_423 : Cond.stringRef "Ironpour" 423 "no mould waits" ∈ lw_tbl := z_tb6 (i := 116) rfl
theorem d_Ip_pour_13 : decode prog_1_method_37_code 13 = .ok (.dup, 1) := zo_89 (zd_b zq_prog_1_method_37_code_0 13 rfl rfl rfl)
theorem d_Ip_pour_14 : decode prog_1_method_37_code 14 = .ok (.ldc_w 423, 3) := zo_19 (d := 1) (e := 167) (zd_b zq_prog_1_method_37_code_0 14 rfl rfl rfl) (zd_b zq_prog_1_method_37_code_0 15 rfl rfl rfl) (zd_b zq_prog_1_method_37_code_0 16 rfl rfl rfl)
theorem d_Ip_pour_17 : decode prog_1_method_37_code 17 = .ok (.invokespecial 154, 3) := zo_183 (d := 0) (e := 154) (zd_b zq_prog_1_method_37_code_0 17 rfl rfl rfl) (zd_b zq_prog_1_method_37_code_0 18 rfl rfl rfl) (zd_b zq_prog_1_method_37_code_0 19 rfl rfl rfl)
theorem d_Ip_pour_20 : decode prog_1_method_37_code 20 = .ok (.athrow, 1) := zo_191 (zd_b zq_prog_1_method_37_code_0 20 rfl rfl rfl)
abbrev M_Ip_castings : zM := (⟨"Ironpour", "castings", "()I"⟩, prog_1_method_38_code, 1, (Option.some FieldType.int), 2, 40, [])
theorem d_Ip_castings_0 : decode prog_1_method_38_code 0 = .ok (.aload_n 0, 1) := zo_42 (zd_b zq_prog_1_method_38_code_0 0 rfl rfl rfl)
theorem d_Ip_castings_1 : decode prog_1_method_38_code 1 = .ok (.getfield 78, 3) := zo_180 (d := 0) (e := 78) (zd_b zq_prog_1_method_38_code_0 1 rfl rfl rfl) (zd_b zq_prog_1_method_38_code_0 2 rfl rfl rfl) (zd_b zq_prog_1_method_38_code_0 3 rfl rfl rfl)
theorem fs_Ip_78 : z_fs "Ironpour" 78 11 11 := ⟨R_Ip, "Ironpour", F_Ip, 12, rfl, u_Ip, by decide, Or.inl ⟨z_mj2 (i := 74) rfl (by decide +kernel), Or.inl rfl⟩⟩
theorem d_Ip_castings_4 : decode prog_1_method_38_code 4 = .ok (.invokevirtual 341, 3) := zo_182 (d := 1) (e := 85) (zd_b zq_prog_1_method_38_code_0 4 rfl rfl rfl) (zd_b zq_prog_1_method_38_code_0 5 rfl rfl rfl) (zd_b zq_prog_1_method_38_code_0 6 rfl rfl rfl)
theorem ok_Ip_castings_AL_size : z_ok M_Ip_castings M_AL_size 0 := ⟨z_mj2 (i := 172) rfl (by decide +kernel), rfl, ⟨by decide +kernel, by decide +kernel, by decide +kernel⟩, ⟨by decide, by decide⟩, z_mj1 (i := 13) rfl (by decide +kernel), rfl⟩
theorem d_Ip_castings_7 : decode prog_1_method_38_code 7 = .ok (.ireturn, 1) := zo_172 (zd_b zq_prog_1_method_38_code_0 7 rfl rfl rfl)
abbrev M_Ip_castingAt : zM := (⟨"Ironpour", "castingAt", "(I)LIronpour$Casting;"⟩, prog_1_method_64_code, 2, (Option.some (FieldType.object "Ironpour$Casting")), 6, 100, [])
theorem d_Ip_castingAt_0 : decode prog_1_method_64_code 0 = .ok (.iload_n 1, 1) := zo_27 (zd_b zq_prog_1_method_64_code_0 0 rfl rfl rfl)
theorem d_Ip_castingAt_1 : decode prog_1_method_64_code 1 = .ok (.ifCond .lt 14, 3) := zo_155 (d := 0) (e := 14) (zd_b zq_prog_1_method_64_code_0 1 rfl rfl rfl) (zd_b zq_prog_1_method_64_code_0 2 rfl rfl rfl) (zd_b zq_prog_1_method_64_code_0 3 rfl rfl rfl) (by decide +kernel)
theorem d_Ip_castingAt_15 : decode prog_1_method_64_code 15 = .ok (.new 509, 3) := zo_187 (d := 1) (e := 253) (zd_b zq_prog_1_method_64_code_0 15 rfl rfl rfl) (zd_b zq_prog_1_method_64_code_0 16 rfl rfl rfl) (zd_b zq_prog_1_method_64_code_0 17 rfl rfl rfl)
theorem sr_Ip_540 : Cond.stringRef "Ironpour" 540 "no such casting" ∈ lw_tbl := z_tb6 (i := 194) rfl
theorem d_Ip_castingAt_18 : decode prog_1_method_64_code 18 = .ok (.dup, 1) := zo_89 (zd_b zq_prog_1_method_64_code_0 18 rfl rfl rfl)
theorem d_Ip_castingAt_19 : decode prog_1_method_64_code 19 = .ok (.ldc_w 540, 3) := zo_19 (d := 2) (e := 28) (zd_b zq_prog_1_method_64_code_0 19 rfl rfl rfl) (zd_b zq_prog_1_method_64_code_0 20 rfl rfl rfl) (zd_b zq_prog_1_method_64_code_0 21 rfl rfl rfl)
theorem d_Ip_castingAt_22 : decode prog_1_method_64_code 22 = .ok (.invokespecial 513, 3) := zo_183 (d := 2) (e := 1) (zd_b zq_prog_1_method_64_code_0 22 rfl rfl rfl) (zd_b zq_prog_1_method_64_code_0 23 rfl rfl rfl) (zd_b zq_prog_1_method_64_code_0 24 rfl rfl rfl)
theorem d_Ip_castingAt_25 : decode prog_1_method_64_code 25 = .ok (.athrow, 1) := zo_191 (zd_b zq_prog_1_method_64_code_0 25 rfl rfl rfl)
theorem d_Ip_castingAt_4 : decode prog_1_method_64_code 4 = .ok (.iload_n 1, 1) := zo_27 (zd_b zq_prog_1_method_64_code_0 4 rfl rfl rfl)
theorem d_Ip_castingAt_5 : decode prog_1_method_64_code 5 = .ok (.aload_n 0, 1) := zo_42 (zd_b zq_prog_1_method_64_code_0 5 rfl rfl rfl)
theorem d_Ip_castingAt_6 : decode prog_1_method_64_code 6 = .ok (.getfield 78, 3) := zo_180 (d := 0) (e := 78) (zd_b zq_prog_1_method_64_code_0 6 rfl rfl rfl) (zd_b zq_prog_1_method_64_code_0 7 rfl rfl rfl) (zd_b zq_prog_1_method_64_code_0 8 rfl rfl rfl)
theorem d_Ip_castingAt_9 : decode prog_1_method_64_code 9 = .ok (.invokevirtual 341, 3) := zo_182 (d := 1) (e := 85) (zd_b zq_prog_1_method_64_code_0 9 rfl rfl rfl) (zd_b zq_prog_1_method_64_code_0 10 rfl rfl rfl) (zd_b zq_prog_1_method_64_code_0 11 rfl rfl rfl)
theorem ok_Ip_castingAt_AL_size : z_ok M_Ip_castingAt M_AL_size 0 := ⟨z_mj2 (i := 172) rfl (by decide +kernel), rfl, ⟨by decide +kernel, by decide +kernel, by decide +kernel⟩, ⟨by decide, by decide⟩, z_mj1 (i := 13) rfl (by decide +kernel), rfl⟩
theorem d_Ip_castingAt_12 : decode prog_1_method_64_code 12 = .ok (.if_icmp .lt 14, 3) := zo_161 (d := 0) (e := 14) (zd_b zq_prog_1_method_64_code_0 12 rfl rfl rfl) (zd_b zq_prog_1_method_64_code_0 13 rfl rfl rfl) (zd_b zq_prog_1_method_64_code_0 14 rfl rfl rfl) (by decide +kernel)
abbrev M_Ip_alloy : zM := (⟨"Ironpour", "alloy", "(I)C"⟩, prog_1_method_39_code, 2, (Option.some FieldType.char), 7, 121, [])
theorem d_Ip_alloy_0 : decode prog_1_method_39_code 0 = .ok (.aload_n 0, 1) := zo_42 (zd_b zq_prog_1_method_39_code_0 0 rfl rfl rfl)
theorem d_Ip_alloy_1 : decode prog_1_method_39_code 1 = .ok (.iload_n 1, 1) := zo_27 (zd_b zq_prog_1_method_39_code_0 1 rfl rfl rfl)
theorem d_Ip_alloy_2 : decode prog_1_method_39_code 2 = .ok (.invokevirtual 436, 3) := zo_182 (d := 1) (e := 180) (zd_b zq_prog_1_method_39_code_0 2 rfl rfl rfl) (zd_b zq_prog_1_method_39_code_0 3 rfl rfl rfl) (zd_b zq_prog_1_method_39_code_0 4 rfl rfl rfl)
theorem ok_Ip_alloy_Ip_castingAt : z_ok M_Ip_alloy M_Ip_castingAt 1 := ⟨z_mj6 (i := 193) rfl (by decide +kernel), rfl, ⟨by decide +kernel, by decide +kernel, by decide +kernel⟩, ⟨by decide, by decide⟩, z_mj1 (i := 1) rfl (by decide +kernel), rfl⟩
theorem ln_Ip_436 : Cond.methodLink "Ironpour" 436 M_Ip_castingAt.1 ∈ z_gw := z_mj6 (i := 190) rfl (by decide +kernel)
theorem w_im_Ip_castingAt : Cond.instanceMethod M_Ip_castingAt.1 ∈ z_gw := z_mj6 (i := 192) rfl (by decide +kernel)
theorem w_se_Ip_castingAt : Cond.selects M_Ip_castingAt.1.cls M_Ip_castingAt.1 M_Ip_castingAt.1 ∈ z_gw := z_mem (i := 27) (by decide +kernel) (by decide +kernel)
abbrev M_Ip_faults : zM := (⟨"Ironpour", "faults", "(I)I"⟩, prog_1_method_40_code, 2, (Option.some FieldType.int), 7, 121, [])
theorem d_Ip_faults_0 : decode prog_1_method_40_code 0 = .ok (.aload_n 0, 1) := zo_42 (zd_b zq_prog_1_method_40_code_0 0 rfl rfl rfl)
theorem d_Ip_faults_1 : decode prog_1_method_40_code 1 = .ok (.iload_n 1, 1) := zo_27 (zd_b zq_prog_1_method_40_code_0 1 rfl rfl rfl)
theorem d_Ip_faults_2 : decode prog_1_method_40_code 2 = .ok (.invokevirtual 436, 3) := zo_182 (d := 1) (e := 180) (zd_b zq_prog_1_method_40_code_0 2 rfl rfl rfl) (zd_b zq_prog_1_method_40_code_0 3 rfl rfl rfl) (zd_b zq_prog_1_method_40_code_0 4 rfl rfl rfl)
theorem ok_Ip_faults_Ip_castingAt : z_ok M_Ip_faults M_Ip_castingAt 1 := ⟨z_mj6 (i := 193) rfl (by decide +kernel), rfl, ⟨by decide +kernel, by decide +kernel, by decide +kernel⟩, ⟨by decide, by decide⟩, z_mj1 (i := 1) rfl (by decide +kernel), rfl⟩
abbrev M_Ip_shrunkIn : zM := (⟨"Ironpour", "shrunkIn", "(I)I"⟩, prog_1_method_41_code, 2, (Option.some FieldType.int), 7, 121, [])
theorem d_Ip_shrunkIn_0 : decode prog_1_method_41_code 0 = .ok (.aload_n 0, 1) := zo_42 (zd_b zq_prog_1_method_41_code_0 0 rfl rfl rfl)
theorem d_Ip_shrunkIn_1 : decode prog_1_method_41_code 1 = .ok (.iload_n 1, 1) := zo_27 (zd_b zq_prog_1_method_41_code_0 1 rfl rfl rfl)
theorem d_Ip_shrunkIn_2 : decode prog_1_method_41_code 2 = .ok (.invokevirtual 436, 3) := zo_182 (d := 1) (e := 180) (zd_b zq_prog_1_method_41_code_0 2 rfl rfl rfl) (zd_b zq_prog_1_method_41_code_0 3 rfl rfl rfl) (zd_b zq_prog_1_method_41_code_0 4 rfl rfl rfl)
theorem ok_Ip_shrunkIn_Ip_castingAt : z_ok M_Ip_shrunkIn M_Ip_castingAt 1 := ⟨z_mj6 (i := 193) rfl (by decide +kernel), rfl, ⟨by decide +kernel, by decide +kernel, by decide +kernel⟩, ⟨by decide, by decide⟩, z_mj1 (i := 1) rfl (by decide +kernel), rfl⟩
abbrev M_Ip_has : zM := (⟨"Ironpour", "has", "(IC)I"⟩, prog_1_method_42_code, 4, (Option.some FieldType.int), 9, 200, [])
theorem d_Ip_has_0 : decode prog_1_method_42_code 0 = .ok (.aload_n 0, 1) := zo_42 (zd_b zq_prog_1_method_42_code_0 0 rfl rfl rfl)
theorem d_Ip_has_1 : decode prog_1_method_42_code 1 = .ok (.iload_n 1, 1) := zo_27 (zd_b zq_prog_1_method_42_code_0 1 rfl rfl rfl)
theorem d_Ip_has_2 : decode prog_1_method_42_code 2 = .ok (.invokevirtual 436, 3) := zo_182 (d := 1) (e := 180) (zd_b zq_prog_1_method_42_code_0 2 rfl rfl rfl) (zd_b zq_prog_1_method_42_code_0 3 rfl rfl rfl) (zd_b zq_prog_1_method_42_code_0 4 rfl rfl rfl)
theorem ok_Ip_has_Ip_castingAt : z_ok M_Ip_has M_Ip_castingAt 1 := ⟨z_mj6 (i := 193) rfl (by decide +kernel), rfl, ⟨by decide +kernel, by decide +kernel, by decide +kernel⟩, ⟨by decide, by decide⟩, z_mj1 (i := 1) rfl (by decide +kernel), rfl⟩
abbrev M_Ip_bar : zM := (⟨"Ironpour", "bar", "(I)I"⟩, prog_1_method_43_code, 2, (Option.some FieldType.int), 7, 121, [])
theorem d_Ip_bar_0 : decode prog_1_method_43_code 0 = .ok (.aload_n 0, 1) := zo_42 (zd_b zq_prog_1_method_43_code_0 0 rfl rfl rfl)
theorem d_Ip_bar_1 : decode prog_1_method_43_code 1 = .ok (.iload_n 1, 1) := zo_27 (zd_b zq_prog_1_method_43_code_0 1 rfl rfl rfl)
theorem d_Ip_bar_2 : decode prog_1_method_43_code 2 = .ok (.invokevirtual 436, 3) := zo_182 (d := 1) (e := 180) (zd_b zq_prog_1_method_43_code_0 2 rfl rfl rfl) (zd_b zq_prog_1_method_43_code_0 3 rfl rfl rfl) (zd_b zq_prog_1_method_43_code_0 4 rfl rfl rfl)
theorem ok_Ip_bar_Ip_castingAt : z_ok M_Ip_bar M_Ip_castingAt 1 := ⟨z_mj6 (i := 193) rfl (by decide +kernel), rfl, ⟨by decide +kernel, by decide +kernel, by decide +kernel⟩, ⟨by decide, by decide⟩, z_mj1 (i := 1) rfl (by decide +kernel), rfl⟩
abbrev M_Ip_weld : zM := (⟨"Ironpour", "weld", "(I)Z"⟩, prog_1_method_44_code, 4, (Option.some FieldType.boolean), 7, 121, [])
theorem d_Ip_weld_0 : decode prog_1_method_44_code 0 = .ok (.aload_n 0, 1) := zo_42 (zd_b zq_prog_1_method_44_code_0 0 rfl rfl rfl)
theorem d_Ip_weld_1 : decode prog_1_method_44_code 1 = .ok (.iload_n 1, 1) := zo_27 (zd_b zq_prog_1_method_44_code_0 1 rfl rfl rfl)
theorem d_Ip_weld_2 : decode prog_1_method_44_code 2 = .ok (.invokevirtual 436, 3) := zo_182 (d := 1) (e := 180) (zd_b zq_prog_1_method_44_code_0 2 rfl rfl rfl) (zd_b zq_prog_1_method_44_code_0 3 rfl rfl rfl) (zd_b zq_prog_1_method_44_code_0 4 rfl rfl rfl)
theorem ok_Ip_weld_Ip_castingAt : z_ok M_Ip_weld M_Ip_castingAt 1 := ⟨z_mj6 (i := 193) rfl (by decide +kernel), rfl, ⟨by decide +kernel, by decide +kernel, by decide +kernel⟩, ⟨by decide, by decide⟩, z_mj1 (i := 1) rfl (by decide +kernel), rfl⟩
abbrev M_Ip_deliver : zM := (⟨"Ironpour", "deliver", "(I)Z"⟩, prog_1_method_45_code, 3, (Option.some FieldType.boolean), 7, 121, [])
theorem d_Ip_deliver_0 : decode prog_1_method_45_code 0 = .ok (.aload_n 0, 1) := zo_42 (zd_b zq_prog_1_method_45_code_0 0 rfl rfl rfl)
theorem d_Ip_deliver_1 : decode prog_1_method_45_code 1 = .ok (.iload_n 1, 1) := zo_27 (zd_b zq_prog_1_method_45_code_0 1 rfl rfl rfl)
theorem d_Ip_deliver_2 : decode prog_1_method_45_code 2 = .ok (.invokevirtual 436, 3) := zo_182 (d := 1) (e := 180) (zd_b zq_prog_1_method_45_code_0 2 rfl rfl rfl) (zd_b zq_prog_1_method_45_code_0 3 rfl rfl rfl) (zd_b zq_prog_1_method_45_code_0 4 rfl rfl rfl)
theorem ok_Ip_deliver_Ip_castingAt : z_ok M_Ip_deliver M_Ip_castingAt 1 := ⟨z_mj6 (i := 193) rfl (by decide +kernel), rfl, ⟨by decide +kernel, by decide +kernel, by decide +kernel⟩, ⟨by decide, by decide⟩, z_mj1 (i := 1) rfl (by decide +kernel), rfl⟩
abbrev M_Ip_breakUp : zM := (⟨"Ironpour", "breakUp", "(I)I"⟩, prog_1_method_46_code, 4, (Option.some FieldType.int), 7, 121, [])
theorem d_Ip_breakUp_0 : decode prog_1_method_46_code 0 = .ok (.aload_n 0, 1) := zo_42 (zd_b zq_prog_1_method_46_code_0 0 rfl rfl rfl)
theorem d_Ip_breakUp_1 : decode prog_1_method_46_code 1 = .ok (.iload_n 1, 1) := zo_27 (zd_b zq_prog_1_method_46_code_0 1 rfl rfl rfl)
theorem d_Ip_breakUp_2 : decode prog_1_method_46_code 2 = .ok (.invokevirtual 436, 3) := zo_182 (d := 1) (e := 180) (zd_b zq_prog_1_method_46_code_0 2 rfl rfl rfl) (zd_b zq_prog_1_method_46_code_0 3 rfl rfl rfl) (zd_b zq_prog_1_method_46_code_0 4 rfl rfl rfl)
theorem ok_Ip_breakUp_Ip_castingAt : z_ok M_Ip_breakUp M_Ip_castingAt 1 := ⟨z_mj6 (i := 193) rfl (by decide +kernel), rfl, ⟨by decide +kernel, by decide +kernel, by decide +kernel⟩, ⟨by decide, by decide⟩, z_mj1 (i := 1) rfl (by decide +kernel), rfl⟩
abbrev M_Ip_castingsWith : zM := (⟨"Ironpour", "castingsWith", "(I)I"⟩, prog_1_method_67_code, 4, (Option.some FieldType.int), 4, 84, [])
theorem d_Ip_castingsWith_0 : decode prog_1_method_67_code 0 = .ok (.iconst 0, 1) := zo_3 (zd_b zq_prog_1_method_67_code_0 0 rfl rfl rfl)
theorem d_Ip_castingsWith_1 : decode prog_1_method_67_code 1 = .ok (.istore_n 2, 1) := zo_61 (zd_b zq_prog_1_method_67_code_0 1 rfl rfl rfl)
theorem d_Ip_castingsWith_2 : decode prog_1_method_67_code 2 = .ok (.iconst 0, 1) := zo_3 (zd_b zq_prog_1_method_67_code_0 2 rfl rfl rfl)
theorem d_Ip_castingsWith_3 : decode prog_1_method_67_code 3 = .ok (.istore_n 3, 1) := zo_62 (zd_b zq_prog_1_method_67_code_0 3 rfl rfl rfl)
theorem d_Ip_castingsWith_4 : decode prog_1_method_67_code 4 = .ok (.iload_n 3, 1) := zo_29 (zd_b zq_prog_1_method_67_code_0 4 rfl rfl rfl)
theorem d_Ip_castingsWith_5 : decode prog_1_method_67_code 5 = .ok (.aload_n 0, 1) := zo_42 (zd_b zq_prog_1_method_67_code_0 5 rfl rfl rfl)
theorem d_Ip_castingsWith_6 : decode prog_1_method_67_code 6 = .ok (.getfield 78, 3) := zo_180 (d := 0) (e := 78) (zd_b zq_prog_1_method_67_code_0 6 rfl rfl rfl) (zd_b zq_prog_1_method_67_code_0 7 rfl rfl rfl) (zd_b zq_prog_1_method_67_code_0 8 rfl rfl rfl)
theorem d_Ip_castingsWith_9 : decode prog_1_method_67_code 9 = .ok (.invokevirtual 341, 3) := zo_182 (d := 1) (e := 85) (zd_b zq_prog_1_method_67_code_0 9 rfl rfl rfl) (zd_b zq_prog_1_method_67_code_0 10 rfl rfl rfl) (zd_b zq_prog_1_method_67_code_0 11 rfl rfl rfl)
theorem ok_Ip_castingsWith_AL_size : z_ok M_Ip_castingsWith M_AL_size 0 := ⟨z_mj2 (i := 172) rfl (by decide +kernel), rfl, ⟨by decide +kernel, by decide +kernel, by decide +kernel⟩, ⟨by decide, by decide⟩, z_mj1 (i := 13) rfl (by decide +kernel), rfl⟩
theorem d_Ip_castingsWith_12 : decode prog_1_method_67_code 12 = .ok (.if_icmp .ge 30, 3) := zo_162 (d := 0) (e := 30) (zd_b zq_prog_1_method_67_code_0 12 rfl rfl rfl) (zd_b zq_prog_1_method_67_code_0 13 rfl rfl rfl) (zd_b zq_prog_1_method_67_code_0 14 rfl rfl rfl) (by decide +kernel)
theorem d_Ip_castingsWith_42 : decode prog_1_method_67_code 42 = .ok (.iload_n 2, 1) := zo_28 (zd_b zq_prog_1_method_67_code_1 10 rfl rfl rfl)
theorem d_Ip_castingsWith_43 : decode prog_1_method_67_code 43 = .ok (.ireturn, 1) := zo_172 (zd_b zq_prog_1_method_67_code_1 11 rfl rfl rfl)
abbrev M_Ip_worst : zM := (⟨"Ironpour", "worst", "()C"⟩, prog_1_method_47_code, 6, (Option.some FieldType.char), 6, 107, [])
theorem d_Ip_worst_0 : decode prog_1_method_47_code 0 = .ok (.aload_n 0, 1) := zo_42 (zd_b zq_prog_1_method_47_code_0 0 rfl rfl rfl)
theorem d_Ip_worst_1 : decode prog_1_method_47_code 1 = .ok (.bipush 12, 2) := zo_16 (d := 12) (zd_b zq_prog_1_method_47_code_0 1 rfl rfl rfl) (zd_b zq_prog_1_method_47_code_0 2 rfl rfl rfl) (by decide +kernel)
theorem d_Ip_worst_3 : decode prog_1_method_47_code 3 = .ok (.invokevirtual 476, 3) := zo_182 (d := 1) (e := 220) (zd_b zq_prog_1_method_47_code_0 3 rfl rfl rfl) (zd_b zq_prog_1_method_47_code_0 4 rfl rfl rfl) (zd_b zq_prog_1_method_47_code_0 5 rfl rfl rfl)
theorem ok_Ip_worst_Ip_castingsWith : z_ok M_Ip_worst M_Ip_castingsWith 1 := ⟨z_mj7 (i := 39) rfl (by decide +kernel), rfl, ⟨by decide +kernel, by decide +kernel, by decide +kernel⟩, ⟨by decide, by decide⟩, z_mj1 (i := 1) rfl (by decide +kernel), rfl⟩
theorem ln_Ip_476 : Cond.methodLink "Ironpour" 476 M_Ip_castingsWith.1 ∈ z_gw := z_mj7 (i := 36) rfl (by decide +kernel)
theorem w_im_Ip_castingsWith : Cond.instanceMethod M_Ip_castingsWith.1 ∈ z_gw := z_mj7 (i := 38) rfl (by decide +kernel)
theorem w_se_Ip_castingsWith : Cond.selects M_Ip_castingsWith.1.cls M_Ip_castingsWith.1 M_Ip_castingsWith.1 ∈ z_gw := z_mem (i := 28) (by decide +kernel) (by decide +kernel)
theorem d_Ip_worst_6 : decode prog_1_method_47_code 6 = .ok (.istore_n 1, 1) := zo_60 (zd_b zq_prog_1_method_47_code_0 6 rfl rfl rfl)
theorem d_Ip_worst_7 : decode prog_1_method_47_code 7 = .ok (.aload_n 0, 1) := zo_42 (zd_b zq_prog_1_method_47_code_0 7 rfl rfl rfl)
theorem d_Ip_worst_8 : decode prog_1_method_47_code 8 = .ok (.bipush 32, 2) := zo_16 (d := 32) (zd_b zq_prog_1_method_47_code_0 8 rfl rfl rfl) (zd_b zq_prog_1_method_47_code_0 9 rfl rfl rfl) (by decide +kernel)
theorem d_Ip_worst_10 : decode prog_1_method_47_code 10 = .ok (.invokevirtual 476, 3) := zo_182 (d := 1) (e := 220) (zd_b zq_prog_1_method_47_code_0 10 rfl rfl rfl) (zd_b zq_prog_1_method_47_code_0 11 rfl rfl rfl) (zd_b zq_prog_1_method_47_code_0 12 rfl rfl rfl)
theorem d_Ip_worst_13 : decode prog_1_method_47_code 13 = .ok (.istore_n 2, 1) := zo_61 (zd_b zq_prog_1_method_47_code_0 13 rfl rfl rfl)
theorem d_Ip_worst_14 : decode prog_1_method_47_code 14 = .ok (.aload_n 0, 1) := zo_42 (zd_b zq_prog_1_method_47_code_0 14 rfl rfl rfl)
theorem d_Ip_worst_15 : decode prog_1_method_47_code 15 = .ok (.iconst 2, 1) := zo_5 (zd_b zq_prog_1_method_47_code_0 15 rfl rfl rfl)
theorem d_Ip_worst_16 : decode prog_1_method_47_code 16 = .ok (.invokevirtual 476, 3) := zo_182 (d := 1) (e := 220) (zd_b zq_prog_1_method_47_code_0 16 rfl rfl rfl) (zd_b zq_prog_1_method_47_code_0 17 rfl rfl rfl) (zd_b zq_prog_1_method_47_code_0 18 rfl rfl rfl)
theorem d_Ip_worst_19 : decode prog_1_method_47_code 19 = .ok (.istore_n 3, 1) := zo_62 (zd_b zq_prog_1_method_47_code_0 19 rfl rfl rfl)
theorem d_Ip_worst_20 : decode prog_1_method_47_code 20 = .ok (.aload_n 0, 1) := zo_42 (zd_b zq_prog_1_method_47_code_0 20 rfl rfl rfl)
theorem d_Ip_worst_21 : decode prog_1_method_47_code 21 = .ok (.bipush 17, 2) := zo_16 (d := 17) (zd_b zq_prog_1_method_47_code_0 21 rfl rfl rfl) (zd_b zq_prog_1_method_47_code_0 22 rfl rfl rfl) (by decide +kernel)
theorem d_Ip_worst_23 : decode prog_1_method_47_code 23 = .ok (.invokevirtual 476, 3) := zo_182 (d := 1) (e := 220) (zd_b zq_prog_1_method_47_code_0 23 rfl rfl rfl) (zd_b zq_prog_1_method_47_code_0 24 rfl rfl rfl) (zd_b zq_prog_1_method_47_code_0 25 rfl rfl rfl)
theorem d_Ip_worst_26 : decode prog_1_method_47_code 26 = .ok (.istore 4, 2) := zo_54 (d := 4) (zd_b zq_prog_1_method_47_code_0 26 rfl rfl rfl) (zd_b zq_prog_1_method_47_code_0 27 rfl rfl rfl)
theorem d_Ip_worst_28 : decode prog_1_method_47_code 28 = .ok (.iload_n 1, 1) := zo_27 (zd_b zq_prog_1_method_47_code_0 28 rfl rfl rfl)
theorem d_Ip_worst_29 : decode prog_1_method_47_code 29 = .ok (.iload_n 2, 1) := zo_28 (zd_b zq_prog_1_method_47_code_0 29 rfl rfl rfl)
theorem d_Ip_worst_30 : decode prog_1_method_47_code 30 = .ok (.invokestatic 479, 3) := zo_184 (d := 1) (e := 223) (zd_b zq_prog_1_method_47_code_0 30 rfl rfl rfl) (zd_b zq_prog_1_method_47_code_0 31 rfl rfl rfl) (zd_b zq_prog_1_method_47_code_1 0 rfl rfl rfl)
theorem ln_Ip_479 : Cond.methodLink "Ironpour" 479 Lib.Math.max.name ∈ z_gw := z_mj7 (i := 40) rfl (by decide +kernel)
theorem d_Ip_worst_33 : decode prog_1_method_47_code 33 = .ok (.iload_n 3, 1) := zo_29 (zd_b zq_prog_1_method_47_code_1 1 rfl rfl rfl)
theorem d_Ip_worst_34 : decode prog_1_method_47_code 34 = .ok (.iload 4, 2) := zo_21 (d := 4) (zd_b zq_prog_1_method_47_code_1 2 rfl rfl rfl) (zd_b zq_prog_1_method_47_code_1 3 rfl rfl rfl)
theorem d_Ip_worst_36 : decode prog_1_method_47_code 36 = .ok (.invokestatic 479, 3) := zo_184 (d := 1) (e := 223) (zd_b zq_prog_1_method_47_code_1 4 rfl rfl rfl) (zd_b zq_prog_1_method_47_code_1 5 rfl rfl rfl) (zd_b zq_prog_1_method_47_code_1 6 rfl rfl rfl)
theorem d_Ip_worst_39 : decode prog_1_method_47_code 39 = .ok (.invokestatic 479, 3) := zo_184 (d := 1) (e := 223) (zd_b zq_prog_1_method_47_code_1 7 rfl rfl rfl) (zd_b zq_prog_1_method_47_code_1 8 rfl rfl rfl) (zd_b zq_prog_1_method_47_code_1 9 rfl rfl rfl)
theorem d_Ip_worst_42 : decode prog_1_method_47_code 42 = .ok (.istore 5, 2) := zo_54 (d := 5) (zd_b zq_prog_1_method_47_code_1 10 rfl rfl rfl) (zd_b zq_prog_1_method_47_code_1 11 rfl rfl rfl)
theorem d_Ip_worst_44 : decode prog_1_method_47_code 44 = .ok (.iload 5, 2) := zo_21 (d := 5) (zd_b zq_prog_1_method_47_code_1 12 rfl rfl rfl) (zd_b zq_prog_1_method_47_code_1 13 rfl rfl rfl)
theorem d_Ip_worst_46 : decode prog_1_method_47_code 46 = .ok (.ifCond .ne 14, 3) := zo_154 (d := 0) (e := 14) (zd_b zq_prog_1_method_47_code_1 14 rfl rfl rfl) (zd_b zq_prog_1_method_47_code_1 15 rfl rfl rfl) (zd_b zq_prog_1_method_47_code_1 16 rfl rfl rfl) (by decide +kernel)
theorem d_Ip_worst_49 : decode prog_1_method_47_code 49 = .ok (.new 150, 3) := zo_187 (d := 0) (e := 150) (zd_b zq_prog_1_method_47_code_1 17 rfl rfl rfl) (zd_b zq_prog_1_method_47_code_1 18 rfl rfl rfl) (zd_b zq_prog_1_method_47_code_1 19 rfl rfl rfl)
theorem sr_Ip_484 : Cond.stringRef "Ironpour" 484 "there are no faults" ∈ lw_tbl := z_tb7 (i := 41) rfl
theorem d_Ip_worst_52 : decode prog_1_method_47_code 52 = .ok (.dup, 1) := zo_89 (zd_b zq_prog_1_method_47_code_1 20 rfl rfl rfl)
theorem d_Ip_worst_53 : decode prog_1_method_47_code 53 = .ok (.ldc_w 484, 3) := zo_19 (d := 1) (e := 228) (zd_b zq_prog_1_method_47_code_1 21 rfl rfl rfl) (zd_b zq_prog_1_method_47_code_1 22 rfl rfl rfl) (zd_b zq_prog_1_method_47_code_1 23 rfl rfl rfl)
theorem d_Ip_worst_56 : decode prog_1_method_47_code 56 = .ok (.invokespecial 154, 3) := zo_183 (d := 0) (e := 154) (zd_b zq_prog_1_method_47_code_1 24 rfl rfl rfl) (zd_b zq_prog_1_method_47_code_1 25 rfl rfl rfl) (zd_b zq_prog_1_method_47_code_1 26 rfl rfl rfl)
theorem d_Ip_worst_59 : decode prog_1_method_47_code 59 = .ok (.athrow, 1) := zo_191 (zd_b zq_prog_1_method_47_code_1 27 rfl rfl rfl)
abbrev M_Ip_delivered : zM := (⟨"Ironpour", "delivered", "()J"⟩, prog_1_method_48_code, 5, (Option.some FieldType.long), 4, 84, [])
theorem d_Ip_delivered_0 : decode prog_1_method_48_code 0 = .ok (.lconst 0, 1) := zo_9 (zd_b zq_prog_1_method_48_code_0 0 rfl rfl rfl)
theorem d_Ip_delivered_1 : decode prog_1_method_48_code 1 = .ok (.lstore_n 1, 1) := zo_64 (zd_b zq_prog_1_method_48_code_0 1 rfl rfl rfl)
theorem d_Ip_delivered_2 : decode prog_1_method_48_code 2 = .ok (.iconst 0, 1) := zo_3 (zd_b zq_prog_1_method_48_code_0 2 rfl rfl rfl)
theorem d_Ip_delivered_3 : decode prog_1_method_48_code 3 = .ok (.istore_n 3, 1) := zo_62 (zd_b zq_prog_1_method_48_code_0 3 rfl rfl rfl)
theorem d_Ip_delivered_4 : decode prog_1_method_48_code 4 = .ok (.iload_n 3, 1) := zo_29 (zd_b zq_prog_1_method_48_code_0 4 rfl rfl rfl)
theorem d_Ip_delivered_5 : decode prog_1_method_48_code 5 = .ok (.aload_n 0, 1) := zo_42 (zd_b zq_prog_1_method_48_code_0 5 rfl rfl rfl)
theorem d_Ip_delivered_6 : decode prog_1_method_48_code 6 = .ok (.getfield 78, 3) := zo_180 (d := 0) (e := 78) (zd_b zq_prog_1_method_48_code_0 6 rfl rfl rfl) (zd_b zq_prog_1_method_48_code_0 7 rfl rfl rfl) (zd_b zq_prog_1_method_48_code_0 8 rfl rfl rfl)
theorem d_Ip_delivered_9 : decode prog_1_method_48_code 9 = .ok (.invokevirtual 341, 3) := zo_182 (d := 1) (e := 85) (zd_b zq_prog_1_method_48_code_0 9 rfl rfl rfl) (zd_b zq_prog_1_method_48_code_0 10 rfl rfl rfl) (zd_b zq_prog_1_method_48_code_0 11 rfl rfl rfl)
theorem ok_Ip_delivered_AL_size : z_ok M_Ip_delivered M_AL_size 0 := ⟨z_mj2 (i := 172) rfl (by decide +kernel), rfl, ⟨by decide +kernel, by decide +kernel, by decide +kernel⟩, ⟨by decide, by decide⟩, z_mj1 (i := 13) rfl (by decide +kernel), rfl⟩
theorem d_Ip_delivered_12 : decode prog_1_method_48_code 12 = .ok (.if_icmp .ge 42, 3) := zo_162 (d := 0) (e := 42) (zd_b zq_prog_1_method_48_code_0 12 rfl rfl rfl) (zd_b zq_prog_1_method_48_code_0 13 rfl rfl rfl) (zd_b zq_prog_1_method_48_code_0 14 rfl rfl rfl) (by decide +kernel)
theorem d_Ip_delivered_54 : decode prog_1_method_48_code 54 = .ok (.lload_n 1, 1) := zo_31 (zd_b zq_prog_1_method_48_code_1 22 rfl rfl rfl)
theorem d_Ip_delivered_55 : decode prog_1_method_48_code 55 = .ok (.lreturn, 1) := zo_173 (zd_b zq_prog_1_method_48_code_1 23 rfl rfl rfl)
abbrev M_Ip_goodShare : zM := (⟨"Ironpour", "goodShare", "()F"⟩, prog_1_method_49_code, 4, (Option.some FieldType.float), 6, 108, [])
theorem d_Ip_goodShare_0 : decode prog_1_method_49_code 0 = .ok (.lconst 0, 1) := zo_9 (zd_b zq_prog_1_method_49_code_0 0 rfl rfl rfl)
theorem d_Ip_goodShare_1 : decode prog_1_method_49_code 1 = .ok (.lstore_n 1, 1) := zo_64 (zd_b zq_prog_1_method_49_code_0 1 rfl rfl rfl)
theorem d_Ip_goodShare_2 : decode prog_1_method_49_code 2 = .ok (.iconst 0, 1) := zo_3 (zd_b zq_prog_1_method_49_code_0 2 rfl rfl rfl)
theorem d_Ip_goodShare_3 : decode prog_1_method_49_code 3 = .ok (.istore_n 3, 1) := zo_62 (zd_b zq_prog_1_method_49_code_0 3 rfl rfl rfl)
theorem d_Ip_goodShare_4 : decode prog_1_method_49_code 4 = .ok (.iload_n 3, 1) := zo_29 (zd_b zq_prog_1_method_49_code_0 4 rfl rfl rfl)
theorem d_Ip_goodShare_5 : decode prog_1_method_49_code 5 = .ok (.aload_n 0, 1) := zo_42 (zd_b zq_prog_1_method_49_code_0 5 rfl rfl rfl)
theorem d_Ip_goodShare_6 : decode prog_1_method_49_code 6 = .ok (.getfield 78, 3) := zo_180 (d := 0) (e := 78) (zd_b zq_prog_1_method_49_code_0 6 rfl rfl rfl) (zd_b zq_prog_1_method_49_code_0 7 rfl rfl rfl) (zd_b zq_prog_1_method_49_code_0 8 rfl rfl rfl)
theorem d_Ip_goodShare_9 : decode prog_1_method_49_code 9 = .ok (.invokevirtual 341, 3) := zo_182 (d := 1) (e := 85) (zd_b zq_prog_1_method_49_code_0 9 rfl rfl rfl) (zd_b zq_prog_1_method_49_code_0 10 rfl rfl rfl) (zd_b zq_prog_1_method_49_code_0 11 rfl rfl rfl)
theorem ok_Ip_goodShare_AL_size : z_ok M_Ip_goodShare M_AL_size 0 := ⟨z_mj2 (i := 172) rfl (by decide +kernel), rfl, ⟨by decide +kernel, by decide +kernel, by decide +kernel⟩, ⟨by decide, by decide⟩, z_mj1 (i := 13) rfl (by decide +kernel), rfl⟩
theorem d_Ip_goodShare_12 : decode prog_1_method_49_code 12 = .ok (.if_icmp .ge 30, 3) := zo_162 (d := 0) (e := 30) (zd_b zq_prog_1_method_49_code_0 12 rfl rfl rfl) (zd_b zq_prog_1_method_49_code_0 13 rfl rfl rfl) (zd_b zq_prog_1_method_49_code_0 14 rfl rfl rfl) (by decide +kernel)
theorem d_Ip_goodShare_42 : decode prog_1_method_49_code 42 = .ok (.lload_n 1, 1) := zo_31 (zd_b zq_prog_1_method_49_code_1 10 rfl rfl rfl)
theorem d_Ip_goodShare_43 : decode prog_1_method_49_code 43 = .ok (.lconst 0, 1) := zo_9 (zd_b zq_prog_1_method_49_code_1 11 rfl rfl rfl)
theorem d_Ip_goodShare_44 : decode prog_1_method_49_code 44 = .ok (.lcmp, 1) := zo_148 (zd_b zq_prog_1_method_49_code_1 12 rfl rfl rfl)
theorem d_Ip_goodShare_45 : decode prog_1_method_49_code 45 = .ok (.ifCond .ne 14, 3) := zo_154 (d := 0) (e := 14) (zd_b zq_prog_1_method_49_code_1 13 rfl rfl rfl) (zd_b zq_prog_1_method_49_code_1 14 rfl rfl rfl) (zd_b zq_prog_1_method_49_code_1 15 rfl rfl rfl) (by decide +kernel)
theorem d_Ip_goodShare_48 : decode prog_1_method_49_code 48 = .ok (.new 486, 3) := zo_187 (d := 1) (e := 230) (zd_b zq_prog_1_method_49_code_1 16 rfl rfl rfl) (zd_b zq_prog_1_method_49_code_1 17 rfl rfl rfl) (zd_b zq_prog_1_method_49_code_1 18 rfl rfl rfl)
theorem tb_Ip_486_490 : z_tb "Ironpour" 486 490 "java/lang/ArithmeticException" := ⟨by decide +kernel, z_mj7 (i := 63) rfl (by decide +kernel), z_mj1 (i := 37) rfl (by decide +kernel), fun w h => ((z_at [(1, 21), (3, 163), (3, 172), (3, 180), (3, 183), (3, 185), (3, 164), (3, 165), (1, 44), (1, 45), (3, 166), (3, 171), (3, 181), (3, 201), (3, 153), (3, 202), (3, 155), (3, 203), (3, 157), (3, 167), (3, 169), (3, 159), (3, 197), (3, 198), (3, 200), (3, 159), (7, 47), (7, 48), (7, 49), (3, 191), (3, 145), (3, 191), (3, 192), (3, 193), (3, 194), (3, 147), (3, 194), (3, 195), (3, 196), (3, 197), (3, 149), (7, 65), (7, 46), (7, 57), (7, 58), (3, 174), (7, 52), (7, 53), (7, 55), (7, 51), (3, 162), (3, 161), (7, 50)] (by decide +kernel) (by decide +kernel) : ∀ w ∈ vx_atS "Ironpour" 490 "java/lang/ArithmeticException" ["java/lang/RuntimeException", "java/lang/Exception"], w ∈ lw_tbl ∧ (goodWord w || z_isN w) = true) w h).elim (fun h1 h2 => (Bool.or_eq_true _ _ ▸ h2).elim (fun h3 => Or.inl (List.mem_filter.mpr ⟨h1, h3⟩)) (fun h3 => Or.inr (List.mem_filter.mpr ⟨h1, h3⟩))), by decide +kernel⟩
theorem sr_Ip_488 : Cond.stringRef "Ironpour" 488 "nothing was poured" ∈ lw_tbl := z_tb7 (i := 64) rfl
theorem d_Ip_goodShare_51 : decode prog_1_method_49_code 51 = .ok (.dup, 1) := zo_89 (zd_b zq_prog_1_method_49_code_1 19 rfl rfl rfl)
theorem d_Ip_goodShare_52 : decode prog_1_method_49_code 52 = .ok (.ldc_w 488, 3) := zo_19 (d := 1) (e := 232) (zd_b zq_prog_1_method_49_code_1 20 rfl rfl rfl) (zd_b zq_prog_1_method_49_code_1 21 rfl rfl rfl) (zd_b zq_prog_1_method_49_code_1 22 rfl rfl rfl)
theorem d_Ip_goodShare_55 : decode prog_1_method_49_code 55 = .ok (.invokespecial 490, 3) := zo_183 (d := 1) (e := 234) (zd_b zq_prog_1_method_49_code_1 23 rfl rfl rfl) (zd_b zq_prog_1_method_49_code_1 24 rfl rfl rfl) (zd_b zq_prog_1_method_49_code_1 25 rfl rfl rfl)
theorem d_Ip_goodShare_58 : decode prog_1_method_49_code 58 = .ok (.athrow, 1) := zo_191 (zd_b zq_prog_1_method_49_code_1 26 rfl rfl rfl)
abbrev M_Ip_meanBar : zM := (⟨"Ironpour", "meanBar", "()D"⟩, prog_1_method_50_code, 5, (Option.some FieldType.double), 6, 100, [])
theorem d_Ip_meanBar_0 : decode prog_1_method_50_code 0 = .ok (.aload_n 0, 1) := zo_42 (zd_b zq_prog_1_method_50_code_0 0 rfl rfl rfl)
theorem d_Ip_meanBar_1 : decode prog_1_method_50_code 1 = .ok (.getfield 78, 3) := zo_180 (d := 0) (e := 78) (zd_b zq_prog_1_method_50_code_0 1 rfl rfl rfl) (zd_b zq_prog_1_method_50_code_0 2 rfl rfl rfl) (zd_b zq_prog_1_method_50_code_0 3 rfl rfl rfl)
theorem d_Ip_meanBar_4 : decode prog_1_method_50_code 4 = .ok (.invokevirtual 341, 3) := zo_182 (d := 1) (e := 85) (zd_b zq_prog_1_method_50_code_0 4 rfl rfl rfl) (zd_b zq_prog_1_method_50_code_0 5 rfl rfl rfl) (zd_b zq_prog_1_method_50_code_0 6 rfl rfl rfl)
theorem ok_Ip_meanBar_AL_size : z_ok M_Ip_meanBar M_AL_size 0 := ⟨z_mj2 (i := 172) rfl (by decide +kernel), rfl, ⟨by decide +kernel, by decide +kernel, by decide +kernel⟩, ⟨by decide, by decide⟩, z_mj1 (i := 13) rfl (by decide +kernel), rfl⟩
theorem d_Ip_meanBar_7 : decode prog_1_method_50_code 7 = .ok (.istore_n 1, 1) := zo_60 (zd_b zq_prog_1_method_50_code_0 7 rfl rfl rfl)
theorem d_Ip_meanBar_8 : decode prog_1_method_50_code 8 = .ok (.iload_n 1, 1) := zo_27 (zd_b zq_prog_1_method_50_code_0 8 rfl rfl rfl)
theorem d_Ip_meanBar_9 : decode prog_1_method_50_code 9 = .ok (.ifCond .ne 14, 3) := zo_154 (d := 0) (e := 14) (zd_b zq_prog_1_method_50_code_0 9 rfl rfl rfl) (zd_b zq_prog_1_method_50_code_0 10 rfl rfl rfl) (zd_b zq_prog_1_method_50_code_0 11 rfl rfl rfl) (by decide +kernel)
theorem d_Ip_meanBar_12 : decode prog_1_method_50_code 12 = .ok (.new 486, 3) := zo_187 (d := 1) (e := 230) (zd_b zq_prog_1_method_50_code_0 12 rfl rfl rfl) (zd_b zq_prog_1_method_50_code_0 13 rfl rfl rfl) (zd_b zq_prog_1_method_50_code_0 14 rfl rfl rfl)
theorem sr_Ip_495 : Cond.stringRef "Ironpour" 495 "there are no castings" ∈ lw_tbl := z_tb7 (i := 74) rfl
theorem d_Ip_meanBar_15 : decode prog_1_method_50_code 15 = .ok (.dup, 1) := zo_89 (zd_b zq_prog_1_method_50_code_0 15 rfl rfl rfl)
theorem d_Ip_meanBar_16 : decode prog_1_method_50_code 16 = .ok (.ldc_w 495, 3) := zo_19 (d := 1) (e := 239) (zd_b zq_prog_1_method_50_code_0 16 rfl rfl rfl) (zd_b zq_prog_1_method_50_code_0 17 rfl rfl rfl) (zd_b zq_prog_1_method_50_code_0 18 rfl rfl rfl)
theorem d_Ip_meanBar_19 : decode prog_1_method_50_code 19 = .ok (.invokespecial 490, 3) := zo_183 (d := 1) (e := 234) (zd_b zq_prog_1_method_50_code_0 19 rfl rfl rfl) (zd_b zq_prog_1_method_50_code_0 20 rfl rfl rfl) (zd_b zq_prog_1_method_50_code_0 21 rfl rfl rfl)
theorem d_Ip_meanBar_22 : decode prog_1_method_50_code 22 = .ok (.athrow, 1) := zo_191 (zd_b zq_prog_1_method_50_code_0 22 rfl rfl rfl)
abbrev M_Ip_ironBalances : zM := (⟨"Ironpour", "ironBalances", "()Z"⟩, prog_1_method_68_code, 5, (Option.some FieldType.boolean), 4, 84, [])
theorem d_Ip_ironBalances_0 : decode prog_1_method_68_code 0 = .ok (.aload_n 0, 1) := zo_42 (zd_b zq_prog_1_method_68_code_0 0 rfl rfl rfl)
theorem d_Ip_ironBalances_1 : decode prog_1_method_68_code 1 = .ok (.getfield 43, 3) := zo_180 (d := 0) (e := 43) (zd_b zq_prog_1_method_68_code_0 1 rfl rfl rfl) (zd_b zq_prog_1_method_68_code_0 2 rfl rfl rfl) (zd_b zq_prog_1_method_68_code_0 3 rfl rfl rfl)
theorem d_Ip_ironBalances_4 : decode prog_1_method_68_code 4 = .ok (.getfield 277, 3) := zo_180 (d := 1) (e := 21) (zd_b zq_prog_1_method_68_code_0 4 rfl rfl rfl) (zd_b zq_prog_1_method_68_code_0 5 rfl rfl rfl) (zd_b zq_prog_1_method_68_code_0 6 rfl rfl rfl)
theorem d_Ip_ironBalances_7 : decode prog_1_method_68_code 7 = .ok (.getfield 269, 3) := zo_180 (d := 1) (e := 13) (zd_b zq_prog_1_method_68_code_0 7 rfl rfl rfl) (zd_b zq_prog_1_method_68_code_0 8 rfl rfl rfl) (zd_b zq_prog_1_method_68_code_0 9 rfl rfl rfl)
theorem d_Ip_ironBalances_10 : decode prog_1_method_68_code 10 = .ok (.i2l, 1) := zo_133 (zd_b zq_prog_1_method_68_code_0 10 rfl rfl rfl)
theorem d_Ip_ironBalances_11 : decode prog_1_method_68_code 11 = .ok (.aload_n 0, 1) := zo_42 (zd_b zq_prog_1_method_68_code_0 11 rfl rfl rfl)
theorem d_Ip_ironBalances_12 : decode prog_1_method_68_code 12 = .ok (.getfield 50, 3) := zo_180 (d := 0) (e := 50) (zd_b zq_prog_1_method_68_code_0 12 rfl rfl rfl) (zd_b zq_prog_1_method_68_code_0 13 rfl rfl rfl) (zd_b zq_prog_1_method_68_code_0 14 rfl rfl rfl)
theorem d_Ip_ironBalances_15 : decode prog_1_method_68_code 15 = .ok (.getfield 359, 3) := zo_180 (d := 1) (e := 103) (zd_b zq_prog_1_method_68_code_0 15 rfl rfl rfl) (zd_b zq_prog_1_method_68_code_0 16 rfl rfl rfl) (zd_b zq_prog_1_method_68_code_0 17 rfl rfl rfl)
theorem d_Ip_ironBalances_18 : decode prog_1_method_68_code 18 = .ok (.getfield 269, 3) := zo_180 (d := 1) (e := 13) (zd_b zq_prog_1_method_68_code_0 18 rfl rfl rfl) (zd_b zq_prog_1_method_68_code_0 19 rfl rfl rfl) (zd_b zq_prog_1_method_68_code_0 20 rfl rfl rfl)
theorem d_Ip_ironBalances_21 : decode prog_1_method_68_code 21 = .ok (.i2l, 1) := zo_133 (zd_b zq_prog_1_method_68_code_0 21 rfl rfl rfl)
theorem d_Ip_ironBalances_22 : decode prog_1_method_68_code 22 = .ok (.ladd, 1) := zo_97 (zd_b zq_prog_1_method_68_code_0 22 rfl rfl rfl)
theorem d_Ip_ironBalances_23 : decode prog_1_method_68_code 23 = .ok (.aload_n 0, 1) := zo_42 (zd_b zq_prog_1_method_68_code_0 23 rfl rfl rfl)
theorem d_Ip_ironBalances_24 : decode prog_1_method_68_code 24 = .ok (.getfield 57, 3) := zo_180 (d := 0) (e := 57) (zd_b zq_prog_1_method_68_code_0 24 rfl rfl rfl) (zd_b zq_prog_1_method_68_code_0 25 rfl rfl rfl) (zd_b zq_prog_1_method_68_code_0 26 rfl rfl rfl)
theorem d_Ip_ironBalances_27 : decode prog_1_method_68_code 27 = .ok (.getfield 269, 3) := zo_180 (d := 1) (e := 13) (zd_b zq_prog_1_method_68_code_0 27 rfl rfl rfl) (zd_b zq_prog_1_method_68_code_0 28 rfl rfl rfl) (zd_b zq_prog_1_method_68_code_0 29 rfl rfl rfl)
theorem d_Ip_ironBalances_30 : decode prog_1_method_68_code 30 = .ok (.i2l, 1) := zo_133 (zd_b zq_prog_1_method_68_code_0 30 rfl rfl rfl)
theorem d_Ip_ironBalances_31 : decode prog_1_method_68_code 31 = .ok (.ladd, 1) := zo_97 (zd_b zq_prog_1_method_68_code_0 31 rfl rfl rfl)
theorem d_Ip_ironBalances_32 : decode prog_1_method_68_code 32 = .ok (.aload_n 0, 1) := zo_42 (zd_b zq_prog_1_method_68_code_1 0 rfl rfl rfl)
theorem d_Ip_ironBalances_33 : decode prog_1_method_68_code 33 = .ok (.getfield 61, 3) := zo_180 (d := 0) (e := 61) (zd_b zq_prog_1_method_68_code_1 1 rfl rfl rfl) (zd_b zq_prog_1_method_68_code_1 2 rfl rfl rfl) (zd_b zq_prog_1_method_68_code_1 3 rfl rfl rfl)
theorem d_Ip_ironBalances_36 : decode prog_1_method_68_code 36 = .ok (.getfield 269, 3) := zo_180 (d := 1) (e := 13) (zd_b zq_prog_1_method_68_code_1 4 rfl rfl rfl) (zd_b zq_prog_1_method_68_code_1 5 rfl rfl rfl) (zd_b zq_prog_1_method_68_code_1 6 rfl rfl rfl)
theorem d_Ip_ironBalances_39 : decode prog_1_method_68_code 39 = .ok (.i2l, 1) := zo_133 (zd_b zq_prog_1_method_68_code_1 7 rfl rfl rfl)
theorem d_Ip_ironBalances_40 : decode prog_1_method_68_code 40 = .ok (.ladd, 1) := zo_97 (zd_b zq_prog_1_method_68_code_1 8 rfl rfl rfl)
theorem d_Ip_ironBalances_41 : decode prog_1_method_68_code 41 = .ok (.lstore_n 1, 1) := zo_64 (zd_b zq_prog_1_method_68_code_1 9 rfl rfl rfl)
theorem d_Ip_ironBalances_42 : decode prog_1_method_68_code 42 = .ok (.iconst 0, 1) := zo_3 (zd_b zq_prog_1_method_68_code_1 10 rfl rfl rfl)
theorem d_Ip_ironBalances_43 : decode prog_1_method_68_code 43 = .ok (.istore_n 3, 1) := zo_62 (zd_b zq_prog_1_method_68_code_1 11 rfl rfl rfl)
theorem d_Ip_ironBalances_44 : decode prog_1_method_68_code 44 = .ok (.iload_n 3, 1) := zo_29 (zd_b zq_prog_1_method_68_code_1 12 rfl rfl rfl)
theorem d_Ip_ironBalances_45 : decode prog_1_method_68_code 45 = .ok (.aload_n 0, 1) := zo_42 (zd_b zq_prog_1_method_68_code_1 13 rfl rfl rfl)
theorem d_Ip_ironBalances_46 : decode prog_1_method_68_code 46 = .ok (.getfield 78, 3) := zo_180 (d := 0) (e := 78) (zd_b zq_prog_1_method_68_code_1 14 rfl rfl rfl) (zd_b zq_prog_1_method_68_code_1 15 rfl rfl rfl) (zd_b zq_prog_1_method_68_code_1 16 rfl rfl rfl)
theorem d_Ip_ironBalances_49 : decode prog_1_method_68_code 49 = .ok (.invokevirtual 341, 3) := zo_182 (d := 1) (e := 85) (zd_b zq_prog_1_method_68_code_1 17 rfl rfl rfl) (zd_b zq_prog_1_method_68_code_1 18 rfl rfl rfl) (zd_b zq_prog_1_method_68_code_1 19 rfl rfl rfl)
theorem ok_Ip_ironBalances_AL_size : z_ok M_Ip_ironBalances M_AL_size 0 := ⟨z_mj2 (i := 172) rfl (by decide +kernel), rfl, ⟨by decide +kernel, by decide +kernel, by decide +kernel⟩, ⟨by decide, by decide⟩, z_mj1 (i := 13) rfl (by decide +kernel), rfl⟩
theorem d_Ip_ironBalances_52 : decode prog_1_method_68_code 52 = .ok (.if_icmp .ge 42, 3) := zo_162 (d := 0) (e := 42) (zd_b zq_prog_1_method_68_code_1 20 rfl rfl rfl) (zd_b zq_prog_1_method_68_code_1 21 rfl rfl rfl) (zd_b zq_prog_1_method_68_code_1 22 rfl rfl rfl) (by decide +kernel)
theorem d_Ip_ironBalances_94 : decode prog_1_method_68_code 94 = .ok (.lload_n 1, 1) := zo_31 (zd_b zq_prog_1_method_68_code_2 30 rfl rfl rfl)
theorem d_Ip_ironBalances_95 : decode prog_1_method_68_code 95 = .ok (.aload_n 0, 1) := zo_42 (zd_b zq_prog_1_method_68_code_2 31 rfl rfl rfl)
theorem d_Ip_ironBalances_96 : decode prog_1_method_68_code 96 = .ok (.getfield 43, 3) := zo_180 (d := 0) (e := 43) (zd_b zq_prog_1_method_68_code_3 0 rfl rfl rfl) (zd_b zq_prog_1_method_68_code_3 1 rfl rfl rfl) (zd_b zq_prog_1_method_68_code_3 2 rfl rfl rfl)
theorem d_Ip_ironBalances_99 : decode prog_1_method_68_code 99 = .ok (.getfield 560, 3) := zo_180 (d := 2) (e := 48) (zd_b zq_prog_1_method_68_code_3 3 rfl rfl rfl) (zd_b zq_prog_1_method_68_code_3 4 rfl rfl rfl) (zd_b zq_prog_1_method_68_code_3 5 rfl rfl rfl)
theorem fs_Ip_560 : z_fs "Ironpour" 560 3 4 := ⟨R_Fu, "Ironpour$Furnace", F_Fu, 5, rfl, u_Fu, by decide, Or.inr ⟨"Ironpour", z_mk1 (i := 219) rfl (by decide +kernel), rfl⟩⟩
theorem d_Ip_ironBalances_102 : decode prog_1_method_68_code 102 = .ok (.lcmp, 1) := zo_148 (zd_b zq_prog_1_method_68_code_3 6 rfl rfl rfl)
theorem d_Ip_ironBalances_103 : decode prog_1_method_68_code 103 = .ok (.ifCond .ne 7, 3) := zo_154 (d := 0) (e := 7) (zd_b zq_prog_1_method_68_code_3 7 rfl rfl rfl) (zd_b zq_prog_1_method_68_code_3 8 rfl rfl rfl) (zd_b zq_prog_1_method_68_code_3 9 rfl rfl rfl) (by decide +kernel)
theorem d_Ip_ironBalances_106 : decode prog_1_method_68_code 106 = .ok (.iconst 1, 1) := zo_4 (zd_b zq_prog_1_method_68_code_3 10 rfl rfl rfl)
theorem d_Ip_ironBalances_107 : decode prog_1_method_68_code 107 = .ok (.goto 4, 3) := zo_167 (d := 0) (e := 4) (zd_b zq_prog_1_method_68_code_3 11 rfl rfl rfl) (zd_b zq_prog_1_method_68_code_3 12 rfl rfl rfl) (zd_b zq_prog_1_method_68_code_3 13 rfl rfl rfl) (by decide +kernel)
theorem d_Ip_ironBalances_111 : decode prog_1_method_68_code 111 = .ok (.ireturn, 1) := zo_172 (zd_b zq_prog_1_method_68_code_3 15 rfl rfl rfl)
abbrev M_Ip_elementBalances : zM := (⟨"Ironpour", "elementBalances", "(I)Z"⟩, prog_1_method_69_code, 6, (Option.some FieldType.boolean), 4, 84, [])
theorem d_Ip_elementBalances_0 : decode prog_1_method_69_code 0 = .ok (.aload_n 0, 1) := zo_42 (zd_b zq_prog_1_method_69_code_0 0 rfl rfl rfl)
theorem d_Ip_elementBalances_1 : decode prog_1_method_69_code 1 = .ok (.getfield 43, 3) := zo_180 (d := 0) (e := 43) (zd_b zq_prog_1_method_69_code_0 1 rfl rfl rfl) (zd_b zq_prog_1_method_69_code_0 2 rfl rfl rfl) (zd_b zq_prog_1_method_69_code_0 3 rfl rfl rfl)
theorem d_Ip_elementBalances_4 : decode prog_1_method_69_code 4 = .ok (.getfield 277, 3) := zo_180 (d := 1) (e := 21) (zd_b zq_prog_1_method_69_code_0 4 rfl rfl rfl) (zd_b zq_prog_1_method_69_code_0 5 rfl rfl rfl) (zd_b zq_prog_1_method_69_code_0 6 rfl rfl rfl)
theorem d_Ip_elementBalances_7 : decode prog_1_method_69_code 7 = .ok (.getfield 308, 3) := zo_180 (d := 1) (e := 52) (zd_b zq_prog_1_method_69_code_0 7 rfl rfl rfl) (zd_b zq_prog_1_method_69_code_0 8 rfl rfl rfl) (zd_b zq_prog_1_method_69_code_0 9 rfl rfl rfl)
theorem d_Ip_elementBalances_10 : decode prog_1_method_69_code 10 = .ok (.iload_n 1, 1) := zo_27 (zd_b zq_prog_1_method_69_code_0 10 rfl rfl rfl)
theorem d_Ip_elementBalances_11 : decode prog_1_method_69_code 11 = .ok (.laload, 1) := zo_47 (zd_b zq_prog_1_method_69_code_0 11 rfl rfl rfl)
theorem d_Ip_elementBalances_12 : decode prog_1_method_69_code 12 = .ok (.aload_n 0, 1) := zo_42 (zd_b zq_prog_1_method_69_code_0 12 rfl rfl rfl)
theorem d_Ip_elementBalances_13 : decode prog_1_method_69_code 13 = .ok (.getfield 50, 3) := zo_180 (d := 0) (e := 50) (zd_b zq_prog_1_method_69_code_0 13 rfl rfl rfl) (zd_b zq_prog_1_method_69_code_0 14 rfl rfl rfl) (zd_b zq_prog_1_method_69_code_0 15 rfl rfl rfl)
theorem d_Ip_elementBalances_16 : decode prog_1_method_69_code 16 = .ok (.getfield 359, 3) := zo_180 (d := 1) (e := 103) (zd_b zq_prog_1_method_69_code_0 16 rfl rfl rfl) (zd_b zq_prog_1_method_69_code_0 17 rfl rfl rfl) (zd_b zq_prog_1_method_69_code_0 18 rfl rfl rfl)
theorem d_Ip_elementBalances_19 : decode prog_1_method_69_code 19 = .ok (.getfield 308, 3) := zo_180 (d := 1) (e := 52) (zd_b zq_prog_1_method_69_code_0 19 rfl rfl rfl) (zd_b zq_prog_1_method_69_code_0 20 rfl rfl rfl) (zd_b zq_prog_1_method_69_code_0 21 rfl rfl rfl)
theorem d_Ip_elementBalances_22 : decode prog_1_method_69_code 22 = .ok (.iload_n 1, 1) := zo_27 (zd_b zq_prog_1_method_69_code_0 22 rfl rfl rfl)
theorem d_Ip_elementBalances_23 : decode prog_1_method_69_code 23 = .ok (.laload, 1) := zo_47 (zd_b zq_prog_1_method_69_code_0 23 rfl rfl rfl)
theorem d_Ip_elementBalances_24 : decode prog_1_method_69_code 24 = .ok (.ladd, 1) := zo_97 (zd_b zq_prog_1_method_69_code_0 24 rfl rfl rfl)
theorem d_Ip_elementBalances_25 : decode prog_1_method_69_code 25 = .ok (.aload_n 0, 1) := zo_42 (zd_b zq_prog_1_method_69_code_0 25 rfl rfl rfl)
theorem d_Ip_elementBalances_26 : decode prog_1_method_69_code 26 = .ok (.getfield 57, 3) := zo_180 (d := 0) (e := 57) (zd_b zq_prog_1_method_69_code_0 26 rfl rfl rfl) (zd_b zq_prog_1_method_69_code_0 27 rfl rfl rfl) (zd_b zq_prog_1_method_69_code_0 28 rfl rfl rfl)
theorem d_Ip_elementBalances_29 : decode prog_1_method_69_code 29 = .ok (.getfield 308, 3) := zo_180 (d := 1) (e := 52) (zd_b zq_prog_1_method_69_code_0 29 rfl rfl rfl) (zd_b zq_prog_1_method_69_code_0 30 rfl rfl rfl) (zd_b zq_prog_1_method_69_code_0 31 rfl rfl rfl)
theorem d_Ip_elementBalances_32 : decode prog_1_method_69_code 32 = .ok (.iload_n 1, 1) := zo_27 (zd_b zq_prog_1_method_69_code_1 0 rfl rfl rfl)
theorem d_Ip_elementBalances_33 : decode prog_1_method_69_code 33 = .ok (.laload, 1) := zo_47 (zd_b zq_prog_1_method_69_code_1 1 rfl rfl rfl)
theorem d_Ip_elementBalances_34 : decode prog_1_method_69_code 34 = .ok (.ladd, 1) := zo_97 (zd_b zq_prog_1_method_69_code_1 2 rfl rfl rfl)
theorem d_Ip_elementBalances_35 : decode prog_1_method_69_code 35 = .ok (.aload_n 0, 1) := zo_42 (zd_b zq_prog_1_method_69_code_1 3 rfl rfl rfl)
theorem d_Ip_elementBalances_36 : decode prog_1_method_69_code 36 = .ok (.getfield 61, 3) := zo_180 (d := 0) (e := 61) (zd_b zq_prog_1_method_69_code_1 4 rfl rfl rfl) (zd_b zq_prog_1_method_69_code_1 5 rfl rfl rfl) (zd_b zq_prog_1_method_69_code_1 6 rfl rfl rfl)
theorem d_Ip_elementBalances_39 : decode prog_1_method_69_code 39 = .ok (.getfield 308, 3) := zo_180 (d := 1) (e := 52) (zd_b zq_prog_1_method_69_code_1 7 rfl rfl rfl) (zd_b zq_prog_1_method_69_code_1 8 rfl rfl rfl) (zd_b zq_prog_1_method_69_code_1 9 rfl rfl rfl)
theorem d_Ip_elementBalances_42 : decode prog_1_method_69_code 42 = .ok (.iload_n 1, 1) := zo_27 (zd_b zq_prog_1_method_69_code_1 10 rfl rfl rfl)
theorem d_Ip_elementBalances_43 : decode prog_1_method_69_code 43 = .ok (.laload, 1) := zo_47 (zd_b zq_prog_1_method_69_code_1 11 rfl rfl rfl)
theorem d_Ip_elementBalances_44 : decode prog_1_method_69_code 44 = .ok (.ladd, 1) := zo_97 (zd_b zq_prog_1_method_69_code_1 12 rfl rfl rfl)
theorem d_Ip_elementBalances_45 : decode prog_1_method_69_code 45 = .ok (.aload_n 0, 1) := zo_42 (zd_b zq_prog_1_method_69_code_1 13 rfl rfl rfl)
theorem d_Ip_elementBalances_46 : decode prog_1_method_69_code 46 = .ok (.getfield 43, 3) := zo_180 (d := 0) (e := 43) (zd_b zq_prog_1_method_69_code_1 14 rfl rfl rfl) (zd_b zq_prog_1_method_69_code_1 15 rfl rfl rfl) (zd_b zq_prog_1_method_69_code_1 16 rfl rfl rfl)
theorem d_Ip_elementBalances_49 : decode prog_1_method_69_code 49 = .ok (.getfield 564, 3) := zo_180 (d := 2) (e := 52) (zd_b zq_prog_1_method_69_code_1 17 rfl rfl rfl) (zd_b zq_prog_1_method_69_code_1 18 rfl rfl rfl) (zd_b zq_prog_1_method_69_code_1 19 rfl rfl rfl)
theorem fs_Ip_564 : z_fs "Ironpour" 564 3 3 := ⟨R_Fu, "Ironpour$Furnace", F_Fu, 5, rfl, u_Fu, by decide, Or.inr ⟨"Ironpour", z_mk1 (i := 217) rfl (by decide +kernel), rfl⟩⟩
theorem d_Ip_elementBalances_52 : decode prog_1_method_69_code 52 = .ok (.iload_n 1, 1) := zo_27 (zd_b zq_prog_1_method_69_code_1 20 rfl rfl rfl)
theorem d_Ip_elementBalances_53 : decode prog_1_method_69_code 53 = .ok (.laload, 1) := zo_47 (zd_b zq_prog_1_method_69_code_1 21 rfl rfl rfl)
theorem d_Ip_elementBalances_54 : decode prog_1_method_69_code 54 = .ok (.ladd, 1) := zo_97 (zd_b zq_prog_1_method_69_code_1 22 rfl rfl rfl)
theorem d_Ip_elementBalances_55 : decode prog_1_method_69_code 55 = .ok (.lstore_n 2, 1) := zo_65 (zd_b zq_prog_1_method_69_code_1 23 rfl rfl rfl)
theorem d_Ip_elementBalances_56 : decode prog_1_method_69_code 56 = .ok (.iconst 0, 1) := zo_3 (zd_b zq_prog_1_method_69_code_1 24 rfl rfl rfl)
theorem d_Ip_elementBalances_57 : decode prog_1_method_69_code 57 = .ok (.istore 4, 2) := zo_54 (d := 4) (zd_b zq_prog_1_method_69_code_1 25 rfl rfl rfl) (zd_b zq_prog_1_method_69_code_1 26 rfl rfl rfl)
theorem d_Ip_elementBalances_59 : decode prog_1_method_69_code 59 = .ok (.iload 4, 2) := zo_21 (d := 4) (zd_b zq_prog_1_method_69_code_1 27 rfl rfl rfl) (zd_b zq_prog_1_method_69_code_1 28 rfl rfl rfl)
theorem d_Ip_elementBalances_61 : decode prog_1_method_69_code 61 = .ok (.aload_n 0, 1) := zo_42 (zd_b zq_prog_1_method_69_code_1 29 rfl rfl rfl)
theorem d_Ip_elementBalances_62 : decode prog_1_method_69_code 62 = .ok (.getfield 78, 3) := zo_180 (d := 0) (e := 78) (zd_b zq_prog_1_method_69_code_1 30 rfl rfl rfl) (zd_b zq_prog_1_method_69_code_1 31 rfl rfl rfl) (zd_b zq_prog_1_method_69_code_2 0 rfl rfl rfl)
theorem d_Ip_elementBalances_65 : decode prog_1_method_69_code 65 = .ok (.invokevirtual 341, 3) := zo_182 (d := 1) (e := 85) (zd_b zq_prog_1_method_69_code_2 1 rfl rfl rfl) (zd_b zq_prog_1_method_69_code_2 2 rfl rfl rfl) (zd_b zq_prog_1_method_69_code_2 3 rfl rfl rfl)
theorem ok_Ip_elementBalances_AL_size : z_ok M_Ip_elementBalances M_AL_size 0 := ⟨z_mj2 (i := 172) rfl (by decide +kernel), rfl, ⟨by decide +kernel, by decide +kernel, by decide +kernel⟩, ⟨by decide, by decide⟩, z_mj1 (i := 13) rfl (by decide +kernel), rfl⟩
theorem d_Ip_elementBalances_68 : decode prog_1_method_69_code 68 = .ok (.if_icmp .ge 44, 3) := zo_162 (d := 0) (e := 44) (zd_b zq_prog_1_method_69_code_2 4 rfl rfl rfl) (zd_b zq_prog_1_method_69_code_2 5 rfl rfl rfl) (zd_b zq_prog_1_method_69_code_2 6 rfl rfl rfl) (by decide +kernel)
theorem d_Ip_elementBalances_112 : decode prog_1_method_69_code 112 = .ok (.lload_n 2, 1) := zo_32 (zd_b zq_prog_1_method_69_code_3 16 rfl rfl rfl)
theorem d_Ip_elementBalances_113 : decode prog_1_method_69_code 113 = .ok (.ldc2_w 567, 3) := zo_20 (d := 2) (e := 55) (zd_b zq_prog_1_method_69_code_3 17 rfl rfl rfl) (zd_b zq_prog_1_method_69_code_3 18 rfl rfl rfl) (zd_b zq_prog_1_method_69_code_3 19 rfl rfl rfl)
theorem ct_Ip_567 : Cond.constantLong "Ironpour" 567 10 ∈ z_gw := z_mj2 (i := 204) rfl (by decide +kernel)
theorem d_Ip_elementBalances_116 : decode prog_1_method_69_code 116 = .ok (.lmul, 1) := zo_105 (zd_b zq_prog_1_method_69_code_3 20 rfl rfl rfl)
theorem d_Ip_elementBalances_117 : decode prog_1_method_69_code 117 = .ok (.aload_n 0, 1) := zo_42 (zd_b zq_prog_1_method_69_code_3 21 rfl rfl rfl)
theorem d_Ip_elementBalances_118 : decode prog_1_method_69_code 118 = .ok (.getfield 43, 3) := zo_180 (d := 0) (e := 43) (zd_b zq_prog_1_method_69_code_3 22 rfl rfl rfl) (zd_b zq_prog_1_method_69_code_3 23 rfl rfl rfl) (zd_b zq_prog_1_method_69_code_3 24 rfl rfl rfl)
theorem d_Ip_elementBalances_121 : decode prog_1_method_69_code 121 = .ok (.getfield 569, 3) := zo_180 (d := 2) (e := 57) (zd_b zq_prog_1_method_69_code_3 25 rfl rfl rfl) (zd_b zq_prog_1_method_69_code_3 26 rfl rfl rfl) (zd_b zq_prog_1_method_69_code_3 27 rfl rfl rfl)
theorem fs_Ip_569 : z_fs "Ironpour" 569 3 2 := ⟨R_Fu, "Ironpour$Furnace", F_Fu, 5, rfl, u_Fu, by decide, Or.inr ⟨"Ironpour", z_mk1 (i := 215) rfl (by decide +kernel), rfl⟩⟩
theorem d_Ip_elementBalances_124 : decode prog_1_method_69_code 124 = .ok (.iload_n 1, 1) := zo_27 (zd_b zq_prog_1_method_69_code_3 28 rfl rfl rfl)
theorem d_Ip_elementBalances_125 : decode prog_1_method_69_code 125 = .ok (.laload, 1) := zo_47 (zd_b zq_prog_1_method_69_code_3 29 rfl rfl rfl)
theorem d_Ip_elementBalances_126 : decode prog_1_method_69_code 126 = .ok (.ladd, 1) := zo_97 (zd_b zq_prog_1_method_69_code_3 30 rfl rfl rfl)
theorem d_Ip_elementBalances_127 : decode prog_1_method_69_code 127 = .ok (.aload_n 0, 1) := zo_42 (zd_b zq_prog_1_method_69_code_3 31 rfl rfl rfl)
theorem d_Ip_elementBalances_128 : decode prog_1_method_69_code 128 = .ok (.getfield 43, 3) := zo_180 (d := 0) (e := 43) (zd_b zq_prog_1_method_69_code_4 0 rfl rfl rfl) (zd_b zq_prog_1_method_69_code_4 1 rfl rfl rfl) (zd_b zq_prog_1_method_69_code_4 2 rfl rfl rfl)
theorem d_Ip_elementBalances_131 : decode prog_1_method_69_code 131 = .ok (.getfield 572, 3) := zo_180 (d := 2) (e := 60) (zd_b zq_prog_1_method_69_code_4 3 rfl rfl rfl) (zd_b zq_prog_1_method_69_code_4 4 rfl rfl rfl) (zd_b zq_prog_1_method_69_code_4 5 rfl rfl rfl)
theorem fs_Ip_572 : z_fs "Ironpour" 572 3 1 := ⟨R_Fu, "Ironpour$Furnace", F_Fu, 5, rfl, u_Fu, by decide, Or.inr ⟨"Ironpour", z_mk1 (i := 213) rfl (by decide +kernel), rfl⟩⟩
theorem d_Ip_elementBalances_134 : decode prog_1_method_69_code 134 = .ok (.iload_n 1, 1) := zo_27 (zd_b zq_prog_1_method_69_code_4 6 rfl rfl rfl)
theorem d_Ip_elementBalances_135 : decode prog_1_method_69_code 135 = .ok (.laload, 1) := zo_47 (zd_b zq_prog_1_method_69_code_4 7 rfl rfl rfl)
theorem d_Ip_elementBalances_136 : decode prog_1_method_69_code 136 = .ok (.lcmp, 1) := zo_148 (zd_b zq_prog_1_method_69_code_4 8 rfl rfl rfl)
theorem d_Ip_elementBalances_137 : decode prog_1_method_69_code 137 = .ok (.ifCond .ne 7, 3) := zo_154 (d := 0) (e := 7) (zd_b zq_prog_1_method_69_code_4 9 rfl rfl rfl) (zd_b zq_prog_1_method_69_code_4 10 rfl rfl rfl) (zd_b zq_prog_1_method_69_code_4 11 rfl rfl rfl) (by decide +kernel)
theorem d_Ip_elementBalances_140 : decode prog_1_method_69_code 140 = .ok (.iconst 1, 1) := zo_4 (zd_b zq_prog_1_method_69_code_4 12 rfl rfl rfl)
theorem d_Ip_elementBalances_141 : decode prog_1_method_69_code 141 = .ok (.goto 4, 3) := zo_167 (d := 0) (e := 4) (zd_b zq_prog_1_method_69_code_4 13 rfl rfl rfl) (zd_b zq_prog_1_method_69_code_4 14 rfl rfl rfl) (zd_b zq_prog_1_method_69_code_4 15 rfl rfl rfl) (by decide +kernel)
theorem d_Ip_elementBalances_145 : decode prog_1_method_69_code 145 = .ok (.ireturn, 1) := zo_172 (zd_b zq_prog_1_method_69_code_4 17 rfl rfl rfl)
abbrev M_Ip_isSound : zM := (⟨"Ironpour", "isSound", "()Z"⟩, prog_1_method_51_code, 2, (Option.some FieldType.boolean), 6, 136, [])
theorem d_Ip_isSound_11 : decode prog_1_method_51_code 11 = .ok (.iload_n 1, 1) := zo_27 (zd_b zq_prog_1_method_51_code_0 11 rfl rfl rfl)
theorem d_Ip_isSound_12 : decode prog_1_method_51_code 12 = .ok (.iconst 4, 1) := zo_7 (zd_b zq_prog_1_method_51_code_0 12 rfl rfl rfl)
theorem d_Ip_isSound_13 : decode prog_1_method_51_code 13 = .ok (.if_icmp .ge 19, 3) := zo_162 (d := 0) (e := 19) (zd_b zq_prog_1_method_51_code_0 13 rfl rfl rfl) (zd_b zq_prog_1_method_51_code_0 14 rfl rfl rfl) (zd_b zq_prog_1_method_51_code_0 15 rfl rfl rfl) (by decide +kernel)
theorem d_Ip_isSound_32 : decode prog_1_method_51_code 32 = .ok (.aload_n 0, 1) := zo_42 (zd_b zq_prog_1_method_51_code_1 0 rfl rfl rfl)
theorem d_Ip_isSound_33 : decode prog_1_method_51_code 33 = .ok (.getfield 19, 3) := zo_180 (d := 0) (e := 19) (zd_b zq_prog_1_method_51_code_1 1 rfl rfl rfl) (zd_b zq_prog_1_method_51_code_1 2 rfl rfl rfl) (zd_b zq_prog_1_method_51_code_1 3 rfl rfl rfl)
theorem d_Ip_isSound_36 : decode prog_1_method_51_code 36 = .ok (.sipush 1450, 3) := zo_17 (d := 5) (e := 170) (zd_b zq_prog_1_method_51_code_1 4 rfl rfl rfl) (zd_b zq_prog_1_method_51_code_1 5 rfl rfl rfl) (zd_b zq_prog_1_method_51_code_1 6 rfl rfl rfl) (by decide +kernel)
theorem d_Ip_isSound_39 : decode prog_1_method_51_code 39 = .ok (.invokevirtual 162, 3) := zo_182 (d := 0) (e := 162) (zd_b zq_prog_1_method_51_code_1 7 rfl rfl rfl) (zd_b zq_prog_1_method_51_code_1 8 rfl rfl rfl) (zd_b zq_prog_1_method_51_code_1 9 rfl rfl rfl)
theorem ok_Ip_isSound_Tr_freeze : z_ok M_Ip_isSound M_Tr_freeze 1 := ⟨z_mj2 (i := 208) rfl (by decide +kernel), rfl, ⟨by decide +kernel, by decide +kernel, by decide +kernel⟩, ⟨by decide, by decide⟩, z_mj1 (i := 3) rfl (by decide +kernel), rfl⟩
theorem d_Ip_isSound_42 : decode prog_1_method_51_code 42 = .ok (.aload_n 0, 1) := zo_42 (zd_b zq_prog_1_method_51_code_1 10 rfl rfl rfl)
theorem d_Ip_isSound_43 : decode prog_1_method_51_code 43 = .ok (.getfield 19, 3) := zo_180 (d := 0) (e := 19) (zd_b zq_prog_1_method_51_code_1 11 rfl rfl rfl) (zd_b zq_prog_1_method_51_code_1 12 rfl rfl rfl) (zd_b zq_prog_1_method_51_code_1 13 rfl rfl rfl)
theorem d_Ip_isSound_46 : decode prog_1_method_51_code 46 = .ok (.invokevirtual 503, 3) := zo_182 (d := 1) (e := 247) (zd_b zq_prog_1_method_51_code_1 14 rfl rfl rfl) (zd_b zq_prog_1_method_51_code_1 15 rfl rfl rfl) (zd_b zq_prog_1_method_51_code_1 16 rfl rfl rfl)
theorem ok_Ip_isSound_Tr_isFilledInOrder : z_ok M_Ip_isSound M_Tr_isFilledInOrder 0 := ⟨z_mj3 (i := 33) rfl (by decide +kernel), rfl, ⟨by decide +kernel, by decide +kernel, by decide +kernel⟩, ⟨by decide, by decide⟩, z_mj1 (i := 3) rfl (by decide +kernel), rfl⟩
theorem ln_Ip_503 : Cond.methodLink "Ironpour" 503 M_Tr_isFilledInOrder.1 ∈ z_gw := z_mj3 (i := 30) rfl (by decide +kernel)
theorem w_im_Tr_isFilledInOrder : Cond.instanceMethod M_Tr_isFilledInOrder.1 ∈ z_gw := z_mj3 (i := 31) rfl (by decide +kernel)
theorem w_se_Tr_isFilledInOrder : Cond.selects M_Tr_isFilledInOrder.1.cls M_Tr_isFilledInOrder.1 M_Tr_isFilledInOrder.1 ∈ z_gw := z_mj3 (i := 32) rfl (by decide +kernel)
theorem d_Ip_isSound_49 : decode prog_1_method_51_code 49 = .ok (.ifCond .eq 17, 3) := zo_153 (d := 0) (e := 17) (zd_b zq_prog_1_method_51_code_1 17 rfl rfl rfl) (zd_b zq_prog_1_method_51_code_1 18 rfl rfl rfl) (zd_b zq_prog_1_method_51_code_1 19 rfl rfl rfl) (by decide +kernel)
theorem d_Ip_isSound_52 : decode prog_1_method_51_code 52 = .ok (.aload_n 0, 1) := zo_42 (zd_b zq_prog_1_method_51_code_1 20 rfl rfl rfl)
theorem d_Ip_isSound_53 : decode prog_1_method_51_code 53 = .ok (.getfield 19, 3) := zo_180 (d := 0) (e := 19) (zd_b zq_prog_1_method_51_code_1 21 rfl rfl rfl) (zd_b zq_prog_1_method_51_code_1 22 rfl rfl rfl) (zd_b zq_prog_1_method_51_code_1 23 rfl rfl rfl)
theorem d_Ip_isSound_56 : decode prog_1_method_51_code 56 = .ok (.invokevirtual 506, 3) := zo_182 (d := 1) (e := 250) (zd_b zq_prog_1_method_51_code_1 24 rfl rfl rfl) (zd_b zq_prog_1_method_51_code_1 25 rfl rfl rfl) (zd_b zq_prog_1_method_51_code_1 26 rfl rfl rfl)
theorem ok_Ip_isSound_Tr_areFedOnesReached : z_ok M_Ip_isSound M_Tr_areFedOnesReached 0 := ⟨z_mj3 (i := 37) rfl (by decide +kernel), rfl, ⟨by decide +kernel, by decide +kernel, by decide +kernel⟩, ⟨by decide, by decide⟩, z_mj1 (i := 3) rfl (by decide +kernel), rfl⟩
theorem ln_Ip_506 : Cond.methodLink "Ironpour" 506 M_Tr_areFedOnesReached.1 ∈ z_gw := z_mj3 (i := 34) rfl (by decide +kernel)
theorem w_im_Tr_areFedOnesReached : Cond.instanceMethod M_Tr_areFedOnesReached.1 ∈ z_gw := z_mj3 (i := 35) rfl (by decide +kernel)
theorem w_se_Tr_areFedOnesReached : Cond.selects M_Tr_areFedOnesReached.1.cls M_Tr_areFedOnesReached.1 M_Tr_areFedOnesReached.1 ∈ z_gw := z_mj3 (i := 36) rfl (by decide +kernel)
theorem d_Ip_isSound_59 : decode prog_1_method_51_code 59 = .ok (.ifCond .eq 7, 3) := zo_153 (d := 0) (e := 7) (zd_b zq_prog_1_method_51_code_1 27 rfl rfl rfl) (zd_b zq_prog_1_method_51_code_1 28 rfl rfl rfl) (zd_b zq_prog_1_method_51_code_1 29 rfl rfl rfl) (by decide +kernel)
theorem d_Ip_isSound_62 : decode prog_1_method_51_code 62 = .ok (.iconst 1, 1) := zo_4 (zd_b zq_prog_1_method_51_code_1 30 rfl rfl rfl)
theorem d_Ip_isSound_63 : decode prog_1_method_51_code 63 = .ok (.goto 4, 3) := zo_167 (d := 0) (e := 4) (zd_b zq_prog_1_method_51_code_1 31 rfl rfl rfl) (zd_b zq_prog_1_method_51_code_2 0 rfl rfl rfl) (zd_b zq_prog_1_method_51_code_2 1 rfl rfl rfl) (by decide +kernel)
theorem d_Ip_isSound_67 : decode prog_1_method_51_code 67 = .ok (.ireturn, 1) := zo_172 (zd_b zq_prog_1_method_51_code_2 3 rfl rfl rfl)
theorem d_Ip_isSound_16 : decode prog_1_method_51_code 16 = .ok (.aload_n 0, 1) := zo_42 (zd_b zq_prog_1_method_51_code_0 16 rfl rfl rfl)
theorem d_Ip_isSound_17 : decode prog_1_method_51_code 17 = .ok (.iload_n 1, 1) := zo_27 (zd_b zq_prog_1_method_51_code_0 17 rfl rfl rfl)
theorem d_Ip_isSound_18 : decode prog_1_method_51_code 18 = .ok (.invokevirtual 500, 3) := zo_182 (d := 1) (e := 244) (zd_b zq_prog_1_method_51_code_0 18 rfl rfl rfl) (zd_b zq_prog_1_method_51_code_0 19 rfl rfl rfl) (zd_b zq_prog_1_method_51_code_0 20 rfl rfl rfl)
theorem ok_Ip_isSound_Ip_elementBalances : z_ok M_Ip_isSound M_Ip_elementBalances 1 := ⟨z_mj2 (i := 203) rfl (by decide +kernel), rfl, ⟨by decide +kernel, by decide +kernel, by decide +kernel⟩, ⟨by decide, by decide⟩, z_mj1 (i := 1) rfl (by decide +kernel), rfl⟩
theorem ln_Ip_500 : Cond.methodLink "Ironpour" 500 M_Ip_elementBalances.1 ∈ z_gw := z_mj2 (i := 200) rfl (by decide +kernel)
theorem w_im_Ip_elementBalances : Cond.instanceMethod M_Ip_elementBalances.1 ∈ z_gw := z_mj2 (i := 202) rfl (by decide +kernel)
theorem w_se_Ip_elementBalances : Cond.selects M_Ip_elementBalances.1.cls M_Ip_elementBalances.1 M_Ip_elementBalances.1 ∈ z_gw := z_mem (i := 5) (by decide +kernel) (by decide +kernel)
theorem d_Ip_isSound_21 : decode prog_1_method_51_code 21 = .ok (.ifCond .ne 5, 3) := zo_154 (d := 0) (e := 5) (zd_b zq_prog_1_method_51_code_0 21 rfl rfl rfl) (zd_b zq_prog_1_method_51_code_0 22 rfl rfl rfl) (zd_b zq_prog_1_method_51_code_0 23 rfl rfl rfl) (by decide +kernel)
theorem d_Ip_isSound_26 : decode prog_1_method_51_code 26 = .ok (.iinc 1 1, 3) := by decide +kernel
theorem d_Ip_isSound_29 : decode prog_1_method_51_code 29 = .ok (.goto (-18), 3) := zo_167 (d := 255) (e := 238) (zd_b zq_prog_1_method_51_code_0 29 rfl rfl rfl) (zd_b zq_prog_1_method_51_code_0 30 rfl rfl rfl) (zd_b zq_prog_1_method_51_code_0 31 rfl rfl rfl) (by decide +kernel)
theorem d_Ip_isSound_0 : decode prog_1_method_51_code 0 = .ok (.aload_n 0, 1) := zo_42 (zd_b zq_prog_1_method_51_code_0 0 rfl rfl rfl)
theorem d_Ip_isSound_1 : decode prog_1_method_51_code 1 = .ok (.invokevirtual 497, 3) := zo_182 (d := 1) (e := 241) (zd_b zq_prog_1_method_51_code_0 1 rfl rfl rfl) (zd_b zq_prog_1_method_51_code_0 2 rfl rfl rfl) (zd_b zq_prog_1_method_51_code_0 3 rfl rfl rfl)
theorem ok_Ip_isSound_Ip_ironBalances : z_ok M_Ip_isSound M_Ip_ironBalances 0 := ⟨z_mj2 (i := 199) rfl (by decide +kernel), rfl, ⟨by decide +kernel, by decide +kernel, by decide +kernel⟩, ⟨by decide, by decide⟩, z_mj1 (i := 1) rfl (by decide +kernel), rfl⟩
theorem ln_Ip_497 : Cond.methodLink "Ironpour" 497 M_Ip_ironBalances.1 ∈ z_gw := z_mj2 (i := 196) rfl (by decide +kernel)
theorem w_im_Ip_ironBalances : Cond.instanceMethod M_Ip_ironBalances.1 ∈ z_gw := z_mj2 (i := 198) rfl (by decide +kernel)
theorem w_se_Ip_ironBalances : Cond.selects M_Ip_ironBalances.1.cls M_Ip_ironBalances.1 M_Ip_ironBalances.1 ∈ z_gw := z_mem (i := 4) (by decide +kernel) (by decide +kernel)
theorem d_Ip_isSound_4 : decode prog_1_method_51_code 4 = .ok (.ifCond .ne 5, 3) := zo_154 (d := 0) (e := 5) (zd_b zq_prog_1_method_51_code_0 4 rfl rfl rfl) (zd_b zq_prog_1_method_51_code_0 5 rfl rfl rfl) (zd_b zq_prog_1_method_51_code_0 6 rfl rfl rfl) (by decide +kernel)
theorem d_Ip_isSound_9 : decode prog_1_method_51_code 9 = .ok (.iconst 0, 1) := zo_3 (zd_b zq_prog_1_method_51_code_0 9 rfl rfl rfl)
theorem d_Ip_isSound_10 : decode prog_1_method_51_code 10 = .ok (.istore_n 1, 1) := zo_60 (zd_b zq_prog_1_method_51_code_0 10 rfl rfl rfl)
abbrev M_Ip_placeOfBestFeeder : zM := (⟨"Ironpour", "placeOfBestFeeder", "(II)I"⟩, prog_1_method_63_code, 7, (Option.some FieldType.int), 6, 136, [])
theorem d_Ip_placeOfBestFeeder_0 : decode prog_1_method_63_code 0 = .ok (.iload_n 2, 1) := zo_28 (zd_b zq_prog_1_method_63_code_0 0 rfl rfl rfl)
theorem d_Ip_placeOfBestFeeder_1 : decode prog_1_method_63_code 1 = .ok (.istore_n 3, 1) := zo_62 (zd_b zq_prog_1_method_63_code_0 1 rfl rfl rfl)
theorem d_Ip_placeOfBestFeeder_2 : decode prog_1_method_63_code 2 = .ok (.iconst (-1), 1) := zo_2 (zd_b zq_prog_1_method_63_code_0 2 rfl rfl rfl)
theorem d_Ip_placeOfBestFeeder_3 : decode prog_1_method_63_code 3 = .ok (.istore 4, 2) := zo_54 (d := 4) (zd_b zq_prog_1_method_63_code_0 3 rfl rfl rfl) (zd_b zq_prog_1_method_63_code_0 4 rfl rfl rfl)
theorem d_Ip_placeOfBestFeeder_5 : decode prog_1_method_63_code 5 = .ok (.iconst 0, 1) := zo_3 (zd_b zq_prog_1_method_63_code_0 5 rfl rfl rfl)
theorem d_Ip_placeOfBestFeeder_6 : decode prog_1_method_63_code 6 = .ok (.istore 5, 2) := zo_54 (d := 5) (zd_b zq_prog_1_method_63_code_0 6 rfl rfl rfl) (zd_b zq_prog_1_method_63_code_0 7 rfl rfl rfl)
theorem d_Ip_placeOfBestFeeder_8 : decode prog_1_method_63_code 8 = .ok (.iload 5, 2) := zo_21 (d := 5) (zd_b zq_prog_1_method_63_code_0 8 rfl rfl rfl) (zd_b zq_prog_1_method_63_code_0 9 rfl rfl rfl)
theorem d_Ip_placeOfBestFeeder_10 : decode prog_1_method_63_code 10 = .ok (.bipush 108, 2) := zo_16 (d := 108) (zd_b zq_prog_1_method_63_code_0 10 rfl rfl rfl) (zd_b zq_prog_1_method_63_code_0 11 rfl rfl rfl) (by decide +kernel)
theorem d_Ip_placeOfBestFeeder_12 : decode prog_1_method_63_code 12 = .ok (.if_icmp .ge 104, 3) := zo_162 (d := 0) (e := 104) (zd_b zq_prog_1_method_63_code_0 12 rfl rfl rfl) (zd_b zq_prog_1_method_63_code_0 13 rfl rfl rfl) (zd_b zq_prog_1_method_63_code_0 14 rfl rfl rfl) (by decide +kernel)
theorem d_Ip_placeOfBestFeeder_15 : decode prog_1_method_63_code 15 = .ok (.iload_n 3, 1) := zo_29 (zd_b zq_prog_1_method_63_code_0 15 rfl rfl rfl)
theorem d_Ip_placeOfBestFeeder_16 : decode prog_1_method_63_code 16 = .ok (.ifCond .le 100, 3) := zo_158 (d := 0) (e := 100) (zd_b zq_prog_1_method_63_code_0 16 rfl rfl rfl) (zd_b zq_prog_1_method_63_code_0 17 rfl rfl rfl) (zd_b zq_prog_1_method_63_code_0 18 rfl rfl rfl) (by decide +kernel)
theorem d_Ip_placeOfBestFeeder_116 : decode prog_1_method_63_code 116 = .ok (.iload 4, 2) := zo_21 (d := 4) (zd_b zq_prog_1_method_63_code_3 20 rfl rfl rfl) (zd_b zq_prog_1_method_63_code_3 21 rfl rfl rfl)
theorem d_Ip_placeOfBestFeeder_118 : decode prog_1_method_63_code 118 = .ok (.ireturn, 1) := zo_172 (zd_b zq_prog_1_method_63_code_3 22 rfl rfl rfl)
abbrev M_Ip_bestFeeder : zM := (⟨"Ironpour", "bestFeeder", "(I)I"⟩, prog_1_method_17_code, 3, (Option.some FieldType.int), 7, 162, [])
theorem d_Ip_bestFeeder_0 : decode prog_1_method_17_code 0 = .ok (.iload_n 1, 1) := zo_27 (zd_b zq_prog_1_method_17_code_0 0 rfl rfl rfl)
theorem d_Ip_bestFeeder_1 : decode prog_1_method_17_code 1 = .ok (.invokestatic 158, 3) := zo_184 (d := 0) (e := 158) (zd_b zq_prog_1_method_17_code_0 1 rfl rfl rfl) (zd_b zq_prog_1_method_17_code_0 2 rfl rfl rfl) (zd_b zq_prog_1_method_17_code_0 3 rfl rfl rfl)
theorem ok_Ip_bestFeeder_Ip_checkHeat : z_ok M_Ip_bestFeeder M_Ip_checkHeat 1 := ⟨z_mj4 (i := 94) rfl (by decide +kernel), rfl, ⟨by decide +kernel, by decide +kernel, by decide +kernel⟩, ⟨by decide, by decide⟩, z_mj1 (i := 1) rfl (by decide +kernel), rfl⟩
theorem d_Ip_bestFeeder_4 : decode prog_1_method_17_code 4 = .ok (.aload_n 0, 1) := zo_42 (zd_b zq_prog_1_method_17_code_0 4 rfl rfl rfl)
theorem d_Ip_bestFeeder_5 : decode prog_1_method_17_code 5 = .ok (.getfield 19, 3) := zo_180 (d := 0) (e := 19) (zd_b zq_prog_1_method_17_code_0 5 rfl rfl rfl) (zd_b zq_prog_1_method_17_code_0 6 rfl rfl rfl) (zd_b zq_prog_1_method_17_code_0 7 rfl rfl rfl)
theorem d_Ip_bestFeeder_8 : decode prog_1_method_17_code 8 = .ok (.iload_n 1, 1) := zo_27 (zd_b zq_prog_1_method_17_code_0 8 rfl rfl rfl)
theorem d_Ip_bestFeeder_9 : decode prog_1_method_17_code 9 = .ok (.invokevirtual 162, 3) := zo_182 (d := 0) (e := 162) (zd_b zq_prog_1_method_17_code_0 9 rfl rfl rfl) (zd_b zq_prog_1_method_17_code_0 10 rfl rfl rfl) (zd_b zq_prog_1_method_17_code_0 11 rfl rfl rfl)
theorem ok_Ip_bestFeeder_Tr_freeze : z_ok M_Ip_bestFeeder M_Tr_freeze 1 := ⟨z_mj2 (i := 208) rfl (by decide +kernel), rfl, ⟨by decide +kernel, by decide +kernel, by decide +kernel⟩, ⟨by decide, by decide⟩, z_mj1 (i := 3) rfl (by decide +kernel), rfl⟩
theorem d_Ip_bestFeeder_12 : decode prog_1_method_17_code 12 = .ok (.aload_n 0, 1) := zo_42 (zd_b zq_prog_1_method_17_code_0 12 rfl rfl rfl)
theorem d_Ip_bestFeeder_13 : decode prog_1_method_17_code 13 = .ok (.iload_n 1, 1) := zo_27 (zd_b zq_prog_1_method_17_code_0 13 rfl rfl rfl)
theorem d_Ip_bestFeeder_14 : decode prog_1_method_17_code 14 = .ok (.aload_n 0, 1) := zo_42 (zd_b zq_prog_1_method_17_code_0 14 rfl rfl rfl)
theorem d_Ip_bestFeeder_15 : decode prog_1_method_17_code 15 = .ok (.getfield 19, 3) := zo_180 (d := 0) (e := 19) (zd_b zq_prog_1_method_17_code_0 15 rfl rfl rfl) (zd_b zq_prog_1_method_17_code_0 16 rfl rfl rfl) (zd_b zq_prog_1_method_17_code_0 17 rfl rfl rfl)
theorem d_Ip_bestFeeder_18 : decode prog_1_method_17_code 18 = .ok (.invokevirtual 187, 3) := zo_182 (d := 0) (e := 187) (zd_b zq_prog_1_method_17_code_0 18 rfl rfl rfl) (zd_b zq_prog_1_method_17_code_0 19 rfl rfl rfl) (zd_b zq_prog_1_method_17_code_0 20 rfl rfl rfl)
theorem ok_Ip_bestFeeder_Tr_shrunkCells : z_ok M_Ip_bestFeeder M_Tr_shrunkCells 0 := ⟨z_mj4 (i := 128) rfl (by decide +kernel), rfl, ⟨by decide +kernel, by decide +kernel, by decide +kernel⟩, ⟨by decide, by decide⟩, z_mj1 (i := 3) rfl (by decide +kernel), rfl⟩
theorem d_Ip_bestFeeder_21 : decode prog_1_method_17_code 21 = .ok (.invokevirtual 198, 3) := zo_182 (d := 0) (e := 198) (zd_b zq_prog_1_method_17_code_0 21 rfl rfl rfl) (zd_b zq_prog_1_method_17_code_0 22 rfl rfl rfl) (zd_b zq_prog_1_method_17_code_0 23 rfl rfl rfl)
theorem ok_Ip_bestFeeder_Ip_placeOfBestFeeder : z_ok M_Ip_bestFeeder M_Ip_placeOfBestFeeder 2 := ⟨z_mj4 (i := 162) rfl (by decide +kernel), rfl, ⟨by decide +kernel, by decide +kernel, by decide +kernel⟩, ⟨by decide, by decide⟩, z_mj1 (i := 1) rfl (by decide +kernel), rfl⟩
theorem ln_Ip_198 : Cond.methodLink "Ironpour" 198 M_Ip_placeOfBestFeeder.1 ∈ z_gw := z_mj4 (i := 159) rfl (by decide +kernel)
theorem w_im_Ip_placeOfBestFeeder : Cond.instanceMethod M_Ip_placeOfBestFeeder.1 ∈ z_gw := z_mj4 (i := 161) rfl (by decide +kernel)
theorem w_se_Ip_placeOfBestFeeder : Cond.selects M_Ip_placeOfBestFeeder.1.cls M_Ip_placeOfBestFeeder.1 M_Ip_placeOfBestFeeder.1 ∈ z_gw := z_mem (i := 18) (by decide +kernel) (by decide +kernel)
theorem d_Ip_bestFeeder_24 : decode prog_1_method_17_code 24 = .ok (.istore_n 2, 1) := zo_61 (zd_b zq_prog_1_method_17_code_0 24 rfl rfl rfl)
theorem d_Ip_bestFeeder_25 : decode prog_1_method_17_code 25 = .ok (.iload_n 2, 1) := zo_28 (zd_b zq_prog_1_method_17_code_0 25 rfl rfl rfl)
theorem d_Ip_bestFeeder_26 : decode prog_1_method_17_code 26 = .ok (.ifCond .ge 13, 3) := zo_156 (d := 0) (e := 13) (zd_b zq_prog_1_method_17_code_0 26 rfl rfl rfl) (zd_b zq_prog_1_method_17_code_0 27 rfl rfl rfl) (zd_b zq_prog_1_method_17_code_0 28 rfl rfl rfl) (by decide +kernel)
theorem d_Ip_bestFeeder_29 : decode prog_1_method_17_code 29 = .ok (.new 150, 3) := zo_187 (d := 0) (e := 150) (zd_b zq_prog_1_method_17_code_0 29 rfl rfl rfl) (zd_b zq_prog_1_method_17_code_0 30 rfl rfl rfl) (zd_b zq_prog_1_method_17_code_0 31 rfl rfl rfl)
theorem sr_Ip_201 : Cond.stringRef "Ironpour" 201 "no feeder leaves fewer cells shrunk" ∈ lw_tbl := z_tb4 (i := 167) rfl
theorem d_Ip_bestFeeder_32 : decode prog_1_method_17_code 32 = .ok (.dup, 1) := zo_89 (zd_b zq_prog_1_method_17_code_1 0 rfl rfl rfl)
theorem d_Ip_bestFeeder_33 : decode prog_1_method_17_code 33 = .ok (.ldc 201, 2) := zo_18 (d := 201) (zd_b zq_prog_1_method_17_code_1 1 rfl rfl rfl) (zd_b zq_prog_1_method_17_code_1 2 rfl rfl rfl)
theorem d_Ip_bestFeeder_35 : decode prog_1_method_17_code 35 = .ok (.invokespecial 154, 3) := zo_183 (d := 0) (e := 154) (zd_b zq_prog_1_method_17_code_1 3 rfl rfl rfl) (zd_b zq_prog_1_method_17_code_1 4 rfl rfl rfl) (zd_b zq_prog_1_method_17_code_1 5 rfl rfl rfl)
theorem d_Ip_bestFeeder_38 : decode prog_1_method_17_code 38 = .ok (.athrow, 1) := zo_191 (zd_b zq_prog_1_method_17_code_1 6 rfl rfl rfl)
abbrev M_Ip_charge : zM := (⟨"Ironpour", "charge", "(CI)I"⟩, prog_1_method_23_code, 5, (Option.some FieldType.int), 8, 179, [])
theorem d_Ip_charge_0 : decode prog_1_method_23_code 0 = .ok (.ldc_w 261, 3) := zo_19 (d := 1) (e := 5) (zd_b zq_prog_1_method_23_code_0 0 rfl rfl rfl) (zd_b zq_prog_1_method_23_code_0 1 rfl rfl rfl) (zd_b zq_prog_1_method_23_code_0 2 rfl rfl rfl)
theorem d_Ip_charge_3 : decode prog_1_method_23_code 3 = .ok (.iload_n 1, 1) := zo_27 (zd_b zq_prog_1_method_23_code_0 3 rfl rfl rfl)
theorem d_Ip_charge_4 : decode prog_1_method_23_code 4 = .ok (.invokevirtual 83, 3) := zo_182 (d := 0) (e := 83) (zd_b zq_prog_1_method_23_code_0 4 rfl rfl rfl) (zd_b zq_prog_1_method_23_code_0 5 rfl rfl rfl) (zd_b zq_prog_1_method_23_code_0 6 rfl rfl rfl)
theorem ok_Ip_charge_String_indexOf_0 : z_ok M_Ip_charge M_String_indexOf_0 1 := ⟨z_mj3 (i := 58) rfl (by decide +kernel), rfl, ⟨by decide +kernel, by decide +kernel, by decide +kernel⟩, ⟨by decide, by decide⟩, z_mj1 (i := 15) rfl (by decide +kernel), rfl⟩
theorem d_Ip_charge_7 : decode prog_1_method_23_code 7 = .ok (.ifCond .lt 14, 3) := zo_155 (d := 0) (e := 14) (zd_b zq_prog_1_method_23_code_0 7 rfl rfl rfl) (zd_b zq_prog_1_method_23_code_0 8 rfl rfl rfl) (zd_b zq_prog_1_method_23_code_0 9 rfl rfl rfl) (by decide +kernel)
theorem d_Ip_charge_21 : decode prog_1_method_23_code 21 = .ok (.new 89, 3) := zo_187 (d := 0) (e := 89) (zd_b zq_prog_1_method_23_code_0 21 rfl rfl rfl) (zd_b zq_prog_1_method_23_code_0 22 rfl rfl rfl) (zd_b zq_prog_1_method_23_code_0 23 rfl rfl rfl)
theorem sr_Ip_263 : Cond.stringRef "Ironpour" 263 "no such kind, or an amount out of 1 to 1000" ∈ lw_tbl := z_tb5 (i := 23) rfl
theorem d_Ip_charge_24 : decode prog_1_method_23_code 24 = .ok (.dup, 1) := zo_89 (zd_b zq_prog_1_method_23_code_0 24 rfl rfl rfl)
theorem d_Ip_charge_25 : decode prog_1_method_23_code 25 = .ok (.ldc_w 263, 3) := zo_19 (d := 1) (e := 7) (zd_b zq_prog_1_method_23_code_0 25 rfl rfl rfl) (zd_b zq_prog_1_method_23_code_0 26 rfl rfl rfl) (zd_b zq_prog_1_method_23_code_0 27 rfl rfl rfl)
theorem d_Ip_charge_28 : decode prog_1_method_23_code 28 = .ok (.invokespecial 93, 3) := zo_183 (d := 0) (e := 93) (zd_b zq_prog_1_method_23_code_0 28 rfl rfl rfl) (zd_b zq_prog_1_method_23_code_0 29 rfl rfl rfl) (zd_b zq_prog_1_method_23_code_0 30 rfl rfl rfl)
theorem d_Ip_charge_31 : decode prog_1_method_23_code 31 = .ok (.athrow, 1) := zo_191 (zd_b zq_prog_1_method_23_code_0 31 rfl rfl rfl)
theorem d_Ip_charge_10 : decode prog_1_method_23_code 10 = .ok (.iload_n 2, 1) := zo_28 (zd_b zq_prog_1_method_23_code_0 10 rfl rfl rfl)
theorem d_Ip_charge_11 : decode prog_1_method_23_code 11 = .ok (.iconst 1, 1) := zo_4 (zd_b zq_prog_1_method_23_code_0 11 rfl rfl rfl)
theorem d_Ip_charge_12 : decode prog_1_method_23_code 12 = .ok (.sipush 1000, 3) := zo_17 (d := 3) (e := 232) (zd_b zq_prog_1_method_23_code_0 12 rfl rfl rfl) (zd_b zq_prog_1_method_23_code_0 13 rfl rfl rfl) (zd_b zq_prog_1_method_23_code_0 14 rfl rfl rfl) (by decide +kernel)
theorem d_Ip_charge_15 : decode prog_1_method_23_code 15 = .ok (.invokestatic 203, 3) := zo_184 (d := 0) (e := 203) (zd_b zq_prog_1_method_23_code_0 15 rfl rfl rfl) (zd_b zq_prog_1_method_23_code_0 16 rfl rfl rfl) (zd_b zq_prog_1_method_23_code_0 17 rfl rfl rfl)
theorem ok_Ip_charge_Ip_isWithin : z_ok M_Ip_charge M_Ip_isWithin 3 := ⟨z_mj4 (i := 97) rfl (by decide +kernel), rfl, ⟨by decide +kernel, by decide +kernel, by decide +kernel⟩, ⟨by decide, by decide⟩, z_mj1 (i := 1) rfl (by decide +kernel), rfl⟩
theorem d_Ip_charge_18 : decode prog_1_method_23_code 18 = .ok (.ifCond .ne 14, 3) := zo_154 (d := 0) (e := 14) (zd_b zq_prog_1_method_23_code_0 18 rfl rfl rfl) (zd_b zq_prog_1_method_23_code_0 19 rfl rfl rfl) (zd_b zq_prog_1_method_23_code_0 20 rfl rfl rfl) (by decide +kernel)
set_option maxHeartbeats 4000000 in
set_option maxRecDepth 100000 in
theorem C_Ip_chargeE (g : zG) (a pa ta sa gs co fu la gy du re wm ac : Nat) (lab labg gyg dug fub fubg fut1 fut2 fut3 : Nat) (gr T1 T2 T3 g1 g2 : Nat → Int64) (ir i1 i2 : Int32) (io : Int64) (m : Int32) (k : Int32) (hw : ¬ (0 ≤ z_ix 1 k ∧ (1 ≤ m ∧ m ≤ 1000))) : CT g M_Ip_charge [.ref a, .int k, .int m] [(a, .inr (11, [.ref pa, .ref ta, .ref sa, .ref gs, .ref co, .ref fu, .ref la, .ref gy, .ref du, .ref re, .ref wm, .ref ac])), (fu, .inr (3, [.ref fub, .ref fut1, .ref fut2, .ref fut3, .long io])), (fub, .inr (6, [.ref fubg, .int ir])), (fubg, .inl (3, 4, .inr (.inl gr))), (fut1, .inl (3, 4, .inr (.inl T1))), (fut2, .inl (3, 4, .inr (.inl T2))), (fut3, .inl (3, 4, .inr (.inl T3))), (gy, .inr (6, [.ref gyg, .int i1])), (gyg, .inl (3, 4, .inr (.inl g1))), (du, .inr (6, [.ref dug, .int i2])), (dug, .inl (3, 4, .inr (.inl g2)))] (fun o cs1 => o = .inr "java/lang/IllegalArgumentException" ∧ cs1 = [(a, .inr (11, [.ref pa, .ref ta, .ref sa, .ref gs, .ref co, .ref fu, .ref la, .ref gy, .ref du, .ref re, .ref wm, .ref ac])), (fu, .inr (3, [.ref fub, .ref fut1, .ref fut2, .ref fut3, .long io])), (fub, .inr (6, [.ref fubg, .int ir])), (fubg, .inl (3, 4, .inr (.inl gr))), (fut1, .inl (3, 4, .inr (.inl T1))), (fut2, .inl (3, 4, .inr (.inl T2))), (fut3, .inl (3, 4, .inr (.inl T3))), (gy, .inr (6, [.ref gyg, .int i1])), (gyg, .inl (3, 4, .inr (.inl g1))), (du, .inr (6, [.ref dug, .int i2])), (dug, .inl (3, 4, .inr (.inl g2)))]) 1 6 := by
  refine z_of (by decide) rfl (Nat.le_of_ble_eq_true rfl) (fun w0 => ?_)
  refine r_lvE (lv2 := [(0, .ref a), (1, .int k), (2, .int m)]) rfl ?_
  refine r_ldcWS (own := "Ironpour") (i := 1) (by decide) d_Ip_charge_0 ?_
  refine r_iload_n d_Ip_charge_3 rfl 1 rfl ?_
  refine r_callVS (As := [.int k]) (rest := []) (csC := []) (is := []) (i := 1) (by first | assumption | decide) rfl ln_Ip_83 w_im_String_indexOf_0 w_se_String_indexOf_0 ok_Ip_charge_String_indexOf_0 d_Ip_charge_4 (C_St_indexOf g 1 (by decide) k) rfl rfl (Nat.le_of_ble_eq_true rfl) rfl (by decide) (by omega) (by omega) (fun E cs1 hx => ?_) (fun v cs1 hx => ?_)
  · exact absurd hx.1 (by simp)
  · obtain ⟨e1, rfl⟩ := hx
    cases e1
    refine ⟨rfl, ?_⟩
    refine r_st (st2 := [.int (z_ix 1 k)]) rfl ?_
    refine r_cs (cs2 := [(a, .inr (11, [.ref pa, .ref ta, .ref sa, .ref gs, .ref co, .ref fu, .ref la, .ref gy, .ref du, .ref re, .ref wm, .ref ac])), (fu, .inr (3, [.ref fub, .ref fut1, .ref fut2, .ref fut3, .long io])), (fub, .inr (6, [.ref fubg, .int ir])), (fubg, .inl (3, 4, .inr (.inl gr))), (fut1, .inl (3, 4, .inr (.inl T1))), (fut2, .inl (3, 4, .inr (.inl T2))), (fut3, .inl (3, 4, .inr (.inl T3))), (gy, .inr (6, [.ref gyg, .int i1])), (gyg, .inl (3, 4, .inr (.inl g1))), (du, .inr (6, [.ref dug, .int i2])), (dug, .inl (3, 4, .inr (.inl g2)))]) rfl ?_
    refine r_if_lt (tgt := 21) d_Ip_charge_7 (by decide) (fun c_7 => ?_) (fun c_7 => ?_)
    · refine r_throwW tb_Ip_89_93 sr_Ip_263 d_Ip_charge_21 d_Ip_charge_24 d_Ip_charge_25 d_Ip_charge_28 d_Ip_charge_31 rfl (by decide) (by decide) (Nat.le_of_ble_eq_true rfl) (by omega) (by omega) ?_
      exact ⟨rfl, rfl⟩
    · refine r_iload_n d_Ip_charge_10 rfl 2 rfl ?_
      refine r_iconst d_Ip_charge_11 (v := 1) (by decide) ?_
      refine r_sipush d_Ip_charge_12 (v := 1000) (by decide) ?_
      refine r_callS (As := [.int m, .int 1, .int 1000]) (rest := []) (csC := []) (is := []) ln_Ip_203 w_st_Ip_isWithin ok_Ip_charge_Ip_isWithin d_Ip_charge_15 (C_Ip_isWithin g m 1 1000) rfl rfl (Nat.le_of_ble_eq_true rfl) rfl (by decide) (by omega) (by omega) (fun E cs1 hx => ?_) (fun v cs1 hx => ?_)
      · exact absurd hx.1 (by simp)
      · obtain ⟨e1, rfl⟩ := hx
        cases e1
        refine ⟨rfl, ?_⟩
        refine r_st (st2 := [.int (if 1 ≤ m ∧ m ≤ 1000 then 1 else 0)]) rfl ?_
        refine r_cs (cs2 := [(a, .inr (11, [.ref pa, .ref ta, .ref sa, .ref gs, .ref co, .ref fu, .ref la, .ref gy, .ref du, .ref re, .ref wm, .ref ac])), (fu, .inr (3, [.ref fub, .ref fut1, .ref fut2, .ref fut3, .long io])), (fub, .inr (6, [.ref fubg, .int ir])), (fubg, .inl (3, 4, .inr (.inl gr))), (fut1, .inl (3, 4, .inr (.inl T1))), (fut2, .inl (3, 4, .inr (.inl T2))), (fut3, .inl (3, 4, .inr (.inl T3))), (gy, .inr (6, [.ref gyg, .int i1])), (gyg, .inl (3, 4, .inr (.inl g1))), (du, .inr (6, [.ref dug, .int i2])), (dug, .inl (3, 4, .inr (.inl g2)))]) rfl ?_
        refine r_if_ne (tgt := 32) d_Ip_charge_18 (by decide) (fun c_18 => ?_) (fun c_18 => ?_)
        · exact absurd ⟨Int32.not_lt.mp c_7, z_b1 c_18⟩ hw
        · refine r_throwW tb_Ip_89_93 sr_Ip_263 d_Ip_charge_21 d_Ip_charge_24 d_Ip_charge_25 d_Ip_charge_28 d_Ip_charge_31 rfl (by decide) (by decide) (Nat.le_of_ble_eq_true rfl) (by omega) (by omega) ?_
          exact ⟨rfl, rfl⟩
theorem d_Ip_charge_32 : decode prog_1_method_23_code 32 = .ok (.aload_n 0, 1) := zo_42 (zd_b zq_prog_1_method_23_code_1 0 rfl rfl rfl)
theorem d_Ip_charge_33 : decode prog_1_method_23_code 33 = .ok (.iload_n 1, 1) := zo_27 (zd_b zq_prog_1_method_23_code_1 1 rfl rfl rfl)
theorem d_Ip_charge_34 : decode prog_1_method_23_code 34 = .ok (.invokevirtual 265, 3) := zo_182 (d := 1) (e := 9) (zd_b zq_prog_1_method_23_code_1 2 rfl rfl rfl) (zd_b zq_prog_1_method_23_code_1 3 rfl rfl rfl) (zd_b zq_prog_1_method_23_code_1 4 rfl rfl rfl)
theorem ok_Ip_charge_Ip_poolOf : z_ok M_Ip_charge M_Ip_poolOf 1 := ⟨z_mj5 (i := 27) rfl (by decide +kernel), rfl, ⟨by decide +kernel, by decide +kernel, by decide +kernel⟩, ⟨by decide, by decide⟩, z_mj1 (i := 1) rfl (by decide +kernel), rfl⟩
theorem d_Ip_charge_37 : decode prog_1_method_23_code 37 = .ok (.astore_n 3, 1) := zo_78 (zd_b zq_prog_1_method_23_code_1 5 rfl rfl rfl)
theorem d_Ip_charge_38 : decode prog_1_method_23_code 38 = .ok (.aload_n 3, 1) := zo_45 (zd_b zq_prog_1_method_23_code_1 6 rfl rfl rfl)
theorem d_Ip_charge_39 : decode prog_1_method_23_code 39 = .ok (.ifnull 22, 3) := zo_198 (d := 0) (e := 22) (zd_b zq_prog_1_method_23_code_1 7 rfl rfl rfl) (zd_b zq_prog_1_method_23_code_1 8 rfl rfl rfl) (zd_b zq_prog_1_method_23_code_1 9 rfl rfl rfl) (by decide +kernel)
theorem d_Ip_charge_61 : decode prog_1_method_23_code 61 = .ok (.iload_n 1, 1) := zo_27 (zd_b zq_prog_1_method_23_code_1 29 rfl rfl rfl)
theorem d_Ip_charge_62 : decode prog_1_method_23_code 62 = .ok (.bipush 107, 2) := zo_16 (d := 107) (zd_b zq_prog_1_method_23_code_1 30 rfl rfl rfl) (zd_b zq_prog_1_method_23_code_1 31 rfl rfl rfl) (by decide +kernel)
theorem d_Ip_charge_64 : decode prog_1_method_23_code 64 = .ok (.if_icmp .ne 7, 3) := zo_160 (d := 0) (e := 7) (zd_b zq_prog_1_method_23_code_2 0 rfl rfl rfl) (zd_b zq_prog_1_method_23_code_2 1 rfl rfl rfl) (zd_b zq_prog_1_method_23_code_2 2 rfl rfl rfl) (by decide +kernel)
theorem d_Ip_charge_71 : decode prog_1_method_23_code 71 = .ok (.iload_n 2, 1) := zo_28 (zd_b zq_prog_1_method_23_code_2 7 rfl rfl rfl)
theorem d_Ip_charge_72 : decode prog_1_method_23_code 72 = .ok (.istore 4, 2) := zo_54 (d := 4) (zd_b zq_prog_1_method_23_code_2 8 rfl rfl rfl) (zd_b zq_prog_1_method_23_code_2 9 rfl rfl rfl)
theorem d_Ip_charge_74 : decode prog_1_method_23_code 74 = .ok (.aload_n 0, 1) := zo_42 (zd_b zq_prog_1_method_23_code_2 10 rfl rfl rfl)
theorem d_Ip_charge_75 : decode prog_1_method_23_code 75 = .ok (.getfield 43, 3) := zo_180 (d := 0) (e := 43) (zd_b zq_prog_1_method_23_code_2 11 rfl rfl rfl) (zd_b zq_prog_1_method_23_code_2 12 rfl rfl rfl) (zd_b zq_prog_1_method_23_code_2 13 rfl rfl rfl)
theorem d_Ip_charge_78 : decode prog_1_method_23_code 78 = .ok (.getfield 277, 3) := zo_180 (d := 1) (e := 21) (zd_b zq_prog_1_method_23_code_2 14 rfl rfl rfl) (zd_b zq_prog_1_method_23_code_2 15 rfl rfl rfl) (zd_b zq_prog_1_method_23_code_2 16 rfl rfl rfl)
theorem d_Ip_charge_81 : decode prog_1_method_23_code 81 = .ok (.getfield 269, 3) := zo_180 (d := 1) (e := 13) (zd_b zq_prog_1_method_23_code_2 17 rfl rfl rfl) (zd_b zq_prog_1_method_23_code_2 18 rfl rfl rfl) (zd_b zq_prog_1_method_23_code_2 19 rfl rfl rfl)
theorem d_Ip_charge_84 : decode prog_1_method_23_code 84 = .ok (.iload 4, 2) := zo_21 (d := 4) (zd_b zq_prog_1_method_23_code_2 20 rfl rfl rfl) (zd_b zq_prog_1_method_23_code_2 21 rfl rfl rfl)
theorem d_Ip_charge_86 : decode prog_1_method_23_code 86 = .ok (.iadd, 1) := zo_96 (zd_b zq_prog_1_method_23_code_2 22 rfl rfl rfl)
theorem d_Ip_charge_87 : decode prog_1_method_23_code 87 = .ok (.sipush 3000, 3) := zo_17 (d := 11) (e := 184) (zd_b zq_prog_1_method_23_code_2 23 rfl rfl rfl) (zd_b zq_prog_1_method_23_code_2 24 rfl rfl rfl) (zd_b zq_prog_1_method_23_code_2 25 rfl rfl rfl) (by decide +kernel)
theorem d_Ip_charge_90 : decode prog_1_method_23_code 90 = .ok (.if_icmp .le 14, 3) := zo_164 (d := 0) (e := 14) (zd_b zq_prog_1_method_23_code_2 26 rfl rfl rfl) (zd_b zq_prog_1_method_23_code_2 27 rfl rfl rfl) (zd_b zq_prog_1_method_23_code_2 28 rfl rfl rfl) (by decide +kernel)
theorem d_Ip_charge_93 : decode prog_1_method_23_code 93 = .ok (.new 242, 3) := zo_187 (d := 0) (e := 242) (zd_b zq_prog_1_method_23_code_2 29 rfl rfl rfl) (zd_b zq_prog_1_method_23_code_2 30 rfl rfl rfl) (zd_b zq_prog_1_method_23_code_2 31 rfl rfl rfl)
theorem sr_Ip_280 : Cond.stringRef "Ironpour" 280 "the furnace takes 3000 kilograms" ∈ lw_tbl := z_tb5 (i := 44) rfl
theorem d_Ip_charge_96 : decode prog_1_method_23_code 96 = .ok (.dup, 1) := zo_89 (zd_b zq_prog_1_method_23_code_3 0 rfl rfl rfl)
theorem d_Ip_charge_97 : decode prog_1_method_23_code 97 = .ok (.ldc_w 280, 3) := zo_19 (d := 1) (e := 24) (zd_b zq_prog_1_method_23_code_3 1 rfl rfl rfl) (zd_b zq_prog_1_method_23_code_3 2 rfl rfl rfl) (zd_b zq_prog_1_method_23_code_3 3 rfl rfl rfl)
theorem d_Ip_charge_100 : decode prog_1_method_23_code 100 = .ok (.invokespecial 246, 3) := zo_183 (d := 0) (e := 246) (zd_b zq_prog_1_method_23_code_3 4 rfl rfl rfl) (zd_b zq_prog_1_method_23_code_3 5 rfl rfl rfl) (zd_b zq_prog_1_method_23_code_3 6 rfl rfl rfl)
theorem d_Ip_charge_103 : decode prog_1_method_23_code 103 = .ok (.athrow, 1) := zo_191 (zd_b zq_prog_1_method_23_code_3 7 rfl rfl rfl)
set_option maxHeartbeats 4000000 in
set_option maxRecDepth 100000 in
theorem C_Ip_charge112G (g : zG) (a pa ta sa gs co fu la gy du re wm ac : Nat) (lab labg gyg dug fub fubg fut1 fut2 fut3 : Nat) (gr T1 T2 T3 g1 g2 : Nat → Int64) (ir i1 i2 : Int32) (io : Int64) (m : Int32) (hw : (1 ≤ m ∧ m ≤ 1000)) (hg : 3000 < ir + m) : CT g M_Ip_charge [.ref a, .int 112, .int m] [(a, .inr (11, [.ref pa, .ref ta, .ref sa, .ref gs, .ref co, .ref fu, .ref la, .ref gy, .ref du, .ref re, .ref wm, .ref ac])), (fu, .inr (3, [.ref fub, .ref fut1, .ref fut2, .ref fut3, .long io])), (fub, .inr (6, [.ref fubg, .int ir])), (fubg, .inl (3, 4, .inr (.inl gr))), (fut1, .inl (3, 4, .inr (.inl T1))), (fut2, .inl (3, 4, .inr (.inl T2))), (fut3, .inl (3, 4, .inr (.inl T3))), (gy, .inr (6, [.ref gyg, .int i1])), (gyg, .inl (3, 4, .inr (.inl g1))), (du, .inr (6, [.ref dug, .int i2])), (dug, .inl (3, 4, .inr (.inl g2)))] (fun o cs1 => o = .inr "java/lang/IllegalStateException" ∧ cs1 = [(a, .inr (11, [.ref pa, .ref ta, .ref sa, .ref gs, .ref co, .ref fu, .ref la, .ref gy, .ref du, .ref re, .ref wm, .ref ac])), (fu, .inr (3, [.ref fub, .ref fut1, .ref fut2, .ref fut3, .long io])), (fub, .inr (6, [.ref fubg, .int ir])), (fubg, .inl (3, 4, .inr (.inl gr))), (fut1, .inl (3, 4, .inr (.inl T1))), (fut2, .inl (3, 4, .inr (.inl T2))), (fut3, .inl (3, 4, .inr (.inl T3))), (gy, .inr (6, [.ref gyg, .int i1])), (gyg, .inl (3, 4, .inr (.inl g1))), (du, .inr (6, [.ref dug, .int i2])), (dug, .inl (3, 4, .inr (.inl g2)))]) 1 6 := by
  refine z_of (by decide) rfl (Nat.le_of_ble_eq_true rfl) (fun w0 => ?_)
  refine r_lvE (lv2 := [(0, .ref a), (1, .int 112), (2, .int m)]) rfl ?_
  refine r_ldcWS (own := "Ironpour") (i := 1) (by decide) d_Ip_charge_0 ?_
  refine r_iload_n d_Ip_charge_3 rfl 1 rfl ?_
  refine r_callVS (As := [.int 112]) (rest := []) (csC := []) (is := []) (i := 1) (by first | assumption | decide) rfl ln_Ip_83 w_im_String_indexOf_0 w_se_String_indexOf_0 ok_Ip_charge_String_indexOf_0 d_Ip_charge_4 (C_St_indexOf g 1 (by decide) 112) rfl rfl (Nat.le_of_ble_eq_true rfl) rfl (by decide) (by omega) (by omega) (fun E cs1 hx => ?_) (fun v cs1 hx => ?_)
  · exact absurd hx.1 (by simp)
  · obtain ⟨e1, rfl⟩ := hx
    cases e1
    refine ⟨rfl, ?_⟩
    refine r_st (st2 := [.int (z_ix 1 112)]) rfl ?_
    refine r_cs (cs2 := [(a, .inr (11, [.ref pa, .ref ta, .ref sa, .ref gs, .ref co, .ref fu, .ref la, .ref gy, .ref du, .ref re, .ref wm, .ref ac])), (fu, .inr (3, [.ref fub, .ref fut1, .ref fut2, .ref fut3, .long io])), (fub, .inr (6, [.ref fubg, .int ir])), (fubg, .inl (3, 4, .inr (.inl gr))), (fut1, .inl (3, 4, .inr (.inl T1))), (fut2, .inl (3, 4, .inr (.inl T2))), (fut3, .inl (3, 4, .inr (.inl T3))), (gy, .inr (6, [.ref gyg, .int i1])), (gyg, .inl (3, 4, .inr (.inl g1))), (du, .inr (6, [.ref dug, .int i2])), (dug, .inl (3, 4, .inr (.inl g2)))]) rfl ?_
    refine r_if_lt (tgt := 21) d_Ip_charge_7 (by decide) (fun c_7 => ?_) (fun c_7 => ?_)
    · exact absurd c_7 (by decide)
    · refine r_iload_n d_Ip_charge_10 rfl 2 rfl ?_
      refine r_iconst d_Ip_charge_11 (v := 1) (by decide) ?_
      refine r_sipush d_Ip_charge_12 (v := 1000) (by decide) ?_
      refine r_callS (As := [.int m, .int 1, .int 1000]) (rest := []) (csC := []) (is := []) ln_Ip_203 w_st_Ip_isWithin ok_Ip_charge_Ip_isWithin d_Ip_charge_15 (C_Ip_isWithin g m 1 1000) rfl rfl (Nat.le_of_ble_eq_true rfl) rfl (by decide) (by omega) (by omega) (fun E cs1 hx => ?_) (fun v cs1 hx => ?_)
      · exact absurd hx.1 (by simp)
      · obtain ⟨e1, rfl⟩ := hx
        cases e1
        refine ⟨rfl, ?_⟩
        refine r_st (st2 := [.int (if 1 ≤ m ∧ m ≤ 1000 then 1 else 0)]) rfl ?_
        refine r_cs (cs2 := [(a, .inr (11, [.ref pa, .ref ta, .ref sa, .ref gs, .ref co, .ref fu, .ref la, .ref gy, .ref du, .ref re, .ref wm, .ref ac])), (fu, .inr (3, [.ref fub, .ref fut1, .ref fut2, .ref fut3, .long io])), (fub, .inr (6, [.ref fubg, .int ir])), (fubg, .inl (3, 4, .inr (.inl gr))), (fut1, .inl (3, 4, .inr (.inl T1))), (fut2, .inl (3, 4, .inr (.inl T2))), (fut3, .inl (3, 4, .inr (.inl T3))), (gy, .inr (6, [.ref gyg, .int i1])), (gyg, .inl (3, 4, .inr (.inl g1))), (du, .inr (6, [.ref dug, .int i2])), (dug, .inl (3, 4, .inr (.inl g2)))]) rfl ?_
        refine r_if_ne (tgt := 32) d_Ip_charge_18 (by decide) (fun c_18 => ?_) (fun c_18 => ?_)
        · refine r_aload_n d_Ip_charge_32 rfl 0 rfl ?_
          refine r_iload_n d_Ip_charge_33 rfl 1 rfl ?_
          refine r_callV (As := [.int 112]) (rest := []) (csC := [(a, .inr (11, [.ref pa, .ref ta, .ref sa, .ref gs, .ref co, .ref fu, .ref la, .ref gy, .ref du, .ref re, .ref wm, .ref ac]))]) (is := [0]) (q0 := 0) rfl rfl ln_Ip_265 w_im_Ip_poolOf w_se_Ip_poolOf ok_Ip_charge_Ip_poolOf d_Ip_charge_34 (C_Ip_poolOfO g a pa ta sa gs co fu la gy du re wm ac 112 (by decide) (by decide)) rfl rfl (Nat.le_of_ble_eq_true rfl) rfl (by decide) (by omega) (by omega) (fun E cs1 hx => ?_) (fun v cs1 hx => ?_)
          · exact absurd hx.1 (by simp)
          · obtain ⟨e1, rfl⟩ := hx
            cases e1
            refine ⟨rfl, ?_⟩
            refine r_st (st2 := [.null]) rfl ?_
            refine r_cs (cs2 := [(a, .inr (11, [.ref pa, .ref ta, .ref sa, .ref gs, .ref co, .ref fu, .ref la, .ref gy, .ref du, .ref re, .ref wm, .ref ac])), (fu, .inr (3, [.ref fub, .ref fut1, .ref fut2, .ref fut3, .long io])), (fub, .inr (6, [.ref fubg, .int ir])), (fubg, .inl (3, 4, .inr (.inl gr))), (fut1, .inl (3, 4, .inr (.inl T1))), (fut2, .inl (3, 4, .inr (.inl T2))), (fut3, .inl (3, 4, .inr (.inl T3))), (gy, .inr (6, [.ref gyg, .int i1])), (gyg, .inl (3, 4, .inr (.inl g1))), (du, .inr (6, [.ref dug, .int i2])), (dug, .inl (3, 4, .inr (.inl g2)))]) rfl ?_
            refine r_astore_nN (lv' := [(3, .null), (0, .ref a), (1, .int 112), (2, .int m)]) d_Ip_charge_37 rfl (by decide) rfl ?_
            refine r_aload_nN d_Ip_charge_38 rfl 0 rfl ?_
            refine r_ifnullN (tgt := 61) d_Ip_charge_39 (by decide) ?_
            refine r_iload_n d_Ip_charge_61 rfl 2 rfl ?_
            refine r_bipush d_Ip_charge_62 (v := 107) (by decide) ?_
            refine r_icmp_ne (tgt := 71) d_Ip_charge_64 (by decide) (fun c_64 => ?_) (fun c_64 => ?_)
            · refine r_iload_n d_Ip_charge_71 rfl 3 rfl ?_
              refine r_istore (lv' := [(4, .int m), (3, .null), (0, .ref a), (1, .int 112), (2, .int m)]) d_Ip_charge_72 (by decide) rfl ?_
              refine r_aload_n d_Ip_charge_74 rfl 2 rfl ?_
              refine r_get fs_Ip_43 d_Ip_charge_75 (q0 := 0) rfl rfl ?_
              refine r_get fs_Ip_277 d_Ip_charge_78 (q0 := 1) rfl rfl ?_
              refine r_get fs_Ip_269 d_Ip_charge_81 (q0 := 2) rfl rfl ?_
              refine r_iload d_Ip_charge_84 0 rfl ?_
              refine r_iadd d_Ip_charge_86 (v := ir + m) rfl ?_
              refine r_sipush d_Ip_charge_87 (v := 3000) (by decide) ?_
              refine r_icmp_le (tgt := 104) d_Ip_charge_90 (by decide) (fun c_90 => ?_) (fun c_90 => ?_)
              · exact absurd hg (Int32.not_lt.mpr c_90)
              · refine r_throwW tb_Ip_242_246 sr_Ip_280 d_Ip_charge_93 d_Ip_charge_96 d_Ip_charge_97 d_Ip_charge_100 d_Ip_charge_103 rfl (by decide) (by decide) (Nat.le_of_ble_eq_true rfl) (by omega) (by omega) ?_
                exact ⟨rfl, rfl⟩
            · exact absurd c_64 (by decide)
        · exact absurd hw (z_b0 c_18)
theorem d_Ip_charge_104 : decode prog_1_method_23_code 104 = .ok (.aload_n 3, 1) := zo_45 (zd_b zq_prog_1_method_23_code_3 8 rfl rfl rfl)
theorem d_Ip_charge_105 : decode prog_1_method_23_code 105 = .ok (.ifnull 18, 3) := zo_198 (d := 0) (e := 18) (zd_b zq_prog_1_method_23_code_3 9 rfl rfl rfl) (zd_b zq_prog_1_method_23_code_3 10 rfl rfl rfl) (zd_b zq_prog_1_method_23_code_3 11 rfl rfl rfl) (by decide +kernel)
theorem d_Ip_charge_123 : decode prog_1_method_23_code 123 = .ok (.aload_n 0, 1) := zo_42 (zd_b zq_prog_1_method_23_code_3 27 rfl rfl rfl)
theorem d_Ip_charge_124 : decode prog_1_method_23_code 124 = .ok (.getfield 43, 3) := zo_180 (d := 0) (e := 43) (zd_b zq_prog_1_method_23_code_3 28 rfl rfl rfl) (zd_b zq_prog_1_method_23_code_3 29 rfl rfl rfl) (zd_b zq_prog_1_method_23_code_3 30 rfl rfl rfl)
theorem d_Ip_charge_127 : decode prog_1_method_23_code 127 = .ok (.iload_n 2, 1) := zo_28 (zd_b zq_prog_1_method_23_code_3 31 rfl rfl rfl)
theorem d_Ip_charge_128 : decode prog_1_method_23_code 128 = .ok (.iload 4, 2) := zo_21 (d := 4) (zd_b zq_prog_1_method_23_code_4 0 rfl rfl rfl) (zd_b zq_prog_1_method_23_code_4 1 rfl rfl rfl)
theorem d_Ip_charge_130 : decode prog_1_method_23_code 130 = .ok (.iload_n 1, 1) := zo_27 (zd_b zq_prog_1_method_23_code_4 2 rfl rfl rfl)
theorem d_Ip_charge_131 : decode prog_1_method_23_code 131 = .ok (.invokestatic 286, 3) := zo_184 (d := 1) (e := 30) (zd_b zq_prog_1_method_23_code_4 3 rfl rfl rfl) (zd_b zq_prog_1_method_23_code_4 4 rfl rfl rfl) (zd_b zq_prog_1_method_23_code_4 5 rfl rfl rfl)
theorem ok_Ip_charge_Ip_tenthsOf : z_ok M_Ip_charge M_Ip_tenthsOf 1 := ⟨z_mj5 (i := 51) rfl (by decide +kernel), rfl, ⟨by decide +kernel, by decide +kernel, by decide +kernel⟩, ⟨by decide, by decide⟩, z_mj1 (i := 1) rfl (by decide +kernel), rfl⟩
theorem ln_Ip_286 : Cond.methodLink "Ironpour" 286 M_Ip_tenthsOf.1 ∈ z_gw := z_mj5 (i := 49) rfl (by decide +kernel)
theorem w_st_Ip_tenthsOf : Cond.static M_Ip_tenthsOf.1 ∈ z_gw := z_mj5 (i := 50) rfl (by decide +kernel)
theorem d_Ip_charge_134 : decode prog_1_method_23_code 134 = .ok (.invokevirtual 290, 3) := zo_182 (d := 1) (e := 34) (zd_b zq_prog_1_method_23_code_4 6 rfl rfl rfl) (zd_b zq_prog_1_method_23_code_4 7 rfl rfl rfl) (zd_b zq_prog_1_method_23_code_4 8 rfl rfl rfl)
theorem ok_Ip_charge_Fu_takeFromOutside : z_ok M_Ip_charge M_Fu_takeFromOutside 3 := ⟨z_mj5 (i := 63) rfl (by decide +kernel), rfl, ⟨by decide +kernel, by decide +kernel, by decide +kernel⟩, ⟨by decide, by decide⟩, z_mj1 (i := 7) rfl (by decide +kernel), rfl⟩
theorem ln_Ip_290 : Cond.methodLink "Ironpour" 290 M_Fu_takeFromOutside.1 ∈ z_gw := z_mj5 (i := 60) rfl (by decide +kernel)
theorem w_im_Fu_takeFromOutside : Cond.instanceMethod M_Fu_takeFromOutside.1 ∈ z_gw := z_mj5 (i := 61) rfl (by decide +kernel)
theorem w_se_Fu_takeFromOutside : Cond.selects M_Fu_takeFromOutside.1.cls M_Fu_takeFromOutside.1 M_Fu_takeFromOutside.1 ∈ z_gw := z_mj5 (i := 62) rfl (by decide +kernel)
theorem d_Ip_charge_137 : decode prog_1_method_23_code 137 = .ok (.aload_n 0, 1) := zo_42 (zd_b zq_prog_1_method_23_code_4 9 rfl rfl rfl)
theorem d_Ip_charge_138 : decode prog_1_method_23_code 138 = .ok (.getfield 43, 3) := zo_180 (d := 0) (e := 43) (zd_b zq_prog_1_method_23_code_4 10 rfl rfl rfl) (zd_b zq_prog_1_method_23_code_4 11 rfl rfl rfl) (zd_b zq_prog_1_method_23_code_4 12 rfl rfl rfl)
theorem d_Ip_charge_141 : decode prog_1_method_23_code 141 = .ok (.getfield 277, 3) := zo_180 (d := 1) (e := 21) (zd_b zq_prog_1_method_23_code_4 13 rfl rfl rfl) (zd_b zq_prog_1_method_23_code_4 14 rfl rfl rfl) (zd_b zq_prog_1_method_23_code_4 15 rfl rfl rfl)
theorem d_Ip_charge_144 : decode prog_1_method_23_code 144 = .ok (.getfield 269, 3) := zo_180 (d := 1) (e := 13) (zd_b zq_prog_1_method_23_code_4 16 rfl rfl rfl) (zd_b zq_prog_1_method_23_code_4 17 rfl rfl rfl) (zd_b zq_prog_1_method_23_code_4 18 rfl rfl rfl)
theorem d_Ip_charge_147 : decode prog_1_method_23_code 147 = .ok (.ireturn, 1) := zo_172 (zd_b zq_prog_1_method_23_code_4 19 rfl rfl rfl)
set_option maxHeartbeats 4000000 in
set_option maxRecDepth 100000 in
theorem C_Ip_charge112N (g : zG) (a pa ta sa gs co fu la gy du re wm ac : Nat) (lab labg gyg dug fub fubg fut1 fut2 fut3 : Nat) (gr T1 T2 T3 g1 g2 : Nat → Int64) (ir i1 i2 : Int32) (io : Int64) (m : Int32) (hw : (1 ≤ m ∧ m ≤ 1000)) (hg : ¬ 3000 < ir + m) : CT g M_Ip_charge [.ref a, .int 112, .int m] [(a, .inr (11, [.ref pa, .ref ta, .ref sa, .ref gs, .ref co, .ref fu, .ref la, .ref gy, .ref du, .ref re, .ref wm, .ref ac])), (fu, .inr (3, [.ref fub, .ref fut1, .ref fut2, .ref fut3, .long io])), (fub, .inr (6, [.ref fubg, .int ir])), (fubg, .inl (3, 4, .inr (.inl gr))), (fut1, .inl (3, 4, .inr (.inl T1))), (fut2, .inl (3, 4, .inr (.inl T2))), (fut3, .inl (3, 4, .inr (.inl T3))), (gy, .inr (6, [.ref gyg, .int i1])), (gyg, .inl (3, 4, .inr (.inl g1))), (du, .inr (6, [.ref dug, .int i2])), (dug, .inl (3, 4, .inr (.inl g2)))] (fun o cs1 => o = .inl (some (.int (ir + m))) ∧ cs1 = [(a, .inr (11, [.ref pa, .ref ta, .ref sa, .ref gs, .ref co, .ref fu, .ref la, .ref gy, .ref du, .ref re, .ref wm, .ref ac])), (fu, .inr (3, [.ref fub, .ref fut1, .ref fut2, .ref fut3, .long (io + (m : Int32).toInt64)])), (fub, .inr (6, [.ref fubg, .int (ir + m)])), (fubg, .inl (3, 4, .inr (.inl (lfd gr (fun e => chS m 0 e / 10) 4)))), (fut1, .inl (3, 4, .inr (.inl (lfd T1 (fun e => chS m 0 e) 4)))), (fut2, .inl (3, 4, .inr (.inl (lfd T2 (fun e => chS m 0 e - chS m 0 e / 10 * 10) 4)))), (fut3, .inl (3, 4, .inr (.inl T3))), (gy, .inr (6, [.ref gyg, .int i1])), (gyg, .inl (3, 4, .inr (.inl g1))), (du, .inr (6, [.ref dug, .int i2])), (dug, .inl (3, 4, .inr (.inl g2)))]) 1 6 := by
  refine z_of (by decide) rfl (Nat.le_of_ble_eq_true rfl) (fun w0 => ?_)
  refine r_lvE (lv2 := [(0, .ref a), (1, .int 112), (2, .int m)]) rfl ?_
  refine r_ldcWS (own := "Ironpour") (i := 1) (by decide) d_Ip_charge_0 ?_
  refine r_iload_n d_Ip_charge_3 rfl 1 rfl ?_
  refine r_callVS (As := [.int 112]) (rest := []) (csC := []) (is := []) (i := 1) (by first | assumption | decide) rfl ln_Ip_83 w_im_String_indexOf_0 w_se_String_indexOf_0 ok_Ip_charge_String_indexOf_0 d_Ip_charge_4 (C_St_indexOf g 1 (by decide) 112) rfl rfl (Nat.le_of_ble_eq_true rfl) rfl (by decide) (by omega) (by omega) (fun E cs1 hx => ?_) (fun v cs1 hx => ?_)
  · exact absurd hx.1 (by simp)
  · obtain ⟨e1, rfl⟩ := hx
    cases e1
    refine ⟨rfl, ?_⟩
    refine r_st (st2 := [.int (z_ix 1 112)]) rfl ?_
    refine r_cs (cs2 := [(a, .inr (11, [.ref pa, .ref ta, .ref sa, .ref gs, .ref co, .ref fu, .ref la, .ref gy, .ref du, .ref re, .ref wm, .ref ac])), (fu, .inr (3, [.ref fub, .ref fut1, .ref fut2, .ref fut3, .long io])), (fub, .inr (6, [.ref fubg, .int ir])), (fubg, .inl (3, 4, .inr (.inl gr))), (fut1, .inl (3, 4, .inr (.inl T1))), (fut2, .inl (3, 4, .inr (.inl T2))), (fut3, .inl (3, 4, .inr (.inl T3))), (gy, .inr (6, [.ref gyg, .int i1])), (gyg, .inl (3, 4, .inr (.inl g1))), (du, .inr (6, [.ref dug, .int i2])), (dug, .inl (3, 4, .inr (.inl g2)))]) rfl ?_
    refine r_if_lt (tgt := 21) d_Ip_charge_7 (by decide) (fun c_7 => ?_) (fun c_7 => ?_)
    · exact absurd c_7 (by decide)
    · refine r_iload_n d_Ip_charge_10 rfl 2 rfl ?_
      refine r_iconst d_Ip_charge_11 (v := 1) (by decide) ?_
      refine r_sipush d_Ip_charge_12 (v := 1000) (by decide) ?_
      refine r_callS (As := [.int m, .int 1, .int 1000]) (rest := []) (csC := []) (is := []) ln_Ip_203 w_st_Ip_isWithin ok_Ip_charge_Ip_isWithin d_Ip_charge_15 (C_Ip_isWithin g m 1 1000) rfl rfl (Nat.le_of_ble_eq_true rfl) rfl (by decide) (by omega) (by omega) (fun E cs1 hx => ?_) (fun v cs1 hx => ?_)
      · exact absurd hx.1 (by simp)
      · obtain ⟨e1, rfl⟩ := hx
        cases e1
        refine ⟨rfl, ?_⟩
        refine r_st (st2 := [.int (if 1 ≤ m ∧ m ≤ 1000 then 1 else 0)]) rfl ?_
        refine r_cs (cs2 := [(a, .inr (11, [.ref pa, .ref ta, .ref sa, .ref gs, .ref co, .ref fu, .ref la, .ref gy, .ref du, .ref re, .ref wm, .ref ac])), (fu, .inr (3, [.ref fub, .ref fut1, .ref fut2, .ref fut3, .long io])), (fub, .inr (6, [.ref fubg, .int ir])), (fubg, .inl (3, 4, .inr (.inl gr))), (fut1, .inl (3, 4, .inr (.inl T1))), (fut2, .inl (3, 4, .inr (.inl T2))), (fut3, .inl (3, 4, .inr (.inl T3))), (gy, .inr (6, [.ref gyg, .int i1])), (gyg, .inl (3, 4, .inr (.inl g1))), (du, .inr (6, [.ref dug, .int i2])), (dug, .inl (3, 4, .inr (.inl g2)))]) rfl ?_
        refine r_if_ne (tgt := 32) d_Ip_charge_18 (by decide) (fun c_18 => ?_) (fun c_18 => ?_)
        · refine r_aload_n d_Ip_charge_32 rfl 0 rfl ?_
          refine r_iload_n d_Ip_charge_33 rfl 1 rfl ?_
          refine r_callV (As := [.int 112]) (rest := []) (csC := [(a, .inr (11, [.ref pa, .ref ta, .ref sa, .ref gs, .ref co, .ref fu, .ref la, .ref gy, .ref du, .ref re, .ref wm, .ref ac]))]) (is := [0]) (q0 := 0) rfl rfl ln_Ip_265 w_im_Ip_poolOf w_se_Ip_poolOf ok_Ip_charge_Ip_poolOf d_Ip_charge_34 (C_Ip_poolOfO g a pa ta sa gs co fu la gy du re wm ac 112 (by decide) (by decide)) rfl rfl (Nat.le_of_ble_eq_true rfl) rfl (by decide) (by omega) (by omega) (fun E cs1 hx => ?_) (fun v cs1 hx => ?_)
          · exact absurd hx.1 (by simp)
          · obtain ⟨e1, rfl⟩ := hx
            cases e1
            refine ⟨rfl, ?_⟩
            refine r_st (st2 := [.null]) rfl ?_
            refine r_cs (cs2 := [(a, .inr (11, [.ref pa, .ref ta, .ref sa, .ref gs, .ref co, .ref fu, .ref la, .ref gy, .ref du, .ref re, .ref wm, .ref ac])), (fu, .inr (3, [.ref fub, .ref fut1, .ref fut2, .ref fut3, .long io])), (fub, .inr (6, [.ref fubg, .int ir])), (fubg, .inl (3, 4, .inr (.inl gr))), (fut1, .inl (3, 4, .inr (.inl T1))), (fut2, .inl (3, 4, .inr (.inl T2))), (fut3, .inl (3, 4, .inr (.inl T3))), (gy, .inr (6, [.ref gyg, .int i1])), (gyg, .inl (3, 4, .inr (.inl g1))), (du, .inr (6, [.ref dug, .int i2])), (dug, .inl (3, 4, .inr (.inl g2)))]) rfl ?_
            refine r_astore_nN (lv' := [(3, .null), (0, .ref a), (1, .int 112), (2, .int m)]) d_Ip_charge_37 rfl (by decide) rfl ?_
            refine r_aload_nN d_Ip_charge_38 rfl 0 rfl ?_
            refine r_ifnullN (tgt := 61) d_Ip_charge_39 (by decide) ?_
            refine r_iload_n d_Ip_charge_61 rfl 2 rfl ?_
            refine r_bipush d_Ip_charge_62 (v := 107) (by decide) ?_
            refine r_icmp_ne (tgt := 71) d_Ip_charge_64 (by decide) (fun c_64 => ?_) (fun c_64 => ?_)
            · refine r_iload_n d_Ip_charge_71 rfl 3 rfl ?_
              refine r_istore (lv' := [(4, .int m), (3, .null), (0, .ref a), (1, .int 112), (2, .int m)]) d_Ip_charge_72 (by decide) rfl ?_
              refine r_aload_n d_Ip_charge_74 rfl 2 rfl ?_
              refine r_get fs_Ip_43 d_Ip_charge_75 (q0 := 0) rfl rfl ?_
              refine r_get fs_Ip_277 d_Ip_charge_78 (q0 := 1) rfl rfl ?_
              refine r_get fs_Ip_269 d_Ip_charge_81 (q0 := 2) rfl rfl ?_
              refine r_iload d_Ip_charge_84 0 rfl ?_
              refine r_iadd d_Ip_charge_86 (v := ir + m) rfl ?_
              refine r_sipush d_Ip_charge_87 (v := 3000) (by decide) ?_
              refine r_icmp_le (tgt := 104) d_Ip_charge_90 (by decide) (fun c_90 => ?_) (fun c_90 => ?_)
              · refine r_aload_nN d_Ip_charge_104 rfl 1 rfl ?_
                refine r_ifnullN (tgt := 123) d_Ip_charge_105 (by decide) ?_
                refine r_aload_n d_Ip_charge_123 rfl 2 rfl ?_
                refine r_get fs_Ip_43 d_Ip_charge_124 (q0 := 0) rfl rfl ?_
                refine r_iload_n d_Ip_charge_127 rfl 4 rfl ?_
                refine r_iload d_Ip_charge_128 0 rfl ?_
                refine r_iload_n d_Ip_charge_130 rfl 3 rfl ?_
                refine r_callS (As := [.int 112]) (rest := [.int m, .int m, .ref fu]) (csC := []) (is := []) ln_Ip_286 w_st_Ip_tenthsOf ok_Ip_charge_Ip_tenthsOf d_Ip_charge_131 (C_Ip_tenthsOf112 g) rfl rfl (Nat.le_of_ble_eq_true rfl) rfl (by decide) (by omega) (by omega) (fun E cs1 hx => ?_) (fun v cs1 hx => ?_)
                · exact absurd hx.1 (by simp)
                · obtain ⟨e1, rfl⟩ := hx
                  cases e1
                  refine ⟨rfl, ?_⟩
                  refine r_st (st2 := [.ref (g.2.2 0), .int m, .int m, .ref fu]) rfl ?_
                  refine r_cs (cs2 := [(a, .inr (11, [.ref pa, .ref ta, .ref sa, .ref gs, .ref co, .ref fu, .ref la, .ref gy, .ref du, .ref re, .ref wm, .ref ac])), (fu, .inr (3, [.ref fub, .ref fut1, .ref fut2, .ref fut3, .long io])), (fub, .inr (6, [.ref fubg, .int ir])), (fubg, .inl (3, 4, .inr (.inl gr))), (fut1, .inl (3, 4, .inr (.inl T1))), (fut2, .inl (3, 4, .inr (.inl T2))), (fut3, .inl (3, 4, .inr (.inl T3))), (gy, .inr (6, [.ref gyg, .int i1])), (gyg, .inl (3, 4, .inr (.inl g1))), (du, .inr (6, [.ref dug, .int i2])), (dug, .inl (3, 4, .inr (.inl g2)))]) rfl ?_
                  refine r_callV (As := [.int m, .int m, .ref (g.2.2 0)]) (rest := []) (csC := [(fu, .inr (3, [.ref fub, .ref fut1, .ref fut2, .ref fut3, .long io])), (fub, .inr (6, [.ref fubg, .int ir])), (fubg, .inl (3, 4, .inr (.inl gr))), (fut1, .inl (3, 4, .inr (.inl T1))), (fut2, .inl (3, 4, .inr (.inl T2))), (fut3, .inl (3, 4, .inr (.inl T3)))]) (is := [1, 2, 3, 4, 5, 6]) (q0 := 1) rfl rfl ln_Ip_290 w_im_Fu_takeFromOutside w_se_Fu_takeFromOutside ok_Ip_charge_Fu_takeFromOutside d_Ip_charge_134 (C_Fu_takeFromOutside g fu fub fubg fut1 fut2 fut3 gr T1 T2 T3 ir io m m 0 (by decide)) rfl rfl (Nat.le_of_ble_eq_true rfl) rfl (by decide) (by omega) (by omega) (fun E cs1 hx => ?_) (fun v cs1 hx => ?_)
                  · exact absurd hx.1 (by simp)
                  · obtain ⟨e1, rfl⟩ := hx
                    cases e1
                    refine ⟨rfl, ?_⟩
                    refine r_st (st2 := []) rfl ?_
                    refine r_cs (cs2 := [(a, .inr (11, [.ref pa, .ref ta, .ref sa, .ref gs, .ref co, .ref fu, .ref la, .ref gy, .ref du, .ref re, .ref wm, .ref ac])), (fu, .inr (3, [.ref fub, .ref fut1, .ref fut2, .ref fut3, .long (io + (m : Int32).toInt64)])), (fub, .inr (6, [.ref fubg, .int (ir + m)])), (fubg, .inl (3, 4, .inr (.inl (lfd gr (fun e => chS m 0 e / 10) 4)))), (fut1, .inl (3, 4, .inr (.inl (lfd T1 (fun e => chS m 0 e) 4)))), (fut2, .inl (3, 4, .inr (.inl (lfd T2 (fun e => chS m 0 e - chS m 0 e / 10 * 10) 4)))), (fut3, .inl (3, 4, .inr (.inl T3))), (gy, .inr (6, [.ref gyg, .int i1])), (gyg, .inl (3, 4, .inr (.inl g1))), (du, .inr (6, [.ref dug, .int i2])), (dug, .inl (3, 4, .inr (.inl g2)))]) rfl ?_
                    refine r_aload_n d_Ip_charge_137 rfl 2 rfl ?_
                    refine r_get fs_Ip_43 d_Ip_charge_138 (q0 := 0) rfl rfl ?_
                    refine r_get fs_Ip_277 d_Ip_charge_141 (q0 := 1) rfl rfl ?_
                    refine r_get fs_Ip_269 d_Ip_charge_144 (q0 := 2) rfl rfl ?_
                    refine r_iret d_Ip_charge_147 rfl rfl ?_
                    exact ⟨rfl, rfl⟩
              · exact absurd (Int32.not_le.mp c_90) hg
            · exact absurd c_64 (by decide)
        · exact absurd hw (z_b0 c_18)
set_option maxHeartbeats 4000000 in
set_option maxRecDepth 100000 in
theorem C_Ip_charge115G (g : zG) (a pa ta sa gs co fu la gy du re wm ac : Nat) (lab labg gyg dug fub fubg fut1 fut2 fut3 : Nat) (gr T1 T2 T3 g1 g2 : Nat → Int64) (ir i1 i2 : Int32) (io : Int64) (m : Int32) (hw : (1 ≤ m ∧ m ≤ 1000)) (hg : 3000 < ir + m) : CT g M_Ip_charge [.ref a, .int 115, .int m] [(a, .inr (11, [.ref pa, .ref ta, .ref sa, .ref gs, .ref co, .ref fu, .ref la, .ref gy, .ref du, .ref re, .ref wm, .ref ac])), (fu, .inr (3, [.ref fub, .ref fut1, .ref fut2, .ref fut3, .long io])), (fub, .inr (6, [.ref fubg, .int ir])), (fubg, .inl (3, 4, .inr (.inl gr))), (fut1, .inl (3, 4, .inr (.inl T1))), (fut2, .inl (3, 4, .inr (.inl T2))), (fut3, .inl (3, 4, .inr (.inl T3))), (gy, .inr (6, [.ref gyg, .int i1])), (gyg, .inl (3, 4, .inr (.inl g1))), (du, .inr (6, [.ref dug, .int i2])), (dug, .inl (3, 4, .inr (.inl g2)))] (fun o cs1 => o = .inr "java/lang/IllegalStateException" ∧ cs1 = [(a, .inr (11, [.ref pa, .ref ta, .ref sa, .ref gs, .ref co, .ref fu, .ref la, .ref gy, .ref du, .ref re, .ref wm, .ref ac])), (fu, .inr (3, [.ref fub, .ref fut1, .ref fut2, .ref fut3, .long io])), (fub, .inr (6, [.ref fubg, .int ir])), (fubg, .inl (3, 4, .inr (.inl gr))), (fut1, .inl (3, 4, .inr (.inl T1))), (fut2, .inl (3, 4, .inr (.inl T2))), (fut3, .inl (3, 4, .inr (.inl T3))), (gy, .inr (6, [.ref gyg, .int i1])), (gyg, .inl (3, 4, .inr (.inl g1))), (du, .inr (6, [.ref dug, .int i2])), (dug, .inl (3, 4, .inr (.inl g2)))]) 1 6 := by
  refine z_of (by decide) rfl (Nat.le_of_ble_eq_true rfl) (fun w0 => ?_)
  refine r_lvE (lv2 := [(0, .ref a), (1, .int 115), (2, .int m)]) rfl ?_
  refine r_ldcWS (own := "Ironpour") (i := 1) (by decide) d_Ip_charge_0 ?_
  refine r_iload_n d_Ip_charge_3 rfl 1 rfl ?_
  refine r_callVS (As := [.int 115]) (rest := []) (csC := []) (is := []) (i := 1) (by first | assumption | decide) rfl ln_Ip_83 w_im_String_indexOf_0 w_se_String_indexOf_0 ok_Ip_charge_String_indexOf_0 d_Ip_charge_4 (C_St_indexOf g 1 (by decide) 115) rfl rfl (Nat.le_of_ble_eq_true rfl) rfl (by decide) (by omega) (by omega) (fun E cs1 hx => ?_) (fun v cs1 hx => ?_)
  · exact absurd hx.1 (by simp)
  · obtain ⟨e1, rfl⟩ := hx
    cases e1
    refine ⟨rfl, ?_⟩
    refine r_st (st2 := [.int (z_ix 1 115)]) rfl ?_
    refine r_cs (cs2 := [(a, .inr (11, [.ref pa, .ref ta, .ref sa, .ref gs, .ref co, .ref fu, .ref la, .ref gy, .ref du, .ref re, .ref wm, .ref ac])), (fu, .inr (3, [.ref fub, .ref fut1, .ref fut2, .ref fut3, .long io])), (fub, .inr (6, [.ref fubg, .int ir])), (fubg, .inl (3, 4, .inr (.inl gr))), (fut1, .inl (3, 4, .inr (.inl T1))), (fut2, .inl (3, 4, .inr (.inl T2))), (fut3, .inl (3, 4, .inr (.inl T3))), (gy, .inr (6, [.ref gyg, .int i1])), (gyg, .inl (3, 4, .inr (.inl g1))), (du, .inr (6, [.ref dug, .int i2])), (dug, .inl (3, 4, .inr (.inl g2)))]) rfl ?_
    refine r_if_lt (tgt := 21) d_Ip_charge_7 (by decide) (fun c_7 => ?_) (fun c_7 => ?_)
    · exact absurd c_7 (by decide)
    · refine r_iload_n d_Ip_charge_10 rfl 2 rfl ?_
      refine r_iconst d_Ip_charge_11 (v := 1) (by decide) ?_
      refine r_sipush d_Ip_charge_12 (v := 1000) (by decide) ?_
      refine r_callS (As := [.int m, .int 1, .int 1000]) (rest := []) (csC := []) (is := []) ln_Ip_203 w_st_Ip_isWithin ok_Ip_charge_Ip_isWithin d_Ip_charge_15 (C_Ip_isWithin g m 1 1000) rfl rfl (Nat.le_of_ble_eq_true rfl) rfl (by decide) (by omega) (by omega) (fun E cs1 hx => ?_) (fun v cs1 hx => ?_)
      · exact absurd hx.1 (by simp)
      · obtain ⟨e1, rfl⟩ := hx
        cases e1
        refine ⟨rfl, ?_⟩
        refine r_st (st2 := [.int (if 1 ≤ m ∧ m ≤ 1000 then 1 else 0)]) rfl ?_
        refine r_cs (cs2 := [(a, .inr (11, [.ref pa, .ref ta, .ref sa, .ref gs, .ref co, .ref fu, .ref la, .ref gy, .ref du, .ref re, .ref wm, .ref ac])), (fu, .inr (3, [.ref fub, .ref fut1, .ref fut2, .ref fut3, .long io])), (fub, .inr (6, [.ref fubg, .int ir])), (fubg, .inl (3, 4, .inr (.inl gr))), (fut1, .inl (3, 4, .inr (.inl T1))), (fut2, .inl (3, 4, .inr (.inl T2))), (fut3, .inl (3, 4, .inr (.inl T3))), (gy, .inr (6, [.ref gyg, .int i1])), (gyg, .inl (3, 4, .inr (.inl g1))), (du, .inr (6, [.ref dug, .int i2])), (dug, .inl (3, 4, .inr (.inl g2)))]) rfl ?_
        refine r_if_ne (tgt := 32) d_Ip_charge_18 (by decide) (fun c_18 => ?_) (fun c_18 => ?_)
        · refine r_aload_n d_Ip_charge_32 rfl 0 rfl ?_
          refine r_iload_n d_Ip_charge_33 rfl 1 rfl ?_
          refine r_callV (As := [.int 115]) (rest := []) (csC := [(a, .inr (11, [.ref pa, .ref ta, .ref sa, .ref gs, .ref co, .ref fu, .ref la, .ref gy, .ref du, .ref re, .ref wm, .ref ac]))]) (is := [0]) (q0 := 0) rfl rfl ln_Ip_265 w_im_Ip_poolOf w_se_Ip_poolOf ok_Ip_charge_Ip_poolOf d_Ip_charge_34 (C_Ip_poolOfO g a pa ta sa gs co fu la gy du re wm ac 115 (by decide) (by decide)) rfl rfl (Nat.le_of_ble_eq_true rfl) rfl (by decide) (by omega) (by omega) (fun E cs1 hx => ?_) (fun v cs1 hx => ?_)
          · exact absurd hx.1 (by simp)
          · obtain ⟨e1, rfl⟩ := hx
            cases e1
            refine ⟨rfl, ?_⟩
            refine r_st (st2 := [.null]) rfl ?_
            refine r_cs (cs2 := [(a, .inr (11, [.ref pa, .ref ta, .ref sa, .ref gs, .ref co, .ref fu, .ref la, .ref gy, .ref du, .ref re, .ref wm, .ref ac])), (fu, .inr (3, [.ref fub, .ref fut1, .ref fut2, .ref fut3, .long io])), (fub, .inr (6, [.ref fubg, .int ir])), (fubg, .inl (3, 4, .inr (.inl gr))), (fut1, .inl (3, 4, .inr (.inl T1))), (fut2, .inl (3, 4, .inr (.inl T2))), (fut3, .inl (3, 4, .inr (.inl T3))), (gy, .inr (6, [.ref gyg, .int i1])), (gyg, .inl (3, 4, .inr (.inl g1))), (du, .inr (6, [.ref dug, .int i2])), (dug, .inl (3, 4, .inr (.inl g2)))]) rfl ?_
            refine r_astore_nN (lv' := [(3, .null), (0, .ref a), (1, .int 115), (2, .int m)]) d_Ip_charge_37 rfl (by decide) rfl ?_
            refine r_aload_nN d_Ip_charge_38 rfl 0 rfl ?_
            refine r_ifnullN (tgt := 61) d_Ip_charge_39 (by decide) ?_
            refine r_iload_n d_Ip_charge_61 rfl 2 rfl ?_
            refine r_bipush d_Ip_charge_62 (v := 107) (by decide) ?_
            refine r_icmp_ne (tgt := 71) d_Ip_charge_64 (by decide) (fun c_64 => ?_) (fun c_64 => ?_)
            · refine r_iload_n d_Ip_charge_71 rfl 3 rfl ?_
              refine r_istore (lv' := [(4, .int m), (3, .null), (0, .ref a), (1, .int 115), (2, .int m)]) d_Ip_charge_72 (by decide) rfl ?_
              refine r_aload_n d_Ip_charge_74 rfl 2 rfl ?_
              refine r_get fs_Ip_43 d_Ip_charge_75 (q0 := 0) rfl rfl ?_
              refine r_get fs_Ip_277 d_Ip_charge_78 (q0 := 1) rfl rfl ?_
              refine r_get fs_Ip_269 d_Ip_charge_81 (q0 := 2) rfl rfl ?_
              refine r_iload d_Ip_charge_84 0 rfl ?_
              refine r_iadd d_Ip_charge_86 (v := ir + m) rfl ?_
              refine r_sipush d_Ip_charge_87 (v := 3000) (by decide) ?_
              refine r_icmp_le (tgt := 104) d_Ip_charge_90 (by decide) (fun c_90 => ?_) (fun c_90 => ?_)
              · exact absurd hg (Int32.not_lt.mpr c_90)
              · refine r_throwW tb_Ip_242_246 sr_Ip_280 d_Ip_charge_93 d_Ip_charge_96 d_Ip_charge_97 d_Ip_charge_100 d_Ip_charge_103 rfl (by decide) (by decide) (Nat.le_of_ble_eq_true rfl) (by omega) (by omega) ?_
                exact ⟨rfl, rfl⟩
            · exact absurd c_64 (by decide)
        · exact absurd hw (z_b0 c_18)
set_option maxHeartbeats 4000000 in
set_option maxRecDepth 100000 in
theorem C_Ip_charge115N (g : zG) (a pa ta sa gs co fu la gy du re wm ac : Nat) (lab labg gyg dug fub fubg fut1 fut2 fut3 : Nat) (gr T1 T2 T3 g1 g2 : Nat → Int64) (ir i1 i2 : Int32) (io : Int64) (m : Int32) (hw : (1 ≤ m ∧ m ≤ 1000)) (hg : ¬ 3000 < ir + m) : CT g M_Ip_charge [.ref a, .int 115, .int m] [(a, .inr (11, [.ref pa, .ref ta, .ref sa, .ref gs, .ref co, .ref fu, .ref la, .ref gy, .ref du, .ref re, .ref wm, .ref ac])), (fu, .inr (3, [.ref fub, .ref fut1, .ref fut2, .ref fut3, .long io])), (fub, .inr (6, [.ref fubg, .int ir])), (fubg, .inl (3, 4, .inr (.inl gr))), (fut1, .inl (3, 4, .inr (.inl T1))), (fut2, .inl (3, 4, .inr (.inl T2))), (fut3, .inl (3, 4, .inr (.inl T3))), (gy, .inr (6, [.ref gyg, .int i1])), (gyg, .inl (3, 4, .inr (.inl g1))), (du, .inr (6, [.ref dug, .int i2])), (dug, .inl (3, 4, .inr (.inl g2)))] (fun o cs1 => o = .inl (some (.int (ir + m))) ∧ cs1 = [(a, .inr (11, [.ref pa, .ref ta, .ref sa, .ref gs, .ref co, .ref fu, .ref la, .ref gy, .ref du, .ref re, .ref wm, .ref ac])), (fu, .inr (3, [.ref fub, .ref fut1, .ref fut2, .ref fut3, .long (io + (m : Int32).toInt64)])), (fub, .inr (6, [.ref fubg, .int (ir + m)])), (fubg, .inl (3, 4, .inr (.inl (lfd gr (fun e => chS m 1 e / 10) 4)))), (fut1, .inl (3, 4, .inr (.inl (lfd T1 (fun e => chS m 1 e) 4)))), (fut2, .inl (3, 4, .inr (.inl (lfd T2 (fun e => chS m 1 e - chS m 1 e / 10 * 10) 4)))), (fut3, .inl (3, 4, .inr (.inl T3))), (gy, .inr (6, [.ref gyg, .int i1])), (gyg, .inl (3, 4, .inr (.inl g1))), (du, .inr (6, [.ref dug, .int i2])), (dug, .inl (3, 4, .inr (.inl g2)))]) 1 6 := by
  refine z_of (by decide) rfl (Nat.le_of_ble_eq_true rfl) (fun w0 => ?_)
  refine r_lvE (lv2 := [(0, .ref a), (1, .int 115), (2, .int m)]) rfl ?_
  refine r_ldcWS (own := "Ironpour") (i := 1) (by decide) d_Ip_charge_0 ?_
  refine r_iload_n d_Ip_charge_3 rfl 1 rfl ?_
  refine r_callVS (As := [.int 115]) (rest := []) (csC := []) (is := []) (i := 1) (by first | assumption | decide) rfl ln_Ip_83 w_im_String_indexOf_0 w_se_String_indexOf_0 ok_Ip_charge_String_indexOf_0 d_Ip_charge_4 (C_St_indexOf g 1 (by decide) 115) rfl rfl (Nat.le_of_ble_eq_true rfl) rfl (by decide) (by omega) (by omega) (fun E cs1 hx => ?_) (fun v cs1 hx => ?_)
  · exact absurd hx.1 (by simp)
  · obtain ⟨e1, rfl⟩ := hx
    cases e1
    refine ⟨rfl, ?_⟩
    refine r_st (st2 := [.int (z_ix 1 115)]) rfl ?_
    refine r_cs (cs2 := [(a, .inr (11, [.ref pa, .ref ta, .ref sa, .ref gs, .ref co, .ref fu, .ref la, .ref gy, .ref du, .ref re, .ref wm, .ref ac])), (fu, .inr (3, [.ref fub, .ref fut1, .ref fut2, .ref fut3, .long io])), (fub, .inr (6, [.ref fubg, .int ir])), (fubg, .inl (3, 4, .inr (.inl gr))), (fut1, .inl (3, 4, .inr (.inl T1))), (fut2, .inl (3, 4, .inr (.inl T2))), (fut3, .inl (3, 4, .inr (.inl T3))), (gy, .inr (6, [.ref gyg, .int i1])), (gyg, .inl (3, 4, .inr (.inl g1))), (du, .inr (6, [.ref dug, .int i2])), (dug, .inl (3, 4, .inr (.inl g2)))]) rfl ?_
    refine r_if_lt (tgt := 21) d_Ip_charge_7 (by decide) (fun c_7 => ?_) (fun c_7 => ?_)
    · exact absurd c_7 (by decide)
    · refine r_iload_n d_Ip_charge_10 rfl 2 rfl ?_
      refine r_iconst d_Ip_charge_11 (v := 1) (by decide) ?_
      refine r_sipush d_Ip_charge_12 (v := 1000) (by decide) ?_
      refine r_callS (As := [.int m, .int 1, .int 1000]) (rest := []) (csC := []) (is := []) ln_Ip_203 w_st_Ip_isWithin ok_Ip_charge_Ip_isWithin d_Ip_charge_15 (C_Ip_isWithin g m 1 1000) rfl rfl (Nat.le_of_ble_eq_true rfl) rfl (by decide) (by omega) (by omega) (fun E cs1 hx => ?_) (fun v cs1 hx => ?_)
      · exact absurd hx.1 (by simp)
      · obtain ⟨e1, rfl⟩ := hx
        cases e1
        refine ⟨rfl, ?_⟩
        refine r_st (st2 := [.int (if 1 ≤ m ∧ m ≤ 1000 then 1 else 0)]) rfl ?_
        refine r_cs (cs2 := [(a, .inr (11, [.ref pa, .ref ta, .ref sa, .ref gs, .ref co, .ref fu, .ref la, .ref gy, .ref du, .ref re, .ref wm, .ref ac])), (fu, .inr (3, [.ref fub, .ref fut1, .ref fut2, .ref fut3, .long io])), (fub, .inr (6, [.ref fubg, .int ir])), (fubg, .inl (3, 4, .inr (.inl gr))), (fut1, .inl (3, 4, .inr (.inl T1))), (fut2, .inl (3, 4, .inr (.inl T2))), (fut3, .inl (3, 4, .inr (.inl T3))), (gy, .inr (6, [.ref gyg, .int i1])), (gyg, .inl (3, 4, .inr (.inl g1))), (du, .inr (6, [.ref dug, .int i2])), (dug, .inl (3, 4, .inr (.inl g2)))]) rfl ?_
        refine r_if_ne (tgt := 32) d_Ip_charge_18 (by decide) (fun c_18 => ?_) (fun c_18 => ?_)
        · refine r_aload_n d_Ip_charge_32 rfl 0 rfl ?_
          refine r_iload_n d_Ip_charge_33 rfl 1 rfl ?_
          refine r_callV (As := [.int 115]) (rest := []) (csC := [(a, .inr (11, [.ref pa, .ref ta, .ref sa, .ref gs, .ref co, .ref fu, .ref la, .ref gy, .ref du, .ref re, .ref wm, .ref ac]))]) (is := [0]) (q0 := 0) rfl rfl ln_Ip_265 w_im_Ip_poolOf w_se_Ip_poolOf ok_Ip_charge_Ip_poolOf d_Ip_charge_34 (C_Ip_poolOfO g a pa ta sa gs co fu la gy du re wm ac 115 (by decide) (by decide)) rfl rfl (Nat.le_of_ble_eq_true rfl) rfl (by decide) (by omega) (by omega) (fun E cs1 hx => ?_) (fun v cs1 hx => ?_)
          · exact absurd hx.1 (by simp)
          · obtain ⟨e1, rfl⟩ := hx
            cases e1
            refine ⟨rfl, ?_⟩
            refine r_st (st2 := [.null]) rfl ?_
            refine r_cs (cs2 := [(a, .inr (11, [.ref pa, .ref ta, .ref sa, .ref gs, .ref co, .ref fu, .ref la, .ref gy, .ref du, .ref re, .ref wm, .ref ac])), (fu, .inr (3, [.ref fub, .ref fut1, .ref fut2, .ref fut3, .long io])), (fub, .inr (6, [.ref fubg, .int ir])), (fubg, .inl (3, 4, .inr (.inl gr))), (fut1, .inl (3, 4, .inr (.inl T1))), (fut2, .inl (3, 4, .inr (.inl T2))), (fut3, .inl (3, 4, .inr (.inl T3))), (gy, .inr (6, [.ref gyg, .int i1])), (gyg, .inl (3, 4, .inr (.inl g1))), (du, .inr (6, [.ref dug, .int i2])), (dug, .inl (3, 4, .inr (.inl g2)))]) rfl ?_
            refine r_astore_nN (lv' := [(3, .null), (0, .ref a), (1, .int 115), (2, .int m)]) d_Ip_charge_37 rfl (by decide) rfl ?_
            refine r_aload_nN d_Ip_charge_38 rfl 0 rfl ?_
            refine r_ifnullN (tgt := 61) d_Ip_charge_39 (by decide) ?_
            refine r_iload_n d_Ip_charge_61 rfl 2 rfl ?_
            refine r_bipush d_Ip_charge_62 (v := 107) (by decide) ?_
            refine r_icmp_ne (tgt := 71) d_Ip_charge_64 (by decide) (fun c_64 => ?_) (fun c_64 => ?_)
            · refine r_iload_n d_Ip_charge_71 rfl 3 rfl ?_
              refine r_istore (lv' := [(4, .int m), (3, .null), (0, .ref a), (1, .int 115), (2, .int m)]) d_Ip_charge_72 (by decide) rfl ?_
              refine r_aload_n d_Ip_charge_74 rfl 2 rfl ?_
              refine r_get fs_Ip_43 d_Ip_charge_75 (q0 := 0) rfl rfl ?_
              refine r_get fs_Ip_277 d_Ip_charge_78 (q0 := 1) rfl rfl ?_
              refine r_get fs_Ip_269 d_Ip_charge_81 (q0 := 2) rfl rfl ?_
              refine r_iload d_Ip_charge_84 0 rfl ?_
              refine r_iadd d_Ip_charge_86 (v := ir + m) rfl ?_
              refine r_sipush d_Ip_charge_87 (v := 3000) (by decide) ?_
              refine r_icmp_le (tgt := 104) d_Ip_charge_90 (by decide) (fun c_90 => ?_) (fun c_90 => ?_)
              · refine r_aload_nN d_Ip_charge_104 rfl 1 rfl ?_
                refine r_ifnullN (tgt := 123) d_Ip_charge_105 (by decide) ?_
                refine r_aload_n d_Ip_charge_123 rfl 2 rfl ?_
                refine r_get fs_Ip_43 d_Ip_charge_124 (q0 := 0) rfl rfl ?_
                refine r_iload_n d_Ip_charge_127 rfl 4 rfl ?_
                refine r_iload d_Ip_charge_128 0 rfl ?_
                refine r_iload_n d_Ip_charge_130 rfl 3 rfl ?_
                refine r_callS (As := [.int 115]) (rest := [.int m, .int m, .ref fu]) (csC := []) (is := []) ln_Ip_286 w_st_Ip_tenthsOf ok_Ip_charge_Ip_tenthsOf d_Ip_charge_131 (C_Ip_tenthsOf115 g) rfl rfl (Nat.le_of_ble_eq_true rfl) rfl (by decide) (by omega) (by omega) (fun E cs1 hx => ?_) (fun v cs1 hx => ?_)
                · exact absurd hx.1 (by simp)
                · obtain ⟨e1, rfl⟩ := hx
                  cases e1
                  refine ⟨rfl, ?_⟩
                  refine r_st (st2 := [.ref (g.2.2 1), .int m, .int m, .ref fu]) rfl ?_
                  refine r_cs (cs2 := [(a, .inr (11, [.ref pa, .ref ta, .ref sa, .ref gs, .ref co, .ref fu, .ref la, .ref gy, .ref du, .ref re, .ref wm, .ref ac])), (fu, .inr (3, [.ref fub, .ref fut1, .ref fut2, .ref fut3, .long io])), (fub, .inr (6, [.ref fubg, .int ir])), (fubg, .inl (3, 4, .inr (.inl gr))), (fut1, .inl (3, 4, .inr (.inl T1))), (fut2, .inl (3, 4, .inr (.inl T2))), (fut3, .inl (3, 4, .inr (.inl T3))), (gy, .inr (6, [.ref gyg, .int i1])), (gyg, .inl (3, 4, .inr (.inl g1))), (du, .inr (6, [.ref dug, .int i2])), (dug, .inl (3, 4, .inr (.inl g2)))]) rfl ?_
                  refine r_callV (As := [.int m, .int m, .ref (g.2.2 1)]) (rest := []) (csC := [(fu, .inr (3, [.ref fub, .ref fut1, .ref fut2, .ref fut3, .long io])), (fub, .inr (6, [.ref fubg, .int ir])), (fubg, .inl (3, 4, .inr (.inl gr))), (fut1, .inl (3, 4, .inr (.inl T1))), (fut2, .inl (3, 4, .inr (.inl T2))), (fut3, .inl (3, 4, .inr (.inl T3)))]) (is := [1, 2, 3, 4, 5, 6]) (q0 := 1) rfl rfl ln_Ip_290 w_im_Fu_takeFromOutside w_se_Fu_takeFromOutside ok_Ip_charge_Fu_takeFromOutside d_Ip_charge_134 (C_Fu_takeFromOutside g fu fub fubg fut1 fut2 fut3 gr T1 T2 T3 ir io m m 1 (by decide)) rfl rfl (Nat.le_of_ble_eq_true rfl) rfl (by decide) (by omega) (by omega) (fun E cs1 hx => ?_) (fun v cs1 hx => ?_)
                  · exact absurd hx.1 (by simp)
                  · obtain ⟨e1, rfl⟩ := hx
                    cases e1
                    refine ⟨rfl, ?_⟩
                    refine r_st (st2 := []) rfl ?_
                    refine r_cs (cs2 := [(a, .inr (11, [.ref pa, .ref ta, .ref sa, .ref gs, .ref co, .ref fu, .ref la, .ref gy, .ref du, .ref re, .ref wm, .ref ac])), (fu, .inr (3, [.ref fub, .ref fut1, .ref fut2, .ref fut3, .long (io + (m : Int32).toInt64)])), (fub, .inr (6, [.ref fubg, .int (ir + m)])), (fubg, .inl (3, 4, .inr (.inl (lfd gr (fun e => chS m 1 e / 10) 4)))), (fut1, .inl (3, 4, .inr (.inl (lfd T1 (fun e => chS m 1 e) 4)))), (fut2, .inl (3, 4, .inr (.inl (lfd T2 (fun e => chS m 1 e - chS m 1 e / 10 * 10) 4)))), (fut3, .inl (3, 4, .inr (.inl T3))), (gy, .inr (6, [.ref gyg, .int i1])), (gyg, .inl (3, 4, .inr (.inl g1))), (du, .inr (6, [.ref dug, .int i2])), (dug, .inl (3, 4, .inr (.inl g2)))]) rfl ?_
                    refine r_aload_n d_Ip_charge_137 rfl 2 rfl ?_
                    refine r_get fs_Ip_43 d_Ip_charge_138 (q0 := 0) rfl rfl ?_
                    refine r_get fs_Ip_277 d_Ip_charge_141 (q0 := 1) rfl rfl ?_
                    refine r_get fs_Ip_269 d_Ip_charge_144 (q0 := 2) rfl rfl ?_
                    refine r_iret d_Ip_charge_147 rfl rfl ?_
                    exact ⟨rfl, rfl⟩
              · exact absurd (Int32.not_le.mp c_90) hg
            · exact absurd c_64 (by decide)
        · exact absurd hw (z_b0 c_18)
set_option maxHeartbeats 4000000 in
set_option maxRecDepth 100000 in
theorem C_Ip_charge102G (g : zG) (a pa ta sa gs co fu la gy du re wm ac : Nat) (lab labg gyg dug fub fubg fut1 fut2 fut3 : Nat) (gr T1 T2 T3 g1 g2 : Nat → Int64) (ir i1 i2 : Int32) (io : Int64) (m : Int32) (hw : (1 ≤ m ∧ m ≤ 1000)) (hg : 3000 < ir + m) : CT g M_Ip_charge [.ref a, .int 102, .int m] [(a, .inr (11, [.ref pa, .ref ta, .ref sa, .ref gs, .ref co, .ref fu, .ref la, .ref gy, .ref du, .ref re, .ref wm, .ref ac])), (fu, .inr (3, [.ref fub, .ref fut1, .ref fut2, .ref fut3, .long io])), (fub, .inr (6, [.ref fubg, .int ir])), (fubg, .inl (3, 4, .inr (.inl gr))), (fut1, .inl (3, 4, .inr (.inl T1))), (fut2, .inl (3, 4, .inr (.inl T2))), (fut3, .inl (3, 4, .inr (.inl T3))), (gy, .inr (6, [.ref gyg, .int i1])), (gyg, .inl (3, 4, .inr (.inl g1))), (du, .inr (6, [.ref dug, .int i2])), (dug, .inl (3, 4, .inr (.inl g2)))] (fun o cs1 => o = .inr "java/lang/IllegalStateException" ∧ cs1 = [(a, .inr (11, [.ref pa, .ref ta, .ref sa, .ref gs, .ref co, .ref fu, .ref la, .ref gy, .ref du, .ref re, .ref wm, .ref ac])), (fu, .inr (3, [.ref fub, .ref fut1, .ref fut2, .ref fut3, .long io])), (fub, .inr (6, [.ref fubg, .int ir])), (fubg, .inl (3, 4, .inr (.inl gr))), (fut1, .inl (3, 4, .inr (.inl T1))), (fut2, .inl (3, 4, .inr (.inl T2))), (fut3, .inl (3, 4, .inr (.inl T3))), (gy, .inr (6, [.ref gyg, .int i1])), (gyg, .inl (3, 4, .inr (.inl g1))), (du, .inr (6, [.ref dug, .int i2])), (dug, .inl (3, 4, .inr (.inl g2)))]) 1 6 := by
  refine z_of (by decide) rfl (Nat.le_of_ble_eq_true rfl) (fun w0 => ?_)
  refine r_lvE (lv2 := [(0, .ref a), (1, .int 102), (2, .int m)]) rfl ?_
  refine r_ldcWS (own := "Ironpour") (i := 1) (by decide) d_Ip_charge_0 ?_
  refine r_iload_n d_Ip_charge_3 rfl 1 rfl ?_
  refine r_callVS (As := [.int 102]) (rest := []) (csC := []) (is := []) (i := 1) (by first | assumption | decide) rfl ln_Ip_83 w_im_String_indexOf_0 w_se_String_indexOf_0 ok_Ip_charge_String_indexOf_0 d_Ip_charge_4 (C_St_indexOf g 1 (by decide) 102) rfl rfl (Nat.le_of_ble_eq_true rfl) rfl (by decide) (by omega) (by omega) (fun E cs1 hx => ?_) (fun v cs1 hx => ?_)
  · exact absurd hx.1 (by simp)
  · obtain ⟨e1, rfl⟩ := hx
    cases e1
    refine ⟨rfl, ?_⟩
    refine r_st (st2 := [.int (z_ix 1 102)]) rfl ?_
    refine r_cs (cs2 := [(a, .inr (11, [.ref pa, .ref ta, .ref sa, .ref gs, .ref co, .ref fu, .ref la, .ref gy, .ref du, .ref re, .ref wm, .ref ac])), (fu, .inr (3, [.ref fub, .ref fut1, .ref fut2, .ref fut3, .long io])), (fub, .inr (6, [.ref fubg, .int ir])), (fubg, .inl (3, 4, .inr (.inl gr))), (fut1, .inl (3, 4, .inr (.inl T1))), (fut2, .inl (3, 4, .inr (.inl T2))), (fut3, .inl (3, 4, .inr (.inl T3))), (gy, .inr (6, [.ref gyg, .int i1])), (gyg, .inl (3, 4, .inr (.inl g1))), (du, .inr (6, [.ref dug, .int i2])), (dug, .inl (3, 4, .inr (.inl g2)))]) rfl ?_
    refine r_if_lt (tgt := 21) d_Ip_charge_7 (by decide) (fun c_7 => ?_) (fun c_7 => ?_)
    · exact absurd c_7 (by decide)
    · refine r_iload_n d_Ip_charge_10 rfl 2 rfl ?_
      refine r_iconst d_Ip_charge_11 (v := 1) (by decide) ?_
      refine r_sipush d_Ip_charge_12 (v := 1000) (by decide) ?_
      refine r_callS (As := [.int m, .int 1, .int 1000]) (rest := []) (csC := []) (is := []) ln_Ip_203 w_st_Ip_isWithin ok_Ip_charge_Ip_isWithin d_Ip_charge_15 (C_Ip_isWithin g m 1 1000) rfl rfl (Nat.le_of_ble_eq_true rfl) rfl (by decide) (by omega) (by omega) (fun E cs1 hx => ?_) (fun v cs1 hx => ?_)
      · exact absurd hx.1 (by simp)
      · obtain ⟨e1, rfl⟩ := hx
        cases e1
        refine ⟨rfl, ?_⟩
        refine r_st (st2 := [.int (if 1 ≤ m ∧ m ≤ 1000 then 1 else 0)]) rfl ?_
        refine r_cs (cs2 := [(a, .inr (11, [.ref pa, .ref ta, .ref sa, .ref gs, .ref co, .ref fu, .ref la, .ref gy, .ref du, .ref re, .ref wm, .ref ac])), (fu, .inr (3, [.ref fub, .ref fut1, .ref fut2, .ref fut3, .long io])), (fub, .inr (6, [.ref fubg, .int ir])), (fubg, .inl (3, 4, .inr (.inl gr))), (fut1, .inl (3, 4, .inr (.inl T1))), (fut2, .inl (3, 4, .inr (.inl T2))), (fut3, .inl (3, 4, .inr (.inl T3))), (gy, .inr (6, [.ref gyg, .int i1])), (gyg, .inl (3, 4, .inr (.inl g1))), (du, .inr (6, [.ref dug, .int i2])), (dug, .inl (3, 4, .inr (.inl g2)))]) rfl ?_
        refine r_if_ne (tgt := 32) d_Ip_charge_18 (by decide) (fun c_18 => ?_) (fun c_18 => ?_)
        · refine r_aload_n d_Ip_charge_32 rfl 0 rfl ?_
          refine r_iload_n d_Ip_charge_33 rfl 1 rfl ?_
          refine r_callV (As := [.int 102]) (rest := []) (csC := [(a, .inr (11, [.ref pa, .ref ta, .ref sa, .ref gs, .ref co, .ref fu, .ref la, .ref gy, .ref du, .ref re, .ref wm, .ref ac]))]) (is := [0]) (q0 := 0) rfl rfl ln_Ip_265 w_im_Ip_poolOf w_se_Ip_poolOf ok_Ip_charge_Ip_poolOf d_Ip_charge_34 (C_Ip_poolOfO g a pa ta sa gs co fu la gy du re wm ac 102 (by decide) (by decide)) rfl rfl (Nat.le_of_ble_eq_true rfl) rfl (by decide) (by omega) (by omega) (fun E cs1 hx => ?_) (fun v cs1 hx => ?_)
          · exact absurd hx.1 (by simp)
          · obtain ⟨e1, rfl⟩ := hx
            cases e1
            refine ⟨rfl, ?_⟩
            refine r_st (st2 := [.null]) rfl ?_
            refine r_cs (cs2 := [(a, .inr (11, [.ref pa, .ref ta, .ref sa, .ref gs, .ref co, .ref fu, .ref la, .ref gy, .ref du, .ref re, .ref wm, .ref ac])), (fu, .inr (3, [.ref fub, .ref fut1, .ref fut2, .ref fut3, .long io])), (fub, .inr (6, [.ref fubg, .int ir])), (fubg, .inl (3, 4, .inr (.inl gr))), (fut1, .inl (3, 4, .inr (.inl T1))), (fut2, .inl (3, 4, .inr (.inl T2))), (fut3, .inl (3, 4, .inr (.inl T3))), (gy, .inr (6, [.ref gyg, .int i1])), (gyg, .inl (3, 4, .inr (.inl g1))), (du, .inr (6, [.ref dug, .int i2])), (dug, .inl (3, 4, .inr (.inl g2)))]) rfl ?_
            refine r_astore_nN (lv' := [(3, .null), (0, .ref a), (1, .int 102), (2, .int m)]) d_Ip_charge_37 rfl (by decide) rfl ?_
            refine r_aload_nN d_Ip_charge_38 rfl 0 rfl ?_
            refine r_ifnullN (tgt := 61) d_Ip_charge_39 (by decide) ?_
            refine r_iload_n d_Ip_charge_61 rfl 2 rfl ?_
            refine r_bipush d_Ip_charge_62 (v := 107) (by decide) ?_
            refine r_icmp_ne (tgt := 71) d_Ip_charge_64 (by decide) (fun c_64 => ?_) (fun c_64 => ?_)
            · refine r_iload_n d_Ip_charge_71 rfl 3 rfl ?_
              refine r_istore (lv' := [(4, .int m), (3, .null), (0, .ref a), (1, .int 102), (2, .int m)]) d_Ip_charge_72 (by decide) rfl ?_
              refine r_aload_n d_Ip_charge_74 rfl 2 rfl ?_
              refine r_get fs_Ip_43 d_Ip_charge_75 (q0 := 0) rfl rfl ?_
              refine r_get fs_Ip_277 d_Ip_charge_78 (q0 := 1) rfl rfl ?_
              refine r_get fs_Ip_269 d_Ip_charge_81 (q0 := 2) rfl rfl ?_
              refine r_iload d_Ip_charge_84 0 rfl ?_
              refine r_iadd d_Ip_charge_86 (v := ir + m) rfl ?_
              refine r_sipush d_Ip_charge_87 (v := 3000) (by decide) ?_
              refine r_icmp_le (tgt := 104) d_Ip_charge_90 (by decide) (fun c_90 => ?_) (fun c_90 => ?_)
              · exact absurd hg (Int32.not_lt.mpr c_90)
              · refine r_throwW tb_Ip_242_246 sr_Ip_280 d_Ip_charge_93 d_Ip_charge_96 d_Ip_charge_97 d_Ip_charge_100 d_Ip_charge_103 rfl (by decide) (by decide) (Nat.le_of_ble_eq_true rfl) (by omega) (by omega) ?_
                exact ⟨rfl, rfl⟩
            · exact absurd c_64 (by decide)
        · exact absurd hw (z_b0 c_18)
set_option maxHeartbeats 4000000 in
set_option maxRecDepth 100000 in
theorem C_Ip_charge102N (g : zG) (a pa ta sa gs co fu la gy du re wm ac : Nat) (lab labg gyg dug fub fubg fut1 fut2 fut3 : Nat) (gr T1 T2 T3 g1 g2 : Nat → Int64) (ir i1 i2 : Int32) (io : Int64) (m : Int32) (hw : (1 ≤ m ∧ m ≤ 1000)) (hg : ¬ 3000 < ir + m) : CT g M_Ip_charge [.ref a, .int 102, .int m] [(a, .inr (11, [.ref pa, .ref ta, .ref sa, .ref gs, .ref co, .ref fu, .ref la, .ref gy, .ref du, .ref re, .ref wm, .ref ac])), (fu, .inr (3, [.ref fub, .ref fut1, .ref fut2, .ref fut3, .long io])), (fub, .inr (6, [.ref fubg, .int ir])), (fubg, .inl (3, 4, .inr (.inl gr))), (fut1, .inl (3, 4, .inr (.inl T1))), (fut2, .inl (3, 4, .inr (.inl T2))), (fut3, .inl (3, 4, .inr (.inl T3))), (gy, .inr (6, [.ref gyg, .int i1])), (gyg, .inl (3, 4, .inr (.inl g1))), (du, .inr (6, [.ref dug, .int i2])), (dug, .inl (3, 4, .inr (.inl g2)))] (fun o cs1 => o = .inl (some (.int (ir + m))) ∧ cs1 = [(a, .inr (11, [.ref pa, .ref ta, .ref sa, .ref gs, .ref co, .ref fu, .ref la, .ref gy, .ref du, .ref re, .ref wm, .ref ac])), (fu, .inr (3, [.ref fub, .ref fut1, .ref fut2, .ref fut3, .long (io + (m : Int32).toInt64)])), (fub, .inr (6, [.ref fubg, .int (ir + m)])), (fubg, .inl (3, 4, .inr (.inl (lfd gr (fun e => chS m 2 e / 10) 4)))), (fut1, .inl (3, 4, .inr (.inl (lfd T1 (fun e => chS m 2 e) 4)))), (fut2, .inl (3, 4, .inr (.inl (lfd T2 (fun e => chS m 2 e - chS m 2 e / 10 * 10) 4)))), (fut3, .inl (3, 4, .inr (.inl T3))), (gy, .inr (6, [.ref gyg, .int i1])), (gyg, .inl (3, 4, .inr (.inl g1))), (du, .inr (6, [.ref dug, .int i2])), (dug, .inl (3, 4, .inr (.inl g2)))]) 1 6 := by
  refine z_of (by decide) rfl (Nat.le_of_ble_eq_true rfl) (fun w0 => ?_)
  refine r_lvE (lv2 := [(0, .ref a), (1, .int 102), (2, .int m)]) rfl ?_
  refine r_ldcWS (own := "Ironpour") (i := 1) (by decide) d_Ip_charge_0 ?_
  refine r_iload_n d_Ip_charge_3 rfl 1 rfl ?_
  refine r_callVS (As := [.int 102]) (rest := []) (csC := []) (is := []) (i := 1) (by first | assumption | decide) rfl ln_Ip_83 w_im_String_indexOf_0 w_se_String_indexOf_0 ok_Ip_charge_String_indexOf_0 d_Ip_charge_4 (C_St_indexOf g 1 (by decide) 102) rfl rfl (Nat.le_of_ble_eq_true rfl) rfl (by decide) (by omega) (by omega) (fun E cs1 hx => ?_) (fun v cs1 hx => ?_)
  · exact absurd hx.1 (by simp)
  · obtain ⟨e1, rfl⟩ := hx
    cases e1
    refine ⟨rfl, ?_⟩
    refine r_st (st2 := [.int (z_ix 1 102)]) rfl ?_
    refine r_cs (cs2 := [(a, .inr (11, [.ref pa, .ref ta, .ref sa, .ref gs, .ref co, .ref fu, .ref la, .ref gy, .ref du, .ref re, .ref wm, .ref ac])), (fu, .inr (3, [.ref fub, .ref fut1, .ref fut2, .ref fut3, .long io])), (fub, .inr (6, [.ref fubg, .int ir])), (fubg, .inl (3, 4, .inr (.inl gr))), (fut1, .inl (3, 4, .inr (.inl T1))), (fut2, .inl (3, 4, .inr (.inl T2))), (fut3, .inl (3, 4, .inr (.inl T3))), (gy, .inr (6, [.ref gyg, .int i1])), (gyg, .inl (3, 4, .inr (.inl g1))), (du, .inr (6, [.ref dug, .int i2])), (dug, .inl (3, 4, .inr (.inl g2)))]) rfl ?_
    refine r_if_lt (tgt := 21) d_Ip_charge_7 (by decide) (fun c_7 => ?_) (fun c_7 => ?_)
    · exact absurd c_7 (by decide)
    · refine r_iload_n d_Ip_charge_10 rfl 2 rfl ?_
      refine r_iconst d_Ip_charge_11 (v := 1) (by decide) ?_
      refine r_sipush d_Ip_charge_12 (v := 1000) (by decide) ?_
      refine r_callS (As := [.int m, .int 1, .int 1000]) (rest := []) (csC := []) (is := []) ln_Ip_203 w_st_Ip_isWithin ok_Ip_charge_Ip_isWithin d_Ip_charge_15 (C_Ip_isWithin g m 1 1000) rfl rfl (Nat.le_of_ble_eq_true rfl) rfl (by decide) (by omega) (by omega) (fun E cs1 hx => ?_) (fun v cs1 hx => ?_)
      · exact absurd hx.1 (by simp)
      · obtain ⟨e1, rfl⟩ := hx
        cases e1
        refine ⟨rfl, ?_⟩
        refine r_st (st2 := [.int (if 1 ≤ m ∧ m ≤ 1000 then 1 else 0)]) rfl ?_
        refine r_cs (cs2 := [(a, .inr (11, [.ref pa, .ref ta, .ref sa, .ref gs, .ref co, .ref fu, .ref la, .ref gy, .ref du, .ref re, .ref wm, .ref ac])), (fu, .inr (3, [.ref fub, .ref fut1, .ref fut2, .ref fut3, .long io])), (fub, .inr (6, [.ref fubg, .int ir])), (fubg, .inl (3, 4, .inr (.inl gr))), (fut1, .inl (3, 4, .inr (.inl T1))), (fut2, .inl (3, 4, .inr (.inl T2))), (fut3, .inl (3, 4, .inr (.inl T3))), (gy, .inr (6, [.ref gyg, .int i1])), (gyg, .inl (3, 4, .inr (.inl g1))), (du, .inr (6, [.ref dug, .int i2])), (dug, .inl (3, 4, .inr (.inl g2)))]) rfl ?_
        refine r_if_ne (tgt := 32) d_Ip_charge_18 (by decide) (fun c_18 => ?_) (fun c_18 => ?_)
        · refine r_aload_n d_Ip_charge_32 rfl 0 rfl ?_
          refine r_iload_n d_Ip_charge_33 rfl 1 rfl ?_
          refine r_callV (As := [.int 102]) (rest := []) (csC := [(a, .inr (11, [.ref pa, .ref ta, .ref sa, .ref gs, .ref co, .ref fu, .ref la, .ref gy, .ref du, .ref re, .ref wm, .ref ac]))]) (is := [0]) (q0 := 0) rfl rfl ln_Ip_265 w_im_Ip_poolOf w_se_Ip_poolOf ok_Ip_charge_Ip_poolOf d_Ip_charge_34 (C_Ip_poolOfO g a pa ta sa gs co fu la gy du re wm ac 102 (by decide) (by decide)) rfl rfl (Nat.le_of_ble_eq_true rfl) rfl (by decide) (by omega) (by omega) (fun E cs1 hx => ?_) (fun v cs1 hx => ?_)
          · exact absurd hx.1 (by simp)
          · obtain ⟨e1, rfl⟩ := hx
            cases e1
            refine ⟨rfl, ?_⟩
            refine r_st (st2 := [.null]) rfl ?_
            refine r_cs (cs2 := [(a, .inr (11, [.ref pa, .ref ta, .ref sa, .ref gs, .ref co, .ref fu, .ref la, .ref gy, .ref du, .ref re, .ref wm, .ref ac])), (fu, .inr (3, [.ref fub, .ref fut1, .ref fut2, .ref fut3, .long io])), (fub, .inr (6, [.ref fubg, .int ir])), (fubg, .inl (3, 4, .inr (.inl gr))), (fut1, .inl (3, 4, .inr (.inl T1))), (fut2, .inl (3, 4, .inr (.inl T2))), (fut3, .inl (3, 4, .inr (.inl T3))), (gy, .inr (6, [.ref gyg, .int i1])), (gyg, .inl (3, 4, .inr (.inl g1))), (du, .inr (6, [.ref dug, .int i2])), (dug, .inl (3, 4, .inr (.inl g2)))]) rfl ?_
            refine r_astore_nN (lv' := [(3, .null), (0, .ref a), (1, .int 102), (2, .int m)]) d_Ip_charge_37 rfl (by decide) rfl ?_
            refine r_aload_nN d_Ip_charge_38 rfl 0 rfl ?_
            refine r_ifnullN (tgt := 61) d_Ip_charge_39 (by decide) ?_
            refine r_iload_n d_Ip_charge_61 rfl 2 rfl ?_
            refine r_bipush d_Ip_charge_62 (v := 107) (by decide) ?_
            refine r_icmp_ne (tgt := 71) d_Ip_charge_64 (by decide) (fun c_64 => ?_) (fun c_64 => ?_)
            · refine r_iload_n d_Ip_charge_71 rfl 3 rfl ?_
              refine r_istore (lv' := [(4, .int m), (3, .null), (0, .ref a), (1, .int 102), (2, .int m)]) d_Ip_charge_72 (by decide) rfl ?_
              refine r_aload_n d_Ip_charge_74 rfl 2 rfl ?_
              refine r_get fs_Ip_43 d_Ip_charge_75 (q0 := 0) rfl rfl ?_
              refine r_get fs_Ip_277 d_Ip_charge_78 (q0 := 1) rfl rfl ?_
              refine r_get fs_Ip_269 d_Ip_charge_81 (q0 := 2) rfl rfl ?_
              refine r_iload d_Ip_charge_84 0 rfl ?_
              refine r_iadd d_Ip_charge_86 (v := ir + m) rfl ?_
              refine r_sipush d_Ip_charge_87 (v := 3000) (by decide) ?_
              refine r_icmp_le (tgt := 104) d_Ip_charge_90 (by decide) (fun c_90 => ?_) (fun c_90 => ?_)
              · refine r_aload_nN d_Ip_charge_104 rfl 1 rfl ?_
                refine r_ifnullN (tgt := 123) d_Ip_charge_105 (by decide) ?_
                refine r_aload_n d_Ip_charge_123 rfl 2 rfl ?_
                refine r_get fs_Ip_43 d_Ip_charge_124 (q0 := 0) rfl rfl ?_
                refine r_iload_n d_Ip_charge_127 rfl 4 rfl ?_
                refine r_iload d_Ip_charge_128 0 rfl ?_
                refine r_iload_n d_Ip_charge_130 rfl 3 rfl ?_
                refine r_callS (As := [.int 102]) (rest := [.int m, .int m, .ref fu]) (csC := []) (is := []) ln_Ip_286 w_st_Ip_tenthsOf ok_Ip_charge_Ip_tenthsOf d_Ip_charge_131 (C_Ip_tenthsOf102 g) rfl rfl (Nat.le_of_ble_eq_true rfl) rfl (by decide) (by omega) (by omega) (fun E cs1 hx => ?_) (fun v cs1 hx => ?_)
                · exact absurd hx.1 (by simp)
                · obtain ⟨e1, rfl⟩ := hx
                  cases e1
                  refine ⟨rfl, ?_⟩
                  refine r_st (st2 := [.ref (g.2.2 2), .int m, .int m, .ref fu]) rfl ?_
                  refine r_cs (cs2 := [(a, .inr (11, [.ref pa, .ref ta, .ref sa, .ref gs, .ref co, .ref fu, .ref la, .ref gy, .ref du, .ref re, .ref wm, .ref ac])), (fu, .inr (3, [.ref fub, .ref fut1, .ref fut2, .ref fut3, .long io])), (fub, .inr (6, [.ref fubg, .int ir])), (fubg, .inl (3, 4, .inr (.inl gr))), (fut1, .inl (3, 4, .inr (.inl T1))), (fut2, .inl (3, 4, .inr (.inl T2))), (fut3, .inl (3, 4, .inr (.inl T3))), (gy, .inr (6, [.ref gyg, .int i1])), (gyg, .inl (3, 4, .inr (.inl g1))), (du, .inr (6, [.ref dug, .int i2])), (dug, .inl (3, 4, .inr (.inl g2)))]) rfl ?_
                  refine r_callV (As := [.int m, .int m, .ref (g.2.2 2)]) (rest := []) (csC := [(fu, .inr (3, [.ref fub, .ref fut1, .ref fut2, .ref fut3, .long io])), (fub, .inr (6, [.ref fubg, .int ir])), (fubg, .inl (3, 4, .inr (.inl gr))), (fut1, .inl (3, 4, .inr (.inl T1))), (fut2, .inl (3, 4, .inr (.inl T2))), (fut3, .inl (3, 4, .inr (.inl T3)))]) (is := [1, 2, 3, 4, 5, 6]) (q0 := 1) rfl rfl ln_Ip_290 w_im_Fu_takeFromOutside w_se_Fu_takeFromOutside ok_Ip_charge_Fu_takeFromOutside d_Ip_charge_134 (C_Fu_takeFromOutside g fu fub fubg fut1 fut2 fut3 gr T1 T2 T3 ir io m m 2 (by decide)) rfl rfl (Nat.le_of_ble_eq_true rfl) rfl (by decide) (by omega) (by omega) (fun E cs1 hx => ?_) (fun v cs1 hx => ?_)
                  · exact absurd hx.1 (by simp)
                  · obtain ⟨e1, rfl⟩ := hx
                    cases e1
                    refine ⟨rfl, ?_⟩
                    refine r_st (st2 := []) rfl ?_
                    refine r_cs (cs2 := [(a, .inr (11, [.ref pa, .ref ta, .ref sa, .ref gs, .ref co, .ref fu, .ref la, .ref gy, .ref du, .ref re, .ref wm, .ref ac])), (fu, .inr (3, [.ref fub, .ref fut1, .ref fut2, .ref fut3, .long (io + (m : Int32).toInt64)])), (fub, .inr (6, [.ref fubg, .int (ir + m)])), (fubg, .inl (3, 4, .inr (.inl (lfd gr (fun e => chS m 2 e / 10) 4)))), (fut1, .inl (3, 4, .inr (.inl (lfd T1 (fun e => chS m 2 e) 4)))), (fut2, .inl (3, 4, .inr (.inl (lfd T2 (fun e => chS m 2 e - chS m 2 e / 10 * 10) 4)))), (fut3, .inl (3, 4, .inr (.inl T3))), (gy, .inr (6, [.ref gyg, .int i1])), (gyg, .inl (3, 4, .inr (.inl g1))), (du, .inr (6, [.ref dug, .int i2])), (dug, .inl (3, 4, .inr (.inl g2)))]) rfl ?_
                    refine r_aload_n d_Ip_charge_137 rfl 2 rfl ?_
                    refine r_get fs_Ip_43 d_Ip_charge_138 (q0 := 0) rfl rfl ?_
                    refine r_get fs_Ip_277 d_Ip_charge_141 (q0 := 1) rfl rfl ?_
                    refine r_get fs_Ip_269 d_Ip_charge_144 (q0 := 2) rfl rfl ?_
                    refine r_iret d_Ip_charge_147 rfl rfl ?_
                    exact ⟨rfl, rfl⟩
              · exact absurd (Int32.not_le.mp c_90) hg
            · exact absurd c_64 (by decide)
        · exact absurd hw (z_b0 c_18)
theorem d_Ip_charge_67 : decode prog_1_method_23_code 67 = .ok (.iconst 0, 1) := zo_3 (zd_b zq_prog_1_method_23_code_2 3 rfl rfl rfl)
theorem d_Ip_charge_68 : decode prog_1_method_23_code 68 = .ok (.goto 4, 3) := zo_167 (d := 0) (e := 4) (zd_b zq_prog_1_method_23_code_2 4 rfl rfl rfl) (zd_b zq_prog_1_method_23_code_2 5 rfl rfl rfl) (zd_b zq_prog_1_method_23_code_2 6 rfl rfl rfl) (by decide +kernel)
set_option maxHeartbeats 4000000 in
set_option maxRecDepth 100000 in
theorem C_Ip_charge107G (g : zG) (a pa ta sa gs co fu la gy du re wm ac : Nat) (lab labg gyg dug fub fubg fut1 fut2 fut3 : Nat) (gr T1 T2 T3 g1 g2 : Nat → Int64) (ir i1 i2 : Int32) (io : Int64) (m : Int32) (hw : (1 ≤ m ∧ m ≤ 1000)) (hg : 3000 < ir + 0) : CT g M_Ip_charge [.ref a, .int 107, .int m] [(a, .inr (11, [.ref pa, .ref ta, .ref sa, .ref gs, .ref co, .ref fu, .ref la, .ref gy, .ref du, .ref re, .ref wm, .ref ac])), (fu, .inr (3, [.ref fub, .ref fut1, .ref fut2, .ref fut3, .long io])), (fub, .inr (6, [.ref fubg, .int ir])), (fubg, .inl (3, 4, .inr (.inl gr))), (fut1, .inl (3, 4, .inr (.inl T1))), (fut2, .inl (3, 4, .inr (.inl T2))), (fut3, .inl (3, 4, .inr (.inl T3))), (gy, .inr (6, [.ref gyg, .int i1])), (gyg, .inl (3, 4, .inr (.inl g1))), (du, .inr (6, [.ref dug, .int i2])), (dug, .inl (3, 4, .inr (.inl g2)))] (fun o cs1 => o = .inr "java/lang/IllegalStateException" ∧ cs1 = [(a, .inr (11, [.ref pa, .ref ta, .ref sa, .ref gs, .ref co, .ref fu, .ref la, .ref gy, .ref du, .ref re, .ref wm, .ref ac])), (fu, .inr (3, [.ref fub, .ref fut1, .ref fut2, .ref fut3, .long io])), (fub, .inr (6, [.ref fubg, .int ir])), (fubg, .inl (3, 4, .inr (.inl gr))), (fut1, .inl (3, 4, .inr (.inl T1))), (fut2, .inl (3, 4, .inr (.inl T2))), (fut3, .inl (3, 4, .inr (.inl T3))), (gy, .inr (6, [.ref gyg, .int i1])), (gyg, .inl (3, 4, .inr (.inl g1))), (du, .inr (6, [.ref dug, .int i2])), (dug, .inl (3, 4, .inr (.inl g2)))]) 1 6 := by
  refine z_of (by decide) rfl (Nat.le_of_ble_eq_true rfl) (fun w0 => ?_)
  refine r_lvE (lv2 := [(0, .ref a), (1, .int 107), (2, .int m)]) rfl ?_
  refine r_ldcWS (own := "Ironpour") (i := 1) (by decide) d_Ip_charge_0 ?_
  refine r_iload_n d_Ip_charge_3 rfl 1 rfl ?_
  refine r_callVS (As := [.int 107]) (rest := []) (csC := []) (is := []) (i := 1) (by first | assumption | decide) rfl ln_Ip_83 w_im_String_indexOf_0 w_se_String_indexOf_0 ok_Ip_charge_String_indexOf_0 d_Ip_charge_4 (C_St_indexOf g 1 (by decide) 107) rfl rfl (Nat.le_of_ble_eq_true rfl) rfl (by decide) (by omega) (by omega) (fun E cs1 hx => ?_) (fun v cs1 hx => ?_)
  · exact absurd hx.1 (by simp)
  · obtain ⟨e1, rfl⟩ := hx
    cases e1
    refine ⟨rfl, ?_⟩
    refine r_st (st2 := [.int (z_ix 1 107)]) rfl ?_
    refine r_cs (cs2 := [(a, .inr (11, [.ref pa, .ref ta, .ref sa, .ref gs, .ref co, .ref fu, .ref la, .ref gy, .ref du, .ref re, .ref wm, .ref ac])), (fu, .inr (3, [.ref fub, .ref fut1, .ref fut2, .ref fut3, .long io])), (fub, .inr (6, [.ref fubg, .int ir])), (fubg, .inl (3, 4, .inr (.inl gr))), (fut1, .inl (3, 4, .inr (.inl T1))), (fut2, .inl (3, 4, .inr (.inl T2))), (fut3, .inl (3, 4, .inr (.inl T3))), (gy, .inr (6, [.ref gyg, .int i1])), (gyg, .inl (3, 4, .inr (.inl g1))), (du, .inr (6, [.ref dug, .int i2])), (dug, .inl (3, 4, .inr (.inl g2)))]) rfl ?_
    refine r_if_lt (tgt := 21) d_Ip_charge_7 (by decide) (fun c_7 => ?_) (fun c_7 => ?_)
    · exact absurd c_7 (by decide)
    · refine r_iload_n d_Ip_charge_10 rfl 2 rfl ?_
      refine r_iconst d_Ip_charge_11 (v := 1) (by decide) ?_
      refine r_sipush d_Ip_charge_12 (v := 1000) (by decide) ?_
      refine r_callS (As := [.int m, .int 1, .int 1000]) (rest := []) (csC := []) (is := []) ln_Ip_203 w_st_Ip_isWithin ok_Ip_charge_Ip_isWithin d_Ip_charge_15 (C_Ip_isWithin g m 1 1000) rfl rfl (Nat.le_of_ble_eq_true rfl) rfl (by decide) (by omega) (by omega) (fun E cs1 hx => ?_) (fun v cs1 hx => ?_)
      · exact absurd hx.1 (by simp)
      · obtain ⟨e1, rfl⟩ := hx
        cases e1
        refine ⟨rfl, ?_⟩
        refine r_st (st2 := [.int (if 1 ≤ m ∧ m ≤ 1000 then 1 else 0)]) rfl ?_
        refine r_cs (cs2 := [(a, .inr (11, [.ref pa, .ref ta, .ref sa, .ref gs, .ref co, .ref fu, .ref la, .ref gy, .ref du, .ref re, .ref wm, .ref ac])), (fu, .inr (3, [.ref fub, .ref fut1, .ref fut2, .ref fut3, .long io])), (fub, .inr (6, [.ref fubg, .int ir])), (fubg, .inl (3, 4, .inr (.inl gr))), (fut1, .inl (3, 4, .inr (.inl T1))), (fut2, .inl (3, 4, .inr (.inl T2))), (fut3, .inl (3, 4, .inr (.inl T3))), (gy, .inr (6, [.ref gyg, .int i1])), (gyg, .inl (3, 4, .inr (.inl g1))), (du, .inr (6, [.ref dug, .int i2])), (dug, .inl (3, 4, .inr (.inl g2)))]) rfl ?_
        refine r_if_ne (tgt := 32) d_Ip_charge_18 (by decide) (fun c_18 => ?_) (fun c_18 => ?_)
        · refine r_aload_n d_Ip_charge_32 rfl 0 rfl ?_
          refine r_iload_n d_Ip_charge_33 rfl 1 rfl ?_
          refine r_callV (As := [.int 107]) (rest := []) (csC := [(a, .inr (11, [.ref pa, .ref ta, .ref sa, .ref gs, .ref co, .ref fu, .ref la, .ref gy, .ref du, .ref re, .ref wm, .ref ac]))]) (is := [0]) (q0 := 0) rfl rfl ln_Ip_265 w_im_Ip_poolOf w_se_Ip_poolOf ok_Ip_charge_Ip_poolOf d_Ip_charge_34 (C_Ip_poolOfO g a pa ta sa gs co fu la gy du re wm ac 107 (by decide) (by decide)) rfl rfl (Nat.le_of_ble_eq_true rfl) rfl (by decide) (by omega) (by omega) (fun E cs1 hx => ?_) (fun v cs1 hx => ?_)
          · exact absurd hx.1 (by simp)
          · obtain ⟨e1, rfl⟩ := hx
            cases e1
            refine ⟨rfl, ?_⟩
            refine r_st (st2 := [.null]) rfl ?_
            refine r_cs (cs2 := [(a, .inr (11, [.ref pa, .ref ta, .ref sa, .ref gs, .ref co, .ref fu, .ref la, .ref gy, .ref du, .ref re, .ref wm, .ref ac])), (fu, .inr (3, [.ref fub, .ref fut1, .ref fut2, .ref fut3, .long io])), (fub, .inr (6, [.ref fubg, .int ir])), (fubg, .inl (3, 4, .inr (.inl gr))), (fut1, .inl (3, 4, .inr (.inl T1))), (fut2, .inl (3, 4, .inr (.inl T2))), (fut3, .inl (3, 4, .inr (.inl T3))), (gy, .inr (6, [.ref gyg, .int i1])), (gyg, .inl (3, 4, .inr (.inl g1))), (du, .inr (6, [.ref dug, .int i2])), (dug, .inl (3, 4, .inr (.inl g2)))]) rfl ?_
            refine r_astore_nN (lv' := [(3, .null), (0, .ref a), (1, .int 107), (2, .int m)]) d_Ip_charge_37 rfl (by decide) rfl ?_
            refine r_aload_nN d_Ip_charge_38 rfl 0 rfl ?_
            refine r_ifnullN (tgt := 61) d_Ip_charge_39 (by decide) ?_
            refine r_iload_n d_Ip_charge_61 rfl 2 rfl ?_
            refine r_bipush d_Ip_charge_62 (v := 107) (by decide) ?_
            refine r_icmp_ne (tgt := 71) d_Ip_charge_64 (by decide) (fun c_64 => ?_) (fun c_64 => ?_)
            · exact absurd c_64 (by decide)
            · refine r_iconst d_Ip_charge_67 (v := 0) (by decide) ?_
              refine r_goto (tgt := 72) d_Ip_charge_68 (by decide) ?_
              refine r_istore (lv' := [(4, .int 0), (3, .null), (0, .ref a), (1, .int 107), (2, .int m)]) d_Ip_charge_72 (by decide) rfl ?_
              refine r_aload_n d_Ip_charge_74 rfl 2 rfl ?_
              refine r_get fs_Ip_43 d_Ip_charge_75 (q0 := 0) rfl rfl ?_
              refine r_get fs_Ip_277 d_Ip_charge_78 (q0 := 1) rfl rfl ?_
              refine r_get fs_Ip_269 d_Ip_charge_81 (q0 := 2) rfl rfl ?_
              refine r_iload d_Ip_charge_84 0 rfl ?_
              refine r_iadd d_Ip_charge_86 (v := ir + 0) rfl ?_
              refine r_sipush d_Ip_charge_87 (v := 3000) (by decide) ?_
              refine r_icmp_le (tgt := 104) d_Ip_charge_90 (by decide) (fun c_90 => ?_) (fun c_90 => ?_)
              · exact absurd hg (Int32.not_lt.mpr c_90)
              · refine r_throwW tb_Ip_242_246 sr_Ip_280 d_Ip_charge_93 d_Ip_charge_96 d_Ip_charge_97 d_Ip_charge_100 d_Ip_charge_103 rfl (by decide) (by decide) (Nat.le_of_ble_eq_true rfl) (by omega) (by omega) ?_
                exact ⟨rfl, rfl⟩
        · exact absurd hw (z_b0 c_18)
set_option maxHeartbeats 4000000 in
set_option maxRecDepth 100000 in
theorem C_Ip_charge107N (g : zG) (a pa ta sa gs co fu la gy du re wm ac : Nat) (lab labg gyg dug fub fubg fut1 fut2 fut3 : Nat) (gr T1 T2 T3 g1 g2 : Nat → Int64) (ir i1 i2 : Int32) (io : Int64) (m : Int32) (hw : (1 ≤ m ∧ m ≤ 1000)) (hg : ¬ 3000 < ir + 0) : CT g M_Ip_charge [.ref a, .int 107, .int m] [(a, .inr (11, [.ref pa, .ref ta, .ref sa, .ref gs, .ref co, .ref fu, .ref la, .ref gy, .ref du, .ref re, .ref wm, .ref ac])), (fu, .inr (3, [.ref fub, .ref fut1, .ref fut2, .ref fut3, .long io])), (fub, .inr (6, [.ref fubg, .int ir])), (fubg, .inl (3, 4, .inr (.inl gr))), (fut1, .inl (3, 4, .inr (.inl T1))), (fut2, .inl (3, 4, .inr (.inl T2))), (fut3, .inl (3, 4, .inr (.inl T3))), (gy, .inr (6, [.ref gyg, .int i1])), (gyg, .inl (3, 4, .inr (.inl g1))), (du, .inr (6, [.ref dug, .int i2])), (dug, .inl (3, 4, .inr (.inl g2)))] (fun o cs1 => o = .inl (some (.int (ir + 0))) ∧ cs1 = [(a, .inr (11, [.ref pa, .ref ta, .ref sa, .ref gs, .ref co, .ref fu, .ref la, .ref gy, .ref du, .ref re, .ref wm, .ref ac])), (fu, .inr (3, [.ref fub, .ref fut1, .ref fut2, .ref fut3, .long (io + (0 : Int32).toInt64)])), (fub, .inr (6, [.ref fubg, .int (ir + 0)])), (fubg, .inl (3, 4, .inr (.inl (lfd gr (fun e => chS m 3 e / 10) 4)))), (fut1, .inl (3, 4, .inr (.inl (lfd T1 (fun e => chS m 3 e) 4)))), (fut2, .inl (3, 4, .inr (.inl (lfd T2 (fun e => chS m 3 e - chS m 3 e / 10 * 10) 4)))), (fut3, .inl (3, 4, .inr (.inl T3))), (gy, .inr (6, [.ref gyg, .int i1])), (gyg, .inl (3, 4, .inr (.inl g1))), (du, .inr (6, [.ref dug, .int i2])), (dug, .inl (3, 4, .inr (.inl g2)))]) 1 6 := by
  refine z_of (by decide) rfl (Nat.le_of_ble_eq_true rfl) (fun w0 => ?_)
  refine r_lvE (lv2 := [(0, .ref a), (1, .int 107), (2, .int m)]) rfl ?_
  refine r_ldcWS (own := "Ironpour") (i := 1) (by decide) d_Ip_charge_0 ?_
  refine r_iload_n d_Ip_charge_3 rfl 1 rfl ?_
  refine r_callVS (As := [.int 107]) (rest := []) (csC := []) (is := []) (i := 1) (by first | assumption | decide) rfl ln_Ip_83 w_im_String_indexOf_0 w_se_String_indexOf_0 ok_Ip_charge_String_indexOf_0 d_Ip_charge_4 (C_St_indexOf g 1 (by decide) 107) rfl rfl (Nat.le_of_ble_eq_true rfl) rfl (by decide) (by omega) (by omega) (fun E cs1 hx => ?_) (fun v cs1 hx => ?_)
  · exact absurd hx.1 (by simp)
  · obtain ⟨e1, rfl⟩ := hx
    cases e1
    refine ⟨rfl, ?_⟩
    refine r_st (st2 := [.int (z_ix 1 107)]) rfl ?_
    refine r_cs (cs2 := [(a, .inr (11, [.ref pa, .ref ta, .ref sa, .ref gs, .ref co, .ref fu, .ref la, .ref gy, .ref du, .ref re, .ref wm, .ref ac])), (fu, .inr (3, [.ref fub, .ref fut1, .ref fut2, .ref fut3, .long io])), (fub, .inr (6, [.ref fubg, .int ir])), (fubg, .inl (3, 4, .inr (.inl gr))), (fut1, .inl (3, 4, .inr (.inl T1))), (fut2, .inl (3, 4, .inr (.inl T2))), (fut3, .inl (3, 4, .inr (.inl T3))), (gy, .inr (6, [.ref gyg, .int i1])), (gyg, .inl (3, 4, .inr (.inl g1))), (du, .inr (6, [.ref dug, .int i2])), (dug, .inl (3, 4, .inr (.inl g2)))]) rfl ?_
    refine r_if_lt (tgt := 21) d_Ip_charge_7 (by decide) (fun c_7 => ?_) (fun c_7 => ?_)
    · exact absurd c_7 (by decide)
    · refine r_iload_n d_Ip_charge_10 rfl 2 rfl ?_
      refine r_iconst d_Ip_charge_11 (v := 1) (by decide) ?_
      refine r_sipush d_Ip_charge_12 (v := 1000) (by decide) ?_
      refine r_callS (As := [.int m, .int 1, .int 1000]) (rest := []) (csC := []) (is := []) ln_Ip_203 w_st_Ip_isWithin ok_Ip_charge_Ip_isWithin d_Ip_charge_15 (C_Ip_isWithin g m 1 1000) rfl rfl (Nat.le_of_ble_eq_true rfl) rfl (by decide) (by omega) (by omega) (fun E cs1 hx => ?_) (fun v cs1 hx => ?_)
      · exact absurd hx.1 (by simp)
      · obtain ⟨e1, rfl⟩ := hx
        cases e1
        refine ⟨rfl, ?_⟩
        refine r_st (st2 := [.int (if 1 ≤ m ∧ m ≤ 1000 then 1 else 0)]) rfl ?_
        refine r_cs (cs2 := [(a, .inr (11, [.ref pa, .ref ta, .ref sa, .ref gs, .ref co, .ref fu, .ref la, .ref gy, .ref du, .ref re, .ref wm, .ref ac])), (fu, .inr (3, [.ref fub, .ref fut1, .ref fut2, .ref fut3, .long io])), (fub, .inr (6, [.ref fubg, .int ir])), (fubg, .inl (3, 4, .inr (.inl gr))), (fut1, .inl (3, 4, .inr (.inl T1))), (fut2, .inl (3, 4, .inr (.inl T2))), (fut3, .inl (3, 4, .inr (.inl T3))), (gy, .inr (6, [.ref gyg, .int i1])), (gyg, .inl (3, 4, .inr (.inl g1))), (du, .inr (6, [.ref dug, .int i2])), (dug, .inl (3, 4, .inr (.inl g2)))]) rfl ?_
        refine r_if_ne (tgt := 32) d_Ip_charge_18 (by decide) (fun c_18 => ?_) (fun c_18 => ?_)
        · refine r_aload_n d_Ip_charge_32 rfl 0 rfl ?_
          refine r_iload_n d_Ip_charge_33 rfl 1 rfl ?_
          refine r_callV (As := [.int 107]) (rest := []) (csC := [(a, .inr (11, [.ref pa, .ref ta, .ref sa, .ref gs, .ref co, .ref fu, .ref la, .ref gy, .ref du, .ref re, .ref wm, .ref ac]))]) (is := [0]) (q0 := 0) rfl rfl ln_Ip_265 w_im_Ip_poolOf w_se_Ip_poolOf ok_Ip_charge_Ip_poolOf d_Ip_charge_34 (C_Ip_poolOfO g a pa ta sa gs co fu la gy du re wm ac 107 (by decide) (by decide)) rfl rfl (Nat.le_of_ble_eq_true rfl) rfl (by decide) (by omega) (by omega) (fun E cs1 hx => ?_) (fun v cs1 hx => ?_)
          · exact absurd hx.1 (by simp)
          · obtain ⟨e1, rfl⟩ := hx
            cases e1
            refine ⟨rfl, ?_⟩
            refine r_st (st2 := [.null]) rfl ?_
            refine r_cs (cs2 := [(a, .inr (11, [.ref pa, .ref ta, .ref sa, .ref gs, .ref co, .ref fu, .ref la, .ref gy, .ref du, .ref re, .ref wm, .ref ac])), (fu, .inr (3, [.ref fub, .ref fut1, .ref fut2, .ref fut3, .long io])), (fub, .inr (6, [.ref fubg, .int ir])), (fubg, .inl (3, 4, .inr (.inl gr))), (fut1, .inl (3, 4, .inr (.inl T1))), (fut2, .inl (3, 4, .inr (.inl T2))), (fut3, .inl (3, 4, .inr (.inl T3))), (gy, .inr (6, [.ref gyg, .int i1])), (gyg, .inl (3, 4, .inr (.inl g1))), (du, .inr (6, [.ref dug, .int i2])), (dug, .inl (3, 4, .inr (.inl g2)))]) rfl ?_
            refine r_astore_nN (lv' := [(3, .null), (0, .ref a), (1, .int 107), (2, .int m)]) d_Ip_charge_37 rfl (by decide) rfl ?_
            refine r_aload_nN d_Ip_charge_38 rfl 0 rfl ?_
            refine r_ifnullN (tgt := 61) d_Ip_charge_39 (by decide) ?_
            refine r_iload_n d_Ip_charge_61 rfl 2 rfl ?_
            refine r_bipush d_Ip_charge_62 (v := 107) (by decide) ?_
            refine r_icmp_ne (tgt := 71) d_Ip_charge_64 (by decide) (fun c_64 => ?_) (fun c_64 => ?_)
            · exact absurd c_64 (by decide)
            · refine r_iconst d_Ip_charge_67 (v := 0) (by decide) ?_
              refine r_goto (tgt := 72) d_Ip_charge_68 (by decide) ?_
              refine r_istore (lv' := [(4, .int 0), (3, .null), (0, .ref a), (1, .int 107), (2, .int m)]) d_Ip_charge_72 (by decide) rfl ?_
              refine r_aload_n d_Ip_charge_74 rfl 2 rfl ?_
              refine r_get fs_Ip_43 d_Ip_charge_75 (q0 := 0) rfl rfl ?_
              refine r_get fs_Ip_277 d_Ip_charge_78 (q0 := 1) rfl rfl ?_
              refine r_get fs_Ip_269 d_Ip_charge_81 (q0 := 2) rfl rfl ?_
              refine r_iload d_Ip_charge_84 0 rfl ?_
              refine r_iadd d_Ip_charge_86 (v := ir + 0) rfl ?_
              refine r_sipush d_Ip_charge_87 (v := 3000) (by decide) ?_
              refine r_icmp_le (tgt := 104) d_Ip_charge_90 (by decide) (fun c_90 => ?_) (fun c_90 => ?_)
              · refine r_aload_nN d_Ip_charge_104 rfl 1 rfl ?_
                refine r_ifnullN (tgt := 123) d_Ip_charge_105 (by decide) ?_
                refine r_aload_n d_Ip_charge_123 rfl 2 rfl ?_
                refine r_get fs_Ip_43 d_Ip_charge_124 (q0 := 0) rfl rfl ?_
                refine r_iload_n d_Ip_charge_127 rfl 4 rfl ?_
                refine r_iload d_Ip_charge_128 0 rfl ?_
                refine r_iload_n d_Ip_charge_130 rfl 3 rfl ?_
                refine r_callS (As := [.int 107]) (rest := [.int 0, .int m, .ref fu]) (csC := []) (is := []) ln_Ip_286 w_st_Ip_tenthsOf ok_Ip_charge_Ip_tenthsOf d_Ip_charge_131 (C_Ip_tenthsOf107 g) rfl rfl (Nat.le_of_ble_eq_true rfl) rfl (by decide) (by omega) (by omega) (fun E cs1 hx => ?_) (fun v cs1 hx => ?_)
                · exact absurd hx.1 (by simp)
                · obtain ⟨e1, rfl⟩ := hx
                  cases e1
                  refine ⟨rfl, ?_⟩
                  refine r_st (st2 := [.ref (g.2.2 3), .int 0, .int m, .ref fu]) rfl ?_
                  refine r_cs (cs2 := [(a, .inr (11, [.ref pa, .ref ta, .ref sa, .ref gs, .ref co, .ref fu, .ref la, .ref gy, .ref du, .ref re, .ref wm, .ref ac])), (fu, .inr (3, [.ref fub, .ref fut1, .ref fut2, .ref fut3, .long io])), (fub, .inr (6, [.ref fubg, .int ir])), (fubg, .inl (3, 4, .inr (.inl gr))), (fut1, .inl (3, 4, .inr (.inl T1))), (fut2, .inl (3, 4, .inr (.inl T2))), (fut3, .inl (3, 4, .inr (.inl T3))), (gy, .inr (6, [.ref gyg, .int i1])), (gyg, .inl (3, 4, .inr (.inl g1))), (du, .inr (6, [.ref dug, .int i2])), (dug, .inl (3, 4, .inr (.inl g2)))]) rfl ?_
                  refine r_callV (As := [.int m, .int 0, .ref (g.2.2 3)]) (rest := []) (csC := [(fu, .inr (3, [.ref fub, .ref fut1, .ref fut2, .ref fut3, .long io])), (fub, .inr (6, [.ref fubg, .int ir])), (fubg, .inl (3, 4, .inr (.inl gr))), (fut1, .inl (3, 4, .inr (.inl T1))), (fut2, .inl (3, 4, .inr (.inl T2))), (fut3, .inl (3, 4, .inr (.inl T3)))]) (is := [1, 2, 3, 4, 5, 6]) (q0 := 1) rfl rfl ln_Ip_290 w_im_Fu_takeFromOutside w_se_Fu_takeFromOutside ok_Ip_charge_Fu_takeFromOutside d_Ip_charge_134 (C_Fu_takeFromOutside g fu fub fubg fut1 fut2 fut3 gr T1 T2 T3 ir io m 0 3 (by decide)) rfl rfl (Nat.le_of_ble_eq_true rfl) rfl (by decide) (by omega) (by omega) (fun E cs1 hx => ?_) (fun v cs1 hx => ?_)
                  · exact absurd hx.1 (by simp)
                  · obtain ⟨e1, rfl⟩ := hx
                    cases e1
                    refine ⟨rfl, ?_⟩
                    refine r_st (st2 := []) rfl ?_
                    refine r_cs (cs2 := [(a, .inr (11, [.ref pa, .ref ta, .ref sa, .ref gs, .ref co, .ref fu, .ref la, .ref gy, .ref du, .ref re, .ref wm, .ref ac])), (fu, .inr (3, [.ref fub, .ref fut1, .ref fut2, .ref fut3, .long (io + (0 : Int32).toInt64)])), (fub, .inr (6, [.ref fubg, .int (ir + 0)])), (fubg, .inl (3, 4, .inr (.inl (lfd gr (fun e => chS m 3 e / 10) 4)))), (fut1, .inl (3, 4, .inr (.inl (lfd T1 (fun e => chS m 3 e) 4)))), (fut2, .inl (3, 4, .inr (.inl (lfd T2 (fun e => chS m 3 e - chS m 3 e / 10 * 10) 4)))), (fut3, .inl (3, 4, .inr (.inl T3))), (gy, .inr (6, [.ref gyg, .int i1])), (gyg, .inl (3, 4, .inr (.inl g1))), (du, .inr (6, [.ref dug, .int i2])), (dug, .inl (3, 4, .inr (.inl g2)))]) rfl ?_
                    refine r_aload_n d_Ip_charge_137 rfl 2 rfl ?_
                    refine r_get fs_Ip_43 d_Ip_charge_138 (q0 := 0) rfl rfl ?_
                    refine r_get fs_Ip_277 d_Ip_charge_141 (q0 := 1) rfl rfl ?_
                    refine r_get fs_Ip_269 d_Ip_charge_144 (q0 := 2) rfl rfl ?_
                    refine r_iret d_Ip_charge_147 rfl rfl ?_
                    exact ⟨rfl, rfl⟩
              · exact absurd (Int32.not_le.mp c_90) hg
        · exact absurd hw (z_b0 c_18)
theorem d_Ip_charge_42 : decode prog_1_method_23_code 42 = .ok (.aload_n 3, 1) := zo_45 (zd_b zq_prog_1_method_23_code_1 10 rfl rfl rfl)
theorem d_Ip_charge_43 : decode prog_1_method_23_code 43 = .ok (.getfield 269, 3) := zo_180 (d := 1) (e := 13) (zd_b zq_prog_1_method_23_code_1 11 rfl rfl rfl) (zd_b zq_prog_1_method_23_code_1 12 rfl rfl rfl) (zd_b zq_prog_1_method_23_code_1 13 rfl rfl rfl)
theorem d_Ip_charge_46 : decode prog_1_method_23_code 46 = .ok (.iload_n 2, 1) := zo_28 (zd_b zq_prog_1_method_23_code_1 14 rfl rfl rfl)
theorem d_Ip_charge_47 : decode prog_1_method_23_code 47 = .ok (.if_icmp .ge 14, 3) := zo_162 (d := 0) (e := 14) (zd_b zq_prog_1_method_23_code_1 15 rfl rfl rfl) (zd_b zq_prog_1_method_23_code_1 16 rfl rfl rfl) (zd_b zq_prog_1_method_23_code_1 17 rfl rfl rfl) (by decide +kernel)
theorem d_Ip_charge_50 : decode prog_1_method_23_code 50 = .ok (.new 272, 3) := zo_187 (d := 1) (e := 16) (zd_b zq_prog_1_method_23_code_1 18 rfl rfl rfl) (zd_b zq_prog_1_method_23_code_1 19 rfl rfl rfl) (zd_b zq_prog_1_method_23_code_1 20 rfl rfl rfl)
theorem sr_Ip_274 : Cond.stringRef "Ironpour" 274 "the pool has not so much" ∈ lw_tbl := z_tb5 (i := 37) rfl
theorem d_Ip_charge_53 : decode prog_1_method_23_code 53 = .ok (.dup, 1) := zo_89 (zd_b zq_prog_1_method_23_code_1 21 rfl rfl rfl)
theorem d_Ip_charge_54 : decode prog_1_method_23_code 54 = .ok (.ldc_w 274, 3) := zo_19 (d := 1) (e := 18) (zd_b zq_prog_1_method_23_code_1 22 rfl rfl rfl) (zd_b zq_prog_1_method_23_code_1 23 rfl rfl rfl) (zd_b zq_prog_1_method_23_code_1 24 rfl rfl rfl)
theorem d_Ip_charge_57 : decode prog_1_method_23_code 57 = .ok (.invokespecial 276, 3) := zo_183 (d := 1) (e := 20) (zd_b zq_prog_1_method_23_code_1 25 rfl rfl rfl) (zd_b zq_prog_1_method_23_code_1 26 rfl rfl rfl) (zd_b zq_prog_1_method_23_code_1 27 rfl rfl rfl)
theorem d_Ip_charge_60 : decode prog_1_method_23_code 60 = .ok (.athrow, 1) := zo_191 (zd_b zq_prog_1_method_23_code_1 28 rfl rfl rfl)
set_option maxHeartbeats 4000000 in
set_option maxRecDepth 100000 in
theorem C_Ip_charge103F (g : zG) (a pa ta sa gs co fu la gy du re wm ac : Nat) (lab labg gyg dug fub fubg fut1 fut2 fut3 : Nat) (gr T1 T2 T3 g1 g2 : Nat → Int64) (ir i1 i2 : Int32) (io : Int64) (m : Int32) (hw : (1 ≤ m ∧ m ≤ 1000)) (hf : i1 < m) : CT g M_Ip_charge [.ref a, .int 103, .int m] [(a, .inr (11, [.ref pa, .ref ta, .ref sa, .ref gs, .ref co, .ref fu, .ref la, .ref gy, .ref du, .ref re, .ref wm, .ref ac])), (fu, .inr (3, [.ref fub, .ref fut1, .ref fut2, .ref fut3, .long io])), (fub, .inr (6, [.ref fubg, .int ir])), (fubg, .inl (3, 4, .inr (.inl gr))), (fut1, .inl (3, 4, .inr (.inl T1))), (fut2, .inl (3, 4, .inr (.inl T2))), (fut3, .inl (3, 4, .inr (.inl T3))), (gy, .inr (6, [.ref gyg, .int i1])), (gyg, .inl (3, 4, .inr (.inl g1))), (du, .inr (6, [.ref dug, .int i2])), (dug, .inl (3, 4, .inr (.inl g2)))] (fun o cs1 => o = .inr "java/lang/UnsupportedOperationException" ∧ cs1 = [(a, .inr (11, [.ref pa, .ref ta, .ref sa, .ref gs, .ref co, .ref fu, .ref la, .ref gy, .ref du, .ref re, .ref wm, .ref ac])), (fu, .inr (3, [.ref fub, .ref fut1, .ref fut2, .ref fut3, .long io])), (fub, .inr (6, [.ref fubg, .int ir])), (fubg, .inl (3, 4, .inr (.inl gr))), (fut1, .inl (3, 4, .inr (.inl T1))), (fut2, .inl (3, 4, .inr (.inl T2))), (fut3, .inl (3, 4, .inr (.inl T3))), (gy, .inr (6, [.ref gyg, .int i1])), (gyg, .inl (3, 4, .inr (.inl g1))), (du, .inr (6, [.ref dug, .int i2])), (dug, .inl (3, 4, .inr (.inl g2)))]) 1 6 := by
  refine z_of (by decide) rfl (Nat.le_of_ble_eq_true rfl) (fun w0 => ?_)
  refine r_lvE (lv2 := [(0, .ref a), (1, .int 103), (2, .int m)]) rfl ?_
  refine r_ldcWS (own := "Ironpour") (i := 1) (by decide) d_Ip_charge_0 ?_
  refine r_iload_n d_Ip_charge_3 rfl 1 rfl ?_
  refine r_callVS (As := [.int 103]) (rest := []) (csC := []) (is := []) (i := 1) (by first | assumption | decide) rfl ln_Ip_83 w_im_String_indexOf_0 w_se_String_indexOf_0 ok_Ip_charge_String_indexOf_0 d_Ip_charge_4 (C_St_indexOf g 1 (by decide) 103) rfl rfl (Nat.le_of_ble_eq_true rfl) rfl (by decide) (by omega) (by omega) (fun E cs1 hx => ?_) (fun v cs1 hx => ?_)
  · exact absurd hx.1 (by simp)
  · obtain ⟨e1, rfl⟩ := hx
    cases e1
    refine ⟨rfl, ?_⟩
    refine r_st (st2 := [.int (z_ix 1 103)]) rfl ?_
    refine r_cs (cs2 := [(a, .inr (11, [.ref pa, .ref ta, .ref sa, .ref gs, .ref co, .ref fu, .ref la, .ref gy, .ref du, .ref re, .ref wm, .ref ac])), (fu, .inr (3, [.ref fub, .ref fut1, .ref fut2, .ref fut3, .long io])), (fub, .inr (6, [.ref fubg, .int ir])), (fubg, .inl (3, 4, .inr (.inl gr))), (fut1, .inl (3, 4, .inr (.inl T1))), (fut2, .inl (3, 4, .inr (.inl T2))), (fut3, .inl (3, 4, .inr (.inl T3))), (gy, .inr (6, [.ref gyg, .int i1])), (gyg, .inl (3, 4, .inr (.inl g1))), (du, .inr (6, [.ref dug, .int i2])), (dug, .inl (3, 4, .inr (.inl g2)))]) rfl ?_
    refine r_if_lt (tgt := 21) d_Ip_charge_7 (by decide) (fun c_7 => ?_) (fun c_7 => ?_)
    · exact absurd c_7 (by decide)
    · refine r_iload_n d_Ip_charge_10 rfl 2 rfl ?_
      refine r_iconst d_Ip_charge_11 (v := 1) (by decide) ?_
      refine r_sipush d_Ip_charge_12 (v := 1000) (by decide) ?_
      refine r_callS (As := [.int m, .int 1, .int 1000]) (rest := []) (csC := []) (is := []) ln_Ip_203 w_st_Ip_isWithin ok_Ip_charge_Ip_isWithin d_Ip_charge_15 (C_Ip_isWithin g m 1 1000) rfl rfl (Nat.le_of_ble_eq_true rfl) rfl (by decide) (by omega) (by omega) (fun E cs1 hx => ?_) (fun v cs1 hx => ?_)
      · exact absurd hx.1 (by simp)
      · obtain ⟨e1, rfl⟩ := hx
        cases e1
        refine ⟨rfl, ?_⟩
        refine r_st (st2 := [.int (if 1 ≤ m ∧ m ≤ 1000 then 1 else 0)]) rfl ?_
        refine r_cs (cs2 := [(a, .inr (11, [.ref pa, .ref ta, .ref sa, .ref gs, .ref co, .ref fu, .ref la, .ref gy, .ref du, .ref re, .ref wm, .ref ac])), (fu, .inr (3, [.ref fub, .ref fut1, .ref fut2, .ref fut3, .long io])), (fub, .inr (6, [.ref fubg, .int ir])), (fubg, .inl (3, 4, .inr (.inl gr))), (fut1, .inl (3, 4, .inr (.inl T1))), (fut2, .inl (3, 4, .inr (.inl T2))), (fut3, .inl (3, 4, .inr (.inl T3))), (gy, .inr (6, [.ref gyg, .int i1])), (gyg, .inl (3, 4, .inr (.inl g1))), (du, .inr (6, [.ref dug, .int i2])), (dug, .inl (3, 4, .inr (.inl g2)))]) rfl ?_
        refine r_if_ne (tgt := 32) d_Ip_charge_18 (by decide) (fun c_18 => ?_) (fun c_18 => ?_)
        · refine r_aload_n d_Ip_charge_32 rfl 0 rfl ?_
          refine r_iload_n d_Ip_charge_33 rfl 1 rfl ?_
          refine r_callV (As := [.int 103]) (rest := []) (csC := [(a, .inr (11, [.ref pa, .ref ta, .ref sa, .ref gs, .ref co, .ref fu, .ref la, .ref gy, .ref du, .ref re, .ref wm, .ref ac]))]) (is := [0]) (q0 := 0) rfl rfl ln_Ip_265 w_im_Ip_poolOf w_se_Ip_poolOf ok_Ip_charge_Ip_poolOf d_Ip_charge_34 (C_Ip_poolOfG g a pa ta sa gs co fu la gy du re wm ac) rfl rfl (Nat.le_of_ble_eq_true rfl) rfl (by decide) (by omega) (by omega) (fun E cs1 hx => ?_) (fun v cs1 hx => ?_)
          · exact absurd hx.1 (by simp)
          · obtain ⟨e1, rfl⟩ := hx
            cases e1
            refine ⟨rfl, ?_⟩
            refine r_st (st2 := [.ref gy]) rfl ?_
            refine r_cs (cs2 := [(a, .inr (11, [.ref pa, .ref ta, .ref sa, .ref gs, .ref co, .ref fu, .ref la, .ref gy, .ref du, .ref re, .ref wm, .ref ac])), (fu, .inr (3, [.ref fub, .ref fut1, .ref fut2, .ref fut3, .long io])), (fub, .inr (6, [.ref fubg, .int ir])), (fubg, .inl (3, 4, .inr (.inl gr))), (fut1, .inl (3, 4, .inr (.inl T1))), (fut2, .inl (3, 4, .inr (.inl T2))), (fut3, .inl (3, 4, .inr (.inl T3))), (gy, .inr (6, [.ref gyg, .int i1])), (gyg, .inl (3, 4, .inr (.inl g1))), (du, .inr (6, [.ref dug, .int i2])), (dug, .inl (3, 4, .inr (.inl g2)))]) rfl ?_
            refine r_astore_n (lv' := [(3, .ref gy), (0, .ref a), (1, .int 103), (2, .int m)]) d_Ip_charge_37 rfl (by decide) rfl ?_
            refine r_aload_n d_Ip_charge_38 rfl 0 rfl ?_
            refine r_ifnull d_Ip_charge_39 ?_
            refine r_aload_n d_Ip_charge_42 rfl 0 rfl ?_
            refine r_get fs_Ip_269 d_Ip_charge_43 (q0 := 7) rfl rfl ?_
            refine r_iload_n d_Ip_charge_46 rfl 3 rfl ?_
            refine r_icmp_ge (tgt := 61) d_Ip_charge_47 (by decide) (fun c_47 => ?_) (fun c_47 => ?_)
            · exact absurd hf (Int32.not_lt.mpr c_47)
            · refine r_throwW tb_Ip_272_276 sr_Ip_274 d_Ip_charge_50 d_Ip_charge_53 d_Ip_charge_54 d_Ip_charge_57 d_Ip_charge_60 rfl (by decide) (by decide) (Nat.le_of_ble_eq_true rfl) (by omega) (by omega) ?_
              exact ⟨rfl, rfl⟩
        · exact absurd hw (z_b0 c_18)
set_option maxHeartbeats 4000000 in
set_option maxRecDepth 100000 in
theorem C_Ip_charge103G (g : zG) (a pa ta sa gs co fu la gy du re wm ac : Nat) (lab labg gyg dug fub fubg fut1 fut2 fut3 : Nat) (gr T1 T2 T3 g1 g2 : Nat → Int64) (ir i1 i2 : Int32) (io : Int64) (m : Int32) (hw : (1 ≤ m ∧ m ≤ 1000)) (hf : ¬ i1 < m) (hg : 3000 < ir + m) : CT g M_Ip_charge [.ref a, .int 103, .int m] [(a, .inr (11, [.ref pa, .ref ta, .ref sa, .ref gs, .ref co, .ref fu, .ref la, .ref gy, .ref du, .ref re, .ref wm, .ref ac])), (fu, .inr (3, [.ref fub, .ref fut1, .ref fut2, .ref fut3, .long io])), (fub, .inr (6, [.ref fubg, .int ir])), (fubg, .inl (3, 4, .inr (.inl gr))), (fut1, .inl (3, 4, .inr (.inl T1))), (fut2, .inl (3, 4, .inr (.inl T2))), (fut3, .inl (3, 4, .inr (.inl T3))), (gy, .inr (6, [.ref gyg, .int i1])), (gyg, .inl (3, 4, .inr (.inl g1))), (du, .inr (6, [.ref dug, .int i2])), (dug, .inl (3, 4, .inr (.inl g2)))] (fun o cs1 => o = .inr "java/lang/IllegalStateException" ∧ cs1 = [(a, .inr (11, [.ref pa, .ref ta, .ref sa, .ref gs, .ref co, .ref fu, .ref la, .ref gy, .ref du, .ref re, .ref wm, .ref ac])), (fu, .inr (3, [.ref fub, .ref fut1, .ref fut2, .ref fut3, .long io])), (fub, .inr (6, [.ref fubg, .int ir])), (fubg, .inl (3, 4, .inr (.inl gr))), (fut1, .inl (3, 4, .inr (.inl T1))), (fut2, .inl (3, 4, .inr (.inl T2))), (fut3, .inl (3, 4, .inr (.inl T3))), (gy, .inr (6, [.ref gyg, .int i1])), (gyg, .inl (3, 4, .inr (.inl g1))), (du, .inr (6, [.ref dug, .int i2])), (dug, .inl (3, 4, .inr (.inl g2)))]) 1 6 := by
  refine z_of (by decide) rfl (Nat.le_of_ble_eq_true rfl) (fun w0 => ?_)
  refine r_lvE (lv2 := [(0, .ref a), (1, .int 103), (2, .int m)]) rfl ?_
  refine r_ldcWS (own := "Ironpour") (i := 1) (by decide) d_Ip_charge_0 ?_
  refine r_iload_n d_Ip_charge_3 rfl 1 rfl ?_
  refine r_callVS (As := [.int 103]) (rest := []) (csC := []) (is := []) (i := 1) (by first | assumption | decide) rfl ln_Ip_83 w_im_String_indexOf_0 w_se_String_indexOf_0 ok_Ip_charge_String_indexOf_0 d_Ip_charge_4 (C_St_indexOf g 1 (by decide) 103) rfl rfl (Nat.le_of_ble_eq_true rfl) rfl (by decide) (by omega) (by omega) (fun E cs1 hx => ?_) (fun v cs1 hx => ?_)
  · exact absurd hx.1 (by simp)
  · obtain ⟨e1, rfl⟩ := hx
    cases e1
    refine ⟨rfl, ?_⟩
    refine r_st (st2 := [.int (z_ix 1 103)]) rfl ?_
    refine r_cs (cs2 := [(a, .inr (11, [.ref pa, .ref ta, .ref sa, .ref gs, .ref co, .ref fu, .ref la, .ref gy, .ref du, .ref re, .ref wm, .ref ac])), (fu, .inr (3, [.ref fub, .ref fut1, .ref fut2, .ref fut3, .long io])), (fub, .inr (6, [.ref fubg, .int ir])), (fubg, .inl (3, 4, .inr (.inl gr))), (fut1, .inl (3, 4, .inr (.inl T1))), (fut2, .inl (3, 4, .inr (.inl T2))), (fut3, .inl (3, 4, .inr (.inl T3))), (gy, .inr (6, [.ref gyg, .int i1])), (gyg, .inl (3, 4, .inr (.inl g1))), (du, .inr (6, [.ref dug, .int i2])), (dug, .inl (3, 4, .inr (.inl g2)))]) rfl ?_
    refine r_if_lt (tgt := 21) d_Ip_charge_7 (by decide) (fun c_7 => ?_) (fun c_7 => ?_)
    · exact absurd c_7 (by decide)
    · refine r_iload_n d_Ip_charge_10 rfl 2 rfl ?_
      refine r_iconst d_Ip_charge_11 (v := 1) (by decide) ?_
      refine r_sipush d_Ip_charge_12 (v := 1000) (by decide) ?_
      refine r_callS (As := [.int m, .int 1, .int 1000]) (rest := []) (csC := []) (is := []) ln_Ip_203 w_st_Ip_isWithin ok_Ip_charge_Ip_isWithin d_Ip_charge_15 (C_Ip_isWithin g m 1 1000) rfl rfl (Nat.le_of_ble_eq_true rfl) rfl (by decide) (by omega) (by omega) (fun E cs1 hx => ?_) (fun v cs1 hx => ?_)
      · exact absurd hx.1 (by simp)
      · obtain ⟨e1, rfl⟩ := hx
        cases e1
        refine ⟨rfl, ?_⟩
        refine r_st (st2 := [.int (if 1 ≤ m ∧ m ≤ 1000 then 1 else 0)]) rfl ?_
        refine r_cs (cs2 := [(a, .inr (11, [.ref pa, .ref ta, .ref sa, .ref gs, .ref co, .ref fu, .ref la, .ref gy, .ref du, .ref re, .ref wm, .ref ac])), (fu, .inr (3, [.ref fub, .ref fut1, .ref fut2, .ref fut3, .long io])), (fub, .inr (6, [.ref fubg, .int ir])), (fubg, .inl (3, 4, .inr (.inl gr))), (fut1, .inl (3, 4, .inr (.inl T1))), (fut2, .inl (3, 4, .inr (.inl T2))), (fut3, .inl (3, 4, .inr (.inl T3))), (gy, .inr (6, [.ref gyg, .int i1])), (gyg, .inl (3, 4, .inr (.inl g1))), (du, .inr (6, [.ref dug, .int i2])), (dug, .inl (3, 4, .inr (.inl g2)))]) rfl ?_
        refine r_if_ne (tgt := 32) d_Ip_charge_18 (by decide) (fun c_18 => ?_) (fun c_18 => ?_)
        · refine r_aload_n d_Ip_charge_32 rfl 0 rfl ?_
          refine r_iload_n d_Ip_charge_33 rfl 1 rfl ?_
          refine r_callV (As := [.int 103]) (rest := []) (csC := [(a, .inr (11, [.ref pa, .ref ta, .ref sa, .ref gs, .ref co, .ref fu, .ref la, .ref gy, .ref du, .ref re, .ref wm, .ref ac]))]) (is := [0]) (q0 := 0) rfl rfl ln_Ip_265 w_im_Ip_poolOf w_se_Ip_poolOf ok_Ip_charge_Ip_poolOf d_Ip_charge_34 (C_Ip_poolOfG g a pa ta sa gs co fu la gy du re wm ac) rfl rfl (Nat.le_of_ble_eq_true rfl) rfl (by decide) (by omega) (by omega) (fun E cs1 hx => ?_) (fun v cs1 hx => ?_)
          · exact absurd hx.1 (by simp)
          · obtain ⟨e1, rfl⟩ := hx
            cases e1
            refine ⟨rfl, ?_⟩
            refine r_st (st2 := [.ref gy]) rfl ?_
            refine r_cs (cs2 := [(a, .inr (11, [.ref pa, .ref ta, .ref sa, .ref gs, .ref co, .ref fu, .ref la, .ref gy, .ref du, .ref re, .ref wm, .ref ac])), (fu, .inr (3, [.ref fub, .ref fut1, .ref fut2, .ref fut3, .long io])), (fub, .inr (6, [.ref fubg, .int ir])), (fubg, .inl (3, 4, .inr (.inl gr))), (fut1, .inl (3, 4, .inr (.inl T1))), (fut2, .inl (3, 4, .inr (.inl T2))), (fut3, .inl (3, 4, .inr (.inl T3))), (gy, .inr (6, [.ref gyg, .int i1])), (gyg, .inl (3, 4, .inr (.inl g1))), (du, .inr (6, [.ref dug, .int i2])), (dug, .inl (3, 4, .inr (.inl g2)))]) rfl ?_
            refine r_astore_n (lv' := [(3, .ref gy), (0, .ref a), (1, .int 103), (2, .int m)]) d_Ip_charge_37 rfl (by decide) rfl ?_
            refine r_aload_n d_Ip_charge_38 rfl 0 rfl ?_
            refine r_ifnull d_Ip_charge_39 ?_
            refine r_aload_n d_Ip_charge_42 rfl 0 rfl ?_
            refine r_get fs_Ip_269 d_Ip_charge_43 (q0 := 7) rfl rfl ?_
            refine r_iload_n d_Ip_charge_46 rfl 3 rfl ?_
            refine r_icmp_ge (tgt := 61) d_Ip_charge_47 (by decide) (fun c_47 => ?_) (fun c_47 => ?_)
            · refine r_iload_n d_Ip_charge_61 rfl 2 rfl ?_
              refine r_bipush d_Ip_charge_62 (v := 107) (by decide) ?_
              refine r_icmp_ne (tgt := 71) d_Ip_charge_64 (by decide) (fun c_64 => ?_) (fun c_64 => ?_)
              · refine r_iload_n d_Ip_charge_71 rfl 3 rfl ?_
                refine r_istore (lv' := [(4, .int m), (3, .ref gy), (0, .ref a), (1, .int 103), (2, .int m)]) d_Ip_charge_72 (by decide) rfl ?_
                refine r_aload_n d_Ip_charge_74 rfl 2 rfl ?_
                refine r_get fs_Ip_43 d_Ip_charge_75 (q0 := 0) rfl rfl ?_
                refine r_get fs_Ip_277 d_Ip_charge_78 (q0 := 1) rfl rfl ?_
                refine r_get fs_Ip_269 d_Ip_charge_81 (q0 := 2) rfl rfl ?_
                refine r_iload d_Ip_charge_84 0 rfl ?_
                refine r_iadd d_Ip_charge_86 (v := ir + m) rfl ?_
                refine r_sipush d_Ip_charge_87 (v := 3000) (by decide) ?_
                refine r_icmp_le (tgt := 104) d_Ip_charge_90 (by decide) (fun c_90 => ?_) (fun c_90 => ?_)
                · exact absurd hg (Int32.not_lt.mpr c_90)
                · refine r_throwW tb_Ip_242_246 sr_Ip_280 d_Ip_charge_93 d_Ip_charge_96 d_Ip_charge_97 d_Ip_charge_100 d_Ip_charge_103 rfl (by decide) (by decide) (Nat.le_of_ble_eq_true rfl) (by omega) (by omega) ?_
                  exact ⟨rfl, rfl⟩
              · exact absurd c_64 (by decide)
            · exact absurd (Int32.not_le.mp c_47) hf
        · exact absurd hw (z_b0 c_18)
theorem d_Ip_charge_108 : decode prog_1_method_23_code 108 = .ok (.aload_n 3, 1) := zo_45 (zd_b zq_prog_1_method_23_code_3 12 rfl rfl rfl)
theorem d_Ip_charge_109 : decode prog_1_method_23_code 109 = .ok (.aload_n 0, 1) := zo_42 (zd_b zq_prog_1_method_23_code_3 13 rfl rfl rfl)
theorem d_Ip_charge_110 : decode prog_1_method_23_code 110 = .ok (.getfield 43, 3) := zo_180 (d := 0) (e := 43) (zd_b zq_prog_1_method_23_code_3 14 rfl rfl rfl) (zd_b zq_prog_1_method_23_code_3 15 rfl rfl rfl) (zd_b zq_prog_1_method_23_code_3 16 rfl rfl rfl)
theorem d_Ip_charge_113 : decode prog_1_method_23_code 113 = .ok (.getfield 277, 3) := zo_180 (d := 1) (e := 21) (zd_b zq_prog_1_method_23_code_3 17 rfl rfl rfl) (zd_b zq_prog_1_method_23_code_3 18 rfl rfl rfl) (zd_b zq_prog_1_method_23_code_3 19 rfl rfl rfl)
theorem d_Ip_charge_116 : decode prog_1_method_23_code 116 = .ok (.iload_n 2, 1) := zo_28 (zd_b zq_prog_1_method_23_code_3 20 rfl rfl rfl)
theorem d_Ip_charge_117 : decode prog_1_method_23_code 117 = .ok (.invokevirtual 282, 3) := zo_182 (d := 1) (e := 26) (zd_b zq_prog_1_method_23_code_3 21 rfl rfl rfl) (zd_b zq_prog_1_method_23_code_3 22 rfl rfl rfl) (zd_b zq_prog_1_method_23_code_3 23 rfl rfl rfl)
theorem ok_Ip_charge_Me_moveTo : z_ok M_Ip_charge M_Me_moveTo 2 := ⟨z_mj5 (i := 48) rfl (by decide +kernel), rfl, ⟨by decide +kernel, by decide +kernel, by decide +kernel⟩, ⟨by decide, by decide⟩, z_mj1 (i := 8) rfl (by decide +kernel), rfl⟩
theorem d_Ip_charge_120 : decode prog_1_method_23_code 120 = .ok (.goto 17, 3) := zo_167 (d := 0) (e := 17) (zd_b zq_prog_1_method_23_code_3 24 rfl rfl rfl) (zd_b zq_prog_1_method_23_code_3 25 rfl rfl rfl) (zd_b zq_prog_1_method_23_code_3 26 rfl rfl rfl) (by decide +kernel)
set_option maxHeartbeats 4000000 in
set_option maxRecDepth 100000 in
theorem C_Ip_charge103N (g : zG) (a pa ta sa gs co fu la gy du re wm ac : Nat) (lab labg gyg dug fub fubg fut1 fut2 fut3 : Nat) (gr T1 T2 T3 g1 g2 : Nat → Int64) (ir i1 i2 : Int32) (io : Int64) (m : Int32) (hw : (1 ≤ m ∧ m ≤ 1000)) (hf : ¬ i1 < m) (hg : ¬ 3000 < ir + m) (h0 : ¬ i1 ≤ 0) : CT g M_Ip_charge [.ref a, .int 103, .int m] [(a, .inr (11, [.ref pa, .ref ta, .ref sa, .ref gs, .ref co, .ref fu, .ref la, .ref gy, .ref du, .ref re, .ref wm, .ref ac])), (fu, .inr (3, [.ref fub, .ref fut1, .ref fut2, .ref fut3, .long io])), (fub, .inr (6, [.ref fubg, .int ir])), (fubg, .inl (3, 4, .inr (.inl gr))), (fut1, .inl (3, 4, .inr (.inl T1))), (fut2, .inl (3, 4, .inr (.inl T2))), (fut3, .inl (3, 4, .inr (.inl T3))), (gy, .inr (6, [.ref gyg, .int i1])), (gyg, .inl (3, 4, .inr (.inl g1))), (du, .inr (6, [.ref dug, .int i2])), (dug, .inl (3, 4, .inr (.inl g2)))] (fun o cs1 => o = .inl (some (.int (ir + m))) ∧ cs1 = [(a, .inr (11, [.ref pa, .ref ta, .ref sa, .ref gs, .ref co, .ref fu, .ref la, .ref gy, .ref du, .ref re, .ref wm, .ref ac])), (fu, .inr (3, [.ref fub, .ref fut1, .ref fut2, .ref fut3, .long io])), (fub, .inr (6, [.ref fubg, .int (ir + m)])), (fubg, .inl (3, 4, .inr (.inl (mvT g1 m i1 gr 4)))), (fut1, .inl (3, 4, .inr (.inl T1))), (fut2, .inl (3, 4, .inr (.inl T2))), (fut3, .inl (3, 4, .inr (.inl T3))), (gy, .inr (6, [.ref gyg, .int (i1 - m)])), (gyg, .inl (3, 4, .inr (.inl (mvS g1 m i1 4)))), (du, .inr (6, [.ref dug, .int i2])), (dug, .inl (3, 4, .inr (.inl g2)))]) 1 6 := by
  refine z_of (by decide) rfl (Nat.le_of_ble_eq_true rfl) (fun w0 => ?_)
  refine r_lvE (lv2 := [(0, .ref a), (1, .int 103), (2, .int m)]) rfl ?_
  refine r_ldcWS (own := "Ironpour") (i := 1) (by decide) d_Ip_charge_0 ?_
  refine r_iload_n d_Ip_charge_3 rfl 1 rfl ?_
  refine r_callVS (As := [.int 103]) (rest := []) (csC := []) (is := []) (i := 1) (by first | assumption | decide) rfl ln_Ip_83 w_im_String_indexOf_0 w_se_String_indexOf_0 ok_Ip_charge_String_indexOf_0 d_Ip_charge_4 (C_St_indexOf g 1 (by decide) 103) rfl rfl (Nat.le_of_ble_eq_true rfl) rfl (by decide) (by omega) (by omega) (fun E cs1 hx => ?_) (fun v cs1 hx => ?_)
  · exact absurd hx.1 (by simp)
  · obtain ⟨e1, rfl⟩ := hx
    cases e1
    refine ⟨rfl, ?_⟩
    refine r_st (st2 := [.int (z_ix 1 103)]) rfl ?_
    refine r_cs (cs2 := [(a, .inr (11, [.ref pa, .ref ta, .ref sa, .ref gs, .ref co, .ref fu, .ref la, .ref gy, .ref du, .ref re, .ref wm, .ref ac])), (fu, .inr (3, [.ref fub, .ref fut1, .ref fut2, .ref fut3, .long io])), (fub, .inr (6, [.ref fubg, .int ir])), (fubg, .inl (3, 4, .inr (.inl gr))), (fut1, .inl (3, 4, .inr (.inl T1))), (fut2, .inl (3, 4, .inr (.inl T2))), (fut3, .inl (3, 4, .inr (.inl T3))), (gy, .inr (6, [.ref gyg, .int i1])), (gyg, .inl (3, 4, .inr (.inl g1))), (du, .inr (6, [.ref dug, .int i2])), (dug, .inl (3, 4, .inr (.inl g2)))]) rfl ?_
    refine r_if_lt (tgt := 21) d_Ip_charge_7 (by decide) (fun c_7 => ?_) (fun c_7 => ?_)
    · exact absurd c_7 (by decide)
    · refine r_iload_n d_Ip_charge_10 rfl 2 rfl ?_
      refine r_iconst d_Ip_charge_11 (v := 1) (by decide) ?_
      refine r_sipush d_Ip_charge_12 (v := 1000) (by decide) ?_
      refine r_callS (As := [.int m, .int 1, .int 1000]) (rest := []) (csC := []) (is := []) ln_Ip_203 w_st_Ip_isWithin ok_Ip_charge_Ip_isWithin d_Ip_charge_15 (C_Ip_isWithin g m 1 1000) rfl rfl (Nat.le_of_ble_eq_true rfl) rfl (by decide) (by omega) (by omega) (fun E cs1 hx => ?_) (fun v cs1 hx => ?_)
      · exact absurd hx.1 (by simp)
      · obtain ⟨e1, rfl⟩ := hx
        cases e1
        refine ⟨rfl, ?_⟩
        refine r_st (st2 := [.int (if 1 ≤ m ∧ m ≤ 1000 then 1 else 0)]) rfl ?_
        refine r_cs (cs2 := [(a, .inr (11, [.ref pa, .ref ta, .ref sa, .ref gs, .ref co, .ref fu, .ref la, .ref gy, .ref du, .ref re, .ref wm, .ref ac])), (fu, .inr (3, [.ref fub, .ref fut1, .ref fut2, .ref fut3, .long io])), (fub, .inr (6, [.ref fubg, .int ir])), (fubg, .inl (3, 4, .inr (.inl gr))), (fut1, .inl (3, 4, .inr (.inl T1))), (fut2, .inl (3, 4, .inr (.inl T2))), (fut3, .inl (3, 4, .inr (.inl T3))), (gy, .inr (6, [.ref gyg, .int i1])), (gyg, .inl (3, 4, .inr (.inl g1))), (du, .inr (6, [.ref dug, .int i2])), (dug, .inl (3, 4, .inr (.inl g2)))]) rfl ?_
        refine r_if_ne (tgt := 32) d_Ip_charge_18 (by decide) (fun c_18 => ?_) (fun c_18 => ?_)
        · refine r_aload_n d_Ip_charge_32 rfl 0 rfl ?_
          refine r_iload_n d_Ip_charge_33 rfl 1 rfl ?_
          refine r_callV (As := [.int 103]) (rest := []) (csC := [(a, .inr (11, [.ref pa, .ref ta, .ref sa, .ref gs, .ref co, .ref fu, .ref la, .ref gy, .ref du, .ref re, .ref wm, .ref ac]))]) (is := [0]) (q0 := 0) rfl rfl ln_Ip_265 w_im_Ip_poolOf w_se_Ip_poolOf ok_Ip_charge_Ip_poolOf d_Ip_charge_34 (C_Ip_poolOfG g a pa ta sa gs co fu la gy du re wm ac) rfl rfl (Nat.le_of_ble_eq_true rfl) rfl (by decide) (by omega) (by omega) (fun E cs1 hx => ?_) (fun v cs1 hx => ?_)
          · exact absurd hx.1 (by simp)
          · obtain ⟨e1, rfl⟩ := hx
            cases e1
            refine ⟨rfl, ?_⟩
            refine r_st (st2 := [.ref gy]) rfl ?_
            refine r_cs (cs2 := [(a, .inr (11, [.ref pa, .ref ta, .ref sa, .ref gs, .ref co, .ref fu, .ref la, .ref gy, .ref du, .ref re, .ref wm, .ref ac])), (fu, .inr (3, [.ref fub, .ref fut1, .ref fut2, .ref fut3, .long io])), (fub, .inr (6, [.ref fubg, .int ir])), (fubg, .inl (3, 4, .inr (.inl gr))), (fut1, .inl (3, 4, .inr (.inl T1))), (fut2, .inl (3, 4, .inr (.inl T2))), (fut3, .inl (3, 4, .inr (.inl T3))), (gy, .inr (6, [.ref gyg, .int i1])), (gyg, .inl (3, 4, .inr (.inl g1))), (du, .inr (6, [.ref dug, .int i2])), (dug, .inl (3, 4, .inr (.inl g2)))]) rfl ?_
            refine r_astore_n (lv' := [(3, .ref gy), (0, .ref a), (1, .int 103), (2, .int m)]) d_Ip_charge_37 rfl (by decide) rfl ?_
            refine r_aload_n d_Ip_charge_38 rfl 0 rfl ?_
            refine r_ifnull d_Ip_charge_39 ?_
            refine r_aload_n d_Ip_charge_42 rfl 0 rfl ?_
            refine r_get fs_Ip_269 d_Ip_charge_43 (q0 := 7) rfl rfl ?_
            refine r_iload_n d_Ip_charge_46 rfl 3 rfl ?_
            refine r_icmp_ge (tgt := 61) d_Ip_charge_47 (by decide) (fun c_47 => ?_) (fun c_47 => ?_)
            · refine r_iload_n d_Ip_charge_61 rfl 2 rfl ?_
              refine r_bipush d_Ip_charge_62 (v := 107) (by decide) ?_
              refine r_icmp_ne (tgt := 71) d_Ip_charge_64 (by decide) (fun c_64 => ?_) (fun c_64 => ?_)
              · refine r_iload_n d_Ip_charge_71 rfl 3 rfl ?_
                refine r_istore (lv' := [(4, .int m), (3, .ref gy), (0, .ref a), (1, .int 103), (2, .int m)]) d_Ip_charge_72 (by decide) rfl ?_
                refine r_aload_n d_Ip_charge_74 rfl 2 rfl ?_
                refine r_get fs_Ip_43 d_Ip_charge_75 (q0 := 0) rfl rfl ?_
                refine r_get fs_Ip_277 d_Ip_charge_78 (q0 := 1) rfl rfl ?_
                refine r_get fs_Ip_269 d_Ip_charge_81 (q0 := 2) rfl rfl ?_
                refine r_iload d_Ip_charge_84 0 rfl ?_
                refine r_iadd d_Ip_charge_86 (v := ir + m) rfl ?_
                refine r_sipush d_Ip_charge_87 (v := 3000) (by decide) ?_
                refine r_icmp_le (tgt := 104) d_Ip_charge_90 (by decide) (fun c_90 => ?_) (fun c_90 => ?_)
                · refine r_aload_n d_Ip_charge_104 rfl 1 rfl ?_
                  refine r_ifnull d_Ip_charge_105 ?_
                  refine r_aload_n d_Ip_charge_108 rfl 1 rfl ?_
                  refine r_aload_n d_Ip_charge_109 rfl 2 rfl ?_
                  refine r_get fs_Ip_43 d_Ip_charge_110 (q0 := 0) rfl rfl ?_
                  refine r_get fs_Ip_277 d_Ip_charge_113 (q0 := 1) rfl rfl ?_
                  refine r_iload_n d_Ip_charge_116 rfl 4 rfl ?_
                  refine r_callV (As := [.ref fub, .int m]) (rest := []) (csC := [(gy, .inr (6, [.ref gyg, .int i1])), (gyg, .inl (3, 4, .inr (.inl g1))), (fub, .inr (6, [.ref fubg, .int ir])), (fubg, .inl (3, 4, .inr (.inl gr)))]) (is := [7, 8, 2, 3]) (q0 := 7) rfl rfl ln_Ip_282 w_im_Me_moveTo w_se_Me_moveTo ok_Ip_charge_Me_moveTo d_Ip_charge_117 (C_Me_moveToN g gy gyg g1 i1 fub fubg gr ir m h0) rfl rfl (Nat.le_of_ble_eq_true rfl) rfl (by decide) (by omega) (by omega) (fun E cs1 hx => ?_) (fun v cs1 hx => ?_)
                  · exact absurd hx.1 (by simp)
                  · obtain ⟨e1, rfl⟩ := hx
                    cases e1
                    refine ⟨rfl, ?_⟩
                    refine r_st (st2 := []) rfl ?_
                    refine r_cs (cs2 := [(a, .inr (11, [.ref pa, .ref ta, .ref sa, .ref gs, .ref co, .ref fu, .ref la, .ref gy, .ref du, .ref re, .ref wm, .ref ac])), (fu, .inr (3, [.ref fub, .ref fut1, .ref fut2, .ref fut3, .long io])), (fub, .inr (6, [.ref fubg, .int (ir + m)])), (fubg, .inl (3, 4, .inr (.inl (mvT g1 m i1 gr 4)))), (fut1, .inl (3, 4, .inr (.inl T1))), (fut2, .inl (3, 4, .inr (.inl T2))), (fut3, .inl (3, 4, .inr (.inl T3))), (gy, .inr (6, [.ref gyg, .int (i1 - m)])), (gyg, .inl (3, 4, .inr (.inl (mvS g1 m i1 4)))), (du, .inr (6, [.ref dug, .int i2])), (dug, .inl (3, 4, .inr (.inl g2)))]) rfl ?_
                    refine r_goto (tgt := 137) d_Ip_charge_120 (by decide) ?_
                    refine r_aload_n d_Ip_charge_137 rfl 2 rfl ?_
                    refine r_get fs_Ip_43 d_Ip_charge_138 (q0 := 0) rfl rfl ?_
                    refine r_get fs_Ip_277 d_Ip_charge_141 (q0 := 1) rfl rfl ?_
                    refine r_get fs_Ip_269 d_Ip_charge_144 (q0 := 2) rfl rfl ?_
                    refine r_iret d_Ip_charge_147 rfl rfl ?_
                    exact ⟨rfl, rfl⟩
                · exact absurd (Int32.not_le.mp c_90) hg
              · exact absurd c_64 (by decide)
            · exact absurd (Int32.not_le.mp c_47) hf
        · exact absurd hw (z_b0 c_18)
set_option maxHeartbeats 4000000 in
set_option maxRecDepth 100000 in
theorem C_Ip_charge100F (g : zG) (a pa ta sa gs co fu la gy du re wm ac : Nat) (lab labg gyg dug fub fubg fut1 fut2 fut3 : Nat) (gr T1 T2 T3 g1 g2 : Nat → Int64) (ir i1 i2 : Int32) (io : Int64) (m : Int32) (hw : (1 ≤ m ∧ m ≤ 1000)) (hf : i2 < m) : CT g M_Ip_charge [.ref a, .int 100, .int m] [(a, .inr (11, [.ref pa, .ref ta, .ref sa, .ref gs, .ref co, .ref fu, .ref la, .ref gy, .ref du, .ref re, .ref wm, .ref ac])), (fu, .inr (3, [.ref fub, .ref fut1, .ref fut2, .ref fut3, .long io])), (fub, .inr (6, [.ref fubg, .int ir])), (fubg, .inl (3, 4, .inr (.inl gr))), (fut1, .inl (3, 4, .inr (.inl T1))), (fut2, .inl (3, 4, .inr (.inl T2))), (fut3, .inl (3, 4, .inr (.inl T3))), (gy, .inr (6, [.ref gyg, .int i1])), (gyg, .inl (3, 4, .inr (.inl g1))), (du, .inr (6, [.ref dug, .int i2])), (dug, .inl (3, 4, .inr (.inl g2)))] (fun o cs1 => o = .inr "java/lang/UnsupportedOperationException" ∧ cs1 = [(a, .inr (11, [.ref pa, .ref ta, .ref sa, .ref gs, .ref co, .ref fu, .ref la, .ref gy, .ref du, .ref re, .ref wm, .ref ac])), (fu, .inr (3, [.ref fub, .ref fut1, .ref fut2, .ref fut3, .long io])), (fub, .inr (6, [.ref fubg, .int ir])), (fubg, .inl (3, 4, .inr (.inl gr))), (fut1, .inl (3, 4, .inr (.inl T1))), (fut2, .inl (3, 4, .inr (.inl T2))), (fut3, .inl (3, 4, .inr (.inl T3))), (gy, .inr (6, [.ref gyg, .int i1])), (gyg, .inl (3, 4, .inr (.inl g1))), (du, .inr (6, [.ref dug, .int i2])), (dug, .inl (3, 4, .inr (.inl g2)))]) 1 6 := by
  refine z_of (by decide) rfl (Nat.le_of_ble_eq_true rfl) (fun w0 => ?_)
  refine r_lvE (lv2 := [(0, .ref a), (1, .int 100), (2, .int m)]) rfl ?_
  refine r_ldcWS (own := "Ironpour") (i := 1) (by decide) d_Ip_charge_0 ?_
  refine r_iload_n d_Ip_charge_3 rfl 1 rfl ?_
  refine r_callVS (As := [.int 100]) (rest := []) (csC := []) (is := []) (i := 1) (by first | assumption | decide) rfl ln_Ip_83 w_im_String_indexOf_0 w_se_String_indexOf_0 ok_Ip_charge_String_indexOf_0 d_Ip_charge_4 (C_St_indexOf g 1 (by decide) 100) rfl rfl (Nat.le_of_ble_eq_true rfl) rfl (by decide) (by omega) (by omega) (fun E cs1 hx => ?_) (fun v cs1 hx => ?_)
  · exact absurd hx.1 (by simp)
  · obtain ⟨e1, rfl⟩ := hx
    cases e1
    refine ⟨rfl, ?_⟩
    refine r_st (st2 := [.int (z_ix 1 100)]) rfl ?_
    refine r_cs (cs2 := [(a, .inr (11, [.ref pa, .ref ta, .ref sa, .ref gs, .ref co, .ref fu, .ref la, .ref gy, .ref du, .ref re, .ref wm, .ref ac])), (fu, .inr (3, [.ref fub, .ref fut1, .ref fut2, .ref fut3, .long io])), (fub, .inr (6, [.ref fubg, .int ir])), (fubg, .inl (3, 4, .inr (.inl gr))), (fut1, .inl (3, 4, .inr (.inl T1))), (fut2, .inl (3, 4, .inr (.inl T2))), (fut3, .inl (3, 4, .inr (.inl T3))), (gy, .inr (6, [.ref gyg, .int i1])), (gyg, .inl (3, 4, .inr (.inl g1))), (du, .inr (6, [.ref dug, .int i2])), (dug, .inl (3, 4, .inr (.inl g2)))]) rfl ?_
    refine r_if_lt (tgt := 21) d_Ip_charge_7 (by decide) (fun c_7 => ?_) (fun c_7 => ?_)
    · exact absurd c_7 (by decide)
    · refine r_iload_n d_Ip_charge_10 rfl 2 rfl ?_
      refine r_iconst d_Ip_charge_11 (v := 1) (by decide) ?_
      refine r_sipush d_Ip_charge_12 (v := 1000) (by decide) ?_
      refine r_callS (As := [.int m, .int 1, .int 1000]) (rest := []) (csC := []) (is := []) ln_Ip_203 w_st_Ip_isWithin ok_Ip_charge_Ip_isWithin d_Ip_charge_15 (C_Ip_isWithin g m 1 1000) rfl rfl (Nat.le_of_ble_eq_true rfl) rfl (by decide) (by omega) (by omega) (fun E cs1 hx => ?_) (fun v cs1 hx => ?_)
      · exact absurd hx.1 (by simp)
      · obtain ⟨e1, rfl⟩ := hx
        cases e1
        refine ⟨rfl, ?_⟩
        refine r_st (st2 := [.int (if 1 ≤ m ∧ m ≤ 1000 then 1 else 0)]) rfl ?_
        refine r_cs (cs2 := [(a, .inr (11, [.ref pa, .ref ta, .ref sa, .ref gs, .ref co, .ref fu, .ref la, .ref gy, .ref du, .ref re, .ref wm, .ref ac])), (fu, .inr (3, [.ref fub, .ref fut1, .ref fut2, .ref fut3, .long io])), (fub, .inr (6, [.ref fubg, .int ir])), (fubg, .inl (3, 4, .inr (.inl gr))), (fut1, .inl (3, 4, .inr (.inl T1))), (fut2, .inl (3, 4, .inr (.inl T2))), (fut3, .inl (3, 4, .inr (.inl T3))), (gy, .inr (6, [.ref gyg, .int i1])), (gyg, .inl (3, 4, .inr (.inl g1))), (du, .inr (6, [.ref dug, .int i2])), (dug, .inl (3, 4, .inr (.inl g2)))]) rfl ?_
        refine r_if_ne (tgt := 32) d_Ip_charge_18 (by decide) (fun c_18 => ?_) (fun c_18 => ?_)
        · refine r_aload_n d_Ip_charge_32 rfl 0 rfl ?_
          refine r_iload_n d_Ip_charge_33 rfl 1 rfl ?_
          refine r_callV (As := [.int 100]) (rest := []) (csC := [(a, .inr (11, [.ref pa, .ref ta, .ref sa, .ref gs, .ref co, .ref fu, .ref la, .ref gy, .ref du, .ref re, .ref wm, .ref ac]))]) (is := [0]) (q0 := 0) rfl rfl ln_Ip_265 w_im_Ip_poolOf w_se_Ip_poolOf ok_Ip_charge_Ip_poolOf d_Ip_charge_34 (C_Ip_poolOfD g a pa ta sa gs co fu la gy du re wm ac) rfl rfl (Nat.le_of_ble_eq_true rfl) rfl (by decide) (by omega) (by omega) (fun E cs1 hx => ?_) (fun v cs1 hx => ?_)
          · exact absurd hx.1 (by simp)
          · obtain ⟨e1, rfl⟩ := hx
            cases e1
            refine ⟨rfl, ?_⟩
            refine r_st (st2 := [.ref du]) rfl ?_
            refine r_cs (cs2 := [(a, .inr (11, [.ref pa, .ref ta, .ref sa, .ref gs, .ref co, .ref fu, .ref la, .ref gy, .ref du, .ref re, .ref wm, .ref ac])), (fu, .inr (3, [.ref fub, .ref fut1, .ref fut2, .ref fut3, .long io])), (fub, .inr (6, [.ref fubg, .int ir])), (fubg, .inl (3, 4, .inr (.inl gr))), (fut1, .inl (3, 4, .inr (.inl T1))), (fut2, .inl (3, 4, .inr (.inl T2))), (fut3, .inl (3, 4, .inr (.inl T3))), (gy, .inr (6, [.ref gyg, .int i1])), (gyg, .inl (3, 4, .inr (.inl g1))), (du, .inr (6, [.ref dug, .int i2])), (dug, .inl (3, 4, .inr (.inl g2)))]) rfl ?_
            refine r_astore_n (lv' := [(3, .ref du), (0, .ref a), (1, .int 100), (2, .int m)]) d_Ip_charge_37 rfl (by decide) rfl ?_
            refine r_aload_n d_Ip_charge_38 rfl 0 rfl ?_
            refine r_ifnull d_Ip_charge_39 ?_
            refine r_aload_n d_Ip_charge_42 rfl 0 rfl ?_
            refine r_get fs_Ip_269 d_Ip_charge_43 (q0 := 9) rfl rfl ?_
            refine r_iload_n d_Ip_charge_46 rfl 3 rfl ?_
            refine r_icmp_ge (tgt := 61) d_Ip_charge_47 (by decide) (fun c_47 => ?_) (fun c_47 => ?_)
            · exact absurd hf (Int32.not_lt.mpr c_47)
            · refine r_throwW tb_Ip_272_276 sr_Ip_274 d_Ip_charge_50 d_Ip_charge_53 d_Ip_charge_54 d_Ip_charge_57 d_Ip_charge_60 rfl (by decide) (by decide) (Nat.le_of_ble_eq_true rfl) (by omega) (by omega) ?_
              exact ⟨rfl, rfl⟩
        · exact absurd hw (z_b0 c_18)
set_option maxHeartbeats 4000000 in
set_option maxRecDepth 100000 in
theorem C_Ip_charge100G (g : zG) (a pa ta sa gs co fu la gy du re wm ac : Nat) (lab labg gyg dug fub fubg fut1 fut2 fut3 : Nat) (gr T1 T2 T3 g1 g2 : Nat → Int64) (ir i1 i2 : Int32) (io : Int64) (m : Int32) (hw : (1 ≤ m ∧ m ≤ 1000)) (hf : ¬ i2 < m) (hg : 3000 < ir + m) : CT g M_Ip_charge [.ref a, .int 100, .int m] [(a, .inr (11, [.ref pa, .ref ta, .ref sa, .ref gs, .ref co, .ref fu, .ref la, .ref gy, .ref du, .ref re, .ref wm, .ref ac])), (fu, .inr (3, [.ref fub, .ref fut1, .ref fut2, .ref fut3, .long io])), (fub, .inr (6, [.ref fubg, .int ir])), (fubg, .inl (3, 4, .inr (.inl gr))), (fut1, .inl (3, 4, .inr (.inl T1))), (fut2, .inl (3, 4, .inr (.inl T2))), (fut3, .inl (3, 4, .inr (.inl T3))), (gy, .inr (6, [.ref gyg, .int i1])), (gyg, .inl (3, 4, .inr (.inl g1))), (du, .inr (6, [.ref dug, .int i2])), (dug, .inl (3, 4, .inr (.inl g2)))] (fun o cs1 => o = .inr "java/lang/IllegalStateException" ∧ cs1 = [(a, .inr (11, [.ref pa, .ref ta, .ref sa, .ref gs, .ref co, .ref fu, .ref la, .ref gy, .ref du, .ref re, .ref wm, .ref ac])), (fu, .inr (3, [.ref fub, .ref fut1, .ref fut2, .ref fut3, .long io])), (fub, .inr (6, [.ref fubg, .int ir])), (fubg, .inl (3, 4, .inr (.inl gr))), (fut1, .inl (3, 4, .inr (.inl T1))), (fut2, .inl (3, 4, .inr (.inl T2))), (fut3, .inl (3, 4, .inr (.inl T3))), (gy, .inr (6, [.ref gyg, .int i1])), (gyg, .inl (3, 4, .inr (.inl g1))), (du, .inr (6, [.ref dug, .int i2])), (dug, .inl (3, 4, .inr (.inl g2)))]) 1 6 := by
  refine z_of (by decide) rfl (Nat.le_of_ble_eq_true rfl) (fun w0 => ?_)
  refine r_lvE (lv2 := [(0, .ref a), (1, .int 100), (2, .int m)]) rfl ?_
  refine r_ldcWS (own := "Ironpour") (i := 1) (by decide) d_Ip_charge_0 ?_
  refine r_iload_n d_Ip_charge_3 rfl 1 rfl ?_
  refine r_callVS (As := [.int 100]) (rest := []) (csC := []) (is := []) (i := 1) (by first | assumption | decide) rfl ln_Ip_83 w_im_String_indexOf_0 w_se_String_indexOf_0 ok_Ip_charge_String_indexOf_0 d_Ip_charge_4 (C_St_indexOf g 1 (by decide) 100) rfl rfl (Nat.le_of_ble_eq_true rfl) rfl (by decide) (by omega) (by omega) (fun E cs1 hx => ?_) (fun v cs1 hx => ?_)
  · exact absurd hx.1 (by simp)
  · obtain ⟨e1, rfl⟩ := hx
    cases e1
    refine ⟨rfl, ?_⟩
    refine r_st (st2 := [.int (z_ix 1 100)]) rfl ?_
    refine r_cs (cs2 := [(a, .inr (11, [.ref pa, .ref ta, .ref sa, .ref gs, .ref co, .ref fu, .ref la, .ref gy, .ref du, .ref re, .ref wm, .ref ac])), (fu, .inr (3, [.ref fub, .ref fut1, .ref fut2, .ref fut3, .long io])), (fub, .inr (6, [.ref fubg, .int ir])), (fubg, .inl (3, 4, .inr (.inl gr))), (fut1, .inl (3, 4, .inr (.inl T1))), (fut2, .inl (3, 4, .inr (.inl T2))), (fut3, .inl (3, 4, .inr (.inl T3))), (gy, .inr (6, [.ref gyg, .int i1])), (gyg, .inl (3, 4, .inr (.inl g1))), (du, .inr (6, [.ref dug, .int i2])), (dug, .inl (3, 4, .inr (.inl g2)))]) rfl ?_
    refine r_if_lt (tgt := 21) d_Ip_charge_7 (by decide) (fun c_7 => ?_) (fun c_7 => ?_)
    · exact absurd c_7 (by decide)
    · refine r_iload_n d_Ip_charge_10 rfl 2 rfl ?_
      refine r_iconst d_Ip_charge_11 (v := 1) (by decide) ?_
      refine r_sipush d_Ip_charge_12 (v := 1000) (by decide) ?_
      refine r_callS (As := [.int m, .int 1, .int 1000]) (rest := []) (csC := []) (is := []) ln_Ip_203 w_st_Ip_isWithin ok_Ip_charge_Ip_isWithin d_Ip_charge_15 (C_Ip_isWithin g m 1 1000) rfl rfl (Nat.le_of_ble_eq_true rfl) rfl (by decide) (by omega) (by omega) (fun E cs1 hx => ?_) (fun v cs1 hx => ?_)
      · exact absurd hx.1 (by simp)
      · obtain ⟨e1, rfl⟩ := hx
        cases e1
        refine ⟨rfl, ?_⟩
        refine r_st (st2 := [.int (if 1 ≤ m ∧ m ≤ 1000 then 1 else 0)]) rfl ?_
        refine r_cs (cs2 := [(a, .inr (11, [.ref pa, .ref ta, .ref sa, .ref gs, .ref co, .ref fu, .ref la, .ref gy, .ref du, .ref re, .ref wm, .ref ac])), (fu, .inr (3, [.ref fub, .ref fut1, .ref fut2, .ref fut3, .long io])), (fub, .inr (6, [.ref fubg, .int ir])), (fubg, .inl (3, 4, .inr (.inl gr))), (fut1, .inl (3, 4, .inr (.inl T1))), (fut2, .inl (3, 4, .inr (.inl T2))), (fut3, .inl (3, 4, .inr (.inl T3))), (gy, .inr (6, [.ref gyg, .int i1])), (gyg, .inl (3, 4, .inr (.inl g1))), (du, .inr (6, [.ref dug, .int i2])), (dug, .inl (3, 4, .inr (.inl g2)))]) rfl ?_
        refine r_if_ne (tgt := 32) d_Ip_charge_18 (by decide) (fun c_18 => ?_) (fun c_18 => ?_)
        · refine r_aload_n d_Ip_charge_32 rfl 0 rfl ?_
          refine r_iload_n d_Ip_charge_33 rfl 1 rfl ?_
          refine r_callV (As := [.int 100]) (rest := []) (csC := [(a, .inr (11, [.ref pa, .ref ta, .ref sa, .ref gs, .ref co, .ref fu, .ref la, .ref gy, .ref du, .ref re, .ref wm, .ref ac]))]) (is := [0]) (q0 := 0) rfl rfl ln_Ip_265 w_im_Ip_poolOf w_se_Ip_poolOf ok_Ip_charge_Ip_poolOf d_Ip_charge_34 (C_Ip_poolOfD g a pa ta sa gs co fu la gy du re wm ac) rfl rfl (Nat.le_of_ble_eq_true rfl) rfl (by decide) (by omega) (by omega) (fun E cs1 hx => ?_) (fun v cs1 hx => ?_)
          · exact absurd hx.1 (by simp)
          · obtain ⟨e1, rfl⟩ := hx
            cases e1
            refine ⟨rfl, ?_⟩
            refine r_st (st2 := [.ref du]) rfl ?_
            refine r_cs (cs2 := [(a, .inr (11, [.ref pa, .ref ta, .ref sa, .ref gs, .ref co, .ref fu, .ref la, .ref gy, .ref du, .ref re, .ref wm, .ref ac])), (fu, .inr (3, [.ref fub, .ref fut1, .ref fut2, .ref fut3, .long io])), (fub, .inr (6, [.ref fubg, .int ir])), (fubg, .inl (3, 4, .inr (.inl gr))), (fut1, .inl (3, 4, .inr (.inl T1))), (fut2, .inl (3, 4, .inr (.inl T2))), (fut3, .inl (3, 4, .inr (.inl T3))), (gy, .inr (6, [.ref gyg, .int i1])), (gyg, .inl (3, 4, .inr (.inl g1))), (du, .inr (6, [.ref dug, .int i2])), (dug, .inl (3, 4, .inr (.inl g2)))]) rfl ?_
            refine r_astore_n (lv' := [(3, .ref du), (0, .ref a), (1, .int 100), (2, .int m)]) d_Ip_charge_37 rfl (by decide) rfl ?_
            refine r_aload_n d_Ip_charge_38 rfl 0 rfl ?_
            refine r_ifnull d_Ip_charge_39 ?_
            refine r_aload_n d_Ip_charge_42 rfl 0 rfl ?_
            refine r_get fs_Ip_269 d_Ip_charge_43 (q0 := 9) rfl rfl ?_
            refine r_iload_n d_Ip_charge_46 rfl 3 rfl ?_
            refine r_icmp_ge (tgt := 61) d_Ip_charge_47 (by decide) (fun c_47 => ?_) (fun c_47 => ?_)
            · refine r_iload_n d_Ip_charge_61 rfl 2 rfl ?_
              refine r_bipush d_Ip_charge_62 (v := 107) (by decide) ?_
              refine r_icmp_ne (tgt := 71) d_Ip_charge_64 (by decide) (fun c_64 => ?_) (fun c_64 => ?_)
              · refine r_iload_n d_Ip_charge_71 rfl 3 rfl ?_
                refine r_istore (lv' := [(4, .int m), (3, .ref du), (0, .ref a), (1, .int 100), (2, .int m)]) d_Ip_charge_72 (by decide) rfl ?_
                refine r_aload_n d_Ip_charge_74 rfl 2 rfl ?_
                refine r_get fs_Ip_43 d_Ip_charge_75 (q0 := 0) rfl rfl ?_
                refine r_get fs_Ip_277 d_Ip_charge_78 (q0 := 1) rfl rfl ?_
                refine r_get fs_Ip_269 d_Ip_charge_81 (q0 := 2) rfl rfl ?_
                refine r_iload d_Ip_charge_84 0 rfl ?_
                refine r_iadd d_Ip_charge_86 (v := ir + m) rfl ?_
                refine r_sipush d_Ip_charge_87 (v := 3000) (by decide) ?_
                refine r_icmp_le (tgt := 104) d_Ip_charge_90 (by decide) (fun c_90 => ?_) (fun c_90 => ?_)
                · exact absurd hg (Int32.not_lt.mpr c_90)
                · refine r_throwW tb_Ip_242_246 sr_Ip_280 d_Ip_charge_93 d_Ip_charge_96 d_Ip_charge_97 d_Ip_charge_100 d_Ip_charge_103 rfl (by decide) (by decide) (Nat.le_of_ble_eq_true rfl) (by omega) (by omega) ?_
                  exact ⟨rfl, rfl⟩
              · exact absurd c_64 (by decide)
            · exact absurd (Int32.not_le.mp c_47) hf
        · exact absurd hw (z_b0 c_18)
set_option maxHeartbeats 4000000 in
set_option maxRecDepth 100000 in
theorem C_Ip_charge100N (g : zG) (a pa ta sa gs co fu la gy du re wm ac : Nat) (lab labg gyg dug fub fubg fut1 fut2 fut3 : Nat) (gr T1 T2 T3 g1 g2 : Nat → Int64) (ir i1 i2 : Int32) (io : Int64) (m : Int32) (hw : (1 ≤ m ∧ m ≤ 1000)) (hf : ¬ i2 < m) (hg : ¬ 3000 < ir + m) (h0 : ¬ i2 ≤ 0) : CT g M_Ip_charge [.ref a, .int 100, .int m] [(a, .inr (11, [.ref pa, .ref ta, .ref sa, .ref gs, .ref co, .ref fu, .ref la, .ref gy, .ref du, .ref re, .ref wm, .ref ac])), (fu, .inr (3, [.ref fub, .ref fut1, .ref fut2, .ref fut3, .long io])), (fub, .inr (6, [.ref fubg, .int ir])), (fubg, .inl (3, 4, .inr (.inl gr))), (fut1, .inl (3, 4, .inr (.inl T1))), (fut2, .inl (3, 4, .inr (.inl T2))), (fut3, .inl (3, 4, .inr (.inl T3))), (gy, .inr (6, [.ref gyg, .int i1])), (gyg, .inl (3, 4, .inr (.inl g1))), (du, .inr (6, [.ref dug, .int i2])), (dug, .inl (3, 4, .inr (.inl g2)))] (fun o cs1 => o = .inl (some (.int (ir + m))) ∧ cs1 = [(a, .inr (11, [.ref pa, .ref ta, .ref sa, .ref gs, .ref co, .ref fu, .ref la, .ref gy, .ref du, .ref re, .ref wm, .ref ac])), (fu, .inr (3, [.ref fub, .ref fut1, .ref fut2, .ref fut3, .long io])), (fub, .inr (6, [.ref fubg, .int (ir + m)])), (fubg, .inl (3, 4, .inr (.inl (mvT g2 m i2 gr 4)))), (fut1, .inl (3, 4, .inr (.inl T1))), (fut2, .inl (3, 4, .inr (.inl T2))), (fut3, .inl (3, 4, .inr (.inl T3))), (gy, .inr (6, [.ref gyg, .int i1])), (gyg, .inl (3, 4, .inr (.inl g1))), (du, .inr (6, [.ref dug, .int (i2 - m)])), (dug, .inl (3, 4, .inr (.inl (mvS g2 m i2 4))))]) 1 6 := by
  refine z_of (by decide) rfl (Nat.le_of_ble_eq_true rfl) (fun w0 => ?_)
  refine r_lvE (lv2 := [(0, .ref a), (1, .int 100), (2, .int m)]) rfl ?_
  refine r_ldcWS (own := "Ironpour") (i := 1) (by decide) d_Ip_charge_0 ?_
  refine r_iload_n d_Ip_charge_3 rfl 1 rfl ?_
  refine r_callVS (As := [.int 100]) (rest := []) (csC := []) (is := []) (i := 1) (by first | assumption | decide) rfl ln_Ip_83 w_im_String_indexOf_0 w_se_String_indexOf_0 ok_Ip_charge_String_indexOf_0 d_Ip_charge_4 (C_St_indexOf g 1 (by decide) 100) rfl rfl (Nat.le_of_ble_eq_true rfl) rfl (by decide) (by omega) (by omega) (fun E cs1 hx => ?_) (fun v cs1 hx => ?_)
  · exact absurd hx.1 (by simp)
  · obtain ⟨e1, rfl⟩ := hx
    cases e1
    refine ⟨rfl, ?_⟩
    refine r_st (st2 := [.int (z_ix 1 100)]) rfl ?_
    refine r_cs (cs2 := [(a, .inr (11, [.ref pa, .ref ta, .ref sa, .ref gs, .ref co, .ref fu, .ref la, .ref gy, .ref du, .ref re, .ref wm, .ref ac])), (fu, .inr (3, [.ref fub, .ref fut1, .ref fut2, .ref fut3, .long io])), (fub, .inr (6, [.ref fubg, .int ir])), (fubg, .inl (3, 4, .inr (.inl gr))), (fut1, .inl (3, 4, .inr (.inl T1))), (fut2, .inl (3, 4, .inr (.inl T2))), (fut3, .inl (3, 4, .inr (.inl T3))), (gy, .inr (6, [.ref gyg, .int i1])), (gyg, .inl (3, 4, .inr (.inl g1))), (du, .inr (6, [.ref dug, .int i2])), (dug, .inl (3, 4, .inr (.inl g2)))]) rfl ?_
    refine r_if_lt (tgt := 21) d_Ip_charge_7 (by decide) (fun c_7 => ?_) (fun c_7 => ?_)
    · exact absurd c_7 (by decide)
    · refine r_iload_n d_Ip_charge_10 rfl 2 rfl ?_
      refine r_iconst d_Ip_charge_11 (v := 1) (by decide) ?_
      refine r_sipush d_Ip_charge_12 (v := 1000) (by decide) ?_
      refine r_callS (As := [.int m, .int 1, .int 1000]) (rest := []) (csC := []) (is := []) ln_Ip_203 w_st_Ip_isWithin ok_Ip_charge_Ip_isWithin d_Ip_charge_15 (C_Ip_isWithin g m 1 1000) rfl rfl (Nat.le_of_ble_eq_true rfl) rfl (by decide) (by omega) (by omega) (fun E cs1 hx => ?_) (fun v cs1 hx => ?_)
      · exact absurd hx.1 (by simp)
      · obtain ⟨e1, rfl⟩ := hx
        cases e1
        refine ⟨rfl, ?_⟩
        refine r_st (st2 := [.int (if 1 ≤ m ∧ m ≤ 1000 then 1 else 0)]) rfl ?_
        refine r_cs (cs2 := [(a, .inr (11, [.ref pa, .ref ta, .ref sa, .ref gs, .ref co, .ref fu, .ref la, .ref gy, .ref du, .ref re, .ref wm, .ref ac])), (fu, .inr (3, [.ref fub, .ref fut1, .ref fut2, .ref fut3, .long io])), (fub, .inr (6, [.ref fubg, .int ir])), (fubg, .inl (3, 4, .inr (.inl gr))), (fut1, .inl (3, 4, .inr (.inl T1))), (fut2, .inl (3, 4, .inr (.inl T2))), (fut3, .inl (3, 4, .inr (.inl T3))), (gy, .inr (6, [.ref gyg, .int i1])), (gyg, .inl (3, 4, .inr (.inl g1))), (du, .inr (6, [.ref dug, .int i2])), (dug, .inl (3, 4, .inr (.inl g2)))]) rfl ?_
        refine r_if_ne (tgt := 32) d_Ip_charge_18 (by decide) (fun c_18 => ?_) (fun c_18 => ?_)
        · refine r_aload_n d_Ip_charge_32 rfl 0 rfl ?_
          refine r_iload_n d_Ip_charge_33 rfl 1 rfl ?_
          refine r_callV (As := [.int 100]) (rest := []) (csC := [(a, .inr (11, [.ref pa, .ref ta, .ref sa, .ref gs, .ref co, .ref fu, .ref la, .ref gy, .ref du, .ref re, .ref wm, .ref ac]))]) (is := [0]) (q0 := 0) rfl rfl ln_Ip_265 w_im_Ip_poolOf w_se_Ip_poolOf ok_Ip_charge_Ip_poolOf d_Ip_charge_34 (C_Ip_poolOfD g a pa ta sa gs co fu la gy du re wm ac) rfl rfl (Nat.le_of_ble_eq_true rfl) rfl (by decide) (by omega) (by omega) (fun E cs1 hx => ?_) (fun v cs1 hx => ?_)
          · exact absurd hx.1 (by simp)
          · obtain ⟨e1, rfl⟩ := hx
            cases e1
            refine ⟨rfl, ?_⟩
            refine r_st (st2 := [.ref du]) rfl ?_
            refine r_cs (cs2 := [(a, .inr (11, [.ref pa, .ref ta, .ref sa, .ref gs, .ref co, .ref fu, .ref la, .ref gy, .ref du, .ref re, .ref wm, .ref ac])), (fu, .inr (3, [.ref fub, .ref fut1, .ref fut2, .ref fut3, .long io])), (fub, .inr (6, [.ref fubg, .int ir])), (fubg, .inl (3, 4, .inr (.inl gr))), (fut1, .inl (3, 4, .inr (.inl T1))), (fut2, .inl (3, 4, .inr (.inl T2))), (fut3, .inl (3, 4, .inr (.inl T3))), (gy, .inr (6, [.ref gyg, .int i1])), (gyg, .inl (3, 4, .inr (.inl g1))), (du, .inr (6, [.ref dug, .int i2])), (dug, .inl (3, 4, .inr (.inl g2)))]) rfl ?_
            refine r_astore_n (lv' := [(3, .ref du), (0, .ref a), (1, .int 100), (2, .int m)]) d_Ip_charge_37 rfl (by decide) rfl ?_
            refine r_aload_n d_Ip_charge_38 rfl 0 rfl ?_
            refine r_ifnull d_Ip_charge_39 ?_
            refine r_aload_n d_Ip_charge_42 rfl 0 rfl ?_
            refine r_get fs_Ip_269 d_Ip_charge_43 (q0 := 9) rfl rfl ?_
            refine r_iload_n d_Ip_charge_46 rfl 3 rfl ?_
            refine r_icmp_ge (tgt := 61) d_Ip_charge_47 (by decide) (fun c_47 => ?_) (fun c_47 => ?_)
            · refine r_iload_n d_Ip_charge_61 rfl 2 rfl ?_
              refine r_bipush d_Ip_charge_62 (v := 107) (by decide) ?_
              refine r_icmp_ne (tgt := 71) d_Ip_charge_64 (by decide) (fun c_64 => ?_) (fun c_64 => ?_)
              · refine r_iload_n d_Ip_charge_71 rfl 3 rfl ?_
                refine r_istore (lv' := [(4, .int m), (3, .ref du), (0, .ref a), (1, .int 100), (2, .int m)]) d_Ip_charge_72 (by decide) rfl ?_
                refine r_aload_n d_Ip_charge_74 rfl 2 rfl ?_
                refine r_get fs_Ip_43 d_Ip_charge_75 (q0 := 0) rfl rfl ?_
                refine r_get fs_Ip_277 d_Ip_charge_78 (q0 := 1) rfl rfl ?_
                refine r_get fs_Ip_269 d_Ip_charge_81 (q0 := 2) rfl rfl ?_
                refine r_iload d_Ip_charge_84 0 rfl ?_
                refine r_iadd d_Ip_charge_86 (v := ir + m) rfl ?_
                refine r_sipush d_Ip_charge_87 (v := 3000) (by decide) ?_
                refine r_icmp_le (tgt := 104) d_Ip_charge_90 (by decide) (fun c_90 => ?_) (fun c_90 => ?_)
                · refine r_aload_n d_Ip_charge_104 rfl 1 rfl ?_
                  refine r_ifnull d_Ip_charge_105 ?_
                  refine r_aload_n d_Ip_charge_108 rfl 1 rfl ?_
                  refine r_aload_n d_Ip_charge_109 rfl 2 rfl ?_
                  refine r_get fs_Ip_43 d_Ip_charge_110 (q0 := 0) rfl rfl ?_
                  refine r_get fs_Ip_277 d_Ip_charge_113 (q0 := 1) rfl rfl ?_
                  refine r_iload_n d_Ip_charge_116 rfl 4 rfl ?_
                  refine r_callV (As := [.ref fub, .int m]) (rest := []) (csC := [(du, .inr (6, [.ref dug, .int i2])), (dug, .inl (3, 4, .inr (.inl g2))), (fub, .inr (6, [.ref fubg, .int ir])), (fubg, .inl (3, 4, .inr (.inl gr)))]) (is := [9, 10, 2, 3]) (q0 := 9) rfl rfl ln_Ip_282 w_im_Me_moveTo w_se_Me_moveTo ok_Ip_charge_Me_moveTo d_Ip_charge_117 (C_Me_moveToN g du dug g2 i2 fub fubg gr ir m h0) rfl rfl (Nat.le_of_ble_eq_true rfl) rfl (by decide) (by omega) (by omega) (fun E cs1 hx => ?_) (fun v cs1 hx => ?_)
                  · exact absurd hx.1 (by simp)
                  · obtain ⟨e1, rfl⟩ := hx
                    cases e1
                    refine ⟨rfl, ?_⟩
                    refine r_st (st2 := []) rfl ?_
                    refine r_cs (cs2 := [(a, .inr (11, [.ref pa, .ref ta, .ref sa, .ref gs, .ref co, .ref fu, .ref la, .ref gy, .ref du, .ref re, .ref wm, .ref ac])), (fu, .inr (3, [.ref fub, .ref fut1, .ref fut2, .ref fut3, .long io])), (fub, .inr (6, [.ref fubg, .int (ir + m)])), (fubg, .inl (3, 4, .inr (.inl (mvT g2 m i2 gr 4)))), (fut1, .inl (3, 4, .inr (.inl T1))), (fut2, .inl (3, 4, .inr (.inl T2))), (fut3, .inl (3, 4, .inr (.inl T3))), (gy, .inr (6, [.ref gyg, .int i1])), (gyg, .inl (3, 4, .inr (.inl g1))), (du, .inr (6, [.ref dug, .int (i2 - m)])), (dug, .inl (3, 4, .inr (.inl (mvS g2 m i2 4))))]) rfl ?_
                    refine r_goto (tgt := 137) d_Ip_charge_120 (by decide) ?_
                    refine r_aload_n d_Ip_charge_137 rfl 2 rfl ?_
                    refine r_get fs_Ip_43 d_Ip_charge_138 (q0 := 0) rfl rfl ?_
                    refine r_get fs_Ip_277 d_Ip_charge_141 (q0 := 1) rfl rfl ?_
                    refine r_get fs_Ip_269 d_Ip_charge_144 (q0 := 2) rfl rfl ?_
                    refine r_iret d_Ip_charge_147 rfl rfl ?_
                    exact ⟨rfl, rfl⟩
                · exact absurd (Int32.not_le.mp c_90) hg
              · exact absurd c_64 (by decide)
            · exact absurd (Int32.not_le.mp c_47) hf
        · exact absurd hw (z_b0 c_18)
abbrev M_Ip_init : zM := (⟨"Ironpour", "<init>", "()V"⟩, prog_1_method_1_code, 1, (Option.none : Option FieldType), 4, 80, [])
theorem d_Ip_init_0 : decode prog_1_method_1_code 0 = .ok (.aload_n 0, 1) := zo_42 (zd_b zq_prog_1_method_1_code_0 0 rfl rfl rfl)
theorem d_Ip_init_1 : decode prog_1_method_1_code 1 = .ok (.invokespecial 1, 3) := zo_183 (d := 0) (e := 1) (zd_b zq_prog_1_method_1_code_0 1 rfl rfl rfl) (zd_b zq_prog_1_method_1_code_0 2 rfl rfl rfl) (zd_b zq_prog_1_method_1_code_0 3 rfl rfl rfl)
theorem ln_Ip_1 : Cond.methodLink "Ironpour" 1 Lib.objectInit ∈ z_gw := z_mj1 (i := 43) rfl (by decide +kernel)
theorem d_Ip_init_4 : decode prog_1_method_1_code 4 = .ok (.aload_n 0, 1) := zo_42 (zd_b zq_prog_1_method_1_code_0 4 rfl rfl rfl)
theorem d_Ip_init_5 : decode prog_1_method_1_code 5 = .ok (.new 7, 3) := zo_187 (d := 0) (e := 7) (zd_b zq_prog_1_method_1_code_0 5 rfl rfl rfl) (zd_b zq_prog_1_method_1_code_0 6 rfl rfl rfl) (zd_b zq_prog_1_method_1_code_0 7 rfl rfl rfl)
theorem nc_Ip_7 : z_nc "Ironpour" 7 8 4 [.null, .null, .null, .int 0] := ⟨R_Pa, F_Pa, t_Pa, rfl, u_Pa, t_Pa_ok, z_mj1 (i := 46) rfl (by decide +kernel), z_mj1 (i := 47) rfl (by decide +kernel), z_mj1 (i := 2) rfl (by decide +kernel), by decide +kernel⟩
theorem d_Ip_init_8 : decode prog_1_method_1_code 8 = .ok (.dup, 1) := zo_89 (zd_b zq_prog_1_method_1_code_0 8 rfl rfl rfl)
theorem d_Ip_init_9 : decode prog_1_method_1_code 9 = .ok (.invokespecial 9, 3) := zo_183 (d := 0) (e := 9) (zd_b zq_prog_1_method_1_code_0 9 rfl rfl rfl) (zd_b zq_prog_1_method_1_code_0 10 rfl rfl rfl) (zd_b zq_prog_1_method_1_code_0 11 rfl rfl rfl)
theorem ok_Ip_init_Pa_init : z_ok M_Ip_init M_Pa_init 0 := ⟨z_mj1 (i := 50) rfl (by decide +kernel), rfl, ⟨by decide +kernel, by decide +kernel, by decide +kernel⟩, ⟨by decide, by decide⟩, z_mj1 (i := 2) rfl (by decide +kernel), rfl⟩
theorem ln_Ip_9 : Cond.methodLink "Ironpour" 9 M_Pa_init.1 ∈ z_gw := z_mj1 (i := 48) rfl (by decide +kernel)
theorem w_im_Pa_init : Cond.instanceMethod M_Pa_init.1 ∈ z_gw := z_mj1 (i := 49) rfl (by decide +kernel)
theorem d_Ip_init_12 : decode prog_1_method_1_code 12 = .ok (.putfield 10, 3) := zo_181 (d := 0) (e := 10) (zd_b zq_prog_1_method_1_code_0 12 rfl rfl rfl) (zd_b zq_prog_1_method_1_code_0 13 rfl rfl rfl) (zd_b zq_prog_1_method_1_code_0 14 rfl rfl rfl)
theorem fp_Ip_10 : z_fp "Ironpour" 10 11 0 true (t_Ip 0) := ⟨R_Ip, "Ironpour", F_Ip, 12, t_Ip, rfl, u_Ip, by decide, t_Ip_ok, n_Ip, rfl, rfl, Or.inl ⟨z_mj2 (i := 63) rfl (by decide +kernel), Or.inl rfl, fun _ => ⟨rfl, rfl⟩⟩⟩
theorem d_Ip_init_15 : decode prog_1_method_1_code 15 = .ok (.aload_n 0, 1) := zo_42 (zd_b zq_prog_1_method_1_code_0 15 rfl rfl rfl)
theorem d_Ip_init_16 : decode prog_1_method_1_code 16 = .ok (.new 16, 3) := zo_187 (d := 0) (e := 16) (zd_b zq_prog_1_method_1_code_0 16 rfl rfl rfl) (zd_b zq_prog_1_method_1_code_0 17 rfl rfl rfl) (zd_b zq_prog_1_method_1_code_0 18 rfl rfl rfl)
theorem nc_Ip_16 : z_nc "Ironpour" 16 10 8 [.null, .null, .null, .null, .null, .null, .int 0, .int 0] := ⟨R_Tr, F_Tr, t_Tr, rfl, u_Tr, t_Tr_ok, z_mj1 (i := 71) rfl (by decide +kernel), z_mj1 (i := 72) rfl (by decide +kernel), z_mj1 (i := 3) rfl (by decide +kernel), by decide +kernel⟩
theorem d_Ip_init_19 : decode prog_1_method_1_code 19 = .ok (.dup, 1) := zo_89 (zd_b zq_prog_1_method_1_code_0 19 rfl rfl rfl)
theorem d_Ip_init_20 : decode prog_1_method_1_code 20 = .ok (.invokespecial 18, 3) := zo_183 (d := 0) (e := 18) (zd_b zq_prog_1_method_1_code_0 20 rfl rfl rfl) (zd_b zq_prog_1_method_1_code_0 21 rfl rfl rfl) (zd_b zq_prog_1_method_1_code_0 22 rfl rfl rfl)
theorem ok_Ip_init_Tr_init : z_ok M_Ip_init M_Tr_init 0 := ⟨z_mj1 (i := 75) rfl (by decide +kernel), rfl, ⟨by decide +kernel, by decide +kernel, by decide +kernel⟩, ⟨by decide, by decide⟩, z_mj1 (i := 3) rfl (by decide +kernel), rfl⟩
theorem ln_Ip_18 : Cond.methodLink "Ironpour" 18 M_Tr_init.1 ∈ z_gw := z_mj1 (i := 73) rfl (by decide +kernel)
theorem w_im_Tr_init : Cond.instanceMethod M_Tr_init.1 ∈ z_gw := z_mj1 (i := 74) rfl (by decide +kernel)
theorem d_Ip_init_23 : decode prog_1_method_1_code 23 = .ok (.putfield 19, 3) := zo_181 (d := 0) (e := 19) (zd_b zq_prog_1_method_1_code_0 23 rfl rfl rfl) (zd_b zq_prog_1_method_1_code_0 24 rfl rfl rfl) (zd_b zq_prog_1_method_1_code_0 25 rfl rfl rfl)
theorem fp_Ip_19 : z_fp "Ironpour" 19 11 1 true (t_Ip 1) := ⟨R_Ip, "Ironpour", F_Ip, 12, t_Ip, rfl, u_Ip, by decide, t_Ip_ok, n_Ip, rfl, rfl, Or.inl ⟨z_mj2 (i := 64) rfl (by decide +kernel), Or.inl rfl, fun _ => ⟨rfl, rfl⟩⟩⟩
theorem d_Ip_init_26 : decode prog_1_method_1_code 26 = .ok (.aload_n 0, 1) := zo_42 (zd_b zq_prog_1_method_1_code_0 26 rfl rfl rfl)
theorem d_Ip_init_27 : decode prog_1_method_1_code 27 = .ok (.new 16, 3) := zo_187 (d := 0) (e := 16) (zd_b zq_prog_1_method_1_code_0 27 rfl rfl rfl) (zd_b zq_prog_1_method_1_code_0 28 rfl rfl rfl) (zd_b zq_prog_1_method_1_code_0 29 rfl rfl rfl)
theorem d_Ip_init_30 : decode prog_1_method_1_code 30 = .ok (.dup, 1) := zo_89 (zd_b zq_prog_1_method_1_code_0 30 rfl rfl rfl)
theorem d_Ip_init_31 : decode prog_1_method_1_code 31 = .ok (.invokespecial 18, 3) := zo_183 (d := 0) (e := 18) (zd_b zq_prog_1_method_1_code_0 31 rfl rfl rfl) (zd_b zq_prog_1_method_1_code_1 0 rfl rfl rfl) (zd_b zq_prog_1_method_1_code_1 1 rfl rfl rfl)
theorem d_Ip_init_34 : decode prog_1_method_1_code 34 = .ok (.putfield 23, 3) := zo_181 (d := 0) (e := 23) (zd_b zq_prog_1_method_1_code_1 2 rfl rfl rfl) (zd_b zq_prog_1_method_1_code_1 3 rfl rfl rfl) (zd_b zq_prog_1_method_1_code_1 4 rfl rfl rfl)
theorem fp_Ip_23 : z_fp "Ironpour" 23 11 2 true (t_Ip 2) := ⟨R_Ip, "Ironpour", F_Ip, 12, t_Ip, rfl, u_Ip, by decide, t_Ip_ok, n_Ip, rfl, rfl, Or.inl ⟨z_mj2 (i := 65) rfl (by decide +kernel), Or.inl rfl, fun _ => ⟨rfl, rfl⟩⟩⟩
theorem d_Ip_init_37 : decode prog_1_method_1_code 37 = .ok (.aload_n 0, 1) := zo_42 (zd_b zq_prog_1_method_1_code_1 5 rfl rfl rfl)
theorem d_Ip_init_38 : decode prog_1_method_1_code 38 = .ok (.new 26, 3) := zo_187 (d := 0) (e := 26) (zd_b zq_prog_1_method_1_code_1 6 rfl rfl rfl) (zd_b zq_prog_1_method_1_code_1 7 rfl rfl rfl) (zd_b zq_prog_1_method_1_code_1 8 rfl rfl rfl)
theorem nc_Ip_26 : z_nc "Ironpour" 26 4 5 [.int 0, .int 0, .int 0, .int 0, .int 0] := ⟨R_GS, F_GS, t_GS, rfl, u_GS, t_GS_ok, z_mj1 (i := 138) rfl (by decide +kernel), z_mj1 (i := 139) rfl (by decide +kernel), z_mj1 (i := 5) rfl (by decide +kernel), by decide +kernel⟩
theorem d_Ip_init_41 : decode prog_1_method_1_code 41 = .ok (.dup, 1) := zo_89 (zd_b zq_prog_1_method_1_code_1 9 rfl rfl rfl)
theorem d_Ip_init_42 : decode prog_1_method_1_code 42 = .ok (.invokespecial 28, 3) := zo_183 (d := 0) (e := 28) (zd_b zq_prog_1_method_1_code_1 10 rfl rfl rfl) (zd_b zq_prog_1_method_1_code_1 11 rfl rfl rfl) (zd_b zq_prog_1_method_1_code_1 12 rfl rfl rfl)
theorem ok_Ip_init_GS_init : z_ok M_Ip_init M_GS_init 0 := ⟨z_mj1 (i := 142) rfl (by decide +kernel), rfl, ⟨by decide +kernel, by decide +kernel, by decide +kernel⟩, ⟨by decide, by decide⟩, z_mj1 (i := 5) rfl (by decide +kernel), rfl⟩
theorem ln_Ip_28 : Cond.methodLinkNest "Ironpour" 28 M_GS_init.1 "Ironpour" ∈ z_nw := z_mk1 (i := 140) rfl (by decide +kernel)
theorem w_im_GS_init : Cond.instanceMethod M_GS_init.1 ∈ z_gw := z_mj1 (i := 141) rfl (by decide +kernel)
theorem d_Ip_init_45 : decode prog_1_method_1_code 45 = .ok (.putfield 29, 3) := zo_181 (d := 0) (e := 29) (zd_b zq_prog_1_method_1_code_1 13 rfl rfl rfl) (zd_b zq_prog_1_method_1_code_1 14 rfl rfl rfl) (zd_b zq_prog_1_method_1_code_1 15 rfl rfl rfl)
theorem fp_Ip_29 : z_fp "Ironpour" 29 11 3 true (t_Ip 3) := ⟨R_Ip, "Ironpour", F_Ip, 12, t_Ip, rfl, u_Ip, by decide, t_Ip_ok, n_Ip, rfl, rfl, Or.inl ⟨z_mj2 (i := 66) rfl (by decide +kernel), Or.inl rfl, fun _ => ⟨rfl, rfl⟩⟩⟩
theorem d_Ip_init_48 : decode prog_1_method_1_code 48 = .ok (.aload_n 0, 1) := zo_42 (zd_b zq_prog_1_method_1_code_1 16 rfl rfl rfl)
theorem d_Ip_init_49 : decode prog_1_method_1_code 49 = .ok (.new 33, 3) := zo_187 (d := 0) (e := 33) (zd_b zq_prog_1_method_1_code_1 17 rfl rfl rfl) (zd_b zq_prog_1_method_1_code_1 18 rfl rfl rfl) (zd_b zq_prog_1_method_1_code_1 19 rfl rfl rfl)
theorem nc_Ip_33 : z_nc "Ironpour" 33 1 4 [.null, .null, .null, .int 0] := ⟨R_CS, F_CS, t_CS, rfl, u_CS, t_CS_ok, z_mj1 (i := 166) rfl (by decide +kernel), z_mj1 (i := 167) rfl (by decide +kernel), z_mj1 (i := 6) rfl (by decide +kernel), by decide +kernel⟩
theorem d_Ip_init_52 : decode prog_1_method_1_code 52 = .ok (.dup, 1) := zo_89 (zd_b zq_prog_1_method_1_code_1 20 rfl rfl rfl)
theorem d_Ip_init_53 : decode prog_1_method_1_code 53 = .ok (.invokespecial 35, 3) := zo_183 (d := 0) (e := 35) (zd_b zq_prog_1_method_1_code_1 21 rfl rfl rfl) (zd_b zq_prog_1_method_1_code_1 22 rfl rfl rfl) (zd_b zq_prog_1_method_1_code_1 23 rfl rfl rfl)
theorem ok_Ip_init_CS_init : z_ok M_Ip_init M_CS_init 0 := ⟨z_mj1 (i := 170) rfl (by decide +kernel), rfl, ⟨by decide +kernel, by decide +kernel, by decide +kernel⟩, ⟨by decide, by decide⟩, z_mj1 (i := 6) rfl (by decide +kernel), rfl⟩
theorem ln_Ip_35 : Cond.methodLinkNest "Ironpour" 35 M_CS_init.1 "Ironpour" ∈ z_nw := z_mk1 (i := 168) rfl (by decide +kernel)
theorem w_im_CS_init : Cond.instanceMethod M_CS_init.1 ∈ z_gw := z_mj1 (i := 169) rfl (by decide +kernel)
theorem d_Ip_init_56 : decode prog_1_method_1_code 56 = .ok (.putfield 36, 3) := zo_181 (d := 0) (e := 36) (zd_b zq_prog_1_method_1_code_1 24 rfl rfl rfl) (zd_b zq_prog_1_method_1_code_1 25 rfl rfl rfl) (zd_b zq_prog_1_method_1_code_1 26 rfl rfl rfl)
theorem fp_Ip_36 : z_fp "Ironpour" 36 11 4 true (t_Ip 4) := ⟨R_Ip, "Ironpour", F_Ip, 12, t_Ip, rfl, u_Ip, by decide, t_Ip_ok, n_Ip, rfl, rfl, Or.inl ⟨z_mj2 (i := 67) rfl (by decide +kernel), Or.inl rfl, fun _ => ⟨rfl, rfl⟩⟩⟩
theorem d_Ip_init_59 : decode prog_1_method_1_code 59 = .ok (.aload_n 0, 1) := zo_42 (zd_b zq_prog_1_method_1_code_1 27 rfl rfl rfl)
theorem d_Ip_init_60 : decode prog_1_method_1_code 60 = .ok (.new 40, 3) := zo_187 (d := 0) (e := 40) (zd_b zq_prog_1_method_1_code_1 28 rfl rfl rfl) (zd_b zq_prog_1_method_1_code_1 29 rfl rfl rfl) (zd_b zq_prog_1_method_1_code_1 30 rfl rfl rfl)
theorem nc_Ip_40 : z_nc "Ironpour" 40 3 5 [.null, .null, .null, .null, .long 0] := ⟨R_Fu, F_Fu, t_Fu, rfl, u_Fu, t_Fu_ok, z_mj1 (i := 185) rfl (by decide +kernel), z_mj1 (i := 186) rfl (by decide +kernel), z_mj1 (i := 7) rfl (by decide +kernel), by decide +kernel⟩
theorem d_Ip_init_63 : decode prog_1_method_1_code 63 = .ok (.dup, 1) := zo_89 (zd_b zq_prog_1_method_1_code_1 31 rfl rfl rfl)
theorem d_Ip_init_64 : decode prog_1_method_1_code 64 = .ok (.invokespecial 42, 3) := zo_183 (d := 0) (e := 42) (zd_b zq_prog_1_method_1_code_2 0 rfl rfl rfl) (zd_b zq_prog_1_method_1_code_2 1 rfl rfl rfl) (zd_b zq_prog_1_method_1_code_2 2 rfl rfl rfl)
theorem ok_Ip_init_Fu_init : z_ok M_Ip_init M_Fu_init 0 := ⟨z_mj1 (i := 189) rfl (by decide +kernel), rfl, ⟨by decide +kernel, by decide +kernel, by decide +kernel⟩, ⟨by decide, by decide⟩, z_mj1 (i := 7) rfl (by decide +kernel), rfl⟩
theorem ln_Ip_42 : Cond.methodLinkNest "Ironpour" 42 M_Fu_init.1 "Ironpour" ∈ z_nw := z_mk1 (i := 187) rfl (by decide +kernel)
theorem w_im_Fu_init : Cond.instanceMethod M_Fu_init.1 ∈ z_gw := z_mj1 (i := 188) rfl (by decide +kernel)
theorem d_Ip_init_67 : decode prog_1_method_1_code 67 = .ok (.putfield 43, 3) := zo_181 (d := 0) (e := 43) (zd_b zq_prog_1_method_1_code_2 3 rfl rfl rfl) (zd_b zq_prog_1_method_1_code_2 4 rfl rfl rfl) (zd_b zq_prog_1_method_1_code_2 5 rfl rfl rfl)
theorem fp_Ip_43 : z_fp "Ironpour" 43 11 5 true (t_Ip 5) := ⟨R_Ip, "Ironpour", F_Ip, 12, t_Ip, rfl, u_Ip, by decide, t_Ip_ok, n_Ip, rfl, rfl, Or.inl ⟨z_mj2 (i := 68) rfl (by decide +kernel), Or.inl rfl, fun _ => ⟨rfl, rfl⟩⟩⟩
theorem d_Ip_init_70 : decode prog_1_method_1_code 70 = .ok (.aload_n 0, 1) := zo_42 (zd_b zq_prog_1_method_1_code_2 6 rfl rfl rfl)
theorem d_Ip_init_71 : decode prog_1_method_1_code 71 = .ok (.new 47, 3) := zo_187 (d := 0) (e := 47) (zd_b zq_prog_1_method_1_code_2 7 rfl rfl rfl) (zd_b zq_prog_1_method_1_code_2 8 rfl rfl rfl) (zd_b zq_prog_1_method_1_code_2 9 rfl rfl rfl)
theorem nc_Ip_47 : z_nc "Ironpour" 47 5 4 [.null, .int 0, .int 0, .int 0] := ⟨R_La, F_La, t_La, rfl, u_La, t_La_ok, z_mj1 (i := 231) rfl (by decide +kernel), z_mj1 (i := 232) rfl (by decide +kernel), z_mj1 (i := 9) rfl (by decide +kernel), by decide +kernel⟩
theorem d_Ip_init_74 : decode prog_1_method_1_code 74 = .ok (.dup, 1) := zo_89 (zd_b zq_prog_1_method_1_code_2 10 rfl rfl rfl)
theorem d_Ip_init_75 : decode prog_1_method_1_code 75 = .ok (.invokespecial 49, 3) := zo_183 (d := 0) (e := 49) (zd_b zq_prog_1_method_1_code_2 11 rfl rfl rfl) (zd_b zq_prog_1_method_1_code_2 12 rfl rfl rfl) (zd_b zq_prog_1_method_1_code_2 13 rfl rfl rfl)
theorem ok_Ip_init_La_init : z_ok M_Ip_init M_La_init 0 := ⟨z_mj1 (i := 235) rfl (by decide +kernel), rfl, ⟨by decide +kernel, by decide +kernel, by decide +kernel⟩, ⟨by decide, by decide⟩, z_mj1 (i := 9) rfl (by decide +kernel), rfl⟩
theorem ln_Ip_49 : Cond.methodLinkNest "Ironpour" 49 M_La_init.1 "Ironpour" ∈ z_nw := z_mk1 (i := 233) rfl (by decide +kernel)
theorem w_im_La_init : Cond.instanceMethod M_La_init.1 ∈ z_gw := z_mj1 (i := 234) rfl (by decide +kernel)
theorem d_Ip_init_78 : decode prog_1_method_1_code 78 = .ok (.putfield 50, 3) := zo_181 (d := 0) (e := 50) (zd_b zq_prog_1_method_1_code_2 14 rfl rfl rfl) (zd_b zq_prog_1_method_1_code_2 15 rfl rfl rfl) (zd_b zq_prog_1_method_1_code_2 16 rfl rfl rfl)
theorem fp_Ip_50 : z_fp "Ironpour" 50 11 6 true (t_Ip 6) := ⟨R_Ip, "Ironpour", F_Ip, 12, t_Ip, rfl, u_Ip, by decide, t_Ip_ok, n_Ip, rfl, rfl, Or.inl ⟨z_mj2 (i := 69) rfl (by decide +kernel), Or.inl rfl, fun _ => ⟨rfl, rfl⟩⟩⟩
theorem d_Ip_init_81 : decode prog_1_method_1_code 81 = .ok (.aload_n 0, 1) := zo_42 (zd_b zq_prog_1_method_1_code_2 17 rfl rfl rfl)
theorem d_Ip_init_82 : decode prog_1_method_1_code 82 = .ok (.new 54, 3) := zo_187 (d := 0) (e := 54) (zd_b zq_prog_1_method_1_code_2 18 rfl rfl rfl) (zd_b zq_prog_1_method_1_code_2 19 rfl rfl rfl) (zd_b zq_prog_1_method_1_code_2 20 rfl rfl rfl)
theorem nc_Ip_54 : z_nc "Ironpour" 54 6 2 [.null, .int 0] := ⟨R_Me, F_Me, t_Me, rfl, u_Me, t_Me_ok, z_mj2 (i := 16) rfl (by decide +kernel), z_mj1 (i := 192) rfl (by decide +kernel), z_mj1 (i := 8) rfl (by decide +kernel), by decide +kernel⟩
theorem d_Ip_init_85 : decode prog_1_method_1_code 85 = .ok (.dup, 1) := zo_89 (zd_b zq_prog_1_method_1_code_2 21 rfl rfl rfl)
theorem d_Ip_init_86 : decode prog_1_method_1_code 86 = .ok (.invokespecial 56, 3) := zo_183 (d := 0) (e := 56) (zd_b zq_prog_1_method_1_code_2 22 rfl rfl rfl) (zd_b zq_prog_1_method_1_code_2 23 rfl rfl rfl) (zd_b zq_prog_1_method_1_code_2 24 rfl rfl rfl)
theorem ok_Ip_init_Me_init : z_ok M_Ip_init M_Me_init 0 := ⟨z_mj1 (i := 195) rfl (by decide +kernel), rfl, ⟨by decide +kernel, by decide +kernel, by decide +kernel⟩, ⟨by decide, by decide⟩, z_mj1 (i := 8) rfl (by decide +kernel), rfl⟩
theorem ln_Ip_56 : Cond.methodLinkNest "Ironpour" 56 M_Me_init.1 "Ironpour" ∈ z_nw := z_mk2 (i := 17) rfl (by decide +kernel)
theorem d_Ip_init_89 : decode prog_1_method_1_code 89 = .ok (.putfield 57, 3) := zo_181 (d := 0) (e := 57) (zd_b zq_prog_1_method_1_code_2 25 rfl rfl rfl) (zd_b zq_prog_1_method_1_code_2 26 rfl rfl rfl) (zd_b zq_prog_1_method_1_code_2 27 rfl rfl rfl)
theorem fp_Ip_57 : z_fp "Ironpour" 57 11 7 true (t_Ip 7) := ⟨R_Ip, "Ironpour", F_Ip, 12, t_Ip, rfl, u_Ip, by decide, t_Ip_ok, n_Ip, rfl, rfl, Or.inl ⟨z_mj2 (i := 70) rfl (by decide +kernel), Or.inl rfl, fun _ => ⟨rfl, rfl⟩⟩⟩
theorem d_Ip_init_92 : decode prog_1_method_1_code 92 = .ok (.aload_n 0, 1) := zo_42 (zd_b zq_prog_1_method_1_code_2 28 rfl rfl rfl)
theorem d_Ip_init_93 : decode prog_1_method_1_code 93 = .ok (.new 54, 3) := zo_187 (d := 0) (e := 54) (zd_b zq_prog_1_method_1_code_2 29 rfl rfl rfl) (zd_b zq_prog_1_method_1_code_2 30 rfl rfl rfl) (zd_b zq_prog_1_method_1_code_2 31 rfl rfl rfl)
theorem d_Ip_init_96 : decode prog_1_method_1_code 96 = .ok (.dup, 1) := zo_89 (zd_b zq_prog_1_method_1_code_3 0 rfl rfl rfl)
theorem d_Ip_init_97 : decode prog_1_method_1_code 97 = .ok (.invokespecial 56, 3) := zo_183 (d := 0) (e := 56) (zd_b zq_prog_1_method_1_code_3 1 rfl rfl rfl) (zd_b zq_prog_1_method_1_code_3 2 rfl rfl rfl) (zd_b zq_prog_1_method_1_code_3 3 rfl rfl rfl)
theorem d_Ip_init_100 : decode prog_1_method_1_code 100 = .ok (.putfield 61, 3) := zo_181 (d := 0) (e := 61) (zd_b zq_prog_1_method_1_code_3 4 rfl rfl rfl) (zd_b zq_prog_1_method_1_code_3 5 rfl rfl rfl) (zd_b zq_prog_1_method_1_code_3 6 rfl rfl rfl)
theorem fp_Ip_61 : z_fp "Ironpour" 61 11 8 true (t_Ip 8) := ⟨R_Ip, "Ironpour", F_Ip, 12, t_Ip, rfl, u_Ip, by decide, t_Ip_ok, n_Ip, rfl, rfl, Or.inl ⟨z_mj2 (i := 71) rfl (by decide +kernel), Or.inl rfl, fun _ => ⟨rfl, rfl⟩⟩⟩
theorem d_Ip_init_103 : decode prog_1_method_1_code 103 = .ok (.aload_n 0, 1) := zo_42 (zd_b zq_prog_1_method_1_code_3 7 rfl rfl rfl)
theorem d_Ip_init_104 : decode prog_1_method_1_code 104 = .ok (.new 64, 3) := zo_187 (d := 0) (e := 64) (zd_b zq_prog_1_method_1_code_3 8 rfl rfl rfl) (zd_b zq_prog_1_method_1_code_3 9 rfl rfl rfl) (zd_b zq_prog_1_method_1_code_3 10 rfl rfl rfl)
theorem nc_Ip_64 : z_nc "Ironpour" 64 9 3 [.int 0, .int 0, .int 0] := ⟨R_Re, F_Re, t_Re, rfl, u_Re, t_Re_ok, z_mj2 (i := 18) rfl (by decide +kernel), z_mj2 (i := 19) rfl (by decide +kernel), z_mj1 (i := 10) rfl (by decide +kernel), by decide +kernel⟩
theorem d_Ip_init_107 : decode prog_1_method_1_code 107 = .ok (.dup, 1) := zo_89 (zd_b zq_prog_1_method_1_code_3 11 rfl rfl rfl)
theorem d_Ip_init_108 : decode prog_1_method_1_code 108 = .ok (.invokespecial 66, 3) := zo_183 (d := 0) (e := 66) (zd_b zq_prog_1_method_1_code_3 12 rfl rfl rfl) (zd_b zq_prog_1_method_1_code_3 13 rfl rfl rfl) (zd_b zq_prog_1_method_1_code_3 14 rfl rfl rfl)
theorem ok_Ip_init_Re_init : z_ok M_Ip_init M_Re_init 0 := ⟨z_mj2 (i := 22) rfl (by decide +kernel), rfl, ⟨by decide +kernel, by decide +kernel, by decide +kernel⟩, ⟨by decide, by decide⟩, z_mj1 (i := 10) rfl (by decide +kernel), rfl⟩
theorem ln_Ip_66 : Cond.methodLinkNest "Ironpour" 66 M_Re_init.1 "Ironpour" ∈ z_nw := z_mk2 (i := 20) rfl (by decide +kernel)
theorem w_im_Re_init : Cond.instanceMethod M_Re_init.1 ∈ z_gw := z_mj2 (i := 21) rfl (by decide +kernel)
theorem d_Ip_init_111 : decode prog_1_method_1_code 111 = .ok (.putfield 67, 3) := zo_181 (d := 0) (e := 67) (zd_b zq_prog_1_method_1_code_3 15 rfl rfl rfl) (zd_b zq_prog_1_method_1_code_3 16 rfl rfl rfl) (zd_b zq_prog_1_method_1_code_3 17 rfl rfl rfl)
theorem fp_Ip_67 : z_fp "Ironpour" 67 11 9 true (t_Ip 9) := ⟨R_Ip, "Ironpour", F_Ip, 12, t_Ip, rfl, u_Ip, by decide, t_Ip_ok, n_Ip, rfl, rfl, Or.inl ⟨z_mj2 (i := 72) rfl (by decide +kernel), Or.inl rfl, fun _ => ⟨rfl, rfl⟩⟩⟩
theorem d_Ip_init_114 : decode prog_1_method_1_code 114 = .ok (.aload_n 0, 1) := zo_42 (zd_b zq_prog_1_method_1_code_3 18 rfl rfl rfl)
theorem d_Ip_init_115 : decode prog_1_method_1_code 115 = .ok (.new 71, 3) := zo_187 (d := 0) (e := 71) (zd_b zq_prog_1_method_1_code_3 19 rfl rfl rfl) (zd_b zq_prog_1_method_1_code_3 20 rfl rfl rfl) (zd_b zq_prog_1_method_1_code_3 21 rfl rfl rfl)
theorem nc_Ip_71 : z_nc "Ironpour" 71 13 3 [.int 0, .null, .int 0] := ⟨R_AL, F_AL, t_AL, rfl, u_AL, t_AL_ok, z_mj2 (i := 37) rfl (by decide +kernel), z_mj2 (i := 38) rfl (by decide +kernel), z_mj1 (i := 13) rfl (by decide +kernel), by decide +kernel⟩
theorem d_Ip_init_118 : decode prog_1_method_1_code 118 = .ok (.dup, 1) := zo_89 (zd_b zq_prog_1_method_1_code_3 22 rfl rfl rfl)
theorem d_Ip_init_119 : decode prog_1_method_1_code 119 = .ok (.invokespecial 73, 3) := zo_183 (d := 0) (e := 73) (zd_b zq_prog_1_method_1_code_3 23 rfl rfl rfl) (zd_b zq_prog_1_method_1_code_3 24 rfl rfl rfl) (zd_b zq_prog_1_method_1_code_3 25 rfl rfl rfl)
theorem ok_Ip_init_AL_init : z_ok M_Ip_init M_AL_init 0 := ⟨z_mj2 (i := 41) rfl (by decide +kernel), rfl, ⟨by decide +kernel, by decide +kernel, by decide +kernel⟩, ⟨by decide, by decide⟩, z_mj1 (i := 13) rfl (by decide +kernel), rfl⟩
theorem ln_Ip_73 : Cond.methodLink "Ironpour" 73 M_AL_init.1 ∈ z_gw := z_mj2 (i := 39) rfl (by decide +kernel)
theorem d_Ip_init_122 : decode prog_1_method_1_code 122 = .ok (.putfield 74, 3) := zo_181 (d := 0) (e := 74) (zd_b zq_prog_1_method_1_code_3 26 rfl rfl rfl) (zd_b zq_prog_1_method_1_code_3 27 rfl rfl rfl) (zd_b zq_prog_1_method_1_code_3 28 rfl rfl rfl)
theorem fp_Ip_74 : z_fp "Ironpour" 74 11 10 true (t_Ip 10) := ⟨R_Ip, "Ironpour", F_Ip, 12, t_Ip, rfl, u_Ip, by decide, t_Ip_ok, n_Ip, rfl, rfl, Or.inl ⟨z_mj2 (i := 73) rfl (by decide +kernel), Or.inl rfl, fun _ => ⟨rfl, rfl⟩⟩⟩
theorem d_Ip_init_125 : decode prog_1_method_1_code 125 = .ok (.aload_n 0, 1) := zo_42 (zd_b zq_prog_1_method_1_code_3 29 rfl rfl rfl)
theorem d_Ip_init_126 : decode prog_1_method_1_code 126 = .ok (.new 71, 3) := zo_187 (d := 0) (e := 71) (zd_b zq_prog_1_method_1_code_3 30 rfl rfl rfl) (zd_b zq_prog_1_method_1_code_3 31 rfl rfl rfl) (zd_b zq_prog_1_method_1_code_4 0 rfl rfl rfl)
theorem d_Ip_init_129 : decode prog_1_method_1_code 129 = .ok (.dup, 1) := zo_89 (zd_b zq_prog_1_method_1_code_4 1 rfl rfl rfl)
theorem d_Ip_init_130 : decode prog_1_method_1_code 130 = .ok (.invokespecial 73, 3) := zo_183 (d := 0) (e := 73) (zd_b zq_prog_1_method_1_code_4 2 rfl rfl rfl) (zd_b zq_prog_1_method_1_code_4 3 rfl rfl rfl) (zd_b zq_prog_1_method_1_code_4 4 rfl rfl rfl)
theorem d_Ip_init_133 : decode prog_1_method_1_code 133 = .ok (.putfield 78, 3) := zo_181 (d := 0) (e := 78) (zd_b zq_prog_1_method_1_code_4 5 rfl rfl rfl) (zd_b zq_prog_1_method_1_code_4 6 rfl rfl rfl) (zd_b zq_prog_1_method_1_code_4 7 rfl rfl rfl)
theorem fp_Ip_78 : z_fp "Ironpour" 78 11 11 true (t_Ip 11) := ⟨R_Ip, "Ironpour", F_Ip, 12, t_Ip, rfl, u_Ip, by decide, t_Ip_ok, n_Ip, rfl, rfl, Or.inl ⟨z_mj2 (i := 74) rfl (by decide +kernel), Or.inl rfl, fun _ => ⟨rfl, rfl⟩⟩⟩
theorem d_Ip_init_136 : decode prog_1_method_1_code 136 = .ok (.return_, 1) := zo_177 (zd_b zq_prog_1_method_1_code_4 8 rfl rfl rfl)
set_option maxHeartbeats 4000000 in
set_option maxRecDepth 100000 in
theorem C_Ip_init (g : zG) (a : Nat) : CT g M_Ip_init [.ref a] [(a, .inr (11, [.null, .null, .null, .null, .null, .null, .null, .null, .null, .null, .null, .null]))] (fun o cs1 => ∃ pa pa1 pa2 pa3 ta ta1 ta2 taz taz1 taz2 taz3 taz4 taz5 taz6 ta4 ta5 ta6 sa sa1 sa2 saz saz1 saz2 saz3 saz4 saz5 saz6 sa4 sa5 sa6 gs co co1 co2 co3 fu fub fubg fut1 fut2 fut3 la lab labg gy gyg du dug re wm ac, o = .inl none ∧ cs1 = [(a, .inr (11, [.ref pa, .ref ta, .ref sa, .ref gs, .ref co, .ref fu, .ref la, .ref gy, .ref du, .ref re, .ref wm, .ref ac])), (pa, .inr (8, [.ref pa1, .ref pa2, .ref pa3, .int 4])), (pa1, .inl (1, 108, .inl (fa_fill (fun _ => 46) (fun _ => 0) 108))), (pa2, .inl (2, 108, .inl (fun _ => 0))), (pa3, .inl (0, 108, .inl (fun _ => 0))), (ta, .inr (10, [.ref ta1, .ref ta2, .ref taz, .ref ta4, .ref ta5, .ref ta6, .int 0, .int 0])), (ta1, .inl (1, 108, .inl (fa_fill (fun _ => 46) (fun _ => 0) 108))), (ta2, .inl (0, 108, .inl (fun _ => 0))), (taz, .inr (2, [.ref taz1, .ref taz2, .ref taz3, .ref taz4, .ref taz5, .ref taz6, .int 0])), (taz1, .inl (0, 108, .inl (fun _ => 0))), (taz2, .inl (0, 108, .inl (fun _ => 0))), (taz3, .inl (0, 108, .inl (fun _ => 0))), (taz4, .inl (0, 108, .inl (fun _ => 0))), (taz5, .inl (0, 108, .inl (fun _ => 0))), (taz6, .inl (0, 108, .inl (fun _ => 0))), (ta4, .inl (2, 108, .inl (fun _ => 0))), (ta5, .inl (2, 108, .inl (fun _ => 0))), (ta6, .inl (0, 108, .inl (fun _ => 0))), (sa, .inr (10, [.ref sa1, .ref sa2, .ref saz, .ref sa4, .ref sa5, .ref sa6, .int 0, .int 0])), (sa1, .inl (1, 108, .inl (fa_fill (fun _ => 46) (fun _ => 0) 108))), (sa2, .inl (0, 108, .inl (fun _ => 0))), (saz, .inr (2, [.ref saz1, .ref saz2, .ref saz3, .ref saz4, .ref saz5, .ref saz6, .int 0])), (saz1, .inl (0, 108, .inl (fun _ => 0))), (saz2, .inl (0, 108, .inl (fun _ => 0))), (saz3, .inl (0, 108, .inl (fun _ => 0))), (saz4, .inl (0, 108, .inl (fun _ => 0))), (saz5, .inl (0, 108, .inl (fun _ => 0))), (saz6, .inl (0, 108, .inl (fun _ => 0))), (sa4, .inl (2, 108, .inl (fun _ => 0))), (sa5, .inl (2, 108, .inl (fun _ => 0))), (sa6, .inl (0, 108, .inl (fun _ => 0))), (gs, .inr (4, [.int 80, .int 35, .int 30, .int 50, .int 0])), (co, .inr (1, [.ref co1, .ref co2, .ref co3, .int 0])), (co1, .inl (0, 20, .inl (fun _ => 0))), (co2, .inl (0, 20, .inl (fun _ => 0))), (co3, .inl (0, 20, .inl (fun _ => 0))), (fu, .inr (3, [.ref fub, .ref fut1, .ref fut2, .ref fut3, .long 0])), (fub, .inr (6, [.ref fubg, .int 0])), (fubg, .inl (3, 4, .inr (.inl (fun _ => 0)))), (fut1, .inl (3, 4, .inr (.inl (fun _ => 0)))), (fut2, .inl (3, 4, .inr (.inl (fun _ => 0)))), (fut3, .inl (3, 4, .inr (.inl (fun _ => 0)))), (la, .inr (5, [.ref lab, .int 0, .int 0, .int 0])), (lab, .inr (6, [.ref labg, .int 0])), (labg, .inl (3, 4, .inr (.inl (fun _ => 0)))), (gy, .inr (6, [.ref gyg, .int 0])), (gyg, .inl (3, 4, .inr (.inl (fun _ => 0)))), (du, .inr (6, [.ref dug, .int 0])), (dug, .inl (3, 4, .inr (.inl (fun _ => 0)))), (re, .inr (9, [.int 0, .int 0, .int 0])), (wm, .inr (13, [.int 0, .ref (g.2.2 4), .int 0])), (ac, .inr (13, [.int 0, .ref (g.2.2 4), .int 0]))]) 60 3000 := by
  refine z_of (by decide) rfl (Nat.le_of_ble_eq_true rfl) (fun w0 => ?_)
  refine r_lvE (lv2 := [(0, .ref a)]) rfl ?_
  refine r_aload_n d_Ip_init_0 rfl 0 rfl ?_
  refine r_objInit ln_Ip_1 w_oi1 w_oi2 d_Ip_init_1 (by decide) (by decide) (Nat.le_of_ble_eq_true rfl) ?_
  refine r_aload_n d_Ip_init_4 rfl 0 rfl ?_
  refine r_new nc_Ip_7 d_Ip_init_5 (by omega) (by omega) (fun pa => ?_)
  refine r_cs (cs2 := [(a, .inr (11, [.null, .null, .null, .null, .null, .null, .null, .null, .null, .null, .null, .null])), (pa, .inr (8, [.null, .null, .null, .int 0]))]) rfl ?_
  refine r_dup d_Ip_init_8 rfl ?_
  refine r_callI (As := []) (rest := [.ref pa, .ref a]) (csC := [(pa, .inr (8, [.null, .null, .null, .int 0]))]) (is := [1]) rfl rfl ln_Ip_9 w_im_Pa_init ok_Ip_init_Pa_init d_Ip_init_9 (C_Pa_init g pa) rfl rfl (Nat.le_of_ble_eq_true rfl) rfl (by decide) (by omega) (by omega) (fun E cs1 hx => ?_) (fun v cs1 hx => ?_)
  · obtain ⟨pa1, pa2, pa3, e1, -⟩ := hx
    cases e1
  · obtain ⟨pa1, pa2, pa3, e1, rfl⟩ := hx
    cases e1
    refine ⟨rfl, ?_⟩
    refine r_st (st2 := [.ref pa, .ref a]) rfl ?_
    refine r_cs (cs2 := [(a, .inr (11, [.null, .null, .null, .null, .null, .null, .null, .null, .null, .null, .null, .null])), (pa, .inr (8, [.ref pa1, .ref pa2, .ref pa3, .int 4])), (pa1, .inl (1, 108, .inl (fa_fill (fun _ => 46) (fun _ => 0) 108))), (pa2, .inl (2, 108, .inl (fun _ => 0))), (pa3, .inl (0, 108, .inl (fun _ => 0)))]) rfl ?_
    refine r_put fp_Ip_10 d_Ip_init_12 (fun _ => rfl) rfl rfl (q0 := 0) rfl (Nat.le_of_ble_eq_true rfl) (cs' := [(a, .inr (11, [.ref pa, .null, .null, .null, .null, .null, .null, .null, .null, .null, .null, .null])), (pa, .inr (8, [.ref pa1, .ref pa2, .ref pa3, .int 4])), (pa1, .inl (1, 108, .inl (fa_fill (fun _ => 46) (fun _ => 0) 108))), (pa2, .inl (2, 108, .inl (fun _ => 0))), (pa3, .inl (0, 108, .inl (fun _ => 0)))]) rfl ?_
    refine r_aload_n d_Ip_init_15 rfl 0 rfl ?_
    refine r_new nc_Ip_16 d_Ip_init_16 (by omega) (by omega) (fun ta => ?_)
    refine r_cs (cs2 := [(a, .inr (11, [.ref pa, .null, .null, .null, .null, .null, .null, .null, .null, .null, .null, .null])), (pa, .inr (8, [.ref pa1, .ref pa2, .ref pa3, .int 4])), (pa1, .inl (1, 108, .inl (fa_fill (fun _ => 46) (fun _ => 0) 108))), (pa2, .inl (2, 108, .inl (fun _ => 0))), (pa3, .inl (0, 108, .inl (fun _ => 0))), (ta, .inr (10, [.null, .null, .null, .null, .null, .null, .int 0, .int 0]))]) rfl ?_
    refine r_dup d_Ip_init_19 rfl ?_
    refine r_callI (As := []) (rest := [.ref ta, .ref a]) (csC := [(ta, .inr (10, [.null, .null, .null, .null, .null, .null, .int 0, .int 0]))]) (is := [5]) rfl rfl ln_Ip_18 w_im_Tr_init ok_Ip_init_Tr_init d_Ip_init_20 (C_Tr_init g ta) rfl rfl (Nat.le_of_ble_eq_true rfl) rfl (by decide) (by omega) (by omega) (fun E cs1 hx => ?_) (fun v cs1 hx => ?_)
    · obtain ⟨ta1, ta2, taz, taz1, taz2, taz3, taz4, taz5, taz6, ta4, ta5, ta6, e1, -⟩ := hx
      cases e1
    · obtain ⟨ta1, ta2, taz, taz1, taz2, taz3, taz4, taz5, taz6, ta4, ta5, ta6, e1, rfl⟩ := hx
      cases e1
      refine ⟨rfl, ?_⟩
      refine r_st (st2 := [.ref ta, .ref a]) rfl ?_
      refine r_cs (cs2 := [(a, .inr (11, [.ref pa, .null, .null, .null, .null, .null, .null, .null, .null, .null, .null, .null])), (pa, .inr (8, [.ref pa1, .ref pa2, .ref pa3, .int 4])), (pa1, .inl (1, 108, .inl (fa_fill (fun _ => 46) (fun _ => 0) 108))), (pa2, .inl (2, 108, .inl (fun _ => 0))), (pa3, .inl (0, 108, .inl (fun _ => 0))), (ta, .inr (10, [.ref ta1, .ref ta2, .ref taz, .ref ta4, .ref ta5, .ref ta6, .int 0, .int 0])), (ta1, .inl (1, 108, .inl (fa_fill (fun _ => 46) (fun _ => 0) 108))), (ta2, .inl (0, 108, .inl (fun _ => 0))), (taz, .inr (2, [.ref taz1, .ref taz2, .ref taz3, .ref taz4, .ref taz5, .ref taz6, .int 0])), (taz1, .inl (0, 108, .inl (fun _ => 0))), (taz2, .inl (0, 108, .inl (fun _ => 0))), (taz3, .inl (0, 108, .inl (fun _ => 0))), (taz4, .inl (0, 108, .inl (fun _ => 0))), (taz5, .inl (0, 108, .inl (fun _ => 0))), (taz6, .inl (0, 108, .inl (fun _ => 0))), (ta4, .inl (2, 108, .inl (fun _ => 0))), (ta5, .inl (2, 108, .inl (fun _ => 0))), (ta6, .inl (0, 108, .inl (fun _ => 0)))]) rfl ?_
      refine r_put fp_Ip_19 d_Ip_init_23 (fun _ => rfl) rfl rfl (q0 := 0) rfl (Nat.le_of_ble_eq_true rfl) (cs' := [(a, .inr (11, [.ref pa, .ref ta, .null, .null, .null, .null, .null, .null, .null, .null, .null, .null])), (pa, .inr (8, [.ref pa1, .ref pa2, .ref pa3, .int 4])), (pa1, .inl (1, 108, .inl (fa_fill (fun _ => 46) (fun _ => 0) 108))), (pa2, .inl (2, 108, .inl (fun _ => 0))), (pa3, .inl (0, 108, .inl (fun _ => 0))), (ta, .inr (10, [.ref ta1, .ref ta2, .ref taz, .ref ta4, .ref ta5, .ref ta6, .int 0, .int 0])), (ta1, .inl (1, 108, .inl (fa_fill (fun _ => 46) (fun _ => 0) 108))), (ta2, .inl (0, 108, .inl (fun _ => 0))), (taz, .inr (2, [.ref taz1, .ref taz2, .ref taz3, .ref taz4, .ref taz5, .ref taz6, .int 0])), (taz1, .inl (0, 108, .inl (fun _ => 0))), (taz2, .inl (0, 108, .inl (fun _ => 0))), (taz3, .inl (0, 108, .inl (fun _ => 0))), (taz4, .inl (0, 108, .inl (fun _ => 0))), (taz5, .inl (0, 108, .inl (fun _ => 0))), (taz6, .inl (0, 108, .inl (fun _ => 0))), (ta4, .inl (2, 108, .inl (fun _ => 0))), (ta5, .inl (2, 108, .inl (fun _ => 0))), (ta6, .inl (0, 108, .inl (fun _ => 0)))]) rfl ?_
      refine r_aload_n d_Ip_init_26 rfl 0 rfl ?_
      refine r_new nc_Ip_16 d_Ip_init_27 (by omega) (by omega) (fun sa => ?_)
      refine r_cs (cs2 := [(a, .inr (11, [.ref pa, .ref ta, .null, .null, .null, .null, .null, .null, .null, .null, .null, .null])), (pa, .inr (8, [.ref pa1, .ref pa2, .ref pa3, .int 4])), (pa1, .inl (1, 108, .inl (fa_fill (fun _ => 46) (fun _ => 0) 108))), (pa2, .inl (2, 108, .inl (fun _ => 0))), (pa3, .inl (0, 108, .inl (fun _ => 0))), (ta, .inr (10, [.ref ta1, .ref ta2, .ref taz, .ref ta4, .ref ta5, .ref ta6, .int 0, .int 0])), (ta1, .inl (1, 108, .inl (fa_fill (fun _ => 46) (fun _ => 0) 108))), (ta2, .inl (0, 108, .inl (fun _ => 0))), (taz, .inr (2, [.ref taz1, .ref taz2, .ref taz3, .ref taz4, .ref taz5, .ref taz6, .int 0])), (taz1, .inl (0, 108, .inl (fun _ => 0))), (taz2, .inl (0, 108, .inl (fun _ => 0))), (taz3, .inl (0, 108, .inl (fun _ => 0))), (taz4, .inl (0, 108, .inl (fun _ => 0))), (taz5, .inl (0, 108, .inl (fun _ => 0))), (taz6, .inl (0, 108, .inl (fun _ => 0))), (ta4, .inl (2, 108, .inl (fun _ => 0))), (ta5, .inl (2, 108, .inl (fun _ => 0))), (ta6, .inl (0, 108, .inl (fun _ => 0))), (sa, .inr (10, [.null, .null, .null, .null, .null, .null, .int 0, .int 0]))]) rfl ?_
      refine r_dup d_Ip_init_30 rfl ?_
      refine r_callI (As := []) (rest := [.ref sa, .ref a]) (csC := [(sa, .inr (10, [.null, .null, .null, .null, .null, .null, .int 0, .int 0]))]) (is := [18]) rfl rfl ln_Ip_18 w_im_Tr_init ok_Ip_init_Tr_init d_Ip_init_31 (C_Tr_init g sa) rfl rfl (Nat.le_of_ble_eq_true rfl) rfl (by decide) (by omega) (by omega) (fun E cs1 hx => ?_) (fun v cs1 hx => ?_)
      · obtain ⟨sa1, sa2, saz, saz1, saz2, saz3, saz4, saz5, saz6, sa4, sa5, sa6, e1, -⟩ := hx
        cases e1
      · obtain ⟨sa1, sa2, saz, saz1, saz2, saz3, saz4, saz5, saz6, sa4, sa5, sa6, e1, rfl⟩ := hx
        cases e1
        refine ⟨rfl, ?_⟩
        refine r_st (st2 := [.ref sa, .ref a]) rfl ?_
        refine r_cs (cs2 := [(a, .inr (11, [.ref pa, .ref ta, .null, .null, .null, .null, .null, .null, .null, .null, .null, .null])), (pa, .inr (8, [.ref pa1, .ref pa2, .ref pa3, .int 4])), (pa1, .inl (1, 108, .inl (fa_fill (fun _ => 46) (fun _ => 0) 108))), (pa2, .inl (2, 108, .inl (fun _ => 0))), (pa3, .inl (0, 108, .inl (fun _ => 0))), (ta, .inr (10, [.ref ta1, .ref ta2, .ref taz, .ref ta4, .ref ta5, .ref ta6, .int 0, .int 0])), (ta1, .inl (1, 108, .inl (fa_fill (fun _ => 46) (fun _ => 0) 108))), (ta2, .inl (0, 108, .inl (fun _ => 0))), (taz, .inr (2, [.ref taz1, .ref taz2, .ref taz3, .ref taz4, .ref taz5, .ref taz6, .int 0])), (taz1, .inl (0, 108, .inl (fun _ => 0))), (taz2, .inl (0, 108, .inl (fun _ => 0))), (taz3, .inl (0, 108, .inl (fun _ => 0))), (taz4, .inl (0, 108, .inl (fun _ => 0))), (taz5, .inl (0, 108, .inl (fun _ => 0))), (taz6, .inl (0, 108, .inl (fun _ => 0))), (ta4, .inl (2, 108, .inl (fun _ => 0))), (ta5, .inl (2, 108, .inl (fun _ => 0))), (ta6, .inl (0, 108, .inl (fun _ => 0))), (sa, .inr (10, [.ref sa1, .ref sa2, .ref saz, .ref sa4, .ref sa5, .ref sa6, .int 0, .int 0])), (sa1, .inl (1, 108, .inl (fa_fill (fun _ => 46) (fun _ => 0) 108))), (sa2, .inl (0, 108, .inl (fun _ => 0))), (saz, .inr (2, [.ref saz1, .ref saz2, .ref saz3, .ref saz4, .ref saz5, .ref saz6, .int 0])), (saz1, .inl (0, 108, .inl (fun _ => 0))), (saz2, .inl (0, 108, .inl (fun _ => 0))), (saz3, .inl (0, 108, .inl (fun _ => 0))), (saz4, .inl (0, 108, .inl (fun _ => 0))), (saz5, .inl (0, 108, .inl (fun _ => 0))), (saz6, .inl (0, 108, .inl (fun _ => 0))), (sa4, .inl (2, 108, .inl (fun _ => 0))), (sa5, .inl (2, 108, .inl (fun _ => 0))), (sa6, .inl (0, 108, .inl (fun _ => 0)))]) rfl ?_
        refine r_put fp_Ip_23 d_Ip_init_34 (fun _ => rfl) rfl rfl (q0 := 0) rfl (Nat.le_of_ble_eq_true rfl) (cs' := [(a, .inr (11, [.ref pa, .ref ta, .ref sa, .null, .null, .null, .null, .null, .null, .null, .null, .null])), (pa, .inr (8, [.ref pa1, .ref pa2, .ref pa3, .int 4])), (pa1, .inl (1, 108, .inl (fa_fill (fun _ => 46) (fun _ => 0) 108))), (pa2, .inl (2, 108, .inl (fun _ => 0))), (pa3, .inl (0, 108, .inl (fun _ => 0))), (ta, .inr (10, [.ref ta1, .ref ta2, .ref taz, .ref ta4, .ref ta5, .ref ta6, .int 0, .int 0])), (ta1, .inl (1, 108, .inl (fa_fill (fun _ => 46) (fun _ => 0) 108))), (ta2, .inl (0, 108, .inl (fun _ => 0))), (taz, .inr (2, [.ref taz1, .ref taz2, .ref taz3, .ref taz4, .ref taz5, .ref taz6, .int 0])), (taz1, .inl (0, 108, .inl (fun _ => 0))), (taz2, .inl (0, 108, .inl (fun _ => 0))), (taz3, .inl (0, 108, .inl (fun _ => 0))), (taz4, .inl (0, 108, .inl (fun _ => 0))), (taz5, .inl (0, 108, .inl (fun _ => 0))), (taz6, .inl (0, 108, .inl (fun _ => 0))), (ta4, .inl (2, 108, .inl (fun _ => 0))), (ta5, .inl (2, 108, .inl (fun _ => 0))), (ta6, .inl (0, 108, .inl (fun _ => 0))), (sa, .inr (10, [.ref sa1, .ref sa2, .ref saz, .ref sa4, .ref sa5, .ref sa6, .int 0, .int 0])), (sa1, .inl (1, 108, .inl (fa_fill (fun _ => 46) (fun _ => 0) 108))), (sa2, .inl (0, 108, .inl (fun _ => 0))), (saz, .inr (2, [.ref saz1, .ref saz2, .ref saz3, .ref saz4, .ref saz5, .ref saz6, .int 0])), (saz1, .inl (0, 108, .inl (fun _ => 0))), (saz2, .inl (0, 108, .inl (fun _ => 0))), (saz3, .inl (0, 108, .inl (fun _ => 0))), (saz4, .inl (0, 108, .inl (fun _ => 0))), (saz5, .inl (0, 108, .inl (fun _ => 0))), (saz6, .inl (0, 108, .inl (fun _ => 0))), (sa4, .inl (2, 108, .inl (fun _ => 0))), (sa5, .inl (2, 108, .inl (fun _ => 0))), (sa6, .inl (0, 108, .inl (fun _ => 0)))]) rfl ?_
        refine r_aload_n d_Ip_init_37 rfl 0 rfl ?_
        refine r_new nc_Ip_26 d_Ip_init_38 (by omega) (by omega) (fun gs => ?_)
        refine r_cs (cs2 := [(a, .inr (11, [.ref pa, .ref ta, .ref sa, .null, .null, .null, .null, .null, .null, .null, .null, .null])), (pa, .inr (8, [.ref pa1, .ref pa2, .ref pa3, .int 4])), (pa1, .inl (1, 108, .inl (fa_fill (fun _ => 46) (fun _ => 0) 108))), (pa2, .inl (2, 108, .inl (fun _ => 0))), (pa3, .inl (0, 108, .inl (fun _ => 0))), (ta, .inr (10, [.ref ta1, .ref ta2, .ref taz, .ref ta4, .ref ta5, .ref ta6, .int 0, .int 0])), (ta1, .inl (1, 108, .inl (fa_fill (fun _ => 46) (fun _ => 0) 108))), (ta2, .inl (0, 108, .inl (fun _ => 0))), (taz, .inr (2, [.ref taz1, .ref taz2, .ref taz3, .ref taz4, .ref taz5, .ref taz6, .int 0])), (taz1, .inl (0, 108, .inl (fun _ => 0))), (taz2, .inl (0, 108, .inl (fun _ => 0))), (taz3, .inl (0, 108, .inl (fun _ => 0))), (taz4, .inl (0, 108, .inl (fun _ => 0))), (taz5, .inl (0, 108, .inl (fun _ => 0))), (taz6, .inl (0, 108, .inl (fun _ => 0))), (ta4, .inl (2, 108, .inl (fun _ => 0))), (ta5, .inl (2, 108, .inl (fun _ => 0))), (ta6, .inl (0, 108, .inl (fun _ => 0))), (sa, .inr (10, [.ref sa1, .ref sa2, .ref saz, .ref sa4, .ref sa5, .ref sa6, .int 0, .int 0])), (sa1, .inl (1, 108, .inl (fa_fill (fun _ => 46) (fun _ => 0) 108))), (sa2, .inl (0, 108, .inl (fun _ => 0))), (saz, .inr (2, [.ref saz1, .ref saz2, .ref saz3, .ref saz4, .ref saz5, .ref saz6, .int 0])), (saz1, .inl (0, 108, .inl (fun _ => 0))), (saz2, .inl (0, 108, .inl (fun _ => 0))), (saz3, .inl (0, 108, .inl (fun _ => 0))), (saz4, .inl (0, 108, .inl (fun _ => 0))), (saz5, .inl (0, 108, .inl (fun _ => 0))), (saz6, .inl (0, 108, .inl (fun _ => 0))), (sa4, .inl (2, 108, .inl (fun _ => 0))), (sa5, .inl (2, 108, .inl (fun _ => 0))), (sa6, .inl (0, 108, .inl (fun _ => 0))), (gs, .inr (4, [.int 0, .int 0, .int 0, .int 0, .int 0]))]) rfl ?_
        refine r_dup d_Ip_init_41 rfl ?_
        refine r_callIN (As := []) (rest := [.ref gs, .ref a]) (csC := [(gs, .inr (4, [.int 0, .int 0, .int 0, .int 0, .int 0]))]) (is := [31]) rfl rfl ln_Ip_28 w_im_GS_init ok_Ip_init_GS_init d_Ip_init_42 (C_GS_init g gs) rfl rfl (Nat.le_of_ble_eq_true rfl) rfl (by decide) (by omega) (by omega) (fun E cs1 hx => ?_) (fun v cs1 hx => ?_)
        · exact absurd hx.1 (by simp)
        · obtain ⟨e1, rfl⟩ := hx
          cases e1
          refine ⟨rfl, ?_⟩
          refine r_st (st2 := [.ref gs, .ref a]) rfl ?_
          refine r_cs (cs2 := [(a, .inr (11, [.ref pa, .ref ta, .ref sa, .null, .null, .null, .null, .null, .null, .null, .null, .null])), (pa, .inr (8, [.ref pa1, .ref pa2, .ref pa3, .int 4])), (pa1, .inl (1, 108, .inl (fa_fill (fun _ => 46) (fun _ => 0) 108))), (pa2, .inl (2, 108, .inl (fun _ => 0))), (pa3, .inl (0, 108, .inl (fun _ => 0))), (ta, .inr (10, [.ref ta1, .ref ta2, .ref taz, .ref ta4, .ref ta5, .ref ta6, .int 0, .int 0])), (ta1, .inl (1, 108, .inl (fa_fill (fun _ => 46) (fun _ => 0) 108))), (ta2, .inl (0, 108, .inl (fun _ => 0))), (taz, .inr (2, [.ref taz1, .ref taz2, .ref taz3, .ref taz4, .ref taz5, .ref taz6, .int 0])), (taz1, .inl (0, 108, .inl (fun _ => 0))), (taz2, .inl (0, 108, .inl (fun _ => 0))), (taz3, .inl (0, 108, .inl (fun _ => 0))), (taz4, .inl (0, 108, .inl (fun _ => 0))), (taz5, .inl (0, 108, .inl (fun _ => 0))), (taz6, .inl (0, 108, .inl (fun _ => 0))), (ta4, .inl (2, 108, .inl (fun _ => 0))), (ta5, .inl (2, 108, .inl (fun _ => 0))), (ta6, .inl (0, 108, .inl (fun _ => 0))), (sa, .inr (10, [.ref sa1, .ref sa2, .ref saz, .ref sa4, .ref sa5, .ref sa6, .int 0, .int 0])), (sa1, .inl (1, 108, .inl (fa_fill (fun _ => 46) (fun _ => 0) 108))), (sa2, .inl (0, 108, .inl (fun _ => 0))), (saz, .inr (2, [.ref saz1, .ref saz2, .ref saz3, .ref saz4, .ref saz5, .ref saz6, .int 0])), (saz1, .inl (0, 108, .inl (fun _ => 0))), (saz2, .inl (0, 108, .inl (fun _ => 0))), (saz3, .inl (0, 108, .inl (fun _ => 0))), (saz4, .inl (0, 108, .inl (fun _ => 0))), (saz5, .inl (0, 108, .inl (fun _ => 0))), (saz6, .inl (0, 108, .inl (fun _ => 0))), (sa4, .inl (2, 108, .inl (fun _ => 0))), (sa5, .inl (2, 108, .inl (fun _ => 0))), (sa6, .inl (0, 108, .inl (fun _ => 0))), (gs, .inr (4, [.int 80, .int 35, .int 30, .int 50, .int 0]))]) rfl ?_
          refine r_put fp_Ip_29 d_Ip_init_45 (fun _ => rfl) rfl rfl (q0 := 0) rfl (Nat.le_of_ble_eq_true rfl) (cs' := [(a, .inr (11, [.ref pa, .ref ta, .ref sa, .ref gs, .null, .null, .null, .null, .null, .null, .null, .null])), (pa, .inr (8, [.ref pa1, .ref pa2, .ref pa3, .int 4])), (pa1, .inl (1, 108, .inl (fa_fill (fun _ => 46) (fun _ => 0) 108))), (pa2, .inl (2, 108, .inl (fun _ => 0))), (pa3, .inl (0, 108, .inl (fun _ => 0))), (ta, .inr (10, [.ref ta1, .ref ta2, .ref taz, .ref ta4, .ref ta5, .ref ta6, .int 0, .int 0])), (ta1, .inl (1, 108, .inl (fa_fill (fun _ => 46) (fun _ => 0) 108))), (ta2, .inl (0, 108, .inl (fun _ => 0))), (taz, .inr (2, [.ref taz1, .ref taz2, .ref taz3, .ref taz4, .ref taz5, .ref taz6, .int 0])), (taz1, .inl (0, 108, .inl (fun _ => 0))), (taz2, .inl (0, 108, .inl (fun _ => 0))), (taz3, .inl (0, 108, .inl (fun _ => 0))), (taz4, .inl (0, 108, .inl (fun _ => 0))), (taz5, .inl (0, 108, .inl (fun _ => 0))), (taz6, .inl (0, 108, .inl (fun _ => 0))), (ta4, .inl (2, 108, .inl (fun _ => 0))), (ta5, .inl (2, 108, .inl (fun _ => 0))), (ta6, .inl (0, 108, .inl (fun _ => 0))), (sa, .inr (10, [.ref sa1, .ref sa2, .ref saz, .ref sa4, .ref sa5, .ref sa6, .int 0, .int 0])), (sa1, .inl (1, 108, .inl (fa_fill (fun _ => 46) (fun _ => 0) 108))), (sa2, .inl (0, 108, .inl (fun _ => 0))), (saz, .inr (2, [.ref saz1, .ref saz2, .ref saz3, .ref saz4, .ref saz5, .ref saz6, .int 0])), (saz1, .inl (0, 108, .inl (fun _ => 0))), (saz2, .inl (0, 108, .inl (fun _ => 0))), (saz3, .inl (0, 108, .inl (fun _ => 0))), (saz4, .inl (0, 108, .inl (fun _ => 0))), (saz5, .inl (0, 108, .inl (fun _ => 0))), (saz6, .inl (0, 108, .inl (fun _ => 0))), (sa4, .inl (2, 108, .inl (fun _ => 0))), (sa5, .inl (2, 108, .inl (fun _ => 0))), (sa6, .inl (0, 108, .inl (fun _ => 0))), (gs, .inr (4, [.int 80, .int 35, .int 30, .int 50, .int 0]))]) rfl ?_
          refine r_aload_n d_Ip_init_48 rfl 0 rfl ?_
          refine r_new nc_Ip_33 d_Ip_init_49 (by omega) (by omega) (fun co => ?_)
          refine r_cs (cs2 := [(a, .inr (11, [.ref pa, .ref ta, .ref sa, .ref gs, .null, .null, .null, .null, .null, .null, .null, .null])), (pa, .inr (8, [.ref pa1, .ref pa2, .ref pa3, .int 4])), (pa1, .inl (1, 108, .inl (fa_fill (fun _ => 46) (fun _ => 0) 108))), (pa2, .inl (2, 108, .inl (fun _ => 0))), (pa3, .inl (0, 108, .inl (fun _ => 0))), (ta, .inr (10, [.ref ta1, .ref ta2, .ref taz, .ref ta4, .ref ta5, .ref ta6, .int 0, .int 0])), (ta1, .inl (1, 108, .inl (fa_fill (fun _ => 46) (fun _ => 0) 108))), (ta2, .inl (0, 108, .inl (fun _ => 0))), (taz, .inr (2, [.ref taz1, .ref taz2, .ref taz3, .ref taz4, .ref taz5, .ref taz6, .int 0])), (taz1, .inl (0, 108, .inl (fun _ => 0))), (taz2, .inl (0, 108, .inl (fun _ => 0))), (taz3, .inl (0, 108, .inl (fun _ => 0))), (taz4, .inl (0, 108, .inl (fun _ => 0))), (taz5, .inl (0, 108, .inl (fun _ => 0))), (taz6, .inl (0, 108, .inl (fun _ => 0))), (ta4, .inl (2, 108, .inl (fun _ => 0))), (ta5, .inl (2, 108, .inl (fun _ => 0))), (ta6, .inl (0, 108, .inl (fun _ => 0))), (sa, .inr (10, [.ref sa1, .ref sa2, .ref saz, .ref sa4, .ref sa5, .ref sa6, .int 0, .int 0])), (sa1, .inl (1, 108, .inl (fa_fill (fun _ => 46) (fun _ => 0) 108))), (sa2, .inl (0, 108, .inl (fun _ => 0))), (saz, .inr (2, [.ref saz1, .ref saz2, .ref saz3, .ref saz4, .ref saz5, .ref saz6, .int 0])), (saz1, .inl (0, 108, .inl (fun _ => 0))), (saz2, .inl (0, 108, .inl (fun _ => 0))), (saz3, .inl (0, 108, .inl (fun _ => 0))), (saz4, .inl (0, 108, .inl (fun _ => 0))), (saz5, .inl (0, 108, .inl (fun _ => 0))), (saz6, .inl (0, 108, .inl (fun _ => 0))), (sa4, .inl (2, 108, .inl (fun _ => 0))), (sa5, .inl (2, 108, .inl (fun _ => 0))), (sa6, .inl (0, 108, .inl (fun _ => 0))), (gs, .inr (4, [.int 80, .int 35, .int 30, .int 50, .int 0])), (co, .inr (1, [.null, .null, .null, .int 0]))]) rfl ?_
          refine r_dup d_Ip_init_52 rfl ?_
          refine r_callIN (As := []) (rest := [.ref co, .ref a]) (csC := [(co, .inr (1, [.null, .null, .null, .int 0]))]) (is := [32]) rfl rfl ln_Ip_35 w_im_CS_init ok_Ip_init_CS_init d_Ip_init_53 (C_CS_init g co) rfl rfl (Nat.le_of_ble_eq_true rfl) rfl (by decide) (by omega) (by omega) (fun E cs1 hx => ?_) (fun v cs1 hx => ?_)
          · obtain ⟨co1, co2, co3, e1, -⟩ := hx
            cases e1
          · obtain ⟨co1, co2, co3, e1, rfl⟩ := hx
            cases e1
            refine ⟨rfl, ?_⟩
            refine r_st (st2 := [.ref co, .ref a]) rfl ?_
            refine r_cs (cs2 := [(a, .inr (11, [.ref pa, .ref ta, .ref sa, .ref gs, .null, .null, .null, .null, .null, .null, .null, .null])), (pa, .inr (8, [.ref pa1, .ref pa2, .ref pa3, .int 4])), (pa1, .inl (1, 108, .inl (fa_fill (fun _ => 46) (fun _ => 0) 108))), (pa2, .inl (2, 108, .inl (fun _ => 0))), (pa3, .inl (0, 108, .inl (fun _ => 0))), (ta, .inr (10, [.ref ta1, .ref ta2, .ref taz, .ref ta4, .ref ta5, .ref ta6, .int 0, .int 0])), (ta1, .inl (1, 108, .inl (fa_fill (fun _ => 46) (fun _ => 0) 108))), (ta2, .inl (0, 108, .inl (fun _ => 0))), (taz, .inr (2, [.ref taz1, .ref taz2, .ref taz3, .ref taz4, .ref taz5, .ref taz6, .int 0])), (taz1, .inl (0, 108, .inl (fun _ => 0))), (taz2, .inl (0, 108, .inl (fun _ => 0))), (taz3, .inl (0, 108, .inl (fun _ => 0))), (taz4, .inl (0, 108, .inl (fun _ => 0))), (taz5, .inl (0, 108, .inl (fun _ => 0))), (taz6, .inl (0, 108, .inl (fun _ => 0))), (ta4, .inl (2, 108, .inl (fun _ => 0))), (ta5, .inl (2, 108, .inl (fun _ => 0))), (ta6, .inl (0, 108, .inl (fun _ => 0))), (sa, .inr (10, [.ref sa1, .ref sa2, .ref saz, .ref sa4, .ref sa5, .ref sa6, .int 0, .int 0])), (sa1, .inl (1, 108, .inl (fa_fill (fun _ => 46) (fun _ => 0) 108))), (sa2, .inl (0, 108, .inl (fun _ => 0))), (saz, .inr (2, [.ref saz1, .ref saz2, .ref saz3, .ref saz4, .ref saz5, .ref saz6, .int 0])), (saz1, .inl (0, 108, .inl (fun _ => 0))), (saz2, .inl (0, 108, .inl (fun _ => 0))), (saz3, .inl (0, 108, .inl (fun _ => 0))), (saz4, .inl (0, 108, .inl (fun _ => 0))), (saz5, .inl (0, 108, .inl (fun _ => 0))), (saz6, .inl (0, 108, .inl (fun _ => 0))), (sa4, .inl (2, 108, .inl (fun _ => 0))), (sa5, .inl (2, 108, .inl (fun _ => 0))), (sa6, .inl (0, 108, .inl (fun _ => 0))), (gs, .inr (4, [.int 80, .int 35, .int 30, .int 50, .int 0])), (co, .inr (1, [.ref co1, .ref co2, .ref co3, .int 0])), (co1, .inl (0, 20, .inl (fun _ => 0))), (co2, .inl (0, 20, .inl (fun _ => 0))), (co3, .inl (0, 20, .inl (fun _ => 0)))]) rfl ?_
            refine r_put fp_Ip_36 d_Ip_init_56 (fun _ => rfl) rfl rfl (q0 := 0) rfl (Nat.le_of_ble_eq_true rfl) (cs' := [(a, .inr (11, [.ref pa, .ref ta, .ref sa, .ref gs, .ref co, .null, .null, .null, .null, .null, .null, .null])), (pa, .inr (8, [.ref pa1, .ref pa2, .ref pa3, .int 4])), (pa1, .inl (1, 108, .inl (fa_fill (fun _ => 46) (fun _ => 0) 108))), (pa2, .inl (2, 108, .inl (fun _ => 0))), (pa3, .inl (0, 108, .inl (fun _ => 0))), (ta, .inr (10, [.ref ta1, .ref ta2, .ref taz, .ref ta4, .ref ta5, .ref ta6, .int 0, .int 0])), (ta1, .inl (1, 108, .inl (fa_fill (fun _ => 46) (fun _ => 0) 108))), (ta2, .inl (0, 108, .inl (fun _ => 0))), (taz, .inr (2, [.ref taz1, .ref taz2, .ref taz3, .ref taz4, .ref taz5, .ref taz6, .int 0])), (taz1, .inl (0, 108, .inl (fun _ => 0))), (taz2, .inl (0, 108, .inl (fun _ => 0))), (taz3, .inl (0, 108, .inl (fun _ => 0))), (taz4, .inl (0, 108, .inl (fun _ => 0))), (taz5, .inl (0, 108, .inl (fun _ => 0))), (taz6, .inl (0, 108, .inl (fun _ => 0))), (ta4, .inl (2, 108, .inl (fun _ => 0))), (ta5, .inl (2, 108, .inl (fun _ => 0))), (ta6, .inl (0, 108, .inl (fun _ => 0))), (sa, .inr (10, [.ref sa1, .ref sa2, .ref saz, .ref sa4, .ref sa5, .ref sa6, .int 0, .int 0])), (sa1, .inl (1, 108, .inl (fa_fill (fun _ => 46) (fun _ => 0) 108))), (sa2, .inl (0, 108, .inl (fun _ => 0))), (saz, .inr (2, [.ref saz1, .ref saz2, .ref saz3, .ref saz4, .ref saz5, .ref saz6, .int 0])), (saz1, .inl (0, 108, .inl (fun _ => 0))), (saz2, .inl (0, 108, .inl (fun _ => 0))), (saz3, .inl (0, 108, .inl (fun _ => 0))), (saz4, .inl (0, 108, .inl (fun _ => 0))), (saz5, .inl (0, 108, .inl (fun _ => 0))), (saz6, .inl (0, 108, .inl (fun _ => 0))), (sa4, .inl (2, 108, .inl (fun _ => 0))), (sa5, .inl (2, 108, .inl (fun _ => 0))), (sa6, .inl (0, 108, .inl (fun _ => 0))), (gs, .inr (4, [.int 80, .int 35, .int 30, .int 50, .int 0])), (co, .inr (1, [.ref co1, .ref co2, .ref co3, .int 0])), (co1, .inl (0, 20, .inl (fun _ => 0))), (co2, .inl (0, 20, .inl (fun _ => 0))), (co3, .inl (0, 20, .inl (fun _ => 0)))]) rfl ?_
            refine r_aload_n d_Ip_init_59 rfl 0 rfl ?_
            refine r_new nc_Ip_40 d_Ip_init_60 (by omega) (by omega) (fun fu => ?_)
            refine r_cs (cs2 := [(a, .inr (11, [.ref pa, .ref ta, .ref sa, .ref gs, .ref co, .null, .null, .null, .null, .null, .null, .null])), (pa, .inr (8, [.ref pa1, .ref pa2, .ref pa3, .int 4])), (pa1, .inl (1, 108, .inl (fa_fill (fun _ => 46) (fun _ => 0) 108))), (pa2, .inl (2, 108, .inl (fun _ => 0))), (pa3, .inl (0, 108, .inl (fun _ => 0))), (ta, .inr (10, [.ref ta1, .ref ta2, .ref taz, .ref ta4, .ref ta5, .ref ta6, .int 0, .int 0])), (ta1, .inl (1, 108, .inl (fa_fill (fun _ => 46) (fun _ => 0) 108))), (ta2, .inl (0, 108, .inl (fun _ => 0))), (taz, .inr (2, [.ref taz1, .ref taz2, .ref taz3, .ref taz4, .ref taz5, .ref taz6, .int 0])), (taz1, .inl (0, 108, .inl (fun _ => 0))), (taz2, .inl (0, 108, .inl (fun _ => 0))), (taz3, .inl (0, 108, .inl (fun _ => 0))), (taz4, .inl (0, 108, .inl (fun _ => 0))), (taz5, .inl (0, 108, .inl (fun _ => 0))), (taz6, .inl (0, 108, .inl (fun _ => 0))), (ta4, .inl (2, 108, .inl (fun _ => 0))), (ta5, .inl (2, 108, .inl (fun _ => 0))), (ta6, .inl (0, 108, .inl (fun _ => 0))), (sa, .inr (10, [.ref sa1, .ref sa2, .ref saz, .ref sa4, .ref sa5, .ref sa6, .int 0, .int 0])), (sa1, .inl (1, 108, .inl (fa_fill (fun _ => 46) (fun _ => 0) 108))), (sa2, .inl (0, 108, .inl (fun _ => 0))), (saz, .inr (2, [.ref saz1, .ref saz2, .ref saz3, .ref saz4, .ref saz5, .ref saz6, .int 0])), (saz1, .inl (0, 108, .inl (fun _ => 0))), (saz2, .inl (0, 108, .inl (fun _ => 0))), (saz3, .inl (0, 108, .inl (fun _ => 0))), (saz4, .inl (0, 108, .inl (fun _ => 0))), (saz5, .inl (0, 108, .inl (fun _ => 0))), (saz6, .inl (0, 108, .inl (fun _ => 0))), (sa4, .inl (2, 108, .inl (fun _ => 0))), (sa5, .inl (2, 108, .inl (fun _ => 0))), (sa6, .inl (0, 108, .inl (fun _ => 0))), (gs, .inr (4, [.int 80, .int 35, .int 30, .int 50, .int 0])), (co, .inr (1, [.ref co1, .ref co2, .ref co3, .int 0])), (co1, .inl (0, 20, .inl (fun _ => 0))), (co2, .inl (0, 20, .inl (fun _ => 0))), (co3, .inl (0, 20, .inl (fun _ => 0))), (fu, .inr (3, [.null, .null, .null, .null, .long 0]))]) rfl ?_
            refine r_dup d_Ip_init_63 rfl ?_
            refine r_callIN (As := []) (rest := [.ref fu, .ref a]) (csC := [(fu, .inr (3, [.null, .null, .null, .null, .long 0]))]) (is := [36]) rfl rfl ln_Ip_42 w_im_Fu_init ok_Ip_init_Fu_init d_Ip_init_64 (C_Fu_init g fu) rfl rfl (Nat.le_of_ble_eq_true rfl) rfl (by decide) (by omega) (by omega) (fun E cs1 hx => ?_) (fun v cs1 hx => ?_)
            · obtain ⟨fub, fubg, fut1, fut2, fut3, e1, -⟩ := hx
              cases e1
            · obtain ⟨fub, fubg, fut1, fut2, fut3, e1, rfl⟩ := hx
              cases e1
              refine ⟨rfl, ?_⟩
              refine r_st (st2 := [.ref fu, .ref a]) rfl ?_
              refine r_cs (cs2 := [(a, .inr (11, [.ref pa, .ref ta, .ref sa, .ref gs, .ref co, .null, .null, .null, .null, .null, .null, .null])), (pa, .inr (8, [.ref pa1, .ref pa2, .ref pa3, .int 4])), (pa1, .inl (1, 108, .inl (fa_fill (fun _ => 46) (fun _ => 0) 108))), (pa2, .inl (2, 108, .inl (fun _ => 0))), (pa3, .inl (0, 108, .inl (fun _ => 0))), (ta, .inr (10, [.ref ta1, .ref ta2, .ref taz, .ref ta4, .ref ta5, .ref ta6, .int 0, .int 0])), (ta1, .inl (1, 108, .inl (fa_fill (fun _ => 46) (fun _ => 0) 108))), (ta2, .inl (0, 108, .inl (fun _ => 0))), (taz, .inr (2, [.ref taz1, .ref taz2, .ref taz3, .ref taz4, .ref taz5, .ref taz6, .int 0])), (taz1, .inl (0, 108, .inl (fun _ => 0))), (taz2, .inl (0, 108, .inl (fun _ => 0))), (taz3, .inl (0, 108, .inl (fun _ => 0))), (taz4, .inl (0, 108, .inl (fun _ => 0))), (taz5, .inl (0, 108, .inl (fun _ => 0))), (taz6, .inl (0, 108, .inl (fun _ => 0))), (ta4, .inl (2, 108, .inl (fun _ => 0))), (ta5, .inl (2, 108, .inl (fun _ => 0))), (ta6, .inl (0, 108, .inl (fun _ => 0))), (sa, .inr (10, [.ref sa1, .ref sa2, .ref saz, .ref sa4, .ref sa5, .ref sa6, .int 0, .int 0])), (sa1, .inl (1, 108, .inl (fa_fill (fun _ => 46) (fun _ => 0) 108))), (sa2, .inl (0, 108, .inl (fun _ => 0))), (saz, .inr (2, [.ref saz1, .ref saz2, .ref saz3, .ref saz4, .ref saz5, .ref saz6, .int 0])), (saz1, .inl (0, 108, .inl (fun _ => 0))), (saz2, .inl (0, 108, .inl (fun _ => 0))), (saz3, .inl (0, 108, .inl (fun _ => 0))), (saz4, .inl (0, 108, .inl (fun _ => 0))), (saz5, .inl (0, 108, .inl (fun _ => 0))), (saz6, .inl (0, 108, .inl (fun _ => 0))), (sa4, .inl (2, 108, .inl (fun _ => 0))), (sa5, .inl (2, 108, .inl (fun _ => 0))), (sa6, .inl (0, 108, .inl (fun _ => 0))), (gs, .inr (4, [.int 80, .int 35, .int 30, .int 50, .int 0])), (co, .inr (1, [.ref co1, .ref co2, .ref co3, .int 0])), (co1, .inl (0, 20, .inl (fun _ => 0))), (co2, .inl (0, 20, .inl (fun _ => 0))), (co3, .inl (0, 20, .inl (fun _ => 0))), (fu, .inr (3, [.ref fub, .ref fut1, .ref fut2, .ref fut3, .long 0])), (fub, .inr (6, [.ref fubg, .int 0])), (fubg, .inl (3, 4, .inr (.inl (fun _ => 0)))), (fut1, .inl (3, 4, .inr (.inl (fun _ => 0)))), (fut2, .inl (3, 4, .inr (.inl (fun _ => 0)))), (fut3, .inl (3, 4, .inr (.inl (fun _ => 0))))]) rfl ?_
              refine r_put fp_Ip_43 d_Ip_init_67 (fun _ => rfl) rfl rfl (q0 := 0) rfl (Nat.le_of_ble_eq_true rfl) (cs' := [(a, .inr (11, [.ref pa, .ref ta, .ref sa, .ref gs, .ref co, .ref fu, .null, .null, .null, .null, .null, .null])), (pa, .inr (8, [.ref pa1, .ref pa2, .ref pa3, .int 4])), (pa1, .inl (1, 108, .inl (fa_fill (fun _ => 46) (fun _ => 0) 108))), (pa2, .inl (2, 108, .inl (fun _ => 0))), (pa3, .inl (0, 108, .inl (fun _ => 0))), (ta, .inr (10, [.ref ta1, .ref ta2, .ref taz, .ref ta4, .ref ta5, .ref ta6, .int 0, .int 0])), (ta1, .inl (1, 108, .inl (fa_fill (fun _ => 46) (fun _ => 0) 108))), (ta2, .inl (0, 108, .inl (fun _ => 0))), (taz, .inr (2, [.ref taz1, .ref taz2, .ref taz3, .ref taz4, .ref taz5, .ref taz6, .int 0])), (taz1, .inl (0, 108, .inl (fun _ => 0))), (taz2, .inl (0, 108, .inl (fun _ => 0))), (taz3, .inl (0, 108, .inl (fun _ => 0))), (taz4, .inl (0, 108, .inl (fun _ => 0))), (taz5, .inl (0, 108, .inl (fun _ => 0))), (taz6, .inl (0, 108, .inl (fun _ => 0))), (ta4, .inl (2, 108, .inl (fun _ => 0))), (ta5, .inl (2, 108, .inl (fun _ => 0))), (ta6, .inl (0, 108, .inl (fun _ => 0))), (sa, .inr (10, [.ref sa1, .ref sa2, .ref saz, .ref sa4, .ref sa5, .ref sa6, .int 0, .int 0])), (sa1, .inl (1, 108, .inl (fa_fill (fun _ => 46) (fun _ => 0) 108))), (sa2, .inl (0, 108, .inl (fun _ => 0))), (saz, .inr (2, [.ref saz1, .ref saz2, .ref saz3, .ref saz4, .ref saz5, .ref saz6, .int 0])), (saz1, .inl (0, 108, .inl (fun _ => 0))), (saz2, .inl (0, 108, .inl (fun _ => 0))), (saz3, .inl (0, 108, .inl (fun _ => 0))), (saz4, .inl (0, 108, .inl (fun _ => 0))), (saz5, .inl (0, 108, .inl (fun _ => 0))), (saz6, .inl (0, 108, .inl (fun _ => 0))), (sa4, .inl (2, 108, .inl (fun _ => 0))), (sa5, .inl (2, 108, .inl (fun _ => 0))), (sa6, .inl (0, 108, .inl (fun _ => 0))), (gs, .inr (4, [.int 80, .int 35, .int 30, .int 50, .int 0])), (co, .inr (1, [.ref co1, .ref co2, .ref co3, .int 0])), (co1, .inl (0, 20, .inl (fun _ => 0))), (co2, .inl (0, 20, .inl (fun _ => 0))), (co3, .inl (0, 20, .inl (fun _ => 0))), (fu, .inr (3, [.ref fub, .ref fut1, .ref fut2, .ref fut3, .long 0])), (fub, .inr (6, [.ref fubg, .int 0])), (fubg, .inl (3, 4, .inr (.inl (fun _ => 0)))), (fut1, .inl (3, 4, .inr (.inl (fun _ => 0)))), (fut2, .inl (3, 4, .inr (.inl (fun _ => 0)))), (fut3, .inl (3, 4, .inr (.inl (fun _ => 0))))]) rfl ?_
              refine r_aload_n d_Ip_init_70 rfl 0 rfl ?_
              refine r_new nc_Ip_47 d_Ip_init_71 (by omega) (by omega) (fun la => ?_)
              refine r_cs (cs2 := [(a, .inr (11, [.ref pa, .ref ta, .ref sa, .ref gs, .ref co, .ref fu, .null, .null, .null, .null, .null, .null])), (pa, .inr (8, [.ref pa1, .ref pa2, .ref pa3, .int 4])), (pa1, .inl (1, 108, .inl (fa_fill (fun _ => 46) (fun _ => 0) 108))), (pa2, .inl (2, 108, .inl (fun _ => 0))), (pa3, .inl (0, 108, .inl (fun _ => 0))), (ta, .inr (10, [.ref ta1, .ref ta2, .ref taz, .ref ta4, .ref ta5, .ref ta6, .int 0, .int 0])), (ta1, .inl (1, 108, .inl (fa_fill (fun _ => 46) (fun _ => 0) 108))), (ta2, .inl (0, 108, .inl (fun _ => 0))), (taz, .inr (2, [.ref taz1, .ref taz2, .ref taz3, .ref taz4, .ref taz5, .ref taz6, .int 0])), (taz1, .inl (0, 108, .inl (fun _ => 0))), (taz2, .inl (0, 108, .inl (fun _ => 0))), (taz3, .inl (0, 108, .inl (fun _ => 0))), (taz4, .inl (0, 108, .inl (fun _ => 0))), (taz5, .inl (0, 108, .inl (fun _ => 0))), (taz6, .inl (0, 108, .inl (fun _ => 0))), (ta4, .inl (2, 108, .inl (fun _ => 0))), (ta5, .inl (2, 108, .inl (fun _ => 0))), (ta6, .inl (0, 108, .inl (fun _ => 0))), (sa, .inr (10, [.ref sa1, .ref sa2, .ref saz, .ref sa4, .ref sa5, .ref sa6, .int 0, .int 0])), (sa1, .inl (1, 108, .inl (fa_fill (fun _ => 46) (fun _ => 0) 108))), (sa2, .inl (0, 108, .inl (fun _ => 0))), (saz, .inr (2, [.ref saz1, .ref saz2, .ref saz3, .ref saz4, .ref saz5, .ref saz6, .int 0])), (saz1, .inl (0, 108, .inl (fun _ => 0))), (saz2, .inl (0, 108, .inl (fun _ => 0))), (saz3, .inl (0, 108, .inl (fun _ => 0))), (saz4, .inl (0, 108, .inl (fun _ => 0))), (saz5, .inl (0, 108, .inl (fun _ => 0))), (saz6, .inl (0, 108, .inl (fun _ => 0))), (sa4, .inl (2, 108, .inl (fun _ => 0))), (sa5, .inl (2, 108, .inl (fun _ => 0))), (sa6, .inl (0, 108, .inl (fun _ => 0))), (gs, .inr (4, [.int 80, .int 35, .int 30, .int 50, .int 0])), (co, .inr (1, [.ref co1, .ref co2, .ref co3, .int 0])), (co1, .inl (0, 20, .inl (fun _ => 0))), (co2, .inl (0, 20, .inl (fun _ => 0))), (co3, .inl (0, 20, .inl (fun _ => 0))), (fu, .inr (3, [.ref fub, .ref fut1, .ref fut2, .ref fut3, .long 0])), (fub, .inr (6, [.ref fubg, .int 0])), (fubg, .inl (3, 4, .inr (.inl (fun _ => 0)))), (fut1, .inl (3, 4, .inr (.inl (fun _ => 0)))), (fut2, .inl (3, 4, .inr (.inl (fun _ => 0)))), (fut3, .inl (3, 4, .inr (.inl (fun _ => 0)))), (la, .inr (5, [.null, .int 0, .int 0, .int 0]))]) rfl ?_
              refine r_dup d_Ip_init_74 rfl ?_
              refine r_callIN (As := []) (rest := [.ref la, .ref a]) (csC := [(la, .inr (5, [.null, .int 0, .int 0, .int 0]))]) (is := [42]) rfl rfl ln_Ip_49 w_im_La_init ok_Ip_init_La_init d_Ip_init_75 (C_La_init g la) rfl rfl (Nat.le_of_ble_eq_true rfl) rfl (by decide) (by omega) (by omega) (fun E cs1 hx => ?_) (fun v cs1 hx => ?_)
              · obtain ⟨lab, labg, e1, -⟩ := hx
                cases e1
              · obtain ⟨lab, labg, e1, rfl⟩ := hx
                cases e1
                refine ⟨rfl, ?_⟩
                refine r_st (st2 := [.ref la, .ref a]) rfl ?_
                refine r_cs (cs2 := [(a, .inr (11, [.ref pa, .ref ta, .ref sa, .ref gs, .ref co, .ref fu, .null, .null, .null, .null, .null, .null])), (pa, .inr (8, [.ref pa1, .ref pa2, .ref pa3, .int 4])), (pa1, .inl (1, 108, .inl (fa_fill (fun _ => 46) (fun _ => 0) 108))), (pa2, .inl (2, 108, .inl (fun _ => 0))), (pa3, .inl (0, 108, .inl (fun _ => 0))), (ta, .inr (10, [.ref ta1, .ref ta2, .ref taz, .ref ta4, .ref ta5, .ref ta6, .int 0, .int 0])), (ta1, .inl (1, 108, .inl (fa_fill (fun _ => 46) (fun _ => 0) 108))), (ta2, .inl (0, 108, .inl (fun _ => 0))), (taz, .inr (2, [.ref taz1, .ref taz2, .ref taz3, .ref taz4, .ref taz5, .ref taz6, .int 0])), (taz1, .inl (0, 108, .inl (fun _ => 0))), (taz2, .inl (0, 108, .inl (fun _ => 0))), (taz3, .inl (0, 108, .inl (fun _ => 0))), (taz4, .inl (0, 108, .inl (fun _ => 0))), (taz5, .inl (0, 108, .inl (fun _ => 0))), (taz6, .inl (0, 108, .inl (fun _ => 0))), (ta4, .inl (2, 108, .inl (fun _ => 0))), (ta5, .inl (2, 108, .inl (fun _ => 0))), (ta6, .inl (0, 108, .inl (fun _ => 0))), (sa, .inr (10, [.ref sa1, .ref sa2, .ref saz, .ref sa4, .ref sa5, .ref sa6, .int 0, .int 0])), (sa1, .inl (1, 108, .inl (fa_fill (fun _ => 46) (fun _ => 0) 108))), (sa2, .inl (0, 108, .inl (fun _ => 0))), (saz, .inr (2, [.ref saz1, .ref saz2, .ref saz3, .ref saz4, .ref saz5, .ref saz6, .int 0])), (saz1, .inl (0, 108, .inl (fun _ => 0))), (saz2, .inl (0, 108, .inl (fun _ => 0))), (saz3, .inl (0, 108, .inl (fun _ => 0))), (saz4, .inl (0, 108, .inl (fun _ => 0))), (saz5, .inl (0, 108, .inl (fun _ => 0))), (saz6, .inl (0, 108, .inl (fun _ => 0))), (sa4, .inl (2, 108, .inl (fun _ => 0))), (sa5, .inl (2, 108, .inl (fun _ => 0))), (sa6, .inl (0, 108, .inl (fun _ => 0))), (gs, .inr (4, [.int 80, .int 35, .int 30, .int 50, .int 0])), (co, .inr (1, [.ref co1, .ref co2, .ref co3, .int 0])), (co1, .inl (0, 20, .inl (fun _ => 0))), (co2, .inl (0, 20, .inl (fun _ => 0))), (co3, .inl (0, 20, .inl (fun _ => 0))), (fu, .inr (3, [.ref fub, .ref fut1, .ref fut2, .ref fut3, .long 0])), (fub, .inr (6, [.ref fubg, .int 0])), (fubg, .inl (3, 4, .inr (.inl (fun _ => 0)))), (fut1, .inl (3, 4, .inr (.inl (fun _ => 0)))), (fut2, .inl (3, 4, .inr (.inl (fun _ => 0)))), (fut3, .inl (3, 4, .inr (.inl (fun _ => 0)))), (la, .inr (5, [.ref lab, .int 0, .int 0, .int 0])), (lab, .inr (6, [.ref labg, .int 0])), (labg, .inl (3, 4, .inr (.inl (fun _ => 0))))]) rfl ?_
                refine r_put fp_Ip_50 d_Ip_init_78 (fun _ => rfl) rfl rfl (q0 := 0) rfl (Nat.le_of_ble_eq_true rfl) (cs' := [(a, .inr (11, [.ref pa, .ref ta, .ref sa, .ref gs, .ref co, .ref fu, .ref la, .null, .null, .null, .null, .null])), (pa, .inr (8, [.ref pa1, .ref pa2, .ref pa3, .int 4])), (pa1, .inl (1, 108, .inl (fa_fill (fun _ => 46) (fun _ => 0) 108))), (pa2, .inl (2, 108, .inl (fun _ => 0))), (pa3, .inl (0, 108, .inl (fun _ => 0))), (ta, .inr (10, [.ref ta1, .ref ta2, .ref taz, .ref ta4, .ref ta5, .ref ta6, .int 0, .int 0])), (ta1, .inl (1, 108, .inl (fa_fill (fun _ => 46) (fun _ => 0) 108))), (ta2, .inl (0, 108, .inl (fun _ => 0))), (taz, .inr (2, [.ref taz1, .ref taz2, .ref taz3, .ref taz4, .ref taz5, .ref taz6, .int 0])), (taz1, .inl (0, 108, .inl (fun _ => 0))), (taz2, .inl (0, 108, .inl (fun _ => 0))), (taz3, .inl (0, 108, .inl (fun _ => 0))), (taz4, .inl (0, 108, .inl (fun _ => 0))), (taz5, .inl (0, 108, .inl (fun _ => 0))), (taz6, .inl (0, 108, .inl (fun _ => 0))), (ta4, .inl (2, 108, .inl (fun _ => 0))), (ta5, .inl (2, 108, .inl (fun _ => 0))), (ta6, .inl (0, 108, .inl (fun _ => 0))), (sa, .inr (10, [.ref sa1, .ref sa2, .ref saz, .ref sa4, .ref sa5, .ref sa6, .int 0, .int 0])), (sa1, .inl (1, 108, .inl (fa_fill (fun _ => 46) (fun _ => 0) 108))), (sa2, .inl (0, 108, .inl (fun _ => 0))), (saz, .inr (2, [.ref saz1, .ref saz2, .ref saz3, .ref saz4, .ref saz5, .ref saz6, .int 0])), (saz1, .inl (0, 108, .inl (fun _ => 0))), (saz2, .inl (0, 108, .inl (fun _ => 0))), (saz3, .inl (0, 108, .inl (fun _ => 0))), (saz4, .inl (0, 108, .inl (fun _ => 0))), (saz5, .inl (0, 108, .inl (fun _ => 0))), (saz6, .inl (0, 108, .inl (fun _ => 0))), (sa4, .inl (2, 108, .inl (fun _ => 0))), (sa5, .inl (2, 108, .inl (fun _ => 0))), (sa6, .inl (0, 108, .inl (fun _ => 0))), (gs, .inr (4, [.int 80, .int 35, .int 30, .int 50, .int 0])), (co, .inr (1, [.ref co1, .ref co2, .ref co3, .int 0])), (co1, .inl (0, 20, .inl (fun _ => 0))), (co2, .inl (0, 20, .inl (fun _ => 0))), (co3, .inl (0, 20, .inl (fun _ => 0))), (fu, .inr (3, [.ref fub, .ref fut1, .ref fut2, .ref fut3, .long 0])), (fub, .inr (6, [.ref fubg, .int 0])), (fubg, .inl (3, 4, .inr (.inl (fun _ => 0)))), (fut1, .inl (3, 4, .inr (.inl (fun _ => 0)))), (fut2, .inl (3, 4, .inr (.inl (fun _ => 0)))), (fut3, .inl (3, 4, .inr (.inl (fun _ => 0)))), (la, .inr (5, [.ref lab, .int 0, .int 0, .int 0])), (lab, .inr (6, [.ref labg, .int 0])), (labg, .inl (3, 4, .inr (.inl (fun _ => 0))))]) rfl ?_
                refine r_aload_n d_Ip_init_81 rfl 0 rfl ?_
                refine r_new nc_Ip_54 d_Ip_init_82 (by omega) (by omega) (fun gy => ?_)
                refine r_cs (cs2 := [(a, .inr (11, [.ref pa, .ref ta, .ref sa, .ref gs, .ref co, .ref fu, .ref la, .null, .null, .null, .null, .null])), (pa, .inr (8, [.ref pa1, .ref pa2, .ref pa3, .int 4])), (pa1, .inl (1, 108, .inl (fa_fill (fun _ => 46) (fun _ => 0) 108))), (pa2, .inl (2, 108, .inl (fun _ => 0))), (pa3, .inl (0, 108, .inl (fun _ => 0))), (ta, .inr (10, [.ref ta1, .ref ta2, .ref taz, .ref ta4, .ref ta5, .ref ta6, .int 0, .int 0])), (ta1, .inl (1, 108, .inl (fa_fill (fun _ => 46) (fun _ => 0) 108))), (ta2, .inl (0, 108, .inl (fun _ => 0))), (taz, .inr (2, [.ref taz1, .ref taz2, .ref taz3, .ref taz4, .ref taz5, .ref taz6, .int 0])), (taz1, .inl (0, 108, .inl (fun _ => 0))), (taz2, .inl (0, 108, .inl (fun _ => 0))), (taz3, .inl (0, 108, .inl (fun _ => 0))), (taz4, .inl (0, 108, .inl (fun _ => 0))), (taz5, .inl (0, 108, .inl (fun _ => 0))), (taz6, .inl (0, 108, .inl (fun _ => 0))), (ta4, .inl (2, 108, .inl (fun _ => 0))), (ta5, .inl (2, 108, .inl (fun _ => 0))), (ta6, .inl (0, 108, .inl (fun _ => 0))), (sa, .inr (10, [.ref sa1, .ref sa2, .ref saz, .ref sa4, .ref sa5, .ref sa6, .int 0, .int 0])), (sa1, .inl (1, 108, .inl (fa_fill (fun _ => 46) (fun _ => 0) 108))), (sa2, .inl (0, 108, .inl (fun _ => 0))), (saz, .inr (2, [.ref saz1, .ref saz2, .ref saz3, .ref saz4, .ref saz5, .ref saz6, .int 0])), (saz1, .inl (0, 108, .inl (fun _ => 0))), (saz2, .inl (0, 108, .inl (fun _ => 0))), (saz3, .inl (0, 108, .inl (fun _ => 0))), (saz4, .inl (0, 108, .inl (fun _ => 0))), (saz5, .inl (0, 108, .inl (fun _ => 0))), (saz6, .inl (0, 108, .inl (fun _ => 0))), (sa4, .inl (2, 108, .inl (fun _ => 0))), (sa5, .inl (2, 108, .inl (fun _ => 0))), (sa6, .inl (0, 108, .inl (fun _ => 0))), (gs, .inr (4, [.int 80, .int 35, .int 30, .int 50, .int 0])), (co, .inr (1, [.ref co1, .ref co2, .ref co3, .int 0])), (co1, .inl (0, 20, .inl (fun _ => 0))), (co2, .inl (0, 20, .inl (fun _ => 0))), (co3, .inl (0, 20, .inl (fun _ => 0))), (fu, .inr (3, [.ref fub, .ref fut1, .ref fut2, .ref fut3, .long 0])), (fub, .inr (6, [.ref fubg, .int 0])), (fubg, .inl (3, 4, .inr (.inl (fun _ => 0)))), (fut1, .inl (3, 4, .inr (.inl (fun _ => 0)))), (fut2, .inl (3, 4, .inr (.inl (fun _ => 0)))), (fut3, .inl (3, 4, .inr (.inl (fun _ => 0)))), (la, .inr (5, [.ref lab, .int 0, .int 0, .int 0])), (lab, .inr (6, [.ref labg, .int 0])), (labg, .inl (3, 4, .inr (.inl (fun _ => 0)))), (gy, .inr (6, [.null, .int 0]))]) rfl ?_
                refine r_dup d_Ip_init_85 rfl ?_
                refine r_callIN (As := []) (rest := [.ref gy, .ref a]) (csC := [(gy, .inr (6, [.null, .int 0]))]) (is := [45]) rfl rfl ln_Ip_56 w_im_Me_init ok_Ip_init_Me_init d_Ip_init_86 (C_Me_init g gy) rfl rfl (Nat.le_of_ble_eq_true rfl) rfl (by decide) (by omega) (by omega) (fun E cs1 hx => ?_) (fun v cs1 hx => ?_)
                · obtain ⟨gyg, e1, -⟩ := hx
                  cases e1
                · obtain ⟨gyg, e1, rfl⟩ := hx
                  cases e1
                  refine ⟨rfl, ?_⟩
                  refine r_st (st2 := [.ref gy, .ref a]) rfl ?_
                  refine r_cs (cs2 := [(a, .inr (11, [.ref pa, .ref ta, .ref sa, .ref gs, .ref co, .ref fu, .ref la, .null, .null, .null, .null, .null])), (pa, .inr (8, [.ref pa1, .ref pa2, .ref pa3, .int 4])), (pa1, .inl (1, 108, .inl (fa_fill (fun _ => 46) (fun _ => 0) 108))), (pa2, .inl (2, 108, .inl (fun _ => 0))), (pa3, .inl (0, 108, .inl (fun _ => 0))), (ta, .inr (10, [.ref ta1, .ref ta2, .ref taz, .ref ta4, .ref ta5, .ref ta6, .int 0, .int 0])), (ta1, .inl (1, 108, .inl (fa_fill (fun _ => 46) (fun _ => 0) 108))), (ta2, .inl (0, 108, .inl (fun _ => 0))), (taz, .inr (2, [.ref taz1, .ref taz2, .ref taz3, .ref taz4, .ref taz5, .ref taz6, .int 0])), (taz1, .inl (0, 108, .inl (fun _ => 0))), (taz2, .inl (0, 108, .inl (fun _ => 0))), (taz3, .inl (0, 108, .inl (fun _ => 0))), (taz4, .inl (0, 108, .inl (fun _ => 0))), (taz5, .inl (0, 108, .inl (fun _ => 0))), (taz6, .inl (0, 108, .inl (fun _ => 0))), (ta4, .inl (2, 108, .inl (fun _ => 0))), (ta5, .inl (2, 108, .inl (fun _ => 0))), (ta6, .inl (0, 108, .inl (fun _ => 0))), (sa, .inr (10, [.ref sa1, .ref sa2, .ref saz, .ref sa4, .ref sa5, .ref sa6, .int 0, .int 0])), (sa1, .inl (1, 108, .inl (fa_fill (fun _ => 46) (fun _ => 0) 108))), (sa2, .inl (0, 108, .inl (fun _ => 0))), (saz, .inr (2, [.ref saz1, .ref saz2, .ref saz3, .ref saz4, .ref saz5, .ref saz6, .int 0])), (saz1, .inl (0, 108, .inl (fun _ => 0))), (saz2, .inl (0, 108, .inl (fun _ => 0))), (saz3, .inl (0, 108, .inl (fun _ => 0))), (saz4, .inl (0, 108, .inl (fun _ => 0))), (saz5, .inl (0, 108, .inl (fun _ => 0))), (saz6, .inl (0, 108, .inl (fun _ => 0))), (sa4, .inl (2, 108, .inl (fun _ => 0))), (sa5, .inl (2, 108, .inl (fun _ => 0))), (sa6, .inl (0, 108, .inl (fun _ => 0))), (gs, .inr (4, [.int 80, .int 35, .int 30, .int 50, .int 0])), (co, .inr (1, [.ref co1, .ref co2, .ref co3, .int 0])), (co1, .inl (0, 20, .inl (fun _ => 0))), (co2, .inl (0, 20, .inl (fun _ => 0))), (co3, .inl (0, 20, .inl (fun _ => 0))), (fu, .inr (3, [.ref fub, .ref fut1, .ref fut2, .ref fut3, .long 0])), (fub, .inr (6, [.ref fubg, .int 0])), (fubg, .inl (3, 4, .inr (.inl (fun _ => 0)))), (fut1, .inl (3, 4, .inr (.inl (fun _ => 0)))), (fut2, .inl (3, 4, .inr (.inl (fun _ => 0)))), (fut3, .inl (3, 4, .inr (.inl (fun _ => 0)))), (la, .inr (5, [.ref lab, .int 0, .int 0, .int 0])), (lab, .inr (6, [.ref labg, .int 0])), (labg, .inl (3, 4, .inr (.inl (fun _ => 0)))), (gy, .inr (6, [.ref gyg, .int 0])), (gyg, .inl (3, 4, .inr (.inl (fun _ => 0))))]) rfl ?_
                  refine r_put fp_Ip_57 d_Ip_init_89 (fun _ => rfl) rfl rfl (q0 := 0) rfl (Nat.le_of_ble_eq_true rfl) (cs' := [(a, .inr (11, [.ref pa, .ref ta, .ref sa, .ref gs, .ref co, .ref fu, .ref la, .ref gy, .null, .null, .null, .null])), (pa, .inr (8, [.ref pa1, .ref pa2, .ref pa3, .int 4])), (pa1, .inl (1, 108, .inl (fa_fill (fun _ => 46) (fun _ => 0) 108))), (pa2, .inl (2, 108, .inl (fun _ => 0))), (pa3, .inl (0, 108, .inl (fun _ => 0))), (ta, .inr (10, [.ref ta1, .ref ta2, .ref taz, .ref ta4, .ref ta5, .ref ta6, .int 0, .int 0])), (ta1, .inl (1, 108, .inl (fa_fill (fun _ => 46) (fun _ => 0) 108))), (ta2, .inl (0, 108, .inl (fun _ => 0))), (taz, .inr (2, [.ref taz1, .ref taz2, .ref taz3, .ref taz4, .ref taz5, .ref taz6, .int 0])), (taz1, .inl (0, 108, .inl (fun _ => 0))), (taz2, .inl (0, 108, .inl (fun _ => 0))), (taz3, .inl (0, 108, .inl (fun _ => 0))), (taz4, .inl (0, 108, .inl (fun _ => 0))), (taz5, .inl (0, 108, .inl (fun _ => 0))), (taz6, .inl (0, 108, .inl (fun _ => 0))), (ta4, .inl (2, 108, .inl (fun _ => 0))), (ta5, .inl (2, 108, .inl (fun _ => 0))), (ta6, .inl (0, 108, .inl (fun _ => 0))), (sa, .inr (10, [.ref sa1, .ref sa2, .ref saz, .ref sa4, .ref sa5, .ref sa6, .int 0, .int 0])), (sa1, .inl (1, 108, .inl (fa_fill (fun _ => 46) (fun _ => 0) 108))), (sa2, .inl (0, 108, .inl (fun _ => 0))), (saz, .inr (2, [.ref saz1, .ref saz2, .ref saz3, .ref saz4, .ref saz5, .ref saz6, .int 0])), (saz1, .inl (0, 108, .inl (fun _ => 0))), (saz2, .inl (0, 108, .inl (fun _ => 0))), (saz3, .inl (0, 108, .inl (fun _ => 0))), (saz4, .inl (0, 108, .inl (fun _ => 0))), (saz5, .inl (0, 108, .inl (fun _ => 0))), (saz6, .inl (0, 108, .inl (fun _ => 0))), (sa4, .inl (2, 108, .inl (fun _ => 0))), (sa5, .inl (2, 108, .inl (fun _ => 0))), (sa6, .inl (0, 108, .inl (fun _ => 0))), (gs, .inr (4, [.int 80, .int 35, .int 30, .int 50, .int 0])), (co, .inr (1, [.ref co1, .ref co2, .ref co3, .int 0])), (co1, .inl (0, 20, .inl (fun _ => 0))), (co2, .inl (0, 20, .inl (fun _ => 0))), (co3, .inl (0, 20, .inl (fun _ => 0))), (fu, .inr (3, [.ref fub, .ref fut1, .ref fut2, .ref fut3, .long 0])), (fub, .inr (6, [.ref fubg, .int 0])), (fubg, .inl (3, 4, .inr (.inl (fun _ => 0)))), (fut1, .inl (3, 4, .inr (.inl (fun _ => 0)))), (fut2, .inl (3, 4, .inr (.inl (fun _ => 0)))), (fut3, .inl (3, 4, .inr (.inl (fun _ => 0)))), (la, .inr (5, [.ref lab, .int 0, .int 0, .int 0])), (lab, .inr (6, [.ref labg, .int 0])), (labg, .inl (3, 4, .inr (.inl (fun _ => 0)))), (gy, .inr (6, [.ref gyg, .int 0])), (gyg, .inl (3, 4, .inr (.inl (fun _ => 0))))]) rfl ?_
                  refine r_aload_n d_Ip_init_92 rfl 0 rfl ?_
                  refine r_new nc_Ip_54 d_Ip_init_93 (by omega) (by omega) (fun du => ?_)
                  refine r_cs (cs2 := [(a, .inr (11, [.ref pa, .ref ta, .ref sa, .ref gs, .ref co, .ref fu, .ref la, .ref gy, .null, .null, .null, .null])), (pa, .inr (8, [.ref pa1, .ref pa2, .ref pa3, .int 4])), (pa1, .inl (1, 108, .inl (fa_fill (fun _ => 46) (fun _ => 0) 108))), (pa2, .inl (2, 108, .inl (fun _ => 0))), (pa3, .inl (0, 108, .inl (fun _ => 0))), (ta, .inr (10, [.ref ta1, .ref ta2, .ref taz, .ref ta4, .ref ta5, .ref ta6, .int 0, .int 0])), (ta1, .inl (1, 108, .inl (fa_fill (fun _ => 46) (fun _ => 0) 108))), (ta2, .inl (0, 108, .inl (fun _ => 0))), (taz, .inr (2, [.ref taz1, .ref taz2, .ref taz3, .ref taz4, .ref taz5, .ref taz6, .int 0])), (taz1, .inl (0, 108, .inl (fun _ => 0))), (taz2, .inl (0, 108, .inl (fun _ => 0))), (taz3, .inl (0, 108, .inl (fun _ => 0))), (taz4, .inl (0, 108, .inl (fun _ => 0))), (taz5, .inl (0, 108, .inl (fun _ => 0))), (taz6, .inl (0, 108, .inl (fun _ => 0))), (ta4, .inl (2, 108, .inl (fun _ => 0))), (ta5, .inl (2, 108, .inl (fun _ => 0))), (ta6, .inl (0, 108, .inl (fun _ => 0))), (sa, .inr (10, [.ref sa1, .ref sa2, .ref saz, .ref sa4, .ref sa5, .ref sa6, .int 0, .int 0])), (sa1, .inl (1, 108, .inl (fa_fill (fun _ => 46) (fun _ => 0) 108))), (sa2, .inl (0, 108, .inl (fun _ => 0))), (saz, .inr (2, [.ref saz1, .ref saz2, .ref saz3, .ref saz4, .ref saz5, .ref saz6, .int 0])), (saz1, .inl (0, 108, .inl (fun _ => 0))), (saz2, .inl (0, 108, .inl (fun _ => 0))), (saz3, .inl (0, 108, .inl (fun _ => 0))), (saz4, .inl (0, 108, .inl (fun _ => 0))), (saz5, .inl (0, 108, .inl (fun _ => 0))), (saz6, .inl (0, 108, .inl (fun _ => 0))), (sa4, .inl (2, 108, .inl (fun _ => 0))), (sa5, .inl (2, 108, .inl (fun _ => 0))), (sa6, .inl (0, 108, .inl (fun _ => 0))), (gs, .inr (4, [.int 80, .int 35, .int 30, .int 50, .int 0])), (co, .inr (1, [.ref co1, .ref co2, .ref co3, .int 0])), (co1, .inl (0, 20, .inl (fun _ => 0))), (co2, .inl (0, 20, .inl (fun _ => 0))), (co3, .inl (0, 20, .inl (fun _ => 0))), (fu, .inr (3, [.ref fub, .ref fut1, .ref fut2, .ref fut3, .long 0])), (fub, .inr (6, [.ref fubg, .int 0])), (fubg, .inl (3, 4, .inr (.inl (fun _ => 0)))), (fut1, .inl (3, 4, .inr (.inl (fun _ => 0)))), (fut2, .inl (3, 4, .inr (.inl (fun _ => 0)))), (fut3, .inl (3, 4, .inr (.inl (fun _ => 0)))), (la, .inr (5, [.ref lab, .int 0, .int 0, .int 0])), (lab, .inr (6, [.ref labg, .int 0])), (labg, .inl (3, 4, .inr (.inl (fun _ => 0)))), (gy, .inr (6, [.ref gyg, .int 0])), (gyg, .inl (3, 4, .inr (.inl (fun _ => 0)))), (du, .inr (6, [.null, .int 0]))]) rfl ?_
                  refine r_dup d_Ip_init_96 rfl ?_
                  refine r_callIN (As := []) (rest := [.ref du, .ref a]) (csC := [(du, .inr (6, [.null, .int 0]))]) (is := [47]) rfl rfl ln_Ip_56 w_im_Me_init ok_Ip_init_Me_init d_Ip_init_97 (C_Me_init g du) rfl rfl (Nat.le_of_ble_eq_true rfl) rfl (by decide) (by omega) (by omega) (fun E cs1 hx => ?_) (fun v cs1 hx => ?_)
                  · obtain ⟨dug, e1, -⟩ := hx
                    cases e1
                  · obtain ⟨dug, e1, rfl⟩ := hx
                    cases e1
                    refine ⟨rfl, ?_⟩
                    refine r_st (st2 := [.ref du, .ref a]) rfl ?_
                    refine r_cs (cs2 := [(a, .inr (11, [.ref pa, .ref ta, .ref sa, .ref gs, .ref co, .ref fu, .ref la, .ref gy, .null, .null, .null, .null])), (pa, .inr (8, [.ref pa1, .ref pa2, .ref pa3, .int 4])), (pa1, .inl (1, 108, .inl (fa_fill (fun _ => 46) (fun _ => 0) 108))), (pa2, .inl (2, 108, .inl (fun _ => 0))), (pa3, .inl (0, 108, .inl (fun _ => 0))), (ta, .inr (10, [.ref ta1, .ref ta2, .ref taz, .ref ta4, .ref ta5, .ref ta6, .int 0, .int 0])), (ta1, .inl (1, 108, .inl (fa_fill (fun _ => 46) (fun _ => 0) 108))), (ta2, .inl (0, 108, .inl (fun _ => 0))), (taz, .inr (2, [.ref taz1, .ref taz2, .ref taz3, .ref taz4, .ref taz5, .ref taz6, .int 0])), (taz1, .inl (0, 108, .inl (fun _ => 0))), (taz2, .inl (0, 108, .inl (fun _ => 0))), (taz3, .inl (0, 108, .inl (fun _ => 0))), (taz4, .inl (0, 108, .inl (fun _ => 0))), (taz5, .inl (0, 108, .inl (fun _ => 0))), (taz6, .inl (0, 108, .inl (fun _ => 0))), (ta4, .inl (2, 108, .inl (fun _ => 0))), (ta5, .inl (2, 108, .inl (fun _ => 0))), (ta6, .inl (0, 108, .inl (fun _ => 0))), (sa, .inr (10, [.ref sa1, .ref sa2, .ref saz, .ref sa4, .ref sa5, .ref sa6, .int 0, .int 0])), (sa1, .inl (1, 108, .inl (fa_fill (fun _ => 46) (fun _ => 0) 108))), (sa2, .inl (0, 108, .inl (fun _ => 0))), (saz, .inr (2, [.ref saz1, .ref saz2, .ref saz3, .ref saz4, .ref saz5, .ref saz6, .int 0])), (saz1, .inl (0, 108, .inl (fun _ => 0))), (saz2, .inl (0, 108, .inl (fun _ => 0))), (saz3, .inl (0, 108, .inl (fun _ => 0))), (saz4, .inl (0, 108, .inl (fun _ => 0))), (saz5, .inl (0, 108, .inl (fun _ => 0))), (saz6, .inl (0, 108, .inl (fun _ => 0))), (sa4, .inl (2, 108, .inl (fun _ => 0))), (sa5, .inl (2, 108, .inl (fun _ => 0))), (sa6, .inl (0, 108, .inl (fun _ => 0))), (gs, .inr (4, [.int 80, .int 35, .int 30, .int 50, .int 0])), (co, .inr (1, [.ref co1, .ref co2, .ref co3, .int 0])), (co1, .inl (0, 20, .inl (fun _ => 0))), (co2, .inl (0, 20, .inl (fun _ => 0))), (co3, .inl (0, 20, .inl (fun _ => 0))), (fu, .inr (3, [.ref fub, .ref fut1, .ref fut2, .ref fut3, .long 0])), (fub, .inr (6, [.ref fubg, .int 0])), (fubg, .inl (3, 4, .inr (.inl (fun _ => 0)))), (fut1, .inl (3, 4, .inr (.inl (fun _ => 0)))), (fut2, .inl (3, 4, .inr (.inl (fun _ => 0)))), (fut3, .inl (3, 4, .inr (.inl (fun _ => 0)))), (la, .inr (5, [.ref lab, .int 0, .int 0, .int 0])), (lab, .inr (6, [.ref labg, .int 0])), (labg, .inl (3, 4, .inr (.inl (fun _ => 0)))), (gy, .inr (6, [.ref gyg, .int 0])), (gyg, .inl (3, 4, .inr (.inl (fun _ => 0)))), (du, .inr (6, [.ref dug, .int 0])), (dug, .inl (3, 4, .inr (.inl (fun _ => 0))))]) rfl ?_
                    refine r_put fp_Ip_61 d_Ip_init_100 (fun _ => rfl) rfl rfl (q0 := 0) rfl (Nat.le_of_ble_eq_true rfl) (cs' := [(a, .inr (11, [.ref pa, .ref ta, .ref sa, .ref gs, .ref co, .ref fu, .ref la, .ref gy, .ref du, .null, .null, .null])), (pa, .inr (8, [.ref pa1, .ref pa2, .ref pa3, .int 4])), (pa1, .inl (1, 108, .inl (fa_fill (fun _ => 46) (fun _ => 0) 108))), (pa2, .inl (2, 108, .inl (fun _ => 0))), (pa3, .inl (0, 108, .inl (fun _ => 0))), (ta, .inr (10, [.ref ta1, .ref ta2, .ref taz, .ref ta4, .ref ta5, .ref ta6, .int 0, .int 0])), (ta1, .inl (1, 108, .inl (fa_fill (fun _ => 46) (fun _ => 0) 108))), (ta2, .inl (0, 108, .inl (fun _ => 0))), (taz, .inr (2, [.ref taz1, .ref taz2, .ref taz3, .ref taz4, .ref taz5, .ref taz6, .int 0])), (taz1, .inl (0, 108, .inl (fun _ => 0))), (taz2, .inl (0, 108, .inl (fun _ => 0))), (taz3, .inl (0, 108, .inl (fun _ => 0))), (taz4, .inl (0, 108, .inl (fun _ => 0))), (taz5, .inl (0, 108, .inl (fun _ => 0))), (taz6, .inl (0, 108, .inl (fun _ => 0))), (ta4, .inl (2, 108, .inl (fun _ => 0))), (ta5, .inl (2, 108, .inl (fun _ => 0))), (ta6, .inl (0, 108, .inl (fun _ => 0))), (sa, .inr (10, [.ref sa1, .ref sa2, .ref saz, .ref sa4, .ref sa5, .ref sa6, .int 0, .int 0])), (sa1, .inl (1, 108, .inl (fa_fill (fun _ => 46) (fun _ => 0) 108))), (sa2, .inl (0, 108, .inl (fun _ => 0))), (saz, .inr (2, [.ref saz1, .ref saz2, .ref saz3, .ref saz4, .ref saz5, .ref saz6, .int 0])), (saz1, .inl (0, 108, .inl (fun _ => 0))), (saz2, .inl (0, 108, .inl (fun _ => 0))), (saz3, .inl (0, 108, .inl (fun _ => 0))), (saz4, .inl (0, 108, .inl (fun _ => 0))), (saz5, .inl (0, 108, .inl (fun _ => 0))), (saz6, .inl (0, 108, .inl (fun _ => 0))), (sa4, .inl (2, 108, .inl (fun _ => 0))), (sa5, .inl (2, 108, .inl (fun _ => 0))), (sa6, .inl (0, 108, .inl (fun _ => 0))), (gs, .inr (4, [.int 80, .int 35, .int 30, .int 50, .int 0])), (co, .inr (1, [.ref co1, .ref co2, .ref co3, .int 0])), (co1, .inl (0, 20, .inl (fun _ => 0))), (co2, .inl (0, 20, .inl (fun _ => 0))), (co3, .inl (0, 20, .inl (fun _ => 0))), (fu, .inr (3, [.ref fub, .ref fut1, .ref fut2, .ref fut3, .long 0])), (fub, .inr (6, [.ref fubg, .int 0])), (fubg, .inl (3, 4, .inr (.inl (fun _ => 0)))), (fut1, .inl (3, 4, .inr (.inl (fun _ => 0)))), (fut2, .inl (3, 4, .inr (.inl (fun _ => 0)))), (fut3, .inl (3, 4, .inr (.inl (fun _ => 0)))), (la, .inr (5, [.ref lab, .int 0, .int 0, .int 0])), (lab, .inr (6, [.ref labg, .int 0])), (labg, .inl (3, 4, .inr (.inl (fun _ => 0)))), (gy, .inr (6, [.ref gyg, .int 0])), (gyg, .inl (3, 4, .inr (.inl (fun _ => 0)))), (du, .inr (6, [.ref dug, .int 0])), (dug, .inl (3, 4, .inr (.inl (fun _ => 0))))]) rfl ?_
                    refine r_aload_n d_Ip_init_103 rfl 0 rfl ?_
                    refine r_new nc_Ip_64 d_Ip_init_104 (by omega) (by omega) (fun re => ?_)
                    refine r_cs (cs2 := [(a, .inr (11, [.ref pa, .ref ta, .ref sa, .ref gs, .ref co, .ref fu, .ref la, .ref gy, .ref du, .null, .null, .null])), (pa, .inr (8, [.ref pa1, .ref pa2, .ref pa3, .int 4])), (pa1, .inl (1, 108, .inl (fa_fill (fun _ => 46) (fun _ => 0) 108))), (pa2, .inl (2, 108, .inl (fun _ => 0))), (pa3, .inl (0, 108, .inl (fun _ => 0))), (ta, .inr (10, [.ref ta1, .ref ta2, .ref taz, .ref ta4, .ref ta5, .ref ta6, .int 0, .int 0])), (ta1, .inl (1, 108, .inl (fa_fill (fun _ => 46) (fun _ => 0) 108))), (ta2, .inl (0, 108, .inl (fun _ => 0))), (taz, .inr (2, [.ref taz1, .ref taz2, .ref taz3, .ref taz4, .ref taz5, .ref taz6, .int 0])), (taz1, .inl (0, 108, .inl (fun _ => 0))), (taz2, .inl (0, 108, .inl (fun _ => 0))), (taz3, .inl (0, 108, .inl (fun _ => 0))), (taz4, .inl (0, 108, .inl (fun _ => 0))), (taz5, .inl (0, 108, .inl (fun _ => 0))), (taz6, .inl (0, 108, .inl (fun _ => 0))), (ta4, .inl (2, 108, .inl (fun _ => 0))), (ta5, .inl (2, 108, .inl (fun _ => 0))), (ta6, .inl (0, 108, .inl (fun _ => 0))), (sa, .inr (10, [.ref sa1, .ref sa2, .ref saz, .ref sa4, .ref sa5, .ref sa6, .int 0, .int 0])), (sa1, .inl (1, 108, .inl (fa_fill (fun _ => 46) (fun _ => 0) 108))), (sa2, .inl (0, 108, .inl (fun _ => 0))), (saz, .inr (2, [.ref saz1, .ref saz2, .ref saz3, .ref saz4, .ref saz5, .ref saz6, .int 0])), (saz1, .inl (0, 108, .inl (fun _ => 0))), (saz2, .inl (0, 108, .inl (fun _ => 0))), (saz3, .inl (0, 108, .inl (fun _ => 0))), (saz4, .inl (0, 108, .inl (fun _ => 0))), (saz5, .inl (0, 108, .inl (fun _ => 0))), (saz6, .inl (0, 108, .inl (fun _ => 0))), (sa4, .inl (2, 108, .inl (fun _ => 0))), (sa5, .inl (2, 108, .inl (fun _ => 0))), (sa6, .inl (0, 108, .inl (fun _ => 0))), (gs, .inr (4, [.int 80, .int 35, .int 30, .int 50, .int 0])), (co, .inr (1, [.ref co1, .ref co2, .ref co3, .int 0])), (co1, .inl (0, 20, .inl (fun _ => 0))), (co2, .inl (0, 20, .inl (fun _ => 0))), (co3, .inl (0, 20, .inl (fun _ => 0))), (fu, .inr (3, [.ref fub, .ref fut1, .ref fut2, .ref fut3, .long 0])), (fub, .inr (6, [.ref fubg, .int 0])), (fubg, .inl (3, 4, .inr (.inl (fun _ => 0)))), (fut1, .inl (3, 4, .inr (.inl (fun _ => 0)))), (fut2, .inl (3, 4, .inr (.inl (fun _ => 0)))), (fut3, .inl (3, 4, .inr (.inl (fun _ => 0)))), (la, .inr (5, [.ref lab, .int 0, .int 0, .int 0])), (lab, .inr (6, [.ref labg, .int 0])), (labg, .inl (3, 4, .inr (.inl (fun _ => 0)))), (gy, .inr (6, [.ref gyg, .int 0])), (gyg, .inl (3, 4, .inr (.inl (fun _ => 0)))), (du, .inr (6, [.ref dug, .int 0])), (dug, .inl (3, 4, .inr (.inl (fun _ => 0)))), (re, .inr (9, [.int 0, .int 0, .int 0]))]) rfl ?_
                    refine r_dup d_Ip_init_107 rfl ?_
                    refine r_callIN (As := []) (rest := [.ref re, .ref a]) (csC := [(re, .inr (9, [.int 0, .int 0, .int 0]))]) (is := [49]) rfl rfl ln_Ip_66 w_im_Re_init ok_Ip_init_Re_init d_Ip_init_108 (C_Re_init g re) rfl rfl (Nat.le_of_ble_eq_true rfl) rfl (by decide) (by omega) (by omega) (fun E cs1 hx => ?_) (fun v cs1 hx => ?_)
                    · exact absurd hx.1 (by simp)
                    · obtain ⟨e1, rfl⟩ := hx
                      cases e1
                      refine ⟨rfl, ?_⟩
                      refine r_st (st2 := [.ref re, .ref a]) rfl ?_
                      refine r_cs (cs2 := [(a, .inr (11, [.ref pa, .ref ta, .ref sa, .ref gs, .ref co, .ref fu, .ref la, .ref gy, .ref du, .null, .null, .null])), (pa, .inr (8, [.ref pa1, .ref pa2, .ref pa3, .int 4])), (pa1, .inl (1, 108, .inl (fa_fill (fun _ => 46) (fun _ => 0) 108))), (pa2, .inl (2, 108, .inl (fun _ => 0))), (pa3, .inl (0, 108, .inl (fun _ => 0))), (ta, .inr (10, [.ref ta1, .ref ta2, .ref taz, .ref ta4, .ref ta5, .ref ta6, .int 0, .int 0])), (ta1, .inl (1, 108, .inl (fa_fill (fun _ => 46) (fun _ => 0) 108))), (ta2, .inl (0, 108, .inl (fun _ => 0))), (taz, .inr (2, [.ref taz1, .ref taz2, .ref taz3, .ref taz4, .ref taz5, .ref taz6, .int 0])), (taz1, .inl (0, 108, .inl (fun _ => 0))), (taz2, .inl (0, 108, .inl (fun _ => 0))), (taz3, .inl (0, 108, .inl (fun _ => 0))), (taz4, .inl (0, 108, .inl (fun _ => 0))), (taz5, .inl (0, 108, .inl (fun _ => 0))), (taz6, .inl (0, 108, .inl (fun _ => 0))), (ta4, .inl (2, 108, .inl (fun _ => 0))), (ta5, .inl (2, 108, .inl (fun _ => 0))), (ta6, .inl (0, 108, .inl (fun _ => 0))), (sa, .inr (10, [.ref sa1, .ref sa2, .ref saz, .ref sa4, .ref sa5, .ref sa6, .int 0, .int 0])), (sa1, .inl (1, 108, .inl (fa_fill (fun _ => 46) (fun _ => 0) 108))), (sa2, .inl (0, 108, .inl (fun _ => 0))), (saz, .inr (2, [.ref saz1, .ref saz2, .ref saz3, .ref saz4, .ref saz5, .ref saz6, .int 0])), (saz1, .inl (0, 108, .inl (fun _ => 0))), (saz2, .inl (0, 108, .inl (fun _ => 0))), (saz3, .inl (0, 108, .inl (fun _ => 0))), (saz4, .inl (0, 108, .inl (fun _ => 0))), (saz5, .inl (0, 108, .inl (fun _ => 0))), (saz6, .inl (0, 108, .inl (fun _ => 0))), (sa4, .inl (2, 108, .inl (fun _ => 0))), (sa5, .inl (2, 108, .inl (fun _ => 0))), (sa6, .inl (0, 108, .inl (fun _ => 0))), (gs, .inr (4, [.int 80, .int 35, .int 30, .int 50, .int 0])), (co, .inr (1, [.ref co1, .ref co2, .ref co3, .int 0])), (co1, .inl (0, 20, .inl (fun _ => 0))), (co2, .inl (0, 20, .inl (fun _ => 0))), (co3, .inl (0, 20, .inl (fun _ => 0))), (fu, .inr (3, [.ref fub, .ref fut1, .ref fut2, .ref fut3, .long 0])), (fub, .inr (6, [.ref fubg, .int 0])), (fubg, .inl (3, 4, .inr (.inl (fun _ => 0)))), (fut1, .inl (3, 4, .inr (.inl (fun _ => 0)))), (fut2, .inl (3, 4, .inr (.inl (fun _ => 0)))), (fut3, .inl (3, 4, .inr (.inl (fun _ => 0)))), (la, .inr (5, [.ref lab, .int 0, .int 0, .int 0])), (lab, .inr (6, [.ref labg, .int 0])), (labg, .inl (3, 4, .inr (.inl (fun _ => 0)))), (gy, .inr (6, [.ref gyg, .int 0])), (gyg, .inl (3, 4, .inr (.inl (fun _ => 0)))), (du, .inr (6, [.ref dug, .int 0])), (dug, .inl (3, 4, .inr (.inl (fun _ => 0)))), (re, .inr (9, [.int 0, .int 0, .int 0]))]) rfl ?_
                      refine r_put fp_Ip_67 d_Ip_init_111 (fun _ => rfl) rfl rfl (q0 := 0) rfl (Nat.le_of_ble_eq_true rfl) (cs' := [(a, .inr (11, [.ref pa, .ref ta, .ref sa, .ref gs, .ref co, .ref fu, .ref la, .ref gy, .ref du, .ref re, .null, .null])), (pa, .inr (8, [.ref pa1, .ref pa2, .ref pa3, .int 4])), (pa1, .inl (1, 108, .inl (fa_fill (fun _ => 46) (fun _ => 0) 108))), (pa2, .inl (2, 108, .inl (fun _ => 0))), (pa3, .inl (0, 108, .inl (fun _ => 0))), (ta, .inr (10, [.ref ta1, .ref ta2, .ref taz, .ref ta4, .ref ta5, .ref ta6, .int 0, .int 0])), (ta1, .inl (1, 108, .inl (fa_fill (fun _ => 46) (fun _ => 0) 108))), (ta2, .inl (0, 108, .inl (fun _ => 0))), (taz, .inr (2, [.ref taz1, .ref taz2, .ref taz3, .ref taz4, .ref taz5, .ref taz6, .int 0])), (taz1, .inl (0, 108, .inl (fun _ => 0))), (taz2, .inl (0, 108, .inl (fun _ => 0))), (taz3, .inl (0, 108, .inl (fun _ => 0))), (taz4, .inl (0, 108, .inl (fun _ => 0))), (taz5, .inl (0, 108, .inl (fun _ => 0))), (taz6, .inl (0, 108, .inl (fun _ => 0))), (ta4, .inl (2, 108, .inl (fun _ => 0))), (ta5, .inl (2, 108, .inl (fun _ => 0))), (ta6, .inl (0, 108, .inl (fun _ => 0))), (sa, .inr (10, [.ref sa1, .ref sa2, .ref saz, .ref sa4, .ref sa5, .ref sa6, .int 0, .int 0])), (sa1, .inl (1, 108, .inl (fa_fill (fun _ => 46) (fun _ => 0) 108))), (sa2, .inl (0, 108, .inl (fun _ => 0))), (saz, .inr (2, [.ref saz1, .ref saz2, .ref saz3, .ref saz4, .ref saz5, .ref saz6, .int 0])), (saz1, .inl (0, 108, .inl (fun _ => 0))), (saz2, .inl (0, 108, .inl (fun _ => 0))), (saz3, .inl (0, 108, .inl (fun _ => 0))), (saz4, .inl (0, 108, .inl (fun _ => 0))), (saz5, .inl (0, 108, .inl (fun _ => 0))), (saz6, .inl (0, 108, .inl (fun _ => 0))), (sa4, .inl (2, 108, .inl (fun _ => 0))), (sa5, .inl (2, 108, .inl (fun _ => 0))), (sa6, .inl (0, 108, .inl (fun _ => 0))), (gs, .inr (4, [.int 80, .int 35, .int 30, .int 50, .int 0])), (co, .inr (1, [.ref co1, .ref co2, .ref co3, .int 0])), (co1, .inl (0, 20, .inl (fun _ => 0))), (co2, .inl (0, 20, .inl (fun _ => 0))), (co3, .inl (0, 20, .inl (fun _ => 0))), (fu, .inr (3, [.ref fub, .ref fut1, .ref fut2, .ref fut3, .long 0])), (fub, .inr (6, [.ref fubg, .int 0])), (fubg, .inl (3, 4, .inr (.inl (fun _ => 0)))), (fut1, .inl (3, 4, .inr (.inl (fun _ => 0)))), (fut2, .inl (3, 4, .inr (.inl (fun _ => 0)))), (fut3, .inl (3, 4, .inr (.inl (fun _ => 0)))), (la, .inr (5, [.ref lab, .int 0, .int 0, .int 0])), (lab, .inr (6, [.ref labg, .int 0])), (labg, .inl (3, 4, .inr (.inl (fun _ => 0)))), (gy, .inr (6, [.ref gyg, .int 0])), (gyg, .inl (3, 4, .inr (.inl (fun _ => 0)))), (du, .inr (6, [.ref dug, .int 0])), (dug, .inl (3, 4, .inr (.inl (fun _ => 0)))), (re, .inr (9, [.int 0, .int 0, .int 0]))]) rfl ?_
                      refine r_aload_n d_Ip_init_114 rfl 0 rfl ?_
                      refine r_new nc_Ip_71 d_Ip_init_115 (by omega) (by omega) (fun wm => ?_)
                      refine r_cs (cs2 := [(a, .inr (11, [.ref pa, .ref ta, .ref sa, .ref gs, .ref co, .ref fu, .ref la, .ref gy, .ref du, .ref re, .null, .null])), (pa, .inr (8, [.ref pa1, .ref pa2, .ref pa3, .int 4])), (pa1, .inl (1, 108, .inl (fa_fill (fun _ => 46) (fun _ => 0) 108))), (pa2, .inl (2, 108, .inl (fun _ => 0))), (pa3, .inl (0, 108, .inl (fun _ => 0))), (ta, .inr (10, [.ref ta1, .ref ta2, .ref taz, .ref ta4, .ref ta5, .ref ta6, .int 0, .int 0])), (ta1, .inl (1, 108, .inl (fa_fill (fun _ => 46) (fun _ => 0) 108))), (ta2, .inl (0, 108, .inl (fun _ => 0))), (taz, .inr (2, [.ref taz1, .ref taz2, .ref taz3, .ref taz4, .ref taz5, .ref taz6, .int 0])), (taz1, .inl (0, 108, .inl (fun _ => 0))), (taz2, .inl (0, 108, .inl (fun _ => 0))), (taz3, .inl (0, 108, .inl (fun _ => 0))), (taz4, .inl (0, 108, .inl (fun _ => 0))), (taz5, .inl (0, 108, .inl (fun _ => 0))), (taz6, .inl (0, 108, .inl (fun _ => 0))), (ta4, .inl (2, 108, .inl (fun _ => 0))), (ta5, .inl (2, 108, .inl (fun _ => 0))), (ta6, .inl (0, 108, .inl (fun _ => 0))), (sa, .inr (10, [.ref sa1, .ref sa2, .ref saz, .ref sa4, .ref sa5, .ref sa6, .int 0, .int 0])), (sa1, .inl (1, 108, .inl (fa_fill (fun _ => 46) (fun _ => 0) 108))), (sa2, .inl (0, 108, .inl (fun _ => 0))), (saz, .inr (2, [.ref saz1, .ref saz2, .ref saz3, .ref saz4, .ref saz5, .ref saz6, .int 0])), (saz1, .inl (0, 108, .inl (fun _ => 0))), (saz2, .inl (0, 108, .inl (fun _ => 0))), (saz3, .inl (0, 108, .inl (fun _ => 0))), (saz4, .inl (0, 108, .inl (fun _ => 0))), (saz5, .inl (0, 108, .inl (fun _ => 0))), (saz6, .inl (0, 108, .inl (fun _ => 0))), (sa4, .inl (2, 108, .inl (fun _ => 0))), (sa5, .inl (2, 108, .inl (fun _ => 0))), (sa6, .inl (0, 108, .inl (fun _ => 0))), (gs, .inr (4, [.int 80, .int 35, .int 30, .int 50, .int 0])), (co, .inr (1, [.ref co1, .ref co2, .ref co3, .int 0])), (co1, .inl (0, 20, .inl (fun _ => 0))), (co2, .inl (0, 20, .inl (fun _ => 0))), (co3, .inl (0, 20, .inl (fun _ => 0))), (fu, .inr (3, [.ref fub, .ref fut1, .ref fut2, .ref fut3, .long 0])), (fub, .inr (6, [.ref fubg, .int 0])), (fubg, .inl (3, 4, .inr (.inl (fun _ => 0)))), (fut1, .inl (3, 4, .inr (.inl (fun _ => 0)))), (fut2, .inl (3, 4, .inr (.inl (fun _ => 0)))), (fut3, .inl (3, 4, .inr (.inl (fun _ => 0)))), (la, .inr (5, [.ref lab, .int 0, .int 0, .int 0])), (lab, .inr (6, [.ref labg, .int 0])), (labg, .inl (3, 4, .inr (.inl (fun _ => 0)))), (gy, .inr (6, [.ref gyg, .int 0])), (gyg, .inl (3, 4, .inr (.inl (fun _ => 0)))), (du, .inr (6, [.ref dug, .int 0])), (dug, .inl (3, 4, .inr (.inl (fun _ => 0)))), (re, .inr (9, [.int 0, .int 0, .int 0])), (wm, .inr (13, [.int 0, .null, .int 0]))]) rfl ?_
                      refine r_dup d_Ip_init_118 rfl ?_
                      refine r_callI (As := []) (rest := [.ref wm, .ref a]) (csC := [(wm, .inr (13, [.int 0, .null, .int 0]))]) (is := [50]) rfl rfl ln_Ip_73 w_im_AL_init ok_Ip_init_AL_init d_Ip_init_119 (C_AL_init g wm) rfl rfl (Nat.le_of_ble_eq_true rfl) rfl (by decide) (by omega) (by omega) (fun E cs1 hx => ?_) (fun v cs1 hx => ?_)
                      · exact absurd hx.1 (by simp)
                      · obtain ⟨e1, rfl⟩ := hx
                        cases e1
                        refine ⟨rfl, ?_⟩
                        refine r_st (st2 := [.ref wm, .ref a]) rfl ?_
                        refine r_cs (cs2 := [(a, .inr (11, [.ref pa, .ref ta, .ref sa, .ref gs, .ref co, .ref fu, .ref la, .ref gy, .ref du, .ref re, .null, .null])), (pa, .inr (8, [.ref pa1, .ref pa2, .ref pa3, .int 4])), (pa1, .inl (1, 108, .inl (fa_fill (fun _ => 46) (fun _ => 0) 108))), (pa2, .inl (2, 108, .inl (fun _ => 0))), (pa3, .inl (0, 108, .inl (fun _ => 0))), (ta, .inr (10, [.ref ta1, .ref ta2, .ref taz, .ref ta4, .ref ta5, .ref ta6, .int 0, .int 0])), (ta1, .inl (1, 108, .inl (fa_fill (fun _ => 46) (fun _ => 0) 108))), (ta2, .inl (0, 108, .inl (fun _ => 0))), (taz, .inr (2, [.ref taz1, .ref taz2, .ref taz3, .ref taz4, .ref taz5, .ref taz6, .int 0])), (taz1, .inl (0, 108, .inl (fun _ => 0))), (taz2, .inl (0, 108, .inl (fun _ => 0))), (taz3, .inl (0, 108, .inl (fun _ => 0))), (taz4, .inl (0, 108, .inl (fun _ => 0))), (taz5, .inl (0, 108, .inl (fun _ => 0))), (taz6, .inl (0, 108, .inl (fun _ => 0))), (ta4, .inl (2, 108, .inl (fun _ => 0))), (ta5, .inl (2, 108, .inl (fun _ => 0))), (ta6, .inl (0, 108, .inl (fun _ => 0))), (sa, .inr (10, [.ref sa1, .ref sa2, .ref saz, .ref sa4, .ref sa5, .ref sa6, .int 0, .int 0])), (sa1, .inl (1, 108, .inl (fa_fill (fun _ => 46) (fun _ => 0) 108))), (sa2, .inl (0, 108, .inl (fun _ => 0))), (saz, .inr (2, [.ref saz1, .ref saz2, .ref saz3, .ref saz4, .ref saz5, .ref saz6, .int 0])), (saz1, .inl (0, 108, .inl (fun _ => 0))), (saz2, .inl (0, 108, .inl (fun _ => 0))), (saz3, .inl (0, 108, .inl (fun _ => 0))), (saz4, .inl (0, 108, .inl (fun _ => 0))), (saz5, .inl (0, 108, .inl (fun _ => 0))), (saz6, .inl (0, 108, .inl (fun _ => 0))), (sa4, .inl (2, 108, .inl (fun _ => 0))), (sa5, .inl (2, 108, .inl (fun _ => 0))), (sa6, .inl (0, 108, .inl (fun _ => 0))), (gs, .inr (4, [.int 80, .int 35, .int 30, .int 50, .int 0])), (co, .inr (1, [.ref co1, .ref co2, .ref co3, .int 0])), (co1, .inl (0, 20, .inl (fun _ => 0))), (co2, .inl (0, 20, .inl (fun _ => 0))), (co3, .inl (0, 20, .inl (fun _ => 0))), (fu, .inr (3, [.ref fub, .ref fut1, .ref fut2, .ref fut3, .long 0])), (fub, .inr (6, [.ref fubg, .int 0])), (fubg, .inl (3, 4, .inr (.inl (fun _ => 0)))), (fut1, .inl (3, 4, .inr (.inl (fun _ => 0)))), (fut2, .inl (3, 4, .inr (.inl (fun _ => 0)))), (fut3, .inl (3, 4, .inr (.inl (fun _ => 0)))), (la, .inr (5, [.ref lab, .int 0, .int 0, .int 0])), (lab, .inr (6, [.ref labg, .int 0])), (labg, .inl (3, 4, .inr (.inl (fun _ => 0)))), (gy, .inr (6, [.ref gyg, .int 0])), (gyg, .inl (3, 4, .inr (.inl (fun _ => 0)))), (du, .inr (6, [.ref dug, .int 0])), (dug, .inl (3, 4, .inr (.inl (fun _ => 0)))), (re, .inr (9, [.int 0, .int 0, .int 0])), (wm, .inr (13, [.int 0, .ref (g.2.2 4), .int 0]))]) rfl ?_
                        refine r_put fp_Ip_74 d_Ip_init_122 (fun _ => rfl) rfl rfl (q0 := 0) rfl (Nat.le_of_ble_eq_true rfl) (cs' := [(a, .inr (11, [.ref pa, .ref ta, .ref sa, .ref gs, .ref co, .ref fu, .ref la, .ref gy, .ref du, .ref re, .ref wm, .null])), (pa, .inr (8, [.ref pa1, .ref pa2, .ref pa3, .int 4])), (pa1, .inl (1, 108, .inl (fa_fill (fun _ => 46) (fun _ => 0) 108))), (pa2, .inl (2, 108, .inl (fun _ => 0))), (pa3, .inl (0, 108, .inl (fun _ => 0))), (ta, .inr (10, [.ref ta1, .ref ta2, .ref taz, .ref ta4, .ref ta5, .ref ta6, .int 0, .int 0])), (ta1, .inl (1, 108, .inl (fa_fill (fun _ => 46) (fun _ => 0) 108))), (ta2, .inl (0, 108, .inl (fun _ => 0))), (taz, .inr (2, [.ref taz1, .ref taz2, .ref taz3, .ref taz4, .ref taz5, .ref taz6, .int 0])), (taz1, .inl (0, 108, .inl (fun _ => 0))), (taz2, .inl (0, 108, .inl (fun _ => 0))), (taz3, .inl (0, 108, .inl (fun _ => 0))), (taz4, .inl (0, 108, .inl (fun _ => 0))), (taz5, .inl (0, 108, .inl (fun _ => 0))), (taz6, .inl (0, 108, .inl (fun _ => 0))), (ta4, .inl (2, 108, .inl (fun _ => 0))), (ta5, .inl (2, 108, .inl (fun _ => 0))), (ta6, .inl (0, 108, .inl (fun _ => 0))), (sa, .inr (10, [.ref sa1, .ref sa2, .ref saz, .ref sa4, .ref sa5, .ref sa6, .int 0, .int 0])), (sa1, .inl (1, 108, .inl (fa_fill (fun _ => 46) (fun _ => 0) 108))), (sa2, .inl (0, 108, .inl (fun _ => 0))), (saz, .inr (2, [.ref saz1, .ref saz2, .ref saz3, .ref saz4, .ref saz5, .ref saz6, .int 0])), (saz1, .inl (0, 108, .inl (fun _ => 0))), (saz2, .inl (0, 108, .inl (fun _ => 0))), (saz3, .inl (0, 108, .inl (fun _ => 0))), (saz4, .inl (0, 108, .inl (fun _ => 0))), (saz5, .inl (0, 108, .inl (fun _ => 0))), (saz6, .inl (0, 108, .inl (fun _ => 0))), (sa4, .inl (2, 108, .inl (fun _ => 0))), (sa5, .inl (2, 108, .inl (fun _ => 0))), (sa6, .inl (0, 108, .inl (fun _ => 0))), (gs, .inr (4, [.int 80, .int 35, .int 30, .int 50, .int 0])), (co, .inr (1, [.ref co1, .ref co2, .ref co3, .int 0])), (co1, .inl (0, 20, .inl (fun _ => 0))), (co2, .inl (0, 20, .inl (fun _ => 0))), (co3, .inl (0, 20, .inl (fun _ => 0))), (fu, .inr (3, [.ref fub, .ref fut1, .ref fut2, .ref fut3, .long 0])), (fub, .inr (6, [.ref fubg, .int 0])), (fubg, .inl (3, 4, .inr (.inl (fun _ => 0)))), (fut1, .inl (3, 4, .inr (.inl (fun _ => 0)))), (fut2, .inl (3, 4, .inr (.inl (fun _ => 0)))), (fut3, .inl (3, 4, .inr (.inl (fun _ => 0)))), (la, .inr (5, [.ref lab, .int 0, .int 0, .int 0])), (lab, .inr (6, [.ref labg, .int 0])), (labg, .inl (3, 4, .inr (.inl (fun _ => 0)))), (gy, .inr (6, [.ref gyg, .int 0])), (gyg, .inl (3, 4, .inr (.inl (fun _ => 0)))), (du, .inr (6, [.ref dug, .int 0])), (dug, .inl (3, 4, .inr (.inl (fun _ => 0)))), (re, .inr (9, [.int 0, .int 0, .int 0])), (wm, .inr (13, [.int 0, .ref (g.2.2 4), .int 0]))]) rfl ?_
                        refine r_aload_n d_Ip_init_125 rfl 0 rfl ?_
                        refine r_new nc_Ip_71 d_Ip_init_126 (by omega) (by omega) (fun ac => ?_)
                        refine r_cs (cs2 := [(a, .inr (11, [.ref pa, .ref ta, .ref sa, .ref gs, .ref co, .ref fu, .ref la, .ref gy, .ref du, .ref re, .ref wm, .null])), (pa, .inr (8, [.ref pa1, .ref pa2, .ref pa3, .int 4])), (pa1, .inl (1, 108, .inl (fa_fill (fun _ => 46) (fun _ => 0) 108))), (pa2, .inl (2, 108, .inl (fun _ => 0))), (pa3, .inl (0, 108, .inl (fun _ => 0))), (ta, .inr (10, [.ref ta1, .ref ta2, .ref taz, .ref ta4, .ref ta5, .ref ta6, .int 0, .int 0])), (ta1, .inl (1, 108, .inl (fa_fill (fun _ => 46) (fun _ => 0) 108))), (ta2, .inl (0, 108, .inl (fun _ => 0))), (taz, .inr (2, [.ref taz1, .ref taz2, .ref taz3, .ref taz4, .ref taz5, .ref taz6, .int 0])), (taz1, .inl (0, 108, .inl (fun _ => 0))), (taz2, .inl (0, 108, .inl (fun _ => 0))), (taz3, .inl (0, 108, .inl (fun _ => 0))), (taz4, .inl (0, 108, .inl (fun _ => 0))), (taz5, .inl (0, 108, .inl (fun _ => 0))), (taz6, .inl (0, 108, .inl (fun _ => 0))), (ta4, .inl (2, 108, .inl (fun _ => 0))), (ta5, .inl (2, 108, .inl (fun _ => 0))), (ta6, .inl (0, 108, .inl (fun _ => 0))), (sa, .inr (10, [.ref sa1, .ref sa2, .ref saz, .ref sa4, .ref sa5, .ref sa6, .int 0, .int 0])), (sa1, .inl (1, 108, .inl (fa_fill (fun _ => 46) (fun _ => 0) 108))), (sa2, .inl (0, 108, .inl (fun _ => 0))), (saz, .inr (2, [.ref saz1, .ref saz2, .ref saz3, .ref saz4, .ref saz5, .ref saz6, .int 0])), (saz1, .inl (0, 108, .inl (fun _ => 0))), (saz2, .inl (0, 108, .inl (fun _ => 0))), (saz3, .inl (0, 108, .inl (fun _ => 0))), (saz4, .inl (0, 108, .inl (fun _ => 0))), (saz5, .inl (0, 108, .inl (fun _ => 0))), (saz6, .inl (0, 108, .inl (fun _ => 0))), (sa4, .inl (2, 108, .inl (fun _ => 0))), (sa5, .inl (2, 108, .inl (fun _ => 0))), (sa6, .inl (0, 108, .inl (fun _ => 0))), (gs, .inr (4, [.int 80, .int 35, .int 30, .int 50, .int 0])), (co, .inr (1, [.ref co1, .ref co2, .ref co3, .int 0])), (co1, .inl (0, 20, .inl (fun _ => 0))), (co2, .inl (0, 20, .inl (fun _ => 0))), (co3, .inl (0, 20, .inl (fun _ => 0))), (fu, .inr (3, [.ref fub, .ref fut1, .ref fut2, .ref fut3, .long 0])), (fub, .inr (6, [.ref fubg, .int 0])), (fubg, .inl (3, 4, .inr (.inl (fun _ => 0)))), (fut1, .inl (3, 4, .inr (.inl (fun _ => 0)))), (fut2, .inl (3, 4, .inr (.inl (fun _ => 0)))), (fut3, .inl (3, 4, .inr (.inl (fun _ => 0)))), (la, .inr (5, [.ref lab, .int 0, .int 0, .int 0])), (lab, .inr (6, [.ref labg, .int 0])), (labg, .inl (3, 4, .inr (.inl (fun _ => 0)))), (gy, .inr (6, [.ref gyg, .int 0])), (gyg, .inl (3, 4, .inr (.inl (fun _ => 0)))), (du, .inr (6, [.ref dug, .int 0])), (dug, .inl (3, 4, .inr (.inl (fun _ => 0)))), (re, .inr (9, [.int 0, .int 0, .int 0])), (wm, .inr (13, [.int 0, .ref (g.2.2 4), .int 0])), (ac, .inr (13, [.int 0, .null, .int 0]))]) rfl ?_
                        refine r_dup d_Ip_init_129 rfl ?_
                        refine r_callI (As := []) (rest := [.ref ac, .ref a]) (csC := [(ac, .inr (13, [.int 0, .null, .int 0]))]) (is := [51]) rfl rfl ln_Ip_73 w_im_AL_init ok_Ip_init_AL_init d_Ip_init_130 (C_AL_init g ac) rfl rfl (Nat.le_of_ble_eq_true rfl) rfl (by decide) (by omega) (by omega) (fun E cs1 hx => ?_) (fun v cs1 hx => ?_)
                        · exact absurd hx.1 (by simp)
                        · obtain ⟨e1, rfl⟩ := hx
                          cases e1
                          refine ⟨rfl, ?_⟩
                          refine r_st (st2 := [.ref ac, .ref a]) rfl ?_
                          refine r_cs (cs2 := [(a, .inr (11, [.ref pa, .ref ta, .ref sa, .ref gs, .ref co, .ref fu, .ref la, .ref gy, .ref du, .ref re, .ref wm, .null])), (pa, .inr (8, [.ref pa1, .ref pa2, .ref pa3, .int 4])), (pa1, .inl (1, 108, .inl (fa_fill (fun _ => 46) (fun _ => 0) 108))), (pa2, .inl (2, 108, .inl (fun _ => 0))), (pa3, .inl (0, 108, .inl (fun _ => 0))), (ta, .inr (10, [.ref ta1, .ref ta2, .ref taz, .ref ta4, .ref ta5, .ref ta6, .int 0, .int 0])), (ta1, .inl (1, 108, .inl (fa_fill (fun _ => 46) (fun _ => 0) 108))), (ta2, .inl (0, 108, .inl (fun _ => 0))), (taz, .inr (2, [.ref taz1, .ref taz2, .ref taz3, .ref taz4, .ref taz5, .ref taz6, .int 0])), (taz1, .inl (0, 108, .inl (fun _ => 0))), (taz2, .inl (0, 108, .inl (fun _ => 0))), (taz3, .inl (0, 108, .inl (fun _ => 0))), (taz4, .inl (0, 108, .inl (fun _ => 0))), (taz5, .inl (0, 108, .inl (fun _ => 0))), (taz6, .inl (0, 108, .inl (fun _ => 0))), (ta4, .inl (2, 108, .inl (fun _ => 0))), (ta5, .inl (2, 108, .inl (fun _ => 0))), (ta6, .inl (0, 108, .inl (fun _ => 0))), (sa, .inr (10, [.ref sa1, .ref sa2, .ref saz, .ref sa4, .ref sa5, .ref sa6, .int 0, .int 0])), (sa1, .inl (1, 108, .inl (fa_fill (fun _ => 46) (fun _ => 0) 108))), (sa2, .inl (0, 108, .inl (fun _ => 0))), (saz, .inr (2, [.ref saz1, .ref saz2, .ref saz3, .ref saz4, .ref saz5, .ref saz6, .int 0])), (saz1, .inl (0, 108, .inl (fun _ => 0))), (saz2, .inl (0, 108, .inl (fun _ => 0))), (saz3, .inl (0, 108, .inl (fun _ => 0))), (saz4, .inl (0, 108, .inl (fun _ => 0))), (saz5, .inl (0, 108, .inl (fun _ => 0))), (saz6, .inl (0, 108, .inl (fun _ => 0))), (sa4, .inl (2, 108, .inl (fun _ => 0))), (sa5, .inl (2, 108, .inl (fun _ => 0))), (sa6, .inl (0, 108, .inl (fun _ => 0))), (gs, .inr (4, [.int 80, .int 35, .int 30, .int 50, .int 0])), (co, .inr (1, [.ref co1, .ref co2, .ref co3, .int 0])), (co1, .inl (0, 20, .inl (fun _ => 0))), (co2, .inl (0, 20, .inl (fun _ => 0))), (co3, .inl (0, 20, .inl (fun _ => 0))), (fu, .inr (3, [.ref fub, .ref fut1, .ref fut2, .ref fut3, .long 0])), (fub, .inr (6, [.ref fubg, .int 0])), (fubg, .inl (3, 4, .inr (.inl (fun _ => 0)))), (fut1, .inl (3, 4, .inr (.inl (fun _ => 0)))), (fut2, .inl (3, 4, .inr (.inl (fun _ => 0)))), (fut3, .inl (3, 4, .inr (.inl (fun _ => 0)))), (la, .inr (5, [.ref lab, .int 0, .int 0, .int 0])), (lab, .inr (6, [.ref labg, .int 0])), (labg, .inl (3, 4, .inr (.inl (fun _ => 0)))), (gy, .inr (6, [.ref gyg, .int 0])), (gyg, .inl (3, 4, .inr (.inl (fun _ => 0)))), (du, .inr (6, [.ref dug, .int 0])), (dug, .inl (3, 4, .inr (.inl (fun _ => 0)))), (re, .inr (9, [.int 0, .int 0, .int 0])), (wm, .inr (13, [.int 0, .ref (g.2.2 4), .int 0])), (ac, .inr (13, [.int 0, .ref (g.2.2 4), .int 0]))]) rfl ?_
                          refine r_put fp_Ip_78 d_Ip_init_133 (fun _ => rfl) rfl rfl (q0 := 0) rfl (Nat.le_of_ble_eq_true rfl) (cs' := [(a, .inr (11, [.ref pa, .ref ta, .ref sa, .ref gs, .ref co, .ref fu, .ref la, .ref gy, .ref du, .ref re, .ref wm, .ref ac])), (pa, .inr (8, [.ref pa1, .ref pa2, .ref pa3, .int 4])), (pa1, .inl (1, 108, .inl (fa_fill (fun _ => 46) (fun _ => 0) 108))), (pa2, .inl (2, 108, .inl (fun _ => 0))), (pa3, .inl (0, 108, .inl (fun _ => 0))), (ta, .inr (10, [.ref ta1, .ref ta2, .ref taz, .ref ta4, .ref ta5, .ref ta6, .int 0, .int 0])), (ta1, .inl (1, 108, .inl (fa_fill (fun _ => 46) (fun _ => 0) 108))), (ta2, .inl (0, 108, .inl (fun _ => 0))), (taz, .inr (2, [.ref taz1, .ref taz2, .ref taz3, .ref taz4, .ref taz5, .ref taz6, .int 0])), (taz1, .inl (0, 108, .inl (fun _ => 0))), (taz2, .inl (0, 108, .inl (fun _ => 0))), (taz3, .inl (0, 108, .inl (fun _ => 0))), (taz4, .inl (0, 108, .inl (fun _ => 0))), (taz5, .inl (0, 108, .inl (fun _ => 0))), (taz6, .inl (0, 108, .inl (fun _ => 0))), (ta4, .inl (2, 108, .inl (fun _ => 0))), (ta5, .inl (2, 108, .inl (fun _ => 0))), (ta6, .inl (0, 108, .inl (fun _ => 0))), (sa, .inr (10, [.ref sa1, .ref sa2, .ref saz, .ref sa4, .ref sa5, .ref sa6, .int 0, .int 0])), (sa1, .inl (1, 108, .inl (fa_fill (fun _ => 46) (fun _ => 0) 108))), (sa2, .inl (0, 108, .inl (fun _ => 0))), (saz, .inr (2, [.ref saz1, .ref saz2, .ref saz3, .ref saz4, .ref saz5, .ref saz6, .int 0])), (saz1, .inl (0, 108, .inl (fun _ => 0))), (saz2, .inl (0, 108, .inl (fun _ => 0))), (saz3, .inl (0, 108, .inl (fun _ => 0))), (saz4, .inl (0, 108, .inl (fun _ => 0))), (saz5, .inl (0, 108, .inl (fun _ => 0))), (saz6, .inl (0, 108, .inl (fun _ => 0))), (sa4, .inl (2, 108, .inl (fun _ => 0))), (sa5, .inl (2, 108, .inl (fun _ => 0))), (sa6, .inl (0, 108, .inl (fun _ => 0))), (gs, .inr (4, [.int 80, .int 35, .int 30, .int 50, .int 0])), (co, .inr (1, [.ref co1, .ref co2, .ref co3, .int 0])), (co1, .inl (0, 20, .inl (fun _ => 0))), (co2, .inl (0, 20, .inl (fun _ => 0))), (co3, .inl (0, 20, .inl (fun _ => 0))), (fu, .inr (3, [.ref fub, .ref fut1, .ref fut2, .ref fut3, .long 0])), (fub, .inr (6, [.ref fubg, .int 0])), (fubg, .inl (3, 4, .inr (.inl (fun _ => 0)))), (fut1, .inl (3, 4, .inr (.inl (fun _ => 0)))), (fut2, .inl (3, 4, .inr (.inl (fun _ => 0)))), (fut3, .inl (3, 4, .inr (.inl (fun _ => 0)))), (la, .inr (5, [.ref lab, .int 0, .int 0, .int 0])), (lab, .inr (6, [.ref labg, .int 0])), (labg, .inl (3, 4, .inr (.inl (fun _ => 0)))), (gy, .inr (6, [.ref gyg, .int 0])), (gyg, .inl (3, 4, .inr (.inl (fun _ => 0)))), (du, .inr (6, [.ref dug, .int 0])), (dug, .inl (3, 4, .inr (.inl (fun _ => 0)))), (re, .inr (9, [.int 0, .int 0, .int 0])), (wm, .inr (13, [.int 0, .ref (g.2.2 4), .int 0])), (ac, .inr (13, [.int 0, .ref (g.2.2 4), .int 0]))]) rfl ?_
                          refine r_vret d_Ip_init_136 rfl ?_
                          exact ⟨pa, pa1, pa2, pa3, ta, ta1, ta2, taz, taz1, taz2, taz3, taz4, taz5, taz6, ta4, ta5, ta6, sa, sa1, sa2, saz, saz1, saz2, saz3, saz4, saz5, saz6, sa4, sa5, sa6, gs, co, co1, co2, co3, fu, fub, fubg, fut1, fut2, fut3, la, lab, labg, gy, gyg, du, dug, re, wm, ac, rfl, rfl⟩
end
section
theorem y_ofM {g : zG} {M : zM} {args : List Value} {w : zW} {Ψ : zO → zW → Prop} {mc ms : Nat} (hp : plainName M.1.cls = true) (hh : M.2.2.2.2.2.2 = []) (hn : (lg_sl args).length ≤ M.2.2.1) (k : DW g M Ψ w 0 (lv_args 0 args) [] mc ms) : z_Met g M args w Ψ mc ms := by
  intro l ws sz hlt hR
  refine vx_ofW (cc := M.2.1) (maxL := M.2.2.1) (ret := M.2.2.2.1) (ws' := z_gw) hp (by rw [z_ws, z_cd, if_pos hh]) ?_
  intro p e s m a below meth c s₁ B hml hx hv
  obtain ⟨rfl, hsz, hP, hD0, hE⟩ := hv
  subst hsz
  have hts := atoms_spec (ws := z_ws M) B.pre
  have hA : ∀ q, s.heap.size ≤ q → va_A ws s.heap.size q := fun q h => Or.inr h
  have hl := lv_entry args hn
  rw [lg_entry_eq]
  refine k p l e (z_rm M mc ms) s m args.toArray below meth c (va_A ws s.heap.size) mc ms s.heap [] 0 0 _ ws ⟨⟨B.exec, B.bytes, hml, findClass_of_methodNamed B.named, fun w h => hts w (List.mem_cons_of_mem _ h)⟩, ⟨hlt, hE, hA⟩, ⟨Nat.le_refl _, Nat.le_refl _, Nat.le_refl _, Nat.le_refl _⟩, ⟨B.returns, B.notSynchronized, ?_, (name_of_methodNamed B.named B.method).1⟩⟩ ⟨hP, hD0.self, va_S.rf, hR, hl, by omega, by omega⟩
  rw [hh]
  cases h : c.exceptionTable.toList with
  | nil => rfl
  | cons z zs => exact (hx z (by rw [h]; exact List.mem_cons_self)).elim
def CP (g : zG) (M : zM) (args : List Value) (cs : zC) (P : zW → Prop) (Φ : zO → zC → Prop) (mc ms : Nat) : Prop := ∀ w, z_I w w cs.length cs → P w → z_Met g M args w (z_PF Φ w cs.length) mc ms
theorem CP.at {g : zG} {M : zM} {args : List Value} {cs : zC} {P : zW → Prop} {Φ : zO → zC → Prop} {mc ms : Nat} {w : zW} (h : CP g M args cs P Φ mc ms) (hI : z_I w w cs.length cs) (hP : P w) : zMB g M args w (z_PF Φ w cs.length) mc ms := ⟨mc, ms, Nat.le_refl _, Nat.le_refl _, h w hI hP⟩
theorem y_go {g : zG} {M : zM} {Ψ : zO → zW → Prop} {w0 w : zW} {n pc : Nat} {lv : List (Nat × Value)} {st : List Value} {cs : zC} {kc ks : Nat} (hI : z_I w0 w n cs) (k : DU g M Ψ w0 n pc lv st cs kc ks) : DW g M Ψ w pc lv st kc ks := fun p l e R s m args below meth c A mc ms H locs cells slots ls ws C T => k w p l e R s m args below meth c A mc ms H locs cells slots ls ws hI C T
theorem z_I.kd {w : zW} {cs : zC} (h : ∀ p ∈ cs, w p.1 = some p.2) (hn : (cs.map (fun p => z_kd p.2)).Nodup) : z_I w w cs.length cs := by
  refine ⟨h, fun _ _ => rfl, ?_, fun p hp => ?_, Nat.le_refl _⟩
  · refine List.pairwise_iff_getElem.mpr fun i j hi hj hij e => ?_
    rw [List.length_map] at hi hj
    rw [List.getElem_map, List.getElem_map] at e
    have h1 := h _ (List.getElem_mem hi)
    have h2 := h _ (List.getElem_mem hj)
    rw [e, h2] at h1
    have h3 := List.pairwise_iff_getElem.mp hn i j (by simpa using hi) (by simpa using hj) hij
    rw [List.getElem_map, List.getElem_map] at h3
    exact h3 (congrArg z_kd (Option.some.inj h1)).symm
  · rw [List.drop_of_length_le (Nat.le_refl _)] at hp
    cases hp
theorem z_I.mk {w : zW} {cs : zC} (h : ∀ p ∈ cs, w p.1 = some p.2) (hn : (cs.map Prod.fst).Nodup) : z_I w w cs.length cs := by
  refine ⟨h, fun _ _ => rfl, hn, fun p hp => ?_, Nat.le_refl _⟩
  rw [List.drop_of_length_le (Nat.le_refl _)] at hp
  cases hp
def z_obs (w : zW) (m : Nat) (f : Nat → Option Nat) (sp : Nat) : Prop := ∀ i, i < m → ∀ y, f (sp + i) = some y → ∃ ek, w y = some ek ∧ z_ob ek
theorem z_ob5 {ek : zE} (h : z_ob ek) : (z_kd ek).1 = 1 ∨ (z_kd ek).2.1 < 5 := by
  match ek, h with
  | .inl a, h => exact Or.inr h.1
  | .inr o, h => exact Or.inl rfl
section
variable {g : zG} {M : zM} {Ψ : zO → zW → Prop} {w0 : zW} {n pc : Nat} {lv lv' : List (Nat × Value)} {st : List Value} {cs cs' : zC} {kc ks : Nat}
set_option maxHeartbeats 1000000 in
theorem yp_callS {M2 : zM} {idx nA : Nat} {As rest st0 : List Value} {csC : zC} {is : List Nat} {Φ2 : zO → zC → Prop} {mc2 ms2 : Nat} (hl : Cond.methodLink M.1.cls idx M2.1 ∈ z_gw) (hm2 : Cond.static M2.1 ∈ z_gw) (ho : z_ok M M2 nA) (hd : decode M.2.1 pc = .ok (.invokestatic idx, 3)) (hM : ∀ w, z_I w0 w n cs → z_I w w csC.length csC → z_Met g M2 As w (z_PF Φ2 w csC.length) mc2 ms2) (hA : As.length = nA) (hst : As.reverse ++ rest = st0) (hr : (rest.map fun v => v.category).sum ≤ 8) (hs : is.map (fun i => cs[i]?) = csC.map some) (hn : is.Nodup) (h1 : mc2 ≤ kc) (h2 : ms2 ≤ ks) (kx : ∀ (E : String) (cs1 : zC), Φ2 (.inr E) cs1 → (cs1.map Prod.fst).take csC.length = csC.map Prod.fst ∧ ∀ w : zW, z_I w0 w n (z_rep cs is cs1 ++ cs1.drop is.length) → Ψ (.inr E) w) (kk : ∀ (v : Option Value) (cs1 : zC), Φ2 (.inl v) cs1 → (cs1.map Prod.fst).take csC.length = csC.map Prod.fst ∧ DU g M Ψ w0 n (pc + 3) lv (v.toList ++ rest) (z_rep cs is cs1 ++ cs1.drop is.length) (kc - mc2) (ks - ms2)) : DU g M Ψ w0 n pc lv st0 cs kc ks := by
  intro w p l e R s m args below meth c A mc ms H locs cells slots ls ws I C T
  subst hst
  obtain ⟨o1, o2, o3, o4, o5, o6⟩ := ho
  have b1 := C.2.2.1.1
  have b2 := C.2.2.1.2.1
  have b3 := C.2.2.1.2.2.1
  have b4 := C.2.2.1.2.2.2
  have b5 := T.2.2.2.2.2.1
  have b6 := T.2.2.2.2.2.2
  have hI : z_I w w csC.length csC := I.sub hs hn
  have hm := hM w I hI l ws H.size C.2.1.1 T.2.2.2.1
  refine y_aft (As := As) I C T o6 hs hn h1 h2 (vx_runS (As := As) ⟨C.1.1, C.1.2.1, C.1.2.2.1, C.1.2.2.2.1, C.1.2.2.2.2⟩ hm (va_cwS nA C.1.2.2.2.2 (z_good (ws := va_wsS M.1.cls idx M2.1 (z_ws M2)) (fun x hx => (List.mem_append.mp hx).elim (fun hx => by simp only [List.mem_cons, List.not_mem_nil, or_false] at hx; rcases hx with rfl | rfl | rfl <;> assumption) (fun hx => z_wsg o1 x hx))) (z_hw o2) rfl rfl o3 ⟨Nat.le_trans o4.1 b1, Nat.le_trans o4.2 b2⟩) ⟨z_blind, fun U hU hW => z_pre C.2.1.2.1 C.2.1.2.2 T.1 T.2.1 T.2.2.1 hU hW⟩ rfl hA T.2.2.2.2.1.1 rfl (lv_room hr) hd ⟨by omega, by omega⟩) rfl kx kk
set_option maxHeartbeats 1000000 in
theorem yp_callV {M2 : zM} {idx nA : Nat} {As rest st0 : List Value} {csC : zC} {is : List Nat} {Φ2 : zO → zC → Prop} {mc2 ms2 : Nat} {q0 a ci : Nat} {fs : List Value} {F : u_T} {N : Nat} (hcl : vwCl[ci]? = some (M2.1.cls, F, N)) (hq : cs[q0]? = some (a, .inr (ci, fs))) (hl : Cond.methodLink M.1.cls idx M2.1 ∈ z_gw) (hm2 : Cond.instanceMethod M2.1 ∈ z_gw) (hm3 : Cond.selects M2.1.cls M2.1 M2.1 ∈ z_gw) (ho : z_ok M M2 nA) (hd : decode M.2.1 pc = .ok (.invokevirtual idx, 3)) (hM : ∀ w, z_I w0 w n cs → z_I w w csC.length csC → z_Met g M2 (.ref a :: As) w (z_PF Φ2 w csC.length) mc2 ms2) (hA : As.length = nA) (hst : As.reverse ++ .ref a :: rest = st0) (hr : (rest.map fun v => v.category).sum ≤ 8) (hs : is.map (fun i => cs[i]?) = csC.map some) (hn : is.Nodup) (h1 : mc2 ≤ kc) (h2 : ms2 ≤ ks) (kx : ∀ (E : String) (cs1 : zC), Φ2 (.inr E) cs1 → (cs1.map Prod.fst).take csC.length = csC.map Prod.fst ∧ ∀ w : zW, z_I w0 w n (z_rep cs is cs1 ++ cs1.drop is.length) → Ψ (.inr E) w) (kk : ∀ (v : Option Value) (cs1 : zC), Φ2 (.inl v) cs1 → (cs1.map Prod.fst).take csC.length = csC.map Prod.fst ∧ DU g M Ψ w0 n (pc + 3) lv (v.toList ++ rest) (z_rep cs is cs1 ++ cs1.drop is.length) (kc - mc2) (ks - ms2)) : DU g M Ψ w0 n pc lv st0 cs kc ks := by
  intro w p l e R s m args below meth c A mc ms H locs cells slots ls ws I C T
  subst hst
  obtain ⟨o1, o2, o3, o4, o5, o6⟩ := ho
  have b1 := C.2.2.1.1
  have b2 := C.2.2.1.2.1
  have b3 := C.2.2.1.2.2.1
  have b4 := C.2.2.1.2.2.2
  have b5 := T.2.2.2.2.2.1
  have b6 := T.2.2.2.2.2.2
  have hI : z_I w w csC.length csC := I.sub hs hn
  have hm := hM w I hI l ws H.size C.2.1.1 T.2.2.2.1
  obtain ⟨q9, hq9⟩ := T.2.2.2.1 a _ (I.at hq)
  refine y_aft (As := As) I C T o6 hs hn h1 h2 (vx_runV (As := As) ⟨C.1.1, C.1.2.1, C.1.2.2.1, C.1.2.2.2.1, C.1.2.2.2.2⟩ hm (cwV (C := M2.1.cls) nA C.1.2.2.2.2 (z_good (ws := wsV M.1.cls idx M2.1.cls M2.1 (z_ws M2)) (fun x hx => (List.mem_append.mp hx).elim (fun hx => by simp only [List.mem_cons, List.not_mem_nil, or_false] at hx; rcases hx with rfl | rfl | rfl | rfl <;> assumption) (fun hx => z_wsg o1 x hx))) (z_hw o2) rfl rfl ⟨rfl, o3⟩ ⟨Nat.le_trans o4.1 b1, Nat.le_trans o4.2 b2⟩) ⟨z_blind, va_recv C.2.1.2.1.1 T.1 hcl hq9, fun U hU hW => z_pre C.2.1.2.1 C.2.1.2.2 T.1 T.2.1 T.2.2.1 hU hW⟩ rfl hA T.2.2.2.2.1.1 rfl (lv_room hr) hd ⟨by omega, by omega⟩) rfl kx kk
set_option maxHeartbeats 1000000 in
theorem yw_callVL {M2 : zM} {idx nA : Nat} {As rest st0 : List Value} {Ψ2 : zW → zO → zW → Prop} {mc2 ms2 : Nat} {a ci : Nat} {F : u_T} {N : Nat} (hcl : vwCl[ci]? = some (M2.1.cls, F, N)) (hq : ∀ w, z_I w0 w n cs → ∃ fs : List Value, w a = some (.inr (ci, fs))) (hl : Cond.methodLink M.1.cls idx M2.1 ∈ z_gw) (hm2 : Cond.instanceMethod M2.1 ∈ z_gw) (hm3 : Cond.selects M2.1.cls M2.1 M2.1 ∈ z_gw) (ho : z_ok M M2 nA) (hd : decode M.2.1 pc = .ok (.invokevirtual idx, 3)) (hM : ∀ w, z_I w0 w n cs → zMB g M2 (.ref a :: As) w (Ψ2 w) mc2 ms2) (hA : As.length = nA) (hst : As.reverse ++ .ref a :: rest = st0) (hr : (rest.map fun v => v.category).sum ≤ 8) (h1 : mc2 ≤ kc) (h2 : ms2 ≤ ks) (kx : ∀ w, z_I w0 w n cs → ∀ (E : String) (w1 : zW), Ψ2 w (.inr E) w1 → Ψ (.inr E) w1) (kk : ∀ w, z_I w0 w n cs → ∀ (v : Option Value) (w1 : zW), Ψ2 w (.inl v) w1 → DW g M Ψ w1 (pc + 3) lv (v.toList ++ rest) (kc - mc2) (ks - ms2)) : DU g M Ψ w0 n pc lv st0 cs kc ks := by
  intro w p l e R s m args below meth c A mc ms H locs cells slots ls ws I C T
  subst hst
  obtain ⟨o1, o2, o3, o4, o5, o6⟩ := ho
  have b1 := C.2.2.1.1
  have b2 := C.2.2.1.2.1
  have b3 := C.2.2.1.2.2.1
  have b4 := C.2.2.1.2.2.2
  have b5 := T.2.2.2.2.2.1
  have b6 := T.2.2.2.2.2.2
  obtain ⟨mc3, ms3, d1, d2, d3⟩ := hM w I
  have hm := d3 l ws H.size C.2.1.1 T.2.2.2.1
  obtain ⟨fs, hfs⟩ := hq w I
  obtain ⟨q9, hq9⟩ := T.2.2.2.1 a _ hfs
  refine yw_aft (As := As) C T o6 d1 d2 h1 h2 (vx_runV (As := As) ⟨C.1.1, C.1.2.1, C.1.2.2.1, C.1.2.2.2.1, C.1.2.2.2.2⟩ hm (cwV (C := M2.1.cls) nA C.1.2.2.2.2 (z_good (ws := wsV M.1.cls idx M2.1.cls M2.1 (z_ws M2)) (fun x hx => (List.mem_append.mp hx).elim (fun hx => by simp only [List.mem_cons, List.not_mem_nil, or_false] at hx; rcases hx with rfl | rfl | rfl | rfl <;> assumption) (fun hx => z_wsg o1 x hx))) (z_hw o2) rfl rfl ⟨rfl, o3⟩ ⟨Nat.le_trans o4.1 b1, Nat.le_trans o4.2 b2⟩) ⟨z_blind, va_recv C.2.1.2.1.1 T.1 hcl hq9, fun U hU hW => z_pre C.2.1.2.1 C.2.1.2.2 T.1 T.2.1 T.2.2.1 hU hW⟩ rfl hA T.2.2.2.2.1.1 rfl (lv_room hr) hd ⟨by omega, by omega⟩) rfl (kx w I) (kk w I)
theorem y_acmp_ne {x y : Nat} {off : Int} {tgt : Nat} (hd : decode M.2.1 pc = .ok (.if_acmp .ne off, 3)) (ht : (pc : Int) + off = (tgt : Int)) (kt : ¬ x = y → DU g M Ψ w0 n tgt lv st cs kc ks) (kf : x = y → DU g M Ψ w0 n (pc + 3) lv st cs kc ks) : DU g M Ψ w0 n pc lv (.ref y :: .ref x :: st) cs kc ks :=
  fun w p l e R s m args below meth c A mc ms H locs cells slots ls ws I C T => lv_acmp_ne (rx := some x) (ry := some y) C.1.1 C.1.2.1 hd ht (fun h => kt (fun e9 => h (congrArg some e9)) w p l e R s m args below meth c A mc ms H locs cells slots ls ws I C T) (fun h => kf (Option.some.inj h) w p l e R s m args below meth c A mc ms H locs cells slots ls ws I C T)
theorem y_ldcM {idx : Nat} (hl : Cond.classLink M.1.cls idx "[Ljava/lang/Object;" ∈ z_gw) (hd : decode M.2.1 pc = .ok (.ldc idx, 2)) (k : DU g M Ψ w0 n (pc + 2) lv (.ref (g.2.2 42) :: st) cs kc ks) : DU g M Ψ w0 n pc lv st cs kc ks := by
  intro w p l e R s m args below meth c A mc ms H locs cells slots ls ws I C T
  exact va_ldcM C.1.1 C.1.2.1 C.1.2.2.2.1 (C.1.2.2.2.2 _ hl) C.2.1.2.1.2.2.2.2.2.2.2.2.2.2.2.2.1 hd (k w p l e R s m args below meth c A mc ms H locs cells slots ls ws I C T)
theorem y_getC {q0 a N idx : Nat} {f : Nat → Option Nat} (hl : Cond.methodLink M.1.cls idx ⟨"java/lang/Object", "getClass", "()Ljava/lang/Class;"⟩ ∈ z_gw) (h2 : Cond.declares ⟨"java/lang/Object", "getClass", "()Ljava/lang/Class;"⟩ ∈ z_nw) (h3 : Cond.selects "[Ljava/lang/Object;" ⟨"java/lang/Object", "getClass", "()Ljava/lang/Class;"⟩ ⟨"java/lang/Object", "getClass", "()Ljava/lang/Class;"⟩ ∈ z_gw) (h4 : Cond.instanceMethod ⟨"java/lang/Object", "getClass", "()Ljava/lang/Class;"⟩ ∈ z_gw) (h5 : Cond.native ⟨"java/lang/Object", "getClass", "()Ljava/lang/Class;"⟩ ∈ z_gw) (hd : decode M.2.1 pc = .ok (.invokevirtual idx, 3)) (hc : cs[q0]? = some (a, .inl (5, N, .inr (.inr (.inr (.inr f)))))) (hF : 1 ≤ M.2.2.2.2.1) (hL : 40 ≤ M.2.2.2.2.2.1) (hr : (st.map fun v => v.category).sum ≤ 8) (k : DU g M Ψ w0 n (pc + 3) lv (.ref (g.2.2 42) :: st) cs kc ks) : DU g M Ψ w0 n pc lv (.ref a :: st) cs kc ks := by
  intro w p l e R s m args below meth c A mc ms H locs cells slots ls ws I C T
  have b1 := C.2.2.1.1
  have b2 := C.2.2.1.2.1
  obtain ⟨q, hq⟩ := T.2.2.2.1 a _ (I.at hc)
  exact va_getC C.1.1 C.1.2.1 (C.1.2.2.1.trans T.2.2.2.2.1.1.symm) C.1.2.2.2.1 (C.1.2.2.2.2 _ hl) ((C.2.1.2.1.2.2.2.1 _ h2).use rfl) (C.1.2.2.2.2 _ h3) (C.1.2.2.2.2 _ h4) (C.1.2.2.2.2 _ h5) C.2.1.2.1.2.2.2.2.2.2.2.2.2.2.2.2.1 ⟨_, T.1 q _ hq, rfl, va_nmO (C.2.1.2.1.1.2 5 (g.2.1 5, .object "java/lang/Object") rfl).2 rfl⟩ (by omega) (by omega) hd (k w p l e R s m args below meth c A mc ms H locs cells slots ls ws I C T)
theorem y_aastN {q0 a N : Nat} {f f' : Nat → Option Nat} {i : Int32} (hd : decode M.2.1 pc = .ok (.aastore, 1)) (hc : cs[q0]? = some (a, .inl (5, N, .inr (.inr (.inr (.inr f)))))) (hin : vp_in i N) (hf : va_up f i.toNatClampNeg none = f') (hcs : cs.set q0 (a, .inl (5, N, .inr (.inr (.inr (.inr f'))))) = cs') (k : DU g M Ψ w0 n (pc + 1) lv st cs' kc ks) : DU g M Ψ w0 n pc lv (.null :: .int i :: .ref a :: st) cs kc ks := by
  intro w p l e R s m args below meth c A mc ms H locs cells slots ls ws I C T
  subst hcs
  subst hf
  obtain ⟨q, hq⟩ := T.2.2.2.1 a _ (I.at hc)
  exact va_astqN C.1.1 C.1.2.1 C.2.1.2.1.1 T.1 T.2.1 T.2.2.1 q 5 hq rfl hin hd (fun H1 locs1 a1 a2 a3 => k _ p l e R s m args below meth c A mc ms H1 locs1 cells slots ls _ (I.set hc) C ⟨a1, a2, a3, T.2.2.2.1.set (e := .inl (5, N, .inr (.inr (.inr (.inr (va_up f i.toNatClampNeg none)))))) T.2.1 hq, T.2.2.2.2⟩)
theorem y_copyq {q0 q1 a0 a N0 N1 j : Nat} {f g' f' : Nat → Option Nat} {sp dp x : Int32} (hl : Cond.methodLink M.1.cls j arraycopyName ∈ z_gw) (w1 : Cond.native arraycopyName ∈ z_gw) (w2 : Cond.static arraycopyName ∈ z_gw) (w3 : Cond.initialized "java/lang/System" ∈ z_gw) (hd : decode M.2.1 pc = .ok (.invokestatic j, 3)) (hc0 : cs[q0]? = some (a0, .inl (5, N0, .inr (.inr (.inr (.inr f)))))) (hc1 : cs[q1]? = some (a, .inl (5, N1, .inr (.inr (.inr (.inr g')))))) (h1 : ¬ sp < 0) (h2 : ¬ dp < 0) (h3 : ¬ x < 0) (h4 : sp.toNatClampNeg + x.toNatClampNeg ≤ N0) (h5 : dp.toNatClampNeg + x.toNatClampNeg ≤ N1) (hel : ∀ w, z_I w0 w n cs → z_obs w x.toNatClampNeg f sp.toNatClampNeg) (hf : va_cpy f g' sp.toNatClampNeg dp.toNatClampNeg x.toNatClampNeg = f') (hcs : cs.set q1 (a, .inl (5, N1, .inr (.inr (.inr (.inr f'))))) = cs') (hF : 1 ≤ M.2.2.2.2.1) (hL : 8 + (nativeFrameWords "java/lang/System" "arraycopy" 5 + 11) ≤ M.2.2.2.2.2.1) (hr : (st.map fun v => v.category).sum ≤ 8) (k : DU g M Ψ w0 n (pc + 3) lv st cs' kc ks) : DU g M Ψ w0 n pc lv (.int x :: .int dp :: .ref a :: .int sp :: .ref a0 :: st) cs kc ks := by
  intro w p l e R s m9 args below meth c A mc ms H locs cells slots ls ws I C T
  subst hcs
  subst hf
  obtain ⟨q, hq⟩ := T.2.2.2.1 a0 _ (I.at hc0)
  obtain ⟨q2, hq2⟩ := T.2.2.2.1 a _ (I.at hc1)
  have b1 := C.2.2.1.1
  have b2 := C.2.2.1.2.1
  refine va_copyM C.1.1 C.1.2.1 (C.1.2.2.1.trans T.2.2.2.2.1.1.symm) C.1.2.2.2.1 (C.1.2.2.2.2 _ hl) (C.1.2.2.2.2 _ w1) (C.1.2.2.2.2 _ w2) (C.1.2.2.2.2 _ w3) C.2.1.2.1.1 T.1 T.2.1 T.2.2.1 q q2 5 5 hq hq2 rfl rfl h1 h2 h3 h4 h5 (fun i hi y hy => ?_) (by omega) (by omega) hd (fun H1 locs1 a1 a2 a3 => ?_)
  · obtain ⟨ek, e1, e2⟩ := hel w I i hi y hy
    exact zy_any C.2.1.2.1.1 C.2.1.2.1.2.2.2.1 T.1 T.2.2.2.1 e1 e2
  · exact k _ p l e R s m9 args below meth c A mc ms H1 locs1 cells slots ls _ (I.set hc1) C ⟨a1, a2, a3, T.2.2.2.1.set (e := .inl (5, N1, .inr (.inr (.inr (.inr (va_cpy f g' sp.toNatClampNeg dp.toNatClampNeg x.toNatClampNeg)))))) T.2.1 hq2, T.2.2.2.2⟩
end
theorem IVf.st2 {ad : Nat → Nat} {t t2 : zTT} {w w1 : zW} (h : IVf ad t w) {is L2 : List Nat} {cs1 : zC} {m : Nat} (h1 : z_I w w1 m cs1) (ha : (cs1.map Prod.fst).take m = is.map ad ++ L2) (hk : KDs ad t2 is cs1) (hb : ∀ i ∈ is, i < 71) (hn : ∀ q ∈ L2, z_nf ad q) (hs : ∀ i, i < 71 → i ∉ is → t2.1 i = t.1 i) : IVf ad t2 w1 := by
  refine ⟨h.1, fun i hi => ?_⟩
  by_cases hm : i ∈ is
  · obtain ⟨j, hj⟩ := List.getElem?_of_mem hm
    have e1 : ((cs1.map Prod.fst).take m)[j]? = some (ad i) := by
      rw [ha, List.getElem?_append_left (by rw [List.length_map]; exact (List.getElem?_eq_some_iff.mp hj).1), List.getElem?_map, hj]; rfl
    have hjm : j < m := by
      have := (List.getElem?_eq_some_iff.mp e1).1
      rw [List.length_take] at this
      omega
    rw [List.getElem?_take_of_lt hjm, List.getElem?_map] at e1
    cases hx : cs1[j]? with
    | none => rw [hx] at e1; cases e1
    | some x =>
      rw [hx] at e1
      have e2 : x.1 = ad i := Option.some.inj e1
      exact ⟨x.2, by rw [← e2]; exact h1.at hx, KDs.at is cs1 j i x hk hj hx⟩
  · obtain ⟨e, he, hd⟩ := h.2 i hi
    refine ⟨e, h1.ke ha (ad i) e (fun hq => ?_) he, hd.cg i _ hi (hs i hi hm)⟩
    rcases List.mem_append.mp hq with hq | hq
    · obtain ⟨j, hj, e9⟩ := List.mem_map.mp hq
      exact hm (h.1 j i (hb j hj) hi e9 ▸ hj)
    · exact hn _ hq i hi rfl
theorem IV.gen0 {g : zG} {ad : Nat → Nat} {t t2 : zTT} {u : zNN} {w w1 : zW} (h : IV g ad t u w) {is L2 : List Nat} {cs1 : zC} {m : Nat} (h1 : z_I w w1 m cs1) (ha : (cs1.map Prod.fst).take m = is.map ad ++ L2) (hk : KDs ad t2 is cs1) (hb : ∀ i ∈ is, i < 71) (hl : ∀ i ∈ is, i ∉ z_lx) (hn : ∀ q ∈ L2, z_nf ad q) (hs : ∀ i, i < 71 → i ∉ is → t2.1 i = t.1 i) (ht : tOK t → tOK t2) (hE : ∀ L, L < 7 → ∀ k, k < u.1 L → EL ad L w1 (u.2.2 L k) (t2.2 L k)) (hB : ∀ (q N : Nat) (f : Nat → Option Nat), z_nf ad q → w q = some (.inl (5, N, .inr (.inr (.inr (.inr f))))) → w1 q = some (.inl (5, N, .inr (.inr (.inr (.inr f)))))) : IV g ad t2 u w1 := by
  have hke := h1.ke ha
  refine ⟨h.1.st2 h1 ha hk hb hn hs, ⟨fun L hL => ?_, hE, h.2.1.2.2⟩, ht h.2.2⟩
  have hx : z_lx.getD L 0 < 71 ∧ z_lx.getD L 0 ∈ z_lx := (show ∀ L, L < 7 → z_lx.getD L 0 < 71 ∧ z_lx.getD L 0 ∈ z_lx by decide) L hL
  obtain ⟨md, dd, e1, e2⟩ := h.2.1.1 L hL
  have e1' : w1 (ad (z_lx.getD L 0)) = some (.inr (13, [.int md, .ref dd, .int (nI (u.1 L))])) := hke _ _ (fun h9 => by
    rcases List.mem_append.mp h9 with h9 | h9
    · obtain ⟨j, hj, e9⟩ := List.mem_map.mp h9
      have := h.1.1 j _ (hb j hj) hx.1 e9
      exact hl j hj (this ▸ hx.2)
    · exact hn _ h9 _ hx.1 rfl) e1
  refine ⟨md, dd, e1', ?_⟩
  rcases e2 with e2 | ⟨e2, N, f, e3, e4, e5, e6⟩
  · exact Or.inl e2
  · exact Or.inr ⟨e2, N, f, e3, e4, hB dd N f (h.1.n5 e5) e5, e6⟩
theorem z_smI {ad : Nat → Nat} {is L2 : List Nat} {w w1 : zW} {a : Nat} (hke : z_ke (fun q => q ∈ is.map ad ++ L2) w w1) (hb : ∀ i ∈ is, i < 71) (he : ∀ q ∈ L2, q = a ∨ ∃ e, w q = some e ∧ w1 q = some e) : ∀ q e, z_nf ad q → ¬ q = a → w q = some e → w1 q = some e := fun q e hq hqa hw => by
  by_cases hm : q ∈ L2
  · rcases he q hm with e9 | ⟨e1, a1, a2⟩
    · exact absurd e9 hqa
    · rw [hw] at a1
      cases a1
      exact a2
  · refine hke q e (fun h9 => ?_) hw
    rcases List.mem_append.mp h9 with h9 | h9
    · obtain ⟨j, hj, e9⟩ := List.mem_map.mp h9
      exact hq j (hb j hj) e9
    · exact hm h9
theorem IV.gen {g : zG} {ad : Nat → Nat} {t t2 : zTT} {u : zNN} {w w1 : zW} (h : IV g ad t u w) {is L2 : List Nat} {cs1 : zC} {m : Nat} (h1 : z_I w w1 m cs1) (ha : (cs1.map Prod.fst).take m = is.map ad ++ L2) (hk : KDs ad t2 is cs1) (hb : ∀ i ∈ is, i < 71) (hl : ∀ i ∈ is, i ∉ z_lx) (hn : ∀ q ∈ L2, z_nf ad q) (he : ∀ q ∈ L2, ∃ e, w q = some e ∧ w1 q = some e) (hs : ∀ i, i < 71 → i ∉ is → t2.1 i = t.1 i) (ht : tOK t → tOK t2) (ht2 : t2.2 = t.2) : IV g ad t2 u w1 := by
  have hke := h1.ke ha
  have hsim : ∀ q e, z_nf ad q → w q = some e → w1 q = some e := fun q e hq hw => by
    by_cases hm : q ∈ L2
    · obtain ⟨e1, a1, a2⟩ := he q hm
      rw [hw] at a1
      cases a1
      exact a2
    · refine hke q e (fun h9 => ?_) hw
      rcases List.mem_append.mp h9 with h9 | h9
      · obtain ⟨j, hj, e9⟩ := List.mem_map.mp h9
        exact hq j (hb j hj) e9
      · exact hm h9
  exact h.gen0 h1 ha hk hb hl hn hs ht (fun L hL k hk9 => by rw [ht2]; exact (h.2.1.2.1 L hL k hk9).ke3 (fun q e h0 h2 _ => hsim q e h0 h2)) (fun q N f h0 h2 => hsim q _ h0 h2)
def vup (V : Nat → Nat → zV) (M j : Nat) (v : zV) : Nat → Nat → zV := fun L k => if L = M ∧ k = j then v else V L k
theorem elk_inj : ∀ L, L < 7 → ∀ M, M < 7 → elk L = elk M → L = M := by decide
theorem IV.gen1 {g : zG} {ad : Nat → Nat} {t t2 : zTT} {u : zNN} {w w1 : zW} (h : IV g ad t u w) {M j : Nat} {v2 : zV} (hM : M < 7) (hj : j < u.1 M) (hT : M = 0 ∨ M = 1 ∨ M = 2 ∨ M = 4 ∨ M = 5) {is L2 : List Nat} {cs1 : zC} {m : Nat} (h1 : z_I w w1 m cs1) (ha : (cs1.map Prod.fst).take m = is.map ad ++ L2) (hk : KDs ad t2 is cs1) (hb : ∀ i ∈ is, i < 71) (hl : ∀ i ∈ is, i ∉ z_lx) (hn : ∀ q ∈ L2, z_nf ad q) (he : ∀ q ∈ L2, q = u.2.2 M j ∨ ∃ e, w q = some e ∧ w1 q = some e) (hs : ∀ i, i < 71 → i ∉ is → t2.1 i = t.1 i) (ht : tOK t → tOK t2) (hnew : EL ad M w1 (u.2.2 M j) v2) (ht2 : t2.2 = vup t.2 M j v2) : IV g ad t2 u w1 := by
  have hsim := z_smI (h1.ke ha) hb he
  obtain ⟨ea, hea, hta⟩ := (h.2.1.2.1 M hM j hj).tag
  have nt : ∀ e, w (u.2.2 M j) = some e → z_kd e = elk M := fun e q => by
    rw [hea] at q
    cases q
    exact hta
  refine h.gen0 h1 ha hk hb hl hn hs ht (fun L hL k hk9 => ?_) (fun q N f h0 h2 => hsim q _ h0 (fun e => ?_) h2)
  · rw [ht2]
    by_cases q : L = M ∧ k = j
    · obtain ⟨rfl, rfl⟩ := q
      rw [show vup t.2 L k v2 L k = v2 from if_pos ⟨rfl, rfl⟩]
      exact hnew
    · rw [show vup t.2 M j v2 L k = t.2 L k from if_neg q]
      refine (h.2.1.2.1 L hL k hk9).ke3 (fun q2 e h0 h2 h3 => hsim q2 e h0 (fun e9 => ?_) h2)
      have hkd := nt e (by rw [← e9]; exact h2)
      rcases h3 with h3 | h3 | h3 | h3
      · obtain ⟨eb, heb, htb⟩ := (h.2.1.2.1 L hL k hk9).tag
        rw [← h3, h2] at heb
        cases heb
        have hLM : L = M := elk_inj L hL M hM (htb.symm.trans hkd)
        subst hLM
        exact q ⟨rfl, h.2.1.2.2.1.2 L hL k j hk9 hj (h3.symm.trans e9)⟩
      all_goals
        rw [h3] at hkd
        rcases hT with rfl | rfl | rfl | rfl | rfl <;> exact absurd hkd (by decide)
  · have hkd := nt _ (by rw [← e]; exact h2)
    rcases hT with rfl | rfl | rfl | rfl | rfl
    · exact absurd (show (5 : Nat) = 7 from congrArg (fun p => p.2.1) hkd) (by decide)
    · exact absurd (show (5 : Nat) = 0 from congrArg (fun p => p.2.1) hkd) (by decide)
    · exact absurd (show (5 : Nat) = 0 from congrArg (fun p => p.2.1) hkd) (by decide)
    · exact absurd (show (5 : Nat) = 0 from congrArg (fun p => p.2.1) hkd) (by decide)
    · exact absurd (show (5 : Nat) = 0 from congrArg (fun p => p.2.1) hkd) (by decide)
end
section
def z_obE (w : zW) (m : Nat) (f : Nat → Option Nat) (sp : Nat) : Prop := ∀ i, i < m → ∀ y, f (sp + i) = some y → ∃ ek, w y = some ek ∧ z_ob ek ∧ ¬ z_kd ek = (1, 13, 0)
theorem z_obE.ob {w w1 : zW} {m : Nat} {f : Nat → Option Nat} {sp : Nat} {L : List Nat} (h : z_obE w m f sp) (hk : z_ke (fun q => q ∈ L) w w1) (hL : ∀ q ∈ L, ∃ e, w q = some e ∧ ((z_kd e).1 = 0 ∧ (z_kd e).2.1 = 5 ∨ z_kd e = (1, 13, 0) ∨ w1 q = some e)) : z_obs w1 m f sp := fun i hi y hy => by
  obtain ⟨ek, h1, h2, h3⟩ := h i hi y hy
  refine ⟨ek, ?_, h2⟩
  by_cases hm : y ∈ L
  · obtain ⟨e, a1, a2⟩ := hL y hm
    rw [h1] at a1
    cases a1
    rcases a2 with ⟨b1, b2⟩ | b | b
    · rcases z_ob5 h2 with c | c
      · rw [b1] at c; cases c
      · rw [b2] at c; exact absurd c (by decide)
    · exact absurd b h3
    · exact b
  · exact hk y ek hm h1
theorem nI_prd (k : Nat) : nI (k + 1) - 1 = nI k := by
  rw [← nI_add k 1]
  exact Int32.add_sub_cancel _ _
theorem va_cpy0 {f g : Nat → Option Nat} {a b : Nat} : va_cpy f g a b 0 = g := by
  funext k
  unfold va_cpy
  rw [if_neg (by omega)]
def rmv (f : Nat → Option Nat) (i k : Nat) : Nat → Option Nat := va_up (va_cpy f f (i + 1) i (k - i)) k none
theorem nI_sub {a b : Nat} (h : b ≤ a) : nI a - nI b = nI (a - b) := by
  have e : nI a = nI (a - b) + nI b := by rw [nI_add]; congr 1; omega
  rw [e]
  exact Int32.add_sub_cancel _ _
theorem z_obE.obK {w w1 : zW} {m : Nat} {f : Nat → Option Nat} {sp : Nat} {L : List Nat} (h : z_obE w m f sp) (hk : z_ke (fun q => q ∈ L) w w1) (hL : ∀ q ∈ L, ∃ e, w q = some e ∧ ((z_kd e).1 = 0 ∧ (z_kd e).2.1 = 5 ∨ z_kd e = (1, 13, 0) ∨ w1 q = some e)) : z_obE w1 m f sp := fun i hi y hy => by
  obtain ⟨ek, h1, h2, h3⟩ := h i hi y hy
  refine ⟨ek, ?_, h2, h3⟩
  by_cases hm : y ∈ L
  · obtain ⟨e, a1, a2⟩ := hL y hm
    rw [h1] at a1
    cases a1
    rcases a2 with ⟨b1, b2⟩ | b | b
    · rcases z_ob5 h2 with c | c
      · rw [b1] at c; cases c
      · rw [b2] at c; exact absurd c (by decide)
    · exact absurd b h3
    · exact b
  · exact hk y ek hm h1
abbrev M_ArraysSupport_newLength : zM := (⟨"jdk/internal/util/ArraysSupport", "newLength", "(III)I"⟩, prog_48_method_27_code, 4, (Option.some FieldType.int), 2, 42, [])
theorem d_ArraysSupport_newLength_0 : decode prog_48_method_27_code 0 = .ok (.iload_n 0, 1) := zo_26 (zd_b zq_prog_48_method_27_code_0 0 rfl rfl rfl)
theorem d_ArraysSupport_newLength_1 : decode prog_48_method_27_code 1 = .ok (.iload_n 1, 1) := zo_27 (zd_b zq_prog_48_method_27_code_0 1 rfl rfl rfl)
theorem d_ArraysSupport_newLength_2 : decode prog_48_method_27_code 2 = .ok (.iload_n 2, 1) := zo_28 (zd_b zq_prog_48_method_27_code_0 2 rfl rfl rfl)
theorem d_ArraysSupport_newLength_3 : decode prog_48_method_27_code 3 = .ok (.invokestatic 194, 3) := zo_184 (d := 0) (e := 194) (zd_b zq_prog_48_method_27_code_0 3 rfl rfl rfl) (zd_b zq_prog_48_method_27_code_0 4 rfl rfl rfl) (zd_b zq_prog_48_method_27_code_0 5 rfl rfl rfl)
theorem ln_ArraysSupport_194 : Cond.methodLink "jdk/internal/util/ArraysSupport" 194 Lib.Math.max.name ∈ z_gw := z_mj6 (i := 50) rfl (by decide +kernel)
theorem d_ArraysSupport_newLength_6 : decode prog_48_method_27_code 6 = .ok (.iadd, 1) := zo_96 (zd_b zq_prog_48_method_27_code_0 6 rfl rfl rfl)
theorem d_ArraysSupport_newLength_7 : decode prog_48_method_27_code 7 = .ok (.istore_n 3, 1) := zo_62 (zd_b zq_prog_48_method_27_code_0 7 rfl rfl rfl)
theorem d_ArraysSupport_newLength_8 : decode prog_48_method_27_code 8 = .ok (.iconst 0, 1) := zo_3 (zd_b zq_prog_48_method_27_code_0 8 rfl rfl rfl)
theorem d_ArraysSupport_newLength_9 : decode prog_48_method_27_code 9 = .ok (.iload_n 3, 1) := zo_29 (zd_b zq_prog_48_method_27_code_0 9 rfl rfl rfl)
theorem d_ArraysSupport_newLength_10 : decode prog_48_method_27_code 10 = .ok (.if_icmp .ge 11, 3) := zo_162 (d := 0) (e := 11) (zd_b zq_prog_48_method_27_code_0 10 rfl rfl rfl) (zd_b zq_prog_48_method_27_code_0 11 rfl rfl rfl) (zd_b zq_prog_48_method_27_code_0 12 rfl rfl rfl) (by decide +kernel)
theorem d_ArraysSupport_newLength_13 : decode prog_48_method_27_code 13 = .ok (.iload_n 3, 1) := zo_29 (zd_b zq_prog_48_method_27_code_0 13 rfl rfl rfl)
theorem d_ArraysSupport_newLength_14 : decode prog_48_method_27_code 14 = .ok (.ldc 200, 2) := zo_18 (d := 200) (zd_b zq_prog_48_method_27_code_0 14 rfl rfl rfl) (zd_b zq_prog_48_method_27_code_0 15 rfl rfl rfl)
theorem ct_ArraysSupport_200 : Cond.constant "jdk/internal/util/ArraysSupport" 200 2147483639 ∈ z_gw := z_mj6 (i := 51) rfl (by decide +kernel)
theorem d_ArraysSupport_newLength_16 : decode prog_48_method_27_code 16 = .ok (.if_icmp .gt 5, 3) := zo_163 (d := 0) (e := 5) (zd_b zq_prog_48_method_27_code_0 16 rfl rfl rfl) (zd_b zq_prog_48_method_27_code_0 17 rfl rfl rfl) (zd_b zq_prog_48_method_27_code_0 18 rfl rfl rfl) (by decide +kernel)
theorem d_ArraysSupport_newLength_19 : decode prog_48_method_27_code 19 = .ok (.iload_n 3, 1) := zo_29 (zd_b zq_prog_48_method_27_code_0 19 rfl rfl rfl)
theorem d_ArraysSupport_newLength_20 : decode prog_48_method_27_code 20 = .ok (.ireturn, 1) := zo_172 (zd_b zq_prog_48_method_27_code_0 20 rfl rfl rfl)
set_option maxHeartbeats 4000000 in
set_option maxRecDepth 100000 in
theorem C_As_newLength10 (g : zG)  : CP g M_ArraysSupport_newLength [.int 10, .int 1, .int 5] [] (fun _ => True) (fun o cs1 => o = .inl (some (.int 15)) ∧ cs1 = []) 0 0 := by
  intro w hI hP
  refine y_ofM (by decide) rfl (Nat.le_of_ble_eq_true rfl) (y_base hI ?_)
  refine y_lvE (lv2 := [(0, .int 10), (1, .int 1), (2, .int 5)]) rfl ?_
  refine y_iload_n d_ArraysSupport_newLength_0 rfl 0 rfl ?_
  refine y_iload_n d_ArraysSupport_newLength_1 rfl 1 rfl ?_
  refine y_iload_n d_ArraysSupport_newLength_2 rfl 2 rfl ?_
  refine y_max (v := 5) ln_ArraysSupport_194 w_mmax w_mi w_cmax d_ArraysSupport_newLength_3 (by decide) (by decide) (Nat.le_of_ble_eq_true rfl) (by decide) ?_
  refine y_iadd d_ArraysSupport_newLength_6 (v := 15) (by decide) ?_
  refine y_istore_n (lv' := [(3, .int 15), (0, .int 10), (1, .int 1), (2, .int 5)]) d_ArraysSupport_newLength_7 rfl (by decide) rfl ?_
  refine y_iconst d_ArraysSupport_newLength_8 (v := 0) (by decide) ?_
  refine y_iload_n d_ArraysSupport_newLength_9 rfl 0 rfl ?_
  refine y_icmp_ge (tgt := 21) d_ArraysSupport_newLength_10 (by decide) (fun c_10 => ?_) (fun c_10 => ?_)
  · exact absurd c_10 (by decide)
  · refine y_iload_n d_ArraysSupport_newLength_13 rfl 0 rfl ?_
    refine y_ldc ct_ArraysSupport_200 d_ArraysSupport_newLength_14 ?_
    refine y_icmp_gt (tgt := 21) d_ArraysSupport_newLength_16 (by decide) (fun c_16 => ?_) (fun c_16 => ?_)
    · exact absurd c_16 (by decide)
    · refine y_iload_n d_ArraysSupport_newLength_19 rfl 0 rfl ?_
      refine y_iret d_ArraysSupport_newLength_20 rfl rfl ?_
      exact fun w1 h1 => ⟨_, ⟨rfl, rfl⟩, h1⟩
abbrev M_Arrays_copyOf_1 : zM := (⟨"java/util/Arrays", "copyOf", "([Ljava/lang/Object;ILjava/lang/Class;)[Ljava/lang/Object;"⟩, prog_41_method_120_code, 4, (Option.some (FieldType.array (FieldType.object "java/lang/Object"))), 2, 100, [])
theorem d_Arrays_copyOf_1_0 : decode prog_41_method_120_code 0 = .ok (.aload_n 2, 1) := zo_44 (zd_b zq_prog_41_method_120_code_0 0 rfl rfl rfl)
theorem d_Arrays_copyOf_1_1 : decode prog_41_method_120_code 1 = .ok (.ldc 110, 2) := zo_18 (d := 110) (zd_b zq_prog_41_method_120_code_0 1 rfl rfl rfl) (zd_b zq_prog_41_method_120_code_0 2 rfl rfl rfl)
theorem lk_Arrays_110 : Cond.classLink "java/util/Arrays" 110 "[Ljava/lang/Object;" ∈ z_gw := z_mj6 (i := 86) rfl (by decide +kernel)
theorem d_Arrays_copyOf_1_3 : decode prog_41_method_120_code 3 = .ok (.if_acmp .ne 10, 3) := zo_166 (d := 0) (e := 10) (zd_b zq_prog_41_method_120_code_0 3 rfl rfl rfl) (zd_b zq_prog_41_method_120_code_0 4 rfl rfl rfl) (zd_b zq_prog_41_method_120_code_0 5 rfl rfl rfl) (by decide +kernel)
theorem d_Arrays_copyOf_1_6 : decode prog_41_method_120_code 6 = .ok (.iload_n 1, 1) := zo_27 (zd_b zq_prog_41_method_120_code_0 6 rfl rfl rfl)
theorem d_Arrays_copyOf_1_7 : decode prog_41_method_120_code 7 = .ok (.anewarray 2, 3) := zo_189 (d := 0) (e := 2) (zd_b zq_prog_41_method_120_code_0 7 rfl rfl rfl) (zd_b zq_prog_41_method_120_code_0 8 rfl rfl rfl) (zd_b zq_prog_41_method_120_code_0 9 rfl rfl rfl)
theorem lo_Arrays_2 : Cond.classLink "java/util/Arrays" 2 "java/lang/Object" ∈ z_gw := z_mj6 (i := 88) rfl (by decide +kernel)
theorem d_Arrays_copyOf_1_10 : decode prog_41_method_120_code 10 = .ok (.goto 14, 3) := zo_167 (d := 0) (e := 14) (zd_b zq_prog_41_method_120_code_0 10 rfl rfl rfl) (zd_b zq_prog_41_method_120_code_0 11 rfl rfl rfl) (zd_b zq_prog_41_method_120_code_0 12 rfl rfl rfl) (by decide +kernel)
theorem d_Arrays_copyOf_1_24 : decode prog_41_method_120_code 24 = .ok (.astore_n 3, 1) := zo_78 (zd_b zq_prog_41_method_120_code_0 24 rfl rfl rfl)
theorem d_Arrays_copyOf_1_25 : decode prog_41_method_120_code 25 = .ok (.aload_n 0, 1) := zo_42 (zd_b zq_prog_41_method_120_code_0 25 rfl rfl rfl)
theorem d_Arrays_copyOf_1_26 : decode prog_41_method_120_code 26 = .ok (.iconst 0, 1) := zo_3 (zd_b zq_prog_41_method_120_code_0 26 rfl rfl rfl)
theorem d_Arrays_copyOf_1_27 : decode prog_41_method_120_code 27 = .ok (.aload_n 3, 1) := zo_45 (zd_b zq_prog_41_method_120_code_0 27 rfl rfl rfl)
theorem d_Arrays_copyOf_1_28 : decode prog_41_method_120_code 28 = .ok (.iconst 0, 1) := zo_3 (zd_b zq_prog_41_method_120_code_0 28 rfl rfl rfl)
theorem d_Arrays_copyOf_1_29 : decode prog_41_method_120_code 29 = .ok (.aload_n 0, 1) := zo_42 (zd_b zq_prog_41_method_120_code_0 29 rfl rfl rfl)
theorem d_Arrays_copyOf_1_30 : decode prog_41_method_120_code 30 = .ok (.arraylength, 1) := zo_190 (zd_b zq_prog_41_method_120_code_0 30 rfl rfl rfl)
theorem d_Arrays_copyOf_1_31 : decode prog_41_method_120_code 31 = .ok (.iload_n 1, 1) := zo_27 (zd_b zq_prog_41_method_120_code_0 31 rfl rfl rfl)
theorem d_Arrays_copyOf_1_32 : decode prog_41_method_120_code 32 = .ok (.invokestatic 304, 3) := zo_184 (d := 1) (e := 48) (zd_b zq_prog_41_method_120_code_1 0 rfl rfl rfl) (zd_b zq_prog_41_method_120_code_1 1 rfl rfl rfl) (zd_b zq_prog_41_method_120_code_1 2 rfl rfl rfl)
theorem ln_Arrays_304 : Cond.methodLink "java/util/Arrays" 304 Lib.Math.min.name ∈ z_gw := z_mj6 (i := 89) rfl (by decide +kernel)
theorem d_Arrays_copyOf_1_35 : decode prog_41_method_120_code 35 = .ok (.invokestatic 150, 3) := zo_184 (d := 0) (e := 150) (zd_b zq_prog_41_method_120_code_1 3 rfl rfl rfl) (zd_b zq_prog_41_method_120_code_1 4 rfl rfl rfl) (zd_b zq_prog_41_method_120_code_1 5 rfl rfl rfl)
theorem ln_Arrays_150 : Cond.methodLink "java/util/Arrays" 150 arraycopyName ∈ z_gw := z_mj6 (i := 90) rfl (by decide +kernel)
theorem d_Arrays_copyOf_1_38 : decode prog_41_method_120_code 38 = .ok (.aload_n 3, 1) := zo_45 (zd_b zq_prog_41_method_120_code_1 6 rfl rfl rfl)
theorem d_Arrays_copyOf_1_39 : decode prog_41_method_120_code 39 = .ok (.areturn, 1) := zo_176 (zd_b zq_prog_41_method_120_code_1 7 rfl rfl rfl)
set_option maxHeartbeats 4000000 in
set_option maxRecDepth 100000 in
theorem C_Ar_copyOf3_10 (g : zG) (dd : Nat) (f : Nat → Option Nat) : CP g M_Arrays_copyOf_1 [.ref dd, .int 15, .ref (g.2.2 42)] [(dd, .inl (5, 10, .inr (.inr (.inr (.inr f)))))] (fun w => z_obE w 10 f 0) (fun o cs1 => ∃ q, o = .inl (some (.ref q)) ∧ cs1 = [(dd, .inl (5, 10, .inr (.inr (.inr (.inr f))))), (q, .inl (5, 15, .inr (.inr (.inr (.inr (va_cpy f (fun _ => none) 0 0 10))))))]) 1 15 := by
  intro w hI hP
  refine y_ofM (by decide) rfl (Nat.le_of_ble_eq_true rfl) (y_base hI ?_)
  refine y_lvE (lv2 := [(0, .ref dd), (1, .int 15), (2, .ref (g.2.2 42))]) rfl ?_
  refine y_aload_n d_Arrays_copyOf_1_0 rfl 2 rfl ?_
  refine y_ldcM lk_Arrays_110 d_Arrays_copyOf_1_1 ?_
  refine y_acmp_ne (tgt := 13) d_Arrays_copyOf_1_3 (by decide) (fun c_3 => ?_) (fun c_3 => ?_)
  · exact absurd rfl c_3
  · refine y_iload_n d_Arrays_copyOf_1_6 rfl 1 rfl ?_
    refine y_anewa (N := 15) lo_Arrays_2 d_Arrays_copyOf_1_7 (by decide) (by decide) (by decide) (by omega) (by omega) (fun q => ?_)
    refine y_cs (cs2 := [(dd, .inl (5, 10, .inr (.inr (.inr (.inr f))))), (q, .inl (5, 15, .inr (.inr (.inr (.inr (fun _ => none))))))]) rfl ?_
    refine y_goto (tgt := 24) d_Arrays_copyOf_1_10 (by decide) ?_
    refine y_astore_n (lv' := [(3, .ref q), (0, .ref dd), (1, .int 15), (2, .ref (g.2.2 42))]) d_Arrays_copyOf_1_24 rfl (by decide) rfl ?_
    refine y_aload_n d_Arrays_copyOf_1_25 rfl 1 rfl ?_
    refine y_iconst d_Arrays_copyOf_1_26 (v := 0) (by decide) ?_
    refine y_aload_n d_Arrays_copyOf_1_27 rfl 0 rfl ?_
    refine y_iconst d_Arrays_copyOf_1_28 (v := 0) (by decide) ?_
    refine y_aload_n d_Arrays_copyOf_1_29 rfl 1 rfl ?_
    refine y_alen d_Arrays_copyOf_1_30 (q0 := 0) rfl rfl (v := 10) rfl ?_
    refine y_iload_n d_Arrays_copyOf_1_31 rfl 2 rfl ?_
    refine y_min (v := 10) ln_Arrays_304 w_mmin w_mi w_cmin d_Arrays_copyOf_1_32 (by decide) (by decide) (Nat.le_of_ble_eq_true rfl) (by decide) ?_
    refine y_copyq (f' := va_cpy f (fun _ => none) 0 0 10) (q0 := 0) (q1 := 1) (cs' := [(dd, .inl (5, 10, .inr (.inr (.inr (.inr f))))), (q, .inl (5, 15, .inr (.inr (.inr (.inr (va_cpy f (fun _ => none) 0 0 10))))))]) ln_Arrays_150 w_ac1 w_ac2 w_ac3 d_Arrays_copyOf_1_35 rfl rfl (by decide) (by decide) (by decide) (by decide) (by decide) (fun w9 hC => hP.ob (hC.ke (L := [dd]) rfl) (fun q8 hq8 => by rw [List.mem_singleton.mp hq8]; exact ⟨_, hI.1 _ List.mem_cons_self, Or.inl ⟨rfl, rfl⟩⟩)) rfl rfl (by decide) (by decide +kernel) (Nat.le_of_ble_eq_true rfl) ?_
    refine y_aload_n d_Arrays_copyOf_1_38 rfl 0 rfl ?_
    refine y_aret d_Arrays_copyOf_1_39 rfl (Or.inr ⟨_, rfl⟩) (Or.inr ⟨_, rfl⟩) ?_
    exact fun w1 h1 => ⟨_, ⟨q, rfl, rfl⟩, h1⟩
abbrev M_Arrays_copyOf_0 : zM := (⟨"java/util/Arrays", "copyOf", "([Ljava/lang/Object;I)[Ljava/lang/Object;"⟩, prog_41_method_119_code, 2, (Option.some (FieldType.array (FieldType.object "java/lang/Object"))), 3, 123, [])
theorem d_Arrays_copyOf_0_0 : decode prog_41_method_119_code 0 = .ok (.aload_n 0, 1) := zo_42 (zd_b zq_prog_41_method_119_code_0 0 rfl rfl rfl)
theorem d_Arrays_copyOf_0_1 : decode prog_41_method_119_code 1 = .ok (.iload_n 1, 1) := zo_27 (zd_b zq_prog_41_method_119_code_0 1 rfl rfl rfl)
theorem d_Arrays_copyOf_0_2 : decode prog_41_method_119_code 2 = .ok (.aload_n 0, 1) := zo_42 (zd_b zq_prog_41_method_119_code_0 2 rfl rfl rfl)
theorem d_Arrays_copyOf_0_3 : decode prog_41_method_119_code 3 = .ok (.invokevirtual 86, 3) := zo_182 (d := 0) (e := 86) (zd_b zq_prog_41_method_119_code_0 3 rfl rfl rfl) (zd_b zq_prog_41_method_119_code_0 4 rfl rfl rfl) (zd_b zq_prog_41_method_119_code_0 5 rfl rfl rfl)
theorem ln_Arrays_86 : Cond.methodLink "java/util/Arrays" 86 ⟨"java/lang/Object", "getClass", "()Ljava/lang/Class;"⟩ ∈ z_gw := z_mj6 (i := 58) rfl (by decide +kernel)
theorem w_gc1 : Cond.declares ⟨"java/lang/Object", "getClass", "()Ljava/lang/Class;"⟩ ∈ z_nw := z_mk9 (i := 108) rfl (by decide +kernel)
theorem w_gc2 : Cond.selects "[Ljava/lang/Object;" ⟨"java/lang/Object", "getClass", "()Ljava/lang/Class;"⟩ ⟨"java/lang/Object", "getClass", "()Ljava/lang/Class;"⟩ ∈ z_gw := z_mj9 (i := 107) rfl (by decide +kernel)
theorem w_gc3 : Cond.instanceMethod ⟨"java/lang/Object", "getClass", "()Ljava/lang/Class;"⟩ ∈ z_gw := z_mj6 (i := 59) rfl (by decide +kernel)
theorem w_gc4 : Cond.native ⟨"java/lang/Object", "getClass", "()Ljava/lang/Class;"⟩ ∈ z_gw := z_mj6 (i := 82) rfl (by decide +kernel)
theorem d_Arrays_copyOf_0_6 : decode prog_41_method_119_code 6 = .ok (.invokestatic 300, 3) := zo_184 (d := 1) (e := 44) (zd_b zq_prog_41_method_119_code_0 6 rfl rfl rfl) (zd_b zq_prog_41_method_119_code_0 7 rfl rfl rfl) (zd_b zq_prog_41_method_119_code_0 8 rfl rfl rfl)
theorem ok_Arrays_copyOf_0_Arrays_copyOf_1 : z_ok M_Arrays_copyOf_0 M_Arrays_copyOf_1 3 := ⟨z_mj6 (i := 85) rfl (by decide +kernel), rfl, ⟨by decide +kernel, by decide +kernel, by decide +kernel⟩, ⟨by decide, by decide⟩, z_mj1 (i := 28) rfl (by decide +kernel), rfl⟩
theorem ln_Arrays_300 : Cond.methodLink "java/util/Arrays" 300 M_Arrays_copyOf_1.1 ∈ z_gw := z_mj6 (i := 83) rfl (by decide +kernel)
theorem w_st_Arrays_copyOf_1 : Cond.static M_Arrays_copyOf_1.1 ∈ z_gw := z_mj6 (i := 84) rfl (by decide +kernel)
theorem d_Arrays_copyOf_0_9 : decode prog_41_method_119_code 9 = .ok (.areturn, 1) := zo_176 (zd_b zq_prog_41_method_119_code_0 9 rfl rfl rfl)
set_option maxHeartbeats 4000000 in
set_option maxRecDepth 100000 in
theorem C_Ar_copyOf2_10 (g : zG) (dd : Nat) (f : Nat → Option Nat) : CP g M_Arrays_copyOf_0 [.ref dd, .int 15] [(dd, .inl (5, 10, .inr (.inr (.inr (.inr f)))))] (fun w => z_obE w 10 f 0) (fun o cs1 => ∃ q, o = .inl (some (.ref q)) ∧ cs1 = [(dd, .inl (5, 10, .inr (.inr (.inr (.inr f))))), (q, .inl (5, 15, .inr (.inr (.inr (.inr (va_cpy f (fun _ => none) 0 0 10))))))]) 1 15 := by
  intro w hI hP
  refine y_ofM (by decide) rfl (Nat.le_of_ble_eq_true rfl) (y_base hI ?_)
  refine y_lvE (lv2 := [(0, .ref dd), (1, .int 15)]) rfl ?_
  refine y_aload_n d_Arrays_copyOf_0_0 rfl 0 rfl ?_
  refine y_iload_n d_Arrays_copyOf_0_1 rfl 1 rfl ?_
  refine y_aload_n d_Arrays_copyOf_0_2 rfl 0 rfl ?_
  refine y_getC ln_Arrays_86 w_gc1 w_gc2 w_gc3 w_gc4 d_Arrays_copyOf_0_3 (q0 := 0) rfl (by decide) (by decide) (Nat.le_of_ble_eq_true rfl) ?_
  refine yp_callS (As := [.ref dd, .int 15, .ref (g.2.2 42)]) (rest := []) (csC := [(dd, .inl (5, 10, .inr (.inr (.inr (.inr f)))))]) (is := [0]) ln_Arrays_300 w_st_Arrays_copyOf_1 ok_Arrays_copyOf_0_Arrays_copyOf_1 d_Arrays_copyOf_0_6 ((fun w9 hI9 hC9 => C_Ar_copyOf3_10 g dd f w9 hC9 (by rw [z_I.same hI hI9]; exact hP))) rfl rfl (Nat.le_of_ble_eq_true rfl) rfl (by decide) (by omega) (by omega) (fun E cs1 hx => ?_) (fun v cs1 hx => ?_)
  · obtain ⟨q, e1, -⟩ := hx
    cases e1
  · obtain ⟨q, e1, rfl⟩ := hx
    cases e1
    refine ⟨rfl, ?_⟩
    refine y_st (st2 := [.ref q]) rfl ?_
    refine y_cs (cs2 := [(dd, .inl (5, 10, .inr (.inr (.inr (.inr f))))), (q, .inl (5, 15, .inr (.inr (.inr (.inr (va_cpy f (fun _ => none) 0 0 10))))))]) rfl ?_
    refine y_aret d_Arrays_copyOf_0_9 rfl (Or.inr ⟨_, rfl⟩) (Or.inr ⟨_, rfl⟩) ?_
    exact fun w1 h1 => ⟨_, ⟨q, rfl, rfl⟩, h1⟩
theorem d_AL_grow_1_20 : decode prog_40_method_6_code 20 = .ok (.iload_n 2, 1) := zo_28 (zd_b zq_prog_40_method_6_code_0 20 rfl rfl rfl)
theorem d_AL_grow_1_21 : decode prog_40_method_6_code 21 = .ok (.iload_n 1, 1) := zo_27 (zd_b zq_prog_40_method_6_code_0 21 rfl rfl rfl)
theorem d_AL_grow_1_22 : decode prog_40_method_6_code 22 = .ok (.iload_n 2, 1) := zo_28 (zd_b zq_prog_40_method_6_code_0 22 rfl rfl rfl)
theorem d_AL_grow_1_23 : decode prog_40_method_6_code 23 = .ok (.isub, 1) := zo_100 (zd_b zq_prog_40_method_6_code_0 23 rfl rfl rfl)
theorem d_AL_grow_1_24 : decode prog_40_method_6_code 24 = .ok (.iload_n 2, 1) := zo_28 (zd_b zq_prog_40_method_6_code_0 24 rfl rfl rfl)
theorem d_AL_grow_1_25 : decode prog_40_method_6_code 25 = .ok (.iconst 1, 1) := zo_4 (zd_b zq_prog_40_method_6_code_0 25 rfl rfl rfl)
theorem d_AL_grow_1_26 : decode prog_40_method_6_code 26 = .ok (.ishr, 1) := zo_122 (zd_b zq_prog_40_method_6_code_0 26 rfl rfl rfl)
theorem d_AL_grow_1_27 : decode prog_40_method_6_code 27 = .ok (.invokestatic 73, 3) := zo_184 (d := 0) (e := 73) (zd_b zq_prog_40_method_6_code_0 27 rfl rfl rfl) (zd_b zq_prog_40_method_6_code_0 28 rfl rfl rfl) (zd_b zq_prog_40_method_6_code_0 29 rfl rfl rfl)
theorem ok_AL_grow_1_ArraysSupport_newLength : z_ok M_AL_grow_1 M_ArraysSupport_newLength 3 := ⟨z_mj6 (i := 49) rfl (by decide +kernel), rfl, ⟨by decide +kernel, by decide +kernel, by decide +kernel⟩, ⟨by decide, by decide⟩, z_mj1 (i := 31) rfl (by decide +kernel), rfl⟩
theorem ln_AL_73 : Cond.methodLink "java/util/ArrayList" 73 M_ArraysSupport_newLength.1 ∈ z_gw := z_mj6 (i := 47) rfl (by decide +kernel)
theorem w_st_ArraysSupport_newLength : Cond.static M_ArraysSupport_newLength.1 ∈ z_gw := z_mj6 (i := 48) rfl (by decide +kernel)
theorem d_AL_grow_1_30 : decode prog_40_method_6_code 30 = .ok (.istore_n 3, 1) := zo_62 (zd_b zq_prog_40_method_6_code_0 30 rfl rfl rfl)
theorem d_AL_grow_1_31 : decode prog_40_method_6_code 31 = .ok (.aload_n 0, 1) := zo_42 (zd_b zq_prog_40_method_6_code_0 31 rfl rfl rfl)
theorem d_AL_grow_1_32 : decode prog_40_method_6_code 32 = .ok (.aload_n 0, 1) := zo_42 (zd_b zq_prog_40_method_6_code_1 0 rfl rfl rfl)
theorem d_AL_grow_1_33 : decode prog_40_method_6_code 33 = .ok (.getfield 9, 3) := zo_180 (d := 0) (e := 9) (zd_b zq_prog_40_method_6_code_1 1 rfl rfl rfl) (zd_b zq_prog_40_method_6_code_1 2 rfl rfl rfl) (zd_b zq_prog_40_method_6_code_1 3 rfl rfl rfl)
theorem d_AL_grow_1_36 : decode prog_40_method_6_code 36 = .ok (.iload_n 3, 1) := zo_29 (zd_b zq_prog_40_method_6_code_1 4 rfl rfl rfl)
theorem d_AL_grow_1_37 : decode prog_40_method_6_code 37 = .ok (.invokestatic 66, 3) := zo_184 (d := 0) (e := 66) (zd_b zq_prog_40_method_6_code_1 5 rfl rfl rfl) (zd_b zq_prog_40_method_6_code_1 6 rfl rfl rfl) (zd_b zq_prog_40_method_6_code_1 7 rfl rfl rfl)
theorem ok_AL_grow_1_Arrays_copyOf_0 : z_ok M_AL_grow_1 M_Arrays_copyOf_0 2 := ⟨z_mj6 (i := 57) rfl (by decide +kernel), rfl, ⟨by decide +kernel, by decide +kernel, by decide +kernel⟩, ⟨by decide, by decide⟩, z_mj1 (i := 28) rfl (by decide +kernel), rfl⟩
theorem ln_AL_66 : Cond.methodLink "java/util/ArrayList" 66 M_Arrays_copyOf_0.1 ∈ z_gw := z_mj6 (i := 55) rfl (by decide +kernel)
theorem w_st_Arrays_copyOf_0 : Cond.static M_Arrays_copyOf_0.1 ∈ z_gw := z_mj6 (i := 56) rfl (by decide +kernel)
theorem d_AL_grow_1_40 : decode prog_40_method_6_code 40 = .ok (.dup_x1, 1) := zo_90 (zd_b zq_prog_40_method_6_code_1 8 rfl rfl rfl)
theorem d_AL_grow_1_41 : decode prog_40_method_6_code 41 = .ok (.putfield 9, 3) := zo_181 (d := 0) (e := 9) (zd_b zq_prog_40_method_6_code_1 9 rfl rfl rfl) (zd_b zq_prog_40_method_6_code_1 10 rfl rfl rfl) (zd_b zq_prog_40_method_6_code_1 11 rfl rfl rfl)
theorem d_AL_grow_1_44 : decode prog_40_method_6_code 44 = .ok (.areturn, 1) := zo_176 (zd_b zq_prog_40_method_6_code_1 12 rfl rfl rfl)
set_option maxHeartbeats 4000000 in
set_option maxRecDepth 100000 in
theorem C_AL_growI10 (g : zG) (a dd : Nat) (md : Int32) (f : Nat → Option Nat) : CP g M_AL_grow_1 [.ref a, .int 11] [(a, .inr (13, [.int md, .ref dd, .int 10])), (dd, .inl (5, 10, .inr (.inr (.inr (.inr f)))))] (fun w => z_obE w 10 f 0) (fun o cs1 => ∃ q, o = .inl (some (.ref q)) ∧ cs1 = [(a, .inr (13, [.int md, .ref q, .int 10])), (dd, .inl (5, 10, .inr (.inr (.inr (.inr f))))), (q, .inl (5, 15, .inr (.inr (.inr (.inr (va_cpy f (fun _ => none) 0 0 10))))))]) 1 15 := by
  intro w hI hP
  refine y_ofM (by decide) rfl (Nat.le_of_ble_eq_true rfl) (y_base hI ?_)
  refine y_lvE (lv2 := [(0, .ref a), (1, .int 11)]) rfl ?_
  refine y_aload_n d_AL_grow_1_0 rfl 0 rfl ?_
  refine y_get fs_AL_9 d_AL_grow_1_1 (q0 := 0) rfl rfl ?_
  refine y_alen d_AL_grow_1_4 (q0 := 1) rfl rfl (v := 10) rfl ?_
  refine y_istore_n (lv' := [(2, .int 10), (0, .ref a), (1, .int 11)]) d_AL_grow_1_5 rfl (by decide) rfl ?_
  refine y_iload_n d_AL_grow_1_6 rfl 0 rfl ?_
  refine y_if_gt (tgt := 20) d_AL_grow_1_7 (by decide) (fun c_7 => ?_) (fun c_7 => ?_)
  · refine y_iload_n d_AL_grow_1_20 rfl 0 rfl ?_
    refine y_iload_n d_AL_grow_1_21 rfl 2 rfl ?_
    refine y_iload_n d_AL_grow_1_22 rfl 0 rfl ?_
    refine y_isub d_AL_grow_1_23 (v := 1) rfl ?_
    refine y_iload_n d_AL_grow_1_24 rfl 0 rfl ?_
    refine y_iconst d_AL_grow_1_25 (v := 1) (by decide) ?_
    refine y_ishr d_AL_grow_1_26 (v := 5) (by decide) ?_
    refine yp_callS (As := [.int 10, .int 1, .int 5]) (rest := []) (csC := []) (is := []) ln_AL_73 w_st_ArraysSupport_newLength ok_AL_grow_1_ArraysSupport_newLength d_AL_grow_1_27 ((fun w9 hI9 hC9 => C_As_newLength10 g w9 hC9 trivial)) rfl rfl (Nat.le_of_ble_eq_true rfl) rfl (by decide) (by omega) (by omega) (fun E cs1 hx => ?_) (fun v cs1 hx => ?_)
    · exact absurd hx.1 (by simp)
    · obtain ⟨e1, rfl⟩ := hx
      cases e1
      refine ⟨rfl, ?_⟩
      refine y_st (st2 := [.int 15]) rfl ?_
      refine y_cs (cs2 := [(a, .inr (13, [.int md, .ref dd, .int 10])), (dd, .inl (5, 10, .inr (.inr (.inr (.inr f)))))]) rfl ?_
      refine y_istore_n (lv' := [(3, .int 15), (2, .int 10), (0, .ref a), (1, .int 11)]) d_AL_grow_1_30 rfl (by decide) rfl ?_
      refine y_aload_n d_AL_grow_1_31 rfl 2 rfl ?_
      refine y_aload_n d_AL_grow_1_32 rfl 2 rfl ?_
      refine y_get fs_AL_9 d_AL_grow_1_33 (q0 := 0) rfl rfl ?_
      refine y_iload_n d_AL_grow_1_36 rfl 0 rfl ?_
      refine yp_callS (As := [.ref dd, .int 15]) (rest := [.ref a]) (csC := [(dd, .inl (5, 10, .inr (.inr (.inr (.inr f)))))]) (is := [1]) ln_AL_66 w_st_Arrays_copyOf_0 ok_AL_grow_1_Arrays_copyOf_0 d_AL_grow_1_37 ((fun w9 hI9 hC9 => C_Ar_copyOf2_10 g dd f w9 hC9 (by rw [z_I.same hI hI9]; exact hP))) rfl rfl (Nat.le_of_ble_eq_true rfl) rfl (by decide) (by omega) (by omega) (fun E cs1 hx => ?_) (fun v cs1 hx => ?_)
      · obtain ⟨q, e1, -⟩ := hx
        cases e1
      · obtain ⟨q, e1, rfl⟩ := hx
        cases e1
        refine ⟨rfl, ?_⟩
        refine y_st (st2 := [.ref q, .ref a]) rfl ?_
        refine y_cs (cs2 := [(a, .inr (13, [.int md, .ref dd, .int 10])), (dd, .inl (5, 10, .inr (.inr (.inr (.inr f))))), (q, .inl (5, 15, .inr (.inr (.inr (.inr (va_cpy f (fun _ => none) 0 0 10))))))]) rfl ?_
        refine y_dupx1 d_AL_grow_1_40 rfl rfl ?_
        refine y_put fp_AL_9 d_AL_grow_1_41 (fun h => nomatch h) rfl rfl (q0 := 0) rfl (Nat.le_of_ble_eq_true rfl) (cs' := [(a, .inr (13, [.int md, .ref q, .int 10])), (dd, .inl (5, 10, .inr (.inr (.inr (.inr f))))), (q, .inl (5, 15, .inr (.inr (.inr (.inr (va_cpy f (fun _ => none) 0 0 10))))))]) rfl ?_
        refine y_aret d_AL_grow_1_44 rfl (Or.inr ⟨_, rfl⟩) (Or.inr ⟨_, rfl⟩) ?_
        exact fun w1 h1 => ⟨_, ⟨q, rfl, rfl⟩, h1⟩
  · exact absurd c_7 (by decide)
set_option maxHeartbeats 4000000 in
set_option maxRecDepth 100000 in
theorem C_AL_grow10 (g : zG) (a dd : Nat) (md : Int32) (f : Nat → Option Nat) : CP g M_AL_grow_0 [.ref a] [(a, .inr (13, [.int md, .ref dd, .int 10])), (dd, .inl (5, 10, .inr (.inr (.inr (.inr f)))))] (fun w => z_obE w 10 f 0) (fun o cs1 => ∃ q, o = .inl (some (.ref q)) ∧ cs1 = [(a, .inr (13, [.int md, .ref q, .int 10])), (dd, .inl (5, 10, .inr (.inr (.inr (.inr f))))), (q, .inl (5, 15, .inr (.inr (.inr (.inr (va_cpy f (fun _ => none) 0 0 10))))))]) 1 15 := by
  intro w hI hP
  refine y_ofM (by decide) rfl (Nat.le_of_ble_eq_true rfl) (y_base hI ?_)
  refine y_lvE (lv2 := [(0, .ref a)]) rfl ?_
  refine y_aload_n d_AL_grow_0_0 rfl 0 rfl ?_
  refine y_aload_n d_AL_grow_0_1 rfl 0 rfl ?_
  refine y_get fs_AL_48 d_AL_grow_0_2 (q0 := 0) rfl rfl ?_
  refine y_iconst d_AL_grow_0_5 (v := 1) (by decide) ?_
  refine y_iadd d_AL_grow_0_6 (v := 11) rfl ?_
  refine yp_callV (As := [.int 11]) (rest := []) (csC := [(a, .inr (13, [.int md, .ref dd, .int 10])), (dd, .inl (5, 10, .inr (.inr (.inr (.inr f)))))]) (is := [0, 1]) (q0 := 0) rfl rfl ln_AL_69 w_im_AL_grow_1 w_se_AL_grow_1 ok_AL_grow_0_AL_grow_1 d_AL_grow_0_7 ((fun w9 hI9 hC9 => C_AL_growI10 g a dd md f w9 hC9 (by rw [z_I.same hI hI9]; exact hP))) rfl rfl (Nat.le_of_ble_eq_true rfl) rfl (by decide) (by omega) (by omega) (fun E cs1 hx => ?_) (fun v cs1 hx => ?_)
  · obtain ⟨q, e1, -⟩ := hx
    cases e1
  · obtain ⟨q, e1, rfl⟩ := hx
    cases e1
    refine ⟨rfl, ?_⟩
    refine y_st (st2 := [.ref q]) rfl ?_
    refine y_cs (cs2 := [(a, .inr (13, [.int md, .ref q, .int 10])), (dd, .inl (5, 10, .inr (.inr (.inr (.inr f))))), (q, .inl (5, 15, .inr (.inr (.inr (.inr (va_cpy f (fun _ => none) 0 0 10))))))]) rfl ?_
    refine y_aret d_AL_grow_0_10 rfl (Or.inr ⟨_, rfl⟩) (Or.inr ⟨_, rfl⟩) ?_
    exact fun w1 h1 => ⟨_, ⟨q, rfl, rfl⟩, h1⟩
set_option maxHeartbeats 4000000 in
set_option maxRecDepth 100000 in
theorem C_AL_addAG10 (g : zG) (a v dd : Nat) (md : Int32) (f : Nat → Option Nat) (ek : zE) (ho : z_ob ek) : CP g M_AL_add_1 [.ref a, .ref v, .ref dd, .int 10] [(a, .inr (13, [.int md, .ref dd, .int 10])), (v, ek), (dd, .inl (5, 10, .inr (.inr (.inr (.inr f)))))] (fun w => z_obE w 10 f 0) (fun o cs1 => ∃ q, o = .inl none ∧ cs1 = [(a, .inr (13, [.int md, .ref q, .int 11])), (v, ek), (dd, .inl (5, 10, .inr (.inr (.inr (.inr f))))), (q, .inl (5, 15, .inr (.inr (.inr (.inr (va_up (va_cpy f (fun _ => none) 0 0 10) 10 (some v)))))))]) 1 15 := by
  intro w hI hP
  refine y_ofM (by decide) rfl (Nat.le_of_ble_eq_true rfl) (y_base hI ?_)
  refine y_lvE (lv2 := [(0, .ref a), (1, .ref v), (2, .ref dd), (3, .int 10)]) rfl ?_
  refine y_iload_n d_AL_add_1_0 rfl 3 rfl ?_
  refine y_aload_n d_AL_add_1_1 rfl 2 rfl ?_
  refine y_alen d_AL_add_1_2 (q0 := 2) rfl rfl (v := 10) rfl ?_
  refine y_icmp_ne (tgt := 11) d_AL_add_1_3 (by decide) (fun c_3 => ?_) (fun c_3 => ?_)
  · exact absurd c_3 (by decide)
  · refine y_aload_n d_AL_add_1_6 rfl 0 rfl ?_
    refine yp_callV (As := []) (rest := []) (csC := [(a, .inr (13, [.int md, .ref dd, .int 10])), (dd, .inl (5, 10, .inr (.inr (.inr (.inr f)))))]) (is := [0, 2]) (q0 := 0) rfl rfl ln_AL_129 w_im_AL_grow_0 w_se_AL_grow_0 ok_AL_add_1_AL_grow_0 d_AL_add_1_7 ((fun w9 hI9 hC9 => C_AL_grow10 g a dd md f w9 hC9 (by rw [z_I.same hI hI9]; exact hP))) rfl rfl (Nat.le_of_ble_eq_true rfl) rfl (by decide) (by omega) (by omega) (fun E cs1 hx => ?_) (fun v cs1 hx => ?_)
    · obtain ⟨q, e1, -⟩ := hx
      cases e1
    · obtain ⟨q, e1, rfl⟩ := hx
      cases e1
      refine ⟨rfl, ?_⟩
      refine y_st (st2 := [.ref q]) rfl ?_
      refine y_cs (cs2 := [(a, .inr (13, [.int md, .ref q, .int 10])), (v, ek), (dd, .inl (5, 10, .inr (.inr (.inr (.inr f))))), (q, .inl (5, 15, .inr (.inr (.inr (.inr (va_cpy f (fun _ => none) 0 0 10))))))]) rfl ?_
      refine y_astore_n (lv' := [(2, .ref q), (0, .ref a), (1, .ref v), (3, .int 10)]) d_AL_add_1_10 rfl (by decide) rfl ?_
      refine y_aload_n d_AL_add_1_11 rfl 0 rfl ?_
      refine y_iload_n d_AL_add_1_12 rfl 3 rfl ?_
      refine y_aload_n d_AL_add_1_13 rfl 2 rfl ?_
      refine y_aast d_AL_add_1_14 (q0 := 3) (qk := 1) rfl rfl ho (fun q => q.elim (by decide) (by decide)) (f' := va_up (va_cpy f (fun _ => none) 0 0 10) 10 (some v)) rfl (cs' := [(a, .inr (13, [.int md, .ref q, .int 10])), (v, ek), (dd, .inl (5, 10, .inr (.inr (.inr (.inr f))))), (q, .inl (5, 15, .inr (.inr (.inr (.inr (va_up (va_cpy f (fun _ => none) 0 0 10) 10 (some v)))))))]) rfl ?_
      refine y_aload_n d_AL_add_1_15 rfl 1 rfl ?_
      refine y_iload_n d_AL_add_1_16 rfl 3 rfl ?_
      refine y_iconst d_AL_add_1_17 (v := 1) (by decide) ?_
      refine y_iadd d_AL_add_1_18 (v := 11) rfl ?_
      refine y_put fp_AL_48 d_AL_add_1_19 (fun h => nomatch h) rfl rfl (q0 := 0) rfl (Nat.le_of_ble_eq_true rfl) (cs' := [(a, .inr (13, [.int md, .ref q, .int 11])), (v, ek), (dd, .inl (5, 10, .inr (.inr (.inr (.inr f))))), (q, .inl (5, 15, .inr (.inr (.inr (.inr (va_up (va_cpy f (fun _ => none) 0 0 10) 10 (some v)))))))]) rfl ?_
      refine y_vret d_AL_add_1_22 rfl ?_
      exact fun w1 h1 => ⟨_, ⟨q, rfl, rfl⟩, h1⟩
set_option maxHeartbeats 4000000 in
set_option maxRecDepth 100000 in
theorem C_AL_addG10 (g : zG) (a v dd : Nat) (md : Int32) (f : Nat → Option Nat) (ek : zE) (ho : z_ob ek) : CP g M_AL_add_0 [.ref a, .ref v] [(a, .inr (13, [.int md, .ref dd, .int 10])), (v, ek), (dd, .inl (5, 10, .inr (.inr (.inr (.inr f)))))] (fun w => z_obE w 10 f 0) (fun o cs1 => ∃ q, o = .inl (some (.int 1)) ∧ cs1 = [(a, .inr (13, [.int (md + 1), .ref q, .int 11])), (v, ek), (dd, .inl (5, 10, .inr (.inr (.inr (.inr f))))), (q, .inl (5, 15, .inr (.inr (.inr (.inr (va_up (va_cpy f (fun _ => none) 0 0 10) 10 (some v)))))))]) 1 15 := by
  intro w hI hP
  refine y_ofM (by decide) rfl (Nat.le_of_ble_eq_true rfl) (y_base hI ?_)
  refine y_lvE (lv2 := [(0, .ref a), (1, .ref v)]) rfl ?_
  refine y_aload_n d_AL_add_0_0 rfl 0 rfl ?_
  refine y_dup d_AL_add_0_1 rfl ?_
  refine y_get fs_AL_63 d_AL_add_0_2 (q0 := 0) rfl rfl ?_
  refine y_iconst d_AL_add_0_5 (v := 1) (by decide) ?_
  refine y_iadd d_AL_add_0_6 (v := md + 1) rfl ?_
  refine y_put fp_AL_63 d_AL_add_0_7 (fun h => nomatch h) rfl rfl (q0 := 0) rfl (Nat.le_of_ble_eq_true rfl) (cs' := [(a, .inr (13, [.int (md + 1), .ref dd, .int 10])), (v, ek), (dd, .inl (5, 10, .inr (.inr (.inr (.inr f)))))]) rfl ?_
  refine y_aload_n d_AL_add_0_10 rfl 0 rfl ?_
  refine y_aload_n d_AL_add_0_11 rfl 1 rfl ?_
  refine y_aload_n d_AL_add_0_12 rfl 0 rfl ?_
  refine y_get fs_AL_9 d_AL_add_0_13 (q0 := 0) rfl rfl ?_
  refine y_aload_n d_AL_add_0_16 rfl 0 rfl ?_
  refine y_get fs_AL_48 d_AL_add_0_17 (q0 := 0) rfl rfl ?_
  refine yp_callV (As := [.ref v, .ref dd, .int 10]) (rest := []) (csC := [(a, .inr (13, [.int (md + 1), .ref dd, .int 10])), (v, ek), (dd, .inl (5, 10, .inr (.inr (.inr (.inr f)))))]) (is := [0, 1, 2]) (q0 := 0) rfl rfl ln_AL_131 w_im_AL_add_1 w_se_AL_add_1 ok_AL_add_0_AL_add_1 d_AL_add_0_20 ((fun w9 hI9 hC9 => C_AL_addAG10 g a v dd (md + 1) f ek ho w9 hC9 (hP.obK (hI9.ke (L := [a, v, dd]) rfl) (fun q8 hq8 => by simp only [List.mem_cons, List.not_mem_nil, or_false] at hq8; rcases hq8 with rfl | rfl | rfl; exact ⟨_, hI.1 _ List.mem_cons_self, Or.inr (Or.inl rfl)⟩; exact ⟨_, hI.1 _ (List.mem_cons_of_mem _ List.mem_cons_self), Or.inr (Or.inr (hI9.1 _ (List.mem_cons_of_mem _ List.mem_cons_self)))⟩; exact ⟨_, hI.1 _ (List.mem_cons_of_mem _ (List.mem_cons_of_mem _ List.mem_cons_self)), Or.inl ⟨rfl, rfl⟩⟩)))) rfl rfl (Nat.le_of_ble_eq_true rfl) rfl (by decide) (by omega) (by omega) (fun E cs1 hx => ?_) (fun v cs1 hx => ?_)
  · obtain ⟨q, e1, -⟩ := hx
    cases e1
  · obtain ⟨q, e1, rfl⟩ := hx
    cases e1
    refine ⟨rfl, ?_⟩
    refine y_st (st2 := []) rfl ?_
    refine y_cs (cs2 := [(a, .inr (13, [.int (md + 1), .ref q, .int 11])), (v, ek), (dd, .inl (5, 10, .inr (.inr (.inr (.inr f))))), (q, .inl (5, 15, .inr (.inr (.inr (.inr (va_up (va_cpy f (fun _ => none) 0 0 10) 10 (some v)))))))]) rfl ?_
    refine y_iconst d_AL_add_0_23 (v := 1) (by decide) ?_
    refine y_iret d_AL_add_0_24 rfl rfl ?_
    exact fun w1 h1 => ⟨_, ⟨q, rfl, rfl⟩, h1⟩
set_option maxHeartbeats 4000000 in
set_option maxRecDepth 100000 in
theorem C_As_newLength15 (g : zG)  : CP g M_ArraysSupport_newLength [.int 15, .int 1, .int 7] [] (fun _ => True) (fun o cs1 => o = .inl (some (.int 22)) ∧ cs1 = []) 0 0 := by
  intro w hI hP
  refine y_ofM (by decide) rfl (Nat.le_of_ble_eq_true rfl) (y_base hI ?_)
  refine y_lvE (lv2 := [(0, .int 15), (1, .int 1), (2, .int 7)]) rfl ?_
  refine y_iload_n d_ArraysSupport_newLength_0 rfl 0 rfl ?_
  refine y_iload_n d_ArraysSupport_newLength_1 rfl 1 rfl ?_
  refine y_iload_n d_ArraysSupport_newLength_2 rfl 2 rfl ?_
  refine y_max (v := 7) ln_ArraysSupport_194 w_mmax w_mi w_cmax d_ArraysSupport_newLength_3 (by decide) (by decide) (Nat.le_of_ble_eq_true rfl) (by decide) ?_
  refine y_iadd d_ArraysSupport_newLength_6 (v := 22) (by decide) ?_
  refine y_istore_n (lv' := [(3, .int 22), (0, .int 15), (1, .int 1), (2, .int 7)]) d_ArraysSupport_newLength_7 rfl (by decide) rfl ?_
  refine y_iconst d_ArraysSupport_newLength_8 (v := 0) (by decide) ?_
  refine y_iload_n d_ArraysSupport_newLength_9 rfl 0 rfl ?_
  refine y_icmp_ge (tgt := 21) d_ArraysSupport_newLength_10 (by decide) (fun c_10 => ?_) (fun c_10 => ?_)
  · exact absurd c_10 (by decide)
  · refine y_iload_n d_ArraysSupport_newLength_13 rfl 0 rfl ?_
    refine y_ldc ct_ArraysSupport_200 d_ArraysSupport_newLength_14 ?_
    refine y_icmp_gt (tgt := 21) d_ArraysSupport_newLength_16 (by decide) (fun c_16 => ?_) (fun c_16 => ?_)
    · exact absurd c_16 (by decide)
    · refine y_iload_n d_ArraysSupport_newLength_19 rfl 0 rfl ?_
      refine y_iret d_ArraysSupport_newLength_20 rfl rfl ?_
      exact fun w1 h1 => ⟨_, ⟨rfl, rfl⟩, h1⟩
set_option maxHeartbeats 4000000 in
set_option maxRecDepth 100000 in
theorem C_Ar_copyOf3_15 (g : zG) (dd : Nat) (f : Nat → Option Nat) : CP g M_Arrays_copyOf_1 [.ref dd, .int 22, .ref (g.2.2 42)] [(dd, .inl (5, 15, .inr (.inr (.inr (.inr f)))))] (fun w => z_obE w 15 f 0) (fun o cs1 => ∃ q, o = .inl (some (.ref q)) ∧ cs1 = [(dd, .inl (5, 15, .inr (.inr (.inr (.inr f))))), (q, .inl (5, 22, .inr (.inr (.inr (.inr (va_cpy f (fun _ => none) 0 0 15))))))]) 1 22 := by
  intro w hI hP
  refine y_ofM (by decide) rfl (Nat.le_of_ble_eq_true rfl) (y_base hI ?_)
  refine y_lvE (lv2 := [(0, .ref dd), (1, .int 22), (2, .ref (g.2.2 42))]) rfl ?_
  refine y_aload_n d_Arrays_copyOf_1_0 rfl 2 rfl ?_
  refine y_ldcM lk_Arrays_110 d_Arrays_copyOf_1_1 ?_
  refine y_acmp_ne (tgt := 13) d_Arrays_copyOf_1_3 (by decide) (fun c_3 => ?_) (fun c_3 => ?_)
  · exact absurd rfl c_3
  · refine y_iload_n d_Arrays_copyOf_1_6 rfl 1 rfl ?_
    refine y_anewa (N := 22) lo_Arrays_2 d_Arrays_copyOf_1_7 (by decide) (by decide) (by decide) (by omega) (by omega) (fun q => ?_)
    refine y_cs (cs2 := [(dd, .inl (5, 15, .inr (.inr (.inr (.inr f))))), (q, .inl (5, 22, .inr (.inr (.inr (.inr (fun _ => none))))))]) rfl ?_
    refine y_goto (tgt := 24) d_Arrays_copyOf_1_10 (by decide) ?_
    refine y_astore_n (lv' := [(3, .ref q), (0, .ref dd), (1, .int 22), (2, .ref (g.2.2 42))]) d_Arrays_copyOf_1_24 rfl (by decide) rfl ?_
    refine y_aload_n d_Arrays_copyOf_1_25 rfl 1 rfl ?_
    refine y_iconst d_Arrays_copyOf_1_26 (v := 0) (by decide) ?_
    refine y_aload_n d_Arrays_copyOf_1_27 rfl 0 rfl ?_
    refine y_iconst d_Arrays_copyOf_1_28 (v := 0) (by decide) ?_
    refine y_aload_n d_Arrays_copyOf_1_29 rfl 1 rfl ?_
    refine y_alen d_Arrays_copyOf_1_30 (q0 := 0) rfl rfl (v := 15) rfl ?_
    refine y_iload_n d_Arrays_copyOf_1_31 rfl 2 rfl ?_
    refine y_min (v := 15) ln_Arrays_304 w_mmin w_mi w_cmin d_Arrays_copyOf_1_32 (by decide) (by decide) (Nat.le_of_ble_eq_true rfl) (by decide) ?_
    refine y_copyq (f' := va_cpy f (fun _ => none) 0 0 15) (q0 := 0) (q1 := 1) (cs' := [(dd, .inl (5, 15, .inr (.inr (.inr (.inr f))))), (q, .inl (5, 22, .inr (.inr (.inr (.inr (va_cpy f (fun _ => none) 0 0 15))))))]) ln_Arrays_150 w_ac1 w_ac2 w_ac3 d_Arrays_copyOf_1_35 rfl rfl (by decide) (by decide) (by decide) (by decide) (by decide) (fun w9 hC => hP.ob (hC.ke (L := [dd]) rfl) (fun q8 hq8 => by rw [List.mem_singleton.mp hq8]; exact ⟨_, hI.1 _ List.mem_cons_self, Or.inl ⟨rfl, rfl⟩⟩)) rfl rfl (by decide) (by decide +kernel) (Nat.le_of_ble_eq_true rfl) ?_
    refine y_aload_n d_Arrays_copyOf_1_38 rfl 0 rfl ?_
    refine y_aret d_Arrays_copyOf_1_39 rfl (Or.inr ⟨_, rfl⟩) (Or.inr ⟨_, rfl⟩) ?_
    exact fun w1 h1 => ⟨_, ⟨q, rfl, rfl⟩, h1⟩
set_option maxHeartbeats 4000000 in
set_option maxRecDepth 100000 in
theorem C_Ar_copyOf2_15 (g : zG) (dd : Nat) (f : Nat → Option Nat) : CP g M_Arrays_copyOf_0 [.ref dd, .int 22] [(dd, .inl (5, 15, .inr (.inr (.inr (.inr f)))))] (fun w => z_obE w 15 f 0) (fun o cs1 => ∃ q, o = .inl (some (.ref q)) ∧ cs1 = [(dd, .inl (5, 15, .inr (.inr (.inr (.inr f))))), (q, .inl (5, 22, .inr (.inr (.inr (.inr (va_cpy f (fun _ => none) 0 0 15))))))]) 1 22 := by
  intro w hI hP
  refine y_ofM (by decide) rfl (Nat.le_of_ble_eq_true rfl) (y_base hI ?_)
  refine y_lvE (lv2 := [(0, .ref dd), (1, .int 22)]) rfl ?_
  refine y_aload_n d_Arrays_copyOf_0_0 rfl 0 rfl ?_
  refine y_iload_n d_Arrays_copyOf_0_1 rfl 1 rfl ?_
  refine y_aload_n d_Arrays_copyOf_0_2 rfl 0 rfl ?_
  refine y_getC ln_Arrays_86 w_gc1 w_gc2 w_gc3 w_gc4 d_Arrays_copyOf_0_3 (q0 := 0) rfl (by decide) (by decide) (Nat.le_of_ble_eq_true rfl) ?_
  refine yp_callS (As := [.ref dd, .int 22, .ref (g.2.2 42)]) (rest := []) (csC := [(dd, .inl (5, 15, .inr (.inr (.inr (.inr f)))))]) (is := [0]) ln_Arrays_300 w_st_Arrays_copyOf_1 ok_Arrays_copyOf_0_Arrays_copyOf_1 d_Arrays_copyOf_0_6 ((fun w9 hI9 hC9 => C_Ar_copyOf3_15 g dd f w9 hC9 (by rw [z_I.same hI hI9]; exact hP))) rfl rfl (Nat.le_of_ble_eq_true rfl) rfl (by decide) (by omega) (by omega) (fun E cs1 hx => ?_) (fun v cs1 hx => ?_)
  · obtain ⟨q, e1, -⟩ := hx
    cases e1
  · obtain ⟨q, e1, rfl⟩ := hx
    cases e1
    refine ⟨rfl, ?_⟩
    refine y_st (st2 := [.ref q]) rfl ?_
    refine y_cs (cs2 := [(dd, .inl (5, 15, .inr (.inr (.inr (.inr f))))), (q, .inl (5, 22, .inr (.inr (.inr (.inr (va_cpy f (fun _ => none) 0 0 15))))))]) rfl ?_
    refine y_aret d_Arrays_copyOf_0_9 rfl (Or.inr ⟨_, rfl⟩) (Or.inr ⟨_, rfl⟩) ?_
    exact fun w1 h1 => ⟨_, ⟨q, rfl, rfl⟩, h1⟩
set_option maxHeartbeats 4000000 in
set_option maxRecDepth 100000 in
theorem C_AL_growI15 (g : zG) (a dd : Nat) (md : Int32) (f : Nat → Option Nat) : CP g M_AL_grow_1 [.ref a, .int 16] [(a, .inr (13, [.int md, .ref dd, .int 15])), (dd, .inl (5, 15, .inr (.inr (.inr (.inr f)))))] (fun w => z_obE w 15 f 0) (fun o cs1 => ∃ q, o = .inl (some (.ref q)) ∧ cs1 = [(a, .inr (13, [.int md, .ref q, .int 15])), (dd, .inl (5, 15, .inr (.inr (.inr (.inr f))))), (q, .inl (5, 22, .inr (.inr (.inr (.inr (va_cpy f (fun _ => none) 0 0 15))))))]) 1 22 := by
  intro w hI hP
  refine y_ofM (by decide) rfl (Nat.le_of_ble_eq_true rfl) (y_base hI ?_)
  refine y_lvE (lv2 := [(0, .ref a), (1, .int 16)]) rfl ?_
  refine y_aload_n d_AL_grow_1_0 rfl 0 rfl ?_
  refine y_get fs_AL_9 d_AL_grow_1_1 (q0 := 0) rfl rfl ?_
  refine y_alen d_AL_grow_1_4 (q0 := 1) rfl rfl (v := 15) rfl ?_
  refine y_istore_n (lv' := [(2, .int 15), (0, .ref a), (1, .int 16)]) d_AL_grow_1_5 rfl (by decide) rfl ?_
  refine y_iload_n d_AL_grow_1_6 rfl 0 rfl ?_
  refine y_if_gt (tgt := 20) d_AL_grow_1_7 (by decide) (fun c_7 => ?_) (fun c_7 => ?_)
  · refine y_iload_n d_AL_grow_1_20 rfl 0 rfl ?_
    refine y_iload_n d_AL_grow_1_21 rfl 2 rfl ?_
    refine y_iload_n d_AL_grow_1_22 rfl 0 rfl ?_
    refine y_isub d_AL_grow_1_23 (v := 1) rfl ?_
    refine y_iload_n d_AL_grow_1_24 rfl 0 rfl ?_
    refine y_iconst d_AL_grow_1_25 (v := 1) (by decide) ?_
    refine y_ishr d_AL_grow_1_26 (v := 7) (by decide) ?_
    refine yp_callS (As := [.int 15, .int 1, .int 7]) (rest := []) (csC := []) (is := []) ln_AL_73 w_st_ArraysSupport_newLength ok_AL_grow_1_ArraysSupport_newLength d_AL_grow_1_27 ((fun w9 hI9 hC9 => C_As_newLength15 g w9 hC9 trivial)) rfl rfl (Nat.le_of_ble_eq_true rfl) rfl (by decide) (by omega) (by omega) (fun E cs1 hx => ?_) (fun v cs1 hx => ?_)
    · exact absurd hx.1 (by simp)
    · obtain ⟨e1, rfl⟩ := hx
      cases e1
      refine ⟨rfl, ?_⟩
      refine y_st (st2 := [.int 22]) rfl ?_
      refine y_cs (cs2 := [(a, .inr (13, [.int md, .ref dd, .int 15])), (dd, .inl (5, 15, .inr (.inr (.inr (.inr f)))))]) rfl ?_
      refine y_istore_n (lv' := [(3, .int 22), (2, .int 15), (0, .ref a), (1, .int 16)]) d_AL_grow_1_30 rfl (by decide) rfl ?_
      refine y_aload_n d_AL_grow_1_31 rfl 2 rfl ?_
      refine y_aload_n d_AL_grow_1_32 rfl 2 rfl ?_
      refine y_get fs_AL_9 d_AL_grow_1_33 (q0 := 0) rfl rfl ?_
      refine y_iload_n d_AL_grow_1_36 rfl 0 rfl ?_
      refine yp_callS (As := [.ref dd, .int 22]) (rest := [.ref a]) (csC := [(dd, .inl (5, 15, .inr (.inr (.inr (.inr f)))))]) (is := [1]) ln_AL_66 w_st_Arrays_copyOf_0 ok_AL_grow_1_Arrays_copyOf_0 d_AL_grow_1_37 ((fun w9 hI9 hC9 => C_Ar_copyOf2_15 g dd f w9 hC9 (by rw [z_I.same hI hI9]; exact hP))) rfl rfl (Nat.le_of_ble_eq_true rfl) rfl (by decide) (by omega) (by omega) (fun E cs1 hx => ?_) (fun v cs1 hx => ?_)
      · obtain ⟨q, e1, -⟩ := hx
        cases e1
      · obtain ⟨q, e1, rfl⟩ := hx
        cases e1
        refine ⟨rfl, ?_⟩
        refine y_st (st2 := [.ref q, .ref a]) rfl ?_
        refine y_cs (cs2 := [(a, .inr (13, [.int md, .ref dd, .int 15])), (dd, .inl (5, 15, .inr (.inr (.inr (.inr f))))), (q, .inl (5, 22, .inr (.inr (.inr (.inr (va_cpy f (fun _ => none) 0 0 15))))))]) rfl ?_
        refine y_dupx1 d_AL_grow_1_40 rfl rfl ?_
        refine y_put fp_AL_9 d_AL_grow_1_41 (fun h => nomatch h) rfl rfl (q0 := 0) rfl (Nat.le_of_ble_eq_true rfl) (cs' := [(a, .inr (13, [.int md, .ref q, .int 15])), (dd, .inl (5, 15, .inr (.inr (.inr (.inr f))))), (q, .inl (5, 22, .inr (.inr (.inr (.inr (va_cpy f (fun _ => none) 0 0 15))))))]) rfl ?_
        refine y_aret d_AL_grow_1_44 rfl (Or.inr ⟨_, rfl⟩) (Or.inr ⟨_, rfl⟩) ?_
        exact fun w1 h1 => ⟨_, ⟨q, rfl, rfl⟩, h1⟩
  · exact absurd c_7 (by decide)
set_option maxHeartbeats 4000000 in
set_option maxRecDepth 100000 in
theorem C_AL_grow15 (g : zG) (a dd : Nat) (md : Int32) (f : Nat → Option Nat) : CP g M_AL_grow_0 [.ref a] [(a, .inr (13, [.int md, .ref dd, .int 15])), (dd, .inl (5, 15, .inr (.inr (.inr (.inr f)))))] (fun w => z_obE w 15 f 0) (fun o cs1 => ∃ q, o = .inl (some (.ref q)) ∧ cs1 = [(a, .inr (13, [.int md, .ref q, .int 15])), (dd, .inl (5, 15, .inr (.inr (.inr (.inr f))))), (q, .inl (5, 22, .inr (.inr (.inr (.inr (va_cpy f (fun _ => none) 0 0 15))))))]) 1 22 := by
  intro w hI hP
  refine y_ofM (by decide) rfl (Nat.le_of_ble_eq_true rfl) (y_base hI ?_)
  refine y_lvE (lv2 := [(0, .ref a)]) rfl ?_
  refine y_aload_n d_AL_grow_0_0 rfl 0 rfl ?_
  refine y_aload_n d_AL_grow_0_1 rfl 0 rfl ?_
  refine y_get fs_AL_48 d_AL_grow_0_2 (q0 := 0) rfl rfl ?_
  refine y_iconst d_AL_grow_0_5 (v := 1) (by decide) ?_
  refine y_iadd d_AL_grow_0_6 (v := 16) rfl ?_
  refine yp_callV (As := [.int 16]) (rest := []) (csC := [(a, .inr (13, [.int md, .ref dd, .int 15])), (dd, .inl (5, 15, .inr (.inr (.inr (.inr f)))))]) (is := [0, 1]) (q0 := 0) rfl rfl ln_AL_69 w_im_AL_grow_1 w_se_AL_grow_1 ok_AL_grow_0_AL_grow_1 d_AL_grow_0_7 ((fun w9 hI9 hC9 => C_AL_growI15 g a dd md f w9 hC9 (by rw [z_I.same hI hI9]; exact hP))) rfl rfl (Nat.le_of_ble_eq_true rfl) rfl (by decide) (by omega) (by omega) (fun E cs1 hx => ?_) (fun v cs1 hx => ?_)
  · obtain ⟨q, e1, -⟩ := hx
    cases e1
  · obtain ⟨q, e1, rfl⟩ := hx
    cases e1
    refine ⟨rfl, ?_⟩
    refine y_st (st2 := [.ref q]) rfl ?_
    refine y_cs (cs2 := [(a, .inr (13, [.int md, .ref q, .int 15])), (dd, .inl (5, 15, .inr (.inr (.inr (.inr f))))), (q, .inl (5, 22, .inr (.inr (.inr (.inr (va_cpy f (fun _ => none) 0 0 15))))))]) rfl ?_
    refine y_aret d_AL_grow_0_10 rfl (Or.inr ⟨_, rfl⟩) (Or.inr ⟨_, rfl⟩) ?_
    exact fun w1 h1 => ⟨_, ⟨q, rfl, rfl⟩, h1⟩
set_option maxHeartbeats 4000000 in
set_option maxRecDepth 100000 in
theorem C_AL_addAG15 (g : zG) (a v dd : Nat) (md : Int32) (f : Nat → Option Nat) (ek : zE) (ho : z_ob ek) : CP g M_AL_add_1 [.ref a, .ref v, .ref dd, .int 15] [(a, .inr (13, [.int md, .ref dd, .int 15])), (v, ek), (dd, .inl (5, 15, .inr (.inr (.inr (.inr f)))))] (fun w => z_obE w 15 f 0) (fun o cs1 => ∃ q, o = .inl none ∧ cs1 = [(a, .inr (13, [.int md, .ref q, .int 16])), (v, ek), (dd, .inl (5, 15, .inr (.inr (.inr (.inr f))))), (q, .inl (5, 22, .inr (.inr (.inr (.inr (va_up (va_cpy f (fun _ => none) 0 0 15) 15 (some v)))))))]) 1 22 := by
  intro w hI hP
  refine y_ofM (by decide) rfl (Nat.le_of_ble_eq_true rfl) (y_base hI ?_)
  refine y_lvE (lv2 := [(0, .ref a), (1, .ref v), (2, .ref dd), (3, .int 15)]) rfl ?_
  refine y_iload_n d_AL_add_1_0 rfl 3 rfl ?_
  refine y_aload_n d_AL_add_1_1 rfl 2 rfl ?_
  refine y_alen d_AL_add_1_2 (q0 := 2) rfl rfl (v := 15) rfl ?_
  refine y_icmp_ne (tgt := 11) d_AL_add_1_3 (by decide) (fun c_3 => ?_) (fun c_3 => ?_)
  · exact absurd c_3 (by decide)
  · refine y_aload_n d_AL_add_1_6 rfl 0 rfl ?_
    refine yp_callV (As := []) (rest := []) (csC := [(a, .inr (13, [.int md, .ref dd, .int 15])), (dd, .inl (5, 15, .inr (.inr (.inr (.inr f)))))]) (is := [0, 2]) (q0 := 0) rfl rfl ln_AL_129 w_im_AL_grow_0 w_se_AL_grow_0 ok_AL_add_1_AL_grow_0 d_AL_add_1_7 ((fun w9 hI9 hC9 => C_AL_grow15 g a dd md f w9 hC9 (by rw [z_I.same hI hI9]; exact hP))) rfl rfl (Nat.le_of_ble_eq_true rfl) rfl (by decide) (by omega) (by omega) (fun E cs1 hx => ?_) (fun v cs1 hx => ?_)
    · obtain ⟨q, e1, -⟩ := hx
      cases e1
    · obtain ⟨q, e1, rfl⟩ := hx
      cases e1
      refine ⟨rfl, ?_⟩
      refine y_st (st2 := [.ref q]) rfl ?_
      refine y_cs (cs2 := [(a, .inr (13, [.int md, .ref q, .int 15])), (v, ek), (dd, .inl (5, 15, .inr (.inr (.inr (.inr f))))), (q, .inl (5, 22, .inr (.inr (.inr (.inr (va_cpy f (fun _ => none) 0 0 15))))))]) rfl ?_
      refine y_astore_n (lv' := [(2, .ref q), (0, .ref a), (1, .ref v), (3, .int 15)]) d_AL_add_1_10 rfl (by decide) rfl ?_
      refine y_aload_n d_AL_add_1_11 rfl 0 rfl ?_
      refine y_iload_n d_AL_add_1_12 rfl 3 rfl ?_
      refine y_aload_n d_AL_add_1_13 rfl 2 rfl ?_
      refine y_aast d_AL_add_1_14 (q0 := 3) (qk := 1) rfl rfl ho (fun q => q.elim (by decide) (by decide)) (f' := va_up (va_cpy f (fun _ => none) 0 0 15) 15 (some v)) rfl (cs' := [(a, .inr (13, [.int md, .ref q, .int 15])), (v, ek), (dd, .inl (5, 15, .inr (.inr (.inr (.inr f))))), (q, .inl (5, 22, .inr (.inr (.inr (.inr (va_up (va_cpy f (fun _ => none) 0 0 15) 15 (some v)))))))]) rfl ?_
      refine y_aload_n d_AL_add_1_15 rfl 1 rfl ?_
      refine y_iload_n d_AL_add_1_16 rfl 3 rfl ?_
      refine y_iconst d_AL_add_1_17 (v := 1) (by decide) ?_
      refine y_iadd d_AL_add_1_18 (v := 16) rfl ?_
      refine y_put fp_AL_48 d_AL_add_1_19 (fun h => nomatch h) rfl rfl (q0 := 0) rfl (Nat.le_of_ble_eq_true rfl) (cs' := [(a, .inr (13, [.int md, .ref q, .int 16])), (v, ek), (dd, .inl (5, 15, .inr (.inr (.inr (.inr f))))), (q, .inl (5, 22, .inr (.inr (.inr (.inr (va_up (va_cpy f (fun _ => none) 0 0 15) 15 (some v)))))))]) rfl ?_
      refine y_vret d_AL_add_1_22 rfl ?_
      exact fun w1 h1 => ⟨_, ⟨q, rfl, rfl⟩, h1⟩
set_option maxHeartbeats 4000000 in
set_option maxRecDepth 100000 in
theorem C_AL_addG15 (g : zG) (a v dd : Nat) (md : Int32) (f : Nat → Option Nat) (ek : zE) (ho : z_ob ek) : CP g M_AL_add_0 [.ref a, .ref v] [(a, .inr (13, [.int md, .ref dd, .int 15])), (v, ek), (dd, .inl (5, 15, .inr (.inr (.inr (.inr f)))))] (fun w => z_obE w 15 f 0) (fun o cs1 => ∃ q, o = .inl (some (.int 1)) ∧ cs1 = [(a, .inr (13, [.int (md + 1), .ref q, .int 16])), (v, ek), (dd, .inl (5, 15, .inr (.inr (.inr (.inr f))))), (q, .inl (5, 22, .inr (.inr (.inr (.inr (va_up (va_cpy f (fun _ => none) 0 0 15) 15 (some v)))))))]) 1 22 := by
  intro w hI hP
  refine y_ofM (by decide) rfl (Nat.le_of_ble_eq_true rfl) (y_base hI ?_)
  refine y_lvE (lv2 := [(0, .ref a), (1, .ref v)]) rfl ?_
  refine y_aload_n d_AL_add_0_0 rfl 0 rfl ?_
  refine y_dup d_AL_add_0_1 rfl ?_
  refine y_get fs_AL_63 d_AL_add_0_2 (q0 := 0) rfl rfl ?_
  refine y_iconst d_AL_add_0_5 (v := 1) (by decide) ?_
  refine y_iadd d_AL_add_0_6 (v := md + 1) rfl ?_
  refine y_put fp_AL_63 d_AL_add_0_7 (fun h => nomatch h) rfl rfl (q0 := 0) rfl (Nat.le_of_ble_eq_true rfl) (cs' := [(a, .inr (13, [.int (md + 1), .ref dd, .int 15])), (v, ek), (dd, .inl (5, 15, .inr (.inr (.inr (.inr f)))))]) rfl ?_
  refine y_aload_n d_AL_add_0_10 rfl 0 rfl ?_
  refine y_aload_n d_AL_add_0_11 rfl 1 rfl ?_
  refine y_aload_n d_AL_add_0_12 rfl 0 rfl ?_
  refine y_get fs_AL_9 d_AL_add_0_13 (q0 := 0) rfl rfl ?_
  refine y_aload_n d_AL_add_0_16 rfl 0 rfl ?_
  refine y_get fs_AL_48 d_AL_add_0_17 (q0 := 0) rfl rfl ?_
  refine yp_callV (As := [.ref v, .ref dd, .int 15]) (rest := []) (csC := [(a, .inr (13, [.int (md + 1), .ref dd, .int 15])), (v, ek), (dd, .inl (5, 15, .inr (.inr (.inr (.inr f)))))]) (is := [0, 1, 2]) (q0 := 0) rfl rfl ln_AL_131 w_im_AL_add_1 w_se_AL_add_1 ok_AL_add_0_AL_add_1 d_AL_add_0_20 ((fun w9 hI9 hC9 => C_AL_addAG15 g a v dd (md + 1) f ek ho w9 hC9 (hP.obK (hI9.ke (L := [a, v, dd]) rfl) (fun q8 hq8 => by simp only [List.mem_cons, List.not_mem_nil, or_false] at hq8; rcases hq8 with rfl | rfl | rfl; exact ⟨_, hI.1 _ List.mem_cons_self, Or.inr (Or.inl rfl)⟩; exact ⟨_, hI.1 _ (List.mem_cons_of_mem _ List.mem_cons_self), Or.inr (Or.inr (hI9.1 _ (List.mem_cons_of_mem _ List.mem_cons_self)))⟩; exact ⟨_, hI.1 _ (List.mem_cons_of_mem _ (List.mem_cons_of_mem _ List.mem_cons_self)), Or.inl ⟨rfl, rfl⟩⟩)))) rfl rfl (Nat.le_of_ble_eq_true rfl) rfl (by decide) (by omega) (by omega) (fun E cs1 hx => ?_) (fun v cs1 hx => ?_)
  · obtain ⟨q, e1, -⟩ := hx
    cases e1
  · obtain ⟨q, e1, rfl⟩ := hx
    cases e1
    refine ⟨rfl, ?_⟩
    refine y_st (st2 := []) rfl ?_
    refine y_cs (cs2 := [(a, .inr (13, [.int (md + 1), .ref q, .int 16])), (v, ek), (dd, .inl (5, 15, .inr (.inr (.inr (.inr f))))), (q, .inl (5, 22, .inr (.inr (.inr (.inr (va_up (va_cpy f (fun _ => none) 0 0 15) 15 (some v)))))))]) rfl ?_
    refine y_iconst d_AL_add_0_23 (v := 1) (by decide) ?_
    refine y_iret d_AL_add_0_24 rfl rfl ?_
    exact fun w1 h1 => ⟨_, ⟨q, rfl, rfl⟩, h1⟩
set_option maxHeartbeats 4000000 in
set_option maxRecDepth 100000 in
theorem C_As_newLength22 (g : zG)  : CP g M_ArraysSupport_newLength [.int 22, .int 1, .int 11] [] (fun _ => True) (fun o cs1 => o = .inl (some (.int 33)) ∧ cs1 = []) 0 0 := by
  intro w hI hP
  refine y_ofM (by decide) rfl (Nat.le_of_ble_eq_true rfl) (y_base hI ?_)
  refine y_lvE (lv2 := [(0, .int 22), (1, .int 1), (2, .int 11)]) rfl ?_
  refine y_iload_n d_ArraysSupport_newLength_0 rfl 0 rfl ?_
  refine y_iload_n d_ArraysSupport_newLength_1 rfl 1 rfl ?_
  refine y_iload_n d_ArraysSupport_newLength_2 rfl 2 rfl ?_
  refine y_max (v := 11) ln_ArraysSupport_194 w_mmax w_mi w_cmax d_ArraysSupport_newLength_3 (by decide) (by decide) (Nat.le_of_ble_eq_true rfl) (by decide) ?_
  refine y_iadd d_ArraysSupport_newLength_6 (v := 33) (by decide) ?_
  refine y_istore_n (lv' := [(3, .int 33), (0, .int 22), (1, .int 1), (2, .int 11)]) d_ArraysSupport_newLength_7 rfl (by decide) rfl ?_
  refine y_iconst d_ArraysSupport_newLength_8 (v := 0) (by decide) ?_
  refine y_iload_n d_ArraysSupport_newLength_9 rfl 0 rfl ?_
  refine y_icmp_ge (tgt := 21) d_ArraysSupport_newLength_10 (by decide) (fun c_10 => ?_) (fun c_10 => ?_)
  · exact absurd c_10 (by decide)
  · refine y_iload_n d_ArraysSupport_newLength_13 rfl 0 rfl ?_
    refine y_ldc ct_ArraysSupport_200 d_ArraysSupport_newLength_14 ?_
    refine y_icmp_gt (tgt := 21) d_ArraysSupport_newLength_16 (by decide) (fun c_16 => ?_) (fun c_16 => ?_)
    · exact absurd c_16 (by decide)
    · refine y_iload_n d_ArraysSupport_newLength_19 rfl 0 rfl ?_
      refine y_iret d_ArraysSupport_newLength_20 rfl rfl ?_
      exact fun w1 h1 => ⟨_, ⟨rfl, rfl⟩, h1⟩
set_option maxHeartbeats 4000000 in
set_option maxRecDepth 100000 in
theorem C_Ar_copyOf3_22 (g : zG) (dd : Nat) (f : Nat → Option Nat) : CP g M_Arrays_copyOf_1 [.ref dd, .int 33, .ref (g.2.2 42)] [(dd, .inl (5, 22, .inr (.inr (.inr (.inr f)))))] (fun w => z_obE w 22 f 0) (fun o cs1 => ∃ q, o = .inl (some (.ref q)) ∧ cs1 = [(dd, .inl (5, 22, .inr (.inr (.inr (.inr f))))), (q, .inl (5, 33, .inr (.inr (.inr (.inr (va_cpy f (fun _ => none) 0 0 22))))))]) 1 33 := by
  intro w hI hP
  refine y_ofM (by decide) rfl (Nat.le_of_ble_eq_true rfl) (y_base hI ?_)
  refine y_lvE (lv2 := [(0, .ref dd), (1, .int 33), (2, .ref (g.2.2 42))]) rfl ?_
  refine y_aload_n d_Arrays_copyOf_1_0 rfl 2 rfl ?_
  refine y_ldcM lk_Arrays_110 d_Arrays_copyOf_1_1 ?_
  refine y_acmp_ne (tgt := 13) d_Arrays_copyOf_1_3 (by decide) (fun c_3 => ?_) (fun c_3 => ?_)
  · exact absurd rfl c_3
  · refine y_iload_n d_Arrays_copyOf_1_6 rfl 1 rfl ?_
    refine y_anewa (N := 33) lo_Arrays_2 d_Arrays_copyOf_1_7 (by decide) (by decide) (by decide) (by omega) (by omega) (fun q => ?_)
    refine y_cs (cs2 := [(dd, .inl (5, 22, .inr (.inr (.inr (.inr f))))), (q, .inl (5, 33, .inr (.inr (.inr (.inr (fun _ => none))))))]) rfl ?_
    refine y_goto (tgt := 24) d_Arrays_copyOf_1_10 (by decide) ?_
    refine y_astore_n (lv' := [(3, .ref q), (0, .ref dd), (1, .int 33), (2, .ref (g.2.2 42))]) d_Arrays_copyOf_1_24 rfl (by decide) rfl ?_
    refine y_aload_n d_Arrays_copyOf_1_25 rfl 1 rfl ?_
    refine y_iconst d_Arrays_copyOf_1_26 (v := 0) (by decide) ?_
    refine y_aload_n d_Arrays_copyOf_1_27 rfl 0 rfl ?_
    refine y_iconst d_Arrays_copyOf_1_28 (v := 0) (by decide) ?_
    refine y_aload_n d_Arrays_copyOf_1_29 rfl 1 rfl ?_
    refine y_alen d_Arrays_copyOf_1_30 (q0 := 0) rfl rfl (v := 22) rfl ?_
    refine y_iload_n d_Arrays_copyOf_1_31 rfl 2 rfl ?_
    refine y_min (v := 22) ln_Arrays_304 w_mmin w_mi w_cmin d_Arrays_copyOf_1_32 (by decide) (by decide) (Nat.le_of_ble_eq_true rfl) (by decide) ?_
    refine y_copyq (f' := va_cpy f (fun _ => none) 0 0 22) (q0 := 0) (q1 := 1) (cs' := [(dd, .inl (5, 22, .inr (.inr (.inr (.inr f))))), (q, .inl (5, 33, .inr (.inr (.inr (.inr (va_cpy f (fun _ => none) 0 0 22))))))]) ln_Arrays_150 w_ac1 w_ac2 w_ac3 d_Arrays_copyOf_1_35 rfl rfl (by decide) (by decide) (by decide) (by decide) (by decide) (fun w9 hC => hP.ob (hC.ke (L := [dd]) rfl) (fun q8 hq8 => by rw [List.mem_singleton.mp hq8]; exact ⟨_, hI.1 _ List.mem_cons_self, Or.inl ⟨rfl, rfl⟩⟩)) rfl rfl (by decide) (by decide +kernel) (Nat.le_of_ble_eq_true rfl) ?_
    refine y_aload_n d_Arrays_copyOf_1_38 rfl 0 rfl ?_
    refine y_aret d_Arrays_copyOf_1_39 rfl (Or.inr ⟨_, rfl⟩) (Or.inr ⟨_, rfl⟩) ?_
    exact fun w1 h1 => ⟨_, ⟨q, rfl, rfl⟩, h1⟩
set_option maxHeartbeats 4000000 in
set_option maxRecDepth 100000 in
theorem C_Ar_copyOf2_22 (g : zG) (dd : Nat) (f : Nat → Option Nat) : CP g M_Arrays_copyOf_0 [.ref dd, .int 33] [(dd, .inl (5, 22, .inr (.inr (.inr (.inr f)))))] (fun w => z_obE w 22 f 0) (fun o cs1 => ∃ q, o = .inl (some (.ref q)) ∧ cs1 = [(dd, .inl (5, 22, .inr (.inr (.inr (.inr f))))), (q, .inl (5, 33, .inr (.inr (.inr (.inr (va_cpy f (fun _ => none) 0 0 22))))))]) 1 33 := by
  intro w hI hP
  refine y_ofM (by decide) rfl (Nat.le_of_ble_eq_true rfl) (y_base hI ?_)
  refine y_lvE (lv2 := [(0, .ref dd), (1, .int 33)]) rfl ?_
  refine y_aload_n d_Arrays_copyOf_0_0 rfl 0 rfl ?_
  refine y_iload_n d_Arrays_copyOf_0_1 rfl 1 rfl ?_
  refine y_aload_n d_Arrays_copyOf_0_2 rfl 0 rfl ?_
  refine y_getC ln_Arrays_86 w_gc1 w_gc2 w_gc3 w_gc4 d_Arrays_copyOf_0_3 (q0 := 0) rfl (by decide) (by decide) (Nat.le_of_ble_eq_true rfl) ?_
  refine yp_callS (As := [.ref dd, .int 33, .ref (g.2.2 42)]) (rest := []) (csC := [(dd, .inl (5, 22, .inr (.inr (.inr (.inr f)))))]) (is := [0]) ln_Arrays_300 w_st_Arrays_copyOf_1 ok_Arrays_copyOf_0_Arrays_copyOf_1 d_Arrays_copyOf_0_6 ((fun w9 hI9 hC9 => C_Ar_copyOf3_22 g dd f w9 hC9 (by rw [z_I.same hI hI9]; exact hP))) rfl rfl (Nat.le_of_ble_eq_true rfl) rfl (by decide) (by omega) (by omega) (fun E cs1 hx => ?_) (fun v cs1 hx => ?_)
  · obtain ⟨q, e1, -⟩ := hx
    cases e1
  · obtain ⟨q, e1, rfl⟩ := hx
    cases e1
    refine ⟨rfl, ?_⟩
    refine y_st (st2 := [.ref q]) rfl ?_
    refine y_cs (cs2 := [(dd, .inl (5, 22, .inr (.inr (.inr (.inr f))))), (q, .inl (5, 33, .inr (.inr (.inr (.inr (va_cpy f (fun _ => none) 0 0 22))))))]) rfl ?_
    refine y_aret d_Arrays_copyOf_0_9 rfl (Or.inr ⟨_, rfl⟩) (Or.inr ⟨_, rfl⟩) ?_
    exact fun w1 h1 => ⟨_, ⟨q, rfl, rfl⟩, h1⟩
set_option maxHeartbeats 4000000 in
set_option maxRecDepth 100000 in
theorem C_AL_growI22 (g : zG) (a dd : Nat) (md : Int32) (f : Nat → Option Nat) : CP g M_AL_grow_1 [.ref a, .int 23] [(a, .inr (13, [.int md, .ref dd, .int 22])), (dd, .inl (5, 22, .inr (.inr (.inr (.inr f)))))] (fun w => z_obE w 22 f 0) (fun o cs1 => ∃ q, o = .inl (some (.ref q)) ∧ cs1 = [(a, .inr (13, [.int md, .ref q, .int 22])), (dd, .inl (5, 22, .inr (.inr (.inr (.inr f))))), (q, .inl (5, 33, .inr (.inr (.inr (.inr (va_cpy f (fun _ => none) 0 0 22))))))]) 1 33 := by
  intro w hI hP
  refine y_ofM (by decide) rfl (Nat.le_of_ble_eq_true rfl) (y_base hI ?_)
  refine y_lvE (lv2 := [(0, .ref a), (1, .int 23)]) rfl ?_
  refine y_aload_n d_AL_grow_1_0 rfl 0 rfl ?_
  refine y_get fs_AL_9 d_AL_grow_1_1 (q0 := 0) rfl rfl ?_
  refine y_alen d_AL_grow_1_4 (q0 := 1) rfl rfl (v := 22) rfl ?_
  refine y_istore_n (lv' := [(2, .int 22), (0, .ref a), (1, .int 23)]) d_AL_grow_1_5 rfl (by decide) rfl ?_
  refine y_iload_n d_AL_grow_1_6 rfl 0 rfl ?_
  refine y_if_gt (tgt := 20) d_AL_grow_1_7 (by decide) (fun c_7 => ?_) (fun c_7 => ?_)
  · refine y_iload_n d_AL_grow_1_20 rfl 0 rfl ?_
    refine y_iload_n d_AL_grow_1_21 rfl 2 rfl ?_
    refine y_iload_n d_AL_grow_1_22 rfl 0 rfl ?_
    refine y_isub d_AL_grow_1_23 (v := 1) rfl ?_
    refine y_iload_n d_AL_grow_1_24 rfl 0 rfl ?_
    refine y_iconst d_AL_grow_1_25 (v := 1) (by decide) ?_
    refine y_ishr d_AL_grow_1_26 (v := 11) (by decide) ?_
    refine yp_callS (As := [.int 22, .int 1, .int 11]) (rest := []) (csC := []) (is := []) ln_AL_73 w_st_ArraysSupport_newLength ok_AL_grow_1_ArraysSupport_newLength d_AL_grow_1_27 ((fun w9 hI9 hC9 => C_As_newLength22 g w9 hC9 trivial)) rfl rfl (Nat.le_of_ble_eq_true rfl) rfl (by decide) (by omega) (by omega) (fun E cs1 hx => ?_) (fun v cs1 hx => ?_)
    · exact absurd hx.1 (by simp)
    · obtain ⟨e1, rfl⟩ := hx
      cases e1
      refine ⟨rfl, ?_⟩
      refine y_st (st2 := [.int 33]) rfl ?_
      refine y_cs (cs2 := [(a, .inr (13, [.int md, .ref dd, .int 22])), (dd, .inl (5, 22, .inr (.inr (.inr (.inr f)))))]) rfl ?_
      refine y_istore_n (lv' := [(3, .int 33), (2, .int 22), (0, .ref a), (1, .int 23)]) d_AL_grow_1_30 rfl (by decide) rfl ?_
      refine y_aload_n d_AL_grow_1_31 rfl 2 rfl ?_
      refine y_aload_n d_AL_grow_1_32 rfl 2 rfl ?_
      refine y_get fs_AL_9 d_AL_grow_1_33 (q0 := 0) rfl rfl ?_
      refine y_iload_n d_AL_grow_1_36 rfl 0 rfl ?_
      refine yp_callS (As := [.ref dd, .int 33]) (rest := [.ref a]) (csC := [(dd, .inl (5, 22, .inr (.inr (.inr (.inr f)))))]) (is := [1]) ln_AL_66 w_st_Arrays_copyOf_0 ok_AL_grow_1_Arrays_copyOf_0 d_AL_grow_1_37 ((fun w9 hI9 hC9 => C_Ar_copyOf2_22 g dd f w9 hC9 (by rw [z_I.same hI hI9]; exact hP))) rfl rfl (Nat.le_of_ble_eq_true rfl) rfl (by decide) (by omega) (by omega) (fun E cs1 hx => ?_) (fun v cs1 hx => ?_)
      · obtain ⟨q, e1, -⟩ := hx
        cases e1
      · obtain ⟨q, e1, rfl⟩ := hx
        cases e1
        refine ⟨rfl, ?_⟩
        refine y_st (st2 := [.ref q, .ref a]) rfl ?_
        refine y_cs (cs2 := [(a, .inr (13, [.int md, .ref dd, .int 22])), (dd, .inl (5, 22, .inr (.inr (.inr (.inr f))))), (q, .inl (5, 33, .inr (.inr (.inr (.inr (va_cpy f (fun _ => none) 0 0 22))))))]) rfl ?_
        refine y_dupx1 d_AL_grow_1_40 rfl rfl ?_
        refine y_put fp_AL_9 d_AL_grow_1_41 (fun h => nomatch h) rfl rfl (q0 := 0) rfl (Nat.le_of_ble_eq_true rfl) (cs' := [(a, .inr (13, [.int md, .ref q, .int 22])), (dd, .inl (5, 22, .inr (.inr (.inr (.inr f))))), (q, .inl (5, 33, .inr (.inr (.inr (.inr (va_cpy f (fun _ => none) 0 0 22))))))]) rfl ?_
        refine y_aret d_AL_grow_1_44 rfl (Or.inr ⟨_, rfl⟩) (Or.inr ⟨_, rfl⟩) ?_
        exact fun w1 h1 => ⟨_, ⟨q, rfl, rfl⟩, h1⟩
  · exact absurd c_7 (by decide)
set_option maxHeartbeats 4000000 in
set_option maxRecDepth 100000 in
theorem C_AL_grow22 (g : zG) (a dd : Nat) (md : Int32) (f : Nat → Option Nat) : CP g M_AL_grow_0 [.ref a] [(a, .inr (13, [.int md, .ref dd, .int 22])), (dd, .inl (5, 22, .inr (.inr (.inr (.inr f)))))] (fun w => z_obE w 22 f 0) (fun o cs1 => ∃ q, o = .inl (some (.ref q)) ∧ cs1 = [(a, .inr (13, [.int md, .ref q, .int 22])), (dd, .inl (5, 22, .inr (.inr (.inr (.inr f))))), (q, .inl (5, 33, .inr (.inr (.inr (.inr (va_cpy f (fun _ => none) 0 0 22))))))]) 1 33 := by
  intro w hI hP
  refine y_ofM (by decide) rfl (Nat.le_of_ble_eq_true rfl) (y_base hI ?_)
  refine y_lvE (lv2 := [(0, .ref a)]) rfl ?_
  refine y_aload_n d_AL_grow_0_0 rfl 0 rfl ?_
  refine y_aload_n d_AL_grow_0_1 rfl 0 rfl ?_
  refine y_get fs_AL_48 d_AL_grow_0_2 (q0 := 0) rfl rfl ?_
  refine y_iconst d_AL_grow_0_5 (v := 1) (by decide) ?_
  refine y_iadd d_AL_grow_0_6 (v := 23) rfl ?_
  refine yp_callV (As := [.int 23]) (rest := []) (csC := [(a, .inr (13, [.int md, .ref dd, .int 22])), (dd, .inl (5, 22, .inr (.inr (.inr (.inr f)))))]) (is := [0, 1]) (q0 := 0) rfl rfl ln_AL_69 w_im_AL_grow_1 w_se_AL_grow_1 ok_AL_grow_0_AL_grow_1 d_AL_grow_0_7 ((fun w9 hI9 hC9 => C_AL_growI22 g a dd md f w9 hC9 (by rw [z_I.same hI hI9]; exact hP))) rfl rfl (Nat.le_of_ble_eq_true rfl) rfl (by decide) (by omega) (by omega) (fun E cs1 hx => ?_) (fun v cs1 hx => ?_)
  · obtain ⟨q, e1, -⟩ := hx
    cases e1
  · obtain ⟨q, e1, rfl⟩ := hx
    cases e1
    refine ⟨rfl, ?_⟩
    refine y_st (st2 := [.ref q]) rfl ?_
    refine y_cs (cs2 := [(a, .inr (13, [.int md, .ref q, .int 22])), (dd, .inl (5, 22, .inr (.inr (.inr (.inr f))))), (q, .inl (5, 33, .inr (.inr (.inr (.inr (va_cpy f (fun _ => none) 0 0 22))))))]) rfl ?_
    refine y_aret d_AL_grow_0_10 rfl (Or.inr ⟨_, rfl⟩) (Or.inr ⟨_, rfl⟩) ?_
    exact fun w1 h1 => ⟨_, ⟨q, rfl, rfl⟩, h1⟩
set_option maxHeartbeats 4000000 in
set_option maxRecDepth 100000 in
theorem C_AL_addAG22 (g : zG) (a v dd : Nat) (md : Int32) (f : Nat → Option Nat) (ek : zE) (ho : z_ob ek) : CP g M_AL_add_1 [.ref a, .ref v, .ref dd, .int 22] [(a, .inr (13, [.int md, .ref dd, .int 22])), (v, ek), (dd, .inl (5, 22, .inr (.inr (.inr (.inr f)))))] (fun w => z_obE w 22 f 0) (fun o cs1 => ∃ q, o = .inl none ∧ cs1 = [(a, .inr (13, [.int md, .ref q, .int 23])), (v, ek), (dd, .inl (5, 22, .inr (.inr (.inr (.inr f))))), (q, .inl (5, 33, .inr (.inr (.inr (.inr (va_up (va_cpy f (fun _ => none) 0 0 22) 22 (some v)))))))]) 1 33 := by
  intro w hI hP
  refine y_ofM (by decide) rfl (Nat.le_of_ble_eq_true rfl) (y_base hI ?_)
  refine y_lvE (lv2 := [(0, .ref a), (1, .ref v), (2, .ref dd), (3, .int 22)]) rfl ?_
  refine y_iload_n d_AL_add_1_0 rfl 3 rfl ?_
  refine y_aload_n d_AL_add_1_1 rfl 2 rfl ?_
  refine y_alen d_AL_add_1_2 (q0 := 2) rfl rfl (v := 22) rfl ?_
  refine y_icmp_ne (tgt := 11) d_AL_add_1_3 (by decide) (fun c_3 => ?_) (fun c_3 => ?_)
  · exact absurd c_3 (by decide)
  · refine y_aload_n d_AL_add_1_6 rfl 0 rfl ?_
    refine yp_callV (As := []) (rest := []) (csC := [(a, .inr (13, [.int md, .ref dd, .int 22])), (dd, .inl (5, 22, .inr (.inr (.inr (.inr f)))))]) (is := [0, 2]) (q0 := 0) rfl rfl ln_AL_129 w_im_AL_grow_0 w_se_AL_grow_0 ok_AL_add_1_AL_grow_0 d_AL_add_1_7 ((fun w9 hI9 hC9 => C_AL_grow22 g a dd md f w9 hC9 (by rw [z_I.same hI hI9]; exact hP))) rfl rfl (Nat.le_of_ble_eq_true rfl) rfl (by decide) (by omega) (by omega) (fun E cs1 hx => ?_) (fun v cs1 hx => ?_)
    · obtain ⟨q, e1, -⟩ := hx
      cases e1
    · obtain ⟨q, e1, rfl⟩ := hx
      cases e1
      refine ⟨rfl, ?_⟩
      refine y_st (st2 := [.ref q]) rfl ?_
      refine y_cs (cs2 := [(a, .inr (13, [.int md, .ref q, .int 22])), (v, ek), (dd, .inl (5, 22, .inr (.inr (.inr (.inr f))))), (q, .inl (5, 33, .inr (.inr (.inr (.inr (va_cpy f (fun _ => none) 0 0 22))))))]) rfl ?_
      refine y_astore_n (lv' := [(2, .ref q), (0, .ref a), (1, .ref v), (3, .int 22)]) d_AL_add_1_10 rfl (by decide) rfl ?_
      refine y_aload_n d_AL_add_1_11 rfl 0 rfl ?_
      refine y_iload_n d_AL_add_1_12 rfl 3 rfl ?_
      refine y_aload_n d_AL_add_1_13 rfl 2 rfl ?_
      refine y_aast d_AL_add_1_14 (q0 := 3) (qk := 1) rfl rfl ho (fun q => q.elim (by decide) (by decide)) (f' := va_up (va_cpy f (fun _ => none) 0 0 22) 22 (some v)) rfl (cs' := [(a, .inr (13, [.int md, .ref q, .int 22])), (v, ek), (dd, .inl (5, 22, .inr (.inr (.inr (.inr f))))), (q, .inl (5, 33, .inr (.inr (.inr (.inr (va_up (va_cpy f (fun _ => none) 0 0 22) 22 (some v)))))))]) rfl ?_
      refine y_aload_n d_AL_add_1_15 rfl 1 rfl ?_
      refine y_iload_n d_AL_add_1_16 rfl 3 rfl ?_
      refine y_iconst d_AL_add_1_17 (v := 1) (by decide) ?_
      refine y_iadd d_AL_add_1_18 (v := 23) rfl ?_
      refine y_put fp_AL_48 d_AL_add_1_19 (fun h => nomatch h) rfl rfl (q0 := 0) rfl (Nat.le_of_ble_eq_true rfl) (cs' := [(a, .inr (13, [.int md, .ref q, .int 23])), (v, ek), (dd, .inl (5, 22, .inr (.inr (.inr (.inr f))))), (q, .inl (5, 33, .inr (.inr (.inr (.inr (va_up (va_cpy f (fun _ => none) 0 0 22) 22 (some v)))))))]) rfl ?_
      refine y_vret d_AL_add_1_22 rfl ?_
      exact fun w1 h1 => ⟨_, ⟨q, rfl, rfl⟩, h1⟩
set_option maxHeartbeats 4000000 in
set_option maxRecDepth 100000 in
theorem C_AL_addG22 (g : zG) (a v dd : Nat) (md : Int32) (f : Nat → Option Nat) (ek : zE) (ho : z_ob ek) : CP g M_AL_add_0 [.ref a, .ref v] [(a, .inr (13, [.int md, .ref dd, .int 22])), (v, ek), (dd, .inl (5, 22, .inr (.inr (.inr (.inr f)))))] (fun w => z_obE w 22 f 0) (fun o cs1 => ∃ q, o = .inl (some (.int 1)) ∧ cs1 = [(a, .inr (13, [.int (md + 1), .ref q, .int 23])), (v, ek), (dd, .inl (5, 22, .inr (.inr (.inr (.inr f))))), (q, .inl (5, 33, .inr (.inr (.inr (.inr (va_up (va_cpy f (fun _ => none) 0 0 22) 22 (some v)))))))]) 1 33 := by
  intro w hI hP
  refine y_ofM (by decide) rfl (Nat.le_of_ble_eq_true rfl) (y_base hI ?_)
  refine y_lvE (lv2 := [(0, .ref a), (1, .ref v)]) rfl ?_
  refine y_aload_n d_AL_add_0_0 rfl 0 rfl ?_
  refine y_dup d_AL_add_0_1 rfl ?_
  refine y_get fs_AL_63 d_AL_add_0_2 (q0 := 0) rfl rfl ?_
  refine y_iconst d_AL_add_0_5 (v := 1) (by decide) ?_
  refine y_iadd d_AL_add_0_6 (v := md + 1) rfl ?_
  refine y_put fp_AL_63 d_AL_add_0_7 (fun h => nomatch h) rfl rfl (q0 := 0) rfl (Nat.le_of_ble_eq_true rfl) (cs' := [(a, .inr (13, [.int (md + 1), .ref dd, .int 22])), (v, ek), (dd, .inl (5, 22, .inr (.inr (.inr (.inr f)))))]) rfl ?_
  refine y_aload_n d_AL_add_0_10 rfl 0 rfl ?_
  refine y_aload_n d_AL_add_0_11 rfl 1 rfl ?_
  refine y_aload_n d_AL_add_0_12 rfl 0 rfl ?_
  refine y_get fs_AL_9 d_AL_add_0_13 (q0 := 0) rfl rfl ?_
  refine y_aload_n d_AL_add_0_16 rfl 0 rfl ?_
  refine y_get fs_AL_48 d_AL_add_0_17 (q0 := 0) rfl rfl ?_
  refine yp_callV (As := [.ref v, .ref dd, .int 22]) (rest := []) (csC := [(a, .inr (13, [.int (md + 1), .ref dd, .int 22])), (v, ek), (dd, .inl (5, 22, .inr (.inr (.inr (.inr f)))))]) (is := [0, 1, 2]) (q0 := 0) rfl rfl ln_AL_131 w_im_AL_add_1 w_se_AL_add_1 ok_AL_add_0_AL_add_1 d_AL_add_0_20 ((fun w9 hI9 hC9 => C_AL_addAG22 g a v dd (md + 1) f ek ho w9 hC9 (hP.obK (hI9.ke (L := [a, v, dd]) rfl) (fun q8 hq8 => by simp only [List.mem_cons, List.not_mem_nil, or_false] at hq8; rcases hq8 with rfl | rfl | rfl; exact ⟨_, hI.1 _ List.mem_cons_self, Or.inr (Or.inl rfl)⟩; exact ⟨_, hI.1 _ (List.mem_cons_of_mem _ List.mem_cons_self), Or.inr (Or.inr (hI9.1 _ (List.mem_cons_of_mem _ List.mem_cons_self)))⟩; exact ⟨_, hI.1 _ (List.mem_cons_of_mem _ (List.mem_cons_of_mem _ List.mem_cons_self)), Or.inl ⟨rfl, rfl⟩⟩)))) rfl rfl (Nat.le_of_ble_eq_true rfl) rfl (by decide) (by omega) (by omega) (fun E cs1 hx => ?_) (fun v cs1 hx => ?_)
  · obtain ⟨q, e1, -⟩ := hx
    cases e1
  · obtain ⟨q, e1, rfl⟩ := hx
    cases e1
    refine ⟨rfl, ?_⟩
    refine y_st (st2 := []) rfl ?_
    refine y_cs (cs2 := [(a, .inr (13, [.int (md + 1), .ref q, .int 23])), (v, ek), (dd, .inl (5, 22, .inr (.inr (.inr (.inr f))))), (q, .inl (5, 33, .inr (.inr (.inr (.inr (va_up (va_cpy f (fun _ => none) 0 0 22) 22 (some v)))))))]) rfl ?_
    refine y_iconst d_AL_add_0_23 (v := 1) (by decide) ?_
    refine y_iret d_AL_add_0_24 rfl rfl ?_
    exact fun w1 h1 => ⟨_, ⟨q, rfl, rfl⟩, h1⟩
abbrev M_AL_fastRemove : zM := (⟨"java/util/ArrayList", "fastRemove", "([Ljava/lang/Object;I)V"⟩, prog_40_method_39_code, 4, (Option.none : Option FieldType), 2, 100, [])
theorem d_AL_fastRemove_0 : decode prog_40_method_39_code 0 = .ok (.aload_n 0, 1) := zo_42 (zd_b zq_prog_40_method_39_code_0 0 rfl rfl rfl)
theorem d_AL_fastRemove_1 : decode prog_40_method_39_code 1 = .ok (.dup, 1) := zo_89 (zd_b zq_prog_40_method_39_code_0 1 rfl rfl rfl)
theorem d_AL_fastRemove_2 : decode prog_40_method_39_code 2 = .ok (.getfield 63, 3) := zo_180 (d := 0) (e := 63) (zd_b zq_prog_40_method_39_code_0 2 rfl rfl rfl) (zd_b zq_prog_40_method_39_code_0 3 rfl rfl rfl) (zd_b zq_prog_40_method_39_code_0 4 rfl rfl rfl)
theorem d_AL_fastRemove_5 : decode prog_40_method_39_code 5 = .ok (.iconst 1, 1) := zo_4 (zd_b zq_prog_40_method_39_code_0 5 rfl rfl rfl)
theorem d_AL_fastRemove_6 : decode prog_40_method_39_code 6 = .ok (.iadd, 1) := zo_96 (zd_b zq_prog_40_method_39_code_0 6 rfl rfl rfl)
theorem d_AL_fastRemove_7 : decode prog_40_method_39_code 7 = .ok (.putfield 63, 3) := zo_181 (d := 0) (e := 63) (zd_b zq_prog_40_method_39_code_0 7 rfl rfl rfl) (zd_b zq_prog_40_method_39_code_0 8 rfl rfl rfl) (zd_b zq_prog_40_method_39_code_0 9 rfl rfl rfl)
theorem d_AL_fastRemove_10 : decode prog_40_method_39_code 10 = .ok (.aload_n 0, 1) := zo_42 (zd_b zq_prog_40_method_39_code_0 10 rfl rfl rfl)
theorem d_AL_fastRemove_11 : decode prog_40_method_39_code 11 = .ok (.getfield 48, 3) := zo_180 (d := 0) (e := 48) (zd_b zq_prog_40_method_39_code_0 11 rfl rfl rfl) (zd_b zq_prog_40_method_39_code_0 12 rfl rfl rfl) (zd_b zq_prog_40_method_39_code_0 13 rfl rfl rfl)
theorem d_AL_fastRemove_14 : decode prog_40_method_39_code 14 = .ok (.iconst 1, 1) := zo_4 (zd_b zq_prog_40_method_39_code_0 14 rfl rfl rfl)
theorem d_AL_fastRemove_15 : decode prog_40_method_39_code 15 = .ok (.isub, 1) := zo_100 (zd_b zq_prog_40_method_39_code_0 15 rfl rfl rfl)
theorem d_AL_fastRemove_16 : decode prog_40_method_39_code 16 = .ok (.dup, 1) := zo_89 (zd_b zq_prog_40_method_39_code_0 16 rfl rfl rfl)
theorem d_AL_fastRemove_17 : decode prog_40_method_39_code 17 = .ok (.istore_n 3, 1) := zo_62 (zd_b zq_prog_40_method_39_code_0 17 rfl rfl rfl)
theorem d_AL_fastRemove_18 : decode prog_40_method_39_code 18 = .ok (.iload_n 2, 1) := zo_28 (zd_b zq_prog_40_method_39_code_0 18 rfl rfl rfl)
theorem d_AL_fastRemove_19 : decode prog_40_method_39_code 19 = .ok (.if_icmp .le 15, 3) := zo_164 (d := 0) (e := 15) (zd_b zq_prog_40_method_39_code_0 19 rfl rfl rfl) (zd_b zq_prog_40_method_39_code_0 20 rfl rfl rfl) (zd_b zq_prog_40_method_39_code_0 21 rfl rfl rfl) (by decide +kernel)
theorem d_AL_fastRemove_34 : decode prog_40_method_39_code 34 = .ok (.aload_n 1, 1) := zo_43 (zd_b zq_prog_40_method_39_code_1 2 rfl rfl rfl)
theorem d_AL_fastRemove_35 : decode prog_40_method_39_code 35 = .ok (.aload_n 0, 1) := zo_42 (zd_b zq_prog_40_method_39_code_1 3 rfl rfl rfl)
theorem d_AL_fastRemove_36 : decode prog_40_method_39_code 36 = .ok (.iload_n 3, 1) := zo_29 (zd_b zq_prog_40_method_39_code_1 4 rfl rfl rfl)
theorem d_AL_fastRemove_37 : decode prog_40_method_39_code 37 = .ok (.dup_x1, 1) := zo_90 (zd_b zq_prog_40_method_39_code_1 5 rfl rfl rfl)
theorem d_AL_fastRemove_38 : decode prog_40_method_39_code 38 = .ok (.putfield 48, 3) := zo_181 (d := 0) (e := 48) (zd_b zq_prog_40_method_39_code_1 6 rfl rfl rfl) (zd_b zq_prog_40_method_39_code_1 7 rfl rfl rfl) (zd_b zq_prog_40_method_39_code_1 8 rfl rfl rfl)
theorem d_AL_fastRemove_41 : decode prog_40_method_39_code 41 = .ok (.aconst_null, 1) := zo_1 (zd_b zq_prog_40_method_39_code_1 9 rfl rfl rfl)
theorem d_AL_fastRemove_42 : decode prog_40_method_39_code 42 = .ok (.aastore, 1) := zo_83 (zd_b zq_prog_40_method_39_code_1 10 rfl rfl rfl)
theorem d_AL_fastRemove_43 : decode prog_40_method_39_code 43 = .ok (.return_, 1) := zo_177 (zd_b zq_prog_40_method_39_code_1 11 rfl rfl rfl)
theorem d_AL_fastRemove_22 : decode prog_40_method_39_code 22 = .ok (.aload_n 1, 1) := zo_43 (zd_b zq_prog_40_method_39_code_0 22 rfl rfl rfl)
theorem d_AL_fastRemove_23 : decode prog_40_method_39_code 23 = .ok (.iload_n 2, 1) := zo_28 (zd_b zq_prog_40_method_39_code_0 23 rfl rfl rfl)
theorem d_AL_fastRemove_24 : decode prog_40_method_39_code 24 = .ok (.iconst 1, 1) := zo_4 (zd_b zq_prog_40_method_39_code_0 24 rfl rfl rfl)
theorem d_AL_fastRemove_25 : decode prog_40_method_39_code 25 = .ok (.iadd, 1) := zo_96 (zd_b zq_prog_40_method_39_code_0 25 rfl rfl rfl)
theorem d_AL_fastRemove_26 : decode prog_40_method_39_code 26 = .ok (.aload_n 1, 1) := zo_43 (zd_b zq_prog_40_method_39_code_0 26 rfl rfl rfl)
theorem d_AL_fastRemove_27 : decode prog_40_method_39_code 27 = .ok (.iload_n 2, 1) := zo_28 (zd_b zq_prog_40_method_39_code_0 27 rfl rfl rfl)
theorem d_AL_fastRemove_28 : decode prog_40_method_39_code 28 = .ok (.iload_n 3, 1) := zo_29 (zd_b zq_prog_40_method_39_code_0 28 rfl rfl rfl)
theorem d_AL_fastRemove_29 : decode prog_40_method_39_code 29 = .ok (.iload_n 2, 1) := zo_28 (zd_b zq_prog_40_method_39_code_0 29 rfl rfl rfl)
theorem d_AL_fastRemove_30 : decode prog_40_method_39_code 30 = .ok (.isub, 1) := zo_100 (zd_b zq_prog_40_method_39_code_0 30 rfl rfl rfl)
theorem d_AL_fastRemove_31 : decode prog_40_method_39_code 31 = .ok (.invokestatic 112, 3) := zo_184 (d := 0) (e := 112) (zd_b zq_prog_40_method_39_code_0 31 rfl rfl rfl) (zd_b zq_prog_40_method_39_code_1 0 rfl rfl rfl) (zd_b zq_prog_40_method_39_code_1 1 rfl rfl rfl)
theorem ln_AL_112 : Cond.methodLink "java/util/ArrayList" 112 arraycopyName ∈ z_gw := z_mj6 (i := 127) rfl (by decide +kernel)
set_option maxHeartbeats 4000000 in
set_option maxRecDepth 100000 in
theorem C_AL_fastRemove (g : zG) (a dd N : Nat) (md : Int32) (f : Nat → Option Nat) (i k : Nat) (hik : i ≤ k) (hkN : k < N) (hN : N < 1000) : CP g M_AL_fastRemove [.ref a, .ref dd, .int (nI i)] [(a, .inr (13, [.int md, .ref dd, .int (nI (k + 1))])), (dd, .inl (5, N, .inr (.inr (.inr (.inr f)))))] (fun w => z_obE w (k - i) f (i + 1)) (fun o cs1 => o = .inl none ∧ cs1 = [(a, .inr (13, [.int (md + 1), .ref dd, .int (nI k)])), (dd, .inl (5, N, .inr (.inr (.inr (.inr (rmv f i k))))))]) 0 0 := by
  intro w hI hP
  refine y_ofM (by decide) rfl (Nat.le_of_ble_eq_true rfl) (y_base hI ?_)
  refine y_lvE (lv2 := [(0, .ref a), (1, .ref dd), (2, .int (nI i))]) rfl ?_
  refine y_aload_n d_AL_fastRemove_0 rfl 0 rfl ?_
  refine y_dup d_AL_fastRemove_1 rfl ?_
  refine y_get fs_AL_63 d_AL_fastRemove_2 (q0 := 0) rfl rfl ?_
  refine y_iconst d_AL_fastRemove_5 (v := 1) (by decide) ?_
  refine y_iadd d_AL_fastRemove_6 (v := md + 1) rfl ?_
  refine y_put fp_AL_63 d_AL_fastRemove_7 (fun h => nomatch h) rfl rfl (q0 := 0) rfl (Nat.le_of_ble_eq_true rfl) (cs' := [(a, .inr (13, [.int (md + 1), .ref dd, .int (nI (k + 1))])), (dd, .inl (5, N, .inr (.inr (.inr (.inr f)))))]) rfl ?_
  refine y_aload_n d_AL_fastRemove_10 rfl 0 rfl ?_
  refine y_get fs_AL_48 d_AL_fastRemove_11 (q0 := 0) rfl rfl ?_
  refine y_iconst d_AL_fastRemove_14 (v := 1) (by decide) ?_
  refine y_isub d_AL_fastRemove_15 (v := nI k) (nI_prd k) ?_
  refine y_dup d_AL_fastRemove_16 rfl ?_
  refine y_istore_n (lv' := [(3, .int (nI k)), (0, .ref a), (1, .ref dd), (2, .int (nI i))]) d_AL_fastRemove_17 rfl (by decide) rfl ?_
  refine y_iload_n d_AL_fastRemove_18 rfl 3 rfl ?_
  refine y_icmp_le (tgt := 34) d_AL_fastRemove_19 (by decide) (fun c_19 => ?_) (fun c_19 => ?_)
  · have hik2 : k - i = 0 := by have := z_le (a := k) (b := i) (by omega) (by omega) c_19; omega
    refine y_aload_n d_AL_fastRemove_34 rfl 2 rfl ?_
    refine y_aload_n d_AL_fastRemove_35 rfl 1 rfl ?_
    refine y_iload_n d_AL_fastRemove_36 rfl 0 rfl ?_
    refine y_dupx1 d_AL_fastRemove_37 rfl rfl ?_
    refine y_put fp_AL_48 d_AL_fastRemove_38 (fun h => nomatch h) rfl rfl (q0 := 0) rfl (Nat.le_of_ble_eq_true rfl) (cs' := [(a, .inr (13, [.int (md + 1), .ref dd, .int (nI k)])), (dd, .inl (5, N, .inr (.inr (.inr (.inr f)))))]) rfl ?_
    refine y_null d_AL_fastRemove_41 ?_
    refine y_aastN d_AL_fastRemove_42 (q0 := 1) rfl (vp_in_nI (by omega) (by omega)) (f' := va_up f k none) (by rw [nI_clamp (by omega)]) (cs' := [(a, .inr (13, [.int (md + 1), .ref dd, .int (nI k)])), (dd, .inl (5, N, .inr (.inr (.inr (.inr (va_up f k none))))))]) rfl ?_
    refine y_vret d_AL_fastRemove_43 rfl ?_
    exact fun w1 h1 => ⟨_, ⟨rfl, by first | rfl | (unfold rmv; rw [hik2, va_cpy0])⟩, h1⟩
  · refine y_aload_n d_AL_fastRemove_22 rfl 2 rfl ?_
    refine y_iload_n d_AL_fastRemove_23 rfl 3 rfl ?_
    refine y_iconst d_AL_fastRemove_24 (v := 1) (by decide) ?_
    refine y_iadd d_AL_fastRemove_25 (v := nI (i + 1)) (nI_add _ _) ?_
    refine y_aload_n d_AL_fastRemove_26 rfl 2 rfl ?_
    refine y_iload_n d_AL_fastRemove_27 rfl 3 rfl ?_
    refine y_iload_n d_AL_fastRemove_28 rfl 0 rfl ?_
    refine y_iload_n d_AL_fastRemove_29 rfl 3 rfl ?_
    refine y_isub d_AL_fastRemove_30 (v := nI (k - i)) (nI_sub hik) ?_
    refine y_copyq (f' := va_cpy f f (i + 1) i (k - i)) (q0 := 1) (q1 := 1) (cs' := [(a, .inr (13, [.int (md + 1), .ref dd, .int (nI (k + 1))])), (dd, .inl (5, N, .inr (.inr (.inr (.inr (va_cpy f f (i + 1) i (k - i)))))))]) ln_AL_112 w_ac1 w_ac2 w_ac3 d_AL_fastRemove_31 rfl rfl (nI_nneg (by omega)) (nI_nneg (by omega)) (nI_nneg (by omega)) (by rw [nI_clamp (by omega), nI_clamp (by omega)]; omega) (by rw [nI_clamp (by omega), nI_clamp (by omega)]; omega) (fun w9 hC => by rw [nI_clamp (by omega), nI_clamp (by omega)]; exact (hP.ob (hC.ke (L := [a, dd]) rfl) (fun q8 hq8 => by simp only [List.mem_cons, List.not_mem_nil, or_false] at hq8; rcases hq8 with rfl | rfl; exact ⟨_, hI.1 _ List.mem_cons_self, Or.inr (Or.inl rfl)⟩; exact ⟨_, hI.1 _ (List.mem_cons_of_mem _ List.mem_cons_self), Or.inl ⟨rfl, rfl⟩⟩))) (by rw [nI_clamp (by omega), nI_clamp (by omega), nI_clamp (by omega)]) rfl (by decide) (by decide +kernel) (Nat.le_of_ble_eq_true rfl) ?_
    refine y_aload_n d_AL_fastRemove_34 rfl 2 rfl ?_
    refine y_aload_n d_AL_fastRemove_35 rfl 1 rfl ?_
    refine y_iload_n d_AL_fastRemove_36 rfl 0 rfl ?_
    refine y_dupx1 d_AL_fastRemove_37 rfl rfl ?_
    refine y_put fp_AL_48 d_AL_fastRemove_38 (fun h => nomatch h) rfl rfl (q0 := 0) rfl (Nat.le_of_ble_eq_true rfl) (cs' := [(a, .inr (13, [.int (md + 1), .ref dd, .int (nI k)])), (dd, .inl (5, N, .inr (.inr (.inr (.inr (va_cpy f f (i + 1) i (k - i)))))))]) rfl ?_
    refine y_null d_AL_fastRemove_41 ?_
    refine y_aastN d_AL_fastRemove_42 (q0 := 1) rfl (vp_in_nI (by omega) (by omega)) (f' := va_up (va_cpy f f (i + 1) i (k - i)) k none) (by rw [nI_clamp (by omega)]) (cs' := [(a, .inr (13, [.int (md + 1), .ref dd, .int (nI k)])), (dd, .inl (5, N, .inr (.inr (.inr (.inr (va_up (va_cpy f f (i + 1) i (k - i)) k none))))))]) rfl ?_
    refine y_vret d_AL_fastRemove_43 rfl ?_
    exact fun w1 h1 => ⟨_, ⟨rfl, by first | rfl | (unfold rmv; rw [hik2, va_cpy0])⟩, h1⟩
abbrev M_AL_remove : zM := (⟨"java/util/ArrayList", "remove", "(I)Ljava/lang/Object;"⟩, prog_40_method_29_code, 4, (Option.some (FieldType.object "java/lang/Object")), 3, 123, [])
theorem d_AL_remove_0 : decode prog_40_method_29_code 0 = .ok (.iload_n 1, 1) := zo_27 (zd_b zq_prog_40_method_29_code_0 0 rfl rfl rfl)
theorem d_AL_remove_1 : decode prog_40_method_29_code 1 = .ok (.aload_n 0, 1) := zo_42 (zd_b zq_prog_40_method_29_code_0 1 rfl rfl rfl)
theorem d_AL_remove_2 : decode prog_40_method_29_code 2 = .ok (.getfield 48, 3) := zo_180 (d := 0) (e := 48) (zd_b zq_prog_40_method_29_code_0 2 rfl rfl rfl) (zd_b zq_prog_40_method_29_code_0 3 rfl rfl rfl) (zd_b zq_prog_40_method_29_code_0 4 rfl rfl rfl)
theorem d_AL_remove_5 : decode prog_40_method_29_code 5 = .ok (.invokestatic 118, 3) := zo_184 (d := 0) (e := 118) (zd_b zq_prog_40_method_29_code_0 5 rfl rfl rfl) (zd_b zq_prog_40_method_29_code_0 6 rfl rfl rfl) (zd_b zq_prog_40_method_29_code_0 7 rfl rfl rfl)
theorem ok_AL_remove_Objects_checkIndex : z_ok M_AL_remove M_Objects_checkIndex 2 := ⟨z_mj2 (i := 183) rfl (by decide +kernel), rfl, ⟨by decide +kernel, by decide +kernel, by decide +kernel⟩, ⟨by decide, by decide⟩, z_mj1 (i := 32) rfl (by decide +kernel), rfl⟩
theorem d_AL_remove_8 : decode prog_40_method_29_code 8 = .ok (.pop, 1) := zo_87 (zd_b zq_prog_40_method_29_code_0 8 rfl rfl rfl)
theorem d_AL_remove_9 : decode prog_40_method_29_code 9 = .ok (.aload_n 0, 1) := zo_42 (zd_b zq_prog_40_method_29_code_0 9 rfl rfl rfl)
theorem d_AL_remove_10 : decode prog_40_method_29_code 10 = .ok (.getfield 9, 3) := zo_180 (d := 0) (e := 9) (zd_b zq_prog_40_method_29_code_0 10 rfl rfl rfl) (zd_b zq_prog_40_method_29_code_0 11 rfl rfl rfl) (zd_b zq_prog_40_method_29_code_0 12 rfl rfl rfl)
theorem d_AL_remove_13 : decode prog_40_method_29_code 13 = .ok (.astore_n 2, 1) := zo_77 (zd_b zq_prog_40_method_29_code_0 13 rfl rfl rfl)
theorem d_AL_remove_14 : decode prog_40_method_29_code 14 = .ok (.aload_n 2, 1) := zo_44 (zd_b zq_prog_40_method_29_code_0 14 rfl rfl rfl)
theorem d_AL_remove_15 : decode prog_40_method_29_code 15 = .ok (.iload_n 1, 1) := zo_27 (zd_b zq_prog_40_method_29_code_0 15 rfl rfl rfl)
theorem d_AL_remove_16 : decode prog_40_method_29_code 16 = .ok (.aaload, 1) := zo_50 (zd_b zq_prog_40_method_29_code_0 16 rfl rfl rfl)
theorem d_AL_remove_17 : decode prog_40_method_29_code 17 = .ok (.astore_n 3, 1) := zo_78 (zd_b zq_prog_40_method_29_code_0 17 rfl rfl rfl)
theorem d_AL_remove_18 : decode prog_40_method_29_code 18 = .ok (.aload_n 0, 1) := zo_42 (zd_b zq_prog_40_method_29_code_0 18 rfl rfl rfl)
theorem d_AL_remove_19 : decode prog_40_method_29_code 19 = .ok (.aload_n 2, 1) := zo_44 (zd_b zq_prog_40_method_29_code_0 19 rfl rfl rfl)
theorem d_AL_remove_20 : decode prog_40_method_29_code 20 = .ok (.iload_n 1, 1) := zo_27 (zd_b zq_prog_40_method_29_code_0 20 rfl rfl rfl)
theorem d_AL_remove_21 : decode prog_40_method_29_code 21 = .ok (.invokevirtual 144, 3) := zo_182 (d := 0) (e := 144) (zd_b zq_prog_40_method_29_code_0 21 rfl rfl rfl) (zd_b zq_prog_40_method_29_code_0 22 rfl rfl rfl) (zd_b zq_prog_40_method_29_code_0 23 rfl rfl rfl)
theorem ok_AL_remove_AL_fastRemove : z_ok M_AL_remove M_AL_fastRemove 2 := ⟨z_mj6 (i := 126) rfl (by decide +kernel), rfl, ⟨by decide +kernel, by decide +kernel, by decide +kernel⟩, ⟨by decide, by decide⟩, z_mj1 (i := 13) rfl (by decide +kernel), rfl⟩
theorem ln_AL_144 : Cond.methodLink "java/util/ArrayList" 144 M_AL_fastRemove.1 ∈ z_gw := z_mj6 (i := 123) rfl (by decide +kernel)
theorem w_im_AL_fastRemove : Cond.instanceMethod M_AL_fastRemove.1 ∈ z_gw := z_mj6 (i := 125) rfl (by decide +kernel)
theorem w_se_AL_fastRemove : Cond.selects M_AL_fastRemove.1.cls M_AL_fastRemove.1 M_AL_fastRemove.1 ∈ z_gw := z_mem (i := 25) (by decide +kernel) (by decide +kernel)
theorem d_AL_remove_24 : decode prog_40_method_29_code 24 = .ok (.aload_n 3, 1) := zo_45 (zd_b zq_prog_40_method_29_code_0 24 rfl rfl rfl)
theorem d_AL_remove_25 : decode prog_40_method_29_code 25 = .ok (.areturn, 1) := zo_176 (zd_b zq_prog_40_method_29_code_0 25 rfl rfl rfl)
set_option maxHeartbeats 4000000 in
set_option maxRecDepth 100000 in
theorem C_AL_remove (g : zG) (a dd N : Nat) (md : Int32) (f : Nat → Option Nat) (i k : Nat) (hik : i ≤ k) (hkN : k < N) (hN : N < 1000) (v : Nat) (hv : f i = some v) : CP g M_AL_remove [.ref a, .int (nI i)] [(a, .inr (13, [.int md, .ref dd, .int (nI (k + 1))])), (dd, .inl (5, N, .inr (.inr (.inr (.inr f)))))] (fun w => z_obE w (k - i) f (i + 1)) (fun o cs1 => o = .inl (some (.ref v)) ∧ cs1 = [(a, .inr (13, [.int (md + 1), .ref dd, .int (nI k)])), (dd, .inl (5, N, .inr (.inr (.inr (.inr (rmv f i k))))))]) 0 0 := by
  intro w hI hP
  refine y_ofM (by decide) rfl (Nat.le_of_ble_eq_true rfl) (y_base hI ?_)
  refine y_lvE (lv2 := [(0, .ref a), (1, .int (nI i))]) rfl ?_
  refine y_iload_n d_AL_remove_0 rfl 1 rfl ?_
  refine y_aload_n d_AL_remove_1 rfl 0 rfl ?_
  refine y_get fs_AL_48 d_AL_remove_2 (q0 := 0) rfl rfl ?_
  refine yp_callS (As := [.int (nI i), .int (nI (k + 1))]) (rest := []) (csC := []) (is := []) ln_AL_118 w_st_Objects_checkIndex ok_AL_remove_Objects_checkIndex d_AL_remove_5 ((fun w9 hI9 hC9 => C_Ob_checkIndex g (nI i) (nI (k + 1)) (nI_nneg (by omega)) ((nI_ltI (by omega) (by omega)).mpr (by omega)) w9 hC9)) rfl rfl (Nat.le_of_ble_eq_true rfl) rfl (by decide) (by omega) (by omega) (fun E cs1 hx => ?_) (fun v cs1 hx => ?_)
  · exact absurd hx.1 (by simp)
  · obtain ⟨e1, rfl⟩ := hx
    cases e1
    refine ⟨rfl, ?_⟩
    refine y_st (st2 := [.int (nI i)]) rfl ?_
    refine y_cs (cs2 := [(a, .inr (13, [.int md, .ref dd, .int (nI (k + 1))])), (dd, .inl (5, N, .inr (.inr (.inr (.inr f)))))]) rfl ?_
    refine y_pop d_AL_remove_8 rfl ?_
    refine y_aload_n d_AL_remove_9 rfl 0 rfl ?_
    refine y_get fs_AL_9 d_AL_remove_10 (q0 := 0) rfl rfl ?_
    refine y_astore_n (lv' := [(2, .ref dd), (0, .ref a), (1, .int (nI i))]) d_AL_remove_13 rfl (by decide) rfl ?_
    refine y_aload_n d_AL_remove_14 rfl 0 rfl ?_
    refine y_iload_n d_AL_remove_15 rfl 2 rfl ?_
    refine y_aald d_AL_remove_16 (q0 := 1) rfl (vp_in_nI (by omega) (by omega)) (v := .ref v) (by rw [nI_clamp (by omega), hv]; rfl) ?_
    refine y_astore_n (lv' := [(3, .ref v), (2, .ref dd), (0, .ref a), (1, .int (nI i))]) d_AL_remove_17 rfl (by decide) rfl ?_
    refine y_aload_n d_AL_remove_18 rfl 2 rfl ?_
    refine y_aload_n d_AL_remove_19 rfl 1 rfl ?_
    refine y_iload_n d_AL_remove_20 rfl 3 rfl ?_
    refine yp_callV (As := [.ref dd, .int (nI i)]) (rest := []) (csC := [(a, .inr (13, [.int md, .ref dd, .int (nI (k + 1))])), (dd, .inl (5, N, .inr (.inr (.inr (.inr f)))))]) (is := [0, 1]) (q0 := 0) rfl rfl ln_AL_144 w_im_AL_fastRemove w_se_AL_fastRemove ok_AL_remove_AL_fastRemove d_AL_remove_21 ((fun w9 hI9 hC9 => C_AL_fastRemove g a dd N md f i k hik hkN hN w9 hC9 (by rw [z_I.same hI hI9]; exact hP))) rfl rfl (Nat.le_of_ble_eq_true rfl) rfl (by decide) (by omega) (by omega) (fun E cs1 hx => ?_) (fun v cs1 hx => ?_)
    · exact absurd hx.1 (by simp)
    · obtain ⟨e1, rfl⟩ := hx
      cases e1
      refine ⟨rfl, ?_⟩
      refine y_st (st2 := []) rfl ?_
      refine y_cs (cs2 := [(a, .inr (13, [.int (md + 1), .ref dd, .int (nI k)])), (dd, .inl (5, N, .inr (.inr (.inr (.inr (rmv f i k))))))]) rfl ?_
      refine y_aload_n d_AL_remove_24 rfl 0 rfl ?_
      refine y_aret d_AL_remove_25 rfl (Or.inl ⟨_, rfl⟩) (Or.inr ⟨_, rfl⟩) ?_
      exact fun w1 h1 => ⟨_, ⟨rfl, rfl⟩, h1⟩
end
section
theorem z_L.ob {g : zG} {w : zW} {a n : Nat} {bk : Option Nat} {el : Nat → Nat} (h : z_L g w a n bk el) : ∃ fs : List Value, w a = some (.inr (13, fs)) := by
  obtain ⟨md, dd, e1, -⟩ := h
  exact ⟨_, e1⟩
theorem Q_size {g : zG} {w : zW} {a n : Nat} {bk : Option Nat} {el : Nat → Nat} (h : z_L g w a n bk el) : zMB g M_AL_size [.ref a] w (fun o w1 => o = .inl (some (.int (nI n))) ∧ w1 = w) 0 0 := by
  obtain ⟨md, dd, e1, -⟩ := h
  have hI := z_I.mk (w := w) (cs := [(a, .inr (13, [.int md, .ref dd, .int (nI n)]))]) (List.forall_mem_cons.mpr ⟨e1, fun _ h => nomatch h⟩) (by simp)
  refine ((C_AL_size g a dd md (nI n)).at hI).mono (Nat.le_refl _) (Nat.le_refl _) (fun o w1 hp => ?_)
  obtain ⟨cs1, ⟨e2, e3⟩, h1⟩ := hp
  subst e3
  exact ⟨e2, z_I.same hI h1⟩
theorem z_L.n33 {g : zG} {w : zW} {a n : Nat} {bk : Option Nat} {el : Nat → Nat} (h : z_L g w a n bk el) : n ≤ 33 := by
  obtain ⟨md, dd, e1, e2⟩ := h
  rcases e2 with ⟨-, e2, -⟩ | ⟨-, N, f, e3, e4, -⟩ <;> omega
theorem Q_isEmpty {g : zG} {w : zW} {a n : Nat} {bk : Option Nat} {el : Nat → Nat} (h : z_L g w a n bk el) : zMB g M_AL_isEmpty [.ref a] w (fun o w1 => o = .inl (some (.int (if n = 0 then 1 else 0))) ∧ w1 = w) 0 0 := by
  have hn := h.n33
  obtain ⟨md, dd, e1, -⟩ := h
  have hI := z_I.mk (w := w) (cs := [(a, .inr (13, [.int md, .ref dd, .int (nI n)]))]) (List.forall_mem_cons.mpr ⟨e1, fun _ h => nomatch h⟩) (by simp)
  refine ((C_AL_isEmpty g a dd md (nI n)).at hI).mono (Nat.le_refl _) (Nat.le_refl _) (fun o w1 hp => ?_)
  obtain ⟨cs1, ⟨e2, e3⟩, h1⟩ := hp
  subst e3
  refine ⟨?_, z_I.same hI h1⟩
  rw [e2]
  by_cases h0 : n = 0
  · subst h0; rfl
  · rw [if_neg h0, if_neg (fun q => h0 (nI_z (by omega) q))]
theorem z_2n {a b : Nat} (h : a ≠ b) : [a, b].Nodup := List.nodup_cons.mpr ⟨fun q => h (List.mem_singleton.mp q), List.nodup_cons.mpr ⟨(fun q => nomatch q), List.nodup_nil⟩⟩
theorem z_3n {a b c : Nat} (h1 : a ≠ b) (h2 : a ≠ c) (h3 : b ≠ c) : [a, b, c].Nodup := List.nodup_cons.mpr ⟨fun q => (List.mem_cons.mp q).elim h1 (fun q => h2 (List.mem_singleton.mp q)), z_2n h3⟩
theorem Q_get {g : zG} {w : zW} {a n k : Nat} {bk : Option Nat} {el : Nat → Nat} (h : z_L g w a n bk el) (hk : k < n) : zMB g M_AL_get [.ref a, .int (nI k)] w (fun o w1 => o = .inl (some (.ref (el k))) ∧ w1 = w) 0 0 := by
  obtain ⟨md, dd, e1, e2⟩ := h
  rcases e2 with ⟨-, e2, -⟩ | ⟨e2, N, f, e3, e4, e5, e6⟩
  · omega
  have hI := z_I.mk (w := w) (cs := [(a, .inr (13, [.int md, .ref dd, .int (nI n)])), (dd, .inl (5, N, .inr (.inr (.inr (.inr f)))))]) (List.forall_mem_cons.mpr ⟨e1, List.forall_mem_cons.mpr ⟨e5, fun _ h => nomatch h⟩⟩) (z_2n (z_nek e1 e5 (by simp [z_kd])))
  refine ((C_AL_get g a dd N md (nI n) f (nI k) (el k) (vp_in_nI (by omega) (by omega)) (by rw [nI_clamp (by omega)]; exact e6 k hk) (nI_nneg (by omega)) ((nI_ltI (by omega) (by omega)).mpr hk)).at hI).mono (Nat.le_refl _) (Nat.le_refl _) (fun o w1 hp => ?_)
  obtain ⟨cs1, ⟨e7, e8⟩, h1⟩ := hp
  subst e8
  exact ⟨e7, z_I.same hI h1⟩
def z_elt (w : zW) (a : Nat) : Prop := ∃ ek, w a = some ek ∧ z_ob ek ∧ ¬ z_kd ek = (1, 13, 0)
def z_app (el : Nat → Nat) (n v : Nat) : Nat → Nat := fun k => if k = n then v else el k
def z_del (el : Nat → Nat) (i : Nat) : Nat → Nat := fun j => if j < i then el j else el (j + 1)
theorem z_obE.of {w : zW} {m sp : Nat} {f : Nat → Option Nat} {el : Nat → Nat} {n : Nat} (h : ∀ k, k < n → f k = some (el k)) (he : ∀ k, k < n → z_elt w (el k)) (hm : sp + m ≤ n) : z_obE w m f sp := fun i hi y hy => by
  rw [h (sp + i) (by omega)] at hy
  cases hy
  exact he _ (by omega)
theorem Q_add {g : zG} {w : zW} {a n v : Nat} {bk : Option Nat} {el : Nat → Nat} (h : z_L g w a n bk el) (he : ∀ k, k < n → z_elt w (el k)) (hv : z_elt w v) (hn : n < 33) :
    zMB g M_AL_add_0 [.ref a, .ref v] w (fun o w1 => o = .inl (some (.int 1)) ∧ ∃ bk2, z_L g w1 a (n + 1) bk2 (z_app el n v) ∧ (∀ q, bk2 = some q → bk = some q ∨ w q = none) ∧ z_ke (fun q => q = a ∨ bk = some q) w w1) 1 33 := by
  obtain ⟨ev, v1, v2, v3⟩ := hv
  obtain ⟨md, dd, e1, e2⟩ := h
  have hav : a ≠ v := z_nek e1 v1 (fun q => v3 (q.symm.trans rfl))
  rcases e2 with ⟨e2, e3, e4⟩ | ⟨e2, N, f, e3, e4, e5, e6⟩
  · subst e2; subst e3; subst e4
    have hI := z_I.mk (w := w) (cs := [(a, .inr (13, [.int md, .ref (g.2.2 4), .int 0])), (v, ev)]) (List.forall_mem_cons.mpr ⟨e1, List.forall_mem_cons.mpr ⟨v1, fun _ h => nomatch h⟩⟩) (z_2n hav)
    refine ((C_AL_add0 g a v md ev v2).at hI).mono (Nat.le_refl _) (by decide) (fun o w1 hp => ?_)
    obtain ⟨cs1, ⟨q, e7, e8⟩, h1⟩ := hp
    subst e8
    refine ⟨e7, some q, ⟨md + 1, q, h1.at (q0 := 0) rfl, Or.inr ⟨rfl, 10, va_up (fun _ => none) 0 (some v), by omega, Or.inl rfl, h1.at (q0 := 2) rfl, fun k hk => ?_⟩⟩, fun q9 hq9 => ?_, fun q9 e9 hq9 hw9 => ?_⟩
    · obtain rfl : k = 0 := by omega
      rfl
    · cases hq9
      exact Or.inr (h1.nw (k := 2) rfl (by show 2 ≤ 2; decide))
    · by_cases hqv : q9 = v
      · subst hqv
        rw [v1] at hw9
        cases hw9
        exact h1.at (q0 := 1) rfl
      · exact h1.ke (L := [a, v]) rfl q9 e9 (fun hm => (List.mem_cons.mp hm).elim (fun e => hq9 (Or.inl e)) (fun e => hqv (List.mem_singleton.mp e))) hw9
  · have hd : z_kd ev ≠ (0, 5, N) := fun q => by
      rcases z_ob5 v2 with c | c
      · rw [q] at c; cases c
      · rw [q] at c; exact absurd c (show ¬ (5 : Nat) < 5 by decide)
    have hvd : v ≠ dd := z_nek v1 e5 hd
    have had : a ≠ dd := z_nek e1 e5 (by simp [z_kd])
    have hI := z_I.mk (w := w) (cs := [(a, .inr (13, [.int md, .ref dd, .int (nI n)])), (v, ev), (dd, .inl (5, N, .inr (.inr (.inr (.inr f)))))]) (List.forall_mem_cons.mpr ⟨e1, List.forall_mem_cons.mpr ⟨v1, List.forall_mem_cons.mpr ⟨e5, fun _ h => nomatch h⟩⟩⟩) (z_3n hav had hvd)
    have kee : ∀ (w1 : zW) (cs1 : zC), z_I w w1 3 cs1 → (cs1.map Prod.fst).take 3 = [a, v, dd] → w1 v = some ev → z_ke (fun q => q = a ∨ bk = some q) w w1 := fun w1 cs1 h1 ha hw1 q9 e9 hq9 hw9 => by
      by_cases hqv : q9 = v
      · subst hqv
        rw [v1] at hw9
        cases hw9
        exact hw1
      · exact h1.ke ha q9 e9 (fun hm => (List.mem_cons.mp hm).elim (fun e => hq9 (Or.inl e)) (fun hm => (List.mem_cons.mp hm).elim hqv (fun e => hq9 (Or.inr (by rw [e2, List.mem_singleton.mp e]))))) hw9
    by_cases hnN : n < N
    · refine ((C_AL_addR g a v dd N n md f ev v2 hnN (by omega)).at hI).mono (Nat.zero_le _) (Nat.zero_le _) (fun o w1 hp => ?_)
      obtain ⟨cs1, ⟨e7, e8⟩, h1⟩ := hp
      subst e8
      refine ⟨e7, some dd, ⟨md + 1, dd, h1.at (q0 := 0) rfl, Or.inr ⟨rfl, N, va_up f n (some v), by omega, e4, h1.at (q0 := 2) rfl, fun k hk => ?_⟩⟩, fun q9 hq9 => Or.inl (e2.trans hq9), kee w1 _ h1 rfl (h1.at (q0 := 1) rfl)⟩
      unfold va_up z_app
      by_cases hkn : k = n
      · rw [if_pos hkn, if_pos hkn]
      · rw [if_neg hkn, if_neg hkn]; exact e6 k (by omega)
    · have hN : n = N := by omega
      subst hN
      have hP : z_obE w n f 0 := z_obE.of e6 he (by omega)
      have go : ∀ (NN : Nat) (w1 : zW) (o : zO) (q : Nat), (NN = 15 ∨ NN = 22 ∨ NN = 33) → n + 1 ≤ NN → o = .inl (some (.int 1)) → z_I w w1 3 [(a, .inr (13, [.int (md + 1), .ref q, .int (nI (n + 1))])), (v, ev), (dd, .inl (5, n, .inr (.inr (.inr (.inr f))))), (q, .inl (5, NN, .inr (.inr (.inr (.inr (va_up (va_cpy f (fun _ => none) 0 0 n) n (some v)))))))] → o = .inl (some (.int 1)) ∧ ∃ bk2, z_L g w1 a (n + 1) bk2 (z_app el n v) ∧ (∀ q, bk2 = some q → bk = some q ∨ w q = none) ∧ z_ke (fun q => q = a ∨ bk = some q) w w1 := fun NN w1 o q hNN hle e7 h1 => by
        refine ⟨e7, some q, ⟨md + 1, q, h1.at (q0 := 0) rfl, Or.inr ⟨rfl, NN, va_up (va_cpy f (fun _ => none) 0 0 n) n (some v), hle, Or.inr hNN, h1.at (q0 := 3) rfl, fun k hk => ?_⟩⟩, fun q9 hq9 => ?_, kee w1 _ h1 rfl (h1.at (q0 := 1) rfl)⟩
        · unfold va_up z_app va_cpy
          by_cases hkn : k = n
          · rw [if_pos hkn, if_pos hkn]
          · rw [if_neg hkn, if_neg hkn, if_pos ⟨Nat.zero_le _, by omega⟩]
            rw [show 0 + (k - 0) = k by omega]
            exact e6 k (by omega)
        · cases hq9
          exact Or.inr (h1.nw (k := 3) rfl (by decide))
      rcases e4 with rfl | rfl | rfl | rfl
      · refine ((C_AL_addG10 g a v dd md f ev v2).at hI hP).mono (Nat.le_refl _) (by decide) (fun o w1 hp => ?_)
        obtain ⟨cs1, ⟨q, e7, e8⟩, h1⟩ := hp
        subst e8
        exact go 15 w1 o q (Or.inl rfl) (by omega) e7 h1
      · refine ((C_AL_addG15 g a v dd md f ev v2).at hI hP).mono (Nat.le_refl _) (by decide) (fun o w1 hp => ?_)
        obtain ⟨cs1, ⟨q, e7, e8⟩, h1⟩ := hp
        subst e8
        exact go 22 w1 o q (Or.inr (Or.inl rfl)) (by omega) e7 h1
      · refine ((C_AL_addG22 g a v dd md f ev v2).at hI hP).mono (Nat.le_refl _) (by decide) (fun o w1 hp => ?_)
        obtain ⟨cs1, ⟨q, e7, e8⟩, h1⟩ := hp
        subst e8
        exact go 33 w1 o q (Or.inr (Or.inr rfl)) (by omega) e7 h1
      · exact absurd hn (by decide)
theorem Q_remove {g : zG} {w : zW} {a m i : Nat} {bk : Option Nat} {el : Nat → Nat} (h : z_L g w a (m + 1) bk el) (he : ∀ k, k < m + 1 → z_elt w (el k)) (hi : i ≤ m) :
    zMB g M_AL_remove [.ref a, .int (nI i)] w (fun o w1 => o = .inl (some (.ref (el i))) ∧ z_L g w1 a m bk (z_del el i) ∧ z_ke (fun q => q = a ∨ bk = some q) w w1) 0 0 := by
  obtain ⟨md, dd, e1, e2⟩ := h
  rcases e2 with ⟨-, e3, -⟩ | ⟨e2, N, f, e3, e4, e5, e6⟩
  · omega
  have hI := z_I.mk (w := w) (cs := [(a, .inr (13, [.int md, .ref dd, .int (nI (m + 1))])), (dd, .inl (5, N, .inr (.inr (.inr (.inr f)))))]) (List.forall_mem_cons.mpr ⟨e1, List.forall_mem_cons.mpr ⟨e5, fun _ h => nomatch h⟩⟩) (z_2n (z_nek e1 e5 (by simp [z_kd])))
  refine ((C_AL_remove g a dd N md f i m hi (by omega) (by omega) (el i) (e6 i (by omega))).at hI (z_obE.of e6 he (by omega))).mono (Nat.le_refl _) (Nat.le_refl _) (fun o w1 hp => ?_)
  obtain ⟨cs1, ⟨e7, e8⟩, h1⟩ := hp
  subst e8
  refine ⟨e7, ⟨md + 1, dd, h1.at (q0 := 0) rfl, Or.inr ⟨e2, N, rmv f i m, by omega, e4, h1.at (q0 := 1) rfl, fun k hk => ?_⟩⟩, (h1.ke (L := [a, dd]) rfl).wk (fun q hq => (List.mem_cons.mp hq).elim Or.inl (fun e => Or.inr (by rw [e2, List.mem_singleton.mp e])))⟩
  unfold rmv va_up va_cpy z_del
  rw [if_neg (by omega)]
  by_cases hki : k < i
  · rw [if_pos hki, if_neg (by omega)]; exact e6 k (by omega)
  · rw [if_neg hki, if_pos (by omega), show i + 1 + (k - i) = k + 1 by omega]; exact e6 (k + 1) (by omega)
def z_upL {α : Type} (f : Nat → α) (L : Nat) (x : α) : Nat → α := fun M => if M = L then x else f M
def u_set (u : zNN) (L n : Nat) (bk : Option Nat) (el : Nat → Nat) : zNN := (z_upL u.1 L n, z_upL u.2.1 L bk, z_upL u.2.2 L el)
def z_apV (V : Nat → zV) (n : Nat) (v : zV) : Nat → zV := fun k => if k = n then v else V k
def z_dlV (V : Nat → zV) (i : Nat) : Nat → zV := fun j => if j < i then V j else V (j + 1)
def tls (t : zTT) (L : Nat) (V : Nat → zV) : zTT := (t.1, z_upL t.2 L V)
def IW (g : zG) (ad : Nat → Nat) (t : zTT) (u : zNN) (w : zW) : Prop := IVf ad t w ∧ ((∀ L, L < 7 → z_L g w (ad (z_lx.getD L 0)) (u.1 L) (u.2.1 L) (u.2.2 L)) ∧ (∀ L, L < 7 → ∀ k, k < u.1 L → EL ad L w (u.2.2 L k) (t.2 L k)) ∧ ((∀ L1 L2, L1 < 7 → L2 < 7 → ∀ q, u.2.1 L1 = some q → u.2.1 L2 = some q → L1 = L2) ∧ ∀ L, L < 7 → ∀ j k, j < u.1 L → k < u.1 L → u.2.2 L j = u.2.2 L k → j = k)) ∧ tOK t
def SZ (u : zNN) : Prop := u.1 0 ≤ 10 ∧ u.1 1 ≤ 30 ∧ u.1 2 ≤ 20 ∧ u.1 3 ≤ 10 ∧ u.1 4 = u.1 3 ∧ u.1 5 ≤ 30 ∧ u.1 6 = u.1 5
theorem IV.iw {g : zG} {ad : Nat → Nat} {t : zTT} {u : zNN} {w : zW} (h : IV g ad t u w) : IW g ad t u w := ⟨h.1, ⟨h.2.1.1, h.2.1.2.1, h.2.1.2.2.1⟩, h.2.2⟩
theorem IV.sz {g : zG} {ad : Nat → Nat} {t : zTT} {u : zNN} {w : zW} (h : IV g ad t u w) : SZ u := h.2.1.2.2.2
theorem IW.iv {g : zG} {ad : Nat → Nat} {t : zTT} {u : zNN} {w : zW} (h : IW g ad t u w) (hs : SZ u) : IV g ad t u w := ⟨h.1, ⟨h.2.1.1, h.2.1.2.1, h.2.1.2.2, hs⟩, h.2.2⟩
theorem EL.ke2 {ad : Nat → Nat} {L : Nat} {w w1 : zW} {a : Nat} {v : zV} (h : EL ad L w a v) (hk : ∀ q e, z_nf ad q → w q = some e → ((z_kd e).1 = 1 ∨ (z_kd e).2.1 < 5) → w1 q = some e) : EL ad L w1 a v := by
  obtain ⟨h0, h⟩ := h
  refine ⟨h0, ?_⟩
  match L, h with
  | 0, h =>
    obtain ⟨c, e1, e2, e3, e4, e5⟩ := h
    exact ⟨c, hk _ _ h0 e1 (Or.inl rfl), e2, e3, hk _ _ e3 e4 (Or.inr (show (1 : Nat) < 5 by decide)), e5⟩
  | 1, h =>
    obtain ⟨me, gr, e1, e2, e3, e4, e5⟩ := h
    exact ⟨me, gr, hk _ _ h0 e1 (Or.inl rfl), e2, hk _ _ e2 e3 (Or.inl rfl), e4, hk _ _ e4 e5 (Or.inr (show (3 : Nat) < 5 by decide))⟩
  | 2, h => exact hk _ _ h0 h (Or.inr (show (0 : Nat) < 5 by decide))
  | 3, h => exact ⟨hk _ _ h0 h.1 (Or.inr (show (1 : Nat) < 5 by decide)), h.2⟩
  | 4, h => exact ⟨hk _ _ h0 h.1 (Or.inr (show (0 : Nat) < 5 by decide)), h.2⟩
  | 5, h => exact ⟨hk _ _ h0 h.1 (Or.inr (show (0 : Nat) < 5 by decide)), h.2⟩
  | _ + 6, h => exact hk _ _ h0 h (Or.inr (show (3 : Nat) < 5 by decide))
theorem IW.list {g : zG} {ad : Nat → Nat} {t : zTT} {u : zNN} {w w1 : zW} (h : IW g ad t u w) {L n : Nat} {bk : Option Nat} {el : Nat → Nat} {vl : Nat → zV} (hL : L < 7) (hl : z_L g w1 (ad (z_lx.getD L 0)) n bk el) (hb : ∀ q, bk = some q → u.2.1 L = some q ∨ w q = none) (hk : z_ke (fun q => q = ad (z_lx.getD L 0) ∨ u.2.1 L = some q) w w1) (he : ∀ k, k < n → EL ad L w (el k) (vl k)) (hi9 : ∀ j k, j < n → k < n → el j = el k → j = k) : IW g ad (tls t L vl) (u_set u L n bk el) w1 := by
  obtain ⟨hF, ⟨h1, h2, h3, h4⟩, hT⟩ := h
  have hx : ∀ L, L < 7 → z_lx.getD L 0 < 71 := by decide
  have hxi : ∀ L M, L < 7 → M < 7 → z_lx.getD L 0 = z_lx.getD M 0 → L = M := by
    have : ∀ L, L < 7 → ∀ M, M < 7 → z_lx.getD L 0 = z_lx.getD M 0 → L = M := by decide
    exact fun L M hL hM => this L hL M hM
  have hkd : ∀ M, M < 7 → ∀ (e : zE), (∃ (x : Int32) (d : Nat) (y : Int32), e = .inr (13, [.int x, .ref d, .int y])) → KD ad (tls t L vl) (z_lx.getD M 0) e := fun M hM e q => by
    match M, hM with
    | 0, _ => exact kd_50.mpr q
    | 1, _ => exact kd_51.mpr q
    | 2, _ => exact kd_62.mpr q
    | 3, _ => exact kd_65.mpr q
    | 4, _ => exact kd_66.mpr q
    | 5, _ => exact kd_67.mpr q
    | 6, _ => exact kd_68.mpr q
    | M + 7, h => exact absurd h (by omega)
  have hbn : ∀ q, u.2.1 L = some q → z_nf ad q := fun q hq => by
    obtain ⟨N, f, e5⟩ := (h1 L hL).bk hq
    exact hF.n5 e5
  have hEL : ∀ M a v, EL ad M w a v → EL ad M w1 a v := fun M a v hE => hE.ke2 (fun q e hq hw hkk => hk q e (fun h9 => by
    rcases h9 with h9 | h9
    · exact hq _ (hx L hL) h9.symm
    · obtain ⟨N, f, e5⟩ := (h1 L hL).bk h9
      rw [hw] at e5
      cases e5
      rcases hkk with c | c
      · cases c
      · exact absurd c (by show ¬ (5 : Nat) < 5; decide)) hw)
  refine ⟨⟨hF.1, fun i hi => ?_⟩, ⟨fun M hM => ?_, fun M hM k hk9 => ?_, fun L1 L2 hL1 hL2 q q1 q2 => ?_, fun M hM j k hj hk9 e => ?_⟩, hT⟩
  · by_cases hiL : i = z_lx.getD L 0
    · obtain ⟨md, dd, e1, -⟩ := hl
      rw [hiL]
      exact ⟨_, e1, hkd L hL _ ⟨_, _, _, rfl⟩⟩
    · obtain ⟨e, e1, e2⟩ := hF.2 i hi
      refine ⟨e, hk _ _ (fun h9 => ?_) e1, e2.cg i _ hi rfl⟩
      rcases h9 with h9 | h9
      · exact hiL (hF.1 _ _ hi (hx L hL) h9)
      · exact hbn _ h9 i hi rfl
  · show z_L g w1 _ (z_upL u.1 L n M) (z_upL u.2.1 L bk M) (z_upL u.2.2 L el M)
    unfold z_upL
    by_cases hML : M = L
    · subst hML
      rw [if_pos rfl, if_pos rfl, if_pos rfl]
      exact hl
    · rw [if_neg hML, if_neg hML, if_neg hML]
      refine (h1 M hM).ke hk (fun h9 => ?_) (fun q hq h9 => ?_)
      · rcases h9 with h9 | h9
        · exact hML (hxi M L hM hL (hF.1 _ _ (hx M hM) (hx L hL) h9))
        · exact hbn _ h9 _ (hx M hM) rfl
      · rcases h9 with h9 | h9
        · obtain ⟨N, f, e5⟩ := (h1 M hM).bk hq
          exact hF.n5 e5 _ (hx L hL) h9.symm
        · exact hML (h3 M L hM hL q hq h9)
  · have hk9 : k < z_upL u.1 L n M := hk9
    show EL ad M w1 (z_upL u.2.2 L el M k) (z_upL t.2 L vl M k)
    unfold z_upL at hk9 ⊢
    by_cases hML : M = L
    · subst hML
      rw [if_pos rfl] at hk9
      rw [if_pos rfl, if_pos rfl]
      exact hEL M _ _ (he k hk9)
    · rw [if_neg hML] at hk9
      rw [if_neg hML, if_neg hML]
      exact hEL M _ _ (h2 M hM k hk9)
  · have q1 : z_upL u.2.1 L bk L1 = some q := q1
    have q2 : z_upL u.2.1 L bk L2 = some q := q2
    unfold z_upL at q1 q2
    have key : ∀ M, M < 7 → ¬ M = L → u.2.1 M = some q → bk = some q → False := fun M hM hML a1 a2 => by
      rcases hb q a2 with b | b
      · exact hML (h3 M L hM hL q a1 b)
      · obtain ⟨N, f, e5⟩ := (h1 M hM).bk a1
        rw [b] at e5
        cases e5
    by_cases a1 : L1 = L
    · by_cases a2 : L2 = L
      · rw [a1, a2]
      · rw [if_pos a1] at q1
        rw [if_neg a2] at q2
        exact (key L2 hL2 a2 q2 q1).elim
    · by_cases a2 : L2 = L
      · rw [if_neg a1] at q1
        rw [if_pos a2] at q2
        exact (key L1 hL1 a1 q1 q2).elim
      · rw [if_neg a1] at q1
        rw [if_neg a2] at q2
        exact h3 L1 L2 hL1 hL2 q q1 q2
  · have hj : j < z_upL u.1 L n M := hj
    have hk9 : k < z_upL u.1 L n M := hk9
    have e : z_upL u.2.2 L el M j = z_upL u.2.2 L el M k := e
    unfold z_upL at hj hk9 e
    by_cases hML : M = L
    · rw [if_pos hML] at hj hk9
      rw [if_pos hML] at e
      exact hi9 j k hj hk9 e
    · rw [if_neg hML] at hj hk9
      rw [if_neg hML] at e
      exact h4 M hM j k hj hk9 e
end
section
abbrev tx (i : Nat) : Prop := (5 ≤ i ∧ i ≤ 17) ∨ i = 69
def mg (t : zTT) (s : Nat → zP2) : zTT := (fun i => if tx i then s i else t.1 i, t.2)
def IVm (g : zG) (ad : Nat → Nat) (t : zTT) (u : zNN) (w : zW) : Prop := ∃ s, IV g ad (mg t s) u w
theorem mg_self (t T : zTT) (h1 : ∀ i, ¬ tx i → T.1 i = t.1 i) (h2 : T.2 = t.2) : mg t T.1 = T := by
  refine Prod.ext (funext fun i => ?_) h2.symm
  show (if tx i then T.1 i else t.1 i) = T.1 i
  by_cases h : tx i
  · rw [if_pos h]
  · rw [if_neg h]; exact (h1 i h).symm
theorem IVm.of {g : zG} {ad : Nat → Nat} {t T : zTT} {u : zNN} {w : zW} (h : IV g ad T u w) (h1 : ∀ i, ¬ tx i → T.1 i = t.1 i) (h2 : T.2 = t.2) : IVm g ad t u w := ⟨T.1, by rw [mg_self t T h1 h2]; exact h⟩
theorem zup_cg {f g : Nat → zP2} {P : Nat → Prop} (h : ∀ i, P i → f i = g i) : ∀ (l : List (Nat × zP2)) (i : Nat), P i → zup f l i = zup g l i
  | [], i, hi => h i hi
  | x :: l, i, hi => by
    show (if i = x.1 then x.2 else zup f l i) = (if i = x.1 then x.2 else zup g l i)
    rw [zup_cg h l i hi]
theorem IVm.zu {g : zG} {ad : Nat → Nat} {t : zTT} {s : Nat → zP2} {V : Nat → Nat → zV} {l : List (Nat × zP2)} {u : zNN} {w : zW} (h : IV g ad (zup (mg t s).1 l, V) u w) : IVm g ad (zup t.1 l, V) u w :=
  IVm.of h (fun i hi => zup_cg (P := fun i => ¬ tx i) (fun i hi => if_neg hi) l i hi) rfl
theorem IVm.tz {g : zG} {ad : Nat → Nat} {t : zTT} {s : Nat → zP2} {l : List (Nat × zP2)} {u : zNN} {w : zW} (h : IV g ad (zup (mg t s).1 l, (mg t s).2) u w) (hl : ∀ i ∈ l.map Prod.fst, tx i) : IVm g ad t u w :=
  IVm.of h (fun i hi => (zup_out (fun q => hi (hl i q))).trans (if_neg hi)) rfl
theorem IVm.zt {g : zG} {ad : Nat → Nat} {t : zTT} {s : Nat → zP2} {x : Nat × zP2} {l : List (Nat × zP2)} {u : zNN} {w : zW} (h : IV g ad (zup (mg t s).1 (x :: l), (mg t s).2) u w) (hl : ∀ i ∈ l.map Prod.fst, tx i) : IVm g ad (zup t.1 [x], t.2) u w :=
  IVm.of h (fun i hi => by
    show (if i = x.1 then x.2 else zup (mg t s).1 l i) = (if i = x.1 then x.2 else t.1 i)
    rw [zup_out (fun q => hi (hl i q)), show (mg t s).1 i = t.1 i from if_neg hi]) rfl
theorem IV.ta4 {g : zG} {ad : Nat → Nat} {t : zTT} {u : zNN} {w : zW} (hI : IV g ad t u w) : ∀ c, c < 108 → (t.1 15).1 c = 0 ∨ (t.1 15).1 c = 1 := by
  obtain ⟨e, -, k⟩ := hI.1.2 15 (by decide)
  obtain ⟨c, -⟩ := kd_15.mp k
  exact c
theorem IVm.tw {g : zG} {ad : Nat → Nat} {t : zTT} {l : List (Nat × zP2)} {u : zNN} {w : zW} (h : IV g ad (zup t.1 l, t.2) u w) (hl : ∀ i ∈ l.map Prod.fst, tx i) : IVm g ad t u w := IVm.of h (fun i hi => zup_out (fun q => hi (hl i q))) rfl
theorem mg_mg (t : zTT) (s r : Nat → zP2) : mg (mg t s) r = mg t r := by
  refine Prod.ext (funext fun i => ?_) rfl
  show (if tx i then r i else if tx i then s i else t.1 i) = (if tx i then r i else t.1 i)
  by_cases h : tx i
  · rw [if_pos h, if_pos h]
  · rw [if_neg h, if_neg h, if_neg h]
theorem IVm.mm {g : zG} {ad : Nat → Nat} {t : zTT} {s : Nat → zP2} {u : zNN} {w : zW} (h : IVm g ad (mg t s) u w) : IVm g ad t u w := by
  obtain ⟨r, h⟩ := h
  rw [mg_mg] at h
  exact ⟨r, h⟩
def elT (M : Nat) (F : zV → zV) (T : zTT) (i : Nat) : zTT := (T.1, fun L j => if L = M ∧ j < i then F (T.2 M j) else T.2 L j)
theorem elT_0 (M : Nat) (F : zV → zV) (T : zTT) : T = elT M F T 0 := Prod.ext rfl (funext fun L => funext fun j => (if_neg (fun q => absurd q.2 (Nat.not_lt_zero j))).symm)
theorem elT_at (M : Nat) (F : zV → zV) (T : zTT) (i : Nat) : (elT M F T i).2 M i = T.2 M i := if_neg (fun q => absurd q.2 (Nat.lt_irrefl i))
theorem elT_s (M : Nat) (F : zV → zV) (T : zTT) (i : Nat) : (((elT M F T i).1, vup (elT M F T i).2 M i (F ((elT M F T i).2 M i))) : zTT) = elT M F T (i + 1) := by
  refine Prod.ext rfl (funext fun L => funext fun j => ?_)
  show (if L = M ∧ j = i then F ((elT M F T i).2 M i) else if L = M ∧ j < i then F (T.2 M j) else T.2 L j) = (if L = M ∧ j < i + 1 then F (T.2 M j) else T.2 L j)
  rw [elT_at]
  by_cases hL : L = M
  · subst hL
    by_cases h1 : j = i
    · subst h1
      rw [if_pos ⟨rfl, rfl⟩, if_pos ⟨rfl, Nat.lt_succ_self _⟩]
    · rw [if_neg (fun q => h1 q.2)]
      by_cases h2 : j < i
      · rw [if_pos ⟨rfl, h2⟩, if_pos ⟨rfl, by omega⟩]
      · rw [if_neg (fun q => h2 q.2), if_neg (fun q => absurd q.2 (by omega))]
  · rw [if_neg (fun q => hL q.1), if_neg (fun q => hL q.1), if_neg (fun q => hL q.1)]
theorem zup_eta {f : Nat → zP2} {i : Nat} : zup f [(i, f i)] = f := funext fun j => by
  show (if j = i then f i else f j) = f j
  by_cases h : j = i
  · rw [if_pos h, h]
  · rw [if_neg h]
theorem zup_tw {f : Nat → zP2} {i : Nat} {a b : zP2} : zup (zup f [(i, a)]) [(i, b)] = zup f [(i, b)] := funext fun j => by
  show (if j = i then b else if j = i then a else f j) = (if j = i then b else f j)
  by_cases h : j = i
  · rw [if_pos h, if_pos h]
  · rw [if_neg h, if_neg h, if_neg h]
theorem tls_2 (T : zTT) (L : Nat) (A B : Nat → zV) : tls (tls T L A) L B = tls T L B := Prod.ext rfl (funext fun M => by
  show (if M = L then B else if M = L then A else T.2 M) = (if M = L then B else T.2 M)
  by_cases h : M = L
  · rw [if_pos h, if_pos h]
  · rw [if_neg h, if_neg h, if_neg h])
theorem tls_eta (T : zTT) (L : Nat) : T = tls T L (T.2 L) := Prod.ext rfl (funext fun M => by
  show T.2 M = (if M = L then T.2 L else T.2 M)
  by_cases h : M = L
  · rw [if_pos h, h]
  · rw [if_neg h])
theorem tls_vup (T : zTT) (L i : Nat) (A : Nat → zV) (v : zV) : (((tls T L A).1, vup (tls T L A).2 L i v) : zTT) = tls T L (fun j => if j = i then v else A j) := Prod.ext rfl (funext fun M => funext fun j => by
  show (if M = L ∧ j = i then v else (if M = L then A else T.2 M) j) = (if M = L then (fun j => if j = i then v else A j) else T.2 M) j
  by_cases h : M = L
  · rw [if_pos h, if_pos h]
    by_cases h2 : j = i
    · rw [if_pos ⟨h, h2⟩]; exact (if_pos h2).symm
    · rw [if_neg (fun q => h2 q.2)]; exact (if_neg h2).symm
  · rw [if_neg (fun q => h q.1), if_neg h, if_neg h])
theorem upL_eta {f : Nat → Nat} {L : Nat} : f = z_upL f L (f L) := funext fun M => by
  show f M = (if M = L then f L else f M)
  by_cases h : M = L
  · rw [if_pos h, h]
  · rw [if_neg h]
theorem upL_up {f g : Nat → Nat} {L x m : Nat} (h : f = z_upL g L x) : z_upL f L m = z_upL g L m := funext fun M => by
  show (if M = L then m else f M) = (if M = L then m else g M)
  by_cases q : M = L
  · rw [if_pos q, if_pos q]
  · rw [if_neg q, if_neg q]
    have := congrFun h M
    rw [this]
    exact if_neg q
def dwL (p : zV → Bool) (q : zV → Int32) : Nat → Nat × (Nat → zV) × Int32 → Nat × (Nat → zV) × Int32
  | 0, s => s
  | c + 1, s => dwL p q c (if p (s.2.1 c) = true then s else (s.1 - 1, z_dlV s.2.1 c, s.2.2 + q (s.2.1 c)))
theorem dwL_t {p : zV → Bool} {q : zV → Int32} {c n : Nat} {V : Nat → zV} {s : Int32} {F : Nat × (Nat → zV) × Int32} (h : dwL p q (c + 1) (n, V, s) = F) (hp : p (V c) = true) : dwL p q c (n, V, s) = F := by
  have h1 : dwL p q c (if p (V c) = true then (n, V, s) else (n - 1, z_dlV V c, s + q (V c))) = F := h
  rw [if_pos hp] at h1
  exact h1
theorem dwL_f {p : zV → Bool} {q : zV → Int32} {c n m : Nat} {V : Nat → zV} {s : Int32} {F : Nat × (Nat → zV) × Int32} (h : dwL p q (c + 1) (n, V, s) = F) (hn : n = m + 1) (hp : p (V c) = false) : dwL p q c (m, z_dlV V c, s + q (V c)) = F := by
  subst hn
  have h1 : dwL p q c (if p (V c) = true then (m + 1, V, s) else (m + 1 - 1, z_dlV V c, s + q (V c))) = F := h
  rw [if_neg (by rw [hp]; decide)] at h1
  exact h1
end
