abbrev M_Ip_tenthsOf : zM := (⟨"Ironpour", "tenthsOf", "(C)[I"⟩, prog_1_method_61_code, 1, (Option.some (FieldType.array FieldType.int)), 1, 20, [])
theorem d_Ip_tenthsOf_0 : decode prog_1_method_61_code 0 = .ok (.iload_n 0, 1) := zo_26 (zd_b zq_prog_1_method_61_code_0 0 rfl rfl rfl)
theorem d_Ip_tenthsOf_1 : decode prog_1_method_61_code 1 = .ok (.lookupswitch 47 #[(102, 43), (112, 35), (115, 39)], 35) := by decide +kernel
theorem d_Ip_tenthsOf_36 : decode prog_1_method_61_code 36 = .ok (.getstatic 523, 3) := zo_178 (d := 2) (e := 11) (zd_b zq_prog_1_method_61_code_1 4 rfl rfl rfl) (zd_b zq_prog_1_method_61_code_1 5 rfl rfl rfl) (zd_b zq_prog_1_method_61_code_1 6 rfl rfl rfl)
theorem ls_Ip_523 : Cond.fieldLink "Ironpour" 523 "Ironpour" (z_sn 0) "[I" ∈ z_gw := z_mj5 (i := 52) rfl (by decide +kernel)
theorem d_Ip_tenthsOf_39 : decode prog_1_method_61_code 39 = .ok (.areturn, 1) := zo_176 (zd_b zq_prog_1_method_61_code_1 7 rfl rfl rfl)
set_option maxHeartbeats 4000000 in
set_option maxRecDepth 100000 in
theorem C_Ip_tenthsOf112 (g : zG)  : CT g M_Ip_tenthsOf [.int 112] [] (fun o cs1 => o = .inl (some (.ref (g.2.2 0))) ∧ cs1 = []) 0 0 := by
  refine z_of (by decide) rfl (Nat.le_of_ble_eq_true rfl) (fun w0 => ?_)
  refine r_lvE (lv2 := [(0, .int 112)]) rfl ?_
  refine r_iload_n d_Ip_tenthsOf_0 rfl 0 rfl ?_
  · refine r_lookup (off := 35) (tgt := 36) d_Ip_tenthsOf_1 (by decide) (by decide) (by decide) ?_
    refine r_getsA (i := 0) (by decide) ls_Ip_523 d_Ip_tenthsOf_36 ?_
    refine r_aret d_Ip_tenthsOf_39 rfl (Or.inr ⟨_, rfl⟩) (Or.inr ⟨_, rfl⟩) ?_
    exact ⟨rfl, rfl⟩
theorem d_Ip_tenthsOf_40 : decode prog_1_method_61_code 40 = .ok (.getstatic 526, 3) := zo_178 (d := 2) (e := 14) (zd_b zq_prog_1_method_61_code_1 8 rfl rfl rfl) (zd_b zq_prog_1_method_61_code_1 9 rfl rfl rfl) (zd_b zq_prog_1_method_61_code_1 10 rfl rfl rfl)
theorem ls_Ip_526 : Cond.fieldLink "Ironpour" 526 "Ironpour" (z_sn 1) "[I" ∈ z_gw := z_mj5 (i := 54) rfl (by decide +kernel)
theorem d_Ip_tenthsOf_43 : decode prog_1_method_61_code 43 = .ok (.areturn, 1) := zo_176 (zd_b zq_prog_1_method_61_code_1 11 rfl rfl rfl)
set_option maxHeartbeats 4000000 in
set_option maxRecDepth 100000 in
theorem C_Ip_tenthsOf115 (g : zG)  : CT g M_Ip_tenthsOf [.int 115] [] (fun o cs1 => o = .inl (some (.ref (g.2.2 1))) ∧ cs1 = []) 0 0 := by
  refine z_of (by decide) rfl (Nat.le_of_ble_eq_true rfl) (fun w0 => ?_)
  refine r_lvE (lv2 := [(0, .int 115)]) rfl ?_
  refine r_iload_n d_Ip_tenthsOf_0 rfl 0 rfl ?_
  · refine r_lookup (off := 39) (tgt := 40) d_Ip_tenthsOf_1 (by decide) (by decide) (by decide) ?_
    refine r_getsA (i := 1) (by decide) ls_Ip_526 d_Ip_tenthsOf_40 ?_
    refine r_aret d_Ip_tenthsOf_43 rfl (Or.inr ⟨_, rfl⟩) (Or.inr ⟨_, rfl⟩) ?_
    exact ⟨rfl, rfl⟩
theorem d_Ip_tenthsOf_44 : decode prog_1_method_61_code 44 = .ok (.getstatic 529, 3) := zo_178 (d := 2) (e := 17) (zd_b zq_prog_1_method_61_code_1 12 rfl rfl rfl) (zd_b zq_prog_1_method_61_code_1 13 rfl rfl rfl) (zd_b zq_prog_1_method_61_code_1 14 rfl rfl rfl)
theorem ls_Ip_529 : Cond.fieldLink "Ironpour" 529 "Ironpour" (z_sn 2) "[I" ∈ z_gw := z_mj5 (i := 56) rfl (by decide +kernel)
theorem d_Ip_tenthsOf_47 : decode prog_1_method_61_code 47 = .ok (.areturn, 1) := zo_176 (zd_b zq_prog_1_method_61_code_1 15 rfl rfl rfl)
set_option maxHeartbeats 4000000 in
set_option maxRecDepth 100000 in
theorem C_Ip_tenthsOf102 (g : zG)  : CT g M_Ip_tenthsOf [.int 102] [] (fun o cs1 => o = .inl (some (.ref (g.2.2 2))) ∧ cs1 = []) 0 0 := by
  refine z_of (by decide) rfl (Nat.le_of_ble_eq_true rfl) (fun w0 => ?_)
  refine r_lvE (lv2 := [(0, .int 102)]) rfl ?_
  refine r_iload_n d_Ip_tenthsOf_0 rfl 0 rfl ?_
  · refine r_lookup (off := 43) (tgt := 44) d_Ip_tenthsOf_1 (by decide) (by decide) (by decide) ?_
    refine r_getsA (i := 2) (by decide) ls_Ip_529 d_Ip_tenthsOf_44 ?_
    refine r_aret d_Ip_tenthsOf_47 rfl (Or.inr ⟨_, rfl⟩) (Or.inr ⟨_, rfl⟩) ?_
    exact ⟨rfl, rfl⟩
theorem d_Ip_tenthsOf_48 : decode prog_1_method_61_code 48 = .ok (.getstatic 532, 3) := zo_178 (d := 2) (e := 20) (zd_b zq_prog_1_method_61_code_1 16 rfl rfl rfl) (zd_b zq_prog_1_method_61_code_1 17 rfl rfl rfl) (zd_b zq_prog_1_method_61_code_1 18 rfl rfl rfl)
theorem ls_Ip_532 : Cond.fieldLink "Ironpour" 532 "Ironpour" (z_sn 3) "[I" ∈ z_gw := z_mj5 (i := 58) rfl (by decide +kernel)
theorem d_Ip_tenthsOf_51 : decode prog_1_method_61_code 51 = .ok (.areturn, 1) := zo_176 (zd_b zq_prog_1_method_61_code_1 19 rfl rfl rfl)
set_option maxHeartbeats 4000000 in
set_option maxRecDepth 100000 in
theorem C_Ip_tenthsOf107 (g : zG)  : CT g M_Ip_tenthsOf [.int 107] [] (fun o cs1 => o = .inl (some (.ref (g.2.2 3))) ∧ cs1 = []) 0 0 := by
  refine z_of (by decide) rfl (Nat.le_of_ble_eq_true rfl) (fun w0 => ?_)
  refine r_lvE (lv2 := [(0, .int 107)]) rfl ?_
  refine r_iload_n d_Ip_tenthsOf_0 rfl 0 rfl ?_
  · refine r_lookup (off := 47) (tgt := 48) d_Ip_tenthsOf_1 (by decide) (by decide) (by decide) ?_
    refine r_getsA (i := 3) (by decide) ls_Ip_532 d_Ip_tenthsOf_48 ?_
    refine r_aret d_Ip_tenthsOf_51 rfl (Or.inr ⟨_, rfl⟩) (Or.inr ⟨_, rfl⟩) ?_
    exact ⟨rfl, rfl⟩
abbrev M_Ip_minutes : zM := (⟨"Ironpour", "minutes", "(I)I"⟩, prog_1_method_28_code, 3, (Option.some FieldType.int), 6, 100, [])
theorem d_Ip_minutes_0 : decode prog_1_method_28_code 0 = .ok (.iload_n 1, 1) := zo_27 (zd_b zq_prog_1_method_28_code_0 0 rfl rfl rfl)
theorem d_Ip_minutes_1 : decode prog_1_method_28_code 1 = .ok (.iconst 1, 1) := zo_4 (zd_b zq_prog_1_method_28_code_0 1 rfl rfl rfl)
theorem d_Ip_minutes_2 : decode prog_1_method_28_code 2 = .ok (.bipush 60, 2) := zo_16 (d := 60) (zd_b zq_prog_1_method_28_code_0 2 rfl rfl rfl) (zd_b zq_prog_1_method_28_code_0 3 rfl rfl rfl) (by decide +kernel)
theorem d_Ip_minutes_4 : decode prog_1_method_28_code 4 = .ok (.invokestatic 203, 3) := zo_184 (d := 0) (e := 203) (zd_b zq_prog_1_method_28_code_0 4 rfl rfl rfl) (zd_b zq_prog_1_method_28_code_0 5 rfl rfl rfl) (zd_b zq_prog_1_method_28_code_0 6 rfl rfl rfl)
theorem ok_Ip_minutes_Ip_isWithin : z_ok M_Ip_minutes M_Ip_isWithin 3 := ⟨z_mj4 (i := 97) rfl (by decide +kernel), rfl, ⟨by decide +kernel, by decide +kernel, by decide +kernel⟩, ⟨by decide, by decide⟩, z_mj1 (i := 1) rfl (by decide +kernel), rfl⟩
theorem d_Ip_minutes_7 : decode prog_1_method_28_code 7 = .ok (.ifCond .ne 14, 3) := zo_154 (d := 0) (e := 14) (zd_b zq_prog_1_method_28_code_0 7 rfl rfl rfl) (zd_b zq_prog_1_method_28_code_0 8 rfl rfl rfl) (zd_b zq_prog_1_method_28_code_0 9 rfl rfl rfl) (by decide +kernel)
theorem d_Ip_minutes_10 : decode prog_1_method_28_code 10 = .ok (.new 89, 3) := zo_187 (d := 0) (e := 89) (zd_b zq_prog_1_method_28_code_0 10 rfl rfl rfl) (zd_b zq_prog_1_method_28_code_0 11 rfl rfl rfl) (zd_b zq_prog_1_method_28_code_0 12 rfl rfl rfl)
theorem sr_Ip_336 : Cond.stringRef "Ironpour" 336 "1 to 60 minutes go by" ∈ lw_tbl := z_tb5 (i := 139) rfl
theorem d_Ip_minutes_13 : decode prog_1_method_28_code 13 = .ok (.dup, 1) := zo_89 (zd_b zq_prog_1_method_28_code_0 13 rfl rfl rfl)
theorem d_Ip_minutes_14 : decode prog_1_method_28_code 14 = .ok (.ldc_w 336, 3) := zo_19 (d := 1) (e := 80) (zd_b zq_prog_1_method_28_code_0 14 rfl rfl rfl) (zd_b zq_prog_1_method_28_code_0 15 rfl rfl rfl) (zd_b zq_prog_1_method_28_code_0 16 rfl rfl rfl)
theorem d_Ip_minutes_17 : decode prog_1_method_28_code 17 = .ok (.invokespecial 93, 3) := zo_183 (d := 0) (e := 93) (zd_b zq_prog_1_method_28_code_0 17 rfl rfl rfl) (zd_b zq_prog_1_method_28_code_0 18 rfl rfl rfl) (zd_b zq_prog_1_method_28_code_0 19 rfl rfl rfl)
theorem d_Ip_minutes_20 : decode prog_1_method_28_code 20 = .ok (.athrow, 1) := zo_191 (zd_b zq_prog_1_method_28_code_0 20 rfl rfl rfl)
theorem d_Ip_minutes_21 : decode prog_1_method_28_code 21 = .ok (.aload_n 0, 1) := zo_42 (zd_b zq_prog_1_method_28_code_0 21 rfl rfl rfl)
theorem d_Ip_minutes_22 : decode prog_1_method_28_code 22 = .ok (.getfield 50, 3) := zo_180 (d := 0) (e := 50) (zd_b zq_prog_1_method_28_code_0 22 rfl rfl rfl) (zd_b zq_prog_1_method_28_code_0 23 rfl rfl rfl) (zd_b zq_prog_1_method_28_code_0 24 rfl rfl rfl)
theorem d_Ip_minutes_25 : decode prog_1_method_28_code 25 = .ok (.iload_n 1, 1) := zo_27 (zd_b zq_prog_1_method_28_code_0 25 rfl rfl rfl)
theorem d_Ip_minutes_26 : decode prog_1_method_28_code 26 = .ok (.invokevirtual 338, 3) := zo_182 (d := 1) (e := 82) (zd_b zq_prog_1_method_28_code_0 26 rfl rfl rfl) (zd_b zq_prog_1_method_28_code_0 27 rfl rfl rfl) (zd_b zq_prog_1_method_28_code_0 28 rfl rfl rfl)
theorem ok_Ip_minutes_La_fadeFor : z_ok M_Ip_minutes M_La_fadeFor 1 := ⟨z_mj5 (i := 143) rfl (by decide +kernel), rfl, ⟨by decide +kernel, by decide +kernel, by decide +kernel⟩, ⟨by decide, by decide⟩, z_mj1 (i := 9) rfl (by decide +kernel), rfl⟩
theorem ln_Ip_338 : Cond.methodLink "Ironpour" 338 M_La_fadeFor.1 ∈ z_gw := z_mj5 (i := 140) rfl (by decide +kernel)
theorem w_im_La_fadeFor : Cond.instanceMethod M_La_fadeFor.1 ∈ z_gw := z_mj5 (i := 141) rfl (by decide +kernel)
theorem w_se_La_fadeFor : Cond.selects M_La_fadeFor.1.cls M_La_fadeFor.1 M_La_fadeFor.1 ∈ z_gw := z_mj5 (i := 142) rfl (by decide +kernel)
theorem d_Ip_minutes_29 : decode prog_1_method_28_code 29 = .ok (.iconst 0, 1) := zo_3 (zd_b zq_prog_1_method_28_code_0 29 rfl rfl rfl)
theorem d_Ip_minutes_30 : decode prog_1_method_28_code 30 = .ok (.istore_n 2, 1) := zo_61 (zd_b zq_prog_1_method_28_code_0 30 rfl rfl rfl)
theorem d_Ip_minutes_31 : decode prog_1_method_28_code 31 = .ok (.iload_n 2, 1) := zo_28 (zd_b zq_prog_1_method_28_code_0 31 rfl rfl rfl)
theorem d_Ip_minutes_32 : decode prog_1_method_28_code 32 = .ok (.aload_n 0, 1) := zo_42 (zd_b zq_prog_1_method_28_code_1 0 rfl rfl rfl)
theorem d_Ip_minutes_33 : decode prog_1_method_28_code 33 = .ok (.getfield 74, 3) := zo_180 (d := 0) (e := 74) (zd_b zq_prog_1_method_28_code_1 1 rfl rfl rfl) (zd_b zq_prog_1_method_28_code_1 2 rfl rfl rfl) (zd_b zq_prog_1_method_28_code_1 3 rfl rfl rfl)
theorem fs_Ip_74 : z_fs "Ironpour" 74 11 10 := ⟨R_Ip, "Ironpour", F_Ip, 12, rfl, u_Ip, by decide, Or.inl ⟨z_mj2 (i := 73) rfl (by decide +kernel), Or.inl rfl⟩⟩
theorem d_Ip_minutes_36 : decode prog_1_method_28_code 36 = .ok (.invokevirtual 341, 3) := zo_182 (d := 1) (e := 85) (zd_b zq_prog_1_method_28_code_1 4 rfl rfl rfl) (zd_b zq_prog_1_method_28_code_1 5 rfl rfl rfl) (zd_b zq_prog_1_method_28_code_1 6 rfl rfl rfl)
theorem ok_Ip_minutes_AL_size : z_ok M_Ip_minutes M_AL_size 0 := ⟨z_mj2 (i := 172) rfl (by decide +kernel), rfl, ⟨by decide +kernel, by decide +kernel, by decide +kernel⟩, ⟨by decide, by decide⟩, z_mj1 (i := 13) rfl (by decide +kernel), rfl⟩
theorem ln_Ip_341 : Cond.methodLink "Ironpour" 341 M_AL_size.1 ∈ z_gw := z_mj2 (i := 169) rfl (by decide +kernel)
theorem d_Ip_minutes_39 : decode prog_1_method_28_code 39 = .ok (.if_icmp .ge 29, 3) := zo_162 (d := 0) (e := 29) (zd_b zq_prog_1_method_28_code_1 7 rfl rfl rfl) (zd_b zq_prog_1_method_28_code_1 8 rfl rfl rfl) (zd_b zq_prog_1_method_28_code_1 9 rfl rfl rfl) (by decide +kernel)
theorem d_Ip_minutes_68 : decode prog_1_method_28_code 68 = .ok (.aload_n 0, 1) := zo_42 (zd_b zq_prog_1_method_28_code_2 4 rfl rfl rfl)
theorem d_Ip_minutes_69 : decode prog_1_method_28_code 69 = .ok (.getfield 50, 3) := zo_180 (d := 0) (e := 50) (zd_b zq_prog_1_method_28_code_2 5 rfl rfl rfl) (zd_b zq_prog_1_method_28_code_2 6 rfl rfl rfl) (zd_b zq_prog_1_method_28_code_2 7 rfl rfl rfl)
theorem d_Ip_minutes_72 : decode prog_1_method_28_code 72 = .ok (.invokevirtual 314, 3) := zo_182 (d := 1) (e := 58) (zd_b zq_prog_1_method_28_code_2 8 rfl rfl rfl) (zd_b zq_prog_1_method_28_code_2 9 rfl rfl rfl) (zd_b zq_prog_1_method_28_code_2 10 rfl rfl rfl)
theorem ok_Ip_minutes_La_isEmpty : z_ok M_Ip_minutes M_La_isEmpty 0 := ⟨z_mj5 (i := 110) rfl (by decide +kernel), rfl, ⟨by decide +kernel, by decide +kernel, by decide +kernel⟩, ⟨by decide, by decide⟩, z_mj1 (i := 9) rfl (by decide +kernel), rfl⟩
theorem d_Ip_minutes_75 : decode prog_1_method_28_code 75 = .ok (.ifCond .eq 7, 3) := zo_153 (d := 0) (e := 7) (zd_b zq_prog_1_method_28_code_2 11 rfl rfl rfl) (zd_b zq_prog_1_method_28_code_2 12 rfl rfl rfl) (zd_b zq_prog_1_method_28_code_2 13 rfl rfl rfl) (by decide +kernel)
theorem d_Ip_minutes_82 : decode prog_1_method_28_code 82 = .ok (.aload_n 0, 1) := zo_42 (zd_b zq_prog_1_method_28_code_2 18 rfl rfl rfl)
theorem d_Ip_minutes_83 : decode prog_1_method_28_code 83 = .ok (.getfield 50, 3) := zo_180 (d := 0) (e := 50) (zd_b zq_prog_1_method_28_code_2 19 rfl rfl rfl) (zd_b zq_prog_1_method_28_code_2 20 rfl rfl rfl) (zd_b zq_prog_1_method_28_code_2 21 rfl rfl rfl)
theorem d_Ip_minutes_86 : decode prog_1_method_28_code 86 = .ok (.getfield 353, 3) := zo_180 (d := 1) (e := 97) (zd_b zq_prog_1_method_28_code_2 22 rfl rfl rfl) (zd_b zq_prog_1_method_28_code_2 23 rfl rfl rfl) (zd_b zq_prog_1_method_28_code_2 24 rfl rfl rfl)
theorem d_Ip_minutes_89 : decode prog_1_method_28_code 89 = .ok (.ireturn, 1) := zo_172 (zd_b zq_prog_1_method_28_code_2 25 rfl rfl rfl)
theorem d_Ip_minutes_78 : decode prog_1_method_28_code 78 = .ok (.iconst 0, 1) := zo_3 (zd_b zq_prog_1_method_28_code_2 14 rfl rfl rfl)
theorem d_Ip_minutes_79 : decode prog_1_method_28_code 79 = .ok (.goto 10, 3) := zo_167 (d := 0) (e := 10) (zd_b zq_prog_1_method_28_code_2 15 rfl rfl rfl) (zd_b zq_prog_1_method_28_code_2 16 rfl rfl rfl) (zd_b zq_prog_1_method_28_code_2 17 rfl rfl rfl) (by decide +kernel)
abbrev M_Ip_mould : zM := (⟨"Ironpour", "mould", "()I"⟩, prog_1_method_35_code, 2, (Option.some FieldType.int), 8, 231, [])
theorem d_Ip_mould_0 : decode prog_1_method_35_code 0 = .ok (.aload_n 0, 1) := zo_42 (zd_b zq_prog_1_method_35_code_0 0 rfl rfl rfl)
theorem d_Ip_mould_1 : decode prog_1_method_35_code 1 = .ok (.getfield 10, 3) := zo_180 (d := 0) (e := 10) (zd_b zq_prog_1_method_35_code_0 1 rfl rfl rfl) (zd_b zq_prog_1_method_35_code_0 2 rfl rfl rfl) (zd_b zq_prog_1_method_35_code_0 3 rfl rfl rfl)
theorem d_Ip_mould_4 : decode prog_1_method_35_code 4 = .ok (.invokevirtual 147, 3) := zo_182 (d := 0) (e := 147) (zd_b zq_prog_1_method_35_code_0 4 rfl rfl rfl) (zd_b zq_prog_1_method_35_code_0 5 rfl rfl rfl) (zd_b zq_prog_1_method_35_code_0 6 rfl rfl rfl)
theorem ok_Ip_mould_Pa_gatesOnTop : z_ok M_Ip_mould M_Pa_gatesOnTop 0 := ⟨z_mj4 (i := 63) rfl (by decide +kernel), rfl, ⟨by decide +kernel, by decide +kernel, by decide +kernel⟩, ⟨by decide, by decide⟩, z_mj1 (i := 2) rfl (by decide +kernel), rfl⟩
theorem d_Ip_mould_7 : decode prog_1_method_35_code 7 = .ok (.ifCond .eq 13, 3) := zo_153 (d := 0) (e := 13) (zd_b zq_prog_1_method_35_code_0 7 rfl rfl rfl) (zd_b zq_prog_1_method_35_code_0 8 rfl rfl rfl) (zd_b zq_prog_1_method_35_code_0 9 rfl rfl rfl) (by decide +kernel)
theorem d_Ip_mould_20 : decode prog_1_method_35_code 20 = .ok (.new 150, 3) := zo_187 (d := 0) (e := 150) (zd_b zq_prog_1_method_35_code_0 20 rfl rfl rfl) (zd_b zq_prog_1_method_35_code_0 21 rfl rfl rfl) (zd_b zq_prog_1_method_35_code_0 22 rfl rfl rfl)
theorem sr_Ip_401 : Cond.stringRef "Ironpour" 401 "no gate in the row 0, or no cell of the casting" ∈ lw_tbl := z_tb5 (i := 223) rfl
theorem d_Ip_mould_23 : decode prog_1_method_35_code 23 = .ok (.dup, 1) := zo_89 (zd_b zq_prog_1_method_35_code_0 23 rfl rfl rfl)
theorem d_Ip_mould_24 : decode prog_1_method_35_code 24 = .ok (.ldc_w 401, 3) := zo_19 (d := 1) (e := 145) (zd_b zq_prog_1_method_35_code_0 24 rfl rfl rfl) (zd_b zq_prog_1_method_35_code_0 25 rfl rfl rfl) (zd_b zq_prog_1_method_35_code_0 26 rfl rfl rfl)
theorem d_Ip_mould_27 : decode prog_1_method_35_code 27 = .ok (.invokespecial 154, 3) := zo_183 (d := 0) (e := 154) (zd_b zq_prog_1_method_35_code_0 27 rfl rfl rfl) (zd_b zq_prog_1_method_35_code_0 28 rfl rfl rfl) (zd_b zq_prog_1_method_35_code_0 29 rfl rfl rfl)
theorem d_Ip_mould_30 : decode prog_1_method_35_code 30 = .ok (.athrow, 1) := zo_191 (zd_b zq_prog_1_method_35_code_0 30 rfl rfl rfl)
theorem d_Ip_mould_10 : decode prog_1_method_35_code 10 = .ok (.aload_n 0, 1) := zo_42 (zd_b zq_prog_1_method_35_code_0 10 rfl rfl rfl)
theorem d_Ip_mould_11 : decode prog_1_method_35_code 11 = .ok (.getfield 10, 3) := zo_180 (d := 0) (e := 10) (zd_b zq_prog_1_method_35_code_0 11 rfl rfl rfl) (zd_b zq_prog_1_method_35_code_0 12 rfl rfl rfl) (zd_b zq_prog_1_method_35_code_0 13 rfl rfl rfl)
theorem d_Ip_mould_14 : decode prog_1_method_35_code 14 = .ok (.invokevirtual 398, 3) := zo_182 (d := 1) (e := 142) (zd_b zq_prog_1_method_35_code_0 14 rfl rfl rfl) (zd_b zq_prog_1_method_35_code_0 15 rfl rfl rfl) (zd_b zq_prog_1_method_35_code_0 16 rfl rfl rfl)
theorem ok_Ip_mould_Pa_hasCasting : z_ok M_Ip_mould M_Pa_hasCasting 0 := ⟨z_mj5 (i := 222) rfl (by decide +kernel), rfl, ⟨by decide +kernel, by decide +kernel, by decide +kernel⟩, ⟨by decide, by decide⟩, z_mj1 (i := 2) rfl (by decide +kernel), rfl⟩
theorem ln_Ip_398 : Cond.methodLink "Ironpour" 398 M_Pa_hasCasting.1 ∈ z_gw := z_mj5 (i := 219) rfl (by decide +kernel)
theorem w_im_Pa_hasCasting : Cond.instanceMethod M_Pa_hasCasting.1 ∈ z_gw := z_mj5 (i := 220) rfl (by decide +kernel)
theorem w_se_Pa_hasCasting : Cond.selects M_Pa_hasCasting.1.cls M_Pa_hasCasting.1 M_Pa_hasCasting.1 ∈ z_gw := z_mj5 (i := 221) rfl (by decide +kernel)
theorem d_Ip_mould_17 : decode prog_1_method_35_code 17 = .ok (.ifCond .ne 14, 3) := zo_154 (d := 0) (e := 14) (zd_b zq_prog_1_method_35_code_0 17 rfl rfl rfl) (zd_b zq_prog_1_method_35_code_0 18 rfl rfl rfl) (zd_b zq_prog_1_method_35_code_0 19 rfl rfl rfl) (by decide +kernel)
set_option maxHeartbeats 4000000 in
set_option maxRecDepth 100000 in
theorem C_Ip_mouldE (g : zG) (a pa ta sa gs co fu la gy du re wm ac : Nat) (pa1 pa2 pa3 : Nat) (f sn : Nat → Int32) (qn : Nat → Nat) (p : Nat) (hE : fa_cnt (fun k => decide (f k = 103)) 12 = 0 ∨ anB (fun k => decide (f k = 99)) 108 = false) : CT g M_Ip_mould [.ref a] [(a, .inr (11, [.ref pa, .ref ta, .ref sa, .ref gs, .ref co, .ref fu, .ref la, .ref gy, .ref du, .ref re, .ref wm, .ref ac])), (pa, .inr (8, [.ref pa1, .ref pa2, .ref pa3, .int (nI p)])), (pa1, .inl (1, 108, .inl f)), (pa2, .inl (2, 108, .inl sn)), (pa3, .inl (0, 108, .inl (fun k => nI (qn k))))] (fun o cs1 => o = .inr "java/util/NoSuchElementException" ∧ cs1 = [(a, .inr (11, [.ref pa, .ref ta, .ref sa, .ref gs, .ref co, .ref fu, .ref la, .ref gy, .ref du, .ref re, .ref wm, .ref ac])), (pa, .inr (8, [.ref pa1, .ref pa2, .ref pa3, .int (nI p)])), (pa1, .inl (1, 108, .inl f)), (pa2, .inl (2, 108, .inl sn)), (pa3, .inl (0, 108, .inl (fun k => nI (qn k))))]) 1 6 := by
  refine z_of (by decide) rfl (Nat.le_of_ble_eq_true rfl) (fun w0 => ?_)
  refine r_lvE (lv2 := [(0, .ref a)]) rfl ?_
  refine r_aload_n d_Ip_mould_0 rfl 0 rfl ?_
  refine r_get fs_Ip_10 d_Ip_mould_1 (q0 := 0) rfl rfl ?_
  refine r_callV (As := []) (rest := []) (csC := [(pa, .inr (8, [.ref pa1, .ref pa2, .ref pa3, .int (nI p)])), (pa1, .inl (1, 108, .inl f)), (pa2, .inl (2, 108, .inl sn)), (pa3, .inl (0, 108, .inl (fun k => nI (qn k))))]) (is := [1, 2, 3, 4]) (q0 := 1) rfl rfl ln_Ip_147 w_im_Pa_gatesOnTop w_se_Pa_gatesOnTop ok_Ip_mould_Pa_gatesOnTop d_Ip_mould_4 (C_Pa_gatesOnTop g pa pa1 pa2 pa3 f sn (fun k => nI (qn k)) (nI p)) rfl rfl (Nat.le_of_ble_eq_true rfl) rfl (by decide) (by omega) (by omega) (fun E cs1 hx => ?_) (fun v cs1 hx => ?_)
  · exact absurd hx.1 (by simp)
  · obtain ⟨e1, rfl⟩ := hx
    cases e1
    refine ⟨rfl, ?_⟩
    refine r_st (st2 := [.int (nI (fa_cnt (fun k => decide (f k = 103)) 12))]) rfl ?_
    refine r_cs (cs2 := [(a, .inr (11, [.ref pa, .ref ta, .ref sa, .ref gs, .ref co, .ref fu, .ref la, .ref gy, .ref du, .ref re, .ref wm, .ref ac])), (pa, .inr (8, [.ref pa1, .ref pa2, .ref pa3, .int (nI p)])), (pa1, .inl (1, 108, .inl f)), (pa2, .inl (2, 108, .inl sn)), (pa3, .inl (0, 108, .inl (fun k => nI (qn k))))]) rfl ?_
    refine r_if_eq (tgt := 20) d_Ip_mould_7 (by decide) (fun c_7 => ?_) (fun c_7 => ?_)
    · refine r_throwXW tb_Ip_150_154 sr_Ip_401 d_Ip_mould_20 d_Ip_mould_23 d_Ip_mould_24 d_Ip_mould_27 d_Ip_mould_30 rfl (by decide) (by decide) (Nat.le_of_ble_eq_true rfl) (by omega) (by omega) ?_
      exact ⟨rfl, rfl⟩
    · refine r_aload_n d_Ip_mould_10 rfl 0 rfl ?_
      refine r_get fs_Ip_10 d_Ip_mould_11 (q0 := 0) rfl rfl ?_
      refine r_callV (As := []) (rest := []) (csC := [(pa, .inr (8, [.ref pa1, .ref pa2, .ref pa3, .int (nI p)])), (pa1, .inl (1, 108, .inl f)), (pa2, .inl (2, 108, .inl sn)), (pa3, .inl (0, 108, .inl (fun k => nI (qn k))))]) (is := [1, 2, 3, 4]) (q0 := 1) rfl rfl ln_Ip_398 w_im_Pa_hasCasting w_se_Pa_hasCasting ok_Ip_mould_Pa_hasCasting d_Ip_mould_14 (C_Pa_hasCasting g pa pa1 pa2 pa3 f sn (fun k => nI (qn k)) (nI p)) rfl rfl (Nat.le_of_ble_eq_true rfl) rfl (by decide) (by omega) (by omega) (fun E cs1 hx => ?_) (fun v cs1 hx => ?_)
      · exact absurd hx.1 (by simp)
      · obtain ⟨e1, rfl⟩ := hx
        cases e1
        refine ⟨rfl, ?_⟩
        refine r_st (st2 := [.int (z_bi (anB (fun k => decide (f k = 99)) 108))]) rfl ?_
        refine r_cs (cs2 := [(a, .inr (11, [.ref pa, .ref ta, .ref sa, .ref gs, .ref co, .ref fu, .ref la, .ref gy, .ref du, .ref re, .ref wm, .ref ac])), (pa, .inr (8, [.ref pa1, .ref pa2, .ref pa3, .int (nI p)])), (pa1, .inl (1, 108, .inl f)), (pa2, .inl (2, 108, .inl sn)), (pa3, .inl (0, 108, .inl (fun k => nI (qn k))))]) rfl ?_
        refine r_if_ne (tgt := 31) d_Ip_mould_17 (by decide) (fun c_17 => ?_) (fun c_17 => ?_)
        · exact absurd hE (fun q => q.elim (fun e => c_7 (by rw [e]; rfl)) (fun e => by have := z_bi1 c_17; rw [e] at this; cases this))
        · refine r_throwXW tb_Ip_150_154 sr_Ip_401 d_Ip_mould_20 d_Ip_mould_23 d_Ip_mould_24 d_Ip_mould_27 d_Ip_mould_30 rfl (by decide) (by decide) (Nat.le_of_ble_eq_true rfl) (by omega) (by omega) ?_
          exact ⟨rfl, rfl⟩
abbrev M_Ip_waiting : zM := (⟨"Ironpour", "waiting", "(I)I"⟩, prog_1_method_36_code, 2, (Option.some FieldType.int), 6, 100, [])
theorem d_Ip_waiting_0 : decode prog_1_method_36_code 0 = .ok (.iload_n 1, 1) := zo_27 (zd_b zq_prog_1_method_36_code_0 0 rfl rfl rfl)
theorem d_Ip_waiting_1 : decode prog_1_method_36_code 1 = .ok (.ifCond .lt 14, 3) := zo_155 (d := 0) (e := 14) (zd_b zq_prog_1_method_36_code_0 1 rfl rfl rfl) (zd_b zq_prog_1_method_36_code_0 2 rfl rfl rfl) (zd_b zq_prog_1_method_36_code_0 3 rfl rfl rfl) (by decide +kernel)
theorem d_Ip_waiting_15 : decode prog_1_method_36_code 15 = .ok (.new 150, 3) := zo_187 (d := 0) (e := 150) (zd_b zq_prog_1_method_36_code_0 15 rfl rfl rfl) (zd_b zq_prog_1_method_36_code_0 16 rfl rfl rfl) (zd_b zq_prog_1_method_36_code_0 17 rfl rfl rfl)
theorem sr_Ip_420 : Cond.stringRef "Ironpour" 420 "no such mould" ∈ lw_tbl := z_tb6 (i := 104) rfl
theorem d_Ip_waiting_18 : decode prog_1_method_36_code 18 = .ok (.dup, 1) := zo_89 (zd_b zq_prog_1_method_36_code_0 18 rfl rfl rfl)
theorem d_Ip_waiting_19 : decode prog_1_method_36_code 19 = .ok (.ldc_w 420, 3) := zo_19 (d := 1) (e := 164) (zd_b zq_prog_1_method_36_code_0 19 rfl rfl rfl) (zd_b zq_prog_1_method_36_code_0 20 rfl rfl rfl) (zd_b zq_prog_1_method_36_code_0 21 rfl rfl rfl)
theorem d_Ip_waiting_22 : decode prog_1_method_36_code 22 = .ok (.invokespecial 154, 3) := zo_183 (d := 0) (e := 154) (zd_b zq_prog_1_method_36_code_0 22 rfl rfl rfl) (zd_b zq_prog_1_method_36_code_0 23 rfl rfl rfl) (zd_b zq_prog_1_method_36_code_0 24 rfl rfl rfl)
theorem d_Ip_waiting_25 : decode prog_1_method_36_code 25 = .ok (.athrow, 1) := zo_191 (zd_b zq_prog_1_method_36_code_0 25 rfl rfl rfl)
theorem d_Ip_waiting_4 : decode prog_1_method_36_code 4 = .ok (.iload_n 1, 1) := zo_27 (zd_b zq_prog_1_method_36_code_0 4 rfl rfl rfl)
theorem d_Ip_waiting_5 : decode prog_1_method_36_code 5 = .ok (.aload_n 0, 1) := zo_42 (zd_b zq_prog_1_method_36_code_0 5 rfl rfl rfl)
theorem d_Ip_waiting_6 : decode prog_1_method_36_code 6 = .ok (.getfield 74, 3) := zo_180 (d := 0) (e := 74) (zd_b zq_prog_1_method_36_code_0 6 rfl rfl rfl) (zd_b zq_prog_1_method_36_code_0 7 rfl rfl rfl) (zd_b zq_prog_1_method_36_code_0 8 rfl rfl rfl)
theorem d_Ip_waiting_9 : decode prog_1_method_36_code 9 = .ok (.invokevirtual 341, 3) := zo_182 (d := 1) (e := 85) (zd_b zq_prog_1_method_36_code_0 9 rfl rfl rfl) (zd_b zq_prog_1_method_36_code_0 10 rfl rfl rfl) (zd_b zq_prog_1_method_36_code_0 11 rfl rfl rfl)
theorem ok_Ip_waiting_AL_size : z_ok M_Ip_waiting M_AL_size 0 := ⟨z_mj2 (i := 172) rfl (by decide +kernel), rfl, ⟨by decide +kernel, by decide +kernel, by decide +kernel⟩, ⟨by decide, by decide⟩, z_mj1 (i := 13) rfl (by decide +kernel), rfl⟩
theorem d_Ip_waiting_12 : decode prog_1_method_36_code 12 = .ok (.if_icmp .lt 14, 3) := zo_161 (d := 0) (e := 14) (zd_b zq_prog_1_method_36_code_0 12 rfl rfl rfl) (zd_b zq_prog_1_method_36_code_0 13 rfl rfl rfl) (zd_b zq_prog_1_method_36_code_0 14 rfl rfl rfl) (by decide +kernel)
abbrev M_Ip_pour : zM := (⟨"Ironpour", "pour", "()I"⟩, prog_1_method_37_code, 1, (Option.some FieldType.int), 8, 231, [])
theorem d_Ip_pour_0 : decode prog_1_method_37_code 0 = .ok (.aload_n 0, 1) := zo_42 (zd_b zq_prog_1_method_37_code_0 0 rfl rfl rfl)
theorem d_Ip_pour_1 : decode prog_1_method_37_code 1 = .ok (.getfield 74, 3) := zo_180 (d := 0) (e := 74) (zd_b zq_prog_1_method_37_code_0 1 rfl rfl rfl) (zd_b zq_prog_1_method_37_code_0 2 rfl rfl rfl) (zd_b zq_prog_1_method_37_code_0 3 rfl rfl rfl)
theorem d_Ip_pour_4 : decode prog_1_method_37_code 4 = .ok (.invokevirtual 422, 3) := zo_182 (d := 1) (e := 166) (zd_b zq_prog_1_method_37_code_0 4 rfl rfl rfl) (zd_b zq_prog_1_method_37_code_0 5 rfl rfl rfl) (zd_b zq_prog_1_method_37_code_0 6 rfl rfl rfl)
theorem ok_Ip_pour_AL_isEmpty : z_ok M_Ip_pour M_AL_isEmpty 0 := ⟨z_mj6 (i := 115) rfl (by decide +kernel), rfl, ⟨by decide +kernel, by decide +kernel, by decide +kernel⟩, ⟨by decide, by decide⟩, z_mj1 (i := 13) rfl (by decide +kernel), rfl⟩
theorem ln_Ip_422 : Cond.methodLink "Ironpour" 422 M_AL_isEmpty.1 ∈ z_gw := z_mj6 (i := 112) rfl (by decide +kernel)
theorem d_Ip_pour_7 : decode prog_1_method_37_code 7 = .ok (.ifCond .eq 14, 3) := zo_153 (d := 0) (e := 14) (zd_b zq_prog_1_method_37_code_0 7 rfl rfl rfl) (zd_b zq_prog_1_method_37_code_0 8 rfl rfl rfl) (zd_b zq_prog_1_method_37_code_0 9 rfl rfl rfl) (by decide +kernel)
theorem d_Ip_pour_10 : decode prog_1_method_37_code 10 = .ok (.new 150, 3) := zo_187 (d := 0) (e := 150) (zd_b zq_prog_1_method_37_code_0 10 rfl rfl rfl) (zd_b zq_prog_1_method_37_code_0 11 rfl rfl rfl) (zd_b zq_prog_1_method_37_code_0 12 rfl rfl rfl)
theorem sr_Ip_423 : Cond.stringRef "Ironpour" 423 "no mould waits" ∈ lw_tbl := z_tb6 (i := 116) rfl
theorem d_Ip_pour_13 : decode prog_1_method_37_code 13 = .ok (.dup, 1) := zo_89 (zd_b zq_prog_1_method_37_code_0 13 rfl rfl rfl)
theorem d_Ip_pour_14 : decode prog_1_method_37_code 14 = .ok (.ldc_w 423, 3) := zo_19 (d := 1) (e := 167) (zd_b zq_prog_1_method_37_code_0 14 rfl rfl rfl) (zd_b zq_prog_1_method_37_code_0 15 rfl rfl rfl) (zd_b zq_prog_1_method_37_code_0 16 rfl rfl rfl)
theorem d_Ip_pour_17 : decode prog_1_method_37_code 17 = .ok (.invokespecial 154, 3) := zo_183 (d := 0) (e := 154) (zd_b zq_prog_1_method_37_code_0 17 rfl rfl rfl) (zd_b zq_prog_1_method_37_code_0 18 rfl rfl rfl) (zd_b zq_prog_1_method_37_code_0 19 rfl rfl rfl)
theorem d_Ip_pour_20 : decode prog_1_method_37_code 20 = .ok (.athrow, 1) := zo_191 (zd_b zq_prog_1_method_37_code_0 20 rfl rfl rfl)
abbrev M_Ip_castings : zM := (⟨"Ironpour", "castings", "()I"⟩, prog_1_method_38_code, 1, (Option.some FieldType.int), 2, 40, [])
theorem d_Ip_castings_0 : decode prog_1_method_38_code 0 = .ok (.aload_n 0, 1) := zo_42 (zd_b zq_prog_1_method_38_code_0 0 rfl rfl rfl)
theorem d_Ip_castings_1 : decode prog_1_method_38_code 1 = .ok (.getfield 78, 3) := zo_180 (d := 0) (e := 78) (zd_b zq_prog_1_method_38_code_0 1 rfl rfl rfl) (zd_b zq_prog_1_method_38_code_0 2 rfl rfl rfl) (zd_b zq_prog_1_method_38_code_0 3 rfl rfl rfl)
theorem fs_Ip_78 : z_fs "Ironpour" 78 11 11 := ⟨R_Ip, "Ironpour", F_Ip, 12, rfl, u_Ip, by decide, Or.inl ⟨z_mj2 (i := 74) rfl (by decide +kernel), Or.inl rfl⟩⟩
theorem d_Ip_castings_4 : decode prog_1_method_38_code 4 = .ok (.invokevirtual 341, 3) := zo_182 (d := 1) (e := 85) (zd_b zq_prog_1_method_38_code_0 4 rfl rfl rfl) (zd_b zq_prog_1_method_38_code_0 5 rfl rfl rfl) (zd_b zq_prog_1_method_38_code_0 6 rfl rfl rfl)
theorem ok_Ip_castings_AL_size : z_ok M_Ip_castings M_AL_size 0 := ⟨z_mj2 (i := 172) rfl (by decide +kernel), rfl, ⟨by decide +kernel, by decide +kernel, by decide +kernel⟩, ⟨by decide, by decide⟩, z_mj1 (i := 13) rfl (by decide +kernel), rfl⟩
theorem d_Ip_castings_7 : decode prog_1_method_38_code 7 = .ok (.ireturn, 1) := zo_172 (zd_b zq_prog_1_method_38_code_0 7 rfl rfl rfl)
abbrev M_Ip_castingAt : zM := (⟨"Ironpour", "castingAt", "(I)LIronpour$Casting;"⟩, prog_1_method_64_code, 2, (Option.some (FieldType.object "Ironpour$Casting")), 6, 100, [])
theorem d_Ip_castingAt_0 : decode prog_1_method_64_code 0 = .ok (.iload_n 1, 1) := zo_27 (zd_b zq_prog_1_method_64_code_0 0 rfl rfl rfl)
theorem d_Ip_castingAt_1 : decode prog_1_method_64_code 1 = .ok (.ifCond .lt 14, 3) := zo_155 (d := 0) (e := 14) (zd_b zq_prog_1_method_64_code_0 1 rfl rfl rfl) (zd_b zq_prog_1_method_64_code_0 2 rfl rfl rfl) (zd_b zq_prog_1_method_64_code_0 3 rfl rfl rfl) (by decide +kernel)
theorem d_Ip_castingAt_15 : decode prog_1_method_64_code 15 = .ok (.new 509, 3) := zo_187 (d := 1) (e := 253) (zd_b zq_prog_1_method_64_code_0 15 rfl rfl rfl) (zd_b zq_prog_1_method_64_code_0 16 rfl rfl rfl) (zd_b zq_prog_1_method_64_code_0 17 rfl rfl rfl)
theorem sr_Ip_540 : Cond.stringRef "Ironpour" 540 "no such casting" ∈ lw_tbl := z_tb6 (i := 194) rfl
theorem d_Ip_castingAt_18 : decode prog_1_method_64_code 18 = .ok (.dup, 1) := zo_89 (zd_b zq_prog_1_method_64_code_0 18 rfl rfl rfl)
theorem d_Ip_castingAt_19 : decode prog_1_method_64_code 19 = .ok (.ldc_w 540, 3) := zo_19 (d := 2) (e := 28) (zd_b zq_prog_1_method_64_code_0 19 rfl rfl rfl) (zd_b zq_prog_1_method_64_code_0 20 rfl rfl rfl) (zd_b zq_prog_1_method_64_code_0 21 rfl rfl rfl)
theorem d_Ip_castingAt_22 : decode prog_1_method_64_code 22 = .ok (.invokespecial 513, 3) := zo_183 (d := 2) (e := 1) (zd_b zq_prog_1_method_64_code_0 22 rfl rfl rfl) (zd_b zq_prog_1_method_64_code_0 23 rfl rfl rfl) (zd_b zq_prog_1_method_64_code_0 24 rfl rfl rfl)
theorem d_Ip_castingAt_25 : decode prog_1_method_64_code 25 = .ok (.athrow, 1) := zo_191 (zd_b zq_prog_1_method_64_code_0 25 rfl rfl rfl)
theorem d_Ip_castingAt_4 : decode prog_1_method_64_code 4 = .ok (.iload_n 1, 1) := zo_27 (zd_b zq_prog_1_method_64_code_0 4 rfl rfl rfl)
theorem d_Ip_castingAt_5 : decode prog_1_method_64_code 5 = .ok (.aload_n 0, 1) := zo_42 (zd_b zq_prog_1_method_64_code_0 5 rfl rfl rfl)
theorem d_Ip_castingAt_6 : decode prog_1_method_64_code 6 = .ok (.getfield 78, 3) := zo_180 (d := 0) (e := 78) (zd_b zq_prog_1_method_64_code_0 6 rfl rfl rfl) (zd_b zq_prog_1_method_64_code_0 7 rfl rfl rfl) (zd_b zq_prog_1_method_64_code_0 8 rfl rfl rfl)
theorem d_Ip_castingAt_9 : decode prog_1_method_64_code 9 = .ok (.invokevirtual 341, 3) := zo_182 (d := 1) (e := 85) (zd_b zq_prog_1_method_64_code_0 9 rfl rfl rfl) (zd_b zq_prog_1_method_64_code_0 10 rfl rfl rfl) (zd_b zq_prog_1_method_64_code_0 11 rfl rfl rfl)
theorem ok_Ip_castingAt_AL_size : z_ok M_Ip_castingAt M_AL_size 0 := ⟨z_mj2 (i := 172) rfl (by decide +kernel), rfl, ⟨by decide +kernel, by decide +kernel, by decide +kernel⟩, ⟨by decide, by decide⟩, z_mj1 (i := 13) rfl (by decide +kernel), rfl⟩
theorem d_Ip_castingAt_12 : decode prog_1_method_64_code 12 = .ok (.if_icmp .lt 14, 3) := zo_161 (d := 0) (e := 14) (zd_b zq_prog_1_method_64_code_0 12 rfl rfl rfl) (zd_b zq_prog_1_method_64_code_0 13 rfl rfl rfl) (zd_b zq_prog_1_method_64_code_0 14 rfl rfl rfl) (by decide +kernel)
abbrev M_Ip_alloy : zM := (⟨"Ironpour", "alloy", "(I)C"⟩, prog_1_method_39_code, 2, (Option.some FieldType.char), 7, 121, [])
theorem d_Ip_alloy_0 : decode prog_1_method_39_code 0 = .ok (.aload_n 0, 1) := zo_42 (zd_b zq_prog_1_method_39_code_0 0 rfl rfl rfl)
theorem d_Ip_alloy_1 : decode prog_1_method_39_code 1 = .ok (.iload_n 1, 1) := zo_27 (zd_b zq_prog_1_method_39_code_0 1 rfl rfl rfl)
theorem d_Ip_alloy_2 : decode prog_1_method_39_code 2 = .ok (.invokevirtual 436, 3) := zo_182 (d := 1) (e := 180) (zd_b zq_prog_1_method_39_code_0 2 rfl rfl rfl) (zd_b zq_prog_1_method_39_code_0 3 rfl rfl rfl) (zd_b zq_prog_1_method_39_code_0 4 rfl rfl rfl)
theorem ok_Ip_alloy_Ip_castingAt : z_ok M_Ip_alloy M_Ip_castingAt 1 := ⟨z_mj6 (i := 193) rfl (by decide +kernel), rfl, ⟨by decide +kernel, by decide +kernel, by decide +kernel⟩, ⟨by decide, by decide⟩, z_mj1 (i := 1) rfl (by decide +kernel), rfl⟩
theorem ln_Ip_436 : Cond.methodLink "Ironpour" 436 M_Ip_castingAt.1 ∈ z_gw := z_mj6 (i := 190) rfl (by decide +kernel)
theorem w_im_Ip_castingAt : Cond.instanceMethod M_Ip_castingAt.1 ∈ z_gw := z_mj6 (i := 192) rfl (by decide +kernel)
theorem w_se_Ip_castingAt : Cond.selects M_Ip_castingAt.1.cls M_Ip_castingAt.1 M_Ip_castingAt.1 ∈ z_gw := z_mem (i := 27) (by decide +kernel) (by decide +kernel)
abbrev M_Ip_faults : zM := (⟨"Ironpour", "faults", "(I)I"⟩, prog_1_method_40_code, 2, (Option.some FieldType.int), 7, 121, [])
theorem d_Ip_faults_0 : decode prog_1_method_40_code 0 = .ok (.aload_n 0, 1) := zo_42 (zd_b zq_prog_1_method_40_code_0 0 rfl rfl rfl)
theorem d_Ip_faults_1 : decode prog_1_method_40_code 1 = .ok (.iload_n 1, 1) := zo_27 (zd_b zq_prog_1_method_40_code_0 1 rfl rfl rfl)
theorem d_Ip_faults_2 : decode prog_1_method_40_code 2 = .ok (.invokevirtual 436, 3) := zo_182 (d := 1) (e := 180) (zd_b zq_prog_1_method_40_code_0 2 rfl rfl rfl) (zd_b zq_prog_1_method_40_code_0 3 rfl rfl rfl) (zd_b zq_prog_1_method_40_code_0 4 rfl rfl rfl)
theorem ok_Ip_faults_Ip_castingAt : z_ok M_Ip_faults M_Ip_castingAt 1 := ⟨z_mj6 (i := 193) rfl (by decide +kernel), rfl, ⟨by decide +kernel, by decide +kernel, by decide +kernel⟩, ⟨by decide, by decide⟩, z_mj1 (i := 1) rfl (by decide +kernel), rfl⟩
abbrev M_Ip_shrunkIn : zM := (⟨"Ironpour", "shrunkIn", "(I)I"⟩, prog_1_method_41_code, 2, (Option.some FieldType.int), 7, 121, [])
theorem d_Ip_shrunkIn_0 : decode prog_1_method_41_code 0 = .ok (.aload_n 0, 1) := zo_42 (zd_b zq_prog_1_method_41_code_0 0 rfl rfl rfl)
theorem d_Ip_shrunkIn_1 : decode prog_1_method_41_code 1 = .ok (.iload_n 1, 1) := zo_27 (zd_b zq_prog_1_method_41_code_0 1 rfl rfl rfl)
theorem d_Ip_shrunkIn_2 : decode prog_1_method_41_code 2 = .ok (.invokevirtual 436, 3) := zo_182 (d := 1) (e := 180) (zd_b zq_prog_1_method_41_code_0 2 rfl rfl rfl) (zd_b zq_prog_1_method_41_code_0 3 rfl rfl rfl) (zd_b zq_prog_1_method_41_code_0 4 rfl rfl rfl)
theorem ok_Ip_shrunkIn_Ip_castingAt : z_ok M_Ip_shrunkIn M_Ip_castingAt 1 := ⟨z_mj6 (i := 193) rfl (by decide +kernel), rfl, ⟨by decide +kernel, by decide +kernel, by decide +kernel⟩, ⟨by decide, by decide⟩, z_mj1 (i := 1) rfl (by decide +kernel), rfl⟩
abbrev M_Ip_has : zM := (⟨"Ironpour", "has", "(IC)I"⟩, prog_1_method_42_code, 4, (Option.some FieldType.int), 9, 200, [])
theorem d_Ip_has_0 : decode prog_1_method_42_code 0 = .ok (.aload_n 0, 1) := zo_42 (zd_b zq_prog_1_method_42_code_0 0 rfl rfl rfl)
theorem d_Ip_has_1 : decode prog_1_method_42_code 1 = .ok (.iload_n 1, 1) := zo_27 (zd_b zq_prog_1_method_42_code_0 1 rfl rfl rfl)
theorem d_Ip_has_2 : decode prog_1_method_42_code 2 = .ok (.invokevirtual 436, 3) := zo_182 (d := 1) (e := 180) (zd_b zq_prog_1_method_42_code_0 2 rfl rfl rfl) (zd_b zq_prog_1_method_42_code_0 3 rfl rfl rfl) (zd_b zq_prog_1_method_42_code_0 4 rfl rfl rfl)
theorem ok_Ip_has_Ip_castingAt : z_ok M_Ip_has M_Ip_castingAt 1 := ⟨z_mj6 (i := 193) rfl (by decide +kernel), rfl, ⟨by decide +kernel, by decide +kernel, by decide +kernel⟩, ⟨by decide, by decide⟩, z_mj1 (i := 1) rfl (by decide +kernel), rfl⟩
abbrev M_Ip_bar : zM := (⟨"Ironpour", "bar", "(I)I"⟩, prog_1_method_43_code, 2, (Option.some FieldType.int), 7, 121, [])
theorem d_Ip_bar_0 : decode prog_1_method_43_code 0 = .ok (.aload_n 0, 1) := zo_42 (zd_b zq_prog_1_method_43_code_0 0 rfl rfl rfl)
theorem d_Ip_bar_1 : decode prog_1_method_43_code 1 = .ok (.iload_n 1, 1) := zo_27 (zd_b zq_prog_1_method_43_code_0 1 rfl rfl rfl)
theorem d_Ip_bar_2 : decode prog_1_method_43_code 2 = .ok (.invokevirtual 436, 3) := zo_182 (d := 1) (e := 180) (zd_b zq_prog_1_method_43_code_0 2 rfl rfl rfl) (zd_b zq_prog_1_method_43_code_0 3 rfl rfl rfl) (zd_b zq_prog_1_method_43_code_0 4 rfl rfl rfl)
theorem ok_Ip_bar_Ip_castingAt : z_ok M_Ip_bar M_Ip_castingAt 1 := ⟨z_mj6 (i := 193) rfl (by decide +kernel), rfl, ⟨by decide +kernel, by decide +kernel, by decide +kernel⟩, ⟨by decide, by decide⟩, z_mj1 (i := 1) rfl (by decide +kernel), rfl⟩
abbrev M_Ip_weld : zM := (⟨"Ironpour", "weld", "(I)Z"⟩, prog_1_method_44_code, 4, (Option.some FieldType.boolean), 7, 121, [])
theorem d_Ip_weld_0 : decode prog_1_method_44_code 0 = .ok (.aload_n 0, 1) := zo_42 (zd_b zq_prog_1_method_44_code_0 0 rfl rfl rfl)
theorem d_Ip_weld_1 : decode prog_1_method_44_code 1 = .ok (.iload_n 1, 1) := zo_27 (zd_b zq_prog_1_method_44_code_0 1 rfl rfl rfl)
theorem d_Ip_weld_2 : decode prog_1_method_44_code 2 = .ok (.invokevirtual 436, 3) := zo_182 (d := 1) (e := 180) (zd_b zq_prog_1_method_44_code_0 2 rfl rfl rfl) (zd_b zq_prog_1_method_44_code_0 3 rfl rfl rfl) (zd_b zq_prog_1_method_44_code_0 4 rfl rfl rfl)
theorem ok_Ip_weld_Ip_castingAt : z_ok M_Ip_weld M_Ip_castingAt 1 := ⟨z_mj6 (i := 193) rfl (by decide +kernel), rfl, ⟨by decide +kernel, by decide +kernel, by decide +kernel⟩, ⟨by decide, by decide⟩, z_mj1 (i := 1) rfl (by decide +kernel), rfl⟩
abbrev M_Ip_deliver : zM := (⟨"Ironpour", "deliver", "(I)Z"⟩, prog_1_method_45_code, 3, (Option.some FieldType.boolean), 7, 121, [])
theorem d_Ip_deliver_0 : decode prog_1_method_45_code 0 = .ok (.aload_n 0, 1) := zo_42 (zd_b zq_prog_1_method_45_code_0 0 rfl rfl rfl)
theorem d_Ip_deliver_1 : decode prog_1_method_45_code 1 = .ok (.iload_n 1, 1) := zo_27 (zd_b zq_prog_1_method_45_code_0 1 rfl rfl rfl)
theorem d_Ip_deliver_2 : decode prog_1_method_45_code 2 = .ok (.invokevirtual 436, 3) := zo_182 (d := 1) (e := 180) (zd_b zq_prog_1_method_45_code_0 2 rfl rfl rfl) (zd_b zq_prog_1_method_45_code_0 3 rfl rfl rfl) (zd_b zq_prog_1_method_45_code_0 4 rfl rfl rfl)
theorem ok_Ip_deliver_Ip_castingAt : z_ok M_Ip_deliver M_Ip_castingAt 1 := ⟨z_mj6 (i := 193) rfl (by decide +kernel), rfl, ⟨by decide +kernel, by decide +kernel, by decide +kernel⟩, ⟨by decide, by decide⟩, z_mj1 (i := 1) rfl (by decide +kernel), rfl⟩
abbrev M_Ip_breakUp : zM := (⟨"Ironpour", "breakUp", "(I)I"⟩, prog_1_method_46_code, 4, (Option.some FieldType.int), 7, 121, [])
theorem d_Ip_breakUp_0 : decode prog_1_method_46_code 0 = .ok (.aload_n 0, 1) := zo_42 (zd_b zq_prog_1_method_46_code_0 0 rfl rfl rfl)
theorem d_Ip_breakUp_1 : decode prog_1_method_46_code 1 = .ok (.iload_n 1, 1) := zo_27 (zd_b zq_prog_1_method_46_code_0 1 rfl rfl rfl)
theorem d_Ip_breakUp_2 : decode prog_1_method_46_code 2 = .ok (.invokevirtual 436, 3) := zo_182 (d := 1) (e := 180) (zd_b zq_prog_1_method_46_code_0 2 rfl rfl rfl) (zd_b zq_prog_1_method_46_code_0 3 rfl rfl rfl) (zd_b zq_prog_1_method_46_code_0 4 rfl rfl rfl)
theorem ok_Ip_breakUp_Ip_castingAt : z_ok M_Ip_breakUp M_Ip_castingAt 1 := ⟨z_mj6 (i := 193) rfl (by decide +kernel), rfl, ⟨by decide +kernel, by decide +kernel, by decide +kernel⟩, ⟨by decide, by decide⟩, z_mj1 (i := 1) rfl (by decide +kernel), rfl⟩
abbrev M_Ip_castingsWith : zM := (⟨"Ironpour", "castingsWith", "(I)I"⟩, prog_1_method_67_code, 4, (Option.some FieldType.int), 4, 84, [])
theorem d_Ip_castingsWith_0 : decode prog_1_method_67_code 0 = .ok (.iconst 0, 1) := zo_3 (zd_b zq_prog_1_method_67_code_0 0 rfl rfl rfl)
theorem d_Ip_castingsWith_1 : decode prog_1_method_67_code 1 = .ok (.istore_n 2, 1) := zo_61 (zd_b zq_prog_1_method_67_code_0 1 rfl rfl rfl)
theorem d_Ip_castingsWith_2 : decode prog_1_method_67_code 2 = .ok (.iconst 0, 1) := zo_3 (zd_b zq_prog_1_method_67_code_0 2 rfl rfl rfl)
theorem d_Ip_castingsWith_3 : decode prog_1_method_67_code 3 = .ok (.istore_n 3, 1) := zo_62 (zd_b zq_prog_1_method_67_code_0 3 rfl rfl rfl)
theorem d_Ip_castingsWith_4 : decode prog_1_method_67_code 4 = .ok (.iload_n 3, 1) := zo_29 (zd_b zq_prog_1_method_67_code_0 4 rfl rfl rfl)
theorem d_Ip_castingsWith_5 : decode prog_1_method_67_code 5 = .ok (.aload_n 0, 1) := zo_42 (zd_b zq_prog_1_method_67_code_0 5 rfl rfl rfl)
theorem d_Ip_castingsWith_6 : decode prog_1_method_67_code 6 = .ok (.getfield 78, 3) := zo_180 (d := 0) (e := 78) (zd_b zq_prog_1_method_67_code_0 6 rfl rfl rfl) (zd_b zq_prog_1_method_67_code_0 7 rfl rfl rfl) (zd_b zq_prog_1_method_67_code_0 8 rfl rfl rfl)
theorem d_Ip_castingsWith_9 : decode prog_1_method_67_code 9 = .ok (.invokevirtual 341, 3) := zo_182 (d := 1) (e := 85) (zd_b zq_prog_1_method_67_code_0 9 rfl rfl rfl) (zd_b zq_prog_1_method_67_code_0 10 rfl rfl rfl) (zd_b zq_prog_1_method_67_code_0 11 rfl rfl rfl)
theorem ok_Ip_castingsWith_AL_size : z_ok M_Ip_castingsWith M_AL_size 0 := ⟨z_mj2 (i := 172) rfl (by decide +kernel), rfl, ⟨by decide +kernel, by decide +kernel, by decide +kernel⟩, ⟨by decide, by decide⟩, z_mj1 (i := 13) rfl (by decide +kernel), rfl⟩
theorem d_Ip_castingsWith_12 : decode prog_1_method_67_code 12 = .ok (.if_icmp .ge 30, 3) := zo_162 (d := 0) (e := 30) (zd_b zq_prog_1_method_67_code_0 12 rfl rfl rfl) (zd_b zq_prog_1_method_67_code_0 13 rfl rfl rfl) (zd_b zq_prog_1_method_67_code_0 14 rfl rfl rfl) (by decide +kernel)
theorem d_Ip_castingsWith_42 : decode prog_1_method_67_code 42 = .ok (.iload_n 2, 1) := zo_28 (zd_b zq_prog_1_method_67_code_1 10 rfl rfl rfl)
theorem d_Ip_castingsWith_43 : decode prog_1_method_67_code 43 = .ok (.ireturn, 1) := zo_172 (zd_b zq_prog_1_method_67_code_1 11 rfl rfl rfl)
abbrev M_Ip_worst : zM := (⟨"Ironpour", "worst", "()C"⟩, prog_1_method_47_code, 6, (Option.some FieldType.char), 6, 107, [])
theorem d_Ip_worst_0 : decode prog_1_method_47_code 0 = .ok (.aload_n 0, 1) := zo_42 (zd_b zq_prog_1_method_47_code_0 0 rfl rfl rfl)
theorem d_Ip_worst_1 : decode prog_1_method_47_code 1 = .ok (.bipush 12, 2) := zo_16 (d := 12) (zd_b zq_prog_1_method_47_code_0 1 rfl rfl rfl) (zd_b zq_prog_1_method_47_code_0 2 rfl rfl rfl) (by decide +kernel)
theorem d_Ip_worst_3 : decode prog_1_method_47_code 3 = .ok (.invokevirtual 476, 3) := zo_182 (d := 1) (e := 220) (zd_b zq_prog_1_method_47_code_0 3 rfl rfl rfl) (zd_b zq_prog_1_method_47_code_0 4 rfl rfl rfl) (zd_b zq_prog_1_method_47_code_0 5 rfl rfl rfl)
theorem ok_Ip_worst_Ip_castingsWith : z_ok M_Ip_worst M_Ip_castingsWith 1 := ⟨z_mj7 (i := 39) rfl (by decide +kernel), rfl, ⟨by decide +kernel, by decide +kernel, by decide +kernel⟩, ⟨by decide, by decide⟩, z_mj1 (i := 1) rfl (by decide +kernel), rfl⟩
theorem ln_Ip_476 : Cond.methodLink "Ironpour" 476 M_Ip_castingsWith.1 ∈ z_gw := z_mj7 (i := 36) rfl (by decide +kernel)
theorem w_im_Ip_castingsWith : Cond.instanceMethod M_Ip_castingsWith.1 ∈ z_gw := z_mj7 (i := 38) rfl (by decide +kernel)
theorem w_se_Ip_castingsWith : Cond.selects M_Ip_castingsWith.1.cls M_Ip_castingsWith.1 M_Ip_castingsWith.1 ∈ z_gw := z_mem (i := 28) (by decide +kernel) (by decide +kernel)
theorem d_Ip_worst_6 : decode prog_1_method_47_code 6 = .ok (.istore_n 1, 1) := zo_60 (zd_b zq_prog_1_method_47_code_0 6 rfl rfl rfl)
theorem d_Ip_worst_7 : decode prog_1_method_47_code 7 = .ok (.aload_n 0, 1) := zo_42 (zd_b zq_prog_1_method_47_code_0 7 rfl rfl rfl)
theorem d_Ip_worst_8 : decode prog_1_method_47_code 8 = .ok (.bipush 32, 2) := zo_16 (d := 32) (zd_b zq_prog_1_method_47_code_0 8 rfl rfl rfl) (zd_b zq_prog_1_method_47_code_0 9 rfl rfl rfl) (by decide +kernel)
theorem d_Ip_worst_10 : decode prog_1_method_47_code 10 = .ok (.invokevirtual 476, 3) := zo_182 (d := 1) (e := 220) (zd_b zq_prog_1_method_47_code_0 10 rfl rfl rfl) (zd_b zq_prog_1_method_47_code_0 11 rfl rfl rfl) (zd_b zq_prog_1_method_47_code_0 12 rfl rfl rfl)
theorem d_Ip_worst_13 : decode prog_1_method_47_code 13 = .ok (.istore_n 2, 1) := zo_61 (zd_b zq_prog_1_method_47_code_0 13 rfl rfl rfl)
theorem d_Ip_worst_14 : decode prog_1_method_47_code 14 = .ok (.aload_n 0, 1) := zo_42 (zd_b zq_prog_1_method_47_code_0 14 rfl rfl rfl)
theorem d_Ip_worst_15 : decode prog_1_method_47_code 15 = .ok (.iconst 2, 1) := zo_5 (zd_b zq_prog_1_method_47_code_0 15 rfl rfl rfl)
theorem d_Ip_worst_16 : decode prog_1_method_47_code 16 = .ok (.invokevirtual 476, 3) := zo_182 (d := 1) (e := 220) (zd_b zq_prog_1_method_47_code_0 16 rfl rfl rfl) (zd_b zq_prog_1_method_47_code_0 17 rfl rfl rfl) (zd_b zq_prog_1_method_47_code_0 18 rfl rfl rfl)
theorem d_Ip_worst_19 : decode prog_1_method_47_code 19 = .ok (.istore_n 3, 1) := zo_62 (zd_b zq_prog_1_method_47_code_0 19 rfl rfl rfl)
theorem d_Ip_worst_20 : decode prog_1_method_47_code 20 = .ok (.aload_n 0, 1) := zo_42 (zd_b zq_prog_1_method_47_code_0 20 rfl rfl rfl)
theorem d_Ip_worst_21 : decode prog_1_method_47_code 21 = .ok (.bipush 17, 2) := zo_16 (d := 17) (zd_b zq_prog_1_method_47_code_0 21 rfl rfl rfl) (zd_b zq_prog_1_method_47_code_0 22 rfl rfl rfl) (by decide +kernel)
theorem d_Ip_worst_23 : decode prog_1_method_47_code 23 = .ok (.invokevirtual 476, 3) := zo_182 (d := 1) (e := 220) (zd_b zq_prog_1_method_47_code_0 23 rfl rfl rfl) (zd_b zq_prog_1_method_47_code_0 24 rfl rfl rfl) (zd_b zq_prog_1_method_47_code_0 25 rfl rfl rfl)
theorem d_Ip_worst_26 : decode prog_1_method_47_code 26 = .ok (.istore 4, 2) := zo_54 (d := 4) (zd_b zq_prog_1_method_47_code_0 26 rfl rfl rfl) (zd_b zq_prog_1_method_47_code_0 27 rfl rfl rfl)
theorem d_Ip_worst_28 : decode prog_1_method_47_code 28 = .ok (.iload_n 1, 1) := zo_27 (zd_b zq_prog_1_method_47_code_0 28 rfl rfl rfl)
theorem d_Ip_worst_29 : decode prog_1_method_47_code 29 = .ok (.iload_n 2, 1) := zo_28 (zd_b zq_prog_1_method_47_code_0 29 rfl rfl rfl)
theorem d_Ip_worst_30 : decode prog_1_method_47_code 30 = .ok (.invokestatic 479, 3) := zo_184 (d := 1) (e := 223) (zd_b zq_prog_1_method_47_code_0 30 rfl rfl rfl) (zd_b zq_prog_1_method_47_code_0 31 rfl rfl rfl) (zd_b zq_prog_1_method_47_code_1 0 rfl rfl rfl)
theorem ln_Ip_479 : Cond.methodLink "Ironpour" 479 Lib.Math.max.name ∈ z_gw := z_mj7 (i := 40) rfl (by decide +kernel)
theorem d_Ip_worst_33 : decode prog_1_method_47_code 33 = .ok (.iload_n 3, 1) := zo_29 (zd_b zq_prog_1_method_47_code_1 1 rfl rfl rfl)
theorem d_Ip_worst_34 : decode prog_1_method_47_code 34 = .ok (.iload 4, 2) := zo_21 (d := 4) (zd_b zq_prog_1_method_47_code_1 2 rfl rfl rfl) (zd_b zq_prog_1_method_47_code_1 3 rfl rfl rfl)
theorem d_Ip_worst_36 : decode prog_1_method_47_code 36 = .ok (.invokestatic 479, 3) := zo_184 (d := 1) (e := 223) (zd_b zq_prog_1_method_47_code_1 4 rfl rfl rfl) (zd_b zq_prog_1_method_47_code_1 5 rfl rfl rfl) (zd_b zq_prog_1_method_47_code_1 6 rfl rfl rfl)
theorem d_Ip_worst_39 : decode prog_1_method_47_code 39 = .ok (.invokestatic 479, 3) := zo_184 (d := 1) (e := 223) (zd_b zq_prog_1_method_47_code_1 7 rfl rfl rfl) (zd_b zq_prog_1_method_47_code_1 8 rfl rfl rfl) (zd_b zq_prog_1_method_47_code_1 9 rfl rfl rfl)
theorem d_Ip_worst_42 : decode prog_1_method_47_code 42 = .ok (.istore 5, 2) := zo_54 (d := 5) (zd_b zq_prog_1_method_47_code_1 10 rfl rfl rfl) (zd_b zq_prog_1_method_47_code_1 11 rfl rfl rfl)
theorem d_Ip_worst_44 : decode prog_1_method_47_code 44 = .ok (.iload 5, 2) := zo_21 (d := 5) (zd_b zq_prog_1_method_47_code_1 12 rfl rfl rfl) (zd_b zq_prog_1_method_47_code_1 13 rfl rfl rfl)
theorem d_Ip_worst_46 : decode prog_1_method_47_code 46 = .ok (.ifCond .ne 14, 3) := zo_154 (d := 0) (e := 14) (zd_b zq_prog_1_method_47_code_1 14 rfl rfl rfl) (zd_b zq_prog_1_method_47_code_1 15 rfl rfl rfl) (zd_b zq_prog_1_method_47_code_1 16 rfl rfl rfl) (by decide +kernel)
theorem d_Ip_worst_49 : decode prog_1_method_47_code 49 = .ok (.new 150, 3) := zo_187 (d := 0) (e := 150) (zd_b zq_prog_1_method_47_code_1 17 rfl rfl rfl) (zd_b zq_prog_1_method_47_code_1 18 rfl rfl rfl) (zd_b zq_prog_1_method_47_code_1 19 rfl rfl rfl)
theorem sr_Ip_484 : Cond.stringRef "Ironpour" 484 "there are no faults" ∈ lw_tbl := z_tb7 (i := 41) rfl
theorem d_Ip_worst_52 : decode prog_1_method_47_code 52 = .ok (.dup, 1) := zo_89 (zd_b zq_prog_1_method_47_code_1 20 rfl rfl rfl)
theorem d_Ip_worst_53 : decode prog_1_method_47_code 53 = .ok (.ldc_w 484, 3) := zo_19 (d := 1) (e := 228) (zd_b zq_prog_1_method_47_code_1 21 rfl rfl rfl) (zd_b zq_prog_1_method_47_code_1 22 rfl rfl rfl) (zd_b zq_prog_1_method_47_code_1 23 rfl rfl rfl)
theorem d_Ip_worst_56 : decode prog_1_method_47_code 56 = .ok (.invokespecial 154, 3) := zo_183 (d := 0) (e := 154) (zd_b zq_prog_1_method_47_code_1 24 rfl rfl rfl) (zd_b zq_prog_1_method_47_code_1 25 rfl rfl rfl) (zd_b zq_prog_1_method_47_code_1 26 rfl rfl rfl)
theorem d_Ip_worst_59 : decode prog_1_method_47_code 59 = .ok (.athrow, 1) := zo_191 (zd_b zq_prog_1_method_47_code_1 27 rfl rfl rfl)
abbrev M_Ip_delivered : zM := (⟨"Ironpour", "delivered", "()J"⟩, prog_1_method_48_code, 5, (Option.some FieldType.long), 4, 84, [])
theorem d_Ip_delivered_0 : decode prog_1_method_48_code 0 = .ok (.lconst 0, 1) := zo_9 (zd_b zq_prog_1_method_48_code_0 0 rfl rfl rfl)
theorem d_Ip_delivered_1 : decode prog_1_method_48_code 1 = .ok (.lstore_n 1, 1) := zo_64 (zd_b zq_prog_1_method_48_code_0 1 rfl rfl rfl)
theorem d_Ip_delivered_2 : decode prog_1_method_48_code 2 = .ok (.iconst 0, 1) := zo_3 (zd_b zq_prog_1_method_48_code_0 2 rfl rfl rfl)
theorem d_Ip_delivered_3 : decode prog_1_method_48_code 3 = .ok (.istore_n 3, 1) := zo_62 (zd_b zq_prog_1_method_48_code_0 3 rfl rfl rfl)
theorem d_Ip_delivered_4 : decode prog_1_method_48_code 4 = .ok (.iload_n 3, 1) := zo_29 (zd_b zq_prog_1_method_48_code_0 4 rfl rfl rfl)
theorem d_Ip_delivered_5 : decode prog_1_method_48_code 5 = .ok (.aload_n 0, 1) := zo_42 (zd_b zq_prog_1_method_48_code_0 5 rfl rfl rfl)
theorem d_Ip_delivered_6 : decode prog_1_method_48_code 6 = .ok (.getfield 78, 3) := zo_180 (d := 0) (e := 78) (zd_b zq_prog_1_method_48_code_0 6 rfl rfl rfl) (zd_b zq_prog_1_method_48_code_0 7 rfl rfl rfl) (zd_b zq_prog_1_method_48_code_0 8 rfl rfl rfl)
theorem d_Ip_delivered_9 : decode prog_1_method_48_code 9 = .ok (.invokevirtual 341, 3) := zo_182 (d := 1) (e := 85) (zd_b zq_prog_1_method_48_code_0 9 rfl rfl rfl) (zd_b zq_prog_1_method_48_code_0 10 rfl rfl rfl) (zd_b zq_prog_1_method_48_code_0 11 rfl rfl rfl)
theorem ok_Ip_delivered_AL_size : z_ok M_Ip_delivered M_AL_size 0 := ⟨z_mj2 (i := 172) rfl (by decide +kernel), rfl, ⟨by decide +kernel, by decide +kernel, by decide +kernel⟩, ⟨by decide, by decide⟩, z_mj1 (i := 13) rfl (by decide +kernel), rfl⟩
theorem d_Ip_delivered_12 : decode prog_1_method_48_code 12 = .ok (.if_icmp .ge 42, 3) := zo_162 (d := 0) (e := 42) (zd_b zq_prog_1_method_48_code_0 12 rfl rfl rfl) (zd_b zq_prog_1_method_48_code_0 13 rfl rfl rfl) (zd_b zq_prog_1_method_48_code_0 14 rfl rfl rfl) (by decide +kernel)
theorem d_Ip_delivered_54 : decode prog_1_method_48_code 54 = .ok (.lload_n 1, 1) := zo_31 (zd_b zq_prog_1_method_48_code_1 22 rfl rfl rfl)
theorem d_Ip_delivered_55 : decode prog_1_method_48_code 55 = .ok (.lreturn, 1) := zo_173 (zd_b zq_prog_1_method_48_code_1 23 rfl rfl rfl)
abbrev M_Ip_goodShare : zM := (⟨"Ironpour", "goodShare", "()F"⟩, prog_1_method_49_code, 4, (Option.some FieldType.float), 6, 108, [])
theorem d_Ip_goodShare_0 : decode prog_1_method_49_code 0 = .ok (.lconst 0, 1) := zo_9 (zd_b zq_prog_1_method_49_code_0 0 rfl rfl rfl)
theorem d_Ip_goodShare_1 : decode prog_1_method_49_code 1 = .ok (.lstore_n 1, 1) := zo_64 (zd_b zq_prog_1_method_49_code_0 1 rfl rfl rfl)
theorem d_Ip_goodShare_2 : decode prog_1_method_49_code 2 = .ok (.iconst 0, 1) := zo_3 (zd_b zq_prog_1_method_49_code_0 2 rfl rfl rfl)
theorem d_Ip_goodShare_3 : decode prog_1_method_49_code 3 = .ok (.istore_n 3, 1) := zo_62 (zd_b zq_prog_1_method_49_code_0 3 rfl rfl rfl)
theorem d_Ip_goodShare_4 : decode prog_1_method_49_code 4 = .ok (.iload_n 3, 1) := zo_29 (zd_b zq_prog_1_method_49_code_0 4 rfl rfl rfl)
theorem d_Ip_goodShare_5 : decode prog_1_method_49_code 5 = .ok (.aload_n 0, 1) := zo_42 (zd_b zq_prog_1_method_49_code_0 5 rfl rfl rfl)
theorem d_Ip_goodShare_6 : decode prog_1_method_49_code 6 = .ok (.getfield 78, 3) := zo_180 (d := 0) (e := 78) (zd_b zq_prog_1_method_49_code_0 6 rfl rfl rfl) (zd_b zq_prog_1_method_49_code_0 7 rfl rfl rfl) (zd_b zq_prog_1_method_49_code_0 8 rfl rfl rfl)
theorem d_Ip_goodShare_9 : decode prog_1_method_49_code 9 = .ok (.invokevirtual 341, 3) := zo_182 (d := 1) (e := 85) (zd_b zq_prog_1_method_49_code_0 9 rfl rfl rfl) (zd_b zq_prog_1_method_49_code_0 10 rfl rfl rfl) (zd_b zq_prog_1_method_49_code_0 11 rfl rfl rfl)
theorem ok_Ip_goodShare_AL_size : z_ok M_Ip_goodShare M_AL_size 0 := ⟨z_mj2 (i := 172) rfl (by decide +kernel), rfl, ⟨by decide +kernel, by decide +kernel, by decide +kernel⟩, ⟨by decide, by decide⟩, z_mj1 (i := 13) rfl (by decide +kernel), rfl⟩
theorem d_Ip_goodShare_12 : decode prog_1_method_49_code 12 = .ok (.if_icmp .ge 30, 3) := zo_162 (d := 0) (e := 30) (zd_b zq_prog_1_method_49_code_0 12 rfl rfl rfl) (zd_b zq_prog_1_method_49_code_0 13 rfl rfl rfl) (zd_b zq_prog_1_method_49_code_0 14 rfl rfl rfl) (by decide +kernel)
theorem d_Ip_goodShare_42 : decode prog_1_method_49_code 42 = .ok (.lload_n 1, 1) := zo_31 (zd_b zq_prog_1_method_49_code_1 10 rfl rfl rfl)
theorem d_Ip_goodShare_43 : decode prog_1_method_49_code 43 = .ok (.lconst 0, 1) := zo_9 (zd_b zq_prog_1_method_49_code_1 11 rfl rfl rfl)
theorem d_Ip_goodShare_44 : decode prog_1_method_49_code 44 = .ok (.lcmp, 1) := zo_148 (zd_b zq_prog_1_method_49_code_1 12 rfl rfl rfl)
theorem d_Ip_goodShare_45 : decode prog_1_method_49_code 45 = .ok (.ifCond .ne 14, 3) := zo_154 (d := 0) (e := 14) (zd_b zq_prog_1_method_49_code_1 13 rfl rfl rfl) (zd_b zq_prog_1_method_49_code_1 14 rfl rfl rfl) (zd_b zq_prog_1_method_49_code_1 15 rfl rfl rfl) (by decide +kernel)
theorem d_Ip_goodShare_48 : decode prog_1_method_49_code 48 = .ok (.new 486, 3) := zo_187 (d := 1) (e := 230) (zd_b zq_prog_1_method_49_code_1 16 rfl rfl rfl) (zd_b zq_prog_1_method_49_code_1 17 rfl rfl rfl) (zd_b zq_prog_1_method_49_code_1 18 rfl rfl rfl)
theorem tb_Ip_486_490 : z_tb "Ironpour" 486 490 "java/lang/ArithmeticException" := ⟨by decide +kernel, z_mj7 (i := 63) rfl (by decide +kernel), z_mj1 (i := 37) rfl (by decide +kernel), fun w h => ((z_at [(1, 21), (3, 163), (3, 172), (3, 180), (3, 183), (3, 185), (3, 164), (3, 165), (1, 44), (1, 45), (3, 166), (3, 171), (3, 181), (3, 201), (3, 153), (3, 202), (3, 155), (3, 203), (3, 157), (3, 167), (3, 169), (3, 159), (3, 197), (3, 198), (3, 200), (3, 159), (7, 47), (7, 48), (7, 49), (3, 191), (3, 145), (3, 191), (3, 192), (3, 193), (3, 194), (3, 147), (3, 194), (3, 195), (3, 196), (3, 197), (3, 149), (7, 65), (7, 46), (7, 57), (7, 58), (3, 174), (7, 52), (7, 53), (7, 55), (7, 51), (3, 162), (3, 161), (7, 50)] (by decide +kernel) (by decide +kernel) : ∀ w ∈ vx_atS "Ironpour" 490 "java/lang/ArithmeticException" ["java/lang/RuntimeException", "java/lang/Exception"], w ∈ lw_tbl ∧ (goodWord w || z_isN w) = true) w h).elim (fun h1 h2 => (Bool.or_eq_true _ _ ▸ h2).elim (fun h3 => Or.inl (List.mem_filter.mpr ⟨h1, h3⟩)) (fun h3 => Or.inr (List.mem_filter.mpr ⟨h1, h3⟩))), by decide +kernel⟩
theorem sr_Ip_488 : Cond.stringRef "Ironpour" 488 "nothing was poured" ∈ lw_tbl := z_tb7 (i := 64) rfl
theorem d_Ip_goodShare_51 : decode prog_1_method_49_code 51 = .ok (.dup, 1) := zo_89 (zd_b zq_prog_1_method_49_code_1 19 rfl rfl rfl)
theorem d_Ip_goodShare_52 : decode prog_1_method_49_code 52 = .ok (.ldc_w 488, 3) := zo_19 (d := 1) (e := 232) (zd_b zq_prog_1_method_49_code_1 20 rfl rfl rfl) (zd_b zq_prog_1_method_49_code_1 21 rfl rfl rfl) (zd_b zq_prog_1_method_49_code_1 22 rfl rfl rfl)
theorem d_Ip_goodShare_55 : decode prog_1_method_49_code 55 = .ok (.invokespecial 490, 3) := zo_183 (d := 1) (e := 234) (zd_b zq_prog_1_method_49_code_1 23 rfl rfl rfl) (zd_b zq_prog_1_method_49_code_1 24 rfl rfl rfl) (zd_b zq_prog_1_method_49_code_1 25 rfl rfl rfl)
theorem d_Ip_goodShare_58 : decode prog_1_method_49_code 58 = .ok (.athrow, 1) := zo_191 (zd_b zq_prog_1_method_49_code_1 26 rfl rfl rfl)
abbrev M_Ip_meanBar : zM := (⟨"Ironpour", "meanBar", "()D"⟩, prog_1_method_50_code, 5, (Option.some FieldType.double), 6, 100, [])
theorem d_Ip_meanBar_0 : decode prog_1_method_50_code 0 = .ok (.aload_n 0, 1) := zo_42 (zd_b zq_prog_1_method_50_code_0 0 rfl rfl rfl)
theorem d_Ip_meanBar_1 : decode prog_1_method_50_code 1 = .ok (.getfield 78, 3) := zo_180 (d := 0) (e := 78) (zd_b zq_prog_1_method_50_code_0 1 rfl rfl rfl) (zd_b zq_prog_1_method_50_code_0 2 rfl rfl rfl) (zd_b zq_prog_1_method_50_code_0 3 rfl rfl rfl)
theorem d_Ip_meanBar_4 : decode prog_1_method_50_code 4 = .ok (.invokevirtual 341, 3) := zo_182 (d := 1) (e := 85) (zd_b zq_prog_1_method_50_code_0 4 rfl rfl rfl) (zd_b zq_prog_1_method_50_code_0 5 rfl rfl rfl) (zd_b zq_prog_1_method_50_code_0 6 rfl rfl rfl)
theorem ok_Ip_meanBar_AL_size : z_ok M_Ip_meanBar M_AL_size 0 := ⟨z_mj2 (i := 172) rfl (by decide +kernel), rfl, ⟨by decide +kernel, by decide +kernel, by decide +kernel⟩, ⟨by decide, by decide⟩, z_mj1 (i := 13) rfl (by decide +kernel), rfl⟩
theorem d_Ip_meanBar_7 : decode prog_1_method_50_code 7 = .ok (.istore_n 1, 1) := zo_60 (zd_b zq_prog_1_method_50_code_0 7 rfl rfl rfl)
theorem d_Ip_meanBar_8 : decode prog_1_method_50_code 8 = .ok (.iload_n 1, 1) := zo_27 (zd_b zq_prog_1_method_50_code_0 8 rfl rfl rfl)
theorem d_Ip_meanBar_9 : decode prog_1_method_50_code 9 = .ok (.ifCond .ne 14, 3) := zo_154 (d := 0) (e := 14) (zd_b zq_prog_1_method_50_code_0 9 rfl rfl rfl) (zd_b zq_prog_1_method_50_code_0 10 rfl rfl rfl) (zd_b zq_prog_1_method_50_code_0 11 rfl rfl rfl) (by decide +kernel)
theorem d_Ip_meanBar_12 : decode prog_1_method_50_code 12 = .ok (.new 486, 3) := zo_187 (d := 1) (e := 230) (zd_b zq_prog_1_method_50_code_0 12 rfl rfl rfl) (zd_b zq_prog_1_method_50_code_0 13 rfl rfl rfl) (zd_b zq_prog_1_method_50_code_0 14 rfl rfl rfl)
theorem sr_Ip_495 : Cond.stringRef "Ironpour" 495 "there are no castings" ∈ lw_tbl := z_tb7 (i := 74) rfl
theorem d_Ip_meanBar_15 : decode prog_1_method_50_code 15 = .ok (.dup, 1) := zo_89 (zd_b zq_prog_1_method_50_code_0 15 rfl rfl rfl)
theorem d_Ip_meanBar_16 : decode prog_1_method_50_code 16 = .ok (.ldc_w 495, 3) := zo_19 (d := 1) (e := 239) (zd_b zq_prog_1_method_50_code_0 16 rfl rfl rfl) (zd_b zq_prog_1_method_50_code_0 17 rfl rfl rfl) (zd_b zq_prog_1_method_50_code_0 18 rfl rfl rfl)
theorem d_Ip_meanBar_19 : decode prog_1_method_50_code 19 = .ok (.invokespecial 490, 3) := zo_183 (d := 1) (e := 234) (zd_b zq_prog_1_method_50_code_0 19 rfl rfl rfl) (zd_b zq_prog_1_method_50_code_0 20 rfl rfl rfl) (zd_b zq_prog_1_method_50_code_0 21 rfl rfl rfl)
theorem d_Ip_meanBar_22 : decode prog_1_method_50_code 22 = .ok (.athrow, 1) := zo_191 (zd_b zq_prog_1_method_50_code_0 22 rfl rfl rfl)
abbrev M_Ip_ironBalances : zM := (⟨"Ironpour", "ironBalances", "()Z"⟩, prog_1_method_68_code, 5, (Option.some FieldType.boolean), 4, 84, [])
theorem d_Ip_ironBalances_0 : decode prog_1_method_68_code 0 = .ok (.aload_n 0, 1) := zo_42 (zd_b zq_prog_1_method_68_code_0 0 rfl rfl rfl)
theorem d_Ip_ironBalances_1 : decode prog_1_method_68_code 1 = .ok (.getfield 43, 3) := zo_180 (d := 0) (e := 43) (zd_b zq_prog_1_method_68_code_0 1 rfl rfl rfl) (zd_b zq_prog_1_method_68_code_0 2 rfl rfl rfl) (zd_b zq_prog_1_method_68_code_0 3 rfl rfl rfl)
theorem d_Ip_ironBalances_4 : decode prog_1_method_68_code 4 = .ok (.getfield 277, 3) := zo_180 (d := 1) (e := 21) (zd_b zq_prog_1_method_68_code_0 4 rfl rfl rfl) (zd_b zq_prog_1_method_68_code_0 5 rfl rfl rfl) (zd_b zq_prog_1_method_68_code_0 6 rfl rfl rfl)
theorem d_Ip_ironBalances_7 : decode prog_1_method_68_code 7 = .ok (.getfield 269, 3) := zo_180 (d := 1) (e := 13) (zd_b zq_prog_1_method_68_code_0 7 rfl rfl rfl) (zd_b zq_prog_1_method_68_code_0 8 rfl rfl rfl) (zd_b zq_prog_1_method_68_code_0 9 rfl rfl rfl)
theorem d_Ip_ironBalances_10 : decode prog_1_method_68_code 10 = .ok (.i2l, 1) := zo_133 (zd_b zq_prog_1_method_68_code_0 10 rfl rfl rfl)
theorem d_Ip_ironBalances_11 : decode prog_1_method_68_code 11 = .ok (.aload_n 0, 1) := zo_42 (zd_b zq_prog_1_method_68_code_0 11 rfl rfl rfl)
theorem d_Ip_ironBalances_12 : decode prog_1_method_68_code 12 = .ok (.getfield 50, 3) := zo_180 (d := 0) (e := 50) (zd_b zq_prog_1_method_68_code_0 12 rfl rfl rfl) (zd_b zq_prog_1_method_68_code_0 13 rfl rfl rfl) (zd_b zq_prog_1_method_68_code_0 14 rfl rfl rfl)
theorem d_Ip_ironBalances_15 : decode prog_1_method_68_code 15 = .ok (.getfield 359, 3) := zo_180 (d := 1) (e := 103) (zd_b zq_prog_1_method_68_code_0 15 rfl rfl rfl) (zd_b zq_prog_1_method_68_code_0 16 rfl rfl rfl) (zd_b zq_prog_1_method_68_code_0 17 rfl rfl rfl)
theorem d_Ip_ironBalances_18 : decode prog_1_method_68_code 18 = .ok (.getfield 269, 3) := zo_180 (d := 1) (e := 13) (zd_b zq_prog_1_method_68_code_0 18 rfl rfl rfl) (zd_b zq_prog_1_method_68_code_0 19 rfl rfl rfl) (zd_b zq_prog_1_method_68_code_0 20 rfl rfl rfl)
theorem d_Ip_ironBalances_21 : decode prog_1_method_68_code 21 = .ok (.i2l, 1) := zo_133 (zd_b zq_prog_1_method_68_code_0 21 rfl rfl rfl)
theorem d_Ip_ironBalances_22 : decode prog_1_method_68_code 22 = .ok (.ladd, 1) := zo_97 (zd_b zq_prog_1_method_68_code_0 22 rfl rfl rfl)
theorem d_Ip_ironBalances_23 : decode prog_1_method_68_code 23 = .ok (.aload_n 0, 1) := zo_42 (zd_b zq_prog_1_method_68_code_0 23 rfl rfl rfl)
theorem d_Ip_ironBalances_24 : decode prog_1_method_68_code 24 = .ok (.getfield 57, 3) := zo_180 (d := 0) (e := 57) (zd_b zq_prog_1_method_68_code_0 24 rfl rfl rfl) (zd_b zq_prog_1_method_68_code_0 25 rfl rfl rfl) (zd_b zq_prog_1_method_68_code_0 26 rfl rfl rfl)
theorem d_Ip_ironBalances_27 : decode prog_1_method_68_code 27 = .ok (.getfield 269, 3) := zo_180 (d := 1) (e := 13) (zd_b zq_prog_1_method_68_code_0 27 rfl rfl rfl) (zd_b zq_prog_1_method_68_code_0 28 rfl rfl rfl) (zd_b zq_prog_1_method_68_code_0 29 rfl rfl rfl)
theorem d_Ip_ironBalances_30 : decode prog_1_method_68_code 30 = .ok (.i2l, 1) := zo_133 (zd_b zq_prog_1_method_68_code_0 30 rfl rfl rfl)
theorem d_Ip_ironBalances_31 : decode prog_1_method_68_code 31 = .ok (.ladd, 1) := zo_97 (zd_b zq_prog_1_method_68_code_0 31 rfl rfl rfl)
theorem d_Ip_ironBalances_32 : decode prog_1_method_68_code 32 = .ok (.aload_n 0, 1) := zo_42 (zd_b zq_prog_1_method_68_code_1 0 rfl rfl rfl)
theorem d_Ip_ironBalances_33 : decode prog_1_method_68_code 33 = .ok (.getfield 61, 3) := zo_180 (d := 0) (e := 61) (zd_b zq_prog_1_method_68_code_1 1 rfl rfl rfl) (zd_b zq_prog_1_method_68_code_1 2 rfl rfl rfl) (zd_b zq_prog_1_method_68_code_1 3 rfl rfl rfl)
theorem d_Ip_ironBalances_36 : decode prog_1_method_68_code 36 = .ok (.getfield 269, 3) := zo_180 (d := 1) (e := 13) (zd_b zq_prog_1_method_68_code_1 4 rfl rfl rfl) (zd_b zq_prog_1_method_68_code_1 5 rfl rfl rfl) (zd_b zq_prog_1_method_68_code_1 6 rfl rfl rfl)
theorem d_Ip_ironBalances_39 : decode prog_1_method_68_code 39 = .ok (.i2l, 1) := zo_133 (zd_b zq_prog_1_method_68_code_1 7 rfl rfl rfl)
theorem d_Ip_ironBalances_40 : decode prog_1_method_68_code 40 = .ok (.ladd, 1) := zo_97 (zd_b zq_prog_1_method_68_code_1 8 rfl rfl rfl)
theorem d_Ip_ironBalances_41 : decode prog_1_method_68_code 41 = .ok (.lstore_n 1, 1) := zo_64 (zd_b zq_prog_1_method_68_code_1 9 rfl rfl rfl)
theorem d_Ip_ironBalances_42 : decode prog_1_method_68_code 42 = .ok (.iconst 0, 1) := zo_3 (zd_b zq_prog_1_method_68_code_1 10 rfl rfl rfl)
theorem d_Ip_ironBalances_43 : decode prog_1_method_68_code 43 = .ok (.istore_n 3, 1) := zo_62 (zd_b zq_prog_1_method_68_code_1 11 rfl rfl rfl)
theorem d_Ip_ironBalances_44 : decode prog_1_method_68_code 44 = .ok (.iload_n 3, 1) := zo_29 (zd_b zq_prog_1_method_68_code_1 12 rfl rfl rfl)
theorem d_Ip_ironBalances_45 : decode prog_1_method_68_code 45 = .ok (.aload_n 0, 1) := zo_42 (zd_b zq_prog_1_method_68_code_1 13 rfl rfl rfl)
theorem d_Ip_ironBalances_46 : decode prog_1_method_68_code 46 = .ok (.getfield 78, 3) := zo_180 (d := 0) (e := 78) (zd_b zq_prog_1_method_68_code_1 14 rfl rfl rfl) (zd_b zq_prog_1_method_68_code_1 15 rfl rfl rfl) (zd_b zq_prog_1_method_68_code_1 16 rfl rfl rfl)
theorem d_Ip_ironBalances_49 : decode prog_1_method_68_code 49 = .ok (.invokevirtual 341, 3) := zo_182 (d := 1) (e := 85) (zd_b zq_prog_1_method_68_code_1 17 rfl rfl rfl) (zd_b zq_prog_1_method_68_code_1 18 rfl rfl rfl) (zd_b zq_prog_1_method_68_code_1 19 rfl rfl rfl)
theorem ok_Ip_ironBalances_AL_size : z_ok M_Ip_ironBalances M_AL_size 0 := ⟨z_mj2 (i := 172) rfl (by decide +kernel), rfl, ⟨by decide +kernel, by decide +kernel, by decide +kernel⟩, ⟨by decide, by decide⟩, z_mj1 (i := 13) rfl (by decide +kernel), rfl⟩
theorem d_Ip_ironBalances_52 : decode prog_1_method_68_code 52 = .ok (.if_icmp .ge 42, 3) := zo_162 (d := 0) (e := 42) (zd_b zq_prog_1_method_68_code_1 20 rfl rfl rfl) (zd_b zq_prog_1_method_68_code_1 21 rfl rfl rfl) (zd_b zq_prog_1_method_68_code_1 22 rfl rfl rfl) (by decide +kernel)
theorem d_Ip_ironBalances_94 : decode prog_1_method_68_code 94 = .ok (.lload_n 1, 1) := zo_31 (zd_b zq_prog_1_method_68_code_2 30 rfl rfl rfl)
theorem d_Ip_ironBalances_95 : decode prog_1_method_68_code 95 = .ok (.aload_n 0, 1) := zo_42 (zd_b zq_prog_1_method_68_code_2 31 rfl rfl rfl)
theorem d_Ip_ironBalances_96 : decode prog_1_method_68_code 96 = .ok (.getfield 43, 3) := zo_180 (d := 0) (e := 43) (zd_b zq_prog_1_method_68_code_3 0 rfl rfl rfl) (zd_b zq_prog_1_method_68_code_3 1 rfl rfl rfl) (zd_b zq_prog_1_method_68_code_3 2 rfl rfl rfl)
theorem d_Ip_ironBalances_99 : decode prog_1_method_68_code 99 = .ok (.getfield 560, 3) := zo_180 (d := 2) (e := 48) (zd_b zq_prog_1_method_68_code_3 3 rfl rfl rfl) (zd_b zq_prog_1_method_68_code_3 4 rfl rfl rfl) (zd_b zq_prog_1_method_68_code_3 5 rfl rfl rfl)
theorem fs_Ip_560 : z_fs "Ironpour" 560 3 4 := ⟨R_Fu, "Ironpour$Furnace", F_Fu, 5, rfl, u_Fu, by decide, Or.inr ⟨"Ironpour", z_mk1 (i := 219) rfl (by decide +kernel), rfl⟩⟩
theorem d_Ip_ironBalances_102 : decode prog_1_method_68_code 102 = .ok (.lcmp, 1) := zo_148 (zd_b zq_prog_1_method_68_code_3 6 rfl rfl rfl)
theorem d_Ip_ironBalances_103 : decode prog_1_method_68_code 103 = .ok (.ifCond .ne 7, 3) := zo_154 (d := 0) (e := 7) (zd_b zq_prog_1_method_68_code_3 7 rfl rfl rfl) (zd_b zq_prog_1_method_68_code_3 8 rfl rfl rfl) (zd_b zq_prog_1_method_68_code_3 9 rfl rfl rfl) (by decide +kernel)
theorem d_Ip_ironBalances_106 : decode prog_1_method_68_code 106 = .ok (.iconst 1, 1) := zo_4 (zd_b zq_prog_1_method_68_code_3 10 rfl rfl rfl)
theorem d_Ip_ironBalances_107 : decode prog_1_method_68_code 107 = .ok (.goto 4, 3) := zo_167 (d := 0) (e := 4) (zd_b zq_prog_1_method_68_code_3 11 rfl rfl rfl) (zd_b zq_prog_1_method_68_code_3 12 rfl rfl rfl) (zd_b zq_prog_1_method_68_code_3 13 rfl rfl rfl) (by decide +kernel)
theorem d_Ip_ironBalances_111 : decode prog_1_method_68_code 111 = .ok (.ireturn, 1) := zo_172 (zd_b zq_prog_1_method_68_code_3 15 rfl rfl rfl)
abbrev M_Ip_elementBalances : zM := (⟨"Ironpour", "elementBalances", "(I)Z"⟩, prog_1_method_69_code, 6, (Option.some FieldType.boolean), 4, 84, [])
theorem d_Ip_elementBalances_0 : decode prog_1_method_69_code 0 = .ok (.aload_n 0, 1) := zo_42 (zd_b zq_prog_1_method_69_code_0 0 rfl rfl rfl)
theorem d_Ip_elementBalances_1 : decode prog_1_method_69_code 1 = .ok (.getfield 43, 3) := zo_180 (d := 0) (e := 43) (zd_b zq_prog_1_method_69_code_0 1 rfl rfl rfl) (zd_b zq_prog_1_method_69_code_0 2 rfl rfl rfl) (zd_b zq_prog_1_method_69_code_0 3 rfl rfl rfl)
theorem d_Ip_elementBalances_4 : decode prog_1_method_69_code 4 = .ok (.getfield 277, 3) := zo_180 (d := 1) (e := 21) (zd_b zq_prog_1_method_69_code_0 4 rfl rfl rfl) (zd_b zq_prog_1_method_69_code_0 5 rfl rfl rfl) (zd_b zq_prog_1_method_69_code_0 6 rfl rfl rfl)
theorem d_Ip_elementBalances_7 : decode prog_1_method_69_code 7 = .ok (.getfield 308, 3) := zo_180 (d := 1) (e := 52) (zd_b zq_prog_1_method_69_code_0 7 rfl rfl rfl) (zd_b zq_prog_1_method_69_code_0 8 rfl rfl rfl) (zd_b zq_prog_1_method_69_code_0 9 rfl rfl rfl)
theorem d_Ip_elementBalances_10 : decode prog_1_method_69_code 10 = .ok (.iload_n 1, 1) := zo_27 (zd_b zq_prog_1_method_69_code_0 10 rfl rfl rfl)
theorem d_Ip_elementBalances_11 : decode prog_1_method_69_code 11 = .ok (.laload, 1) := zo_47 (zd_b zq_prog_1_method_69_code_0 11 rfl rfl rfl)
theorem d_Ip_elementBalances_12 : decode prog_1_method_69_code 12 = .ok (.aload_n 0, 1) := zo_42 (zd_b zq_prog_1_method_69_code_0 12 rfl rfl rfl)
theorem d_Ip_elementBalances_13 : decode prog_1_method_69_code 13 = .ok (.getfield 50, 3) := zo_180 (d := 0) (e := 50) (zd_b zq_prog_1_method_69_code_0 13 rfl rfl rfl) (zd_b zq_prog_1_method_69_code_0 14 rfl rfl rfl) (zd_b zq_prog_1_method_69_code_0 15 rfl rfl rfl)
theorem d_Ip_elementBalances_16 : decode prog_1_method_69_code 16 = .ok (.getfield 359, 3) := zo_180 (d := 1) (e := 103) (zd_b zq_prog_1_method_69_code_0 16 rfl rfl rfl) (zd_b zq_prog_1_method_69_code_0 17 rfl rfl rfl) (zd_b zq_prog_1_method_69_code_0 18 rfl rfl rfl)
theorem d_Ip_elementBalances_19 : decode prog_1_method_69_code 19 = .ok (.getfield 308, 3) := zo_180 (d := 1) (e := 52) (zd_b zq_prog_1_method_69_code_0 19 rfl rfl rfl) (zd_b zq_prog_1_method_69_code_0 20 rfl rfl rfl) (zd_b zq_prog_1_method_69_code_0 21 rfl rfl rfl)
theorem d_Ip_elementBalances_22 : decode prog_1_method_69_code 22 = .ok (.iload_n 1, 1) := zo_27 (zd_b zq_prog_1_method_69_code_0 22 rfl rfl rfl)
theorem d_Ip_elementBalances_23 : decode prog_1_method_69_code 23 = .ok (.laload, 1) := zo_47 (zd_b zq_prog_1_method_69_code_0 23 rfl rfl rfl)
theorem d_Ip_elementBalances_24 : decode prog_1_method_69_code 24 = .ok (.ladd, 1) := zo_97 (zd_b zq_prog_1_method_69_code_0 24 rfl rfl rfl)
theorem d_Ip_elementBalances_25 : decode prog_1_method_69_code 25 = .ok (.aload_n 0, 1) := zo_42 (zd_b zq_prog_1_method_69_code_0 25 rfl rfl rfl)
theorem d_Ip_elementBalances_26 : decode prog_1_method_69_code 26 = .ok (.getfield 57, 3) := zo_180 (d := 0) (e := 57) (zd_b zq_prog_1_method_69_code_0 26 rfl rfl rfl) (zd_b zq_prog_1_method_69_code_0 27 rfl rfl rfl) (zd_b zq_prog_1_method_69_code_0 28 rfl rfl rfl)
theorem d_Ip_elementBalances_29 : decode prog_1_method_69_code 29 = .ok (.getfield 308, 3) := zo_180 (d := 1) (e := 52) (zd_b zq_prog_1_method_69_code_0 29 rfl rfl rfl) (zd_b zq_prog_1_method_69_code_0 30 rfl rfl rfl) (zd_b zq_prog_1_method_69_code_0 31 rfl rfl rfl)
theorem d_Ip_elementBalances_32 : decode prog_1_method_69_code 32 = .ok (.iload_n 1, 1) := zo_27 (zd_b zq_prog_1_method_69_code_1 0 rfl rfl rfl)
theorem d_Ip_elementBalances_33 : decode prog_1_method_69_code 33 = .ok (.laload, 1) := zo_47 (zd_b zq_prog_1_method_69_code_1 1 rfl rfl rfl)
theorem d_Ip_elementBalances_34 : decode prog_1_method_69_code 34 = .ok (.ladd, 1) := zo_97 (zd_b zq_prog_1_method_69_code_1 2 rfl rfl rfl)
theorem d_Ip_elementBalances_35 : decode prog_1_method_69_code 35 = .ok (.aload_n 0, 1) := zo_42 (zd_b zq_prog_1_method_69_code_1 3 rfl rfl rfl)
theorem d_Ip_elementBalances_36 : decode prog_1_method_69_code 36 = .ok (.getfield 61, 3) := zo_180 (d := 0) (e := 61) (zd_b zq_prog_1_method_69_code_1 4 rfl rfl rfl) (zd_b zq_prog_1_method_69_code_1 5 rfl rfl rfl) (zd_b zq_prog_1_method_69_code_1 6 rfl rfl rfl)
theorem d_Ip_elementBalances_39 : decode prog_1_method_69_code 39 = .ok (.getfield 308, 3) := zo_180 (d := 1) (e := 52) (zd_b zq_prog_1_method_69_code_1 7 rfl rfl rfl) (zd_b zq_prog_1_method_69_code_1 8 rfl rfl rfl) (zd_b zq_prog_1_method_69_code_1 9 rfl rfl rfl)
theorem d_Ip_elementBalances_42 : decode prog_1_method_69_code 42 = .ok (.iload_n 1, 1) := zo_27 (zd_b zq_prog_1_method_69_code_1 10 rfl rfl rfl)
theorem d_Ip_elementBalances_43 : decode prog_1_method_69_code 43 = .ok (.laload, 1) := zo_47 (zd_b zq_prog_1_method_69_code_1 11 rfl rfl rfl)
theorem d_Ip_elementBalances_44 : decode prog_1_method_69_code 44 = .ok (.ladd, 1) := zo_97 (zd_b zq_prog_1_method_69_code_1 12 rfl rfl rfl)
theorem d_Ip_elementBalances_45 : decode prog_1_method_69_code 45 = .ok (.aload_n 0, 1) := zo_42 (zd_b zq_prog_1_method_69_code_1 13 rfl rfl rfl)
theorem d_Ip_elementBalances_46 : decode prog_1_method_69_code 46 = .ok (.getfield 43, 3) := zo_180 (d := 0) (e := 43) (zd_b zq_prog_1_method_69_code_1 14 rfl rfl rfl) (zd_b zq_prog_1_method_69_code_1 15 rfl rfl rfl) (zd_b zq_prog_1_method_69_code_1 16 rfl rfl rfl)
theorem d_Ip_elementBalances_49 : decode prog_1_method_69_code 49 = .ok (.getfield 564, 3) := zo_180 (d := 2) (e := 52) (zd_b zq_prog_1_method_69_code_1 17 rfl rfl rfl) (zd_b zq_prog_1_method_69_code_1 18 rfl rfl rfl) (zd_b zq_prog_1_method_69_code_1 19 rfl rfl rfl)
theorem fs_Ip_564 : z_fs "Ironpour" 564 3 3 := ⟨R_Fu, "Ironpour$Furnace", F_Fu, 5, rfl, u_Fu, by decide, Or.inr ⟨"Ironpour", z_mk1 (i := 217) rfl (by decide +kernel), rfl⟩⟩
theorem d_Ip_elementBalances_52 : decode prog_1_method_69_code 52 = .ok (.iload_n 1, 1) := zo_27 (zd_b zq_prog_1_method_69_code_1 20 rfl rfl rfl)
theorem d_Ip_elementBalances_53 : decode prog_1_method_69_code 53 = .ok (.laload, 1) := zo_47 (zd_b zq_prog_1_method_69_code_1 21 rfl rfl rfl)
theorem d_Ip_elementBalances_54 : decode prog_1_method_69_code 54 = .ok (.ladd, 1) := zo_97 (zd_b zq_prog_1_method_69_code_1 22 rfl rfl rfl)
theorem d_Ip_elementBalances_55 : decode prog_1_method_69_code 55 = .ok (.lstore_n 2, 1) := zo_65 (zd_b zq_prog_1_method_69_code_1 23 rfl rfl rfl)
theorem d_Ip_elementBalances_56 : decode prog_1_method_69_code 56 = .ok (.iconst 0, 1) := zo_3 (zd_b zq_prog_1_method_69_code_1 24 rfl rfl rfl)
theorem d_Ip_elementBalances_57 : decode prog_1_method_69_code 57 = .ok (.istore 4, 2) := zo_54 (d := 4) (zd_b zq_prog_1_method_69_code_1 25 rfl rfl rfl) (zd_b zq_prog_1_method_69_code_1 26 rfl rfl rfl)
theorem d_Ip_elementBalances_59 : decode prog_1_method_69_code 59 = .ok (.iload 4, 2) := zo_21 (d := 4) (zd_b zq_prog_1_method_69_code_1 27 rfl rfl rfl) (zd_b zq_prog_1_method_69_code_1 28 rfl rfl rfl)
theorem d_Ip_elementBalances_61 : decode prog_1_method_69_code 61 = .ok (.aload_n 0, 1) := zo_42 (zd_b zq_prog_1_method_69_code_1 29 rfl rfl rfl)
theorem d_Ip_elementBalances_62 : decode prog_1_method_69_code 62 = .ok (.getfield 78, 3) := zo_180 (d := 0) (e := 78) (zd_b zq_prog_1_method_69_code_1 30 rfl rfl rfl) (zd_b zq_prog_1_method_69_code_1 31 rfl rfl rfl) (zd_b zq_prog_1_method_69_code_2 0 rfl rfl rfl)
theorem d_Ip_elementBalances_65 : decode prog_1_method_69_code 65 = .ok (.invokevirtual 341, 3) := zo_182 (d := 1) (e := 85) (zd_b zq_prog_1_method_69_code_2 1 rfl rfl rfl) (zd_b zq_prog_1_method_69_code_2 2 rfl rfl rfl) (zd_b zq_prog_1_method_69_code_2 3 rfl rfl rfl)
theorem ok_Ip_elementBalances_AL_size : z_ok M_Ip_elementBalances M_AL_size 0 := ⟨z_mj2 (i := 172) rfl (by decide +kernel), rfl, ⟨by decide +kernel, by decide +kernel, by decide +kernel⟩, ⟨by decide, by decide⟩, z_mj1 (i := 13) rfl (by decide +kernel), rfl⟩
theorem d_Ip_elementBalances_68 : decode prog_1_method_69_code 68 = .ok (.if_icmp .ge 44, 3) := zo_162 (d := 0) (e := 44) (zd_b zq_prog_1_method_69_code_2 4 rfl rfl rfl) (zd_b zq_prog_1_method_69_code_2 5 rfl rfl rfl) (zd_b zq_prog_1_method_69_code_2 6 rfl rfl rfl) (by decide +kernel)
theorem d_Ip_elementBalances_112 : decode prog_1_method_69_code 112 = .ok (.lload_n 2, 1) := zo_32 (zd_b zq_prog_1_method_69_code_3 16 rfl rfl rfl)
theorem d_Ip_elementBalances_113 : decode prog_1_method_69_code 113 = .ok (.ldc2_w 567, 3) := zo_20 (d := 2) (e := 55) (zd_b zq_prog_1_method_69_code_3 17 rfl rfl rfl) (zd_b zq_prog_1_method_69_code_3 18 rfl rfl rfl) (zd_b zq_prog_1_method_69_code_3 19 rfl rfl rfl)
theorem ct_Ip_567 : Cond.constantLong "Ironpour" 567 10 ∈ z_gw := z_mj2 (i := 204) rfl (by decide +kernel)
theorem d_Ip_elementBalances_116 : decode prog_1_method_69_code 116 = .ok (.lmul, 1) := zo_105 (zd_b zq_prog_1_method_69_code_3 20 rfl rfl rfl)
theorem d_Ip_elementBalances_117 : decode prog_1_method_69_code 117 = .ok (.aload_n 0, 1) := zo_42 (zd_b zq_prog_1_method_69_code_3 21 rfl rfl rfl)
theorem d_Ip_elementBalances_118 : decode prog_1_method_69_code 118 = .ok (.getfield 43, 3) := zo_180 (d := 0) (e := 43) (zd_b zq_prog_1_method_69_code_3 22 rfl rfl rfl) (zd_b zq_prog_1_method_69_code_3 23 rfl rfl rfl) (zd_b zq_prog_1_method_69_code_3 24 rfl rfl rfl)
theorem d_Ip_elementBalances_121 : decode prog_1_method_69_code 121 = .ok (.getfield 569, 3) := zo_180 (d := 2) (e := 57) (zd_b zq_prog_1_method_69_code_3 25 rfl rfl rfl) (zd_b zq_prog_1_method_69_code_3 26 rfl rfl rfl) (zd_b zq_prog_1_method_69_code_3 27 rfl rfl rfl)
theorem fs_Ip_569 : z_fs "Ironpour" 569 3 2 := ⟨R_Fu, "Ironpour$Furnace", F_Fu, 5, rfl, u_Fu, by decide, Or.inr ⟨"Ironpour", z_mk1 (i := 215) rfl (by decide +kernel), rfl⟩⟩
theorem d_Ip_elementBalances_124 : decode prog_1_method_69_code 124 = .ok (.iload_n 1, 1) := zo_27 (zd_b zq_prog_1_method_69_code_3 28 rfl rfl rfl)
theorem d_Ip_elementBalances_125 : decode prog_1_method_69_code 125 = .ok (.laload, 1) := zo_47 (zd_b zq_prog_1_method_69_code_3 29 rfl rfl rfl)
theorem d_Ip_elementBalances_126 : decode prog_1_method_69_code 126 = .ok (.ladd, 1) := zo_97 (zd_b zq_prog_1_method_69_code_3 30 rfl rfl rfl)
theorem d_Ip_elementBalances_127 : decode prog_1_method_69_code 127 = .ok (.aload_n 0, 1) := zo_42 (zd_b zq_prog_1_method_69_code_3 31 rfl rfl rfl)
theorem d_Ip_elementBalances_128 : decode prog_1_method_69_code 128 = .ok (.getfield 43, 3) := zo_180 (d := 0) (e := 43) (zd_b zq_prog_1_method_69_code_4 0 rfl rfl rfl) (zd_b zq_prog_1_method_69_code_4 1 rfl rfl rfl) (zd_b zq_prog_1_method_69_code_4 2 rfl rfl rfl)
theorem d_Ip_elementBalances_131 : decode prog_1_method_69_code 131 = .ok (.getfield 572, 3) := zo_180 (d := 2) (e := 60) (zd_b zq_prog_1_method_69_code_4 3 rfl rfl rfl) (zd_b zq_prog_1_method_69_code_4 4 rfl rfl rfl) (zd_b zq_prog_1_method_69_code_4 5 rfl rfl rfl)
theorem fs_Ip_572 : z_fs "Ironpour" 572 3 1 := ⟨R_Fu, "Ironpour$Furnace", F_Fu, 5, rfl, u_Fu, by decide, Or.inr ⟨"Ironpour", z_mk1 (i := 213) rfl (by decide +kernel), rfl⟩⟩
theorem d_Ip_elementBalances_134 : decode prog_1_method_69_code 134 = .ok (.iload_n 1, 1) := zo_27 (zd_b zq_prog_1_method_69_code_4 6 rfl rfl rfl)
theorem d_Ip_elementBalances_135 : decode prog_1_method_69_code 135 = .ok (.laload, 1) := zo_47 (zd_b zq_prog_1_method_69_code_4 7 rfl rfl rfl)
theorem d_Ip_elementBalances_136 : decode prog_1_method_69_code 136 = .ok (.lcmp, 1) := zo_148 (zd_b zq_prog_1_method_69_code_4 8 rfl rfl rfl)
theorem d_Ip_elementBalances_137 : decode prog_1_method_69_code 137 = .ok (.ifCond .ne 7, 3) := zo_154 (d := 0) (e := 7) (zd_b zq_prog_1_method_69_code_4 9 rfl rfl rfl) (zd_b zq_prog_1_method_69_code_4 10 rfl rfl rfl) (zd_b zq_prog_1_method_69_code_4 11 rfl rfl rfl) (by decide +kernel)
theorem d_Ip_elementBalances_140 : decode prog_1_method_69_code 140 = .ok (.iconst 1, 1) := zo_4 (zd_b zq_prog_1_method_69_code_4 12 rfl rfl rfl)
theorem d_Ip_elementBalances_141 : decode prog_1_method_69_code 141 = .ok (.goto 4, 3) := zo_167 (d := 0) (e := 4) (zd_b zq_prog_1_method_69_code_4 13 rfl rfl rfl) (zd_b zq_prog_1_method_69_code_4 14 rfl rfl rfl) (zd_b zq_prog_1_method_69_code_4 15 rfl rfl rfl) (by decide +kernel)
theorem d_Ip_elementBalances_145 : decode prog_1_method_69_code 145 = .ok (.ireturn, 1) := zo_172 (zd_b zq_prog_1_method_69_code_4 17 rfl rfl rfl)
abbrev M_Ip_isSound : zM := (⟨"Ironpour", "isSound", "()Z"⟩, prog_1_method_51_code, 2, (Option.some FieldType.boolean), 6, 136, [])
theorem d_Ip_isSound_11 : decode prog_1_method_51_code 11 = .ok (.iload_n 1, 1) := zo_27 (zd_b zq_prog_1_method_51_code_0 11 rfl rfl rfl)
theorem d_Ip_isSound_12 : decode prog_1_method_51_code 12 = .ok (.iconst 4, 1) := zo_7 (zd_b zq_prog_1_method_51_code_0 12 rfl rfl rfl)
theorem d_Ip_isSound_13 : decode prog_1_method_51_code 13 = .ok (.if_icmp .ge 19, 3) := zo_162 (d := 0) (e := 19) (zd_b zq_prog_1_method_51_code_0 13 rfl rfl rfl) (zd_b zq_prog_1_method_51_code_0 14 rfl rfl rfl) (zd_b zq_prog_1_method_51_code_0 15 rfl rfl rfl) (by decide +kernel)
theorem d_Ip_isSound_32 : decode prog_1_method_51_code 32 = .ok (.aload_n 0, 1) := zo_42 (zd_b zq_prog_1_method_51_code_1 0 rfl rfl rfl)
theorem d_Ip_isSound_33 : decode prog_1_method_51_code 33 = .ok (.getfield 19, 3) := zo_180 (d := 0) (e := 19) (zd_b zq_prog_1_method_51_code_1 1 rfl rfl rfl) (zd_b zq_prog_1_method_51_code_1 2 rfl rfl rfl) (zd_b zq_prog_1_method_51_code_1 3 rfl rfl rfl)
theorem d_Ip_isSound_36 : decode prog_1_method_51_code 36 = .ok (.sipush 1450, 3) := zo_17 (d := 5) (e := 170) (zd_b zq_prog_1_method_51_code_1 4 rfl rfl rfl) (zd_b zq_prog_1_method_51_code_1 5 rfl rfl rfl) (zd_b zq_prog_1_method_51_code_1 6 rfl rfl rfl) (by decide +kernel)
theorem d_Ip_isSound_39 : decode prog_1_method_51_code 39 = .ok (.invokevirtual 162, 3) := zo_182 (d := 0) (e := 162) (zd_b zq_prog_1_method_51_code_1 7 rfl rfl rfl) (zd_b zq_prog_1_method_51_code_1 8 rfl rfl rfl) (zd_b zq_prog_1_method_51_code_1 9 rfl rfl rfl)
theorem ok_Ip_isSound_Tr_freeze : z_ok M_Ip_isSound M_Tr_freeze 1 := ⟨z_mj2 (i := 208) rfl (by decide +kernel), rfl, ⟨by decide +kernel, by decide +kernel, by decide +kernel⟩, ⟨by decide, by decide⟩, z_mj1 (i := 3) rfl (by decide +kernel), rfl⟩
theorem d_Ip_isSound_42 : decode prog_1_method_51_code 42 = .ok (.aload_n 0, 1) := zo_42 (zd_b zq_prog_1_method_51_code_1 10 rfl rfl rfl)
theorem d_Ip_isSound_43 : decode prog_1_method_51_code 43 = .ok (.getfield 19, 3) := zo_180 (d := 0) (e := 19) (zd_b zq_prog_1_method_51_code_1 11 rfl rfl rfl) (zd_b zq_prog_1_method_51_code_1 12 rfl rfl rfl) (zd_b zq_prog_1_method_51_code_1 13 rfl rfl rfl)
theorem d_Ip_isSound_46 : decode prog_1_method_51_code 46 = .ok (.invokevirtual 503, 3) := zo_182 (d := 1) (e := 247) (zd_b zq_prog_1_method_51_code_1 14 rfl rfl rfl) (zd_b zq_prog_1_method_51_code_1 15 rfl rfl rfl) (zd_b zq_prog_1_method_51_code_1 16 rfl rfl rfl)
theorem ok_Ip_isSound_Tr_isFilledInOrder : z_ok M_Ip_isSound M_Tr_isFilledInOrder 0 := ⟨z_mj3 (i := 33) rfl (by decide +kernel), rfl, ⟨by decide +kernel, by decide +kernel, by decide +kernel⟩, ⟨by decide, by decide⟩, z_mj1 (i := 3) rfl (by decide +kernel), rfl⟩
theorem ln_Ip_503 : Cond.methodLink "Ironpour" 503 M_Tr_isFilledInOrder.1 ∈ z_gw := z_mj3 (i := 30) rfl (by decide +kernel)
theorem w_im_Tr_isFilledInOrder : Cond.instanceMethod M_Tr_isFilledInOrder.1 ∈ z_gw := z_mj3 (i := 31) rfl (by decide +kernel)
theorem w_se_Tr_isFilledInOrder : Cond.selects M_Tr_isFilledInOrder.1.cls M_Tr_isFilledInOrder.1 M_Tr_isFilledInOrder.1 ∈ z_gw := z_mj3 (i := 32) rfl (by decide +kernel)
theorem d_Ip_isSound_49 : decode prog_1_method_51_code 49 = .ok (.ifCond .eq 17, 3) := zo_153 (d := 0) (e := 17) (zd_b zq_prog_1_method_51_code_1 17 rfl rfl rfl) (zd_b zq_prog_1_method_51_code_1 18 rfl rfl rfl) (zd_b zq_prog_1_method_51_code_1 19 rfl rfl rfl) (by decide +kernel)
theorem d_Ip_isSound_52 : decode prog_1_method_51_code 52 = .ok (.aload_n 0, 1) := zo_42 (zd_b zq_prog_1_method_51_code_1 20 rfl rfl rfl)
theorem d_Ip_isSound_53 : decode prog_1_method_51_code 53 = .ok (.getfield 19, 3) := zo_180 (d := 0) (e := 19) (zd_b zq_prog_1_method_51_code_1 21 rfl rfl rfl) (zd_b zq_prog_1_method_51_code_1 22 rfl rfl rfl) (zd_b zq_prog_1_method_51_code_1 23 rfl rfl rfl)
theorem d_Ip_isSound_56 : decode prog_1_method_51_code 56 = .ok (.invokevirtual 506, 3) := zo_182 (d := 1) (e := 250) (zd_b zq_prog_1_method_51_code_1 24 rfl rfl rfl) (zd_b zq_prog_1_method_51_code_1 25 rfl rfl rfl) (zd_b zq_prog_1_method_51_code_1 26 rfl rfl rfl)
theorem ok_Ip_isSound_Tr_areFedOnesReached : z_ok M_Ip_isSound M_Tr_areFedOnesReached 0 := ⟨z_mj3 (i := 37) rfl (by decide +kernel), rfl, ⟨by decide +kernel, by decide +kernel, by decide +kernel⟩, ⟨by decide, by decide⟩, z_mj1 (i := 3) rfl (by decide +kernel), rfl⟩
theorem ln_Ip_506 : Cond.methodLink "Ironpour" 506 M_Tr_areFedOnesReached.1 ∈ z_gw := z_mj3 (i := 34) rfl (by decide +kernel)
theorem w_im_Tr_areFedOnesReached : Cond.instanceMethod M_Tr_areFedOnesReached.1 ∈ z_gw := z_mj3 (i := 35) rfl (by decide +kernel)
theorem w_se_Tr_areFedOnesReached : Cond.selects M_Tr_areFedOnesReached.1.cls M_Tr_areFedOnesReached.1 M_Tr_areFedOnesReached.1 ∈ z_gw := z_mj3 (i := 36) rfl (by decide +kernel)
theorem d_Ip_isSound_59 : decode prog_1_method_51_code 59 = .ok (.ifCond .eq 7, 3) := zo_153 (d := 0) (e := 7) (zd_b zq_prog_1_method_51_code_1 27 rfl rfl rfl) (zd_b zq_prog_1_method_51_code_1 28 rfl rfl rfl) (zd_b zq_prog_1_method_51_code_1 29 rfl rfl rfl) (by decide +kernel)
theorem d_Ip_isSound_62 : decode prog_1_method_51_code 62 = .ok (.iconst 1, 1) := zo_4 (zd_b zq_prog_1_method_51_code_1 30 rfl rfl rfl)
theorem d_Ip_isSound_63 : decode prog_1_method_51_code 63 = .ok (.goto 4, 3) := zo_167 (d := 0) (e := 4) (zd_b zq_prog_1_method_51_code_1 31 rfl rfl rfl) (zd_b zq_prog_1_method_51_code_2 0 rfl rfl rfl) (zd_b zq_prog_1_method_51_code_2 1 rfl rfl rfl) (by decide +kernel)
theorem d_Ip_isSound_67 : decode prog_1_method_51_code 67 = .ok (.ireturn, 1) := zo_172 (zd_b zq_prog_1_method_51_code_2 3 rfl rfl rfl)
theorem d_Ip_isSound_16 : decode prog_1_method_51_code 16 = .ok (.aload_n 0, 1) := zo_42 (zd_b zq_prog_1_method_51_code_0 16 rfl rfl rfl)
theorem d_Ip_isSound_17 : decode prog_1_method_51_code 17 = .ok (.iload_n 1, 1) := zo_27 (zd_b zq_prog_1_method_51_code_0 17 rfl rfl rfl)
theorem d_Ip_isSound_18 : decode prog_1_method_51_code 18 = .ok (.invokevirtual 500, 3) := zo_182 (d := 1) (e := 244) (zd_b zq_prog_1_method_51_code_0 18 rfl rfl rfl) (zd_b zq_prog_1_method_51_code_0 19 rfl rfl rfl) (zd_b zq_prog_1_method_51_code_0 20 rfl rfl rfl)
theorem ok_Ip_isSound_Ip_elementBalances : z_ok M_Ip_isSound M_Ip_elementBalances 1 := ⟨z_mj2 (i := 203) rfl (by decide +kernel), rfl, ⟨by decide +kernel, by decide +kernel, by decide +kernel⟩, ⟨by decide, by decide⟩, z_mj1 (i := 1) rfl (by decide +kernel), rfl⟩
theorem ln_Ip_500 : Cond.methodLink "Ironpour" 500 M_Ip_elementBalances.1 ∈ z_gw := z_mj2 (i := 200) rfl (by decide +kernel)
theorem w_im_Ip_elementBalances : Cond.instanceMethod M_Ip_elementBalances.1 ∈ z_gw := z_mj2 (i := 202) rfl (by decide +kernel)
theorem w_se_Ip_elementBalances : Cond.selects M_Ip_elementBalances.1.cls M_Ip_elementBalances.1 M_Ip_elementBalances.1 ∈ z_gw := z_mem (i := 5) (by decide +kernel) (by decide +kernel)
theorem d_Ip_isSound_21 : decode prog_1_method_51_code 21 = .ok (.ifCond .ne 5, 3) := zo_154 (d := 0) (e := 5) (zd_b zq_prog_1_method_51_code_0 21 rfl rfl rfl) (zd_b zq_prog_1_method_51_code_0 22 rfl rfl rfl) (zd_b zq_prog_1_method_51_code_0 23 rfl rfl rfl) (by decide +kernel)
theorem d_Ip_isSound_26 : decode prog_1_method_51_code 26 = .ok (.iinc 1 1, 3) := by decide +kernel
theorem d_Ip_isSound_29 : decode prog_1_method_51_code 29 = .ok (.goto (-18), 3) := zo_167 (d := 255) (e := 238) (zd_b zq_prog_1_method_51_code_0 29 rfl rfl rfl) (zd_b zq_prog_1_method_51_code_0 30 rfl rfl rfl) (zd_b zq_prog_1_method_51_code_0 31 rfl rfl rfl) (by decide +kernel)
theorem d_Ip_isSound_0 : decode prog_1_method_51_code 0 = .ok (.aload_n 0, 1) := zo_42 (zd_b zq_prog_1_method_51_code_0 0 rfl rfl rfl)
theorem d_Ip_isSound_1 : decode prog_1_method_51_code 1 = .ok (.invokevirtual 497, 3) := zo_182 (d := 1) (e := 241) (zd_b zq_prog_1_method_51_code_0 1 rfl rfl rfl) (zd_b zq_prog_1_method_51_code_0 2 rfl rfl rfl) (zd_b zq_prog_1_method_51_code_0 3 rfl rfl rfl)
theorem ok_Ip_isSound_Ip_ironBalances : z_ok M_Ip_isSound M_Ip_ironBalances 0 := ⟨z_mj2 (i := 199) rfl (by decide +kernel), rfl, ⟨by decide +kernel, by decide +kernel, by decide +kernel⟩, ⟨by decide, by decide⟩, z_mj1 (i := 1) rfl (by decide +kernel), rfl⟩
theorem ln_Ip_497 : Cond.methodLink "Ironpour" 497 M_Ip_ironBalances.1 ∈ z_gw := z_mj2 (i := 196) rfl (by decide +kernel)
theorem w_im_Ip_ironBalances : Cond.instanceMethod M_Ip_ironBalances.1 ∈ z_gw := z_mj2 (i := 198) rfl (by decide +kernel)
theorem w_se_Ip_ironBalances : Cond.selects M_Ip_ironBalances.1.cls M_Ip_ironBalances.1 M_Ip_ironBalances.1 ∈ z_gw := z_mem (i := 4) (by decide +kernel) (by decide +kernel)
theorem d_Ip_isSound_4 : decode prog_1_method_51_code 4 = .ok (.ifCond .ne 5, 3) := zo_154 (d := 0) (e := 5) (zd_b zq_prog_1_method_51_code_0 4 rfl rfl rfl) (zd_b zq_prog_1_method_51_code_0 5 rfl rfl rfl) (zd_b zq_prog_1_method_51_code_0 6 rfl rfl rfl) (by decide +kernel)
theorem d_Ip_isSound_9 : decode prog_1_method_51_code 9 = .ok (.iconst 0, 1) := zo_3 (zd_b zq_prog_1_method_51_code_0 9 rfl rfl rfl)
theorem d_Ip_isSound_10 : decode prog_1_method_51_code 10 = .ok (.istore_n 1, 1) := zo_60 (zd_b zq_prog_1_method_51_code_0 10 rfl rfl rfl)
abbrev M_Ip_placeOfBestFeeder : zM := (⟨"Ironpour", "placeOfBestFeeder", "(II)I"⟩, prog_1_method_63_code, 7, (Option.some FieldType.int), 6, 136, [])
theorem d_Ip_placeOfBestFeeder_0 : decode prog_1_method_63_code 0 = .ok (.iload_n 2, 1) := zo_28 (zd_b zq_prog_1_method_63_code_0 0 rfl rfl rfl)
theorem d_Ip_placeOfBestFeeder_1 : decode prog_1_method_63_code 1 = .ok (.istore_n 3, 1) := zo_62 (zd_b zq_prog_1_method_63_code_0 1 rfl rfl rfl)
theorem d_Ip_placeOfBestFeeder_2 : decode prog_1_method_63_code 2 = .ok (.iconst (-1), 1) := zo_2 (zd_b zq_prog_1_method_63_code_0 2 rfl rfl rfl)
theorem d_Ip_placeOfBestFeeder_3 : decode prog_1_method_63_code 3 = .ok (.istore 4, 2) := zo_54 (d := 4) (zd_b zq_prog_1_method_63_code_0 3 rfl rfl rfl) (zd_b zq_prog_1_method_63_code_0 4 rfl rfl rfl)
theorem d_Ip_placeOfBestFeeder_5 : decode prog_1_method_63_code 5 = .ok (.iconst 0, 1) := zo_3 (zd_b zq_prog_1_method_63_code_0 5 rfl rfl rfl)
theorem d_Ip_placeOfBestFeeder_6 : decode prog_1_method_63_code 6 = .ok (.istore 5, 2) := zo_54 (d := 5) (zd_b zq_prog_1_method_63_code_0 6 rfl rfl rfl) (zd_b zq_prog_1_method_63_code_0 7 rfl rfl rfl)
theorem d_Ip_placeOfBestFeeder_8 : decode prog_1_method_63_code 8 = .ok (.iload 5, 2) := zo_21 (d := 5) (zd_b zq_prog_1_method_63_code_0 8 rfl rfl rfl) (zd_b zq_prog_1_method_63_code_0 9 rfl rfl rfl)
theorem d_Ip_placeOfBestFeeder_10 : decode prog_1_method_63_code 10 = .ok (.bipush 108, 2) := zo_16 (d := 108) (zd_b zq_prog_1_method_63_code_0 10 rfl rfl rfl) (zd_b zq_prog_1_method_63_code_0 11 rfl rfl rfl) (by decide +kernel)
theorem d_Ip_placeOfBestFeeder_12 : decode prog_1_method_63_code 12 = .ok (.if_icmp .ge 104, 3) := zo_162 (d := 0) (e := 104) (zd_b zq_prog_1_method_63_code_0 12 rfl rfl rfl) (zd_b zq_prog_1_method_63_code_0 13 rfl rfl rfl) (zd_b zq_prog_1_method_63_code_0 14 rfl rfl rfl) (by decide +kernel)
theorem d_Ip_placeOfBestFeeder_15 : decode prog_1_method_63_code 15 = .ok (.iload_n 3, 1) := zo_29 (zd_b zq_prog_1_method_63_code_0 15 rfl rfl rfl)
theorem d_Ip_placeOfBestFeeder_16 : decode prog_1_method_63_code 16 = .ok (.ifCond .le 100, 3) := zo_158 (d := 0) (e := 100) (zd_b zq_prog_1_method_63_code_0 16 rfl rfl rfl) (zd_b zq_prog_1_method_63_code_0 17 rfl rfl rfl) (zd_b zq_prog_1_method_63_code_0 18 rfl rfl rfl) (by decide +kernel)
theorem d_Ip_placeOfBestFeeder_116 : decode prog_1_method_63_code 116 = .ok (.iload 4, 2) := zo_21 (d := 4) (zd_b zq_prog_1_method_63_code_3 20 rfl rfl rfl) (zd_b zq_prog_1_method_63_code_3 21 rfl rfl rfl)
theorem d_Ip_placeOfBestFeeder_118 : decode prog_1_method_63_code 118 = .ok (.ireturn, 1) := zo_172 (zd_b zq_prog_1_method_63_code_3 22 rfl rfl rfl)
abbrev M_Ip_bestFeeder : zM := (⟨"Ironpour", "bestFeeder", "(I)I"⟩, prog_1_method_17_code, 3, (Option.some FieldType.int), 7, 162, [])
theorem d_Ip_bestFeeder_0 : decode prog_1_method_17_code 0 = .ok (.iload_n 1, 1) := zo_27 (zd_b zq_prog_1_method_17_code_0 0 rfl rfl rfl)
theorem d_Ip_bestFeeder_1 : decode prog_1_method_17_code 1 = .ok (.invokestatic 158, 3) := zo_184 (d := 0) (e := 158) (zd_b zq_prog_1_method_17_code_0 1 rfl rfl rfl) (zd_b zq_prog_1_method_17_code_0 2 rfl rfl rfl) (zd_b zq_prog_1_method_17_code_0 3 rfl rfl rfl)
theorem ok_Ip_bestFeeder_Ip_checkHeat : z_ok M_Ip_bestFeeder M_Ip_checkHeat 1 := ⟨z_mj4 (i := 94) rfl (by decide +kernel), rfl, ⟨by decide +kernel, by decide +kernel, by decide +kernel⟩, ⟨by decide, by decide⟩, z_mj1 (i := 1) rfl (by decide +kernel), rfl⟩
theorem d_Ip_bestFeeder_4 : decode prog_1_method_17_code 4 = .ok (.aload_n 0, 1) := zo_42 (zd_b zq_prog_1_method_17_code_0 4 rfl rfl rfl)
theorem d_Ip_bestFeeder_5 : decode prog_1_method_17_code 5 = .ok (.getfield 19, 3) := zo_180 (d := 0) (e := 19) (zd_b zq_prog_1_method_17_code_0 5 rfl rfl rfl) (zd_b zq_prog_1_method_17_code_0 6 rfl rfl rfl) (zd_b zq_prog_1_method_17_code_0 7 rfl rfl rfl)
theorem d_Ip_bestFeeder_8 : decode prog_1_method_17_code 8 = .ok (.iload_n 1, 1) := zo_27 (zd_b zq_prog_1_method_17_code_0 8 rfl rfl rfl)
theorem d_Ip_bestFeeder_9 : decode prog_1_method_17_code 9 = .ok (.invokevirtual 162, 3) := zo_182 (d := 0) (e := 162) (zd_b zq_prog_1_method_17_code_0 9 rfl rfl rfl) (zd_b zq_prog_1_method_17_code_0 10 rfl rfl rfl) (zd_b zq_prog_1_method_17_code_0 11 rfl rfl rfl)
theorem ok_Ip_bestFeeder_Tr_freeze : z_ok M_Ip_bestFeeder M_Tr_freeze 1 := ⟨z_mj2 (i := 208) rfl (by decide +kernel), rfl, ⟨by decide +kernel, by decide +kernel, by decide +kernel⟩, ⟨by decide, by decide⟩, z_mj1 (i := 3) rfl (by decide +kernel), rfl⟩
theorem d_Ip_bestFeeder_12 : decode prog_1_method_17_code 12 = .ok (.aload_n 0, 1) := zo_42 (zd_b zq_prog_1_method_17_code_0 12 rfl rfl rfl)
theorem d_Ip_bestFeeder_13 : decode prog_1_method_17_code 13 = .ok (.iload_n 1, 1) := zo_27 (zd_b zq_prog_1_method_17_code_0 13 rfl rfl rfl)
theorem d_Ip_bestFeeder_14 : decode prog_1_method_17_code 14 = .ok (.aload_n 0, 1) := zo_42 (zd_b zq_prog_1_method_17_code_0 14 rfl rfl rfl)
theorem d_Ip_bestFeeder_15 : decode prog_1_method_17_code 15 = .ok (.getfield 19, 3) := zo_180 (d := 0) (e := 19) (zd_b zq_prog_1_method_17_code_0 15 rfl rfl rfl) (zd_b zq_prog_1_method_17_code_0 16 rfl rfl rfl) (zd_b zq_prog_1_method_17_code_0 17 rfl rfl rfl)
theorem d_Ip_bestFeeder_18 : decode prog_1_method_17_code 18 = .ok (.invokevirtual 187, 3) := zo_182 (d := 0) (e := 187) (zd_b zq_prog_1_method_17_code_0 18 rfl rfl rfl) (zd_b zq_prog_1_method_17_code_0 19 rfl rfl rfl) (zd_b zq_prog_1_method_17_code_0 20 rfl rfl rfl)
theorem ok_Ip_bestFeeder_Tr_shrunkCells : z_ok M_Ip_bestFeeder M_Tr_shrunkCells 0 := ⟨z_mj4 (i := 128) rfl (by decide +kernel), rfl, ⟨by decide +kernel, by decide +kernel, by decide +kernel⟩, ⟨by decide, by decide⟩, z_mj1 (i := 3) rfl (by decide +kernel), rfl⟩
theorem d_Ip_bestFeeder_21 : decode prog_1_method_17_code 21 = .ok (.invokevirtual 198, 3) := zo_182 (d := 0) (e := 198) (zd_b zq_prog_1_method_17_code_0 21 rfl rfl rfl) (zd_b zq_prog_1_method_17_code_0 22 rfl rfl rfl) (zd_b zq_prog_1_method_17_code_0 23 rfl rfl rfl)
theorem ok_Ip_bestFeeder_Ip_placeOfBestFeeder : z_ok M_Ip_bestFeeder M_Ip_placeOfBestFeeder 2 := ⟨z_mj4 (i := 162) rfl (by decide +kernel), rfl, ⟨by decide +kernel, by decide +kernel, by decide +kernel⟩, ⟨by decide, by decide⟩, z_mj1 (i := 1) rfl (by decide +kernel), rfl⟩
theorem ln_Ip_198 : Cond.methodLink "Ironpour" 198 M_Ip_placeOfBestFeeder.1 ∈ z_gw := z_mj4 (i := 159) rfl (by decide +kernel)
theorem w_im_Ip_placeOfBestFeeder : Cond.instanceMethod M_Ip_placeOfBestFeeder.1 ∈ z_gw := z_mj4 (i := 161) rfl (by decide +kernel)
theorem w_se_Ip_placeOfBestFeeder : Cond.selects M_Ip_placeOfBestFeeder.1.cls M_Ip_placeOfBestFeeder.1 M_Ip_placeOfBestFeeder.1 ∈ z_gw := z_mem (i := 18) (by decide +kernel) (by decide +kernel)
theorem d_Ip_bestFeeder_24 : decode prog_1_method_17_code 24 = .ok (.istore_n 2, 1) := zo_61 (zd_b zq_prog_1_method_17_code_0 24 rfl rfl rfl)
theorem d_Ip_bestFeeder_25 : decode prog_1_method_17_code 25 = .ok (.iload_n 2, 1) := zo_28 (zd_b zq_prog_1_method_17_code_0 25 rfl rfl rfl)
theorem d_Ip_bestFeeder_26 : decode prog_1_method_17_code 26 = .ok (.ifCond .ge 13, 3) := zo_156 (d := 0) (e := 13) (zd_b zq_prog_1_method_17_code_0 26 rfl rfl rfl) (zd_b zq_prog_1_method_17_code_0 27 rfl rfl rfl) (zd_b zq_prog_1_method_17_code_0 28 rfl rfl rfl) (by decide +kernel)
theorem d_Ip_bestFeeder_29 : decode prog_1_method_17_code 29 = .ok (.new 150, 3) := zo_187 (d := 0) (e := 150) (zd_b zq_prog_1_method_17_code_0 29 rfl rfl rfl) (zd_b zq_prog_1_method_17_code_0 30 rfl rfl rfl) (zd_b zq_prog_1_method_17_code_0 31 rfl rfl rfl)
theorem sr_Ip_201 : Cond.stringRef "Ironpour" 201 "no feeder leaves fewer cells shrunk" ∈ lw_tbl := z_tb4 (i := 167) rfl
theorem d_Ip_bestFeeder_32 : decode prog_1_method_17_code 32 = .ok (.dup, 1) := zo_89 (zd_b zq_prog_1_method_17_code_1 0 rfl rfl rfl)
theorem d_Ip_bestFeeder_33 : decode prog_1_method_17_code 33 = .ok (.ldc 201, 2) := zo_18 (d := 201) (zd_b zq_prog_1_method_17_code_1 1 rfl rfl rfl) (zd_b zq_prog_1_method_17_code_1 2 rfl rfl rfl)
theorem d_Ip_bestFeeder_35 : decode prog_1_method_17_code 35 = .ok (.invokespecial 154, 3) := zo_183 (d := 0) (e := 154) (zd_b zq_prog_1_method_17_code_1 3 rfl rfl rfl) (zd_b zq_prog_1_method_17_code_1 4 rfl rfl rfl) (zd_b zq_prog_1_method_17_code_1 5 rfl rfl rfl)
theorem d_Ip_bestFeeder_38 : decode prog_1_method_17_code 38 = .ok (.athrow, 1) := zo_191 (zd_b zq_prog_1_method_17_code_1 6 rfl rfl rfl)
abbrev M_Ip_charge : zM := (⟨"Ironpour", "charge", "(CI)I"⟩, prog_1_method_23_code, 5, (Option.some FieldType.int), 8, 179, [])
theorem d_Ip_charge_0 : decode prog_1_method_23_code 0 = .ok (.ldc_w 261, 3) := zo_19 (d := 1) (e := 5) (zd_b zq_prog_1_method_23_code_0 0 rfl rfl rfl) (zd_b zq_prog_1_method_23_code_0 1 rfl rfl rfl) (zd_b zq_prog_1_method_23_code_0 2 rfl rfl rfl)
theorem d_Ip_charge_3 : decode prog_1_method_23_code 3 = .ok (.iload_n 1, 1) := zo_27 (zd_b zq_prog_1_method_23_code_0 3 rfl rfl rfl)
theorem d_Ip_charge_4 : decode prog_1_method_23_code 4 = .ok (.invokevirtual 83, 3) := zo_182 (d := 0) (e := 83) (zd_b zq_prog_1_method_23_code_0 4 rfl rfl rfl) (zd_b zq_prog_1_method_23_code_0 5 rfl rfl rfl) (zd_b zq_prog_1_method_23_code_0 6 rfl rfl rfl)
theorem ok_Ip_charge_String_indexOf_0 : z_ok M_Ip_charge M_String_indexOf_0 1 := ⟨z_mj3 (i := 58) rfl (by decide +kernel), rfl, ⟨by decide +kernel, by decide +kernel, by decide +kernel⟩, ⟨by decide, by decide⟩, z_mj1 (i := 15) rfl (by decide +kernel), rfl⟩
theorem d_Ip_charge_7 : decode prog_1_method_23_code 7 = .ok (.ifCond .lt 14, 3) := zo_155 (d := 0) (e := 14) (zd_b zq_prog_1_method_23_code_0 7 rfl rfl rfl) (zd_b zq_prog_1_method_23_code_0 8 rfl rfl rfl) (zd_b zq_prog_1_method_23_code_0 9 rfl rfl rfl) (by decide +kernel)
theorem d_Ip_charge_21 : decode prog_1_method_23_code 21 = .ok (.new 89, 3) := zo_187 (d := 0) (e := 89) (zd_b zq_prog_1_method_23_code_0 21 rfl rfl rfl) (zd_b zq_prog_1_method_23_code_0 22 rfl rfl rfl) (zd_b zq_prog_1_method_23_code_0 23 rfl rfl rfl)
theorem sr_Ip_263 : Cond.stringRef "Ironpour" 263 "no such kind, or an amount out of 1 to 1000" ∈ lw_tbl := z_tb5 (i := 23) rfl
theorem d_Ip_charge_24 : decode prog_1_method_23_code 24 = .ok (.dup, 1) := zo_89 (zd_b zq_prog_1_method_23_code_0 24 rfl rfl rfl)
theorem d_Ip_charge_25 : decode prog_1_method_23_code 25 = .ok (.ldc_w 263, 3) := zo_19 (d := 1) (e := 7) (zd_b zq_prog_1_method_23_code_0 25 rfl rfl rfl) (zd_b zq_prog_1_method_23_code_0 26 rfl rfl rfl) (zd_b zq_prog_1_method_23_code_0 27 rfl rfl rfl)
theorem d_Ip_charge_28 : decode prog_1_method_23_code 28 = .ok (.invokespecial 93, 3) := zo_183 (d := 0) (e := 93) (zd_b zq_prog_1_method_23_code_0 28 rfl rfl rfl) (zd_b zq_prog_1_method_23_code_0 29 rfl rfl rfl) (zd_b zq_prog_1_method_23_code_0 30 rfl rfl rfl)
theorem d_Ip_charge_31 : decode prog_1_method_23_code 31 = .ok (.athrow, 1) := zo_191 (zd_b zq_prog_1_method_23_code_0 31 rfl rfl rfl)
theorem d_Ip_charge_10 : decode prog_1_method_23_code 10 = .ok (.iload_n 2, 1) := zo_28 (zd_b zq_prog_1_method_23_code_0 10 rfl rfl rfl)
theorem d_Ip_charge_11 : decode prog_1_method_23_code 11 = .ok (.iconst 1, 1) := zo_4 (zd_b zq_prog_1_method_23_code_0 11 rfl rfl rfl)
theorem d_Ip_charge_12 : decode prog_1_method_23_code 12 = .ok (.sipush 1000, 3) := zo_17 (d := 3) (e := 232) (zd_b zq_prog_1_method_23_code_0 12 rfl rfl rfl) (zd_b zq_prog_1_method_23_code_0 13 rfl rfl rfl) (zd_b zq_prog_1_method_23_code_0 14 rfl rfl rfl) (by decide +kernel)
theorem d_Ip_charge_15 : decode prog_1_method_23_code 15 = .ok (.invokestatic 203, 3) := zo_184 (d := 0) (e := 203) (zd_b zq_prog_1_method_23_code_0 15 rfl rfl rfl) (zd_b zq_prog_1_method_23_code_0 16 rfl rfl rfl) (zd_b zq_prog_1_method_23_code_0 17 rfl rfl rfl)
theorem ok_Ip_charge_Ip_isWithin : z_ok M_Ip_charge M_Ip_isWithin 3 := ⟨z_mj4 (i := 97) rfl (by decide +kernel), rfl, ⟨by decide +kernel, by decide +kernel, by decide +kernel⟩, ⟨by decide, by decide⟩, z_mj1 (i := 1) rfl (by decide +kernel), rfl⟩
theorem d_Ip_charge_18 : decode prog_1_method_23_code 18 = .ok (.ifCond .ne 14, 3) := zo_154 (d := 0) (e := 14) (zd_b zq_prog_1_method_23_code_0 18 rfl rfl rfl) (zd_b zq_prog_1_method_23_code_0 19 rfl rfl rfl) (zd_b zq_prog_1_method_23_code_0 20 rfl rfl rfl) (by decide +kernel)
set_option maxHeartbeats 4000000 in
set_option maxRecDepth 100000 in
theorem C_Ip_chargeE (g : zG) (a pa ta sa gs co fu la gy du re wm ac : Nat) (lab labg gyg dug fub fubg fut1 fut2 fut3 : Nat) (gr T1 T2 T3 g1 g2 : Nat → Int64) (ir i1 i2 : Int32) (io : Int64) (m : Int32) (k : Int32) (hw : ¬ (0 ≤ z_ix 1 k ∧ (1 ≤ m ∧ m ≤ 1000))) : CT g M_Ip_charge [.ref a, .int k, .int m] [(a, .inr (11, [.ref pa, .ref ta, .ref sa, .ref gs, .ref co, .ref fu, .ref la, .ref gy, .ref du, .ref re, .ref wm, .ref ac])), (fu, .inr (3, [.ref fub, .ref fut1, .ref fut2, .ref fut3, .long io])), (fub, .inr (6, [.ref fubg, .int ir])), (fubg, .inl (3, 4, .inr (.inl gr))), (fut1, .inl (3, 4, .inr (.inl T1))), (fut2, .inl (3, 4, .inr (.inl T2))), (fut3, .inl (3, 4, .inr (.inl T3))), (gy, .inr (6, [.ref gyg, .int i1])), (gyg, .inl (3, 4, .inr (.inl g1))), (du, .inr (6, [.ref dug, .int i2])), (dug, .inl (3, 4, .inr (.inl g2)))] (fun o cs1 => o = .inr "java/lang/IllegalArgumentException" ∧ cs1 = [(a, .inr (11, [.ref pa, .ref ta, .ref sa, .ref gs, .ref co, .ref fu, .ref la, .ref gy, .ref du, .ref re, .ref wm, .ref ac])), (fu, .inr (3, [.ref fub, .ref fut1, .ref fut2, .ref fut3, .long io])), (fub, .inr (6, [.ref fubg, .int ir])), (fubg, .inl (3, 4, .inr (.inl gr))), (fut1, .inl (3, 4, .inr (.inl T1))), (fut2, .inl (3, 4, .inr (.inl T2))), (fut3, .inl (3, 4, .inr (.inl T3))), (gy, .inr (6, [.ref gyg, .int i1])), (gyg, .inl (3, 4, .inr (.inl g1))), (du, .inr (6, [.ref dug, .int i2])), (dug, .inl (3, 4, .inr (.inl g2)))]) 1 6 := by
  refine z_of (by decide) rfl (Nat.le_of_ble_eq_true rfl) (fun w0 => ?_)
  refine r_lvE (lv2 := [(0, .ref a), (1, .int k), (2, .int m)]) rfl ?_
  refine r_ldcWS (own := "Ironpour") (i := 1) (by decide) d_Ip_charge_0 ?_
  refine r_iload_n d_Ip_charge_3 rfl 1 rfl ?_
  refine r_callVS (As := [.int k]) (rest := []) (csC := []) (is := []) (i := 1) (by first | assumption | decide) rfl ln_Ip_83 w_im_String_indexOf_0 w_se_String_indexOf_0 ok_Ip_charge_String_indexOf_0 d_Ip_charge_4 (C_St_indexOf g 1 (by decide) k) rfl rfl (Nat.le_of_ble_eq_true rfl) rfl (by decide) (by omega) (by omega) (fun E cs1 hx => ?_) (fun v cs1 hx => ?_)
  · exact absurd hx.1 (by simp)
  · obtain ⟨e1, rfl⟩ := hx
    cases e1
    refine ⟨rfl, ?_⟩
    refine r_st (st2 := [.int (z_ix 1 k)]) rfl ?_
    refine r_cs (cs2 := [(a, .inr (11, [.ref pa, .ref ta, .ref sa, .ref gs, .ref co, .ref fu, .ref la, .ref gy, .ref du, .ref re, .ref wm, .ref ac])), (fu, .inr (3, [.ref fub, .ref fut1, .ref fut2, .ref fut3, .long io])), (fub, .inr (6, [.ref fubg, .int ir])), (fubg, .inl (3, 4, .inr (.inl gr))), (fut1, .inl (3, 4, .inr (.inl T1))), (fut2, .inl (3, 4, .inr (.inl T2))), (fut3, .inl (3, 4, .inr (.inl T3))), (gy, .inr (6, [.ref gyg, .int i1])), (gyg, .inl (3, 4, .inr (.inl g1))), (du, .inr (6, [.ref dug, .int i2])), (dug, .inl (3, 4, .inr (.inl g2)))]) rfl ?_
    refine r_if_lt (tgt := 21) d_Ip_charge_7 (by decide) (fun c_7 => ?_) (fun c_7 => ?_)
    · refine r_throwW tb_Ip_89_93 sr_Ip_263 d_Ip_charge_21 d_Ip_charge_24 d_Ip_charge_25 d_Ip_charge_28 d_Ip_charge_31 rfl (by decide) (by decide) (Nat.le_of_ble_eq_true rfl) (by omega) (by omega) ?_
      exact ⟨rfl, rfl⟩
    · refine r_iload_n d_Ip_charge_10 rfl 2 rfl ?_
      refine r_iconst d_Ip_charge_11 (v := 1) (by decide) ?_
      refine r_sipush d_Ip_charge_12 (v := 1000) (by decide) ?_
      refine r_callS (As := [.int m, .int 1, .int 1000]) (rest := []) (csC := []) (is := []) ln_Ip_203 w_st_Ip_isWithin ok_Ip_charge_Ip_isWithin d_Ip_charge_15 (C_Ip_isWithin g m 1 1000) rfl rfl (Nat.le_of_ble_eq_true rfl) rfl (by decide) (by omega) (by omega) (fun E cs1 hx => ?_) (fun v cs1 hx => ?_)
      · exact absurd hx.1 (by simp)
      · obtain ⟨e1, rfl⟩ := hx
        cases e1
        refine ⟨rfl, ?_⟩
        refine r_st (st2 := [.int (if 1 ≤ m ∧ m ≤ 1000 then 1 else 0)]) rfl ?_
        refine r_cs (cs2 := [(a, .inr (11, [.ref pa, .ref ta, .ref sa, .ref gs, .ref co, .ref fu, .ref la, .ref gy, .ref du, .ref re, .ref wm, .ref ac])), (fu, .inr (3, [.ref fub, .ref fut1, .ref fut2, .ref fut3, .long io])), (fub, .inr (6, [.ref fubg, .int ir])), (fubg, .inl (3, 4, .inr (.inl gr))), (fut1, .inl (3, 4, .inr (.inl T1))), (fut2, .inl (3, 4, .inr (.inl T2))), (fut3, .inl (3, 4, .inr (.inl T3))), (gy, .inr (6, [.ref gyg, .int i1])), (gyg, .inl (3, 4, .inr (.inl g1))), (du, .inr (6, [.ref dug, .int i2])), (dug, .inl (3, 4, .inr (.inl g2)))]) rfl ?_
        refine r_if_ne (tgt := 32) d_Ip_charge_18 (by decide) (fun c_18 => ?_) (fun c_18 => ?_)
        · exact absurd ⟨Int32.not_lt.mp c_7, z_b1 c_18⟩ hw
        · refine r_throwW tb_Ip_89_93 sr_Ip_263 d_Ip_charge_21 d_Ip_charge_24 d_Ip_charge_25 d_Ip_charge_28 d_Ip_charge_31 rfl (by decide) (by decide) (Nat.le_of_ble_eq_true rfl) (by omega) (by omega) ?_
          exact ⟨rfl, rfl⟩
theorem d_Ip_charge_32 : decode prog_1_method_23_code 32 = .ok (.aload_n 0, 1) := zo_42 (zd_b zq_prog_1_method_23_code_1 0 rfl rfl rfl)
theorem d_Ip_charge_33 : decode prog_1_method_23_code 33 = .ok (.iload_n 1, 1) := zo_27 (zd_b zq_prog_1_method_23_code_1 1 rfl rfl rfl)
theorem d_Ip_charge_34 : decode prog_1_method_23_code 34 = .ok (.invokevirtual 265, 3) := zo_182 (d := 1) (e := 9) (zd_b zq_prog_1_method_23_code_1 2 rfl rfl rfl) (zd_b zq_prog_1_method_23_code_1 3 rfl rfl rfl) (zd_b zq_prog_1_method_23_code_1 4 rfl rfl rfl)
theorem ok_Ip_charge_Ip_poolOf : z_ok M_Ip_charge M_Ip_poolOf 1 := ⟨z_mj5 (i := 27) rfl (by decide +kernel), rfl, ⟨by decide +kernel, by decide +kernel, by decide +kernel⟩, ⟨by decide, by decide⟩, z_mj1 (i := 1) rfl (by decide +kernel), rfl⟩
theorem d_Ip_charge_37 : decode prog_1_method_23_code 37 = .ok (.astore_n 3, 1) := zo_78 (zd_b zq_prog_1_method_23_code_1 5 rfl rfl rfl)
theorem d_Ip_charge_38 : decode prog_1_method_23_code 38 = .ok (.aload_n 3, 1) := zo_45 (zd_b zq_prog_1_method_23_code_1 6 rfl rfl rfl)
theorem d_Ip_charge_39 : decode prog_1_method_23_code 39 = .ok (.ifnull 22, 3) := zo_198 (d := 0) (e := 22) (zd_b zq_prog_1_method_23_code_1 7 rfl rfl rfl) (zd_b zq_prog_1_method_23_code_1 8 rfl rfl rfl) (zd_b zq_prog_1_method_23_code_1 9 rfl rfl rfl) (by decide +kernel)
theorem d_Ip_charge_61 : decode prog_1_method_23_code 61 = .ok (.iload_n 1, 1) := zo_27 (zd_b zq_prog_1_method_23_code_1 29 rfl rfl rfl)
theorem d_Ip_charge_62 : decode prog_1_method_23_code 62 = .ok (.bipush 107, 2) := zo_16 (d := 107) (zd_b zq_prog_1_method_23_code_1 30 rfl rfl rfl) (zd_b zq_prog_1_method_23_code_1 31 rfl rfl rfl) (by decide +kernel)
theorem d_Ip_charge_64 : decode prog_1_method_23_code 64 = .ok (.if_icmp .ne 7, 3) := zo_160 (d := 0) (e := 7) (zd_b zq_prog_1_method_23_code_2 0 rfl rfl rfl) (zd_b zq_prog_1_method_23_code_2 1 rfl rfl rfl) (zd_b zq_prog_1_method_23_code_2 2 rfl rfl rfl) (by decide +kernel)
theorem d_Ip_charge_71 : decode prog_1_method_23_code 71 = .ok (.iload_n 2, 1) := zo_28 (zd_b zq_prog_1_method_23_code_2 7 rfl rfl rfl)
theorem d_Ip_charge_72 : decode prog_1_method_23_code 72 = .ok (.istore 4, 2) := zo_54 (d := 4) (zd_b zq_prog_1_method_23_code_2 8 rfl rfl rfl) (zd_b zq_prog_1_method_23_code_2 9 rfl rfl rfl)
theorem d_Ip_charge_74 : decode prog_1_method_23_code 74 = .ok (.aload_n 0, 1) := zo_42 (zd_b zq_prog_1_method_23_code_2 10 rfl rfl rfl)
theorem d_Ip_charge_75 : decode prog_1_method_23_code 75 = .ok (.getfield 43, 3) := zo_180 (d := 0) (e := 43) (zd_b zq_prog_1_method_23_code_2 11 rfl rfl rfl) (zd_b zq_prog_1_method_23_code_2 12 rfl rfl rfl) (zd_b zq_prog_1_method_23_code_2 13 rfl rfl rfl)
theorem d_Ip_charge_78 : decode prog_1_method_23_code 78 = .ok (.getfield 277, 3) := zo_180 (d := 1) (e := 21) (zd_b zq_prog_1_method_23_code_2 14 rfl rfl rfl) (zd_b zq_prog_1_method_23_code_2 15 rfl rfl rfl) (zd_b zq_prog_1_method_23_code_2 16 rfl rfl rfl)
theorem d_Ip_charge_81 : decode prog_1_method_23_code 81 = .ok (.getfield 269, 3) := zo_180 (d := 1) (e := 13) (zd_b zq_prog_1_method_23_code_2 17 rfl rfl rfl) (zd_b zq_prog_1_method_23_code_2 18 rfl rfl rfl) (zd_b zq_prog_1_method_23_code_2 19 rfl rfl rfl)
theorem d_Ip_charge_84 : decode prog_1_method_23_code 84 = .ok (.iload 4, 2) := zo_21 (d := 4) (zd_b zq_prog_1_method_23_code_2 20 rfl rfl rfl) (zd_b zq_prog_1_method_23_code_2 21 rfl rfl rfl)
theorem d_Ip_charge_86 : decode prog_1_method_23_code 86 = .ok (.iadd, 1) := zo_96 (zd_b zq_prog_1_method_23_code_2 22 rfl rfl rfl)
theorem d_Ip_charge_87 : decode prog_1_method_23_code 87 = .ok (.sipush 3000, 3) := zo_17 (d := 11) (e := 184) (zd_b zq_prog_1_method_23_code_2 23 rfl rfl rfl) (zd_b zq_prog_1_method_23_code_2 24 rfl rfl rfl) (zd_b zq_prog_1_method_23_code_2 25 rfl rfl rfl) (by decide +kernel)
theorem d_Ip_charge_90 : decode prog_1_method_23_code 90 = .ok (.if_icmp .le 14, 3) := zo_164 (d := 0) (e := 14) (zd_b zq_prog_1_method_23_code_2 26 rfl rfl rfl) (zd_b zq_prog_1_method_23_code_2 27 rfl rfl rfl) (zd_b zq_prog_1_method_23_code_2 28 rfl rfl rfl) (by decide +kernel)
theorem d_Ip_charge_93 : decode prog_1_method_23_code 93 = .ok (.new 242, 3) := zo_187 (d := 0) (e := 242) (zd_b zq_prog_1_method_23_code_2 29 rfl rfl rfl) (zd_b zq_prog_1_method_23_code_2 30 rfl rfl rfl) (zd_b zq_prog_1_method_23_code_2 31 rfl rfl rfl)
theorem sr_Ip_280 : Cond.stringRef "Ironpour" 280 "the furnace takes 3000 kilograms" ∈ lw_tbl := z_tb5 (i := 44) rfl
theorem d_Ip_charge_96 : decode prog_1_method_23_code 96 = .ok (.dup, 1) := zo_89 (zd_b zq_prog_1_method_23_code_3 0 rfl rfl rfl)
theorem d_Ip_charge_97 : decode prog_1_method_23_code 97 = .ok (.ldc_w 280, 3) := zo_19 (d := 1) (e := 24) (zd_b zq_prog_1_method_23_code_3 1 rfl rfl rfl) (zd_b zq_prog_1_method_23_code_3 2 rfl rfl rfl) (zd_b zq_prog_1_method_23_code_3 3 rfl rfl rfl)
theorem d_Ip_charge_100 : decode prog_1_method_23_code 100 = .ok (.invokespecial 246, 3) := zo_183 (d := 0) (e := 246) (zd_b zq_prog_1_method_23_code_3 4 rfl rfl rfl) (zd_b zq_prog_1_method_23_code_3 5 rfl rfl rfl) (zd_b zq_prog_1_method_23_code_3 6 rfl rfl rfl)
theorem d_Ip_charge_103 : decode prog_1_method_23_code 103 = .ok (.athrow, 1) := zo_191 (zd_b zq_prog_1_method_23_code_3 7 rfl rfl rfl)
set_option maxHeartbeats 4000000 in
set_option maxRecDepth 100000 in
theorem C_Ip_charge112G (g : zG) (a pa ta sa gs co fu la gy du re wm ac : Nat) (lab labg gyg dug fub fubg fut1 fut2 fut3 : Nat) (gr T1 T2 T3 g1 g2 : Nat → Int64) (ir i1 i2 : Int32) (io : Int64) (m : Int32) (hw : (1 ≤ m ∧ m ≤ 1000)) (hg : 3000 < ir + m) : CT g M_Ip_charge [.ref a, .int 112, .int m] [(a, .inr (11, [.ref pa, .ref ta, .ref sa, .ref gs, .ref co, .ref fu, .ref la, .ref gy, .ref du, .ref re, .ref wm, .ref ac])), (fu, .inr (3, [.ref fub, .ref fut1, .ref fut2, .ref fut3, .long io])), (fub, .inr (6, [.ref fubg, .int ir])), (fubg, .inl (3, 4, .inr (.inl gr))), (fut1, .inl (3, 4, .inr (.inl T1))), (fut2, .inl (3, 4, .inr (.inl T2))), (fut3, .inl (3, 4, .inr (.inl T3))), (gy, .inr (6, [.ref gyg, .int i1])), (gyg, .inl (3, 4, .inr (.inl g1))), (du, .inr (6, [.ref dug, .int i2])), (dug, .inl (3, 4, .inr (.inl g2)))] (fun o cs1 => o = .inr "java/lang/IllegalStateException" ∧ cs1 = [(a, .inr (11, [.ref pa, .ref ta, .ref sa, .ref gs, .ref co, .ref fu, .ref la, .ref gy, .ref du, .ref re, .ref wm, .ref ac])), (fu, .inr (3, [.ref fub, .ref fut1, .ref fut2, .ref fut3, .long io])), (fub, .inr (6, [.ref fubg, .int ir])), (fubg, .inl (3, 4, .inr (.inl gr))), (fut1, .inl (3, 4, .inr (.inl T1))), (fut2, .inl (3, 4, .inr (.inl T2))), (fut3, .inl (3, 4, .inr (.inl T3))), (gy, .inr (6, [.ref gyg, .int i1])), (gyg, .inl (3, 4, .inr (.inl g1))), (du, .inr (6, [.ref dug, .int i2])), (dug, .inl (3, 4, .inr (.inl g2)))]) 1 6 := by
  refine z_of (by decide) rfl (Nat.le_of_ble_eq_true rfl) (fun w0 => ?_)
  refine r_lvE (lv2 := [(0, .ref a), (1, .int 112), (2, .int m)]) rfl ?_
  refine r_ldcWS (own := "Ironpour") (i := 1) (by decide) d_Ip_charge_0 ?_
  refine r_iload_n d_Ip_charge_3 rfl 1 rfl ?_
  refine r_callVS (As := [.int 112]) (rest := []) (csC := []) (is := []) (i := 1) (by first | assumption | decide) rfl ln_Ip_83 w_im_String_indexOf_0 w_se_String_indexOf_0 ok_Ip_charge_String_indexOf_0 d_Ip_charge_4 (C_St_indexOf g 1 (by decide) 112) rfl rfl (Nat.le_of_ble_eq_true rfl) rfl (by decide) (by omega) (by omega) (fun E cs1 hx => ?_) (fun v cs1 hx => ?_)
  · exact absurd hx.1 (by simp)
  · obtain ⟨e1, rfl⟩ := hx
    cases e1
    refine ⟨rfl, ?_⟩
    refine r_st (st2 := [.int (z_ix 1 112)]) rfl ?_
    refine r_cs (cs2 := [(a, .inr (11, [.ref pa, .ref ta, .ref sa, .ref gs, .ref co, .ref fu, .ref la, .ref gy, .ref du, .ref re, .ref wm, .ref ac])), (fu, .inr (3, [.ref fub, .ref fut1, .ref fut2, .ref fut3, .long io])), (fub, .inr (6, [.ref fubg, .int ir])), (fubg, .inl (3, 4, .inr (.inl gr))), (fut1, .inl (3, 4, .inr (.inl T1))), (fut2, .inl (3, 4, .inr (.inl T2))), (fut3, .inl (3, 4, .inr (.inl T3))), (gy, .inr (6, [.ref gyg, .int i1])), (gyg, .inl (3, 4, .inr (.inl g1))), (du, .inr (6, [.ref dug, .int i2])), (dug, .inl (3, 4, .inr (.inl g2)))]) rfl ?_
    refine r_if_lt (tgt := 21) d_Ip_charge_7 (by decide) (fun c_7 => ?_) (fun c_7 => ?_)
    · exact absurd c_7 (by decide)
    · refine r_iload_n d_Ip_charge_10 rfl 2 rfl ?_
      refine r_iconst d_Ip_charge_11 (v := 1) (by decide) ?_
      refine r_sipush d_Ip_charge_12 (v := 1000) (by decide) ?_
      refine r_callS (As := [.int m, .int 1, .int 1000]) (rest := []) (csC := []) (is := []) ln_Ip_203 w_st_Ip_isWithin ok_Ip_charge_Ip_isWithin d_Ip_charge_15 (C_Ip_isWithin g m 1 1000) rfl rfl (Nat.le_of_ble_eq_true rfl) rfl (by decide) (by omega) (by omega) (fun E cs1 hx => ?_) (fun v cs1 hx => ?_)
      · exact absurd hx.1 (by simp)
      · obtain ⟨e1, rfl⟩ := hx
        cases e1
        refine ⟨rfl, ?_⟩
        refine r_st (st2 := [.int (if 1 ≤ m ∧ m ≤ 1000 then 1 else 0)]) rfl ?_
        refine r_cs (cs2 := [(a, .inr (11, [.ref pa, .ref ta, .ref sa, .ref gs, .ref co, .ref fu, .ref la, .ref gy, .ref du, .ref re, .ref wm, .ref ac])), (fu, .inr (3, [.ref fub, .ref fut1, .ref fut2, .ref fut3, .long io])), (fub, .inr (6, [.ref fubg, .int ir])), (fubg, .inl (3, 4, .inr (.inl gr))), (fut1, .inl (3, 4, .inr (.inl T1))), (fut2, .inl (3, 4, .inr (.inl T2))), (fut3, .inl (3, 4, .inr (.inl T3))), (gy, .inr (6, [.ref gyg, .int i1])), (gyg, .inl (3, 4, .inr (.inl g1))), (du, .inr (6, [.ref dug, .int i2])), (dug, .inl (3, 4, .inr (.inl g2)))]) rfl ?_
        refine r_if_ne (tgt := 32) d_Ip_charge_18 (by decide) (fun c_18 => ?_) (fun c_18 => ?_)
        · refine r_aload_n d_Ip_charge_32 rfl 0 rfl ?_
          refine r_iload_n d_Ip_charge_33 rfl 1 rfl ?_
          refine r_callV (As := [.int 112]) (rest := []) (csC := [(a, .inr (11, [.ref pa, .ref ta, .ref sa, .ref gs, .ref co, .ref fu, .ref la, .ref gy, .ref du, .ref re, .ref wm, .ref ac]))]) (is := [0]) (q0 := 0) rfl rfl ln_Ip_265 w_im_Ip_poolOf w_se_Ip_poolOf ok_Ip_charge_Ip_poolOf d_Ip_charge_34 (C_Ip_poolOfO g a pa ta sa gs co fu la gy du re wm ac 112 (by decide) (by decide)) rfl rfl (Nat.le_of_ble_eq_true rfl) rfl (by decide) (by omega) (by omega) (fun E cs1 hx => ?_) (fun v cs1 hx => ?_)
          · exact absurd hx.1 (by simp)
          · obtain ⟨e1, rfl⟩ := hx
            cases e1
            refine ⟨rfl, ?_⟩
            refine r_st (st2 := [.null]) rfl ?_
            refine r_cs (cs2 := [(a, .inr (11, [.ref pa, .ref ta, .ref sa, .ref gs, .ref co, .ref fu, .ref la, .ref gy, .ref du, .ref re, .ref wm, .ref ac])), (fu, .inr (3, [.ref fub, .ref fut1, .ref fut2, .ref fut3, .long io])), (fub, .inr (6, [.ref fubg, .int ir])), (fubg, .inl (3, 4, .inr (.inl gr))), (fut1, .inl (3, 4, .inr (.inl T1))), (fut2, .inl (3, 4, .inr (.inl T2))), (fut3, .inl (3, 4, .inr (.inl T3))), (gy, .inr (6, [.ref gyg, .int i1])), (gyg, .inl (3, 4, .inr (.inl g1))), (du, .inr (6, [.ref dug, .int i2])), (dug, .inl (3, 4, .inr (.inl g2)))]) rfl ?_
            refine r_astore_nN (lv' := [(3, .null), (0, .ref a), (1, .int 112), (2, .int m)]) d_Ip_charge_37 rfl (by decide) rfl ?_
            refine r_aload_nN d_Ip_charge_38 rfl 0 rfl ?_
            refine r_ifnullN (tgt := 61) d_Ip_charge_39 (by decide) ?_
            refine r_iload_n d_Ip_charge_61 rfl 2 rfl ?_
            refine r_bipush d_Ip_charge_62 (v := 107) (by decide) ?_
            refine r_icmp_ne (tgt := 71) d_Ip_charge_64 (by decide) (fun c_64 => ?_) (fun c_64 => ?_)
            · refine r_iload_n d_Ip_charge_71 rfl 3 rfl ?_
              refine r_istore (lv' := [(4, .int m), (3, .null), (0, .ref a), (1, .int 112), (2, .int m)]) d_Ip_charge_72 (by decide) rfl ?_
              refine r_aload_n d_Ip_charge_74 rfl 2 rfl ?_
              refine r_get fs_Ip_43 d_Ip_charge_75 (q0 := 0) rfl rfl ?_
              refine r_get fs_Ip_277 d_Ip_charge_78 (q0 := 1) rfl rfl ?_
              refine r_get fs_Ip_269 d_Ip_charge_81 (q0 := 2) rfl rfl ?_
              refine r_iload d_Ip_charge_84 0 rfl ?_
              refine r_iadd d_Ip_charge_86 (v := ir + m) rfl ?_
              refine r_sipush d_Ip_charge_87 (v := 3000) (by decide) ?_
              refine r_icmp_le (tgt := 104) d_Ip_charge_90 (by decide) (fun c_90 => ?_) (fun c_90 => ?_)
              · exact absurd hg (Int32.not_lt.mpr c_90)
              · refine r_throwW tb_Ip_242_246 sr_Ip_280 d_Ip_charge_93 d_Ip_charge_96 d_Ip_charge_97 d_Ip_charge_100 d_Ip_charge_103 rfl (by decide) (by decide) (Nat.le_of_ble_eq_true rfl) (by omega) (by omega) ?_
                exact ⟨rfl, rfl⟩
            · exact absurd c_64 (by decide)
        · exact absurd hw (z_b0 c_18)
theorem d_Ip_charge_104 : decode prog_1_method_23_code 104 = .ok (.aload_n 3, 1) := zo_45 (zd_b zq_prog_1_method_23_code_3 8 rfl rfl rfl)
theorem d_Ip_charge_105 : decode prog_1_method_23_code 105 = .ok (.ifnull 18, 3) := zo_198 (d := 0) (e := 18) (zd_b zq_prog_1_method_23_code_3 9 rfl rfl rfl) (zd_b zq_prog_1_method_23_code_3 10 rfl rfl rfl) (zd_b zq_prog_1_method_23_code_3 11 rfl rfl rfl) (by decide +kernel)
theorem d_Ip_charge_123 : decode prog_1_method_23_code 123 = .ok (.aload_n 0, 1) := zo_42 (zd_b zq_prog_1_method_23_code_3 27 rfl rfl rfl)
theorem d_Ip_charge_124 : decode prog_1_method_23_code 124 = .ok (.getfield 43, 3) := zo_180 (d := 0) (e := 43) (zd_b zq_prog_1_method_23_code_3 28 rfl rfl rfl) (zd_b zq_prog_1_method_23_code_3 29 rfl rfl rfl) (zd_b zq_prog_1_method_23_code_3 30 rfl rfl rfl)
theorem d_Ip_charge_127 : decode prog_1_method_23_code 127 = .ok (.iload_n 2, 1) := zo_28 (zd_b zq_prog_1_method_23_code_3 31 rfl rfl rfl)
theorem d_Ip_charge_128 : decode prog_1_method_23_code 128 = .ok (.iload 4, 2) := zo_21 (d := 4) (zd_b zq_prog_1_method_23_code_4 0 rfl rfl rfl) (zd_b zq_prog_1_method_23_code_4 1 rfl rfl rfl)
theorem d_Ip_charge_130 : decode prog_1_method_23_code 130 = .ok (.iload_n 1, 1) := zo_27 (zd_b zq_prog_1_method_23_code_4 2 rfl rfl rfl)
theorem d_Ip_charge_131 : decode prog_1_method_23_code 131 = .ok (.invokestatic 286, 3) := zo_184 (d := 1) (e := 30) (zd_b zq_prog_1_method_23_code_4 3 rfl rfl rfl) (zd_b zq_prog_1_method_23_code_4 4 rfl rfl rfl) (zd_b zq_prog_1_method_23_code_4 5 rfl rfl rfl)
theorem ok_Ip_charge_Ip_tenthsOf : z_ok M_Ip_charge M_Ip_tenthsOf 1 := ⟨z_mj5 (i := 51) rfl (by decide +kernel), rfl, ⟨by decide +kernel, by decide +kernel, by decide +kernel⟩, ⟨by decide, by decide⟩, z_mj1 (i := 1) rfl (by decide +kernel), rfl⟩
theorem ln_Ip_286 : Cond.methodLink "Ironpour" 286 M_Ip_tenthsOf.1 ∈ z_gw := z_mj5 (i := 49) rfl (by decide +kernel)
theorem w_st_Ip_tenthsOf : Cond.static M_Ip_tenthsOf.1 ∈ z_gw := z_mj5 (i := 50) rfl (by decide +kernel)
theorem d_Ip_charge_134 : decode prog_1_method_23_code 134 = .ok (.invokevirtual 290, 3) := zo_182 (d := 1) (e := 34) (zd_b zq_prog_1_method_23_code_4 6 rfl rfl rfl) (zd_b zq_prog_1_method_23_code_4 7 rfl rfl rfl) (zd_b zq_prog_1_method_23_code_4 8 rfl rfl rfl)
theorem ok_Ip_charge_Fu_takeFromOutside : z_ok M_Ip_charge M_Fu_takeFromOutside 3 := ⟨z_mj5 (i := 63) rfl (by decide +kernel), rfl, ⟨by decide +kernel, by decide +kernel, by decide +kernel⟩, ⟨by decide, by decide⟩, z_mj1 (i := 7) rfl (by decide +kernel), rfl⟩
theorem ln_Ip_290 : Cond.methodLink "Ironpour" 290 M_Fu_takeFromOutside.1 ∈ z_gw := z_mj5 (i := 60) rfl (by decide +kernel)
theorem w_im_Fu_takeFromOutside : Cond.instanceMethod M_Fu_takeFromOutside.1 ∈ z_gw := z_mj5 (i := 61) rfl (by decide +kernel)
theorem w_se_Fu_takeFromOutside : Cond.selects M_Fu_takeFromOutside.1.cls M_Fu_takeFromOutside.1 M_Fu_takeFromOutside.1 ∈ z_gw := z_mj5 (i := 62) rfl (by decide +kernel)
theorem d_Ip_charge_137 : decode prog_1_method_23_code 137 = .ok (.aload_n 0, 1) := zo_42 (zd_b zq_prog_1_method_23_code_4 9 rfl rfl rfl)
theorem d_Ip_charge_138 : decode prog_1_method_23_code 138 = .ok (.getfield 43, 3) := zo_180 (d := 0) (e := 43) (zd_b zq_prog_1_method_23_code_4 10 rfl rfl rfl) (zd_b zq_prog_1_method_23_code_4 11 rfl rfl rfl) (zd_b zq_prog_1_method_23_code_4 12 rfl rfl rfl)
theorem d_Ip_charge_141 : decode prog_1_method_23_code 141 = .ok (.getfield 277, 3) := zo_180 (d := 1) (e := 21) (zd_b zq_prog_1_method_23_code_4 13 rfl rfl rfl) (zd_b zq_prog_1_method_23_code_4 14 rfl rfl rfl) (zd_b zq_prog_1_method_23_code_4 15 rfl rfl rfl)
theorem d_Ip_charge_144 : decode prog_1_method_23_code 144 = .ok (.getfield 269, 3) := zo_180 (d := 1) (e := 13) (zd_b zq_prog_1_method_23_code_4 16 rfl rfl rfl) (zd_b zq_prog_1_method_23_code_4 17 rfl rfl rfl) (zd_b zq_prog_1_method_23_code_4 18 rfl rfl rfl)
theorem d_Ip_charge_147 : decode prog_1_method_23_code 147 = .ok (.ireturn, 1) := zo_172 (zd_b zq_prog_1_method_23_code_4 19 rfl rfl rfl)
set_option maxHeartbeats 4000000 in
set_option maxRecDepth 100000 in
theorem C_Ip_charge112N (g : zG) (a pa ta sa gs co fu la gy du re wm ac : Nat) (lab labg gyg dug fub fubg fut1 fut2 fut3 : Nat) (gr T1 T2 T3 g1 g2 : Nat → Int64) (ir i1 i2 : Int32) (io : Int64) (m : Int32) (hw : (1 ≤ m ∧ m ≤ 1000)) (hg : ¬ 3000 < ir + m) : CT g M_Ip_charge [.ref a, .int 112, .int m] [(a, .inr (11, [.ref pa, .ref ta, .ref sa, .ref gs, .ref co, .ref fu, .ref la, .ref gy, .ref du, .ref re, .ref wm, .ref ac])), (fu, .inr (3, [.ref fub, .ref fut1, .ref fut2, .ref fut3, .long io])), (fub, .inr (6, [.ref fubg, .int ir])), (fubg, .inl (3, 4, .inr (.inl gr))), (fut1, .inl (3, 4, .inr (.inl T1))), (fut2, .inl (3, 4, .inr (.inl T2))), (fut3, .inl (3, 4, .inr (.inl T3))), (gy, .inr (6, [.ref gyg, .int i1])), (gyg, .inl (3, 4, .inr (.inl g1))), (du, .inr (6, [.ref dug, .int i2])), (dug, .inl (3, 4, .inr (.inl g2)))] (fun o cs1 => o = .inl (some (.int (ir + m))) ∧ cs1 = [(a, .inr (11, [.ref pa, .ref ta, .ref sa, .ref gs, .ref co, .ref fu, .ref la, .ref gy, .ref du, .ref re, .ref wm, .ref ac])), (fu, .inr (3, [.ref fub, .ref fut1, .ref fut2, .ref fut3, .long (io + (m : Int32).toInt64)])), (fub, .inr (6, [.ref fubg, .int (ir + m)])), (fubg, .inl (3, 4, .inr (.inl (lfd gr (fun e => chS m 0 e / 10) 4)))), (fut1, .inl (3, 4, .inr (.inl (lfd T1 (fun e => chS m 0 e) 4)))), (fut2, .inl (3, 4, .inr (.inl (lfd T2 (fun e => chS m 0 e - chS m 0 e / 10 * 10) 4)))), (fut3, .inl (3, 4, .inr (.inl T3))), (gy, .inr (6, [.ref gyg, .int i1])), (gyg, .inl (3, 4, .inr (.inl g1))), (du, .inr (6, [.ref dug, .int i2])), (dug, .inl (3, 4, .inr (.inl g2)))]) 1 6 := by
  refine z_of (by decide) rfl (Nat.le_of_ble_eq_true rfl) (fun w0 => ?_)
  refine r_lvE (lv2 := [(0, .ref a), (1, .int 112), (2, .int m)]) rfl ?_
  refine r_ldcWS (own := "Ironpour") (i := 1) (by decide) d_Ip_charge_0 ?_
  refine r_iload_n d_Ip_charge_3 rfl 1 rfl ?_
  refine r_callVS (As := [.int 112]) (rest := []) (csC := []) (is := []) (i := 1) (by first | assumption | decide) rfl ln_Ip_83 w_im_String_indexOf_0 w_se_String_indexOf_0 ok_Ip_charge_String_indexOf_0 d_Ip_charge_4 (C_St_indexOf g 1 (by decide) 112) rfl rfl (Nat.le_of_ble_eq_true rfl) rfl (by decide) (by omega) (by omega) (fun E cs1 hx => ?_) (fun v cs1 hx => ?_)
  · exact absurd hx.1 (by simp)
  · obtain ⟨e1, rfl⟩ := hx
    cases e1
    refine ⟨rfl, ?_⟩
    refine r_st (st2 := [.int (z_ix 1 112)]) rfl ?_
    refine r_cs (cs2 := [(a, .inr (11, [.ref pa, .ref ta, .ref sa, .ref gs, .ref co, .ref fu, .ref la, .ref gy, .ref du, .ref re, .ref wm, .ref ac])), (fu, .inr (3, [.ref fub, .ref fut1, .ref fut2, .ref fut3, .long io])), (fub, .inr (6, [.ref fubg, .int ir])), (fubg, .inl (3, 4, .inr (.inl gr))), (fut1, .inl (3, 4, .inr (.inl T1))), (fut2, .inl (3, 4, .inr (.inl T2))), (fut3, .inl (3, 4, .inr (.inl T3))), (gy, .inr (6, [.ref gyg, .int i1])), (gyg, .inl (3, 4, .inr (.inl g1))), (du, .inr (6, [.ref dug, .int i2])), (dug, .inl (3, 4, .inr (.inl g2)))]) rfl ?_
    refine r_if_lt (tgt := 21) d_Ip_charge_7 (by decide) (fun c_7 => ?_) (fun c_7 => ?_)
    · exact absurd c_7 (by decide)
    · refine r_iload_n d_Ip_charge_10 rfl 2 rfl ?_
      refine r_iconst d_Ip_charge_11 (v := 1) (by decide) ?_
      refine r_sipush d_Ip_charge_12 (v := 1000) (by decide) ?_
      refine r_callS (As := [.int m, .int 1, .int 1000]) (rest := []) (csC := []) (is := []) ln_Ip_203 w_st_Ip_isWithin ok_Ip_charge_Ip_isWithin d_Ip_charge_15 (C_Ip_isWithin g m 1 1000) rfl rfl (Nat.le_of_ble_eq_true rfl) rfl (by decide) (by omega) (by omega) (fun E cs1 hx => ?_) (fun v cs1 hx => ?_)
      · exact absurd hx.1 (by simp)
      · obtain ⟨e1, rfl⟩ := hx
        cases e1
        refine ⟨rfl, ?_⟩
        refine r_st (st2 := [.int (if 1 ≤ m ∧ m ≤ 1000 then 1 else 0)]) rfl ?_
        refine r_cs (cs2 := [(a, .inr (11, [.ref pa, .ref ta, .ref sa, .ref gs, .ref co, .ref fu, .ref la, .ref gy, .ref du, .ref re, .ref wm, .ref ac])), (fu, .inr (3, [.ref fub, .ref fut1, .ref fut2, .ref fut3, .long io])), (fub, .inr (6, [.ref fubg, .int ir])), (fubg, .inl (3, 4, .inr (.inl gr))), (fut1, .inl (3, 4, .inr (.inl T1))), (fut2, .inl (3, 4, .inr (.inl T2))), (fut3, .inl (3, 4, .inr (.inl T3))), (gy, .inr (6, [.ref gyg, .int i1])), (gyg, .inl (3, 4, .inr (.inl g1))), (du, .inr (6, [.ref dug, .int i2])), (dug, .inl (3, 4, .inr (.inl g2)))]) rfl ?_
        refine r_if_ne (tgt := 32) d_Ip_charge_18 (by decide) (fun c_18 => ?_) (fun c_18 => ?_)
        · refine r_aload_n d_Ip_charge_32 rfl 0 rfl ?_
          refine r_iload_n d_Ip_charge_33 rfl 1 rfl ?_
          refine r_callV (As := [.int 112]) (rest := []) (csC := [(a, .inr (11, [.ref pa, .ref ta, .ref sa, .ref gs, .ref co, .ref fu, .ref la, .ref gy, .ref du, .ref re, .ref wm, .ref ac]))]) (is := [0]) (q0 := 0) rfl rfl ln_Ip_265 w_im_Ip_poolOf w_se_Ip_poolOf ok_Ip_charge_Ip_poolOf d_Ip_charge_34 (C_Ip_poolOfO g a pa ta sa gs co fu la gy du re wm ac 112 (by decide) (by decide)) rfl rfl (Nat.le_of_ble_eq_true rfl) rfl (by decide) (by omega) (by omega) (fun E cs1 hx => ?_) (fun v cs1 hx => ?_)
          · exact absurd hx.1 (by simp)
          · obtain ⟨e1, rfl⟩ := hx
            cases e1
            refine ⟨rfl, ?_⟩
            refine r_st (st2 := [.null]) rfl ?_
            refine r_cs (cs2 := [(a, .inr (11, [.ref pa, .ref ta, .ref sa, .ref gs, .ref co, .ref fu, .ref la, .ref gy, .ref du, .ref re, .ref wm, .ref ac])), (fu, .inr (3, [.ref fub, .ref fut1, .ref fut2, .ref fut3, .long io])), (fub, .inr (6, [.ref fubg, .int ir])), (fubg, .inl (3, 4, .inr (.inl gr))), (fut1, .inl (3, 4, .inr (.inl T1))), (fut2, .inl (3, 4, .inr (.inl T2))), (fut3, .inl (3, 4, .inr (.inl T3))), (gy, .inr (6, [.ref gyg, .int i1])), (gyg, .inl (3, 4, .inr (.inl g1))), (du, .inr (6, [.ref dug, .int i2])), (dug, .inl (3, 4, .inr (.inl g2)))]) rfl ?_
            refine r_astore_nN (lv' := [(3, .null), (0, .ref a), (1, .int 112), (2, .int m)]) d_Ip_charge_37 rfl (by decide) rfl ?_
            refine r_aload_nN d_Ip_charge_38 rfl 0 rfl ?_
            refine r_ifnullN (tgt := 61) d_Ip_charge_39 (by decide) ?_
            refine r_iload_n d_Ip_charge_61 rfl 2 rfl ?_
            refine r_bipush d_Ip_charge_62 (v := 107) (by decide) ?_
            refine r_icmp_ne (tgt := 71) d_Ip_charge_64 (by decide) (fun c_64 => ?_) (fun c_64 => ?_)
            · refine r_iload_n d_Ip_charge_71 rfl 3 rfl ?_
              refine r_istore (lv' := [(4, .int m), (3, .null), (0, .ref a), (1, .int 112), (2, .int m)]) d_Ip_charge_72 (by decide) rfl ?_
              refine r_aload_n d_Ip_charge_74 rfl 2 rfl ?_
              refine r_get fs_Ip_43 d_Ip_charge_75 (q0 := 0) rfl rfl ?_
              refine r_get fs_Ip_277 d_Ip_charge_78 (q0 := 1) rfl rfl ?_
              refine r_get fs_Ip_269 d_Ip_charge_81 (q0 := 2) rfl rfl ?_
              refine r_iload d_Ip_charge_84 0 rfl ?_
              refine r_iadd d_Ip_charge_86 (v := ir + m) rfl ?_
              refine r_sipush d_Ip_charge_87 (v := 3000) (by decide) ?_
              refine r_icmp_le (tgt := 104) d_Ip_charge_90 (by decide) (fun c_90 => ?_) (fun c_90 => ?_)
              · refine r_aload_nN d_Ip_charge_104 rfl 1 rfl ?_
                refine r_ifnullN (tgt := 123) d_Ip_charge_105 (by decide) ?_
                refine r_aload_n d_Ip_charge_123 rfl 2 rfl ?_
                refine r_get fs_Ip_43 d_Ip_charge_124 (q0 := 0) rfl rfl ?_
                refine r_iload_n d_Ip_charge_127 rfl 4 rfl ?_
                refine r_iload d_Ip_charge_128 0 rfl ?_
                refine r_iload_n d_Ip_charge_130 rfl 3 rfl ?_
                refine r_callS (As := [.int 112]) (rest := [.int m, .int m, .ref fu]) (csC := []) (is := []) ln_Ip_286 w_st_Ip_tenthsOf ok_Ip_charge_Ip_tenthsOf d_Ip_charge_131 (C_Ip_tenthsOf112 g) rfl rfl (Nat.le_of_ble_eq_true rfl) rfl (by decide) (by omega) (by omega) (fun E cs1 hx => ?_) (fun v cs1 hx => ?_)
                · exact absurd hx.1 (by simp)
                · obtain ⟨e1, rfl⟩ := hx
                  cases e1
                  refine ⟨rfl, ?_⟩
                  refine r_st (st2 := [.ref (g.2.2 0), .int m, .int m, .ref fu]) rfl ?_
                  refine r_cs (cs2 := [(a, .inr (11, [.ref pa, .ref ta, .ref sa, .ref gs, .ref co, .ref fu, .ref la, .ref gy, .ref du, .ref re, .ref wm, .ref ac])), (fu, .inr (3, [.ref fub, .ref fut1, .ref fut2, .ref fut3, .long io])), (fub, .inr (6, [.ref fubg, .int ir])), (fubg, .inl (3, 4, .inr (.inl gr))), (fut1, .inl (3, 4, .inr (.inl T1))), (fut2, .inl (3, 4, .inr (.inl T2))), (fut3, .inl (3, 4, .inr (.inl T3))), (gy, .inr (6, [.ref gyg, .int i1])), (gyg, .inl (3, 4, .inr (.inl g1))), (du, .inr (6, [.ref dug, .int i2])), (dug, .inl (3, 4, .inr (.inl g2)))]) rfl ?_
                  refine r_callV (As := [.int m, .int m, .ref (g.2.2 0)]) (rest := []) (csC := [(fu, .inr (3, [.ref fub, .ref fut1, .ref fut2, .ref fut3, .long io])), (fub, .inr (6, [.ref fubg, .int ir])), (fubg, .inl (3, 4, .inr (.inl gr))), (fut1, .inl (3, 4, .inr (.inl T1))), (fut2, .inl (3, 4, .inr (.inl T2))), (fut3, .inl (3, 4, .inr (.inl T3)))]) (is := [1, 2, 3, 4, 5, 6]) (q0 := 1) rfl rfl ln_Ip_290 w_im_Fu_takeFromOutside w_se_Fu_takeFromOutside ok_Ip_charge_Fu_takeFromOutside d_Ip_charge_134 (C_Fu_takeFromOutside g fu fub fubg fut1 fut2 fut3 gr T1 T2 T3 ir io m m 0 (by decide)) rfl rfl (Nat.le_of_ble_eq_true rfl) rfl (by decide) (by omega) (by omega) (fun E cs1 hx => ?_) (fun v cs1 hx => ?_)
                  · exact absurd hx.1 (by simp)
                  · obtain ⟨e1, rfl⟩ := hx
                    cases e1
                    refine ⟨rfl, ?_⟩
                    refine r_st (st2 := []) rfl ?_
                    refine r_cs (cs2 := [(a, .inr (11, [.ref pa, .ref ta, .ref sa, .ref gs, .ref co, .ref fu, .ref la, .ref gy, .ref du, .ref re, .ref wm, .ref ac])), (fu, .inr (3, [.ref fub, .ref fut1, .ref fut2, .ref fut3, .long (io + (m : Int32).toInt64)])), (fub, .inr (6, [.ref fubg, .int (ir + m)])), (fubg, .inl (3, 4, .inr (.inl (lfd gr (fun e => chS m 0 e / 10) 4)))), (fut1, .inl (3, 4, .inr (.inl (lfd T1 (fun e => chS m 0 e) 4)))), (fut2, .inl (3, 4, .inr (.inl (lfd T2 (fun e => chS m 0 e - chS m 0 e / 10 * 10) 4)))), (fut3, .inl (3, 4, .inr (.inl T3))), (gy, .inr (6, [.ref gyg, .int i1])), (gyg, .inl (3, 4, .inr (.inl g1))), (du, .inr (6, [.ref dug, .int i2])), (dug, .inl (3, 4, .inr (.inl g2)))]) rfl ?_
                    refine r_aload_n d_Ip_charge_137 rfl 2 rfl ?_
                    refine r_get fs_Ip_43 d_Ip_charge_138 (q0 := 0) rfl rfl ?_
                    refine r_get fs_Ip_277 d_Ip_charge_141 (q0 := 1) rfl rfl ?_
                    refine r_get fs_Ip_269 d_Ip_charge_144 (q0 := 2) rfl rfl ?_
                    refine r_iret d_Ip_charge_147 rfl rfl ?_
                    exact ⟨rfl, rfl⟩
              · exact absurd (Int32.not_le.mp c_90) hg
            · exact absurd c_64 (by decide)
        · exact absurd hw (z_b0 c_18)
set_option maxHeartbeats 4000000 in
set_option maxRecDepth 100000 in
theorem C_Ip_charge115G (g : zG) (a pa ta sa gs co fu la gy du re wm ac : Nat) (lab labg gyg dug fub fubg fut1 fut2 fut3 : Nat) (gr T1 T2 T3 g1 g2 : Nat → Int64) (ir i1 i2 : Int32) (io : Int64) (m : Int32) (hw : (1 ≤ m ∧ m ≤ 1000)) (hg : 3000 < ir + m) : CT g M_Ip_charge [.ref a, .int 115, .int m] [(a, .inr (11, [.ref pa, .ref ta, .ref sa, .ref gs, .ref co, .ref fu, .ref la, .ref gy, .ref du, .ref re, .ref wm, .ref ac])), (fu, .inr (3, [.ref fub, .ref fut1, .ref fut2, .ref fut3, .long io])), (fub, .inr (6, [.ref fubg, .int ir])), (fubg, .inl (3, 4, .inr (.inl gr))), (fut1, .inl (3, 4, .inr (.inl T1))), (fut2, .inl (3, 4, .inr (.inl T2))), (fut3, .inl (3, 4, .inr (.inl T3))), (gy, .inr (6, [.ref gyg, .int i1])), (gyg, .inl (3, 4, .inr (.inl g1))), (du, .inr (6, [.ref dug, .int i2])), (dug, .inl (3, 4, .inr (.inl g2)))] (fun o cs1 => o = .inr "java/lang/IllegalStateException" ∧ cs1 = [(a, .inr (11, [.ref pa, .ref ta, .ref sa, .ref gs, .ref co, .ref fu, .ref la, .ref gy, .ref du, .ref re, .ref wm, .ref ac])), (fu, .inr (3, [.ref fub, .ref fut1, .ref fut2, .ref fut3, .long io])), (fub, .inr (6, [.ref fubg, .int ir])), (fubg, .inl (3, 4, .inr (.inl gr))), (fut1, .inl (3, 4, .inr (.inl T1))), (fut2, .inl (3, 4, .inr (.inl T2))), (fut3, .inl (3, 4, .inr (.inl T3))), (gy, .inr (6, [.ref gyg, .int i1])), (gyg, .inl (3, 4, .inr (.inl g1))), (du, .inr (6, [.ref dug, .int i2])), (dug, .inl (3, 4, .inr (.inl g2)))]) 1 6 := by
  refine z_of (by decide) rfl (Nat.le_of_ble_eq_true rfl) (fun w0 => ?_)
  refine r_lvE (lv2 := [(0, .ref a), (1, .int 115), (2, .int m)]) rfl ?_
  refine r_ldcWS (own := "Ironpour") (i := 1) (by decide) d_Ip_charge_0 ?_
  refine r_iload_n d_Ip_charge_3 rfl 1 rfl ?_
  refine r_callVS (As := [.int 115]) (rest := []) (csC := []) (is := []) (i := 1) (by first | assumption | decide) rfl ln_Ip_83 w_im_String_indexOf_0 w_se_String_indexOf_0 ok_Ip_charge_String_indexOf_0 d_Ip_charge_4 (C_St_indexOf g 1 (by decide) 115) rfl rfl (Nat.le_of_ble_eq_true rfl) rfl (by decide) (by omega) (by omega) (fun E cs1 hx => ?_) (fun v cs1 hx => ?_)
  · exact absurd hx.1 (by simp)
  · obtain ⟨e1, rfl⟩ := hx
    cases e1
    refine ⟨rfl, ?_⟩
    refine r_st (st2 := [.int (z_ix 1 115)]) rfl ?_
    refine r_cs (cs2 := [(a, .inr (11, [.ref pa, .ref ta, .ref sa, .ref gs, .ref co, .ref fu, .ref la, .ref gy, .ref du, .ref re, .ref wm, .ref ac])), (fu, .inr (3, [.ref fub, .ref fut1, .ref fut2, .ref fut3, .long io])), (fub, .inr (6, [.ref fubg, .int ir])), (fubg, .inl (3, 4, .inr (.inl gr))), (fut1, .inl (3, 4, .inr (.inl T1))), (fut2, .inl (3, 4, .inr (.inl T2))), (fut3, .inl (3, 4, .inr (.inl T3))), (gy, .inr (6, [.ref gyg, .int i1])), (gyg, .inl (3, 4, .inr (.inl g1))), (du, .inr (6, [.ref dug, .int i2])), (dug, .inl (3, 4, .inr (.inl g2)))]) rfl ?_
    refine r_if_lt (tgt := 21) d_Ip_charge_7 (by decide) (fun c_7 => ?_) (fun c_7 => ?_)
    · exact absurd c_7 (by decide)
    · refine r_iload_n d_Ip_charge_10 rfl 2 rfl ?_
      refine r_iconst d_Ip_charge_11 (v := 1) (by decide) ?_
      refine r_sipush d_Ip_charge_12 (v := 1000) (by decide) ?_
      refine r_callS (As := [.int m, .int 1, .int 1000]) (rest := []) (csC := []) (is := []) ln_Ip_203 w_st_Ip_isWithin ok_Ip_charge_Ip_isWithin d_Ip_charge_15 (C_Ip_isWithin g m 1 1000) rfl rfl (Nat.le_of_ble_eq_true rfl) rfl (by decide) (by omega) (by omega) (fun E cs1 hx => ?_) (fun v cs1 hx => ?_)
      · exact absurd hx.1 (by simp)
      · obtain ⟨e1, rfl⟩ := hx
        cases e1
        refine ⟨rfl, ?_⟩
        refine r_st (st2 := [.int (if 1 ≤ m ∧ m ≤ 1000 then 1 else 0)]) rfl ?_
        refine r_cs (cs2 := [(a, .inr (11, [.ref pa, .ref ta, .ref sa, .ref gs, .ref co, .ref fu, .ref la, .ref gy, .ref du, .ref re, .ref wm, .ref ac])), (fu, .inr (3, [.ref fub, .ref fut1, .ref fut2, .ref fut3, .long io])), (fub, .inr (6, [.ref fubg, .int ir])), (fubg, .inl (3, 4, .inr (.inl gr))), (fut1, .inl (3, 4, .inr (.inl T1))), (fut2, .inl (3, 4, .inr (.inl T2))), (fut3, .inl (3, 4, .inr (.inl T3))), (gy, .inr (6, [.ref gyg, .int i1])), (gyg, .inl (3, 4, .inr (.inl g1))), (du, .inr (6, [.ref dug, .int i2])), (dug, .inl (3, 4, .inr (.inl g2)))]) rfl ?_
        refine r_if_ne (tgt := 32) d_Ip_charge_18 (by decide) (fun c_18 => ?_) (fun c_18 => ?_)
        · refine r_aload_n d_Ip_charge_32 rfl 0 rfl ?_
          refine r_iload_n d_Ip_charge_33 rfl 1 rfl ?_
          refine r_callV (As := [.int 115]) (rest := []) (csC := [(a, .inr (11, [.ref pa, .ref ta, .ref sa, .ref gs, .ref co, .ref fu, .ref la, .ref gy, .ref du, .ref re, .ref wm, .ref ac]))]) (is := [0]) (q0 := 0) rfl rfl ln_Ip_265 w_im_Ip_poolOf w_se_Ip_poolOf ok_Ip_charge_Ip_poolOf d_Ip_charge_34 (C_Ip_poolOfO g a pa ta sa gs co fu la gy du re wm ac 115 (by decide) (by decide)) rfl rfl (Nat.le_of_ble_eq_true rfl) rfl (by decide) (by omega) (by omega) (fun E cs1 hx => ?_) (fun v cs1 hx => ?_)
          · exact absurd hx.1 (by simp)
          · obtain ⟨e1, rfl⟩ := hx
            cases e1
            refine ⟨rfl, ?_⟩
            refine r_st (st2 := [.null]) rfl ?_
            refine r_cs (cs2 := [(a, .inr (11, [.ref pa, .ref ta, .ref sa, .ref gs, .ref co, .ref fu, .ref la, .ref gy, .ref du, .ref re, .ref wm, .ref ac])), (fu, .inr (3, [.ref fub, .ref fut1, .ref fut2, .ref fut3, .long io])), (fub, .inr (6, [.ref fubg, .int ir])), (fubg, .inl (3, 4, .inr (.inl gr))), (fut1, .inl (3, 4, .inr (.inl T1))), (fut2, .inl (3, 4, .inr (.inl T2))), (fut3, .inl (3, 4, .inr (.inl T3))), (gy, .inr (6, [.ref gyg, .int i1])), (gyg, .inl (3, 4, .inr (.inl g1))), (du, .inr (6, [.ref dug, .int i2])), (dug, .inl (3, 4, .inr (.inl g2)))]) rfl ?_
            refine r_astore_nN (lv' := [(3, .null), (0, .ref a), (1, .int 115), (2, .int m)]) d_Ip_charge_37 rfl (by decide) rfl ?_
            refine r_aload_nN d_Ip_charge_38 rfl 0 rfl ?_
            refine r_ifnullN (tgt := 61) d_Ip_charge_39 (by decide) ?_
            refine r_iload_n d_Ip_charge_61 rfl 2 rfl ?_
            refine r_bipush d_Ip_charge_62 (v := 107) (by decide) ?_
            refine r_icmp_ne (tgt := 71) d_Ip_charge_64 (by decide) (fun c_64 => ?_) (fun c_64 => ?_)
            · refine r_iload_n d_Ip_charge_71 rfl 3 rfl ?_
              refine r_istore (lv' := [(4, .int m), (3, .null), (0, .ref a), (1, .int 115), (2, .int m)]) d_Ip_charge_72 (by decide) rfl ?_
              refine r_aload_n d_Ip_charge_74 rfl 2 rfl ?_
              refine r_get fs_Ip_43 d_Ip_charge_75 (q0 := 0) rfl rfl ?_
              refine r_get fs_Ip_277 d_Ip_charge_78 (q0 := 1) rfl rfl ?_
              refine r_get fs_Ip_269 d_Ip_charge_81 (q0 := 2) rfl rfl ?_
              refine r_iload d_Ip_charge_84 0 rfl ?_
              refine r_iadd d_Ip_charge_86 (v := ir + m) rfl ?_
              refine r_sipush d_Ip_charge_87 (v := 3000) (by decide) ?_
              refine r_icmp_le (tgt := 104) d_Ip_charge_90 (by decide) (fun c_90 => ?_) (fun c_90 => ?_)
              · exact absurd hg (Int32.not_lt.mpr c_90)
              · refine r_throwW tb_Ip_242_246 sr_Ip_280 d_Ip_charge_93 d_Ip_charge_96 d_Ip_charge_97 d_Ip_charge_100 d_Ip_charge_103 rfl (by decide) (by decide) (Nat.le_of_ble_eq_true rfl) (by omega) (by omega) ?_
                exact ⟨rfl, rfl⟩
            · exact absurd c_64 (by decide)
        · exact absurd hw (z_b0 c_18)
set_option maxHeartbeats 4000000 in
set_option maxRecDepth 100000 in
theorem C_Ip_charge115N (g : zG) (a pa ta sa gs co fu la gy du re wm ac : Nat) (lab labg gyg dug fub fubg fut1 fut2 fut3 : Nat) (gr T1 T2 T3 g1 g2 : Nat → Int64) (ir i1 i2 : Int32) (io : Int64) (m : Int32) (hw : (1 ≤ m ∧ m ≤ 1000)) (hg : ¬ 3000 < ir + m) : CT g M_Ip_charge [.ref a, .int 115, .int m] [(a, .inr (11, [.ref pa, .ref ta, .ref sa, .ref gs, .ref co, .ref fu, .ref la, .ref gy, .ref du, .ref re, .ref wm, .ref ac])), (fu, .inr (3, [.ref fub, .ref fut1, .ref fut2, .ref fut3, .long io])), (fub, .inr (6, [.ref fubg, .int ir])), (fubg, .inl (3, 4, .inr (.inl gr))), (fut1, .inl (3, 4, .inr (.inl T1))), (fut2, .inl (3, 4, .inr (.inl T2))), (fut3, .inl (3, 4, .inr (.inl T3))), (gy, .inr (6, [.ref gyg, .int i1])), (gyg, .inl (3, 4, .inr (.inl g1))), (du, .inr (6, [.ref dug, .int i2])), (dug, .inl (3, 4, .inr (.inl g2)))] (fun o cs1 => o = .inl (some (.int (ir + m))) ∧ cs1 = [(a, .inr (11, [.ref pa, .ref ta, .ref sa, .ref gs, .ref co, .ref fu, .ref la, .ref gy, .ref du, .ref re, .ref wm, .ref ac])), (fu, .inr (3, [.ref fub, .ref fut1, .ref fut2, .ref fut3, .long (io + (m : Int32).toInt64)])), (fub, .inr (6, [.ref fubg, .int (ir + m)])), (fubg, .inl (3, 4, .inr (.inl (lfd gr (fun e => chS m 1 e / 10) 4)))), (fut1, .inl (3, 4, .inr (.inl (lfd T1 (fun e => chS m 1 e) 4)))), (fut2, .inl (3, 4, .inr (.inl (lfd T2 (fun e => chS m 1 e - chS m 1 e / 10 * 10) 4)))), (fut3, .inl (3, 4, .inr (.inl T3))), (gy, .inr (6, [.ref gyg, .int i1])), (gyg, .inl (3, 4, .inr (.inl g1))), (du, .inr (6, [.ref dug, .int i2])), (dug, .inl (3, 4, .inr (.inl g2)))]) 1 6 := by
  refine z_of (by decide) rfl (Nat.le_of_ble_eq_true rfl) (fun w0 => ?_)
  refine r_lvE (lv2 := [(0, .ref a), (1, .int 115), (2, .int m)]) rfl ?_
  refine r_ldcWS (own := "Ironpour") (i := 1) (by decide) d_Ip_charge_0 ?_
  refine r_iload_n d_Ip_charge_3 rfl 1 rfl ?_
  refine r_callVS (As := [.int 115]) (rest := []) (csC := []) (is := []) (i := 1) (by first | assumption | decide) rfl ln_Ip_83 w_im_String_indexOf_0 w_se_String_indexOf_0 ok_Ip_charge_String_indexOf_0 d_Ip_charge_4 (C_St_indexOf g 1 (by decide) 115) rfl rfl (Nat.le_of_ble_eq_true rfl) rfl (by decide) (by omega) (by omega) (fun E cs1 hx => ?_) (fun v cs1 hx => ?_)
  · exact absurd hx.1 (by simp)
  · obtain ⟨e1, rfl⟩ := hx
    cases e1
    refine ⟨rfl, ?_⟩
    refine r_st (st2 := [.int (z_ix 1 115)]) rfl ?_
    refine r_cs (cs2 := [(a, .inr (11, [.ref pa, .ref ta, .ref sa, .ref gs, .ref co, .ref fu, .ref la, .ref gy, .ref du, .ref re, .ref wm, .ref ac])), (fu, .inr (3, [.ref fub, .ref fut1, .ref fut2, .ref fut3, .long io])), (fub, .inr (6, [.ref fubg, .int ir])), (fubg, .inl (3, 4, .inr (.inl gr))), (fut1, .inl (3, 4, .inr (.inl T1))), (fut2, .inl (3, 4, .inr (.inl T2))), (fut3, .inl (3, 4, .inr (.inl T3))), (gy, .inr (6, [.ref gyg, .int i1])), (gyg, .inl (3, 4, .inr (.inl g1))), (du, .inr (6, [.ref dug, .int i2])), (dug, .inl (3, 4, .inr (.inl g2)))]) rfl ?_
    refine r_if_lt (tgt := 21) d_Ip_charge_7 (by decide) (fun c_7 => ?_) (fun c_7 => ?_)
    · exact absurd c_7 (by decide)
    · refine r_iload_n d_Ip_charge_10 rfl 2 rfl ?_
      refine r_iconst d_Ip_charge_11 (v := 1) (by decide) ?_
      refine r_sipush d_Ip_charge_12 (v := 1000) (by decide) ?_
      refine r_callS (As := [.int m, .int 1, .int 1000]) (rest := []) (csC := []) (is := []) ln_Ip_203 w_st_Ip_isWithin ok_Ip_charge_Ip_isWithin d_Ip_charge_15 (C_Ip_isWithin g m 1 1000) rfl rfl (Nat.le_of_ble_eq_true rfl) rfl (by decide) (by omega) (by omega) (fun E cs1 hx => ?_) (fun v cs1 hx => ?_)
      · exact absurd hx.1 (by simp)
      · obtain ⟨e1, rfl⟩ := hx
        cases e1
        refine ⟨rfl, ?_⟩
        refine r_st (st2 := [.int (if 1 ≤ m ∧ m ≤ 1000 then 1 else 0)]) rfl ?_
        refine r_cs (cs2 := [(a, .inr (11, [.ref pa, .ref ta, .ref sa, .ref gs, .ref co, .ref fu, .ref la, .ref gy, .ref du, .ref re, .ref wm, .ref ac])), (fu, .inr (3, [.ref fub, .ref fut1, .ref fut2, .ref fut3, .long io])), (fub, .inr (6, [.ref fubg, .int ir])), (fubg, .inl (3, 4, .inr (.inl gr))), (fut1, .inl (3, 4, .inr (.inl T1))), (fut2, .inl (3, 4, .inr (.inl T2))), (fut3, .inl (3, 4, .inr (.inl T3))), (gy, .inr (6, [.ref gyg, .int i1])), (gyg, .inl (3, 4, .inr (.inl g1))), (du, .inr (6, [.ref dug, .int i2])), (dug, .inl (3, 4, .inr (.inl g2)))]) rfl ?_
        refine r_if_ne (tgt := 32) d_Ip_charge_18 (by decide) (fun c_18 => ?_) (fun c_18 => ?_)
        · refine r_aload_n d_Ip_charge_32 rfl 0 rfl ?_
          refine r_iload_n d_Ip_charge_33 rfl 1 rfl ?_
          refine r_callV (As := [.int 115]) (rest := []) (csC := [(a, .inr (11, [.ref pa, .ref ta, .ref sa, .ref gs, .ref co, .ref fu, .ref la, .ref gy, .ref du, .ref re, .ref wm, .ref ac]))]) (is := [0]) (q0 := 0) rfl rfl ln_Ip_265 w_im_Ip_poolOf w_se_Ip_poolOf ok_Ip_charge_Ip_poolOf d_Ip_charge_34 (C_Ip_poolOfO g a pa ta sa gs co fu la gy du re wm ac 115 (by decide) (by decide)) rfl rfl (Nat.le_of_ble_eq_true rfl) rfl (by decide) (by omega) (by omega) (fun E cs1 hx => ?_) (fun v cs1 hx => ?_)
          · exact absurd hx.1 (by simp)
          · obtain ⟨e1, rfl⟩ := hx
            cases e1
            refine ⟨rfl, ?_⟩
            refine r_st (st2 := [.null]) rfl ?_
            refine r_cs (cs2 := [(a, .inr (11, [.ref pa, .ref ta, .ref sa, .ref gs, .ref co, .ref fu, .ref la, .ref gy, .ref du, .ref re, .ref wm, .ref ac])), (fu, .inr (3, [.ref fub, .ref fut1, .ref fut2, .ref fut3, .long io])), (fub, .inr (6, [.ref fubg, .int ir])), (fubg, .inl (3, 4, .inr (.inl gr))), (fut1, .inl (3, 4, .inr (.inl T1))), (fut2, .inl (3, 4, .inr (.inl T2))), (fut3, .inl (3, 4, .inr (.inl T3))), (gy, .inr (6, [.ref gyg, .int i1])), (gyg, .inl (3, 4, .inr (.inl g1))), (du, .inr (6, [.ref dug, .int i2])), (dug, .inl (3, 4, .inr (.inl g2)))]) rfl ?_
            refine r_astore_nN (lv' := [(3, .null), (0, .ref a), (1, .int 115), (2, .int m)]) d_Ip_charge_37 rfl (by decide) rfl ?_
            refine r_aload_nN d_Ip_charge_38 rfl 0 rfl ?_
            refine r_ifnullN (tgt := 61) d_Ip_charge_39 (by decide) ?_
            refine r_iload_n d_Ip_charge_61 rfl 2 rfl ?_
            refine r_bipush d_Ip_charge_62 (v := 107) (by decide) ?_
            refine r_icmp_ne (tgt := 71) d_Ip_charge_64 (by decide) (fun c_64 => ?_) (fun c_64 => ?_)
            · refine r_iload_n d_Ip_charge_71 rfl 3 rfl ?_
              refine r_istore (lv' := [(4, .int m), (3, .null), (0, .ref a), (1, .int 115), (2, .int m)]) d_Ip_charge_72 (by decide) rfl ?_
              refine r_aload_n d_Ip_charge_74 rfl 2 rfl ?_
              refine r_get fs_Ip_43 d_Ip_charge_75 (q0 := 0) rfl rfl ?_
              refine r_get fs_Ip_277 d_Ip_charge_78 (q0 := 1) rfl rfl ?_
              refine r_get fs_Ip_269 d_Ip_charge_81 (q0 := 2) rfl rfl ?_
              refine r_iload d_Ip_charge_84 0 rfl ?_
              refine r_iadd d_Ip_charge_86 (v := ir + m) rfl ?_
              refine r_sipush d_Ip_charge_87 (v := 3000) (by decide) ?_
              refine r_icmp_le (tgt := 104) d_Ip_charge_90 (by decide) (fun c_90 => ?_) (fun c_90 => ?_)
              · refine r_aload_nN d_Ip_charge_104 rfl 1 rfl ?_
                refine r_ifnullN (tgt := 123) d_Ip_charge_105 (by decide) ?_
                refine r_aload_n d_Ip_charge_123 rfl 2 rfl ?_
                refine r_get fs_Ip_43 d_Ip_charge_124 (q0 := 0) rfl rfl ?_
                refine r_iload_n d_Ip_charge_127 rfl 4 rfl ?_
                refine r_iload d_Ip_charge_128 0 rfl ?_
                refine r_iload_n d_Ip_charge_130 rfl 3 rfl ?_
                refine r_callS (As := [.int 115]) (rest := [.int m, .int m, .ref fu]) (csC := []) (is := []) ln_Ip_286 w_st_Ip_tenthsOf ok_Ip_charge_Ip_tenthsOf d_Ip_charge_131 (C_Ip_tenthsOf115 g) rfl rfl (Nat.le_of_ble_eq_true rfl) rfl (by decide) (by omega) (by omega) (fun E cs1 hx => ?_) (fun v cs1 hx => ?_)
                · exact absurd hx.1 (by simp)
                · obtain ⟨e1, rfl⟩ := hx
                  cases e1
                  refine ⟨rfl, ?_⟩
                  refine r_st (st2 := [.ref (g.2.2 1), .int m, .int m, .ref fu]) rfl ?_
                  refine r_cs (cs2 := [(a, .inr (11, [.ref pa, .ref ta, .ref sa, .ref gs, .ref co, .ref fu, .ref la, .ref gy, .ref du, .ref re, .ref wm, .ref ac])), (fu, .inr (3, [.ref fub, .ref fut1, .ref fut2, .ref fut3, .long io])), (fub, .inr (6, [.ref fubg, .int ir])), (fubg, .inl (3, 4, .inr (.inl gr))), (fut1, .inl (3, 4, .inr (.inl T1))), (fut2, .inl (3, 4, .inr (.inl T2))), (fut3, .inl (3, 4, .inr (.inl T3))), (gy, .inr (6, [.ref gyg, .int i1])), (gyg, .inl (3, 4, .inr (.inl g1))), (du, .inr (6, [.ref dug, .int i2])), (dug, .inl (3, 4, .inr (.inl g2)))]) rfl ?_
                  refine r_callV (As := [.int m, .int m, .ref (g.2.2 1)]) (rest := []) (csC := [(fu, .inr (3, [.ref fub, .ref fut1, .ref fut2, .ref fut3, .long io])), (fub, .inr (6, [.ref fubg, .int ir])), (fubg, .inl (3, 4, .inr (.inl gr))), (fut1, .inl (3, 4, .inr (.inl T1))), (fut2, .inl (3, 4, .inr (.inl T2))), (fut3, .inl (3, 4, .inr (.inl T3)))]) (is := [1, 2, 3, 4, 5, 6]) (q0 := 1) rfl rfl ln_Ip_290 w_im_Fu_takeFromOutside w_se_Fu_takeFromOutside ok_Ip_charge_Fu_takeFromOutside d_Ip_charge_134 (C_Fu_takeFromOutside g fu fub fubg fut1 fut2 fut3 gr T1 T2 T3 ir io m m 1 (by decide)) rfl rfl (Nat.le_of_ble_eq_true rfl) rfl (by decide) (by omega) (by omega) (fun E cs1 hx => ?_) (fun v cs1 hx => ?_)
                  · exact absurd hx.1 (by simp)
                  · obtain ⟨e1, rfl⟩ := hx
                    cases e1
                    refine ⟨rfl, ?_⟩
                    refine r_st (st2 := []) rfl ?_
                    refine r_cs (cs2 := [(a, .inr (11, [.ref pa, .ref ta, .ref sa, .ref gs, .ref co, .ref fu, .ref la, .ref gy, .ref du, .ref re, .ref wm, .ref ac])), (fu, .inr (3, [.ref fub, .ref fut1, .ref fut2, .ref fut3, .long (io + (m : Int32).toInt64)])), (fub, .inr (6, [.ref fubg, .int (ir + m)])), (fubg, .inl (3, 4, .inr (.inl (lfd gr (fun e => chS m 1 e / 10) 4)))), (fut1, .inl (3, 4, .inr (.inl (lfd T1 (fun e => chS m 1 e) 4)))), (fut2, .inl (3, 4, .inr (.inl (lfd T2 (fun e => chS m 1 e - chS m 1 e / 10 * 10) 4)))), (fut3, .inl (3, 4, .inr (.inl T3))), (gy, .inr (6, [.ref gyg, .int i1])), (gyg, .inl (3, 4, .inr (.inl g1))), (du, .inr (6, [.ref dug, .int i2])), (dug, .inl (3, 4, .inr (.inl g2)))]) rfl ?_
                    refine r_aload_n d_Ip_charge_137 rfl 2 rfl ?_
                    refine r_get fs_Ip_43 d_Ip_charge_138 (q0 := 0) rfl rfl ?_
                    refine r_get fs_Ip_277 d_Ip_charge_141 (q0 := 1) rfl rfl ?_
                    refine r_get fs_Ip_269 d_Ip_charge_144 (q0 := 2) rfl rfl ?_
                    refine r_iret d_Ip_charge_147 rfl rfl ?_
                    exact ⟨rfl, rfl⟩
              · exact absurd (Int32.not_le.mp c_90) hg
            · exact absurd c_64 (by decide)
        · exact absurd hw (z_b0 c_18)
set_option maxHeartbeats 4000000 in
set_option maxRecDepth 100000 in
theorem C_Ip_charge102G (g : zG) (a pa ta sa gs co fu la gy du re wm ac : Nat) (lab labg gyg dug fub fubg fut1 fut2 fut3 : Nat) (gr T1 T2 T3 g1 g2 : Nat → Int64) (ir i1 i2 : Int32) (io : Int64) (m : Int32) (hw : (1 ≤ m ∧ m ≤ 1000)) (hg : 3000 < ir + m) : CT g M_Ip_charge [.ref a, .int 102, .int m] [(a, .inr (11, [.ref pa, .ref ta, .ref sa, .ref gs, .ref co, .ref fu, .ref la, .ref gy, .ref du, .ref re, .ref wm, .ref ac])), (fu, .inr (3, [.ref fub, .ref fut1, .ref fut2, .ref fut3, .long io])), (fub, .inr (6, [.ref fubg, .int ir])), (fubg, .inl (3, 4, .inr (.inl gr))), (fut1, .inl (3, 4, .inr (.inl T1))), (fut2, .inl (3, 4, .inr (.inl T2))), (fut3, .inl (3, 4, .inr (.inl T3))), (gy, .inr (6, [.ref gyg, .int i1])), (gyg, .inl (3, 4, .inr (.inl g1))), (du, .inr (6, [.ref dug, .int i2])), (dug, .inl (3, 4, .inr (.inl g2)))] (fun o cs1 => o = .inr "java/lang/IllegalStateException" ∧ cs1 = [(a, .inr (11, [.ref pa, .ref ta, .ref sa, .ref gs, .ref co, .ref fu, .ref la, .ref gy, .ref du, .ref re, .ref wm, .ref ac])), (fu, .inr (3, [.ref fub, .ref fut1, .ref fut2, .ref fut3, .long io])), (fub, .inr (6, [.ref fubg, .int ir])), (fubg, .inl (3, 4, .inr (.inl gr))), (fut1, .inl (3, 4, .inr (.inl T1))), (fut2, .inl (3, 4, .inr (.inl T2))), (fut3, .inl (3, 4, .inr (.inl T3))), (gy, .inr (6, [.ref gyg, .int i1])), (gyg, .inl (3, 4, .inr (.inl g1))), (du, .inr (6, [.ref dug, .int i2])), (dug, .inl (3, 4, .inr (.inl g2)))]) 1 6 := by
  refine z_of (by decide) rfl (Nat.le_of_ble_eq_true rfl) (fun w0 => ?_)
  refine r_lvE (lv2 := [(0, .ref a), (1, .int 102), (2, .int m)]) rfl ?_
  refine r_ldcWS (own := "Ironpour") (i := 1) (by decide) d_Ip_charge_0 ?_
  refine r_iload_n d_Ip_charge_3 rfl 1 rfl ?_
  refine r_callVS (As := [.int 102]) (rest := []) (csC := []) (is := []) (i := 1) (by first | assumption | decide) rfl ln_Ip_83 w_im_String_indexOf_0 w_se_String_indexOf_0 ok_Ip_charge_String_indexOf_0 d_Ip_charge_4 (C_St_indexOf g 1 (by decide) 102) rfl rfl (Nat.le_of_ble_eq_true rfl) rfl (by decide) (by omega) (by omega) (fun E cs1 hx => ?_) (fun v cs1 hx => ?_)
  · exact absurd hx.1 (by simp)
  · obtain ⟨e1, rfl⟩ := hx
    cases e1
    refine ⟨rfl, ?_⟩
    refine r_st (st2 := [.int (z_ix 1 102)]) rfl ?_
    refine r_cs (cs2 := [(a, .inr (11, [.ref pa, .ref ta, .ref sa, .ref gs, .ref co, .ref fu, .ref la, .ref gy, .ref du, .ref re, .ref wm, .ref ac])), (fu, .inr (3, [.ref fub, .ref fut1, .ref fut2, .ref fut3, .long io])), (fub, .inr (6, [.ref fubg, .int ir])), (fubg, .inl (3, 4, .inr (.inl gr))), (fut1, .inl (3, 4, .inr (.inl T1))), (fut2, .inl (3, 4, .inr (.inl T2))), (fut3, .inl (3, 4, .inr (.inl T3))), (gy, .inr (6, [.ref gyg, .int i1])), (gyg, .inl (3, 4, .inr (.inl g1))), (du, .inr (6, [.ref dug, .int i2])), (dug, .inl (3, 4, .inr (.inl g2)))]) rfl ?_
    refine r_if_lt (tgt := 21) d_Ip_charge_7 (by decide) (fun c_7 => ?_) (fun c_7 => ?_)
    · exact absurd c_7 (by decide)
    · refine r_iload_n d_Ip_charge_10 rfl 2 rfl ?_
      refine r_iconst d_Ip_charge_11 (v := 1) (by decide) ?_
      refine r_sipush d_Ip_charge_12 (v := 1000) (by decide) ?_
      refine r_callS (As := [.int m, .int 1, .int 1000]) (rest := []) (csC := []) (is := []) ln_Ip_203 w_st_Ip_isWithin ok_Ip_charge_Ip_isWithin d_Ip_charge_15 (C_Ip_isWithin g m 1 1000) rfl rfl (Nat.le_of_ble_eq_true rfl) rfl (by decide) (by omega) (by omega) (fun E cs1 hx => ?_) (fun v cs1 hx => ?_)
      · exact absurd hx.1 (by simp)
      · obtain ⟨e1, rfl⟩ := hx
        cases e1
        refine ⟨rfl, ?_⟩
        refine r_st (st2 := [.int (if 1 ≤ m ∧ m ≤ 1000 then 1 else 0)]) rfl ?_
        refine r_cs (cs2 := [(a, .inr (11, [.ref pa, .ref ta, .ref sa, .ref gs, .ref co, .ref fu, .ref la, .ref gy, .ref du, .ref re, .ref wm, .ref ac])), (fu, .inr (3, [.ref fub, .ref fut1, .ref fut2, .ref fut3, .long io])), (fub, .inr (6, [.ref fubg, .int ir])), (fubg, .inl (3, 4, .inr (.inl gr))), (fut1, .inl (3, 4, .inr (.inl T1))), (fut2, .inl (3, 4, .inr (.inl T2))), (fut3, .inl (3, 4, .inr (.inl T3))), (gy, .inr (6, [.ref gyg, .int i1])), (gyg, .inl (3, 4, .inr (.inl g1))), (du, .inr (6, [.ref dug, .int i2])), (dug, .inl (3, 4, .inr (.inl g2)))]) rfl ?_
        refine r_if_ne (tgt := 32) d_Ip_charge_18 (by decide) (fun c_18 => ?_) (fun c_18 => ?_)
        · refine r_aload_n d_Ip_charge_32 rfl 0 rfl ?_
          refine r_iload_n d_Ip_charge_33 rfl 1 rfl ?_
          refine r_callV (As := [.int 102]) (rest := []) (csC := [(a, .inr (11, [.ref pa, .ref ta, .ref sa, .ref gs, .ref co, .ref fu, .ref la, .ref gy, .ref du, .ref re, .ref wm, .ref ac]))]) (is := [0]) (q0 := 0) rfl rfl ln_Ip_265 w_im_Ip_poolOf w_se_Ip_poolOf ok_Ip_charge_Ip_poolOf d_Ip_charge_34 (C_Ip_poolOfO g a pa ta sa gs co fu la gy du re wm ac 102 (by decide) (by decide)) rfl rfl (Nat.le_of_ble_eq_true rfl) rfl (by decide) (by omega) (by omega) (fun E cs1 hx => ?_) (fun v cs1 hx => ?_)
          · exact absurd hx.1 (by simp)
          · obtain ⟨e1, rfl⟩ := hx
            cases e1
            refine ⟨rfl, ?_⟩
            refine r_st (st2 := [.null]) rfl ?_
            refine r_cs (cs2 := [(a, .inr (11, [.ref pa, .ref ta, .ref sa, .ref gs, .ref co, .ref fu, .ref la, .ref gy, .ref du, .ref re, .ref wm, .ref ac])), (fu, .inr (3, [.ref fub, .ref fut1, .ref fut2, .ref fut3, .long io])), (fub, .inr (6, [.ref fubg, .int ir])), (fubg, .inl (3, 4, .inr (.inl gr))), (fut1, .inl (3, 4, .inr (.inl T1))), (fut2, .inl (3, 4, .inr (.inl T2))), (fut3, .inl (3, 4, .inr (.inl T3))), (gy, .inr (6, [.ref gyg, .int i1])), (gyg, .inl (3, 4, .inr (.inl g1))), (du, .inr (6, [.ref dug, .int i2])), (dug, .inl (3, 4, .inr (.inl g2)))]) rfl ?_
            refine r_astore_nN (lv' := [(3, .null), (0, .ref a), (1, .int 102), (2, .int m)]) d_Ip_charge_37 rfl (by decide) rfl ?_
            refine r_aload_nN d_Ip_charge_38 rfl 0 rfl ?_
            refine r_ifnullN (tgt := 61) d_Ip_charge_39 (by decide) ?_
            refine r_iload_n d_Ip_charge_61 rfl 2 rfl ?_
            refine r_bipush d_Ip_charge_62 (v := 107) (by decide) ?_
            refine r_icmp_ne (tgt := 71) d_Ip_charge_64 (by decide) (fun c_64 => ?_) (fun c_64 => ?_)
            · refine r_iload_n d_Ip_charge_71 rfl 3 rfl ?_
              refine r_istore (lv' := [(4, .int m), (3, .null), (0, .ref a), (1, .int 102), (2, .int m)]) d_Ip_charge_72 (by decide) rfl ?_
              refine r_aload_n d_Ip_charge_74 rfl 2 rfl ?_
              refine r_get fs_Ip_43 d_Ip_charge_75 (q0 := 0) rfl rfl ?_
              refine r_get fs_Ip_277 d_Ip_charge_78 (q0 := 1) rfl rfl ?_
              refine r_get fs_Ip_269 d_Ip_charge_81 (q0 := 2) rfl rfl ?_
              refine r_iload d_Ip_charge_84 0 rfl ?_
              refine r_iadd d_Ip_charge_86 (v := ir + m) rfl ?_
              refine r_sipush d_Ip_charge_87 (v := 3000) (by decide) ?_
              refine r_icmp_le (tgt := 104) d_Ip_charge_90 (by decide) (fun c_90 => ?_) (fun c_90 => ?_)
              · exact absurd hg (Int32.not_lt.mpr c_90)
              · refine r_throwW tb_Ip_242_246 sr_Ip_280 d_Ip_charge_93 d_Ip_charge_96 d_Ip_charge_97 d_Ip_charge_100 d_Ip_charge_103 rfl (by decide) (by decide) (Nat.le_of_ble_eq_true rfl) (by omega) (by omega) ?_
                exact ⟨rfl, rfl⟩
            · exact absurd c_64 (by decide)
        · exact absurd hw (z_b0 c_18)
set_option maxHeartbeats 4000000 in
set_option maxRecDepth 100000 in
theorem C_Ip_charge102N (g : zG) (a pa ta sa gs co fu la gy du re wm ac : Nat) (lab labg gyg dug fub fubg fut1 fut2 fut3 : Nat) (gr T1 T2 T3 g1 g2 : Nat → Int64) (ir i1 i2 : Int32) (io : Int64) (m : Int32) (hw : (1 ≤ m ∧ m ≤ 1000)) (hg : ¬ 3000 < ir + m) : CT g M_Ip_charge [.ref a, .int 102, .int m] [(a, .inr (11, [.ref pa, .ref ta, .ref sa, .ref gs, .ref co, .ref fu, .ref la, .ref gy, .ref du, .ref re, .ref wm, .ref ac])), (fu, .inr (3, [.ref fub, .ref fut1, .ref fut2, .ref fut3, .long io])), (fub, .inr (6, [.ref fubg, .int ir])), (fubg, .inl (3, 4, .inr (.inl gr))), (fut1, .inl (3, 4, .inr (.inl T1))), (fut2, .inl (3, 4, .inr (.inl T2))), (fut3, .inl (3, 4, .inr (.inl T3))), (gy, .inr (6, [.ref gyg, .int i1])), (gyg, .inl (3, 4, .inr (.inl g1))), (du, .inr (6, [.ref dug, .int i2])), (dug, .inl (3, 4, .inr (.inl g2)))] (fun o cs1 => o = .inl (some (.int (ir + m))) ∧ cs1 = [(a, .inr (11, [.ref pa, .ref ta, .ref sa, .ref gs, .ref co, .ref fu, .ref la, .ref gy, .ref du, .ref re, .ref wm, .ref ac])), (fu, .inr (3, [.ref fub, .ref fut1, .ref fut2, .ref fut3, .long (io + (m : Int32).toInt64)])), (fub, .inr (6, [.ref fubg, .int (ir + m)])), (fubg, .inl (3, 4, .inr (.inl (lfd gr (fun e => chS m 2 e / 10) 4)))), (fut1, .inl (3, 4, .inr (.inl (lfd T1 (fun e => chS m 2 e) 4)))), (fut2, .inl (3, 4, .inr (.inl (lfd T2 (fun e => chS m 2 e - chS m 2 e / 10 * 10) 4)))), (fut3, .inl (3, 4, .inr (.inl T3))), (gy, .inr (6, [.ref gyg, .int i1])), (gyg, .inl (3, 4, .inr (.inl g1))), (du, .inr (6, [.ref dug, .int i2])), (dug, .inl (3, 4, .inr (.inl g2)))]) 1 6 := by
  refine z_of (by decide) rfl (Nat.le_of_ble_eq_true rfl) (fun w0 => ?_)
  refine r_lvE (lv2 := [(0, .ref a), (1, .int 102), (2, .int m)]) rfl ?_
  refine r_ldcWS (own := "Ironpour") (i := 1) (by decide) d_Ip_charge_0 ?_
  refine r_iload_n d_Ip_charge_3 rfl 1 rfl ?_
  refine r_callVS (As := [.int 102]) (rest := []) (csC := []) (is := []) (i := 1) (by first | assumption | decide) rfl ln_Ip_83 w_im_String_indexOf_0 w_se_String_indexOf_0 ok_Ip_charge_String_indexOf_0 d_Ip_charge_4 (C_St_indexOf g 1 (by decide) 102) rfl rfl (Nat.le_of_ble_eq_true rfl) rfl (by decide) (by omega) (by omega) (fun E cs1 hx => ?_) (fun v cs1 hx => ?_)
  · exact absurd hx.1 (by simp)
  · obtain ⟨e1, rfl⟩ := hx
    cases e1
    refine ⟨rfl, ?_⟩
    refine r_st (st2 := [.int (z_ix 1 102)]) rfl ?_
    refine r_cs (cs2 := [(a, .inr (11, [.ref pa, .ref ta, .ref sa, .ref gs, .ref co, .ref fu, .ref la, .ref gy, .ref du, .ref re, .ref wm, .ref ac])), (fu, .inr (3, [.ref fub, .ref fut1, .ref fut2, .ref fut3, .long io])), (fub, .inr (6, [.ref fubg, .int ir])), (fubg, .inl (3, 4, .inr (.inl gr))), (fut1, .inl (3, 4, .inr (.inl T1))), (fut2, .inl (3, 4, .inr (.inl T2))), (fut3, .inl (3, 4, .inr (.inl T3))), (gy, .inr (6, [.ref gyg, .int i1])), (gyg, .inl (3, 4, .inr (.inl g1))), (du, .inr (6, [.ref dug, .int i2])), (dug, .inl (3, 4, .inr (.inl g2)))]) rfl ?_
    refine r_if_lt (tgt := 21) d_Ip_charge_7 (by decide) (fun c_7 => ?_) (fun c_7 => ?_)
    · exact absurd c_7 (by decide)
    · refine r_iload_n d_Ip_charge_10 rfl 2 rfl ?_
      refine r_iconst d_Ip_charge_11 (v := 1) (by decide) ?_
      refine r_sipush d_Ip_charge_12 (v := 1000) (by decide) ?_
      refine r_callS (As := [.int m, .int 1, .int 1000]) (rest := []) (csC := []) (is := []) ln_Ip_203 w_st_Ip_isWithin ok_Ip_charge_Ip_isWithin d_Ip_charge_15 (C_Ip_isWithin g m 1 1000) rfl rfl (Nat.le_of_ble_eq_true rfl) rfl (by decide) (by omega) (by omega) (fun E cs1 hx => ?_) (fun v cs1 hx => ?_)
      · exact absurd hx.1 (by simp)
      · obtain ⟨e1, rfl⟩ := hx
        cases e1
        refine ⟨rfl, ?_⟩
        refine r_st (st2 := [.int (if 1 ≤ m ∧ m ≤ 1000 then 1 else 0)]) rfl ?_
        refine r_cs (cs2 := [(a, .inr (11, [.ref pa, .ref ta, .ref sa, .ref gs, .ref co, .ref fu, .ref la, .ref gy, .ref du, .ref re, .ref wm, .ref ac])), (fu, .inr (3, [.ref fub, .ref fut1, .ref fut2, .ref fut3, .long io])), (fub, .inr (6, [.ref fubg, .int ir])), (fubg, .inl (3, 4, .inr (.inl gr))), (fut1, .inl (3, 4, .inr (.inl T1))), (fut2, .inl (3, 4, .inr (.inl T2))), (fut3, .inl (3, 4, .inr (.inl T3))), (gy, .inr (6, [.ref gyg, .int i1])), (gyg, .inl (3, 4, .inr (.inl g1))), (du, .inr (6, [.ref dug, .int i2])), (dug, .inl (3, 4, .inr (.inl g2)))]) rfl ?_
        refine r_if_ne (tgt := 32) d_Ip_charge_18 (by decide) (fun c_18 => ?_) (fun c_18 => ?_)
        · refine r_aload_n d_Ip_charge_32 rfl 0 rfl ?_
          refine r_iload_n d_Ip_charge_33 rfl 1 rfl ?_
          refine r_callV (As := [.int 102]) (rest := []) (csC := [(a, .inr (11, [.ref pa, .ref ta, .ref sa, .ref gs, .ref co, .ref fu, .ref la, .ref gy, .ref du, .ref re, .ref wm, .ref ac]))]) (is := [0]) (q0 := 0) rfl rfl ln_Ip_265 w_im_Ip_poolOf w_se_Ip_poolOf ok_Ip_charge_Ip_poolOf d_Ip_charge_34 (C_Ip_poolOfO g a pa ta sa gs co fu la gy du re wm ac 102 (by decide) (by decide)) rfl rfl (Nat.le_of_ble_eq_true rfl) rfl (by decide) (by omega) (by omega) (fun E cs1 hx => ?_) (fun v cs1 hx => ?_)
          · exact absurd hx.1 (by simp)
          · obtain ⟨e1, rfl⟩ := hx
            cases e1
            refine ⟨rfl, ?_⟩
            refine r_st (st2 := [.null]) rfl ?_
            refine r_cs (cs2 := [(a, .inr (11, [.ref pa, .ref ta, .ref sa, .ref gs, .ref co, .ref fu, .ref la, .ref gy, .ref du, .ref re, .ref wm, .ref ac])), (fu, .inr (3, [.ref fub, .ref fut1, .ref fut2, .ref fut3, .long io])), (fub, .inr (6, [.ref fubg, .int ir])), (fubg, .inl (3, 4, .inr (.inl gr))), (fut1, .inl (3, 4, .inr (.inl T1))), (fut2, .inl (3, 4, .inr (.inl T2))), (fut3, .inl (3, 4, .inr (.inl T3))), (gy, .inr (6, [.ref gyg, .int i1])), (gyg, .inl (3, 4, .inr (.inl g1))), (du, .inr (6, [.ref dug, .int i2])), (dug, .inl (3, 4, .inr (.inl g2)))]) rfl ?_
            refine r_astore_nN (lv' := [(3, .null), (0, .ref a), (1, .int 102), (2, .int m)]) d_Ip_charge_37 rfl (by decide) rfl ?_
            refine r_aload_nN d_Ip_charge_38 rfl 0 rfl ?_
            refine r_ifnullN (tgt := 61) d_Ip_charge_39 (by decide) ?_
            refine r_iload_n d_Ip_charge_61 rfl 2 rfl ?_
            refine r_bipush d_Ip_charge_62 (v := 107) (by decide) ?_
            refine r_icmp_ne (tgt := 71) d_Ip_charge_64 (by decide) (fun c_64 => ?_) (fun c_64 => ?_)
            · refine r_iload_n d_Ip_charge_71 rfl 3 rfl ?_
              refine r_istore (lv' := [(4, .int m), (3, .null), (0, .ref a), (1, .int 102), (2, .int m)]) d_Ip_charge_72 (by decide) rfl ?_
              refine r_aload_n d_Ip_charge_74 rfl 2 rfl ?_
              refine r_get fs_Ip_43 d_Ip_charge_75 (q0 := 0) rfl rfl ?_
              refine r_get fs_Ip_277 d_Ip_charge_78 (q0 := 1) rfl rfl ?_
              refine r_get fs_Ip_269 d_Ip_charge_81 (q0 := 2) rfl rfl ?_
              refine r_iload d_Ip_charge_84 0 rfl ?_
              refine r_iadd d_Ip_charge_86 (v := ir + m) rfl ?_
              refine r_sipush d_Ip_charge_87 (v := 3000) (by decide) ?_
              refine r_icmp_le (tgt := 104) d_Ip_charge_90 (by decide) (fun c_90 => ?_) (fun c_90 => ?_)
              · refine r_aload_nN d_Ip_charge_104 rfl 1 rfl ?_
                refine r_ifnullN (tgt := 123) d_Ip_charge_105 (by decide) ?_
                refine r_aload_n d_Ip_charge_123 rfl 2 rfl ?_
                refine r_get fs_Ip_43 d_Ip_charge_124 (q0 := 0) rfl rfl ?_
                refine r_iload_n d_Ip_charge_127 rfl 4 rfl ?_
                refine r_iload d_Ip_charge_128 0 rfl ?_
                refine r_iload_n d_Ip_charge_130 rfl 3 rfl ?_
                refine r_callS (As := [.int 102]) (rest := [.int m, .int m, .ref fu]) (csC := []) (is := []) ln_Ip_286 w_st_Ip_tenthsOf ok_Ip_charge_Ip_tenthsOf d_Ip_charge_131 (C_Ip_tenthsOf102 g) rfl rfl (Nat.le_of_ble_eq_true rfl) rfl (by decide) (by omega) (by omega) (fun E cs1 hx => ?_) (fun v cs1 hx => ?_)
                · exact absurd hx.1 (by simp)
                · obtain ⟨e1, rfl⟩ := hx
                  cases e1
                  refine ⟨rfl, ?_⟩
                  refine r_st (st2 := [.ref (g.2.2 2), .int m, .int m, .ref fu]) rfl ?_
                  refine r_cs (cs2 := [(a, .inr (11, [.ref pa, .ref ta, .ref sa, .ref gs, .ref co, .ref fu, .ref la, .ref gy, .ref du, .ref re, .ref wm, .ref ac])), (fu, .inr (3, [.ref fub, .ref fut1, .ref fut2, .ref fut3, .long io])), (fub, .inr (6, [.ref fubg, .int ir])), (fubg, .inl (3, 4, .inr (.inl gr))), (fut1, .inl (3, 4, .inr (.inl T1))), (fut2, .inl (3, 4, .inr (.inl T2))), (fut3, .inl (3, 4, .inr (.inl T3))), (gy, .inr (6, [.ref gyg, .int i1])), (gyg, .inl (3, 4, .inr (.inl g1))), (du, .inr (6, [.ref dug, .int i2])), (dug, .inl (3, 4, .inr (.inl g2)))]) rfl ?_
                  refine r_callV (As := [.int m, .int m, .ref (g.2.2 2)]) (rest := []) (csC := [(fu, .inr (3, [.ref fub, .ref fut1, .ref fut2, .ref fut3, .long io])), (fub, .inr (6, [.ref fubg, .int ir])), (fubg, .inl (3, 4, .inr (.inl gr))), (fut1, .inl (3, 4, .inr (.inl T1))), (fut2, .inl (3, 4, .inr (.inl T2))), (fut3, .inl (3, 4, .inr (.inl T3)))]) (is := [1, 2, 3, 4, 5, 6]) (q0 := 1) rfl rfl ln_Ip_290 w_im_Fu_takeFromOutside w_se_Fu_takeFromOutside ok_Ip_charge_Fu_takeFromOutside d_Ip_charge_134 (C_Fu_takeFromOutside g fu fub fubg fut1 fut2 fut3 gr T1 T2 T3 ir io m m 2 (by decide)) rfl rfl (Nat.le_of_ble_eq_true rfl) rfl (by decide) (by omega) (by omega) (fun E cs1 hx => ?_) (fun v cs1 hx => ?_)
                  · exact absurd hx.1 (by simp)
                  · obtain ⟨e1, rfl⟩ := hx
                    cases e1
                    refine ⟨rfl, ?_⟩
                    refine r_st (st2 := []) rfl ?_
                    refine r_cs (cs2 := [(a, .inr (11, [.ref pa, .ref ta, .ref sa, .ref gs, .ref co, .ref fu, .ref la, .ref gy, .ref du, .ref re, .ref wm, .ref ac])), (fu, .inr (3, [.ref fub, .ref fut1, .ref fut2, .ref fut3, .long (io + (m : Int32).toInt64)])), (fub, .inr (6, [.ref fubg, .int (ir + m)])), (fubg, .inl (3, 4, .inr (.inl (lfd gr (fun e => chS m 2 e / 10) 4)))), (fut1, .inl (3, 4, .inr (.inl (lfd T1 (fun e => chS m 2 e) 4)))), (fut2, .inl (3, 4, .inr (.inl (lfd T2 (fun e => chS m 2 e - chS m 2 e / 10 * 10) 4)))), (fut3, .inl (3, 4, .inr (.inl T3))), (gy, .inr (6, [.ref gyg, .int i1])), (gyg, .inl (3, 4, .inr (.inl g1))), (du, .inr (6, [.ref dug, .int i2])), (dug, .inl (3, 4, .inr (.inl g2)))]) rfl ?_
                    refine r_aload_n d_Ip_charge_137 rfl 2 rfl ?_
                    refine r_get fs_Ip_43 d_Ip_charge_138 (q0 := 0) rfl rfl ?_
                    refine r_get fs_Ip_277 d_Ip_charge_141 (q0 := 1) rfl rfl ?_
                    refine r_get fs_Ip_269 d_Ip_charge_144 (q0 := 2) rfl rfl ?_
                    refine r_iret d_Ip_charge_147 rfl rfl ?_
                    exact ⟨rfl, rfl⟩
              · exact absurd (Int32.not_le.mp c_90) hg
            · exact absurd c_64 (by decide)
        · exact absurd hw (z_b0 c_18)
theorem d_Ip_charge_67 : decode prog_1_method_23_code 67 = .ok (.iconst 0, 1) := zo_3 (zd_b zq_prog_1_method_23_code_2 3 rfl rfl rfl)
theorem d_Ip_charge_68 : decode prog_1_method_23_code 68 = .ok (.goto 4, 3) := zo_167 (d := 0) (e := 4) (zd_b zq_prog_1_method_23_code_2 4 rfl rfl rfl) (zd_b zq_prog_1_method_23_code_2 5 rfl rfl rfl) (zd_b zq_prog_1_method_23_code_2 6 rfl rfl rfl) (by decide +kernel)
set_option maxHeartbeats 4000000 in
set_option maxRecDepth 100000 in
theorem C_Ip_charge107G (g : zG) (a pa ta sa gs co fu la gy du re wm ac : Nat) (lab labg gyg dug fub fubg fut1 fut2 fut3 : Nat) (gr T1 T2 T3 g1 g2 : Nat → Int64) (ir i1 i2 : Int32) (io : Int64) (m : Int32) (hw : (1 ≤ m ∧ m ≤ 1000)) (hg : 3000 < ir + 0) : CT g M_Ip_charge [.ref a, .int 107, .int m] [(a, .inr (11, [.ref pa, .ref ta, .ref sa, .ref gs, .ref co, .ref fu, .ref la, .ref gy, .ref du, .ref re, .ref wm, .ref ac])), (fu, .inr (3, [.ref fub, .ref fut1, .ref fut2, .ref fut3, .long io])), (fub, .inr (6, [.ref fubg, .int ir])), (fubg, .inl (3, 4, .inr (.inl gr))), (fut1, .inl (3, 4, .inr (.inl T1))), (fut2, .inl (3, 4, .inr (.inl T2))), (fut3, .inl (3, 4, .inr (.inl T3))), (gy, .inr (6, [.ref gyg, .int i1])), (gyg, .inl (3, 4, .inr (.inl g1))), (du, .inr (6, [.ref dug, .int i2])), (dug, .inl (3, 4, .inr (.inl g2)))] (fun o cs1 => o = .inr "java/lang/IllegalStateException" ∧ cs1 = [(a, .inr (11, [.ref pa, .ref ta, .ref sa, .ref gs, .ref co, .ref fu, .ref la, .ref gy, .ref du, .ref re, .ref wm, .ref ac])), (fu, .inr (3, [.ref fub, .ref fut1, .ref fut2, .ref fut3, .long io])), (fub, .inr (6, [.ref fubg, .int ir])), (fubg, .inl (3, 4, .inr (.inl gr))), (fut1, .inl (3, 4, .inr (.inl T1))), (fut2, .inl (3, 4, .inr (.inl T2))), (fut3, .inl (3, 4, .inr (.inl T3))), (gy, .inr (6, [.ref gyg, .int i1])), (gyg, .inl (3, 4, .inr (.inl g1))), (du, .inr (6, [.ref dug, .int i2])), (dug, .inl (3, 4, .inr (.inl g2)))]) 1 6 := by
  refine z_of (by decide) rfl (Nat.le_of_ble_eq_true rfl) (fun w0 => ?_)
  refine r_lvE (lv2 := [(0, .ref a), (1, .int 107), (2, .int m)]) rfl ?_
  refine r_ldcWS (own := "Ironpour") (i := 1) (by decide) d_Ip_charge_0 ?_
  refine r_iload_n d_Ip_charge_3 rfl 1 rfl ?_
  refine r_callVS (As := [.int 107]) (rest := []) (csC := []) (is := []) (i := 1) (by first | assumption | decide) rfl ln_Ip_83 w_im_String_indexOf_0 w_se_String_indexOf_0 ok_Ip_charge_String_indexOf_0 d_Ip_charge_4 (C_St_indexOf g 1 (by decide) 107) rfl rfl (Nat.le_of_ble_eq_true rfl) rfl (by decide) (by omega) (by omega) (fun E cs1 hx => ?_) (fun v cs1 hx => ?_)
  · exact absurd hx.1 (by simp)
  · obtain ⟨e1, rfl⟩ := hx
    cases e1
    refine ⟨rfl, ?_⟩
    refine r_st (st2 := [.int (z_ix 1 107)]) rfl ?_
    refine r_cs (cs2 := [(a, .inr (11, [.ref pa, .ref ta, .ref sa, .ref gs, .ref co, .ref fu, .ref la, .ref gy, .ref du, .ref re, .ref wm, .ref ac])), (fu, .inr (3, [.ref fub, .ref fut1, .ref fut2, .ref fut3, .long io])), (fub, .inr (6, [.ref fubg, .int ir])), (fubg, .inl (3, 4, .inr (.inl gr))), (fut1, .inl (3, 4, .inr (.inl T1))), (fut2, .inl (3, 4, .inr (.inl T2))), (fut3, .inl (3, 4, .inr (.inl T3))), (gy, .inr (6, [.ref gyg, .int i1])), (gyg, .inl (3, 4, .inr (.inl g1))), (du, .inr (6, [.ref dug, .int i2])), (dug, .inl (3, 4, .inr (.inl g2)))]) rfl ?_
    refine r_if_lt (tgt := 21) d_Ip_charge_7 (by decide) (fun c_7 => ?_) (fun c_7 => ?_)
    · exact absurd c_7 (by decide)
    · refine r_iload_n d_Ip_charge_10 rfl 2 rfl ?_
      refine r_iconst d_Ip_charge_11 (v := 1) (by decide) ?_
      refine r_sipush d_Ip_charge_12 (v := 1000) (by decide) ?_
      refine r_callS (As := [.int m, .int 1, .int 1000]) (rest := []) (csC := []) (is := []) ln_Ip_203 w_st_Ip_isWithin ok_Ip_charge_Ip_isWithin d_Ip_charge_15 (C_Ip_isWithin g m 1 1000) rfl rfl (Nat.le_of_ble_eq_true rfl) rfl (by decide) (by omega) (by omega) (fun E cs1 hx => ?_) (fun v cs1 hx => ?_)
      · exact absurd hx.1 (by simp)
      · obtain ⟨e1, rfl⟩ := hx
        cases e1
        refine ⟨rfl, ?_⟩
        refine r_st (st2 := [.int (if 1 ≤ m ∧ m ≤ 1000 then 1 else 0)]) rfl ?_
        refine r_cs (cs2 := [(a, .inr (11, [.ref pa, .ref ta, .ref sa, .ref gs, .ref co, .ref fu, .ref la, .ref gy, .ref du, .ref re, .ref wm, .ref ac])), (fu, .inr (3, [.ref fub, .ref fut1, .ref fut2, .ref fut3, .long io])), (fub, .inr (6, [.ref fubg, .int ir])), (fubg, .inl (3, 4, .inr (.inl gr))), (fut1, .inl (3, 4, .inr (.inl T1))), (fut2, .inl (3, 4, .inr (.inl T2))), (fut3, .inl (3, 4, .inr (.inl T3))), (gy, .inr (6, [.ref gyg, .int i1])), (gyg, .inl (3, 4, .inr (.inl g1))), (du, .inr (6, [.ref dug, .int i2])), (dug, .inl (3, 4, .inr (.inl g2)))]) rfl ?_
        refine r_if_ne (tgt := 32) d_Ip_charge_18 (by decide) (fun c_18 => ?_) (fun c_18 => ?_)
        · refine r_aload_n d_Ip_charge_32 rfl 0 rfl ?_
          refine r_iload_n d_Ip_charge_33 rfl 1 rfl ?_
          refine r_callV (As := [.int 107]) (rest := []) (csC := [(a, .inr (11, [.ref pa, .ref ta, .ref sa, .ref gs, .ref co, .ref fu, .ref la, .ref gy, .ref du, .ref re, .ref wm, .ref ac]))]) (is := [0]) (q0 := 0) rfl rfl ln_Ip_265 w_im_Ip_poolOf w_se_Ip_poolOf ok_Ip_charge_Ip_poolOf d_Ip_charge_34 (C_Ip_poolOfO g a pa ta sa gs co fu la gy du re wm ac 107 (by decide) (by decide)) rfl rfl (Nat.le_of_ble_eq_true rfl) rfl (by decide) (by omega) (by omega) (fun E cs1 hx => ?_) (fun v cs1 hx => ?_)
          · exact absurd hx.1 (by simp)
          · obtain ⟨e1, rfl⟩ := hx
            cases e1
            refine ⟨rfl, ?_⟩
            refine r_st (st2 := [.null]) rfl ?_
            refine r_cs (cs2 := [(a, .inr (11, [.ref pa, .ref ta, .ref sa, .ref gs, .ref co, .ref fu, .ref la, .ref gy, .ref du, .ref re, .ref wm, .ref ac])), (fu, .inr (3, [.ref fub, .ref fut1, .ref fut2, .ref fut3, .long io])), (fub, .inr (6, [.ref fubg, .int ir])), (fubg, .inl (3, 4, .inr (.inl gr))), (fut1, .inl (3, 4, .inr (.inl T1))), (fut2, .inl (3, 4, .inr (.inl T2))), (fut3, .inl (3, 4, .inr (.inl T3))), (gy, .inr (6, [.ref gyg, .int i1])), (gyg, .inl (3, 4, .inr (.inl g1))), (du, .inr (6, [.ref dug, .int i2])), (dug, .inl (3, 4, .inr (.inl g2)))]) rfl ?_
            refine r_astore_nN (lv' := [(3, .null), (0, .ref a), (1, .int 107), (2, .int m)]) d_Ip_charge_37 rfl (by decide) rfl ?_
            refine r_aload_nN d_Ip_charge_38 rfl 0 rfl ?_
            refine r_ifnullN (tgt := 61) d_Ip_charge_39 (by decide) ?_
            refine r_iload_n d_Ip_charge_61 rfl 2 rfl ?_
            refine r_bipush d_Ip_charge_62 (v := 107) (by decide) ?_
            refine r_icmp_ne (tgt := 71) d_Ip_charge_64 (by decide) (fun c_64 => ?_) (fun c_64 => ?_)
            · exact absurd c_64 (by decide)
            · refine r_iconst d_Ip_charge_67 (v := 0) (by decide) ?_
              refine r_goto (tgt := 72) d_Ip_charge_68 (by decide) ?_
              refine r_istore (lv' := [(4, .int 0), (3, .null), (0, .ref a), (1, .int 107), (2, .int m)]) d_Ip_charge_72 (by decide) rfl ?_
              refine r_aload_n d_Ip_charge_74 rfl 2 rfl ?_
              refine r_get fs_Ip_43 d_Ip_charge_75 (q0 := 0) rfl rfl ?_
              refine r_get fs_Ip_277 d_Ip_charge_78 (q0 := 1) rfl rfl ?_
              refine r_get fs_Ip_269 d_Ip_charge_81 (q0 := 2) rfl rfl ?_
              refine r_iload d_Ip_charge_84 0 rfl ?_
              refine r_iadd d_Ip_charge_86 (v := ir + 0) rfl ?_
              refine r_sipush d_Ip_charge_87 (v := 3000) (by decide) ?_
              refine r_icmp_le (tgt := 104) d_Ip_charge_90 (by decide) (fun c_90 => ?_) (fun c_90 => ?_)
              · exact absurd hg (Int32.not_lt.mpr c_90)
              · refine r_throwW tb_Ip_242_246 sr_Ip_280 d_Ip_charge_93 d_Ip_charge_96 d_Ip_charge_97 d_Ip_charge_100 d_Ip_charge_103 rfl (by decide) (by decide) (Nat.le_of_ble_eq_true rfl) (by omega) (by omega) ?_
                exact ⟨rfl, rfl⟩
        · exact absurd hw (z_b0 c_18)
set_option maxHeartbeats 4000000 in
set_option maxRecDepth 100000 in
theorem C_Ip_charge107N (g : zG) (a pa ta sa gs co fu la gy du re wm ac : Nat) (lab labg gyg dug fub fubg fut1 fut2 fut3 : Nat) (gr T1 T2 T3 g1 g2 : Nat → Int64) (ir i1 i2 : Int32) (io : Int64) (m : Int32) (hw : (1 ≤ m ∧ m ≤ 1000)) (hg : ¬ 3000 < ir + 0) : CT g M_Ip_charge [.ref a, .int 107, .int m] [(a, .inr (11, [.ref pa, .ref ta, .ref sa, .ref gs, .ref co, .ref fu, .ref la, .ref gy, .ref du, .ref re, .ref wm, .ref ac])), (fu, .inr (3, [.ref fub, .ref fut1, .ref fut2, .ref fut3, .long io])), (fub, .inr (6, [.ref fubg, .int ir])), (fubg, .inl (3, 4, .inr (.inl gr))), (fut1, .inl (3, 4, .inr (.inl T1))), (fut2, .inl (3, 4, .inr (.inl T2))), (fut3, .inl (3, 4, .inr (.inl T3))), (gy, .inr (6, [.ref gyg, .int i1])), (gyg, .inl (3, 4, .inr (.inl g1))), (du, .inr (6, [.ref dug, .int i2])), (dug, .inl (3, 4, .inr (.inl g2)))] (fun o cs1 => o = .inl (some (.int (ir + 0))) ∧ cs1 = [(a, .inr (11, [.ref pa, .ref ta, .ref sa, .ref gs, .ref co, .ref fu, .ref la, .ref gy, .ref du, .ref re, .ref wm, .ref ac])), (fu, .inr (3, [.ref fub, .ref fut1, .ref fut2, .ref fut3, .long (io + (0 : Int32).toInt64)])), (fub, .inr (6, [.ref fubg, .int (ir + 0)])), (fubg, .inl (3, 4, .inr (.inl (lfd gr (fun e => chS m 3 e / 10) 4)))), (fut1, .inl (3, 4, .inr (.inl (lfd T1 (fun e => chS m 3 e) 4)))), (fut2, .inl (3, 4, .inr (.inl (lfd T2 (fun e => chS m 3 e - chS m 3 e / 10 * 10) 4)))), (fut3, .inl (3, 4, .inr (.inl T3))), (gy, .inr (6, [.ref gyg, .int i1])), (gyg, .inl (3, 4, .inr (.inl g1))), (du, .inr (6, [.ref dug, .int i2])), (dug, .inl (3, 4, .inr (.inl g2)))]) 1 6 := by
  refine z_of (by decide) rfl (Nat.le_of_ble_eq_true rfl) (fun w0 => ?_)
  refine r_lvE (lv2 := [(0, .ref a), (1, .int 107), (2, .int m)]) rfl ?_
  refine r_ldcWS (own := "Ironpour") (i := 1) (by decide) d_Ip_charge_0 ?_
  refine r_iload_n d_Ip_charge_3 rfl 1 rfl ?_
  refine r_callVS (As := [.int 107]) (rest := []) (csC := []) (is := []) (i := 1) (by first | assumption | decide) rfl ln_Ip_83 w_im_String_indexOf_0 w_se_String_indexOf_0 ok_Ip_charge_String_indexOf_0 d_Ip_charge_4 (C_St_indexOf g 1 (by decide) 107) rfl rfl (Nat.le_of_ble_eq_true rfl) rfl (by decide) (by omega) (by omega) (fun E cs1 hx => ?_) (fun v cs1 hx => ?_)
  · exact absurd hx.1 (by simp)
  · obtain ⟨e1, rfl⟩ := hx
    cases e1
    refine ⟨rfl, ?_⟩
    refine r_st (st2 := [.int (z_ix 1 107)]) rfl ?_
    refine r_cs (cs2 := [(a, .inr (11, [.ref pa, .ref ta, .ref sa, .ref gs, .ref co, .ref fu, .ref la, .ref gy, .ref du, .ref re, .ref wm, .ref ac])), (fu, .inr (3, [.ref fub, .ref fut1, .ref fut2, .ref fut3, .long io])), (fub, .inr (6, [.ref fubg, .int ir])), (fubg, .inl (3, 4, .inr (.inl gr))), (fut1, .inl (3, 4, .inr (.inl T1))), (fut2, .inl (3, 4, .inr (.inl T2))), (fut3, .inl (3, 4, .inr (.inl T3))), (gy, .inr (6, [.ref gyg, .int i1])), (gyg, .inl (3, 4, .inr (.inl g1))), (du, .inr (6, [.ref dug, .int i2])), (dug, .inl (3, 4, .inr (.inl g2)))]) rfl ?_
    refine r_if_lt (tgt := 21) d_Ip_charge_7 (by decide) (fun c_7 => ?_) (fun c_7 => ?_)
    · exact absurd c_7 (by decide)
    · refine r_iload_n d_Ip_charge_10 rfl 2 rfl ?_
      refine r_iconst d_Ip_charge_11 (v := 1) (by decide) ?_
      refine r_sipush d_Ip_charge_12 (v := 1000) (by decide) ?_
      refine r_callS (As := [.int m, .int 1, .int 1000]) (rest := []) (csC := []) (is := []) ln_Ip_203 w_st_Ip_isWithin ok_Ip_charge_Ip_isWithin d_Ip_charge_15 (C_Ip_isWithin g m 1 1000) rfl rfl (Nat.le_of_ble_eq_true rfl) rfl (by decide) (by omega) (by omega) (fun E cs1 hx => ?_) (fun v cs1 hx => ?_)
      · exact absurd hx.1 (by simp)
      · obtain ⟨e1, rfl⟩ := hx
        cases e1
        refine ⟨rfl, ?_⟩
        refine r_st (st2 := [.int (if 1 ≤ m ∧ m ≤ 1000 then 1 else 0)]) rfl ?_
        refine r_cs (cs2 := [(a, .inr (11, [.ref pa, .ref ta, .ref sa, .ref gs, .ref co, .ref fu, .ref la, .ref gy, .ref du, .ref re, .ref wm, .ref ac])), (fu, .inr (3, [.ref fub, .ref fut1, .ref fut2, .ref fut3, .long io])), (fub, .inr (6, [.ref fubg, .int ir])), (fubg, .inl (3, 4, .inr (.inl gr))), (fut1, .inl (3, 4, .inr (.inl T1))), (fut2, .inl (3, 4, .inr (.inl T2))), (fut3, .inl (3, 4, .inr (.inl T3))), (gy, .inr (6, [.ref gyg, .int i1])), (gyg, .inl (3, 4, .inr (.inl g1))), (du, .inr (6, [.ref dug, .int i2])), (dug, .inl (3, 4, .inr (.inl g2)))]) rfl ?_
        refine r_if_ne (tgt := 32) d_Ip_charge_18 (by decide) (fun c_18 => ?_) (fun c_18 => ?_)
        · refine r_aload_n d_Ip_charge_32 rfl 0 rfl ?_
          refine r_iload_n d_Ip_charge_33 rfl 1 rfl ?_
          refine r_callV (As := [.int 107]) (rest := []) (csC := [(a, .inr (11, [.ref pa, .ref ta, .ref sa, .ref gs, .ref co, .ref fu, .ref la, .ref gy, .ref du, .ref re, .ref wm, .ref ac]))]) (is := [0]) (q0 := 0) rfl rfl ln_Ip_265 w_im_Ip_poolOf w_se_Ip_poolOf ok_Ip_charge_Ip_poolOf d_Ip_charge_34 (C_Ip_poolOfO g a pa ta sa gs co fu la gy du re wm ac 107 (by decide) (by decide)) rfl rfl (Nat.le_of_ble_eq_true rfl) rfl (by decide) (by omega) (by omega) (fun E cs1 hx => ?_) (fun v cs1 hx => ?_)
          · exact absurd hx.1 (by simp)
          · obtain ⟨e1, rfl⟩ := hx
            cases e1
            refine ⟨rfl, ?_⟩
            refine r_st (st2 := [.null]) rfl ?_
            refine r_cs (cs2 := [(a, .inr (11, [.ref pa, .ref ta, .ref sa, .ref gs, .ref co, .ref fu, .ref la, .ref gy, .ref du, .ref re, .ref wm, .ref ac])), (fu, .inr (3, [.ref fub, .ref fut1, .ref fut2, .ref fut3, .long io])), (fub, .inr (6, [.ref fubg, .int ir])), (fubg, .inl (3, 4, .inr (.inl gr))), (fut1, .inl (3, 4, .inr (.inl T1))), (fut2, .inl (3, 4, .inr (.inl T2))), (fut3, .inl (3, 4, .inr (.inl T3))), (gy, .inr (6, [.ref gyg, .int i1])), (gyg, .inl (3, 4, .inr (.inl g1))), (du, .inr (6, [.ref dug, .int i2])), (dug, .inl (3, 4, .inr (.inl g2)))]) rfl ?_
            refine r_astore_nN (lv' := [(3, .null), (0, .ref a), (1, .int 107), (2, .int m)]) d_Ip_charge_37 rfl (by decide) rfl ?_
            refine r_aload_nN d_Ip_charge_38 rfl 0 rfl ?_
            refine r_ifnullN (tgt := 61) d_Ip_charge_39 (by decide) ?_
            refine r_iload_n d_Ip_charge_61 rfl 2 rfl ?_
            refine r_bipush d_Ip_charge_62 (v := 107) (by decide) ?_
            refine r_icmp_ne (tgt := 71) d_Ip_charge_64 (by decide) (fun c_64 => ?_) (fun c_64 => ?_)
            · exact absurd c_64 (by decide)
            · refine r_iconst d_Ip_charge_67 (v := 0) (by decide) ?_
              refine r_goto (tgt := 72) d_Ip_charge_68 (by decide) ?_
              refine r_istore (lv' := [(4, .int 0), (3, .null), (0, .ref a), (1, .int 107), (2, .int m)]) d_Ip_charge_72 (by decide) rfl ?_
              refine r_aload_n d_Ip_charge_74 rfl 2 rfl ?_
              refine r_get fs_Ip_43 d_Ip_charge_75 (q0 := 0) rfl rfl ?_
              refine r_get fs_Ip_277 d_Ip_charge_78 (q0 := 1) rfl rfl ?_
              refine r_get fs_Ip_269 d_Ip_charge_81 (q0 := 2) rfl rfl ?_
              refine r_iload d_Ip_charge_84 0 rfl ?_
              refine r_iadd d_Ip_charge_86 (v := ir + 0) rfl ?_
              refine r_sipush d_Ip_charge_87 (v := 3000) (by decide) ?_
              refine r_icmp_le (tgt := 104) d_Ip_charge_90 (by decide) (fun c_90 => ?_) (fun c_90 => ?_)
              · refine r_aload_nN d_Ip_charge_104 rfl 1 rfl ?_
                refine r_ifnullN (tgt := 123) d_Ip_charge_105 (by decide) ?_
                refine r_aload_n d_Ip_charge_123 rfl 2 rfl ?_
                refine r_get fs_Ip_43 d_Ip_charge_124 (q0 := 0) rfl rfl ?_
                refine r_iload_n d_Ip_charge_127 rfl 4 rfl ?_
                refine r_iload d_Ip_charge_128 0 rfl ?_
                refine r_iload_n d_Ip_charge_130 rfl 3 rfl ?_
                refine r_callS (As := [.int 107]) (rest := [.int 0, .int m, .ref fu]) (csC := []) (is := []) ln_Ip_286 w_st_Ip_tenthsOf ok_Ip_charge_Ip_tenthsOf d_Ip_charge_131 (C_Ip_tenthsOf107 g) rfl rfl (Nat.le_of_ble_eq_true rfl) rfl (by decide) (by omega) (by omega) (fun E cs1 hx => ?_) (fun v cs1 hx => ?_)
                · exact absurd hx.1 (by simp)
                · obtain ⟨e1, rfl⟩ := hx
                  cases e1
                  refine ⟨rfl, ?_⟩
                  refine r_st (st2 := [.ref (g.2.2 3), .int 0, .int m, .ref fu]) rfl ?_
                  refine r_cs (cs2 := [(a, .inr (11, [.ref pa, .ref ta, .ref sa, .ref gs, .ref co, .ref fu, .ref la, .ref gy, .ref du, .ref re, .ref wm, .ref ac])), (fu, .inr (3, [.ref fub, .ref fut1, .ref fut2, .ref fut3, .long io])), (fub, .inr (6, [.ref fubg, .int ir])), (fubg, .inl (3, 4, .inr (.inl gr))), (fut1, .inl (3, 4, .inr (.inl T1))), (fut2, .inl (3, 4, .inr (.inl T2))), (fut3, .inl (3, 4, .inr (.inl T3))), (gy, .inr (6, [.ref gyg, .int i1])), (gyg, .inl (3, 4, .inr (.inl g1))), (du, .inr (6, [.ref dug, .int i2])), (dug, .inl (3, 4, .inr (.inl g2)))]) rfl ?_
                  refine r_callV (As := [.int m, .int 0, .ref (g.2.2 3)]) (rest := []) (csC := [(fu, .inr (3, [.ref fub, .ref fut1, .ref fut2, .ref fut3, .long io])), (fub, .inr (6, [.ref fubg, .int ir])), (fubg, .inl (3, 4, .inr (.inl gr))), (fut1, .inl (3, 4, .inr (.inl T1))), (fut2, .inl (3, 4, .inr (.inl T2))), (fut3, .inl (3, 4, .inr (.inl T3)))]) (is := [1, 2, 3, 4, 5, 6]) (q0 := 1) rfl rfl ln_Ip_290 w_im_Fu_takeFromOutside w_se_Fu_takeFromOutside ok_Ip_charge_Fu_takeFromOutside d_Ip_charge_134 (C_Fu_takeFromOutside g fu fub fubg fut1 fut2 fut3 gr T1 T2 T3 ir io m 0 3 (by decide)) rfl rfl (Nat.le_of_ble_eq_true rfl) rfl (by decide) (by omega) (by omega) (fun E cs1 hx => ?_) (fun v cs1 hx => ?_)
                  · exact absurd hx.1 (by simp)
                  · obtain ⟨e1, rfl⟩ := hx
                    cases e1
                    refine ⟨rfl, ?_⟩
                    refine r_st (st2 := []) rfl ?_
                    refine r_cs (cs2 := [(a, .inr (11, [.ref pa, .ref ta, .ref sa, .ref gs, .ref co, .ref fu, .ref la, .ref gy, .ref du, .ref re, .ref wm, .ref ac])), (fu, .inr (3, [.ref fub, .ref fut1, .ref fut2, .ref fut3, .long (io + (0 : Int32).toInt64)])), (fub, .inr (6, [.ref fubg, .int (ir + 0)])), (fubg, .inl (3, 4, .inr (.inl (lfd gr (fun e => chS m 3 e / 10) 4)))), (fut1, .inl (3, 4, .inr (.inl (lfd T1 (fun e => chS m 3 e) 4)))), (fut2, .inl (3, 4, .inr (.inl (lfd T2 (fun e => chS m 3 e - chS m 3 e / 10 * 10) 4)))), (fut3, .inl (3, 4, .inr (.inl T3))), (gy, .inr (6, [.ref gyg, .int i1])), (gyg, .inl (3, 4, .inr (.inl g1))), (du, .inr (6, [.ref dug, .int i2])), (dug, .inl (3, 4, .inr (.inl g2)))]) rfl ?_
                    refine r_aload_n d_Ip_charge_137 rfl 2 rfl ?_
                    refine r_get fs_Ip_43 d_Ip_charge_138 (q0 := 0) rfl rfl ?_
                    refine r_get fs_Ip_277 d_Ip_charge_141 (q0 := 1) rfl rfl ?_
                    refine r_get fs_Ip_269 d_Ip_charge_144 (q0 := 2) rfl rfl ?_
                    refine r_iret d_Ip_charge_147 rfl rfl ?_
                    exact ⟨rfl, rfl⟩
              · exact absurd (Int32.not_le.mp c_90) hg
        · exact absurd hw (z_b0 c_18)
theorem d_Ip_charge_42 : decode prog_1_method_23_code 42 = .ok (.aload_n 3, 1) := zo_45 (zd_b zq_prog_1_method_23_code_1 10 rfl rfl rfl)
theorem d_Ip_charge_43 : decode prog_1_method_23_code 43 = .ok (.getfield 269, 3) := zo_180 (d := 1) (e := 13) (zd_b zq_prog_1_method_23_code_1 11 rfl rfl rfl) (zd_b zq_prog_1_method_23_code_1 12 rfl rfl rfl) (zd_b zq_prog_1_method_23_code_1 13 rfl rfl rfl)
theorem d_Ip_charge_46 : decode prog_1_method_23_code 46 = .ok (.iload_n 2, 1) := zo_28 (zd_b zq_prog_1_method_23_code_1 14 rfl rfl rfl)
theorem d_Ip_charge_47 : decode prog_1_method_23_code 47 = .ok (.if_icmp .ge 14, 3) := zo_162 (d := 0) (e := 14) (zd_b zq_prog_1_method_23_code_1 15 rfl rfl rfl) (zd_b zq_prog_1_method_23_code_1 16 rfl rfl rfl) (zd_b zq_prog_1_method_23_code_1 17 rfl rfl rfl) (by decide +kernel)
theorem d_Ip_charge_50 : decode prog_1_method_23_code 50 = .ok (.new 272, 3) := zo_187 (d := 1) (e := 16) (zd_b zq_prog_1_method_23_code_1 18 rfl rfl rfl) (zd_b zq_prog_1_method_23_code_1 19 rfl rfl rfl) (zd_b zq_prog_1_method_23_code_1 20 rfl rfl rfl)
theorem sr_Ip_274 : Cond.stringRef "Ironpour" 274 "the pool has not so much" ∈ lw_tbl := z_tb5 (i := 37) rfl
theorem d_Ip_charge_53 : decode prog_1_method_23_code 53 = .ok (.dup, 1) := zo_89 (zd_b zq_prog_1_method_23_code_1 21 rfl rfl rfl)
theorem d_Ip_charge_54 : decode prog_1_method_23_code 54 = .ok (.ldc_w 274, 3) := zo_19 (d := 1) (e := 18) (zd_b zq_prog_1_method_23_code_1 22 rfl rfl rfl) (zd_b zq_prog_1_method_23_code_1 23 rfl rfl rfl) (zd_b zq_prog_1_method_23_code_1 24 rfl rfl rfl)
theorem d_Ip_charge_57 : decode prog_1_method_23_code 57 = .ok (.invokespecial 276, 3) := zo_183 (d := 1) (e := 20) (zd_b zq_prog_1_method_23_code_1 25 rfl rfl rfl) (zd_b zq_prog_1_method_23_code_1 26 rfl rfl rfl) (zd_b zq_prog_1_method_23_code_1 27 rfl rfl rfl)
theorem d_Ip_charge_60 : decode prog_1_method_23_code 60 = .ok (.athrow, 1) := zo_191 (zd_b zq_prog_1_method_23_code_1 28 rfl rfl rfl)
set_option maxHeartbeats 4000000 in
set_option maxRecDepth 100000 in
theorem C_Ip_charge103F (g : zG) (a pa ta sa gs co fu la gy du re wm ac : Nat) (lab labg gyg dug fub fubg fut1 fut2 fut3 : Nat) (gr T1 T2 T3 g1 g2 : Nat → Int64) (ir i1 i2 : Int32) (io : Int64) (m : Int32) (hw : (1 ≤ m ∧ m ≤ 1000)) (hf : i1 < m) : CT g M_Ip_charge [.ref a, .int 103, .int m] [(a, .inr (11, [.ref pa, .ref ta, .ref sa, .ref gs, .ref co, .ref fu, .ref la, .ref gy, .ref du, .ref re, .ref wm, .ref ac])), (fu, .inr (3, [.ref fub, .ref fut1, .ref fut2, .ref fut3, .long io])), (fub, .inr (6, [.ref fubg, .int ir])), (fubg, .inl (3, 4, .inr (.inl gr))), (fut1, .inl (3, 4, .inr (.inl T1))), (fut2, .inl (3, 4, .inr (.inl T2))), (fut3, .inl (3, 4, .inr (.inl T3))), (gy, .inr (6, [.ref gyg, .int i1])), (gyg, .inl (3, 4, .inr (.inl g1))), (du, .inr (6, [.ref dug, .int i2])), (dug, .inl (3, 4, .inr (.inl g2)))] (fun o cs1 => o = .inr "java/lang/UnsupportedOperationException" ∧ cs1 = [(a, .inr (11, [.ref pa, .ref ta, .ref sa, .ref gs, .ref co, .ref fu, .ref la, .ref gy, .ref du, .ref re, .ref wm, .ref ac])), (fu, .inr (3, [.ref fub, .ref fut1, .ref fut2, .ref fut3, .long io])), (fub, .inr (6, [.ref fubg, .int ir])), (fubg, .inl (3, 4, .inr (.inl gr))), (fut1, .inl (3, 4, .inr (.inl T1))), (fut2, .inl (3, 4, .inr (.inl T2))), (fut3, .inl (3, 4, .inr (.inl T3))), (gy, .inr (6, [.ref gyg, .int i1])), (gyg, .inl (3, 4, .inr (.inl g1))), (du, .inr (6, [.ref dug, .int i2])), (dug, .inl (3, 4, .inr (.inl g2)))]) 1 6 := by
  refine z_of (by decide) rfl (Nat.le_of_ble_eq_true rfl) (fun w0 => ?_)
  refine r_lvE (lv2 := [(0, .ref a), (1, .int 103), (2, .int m)]) rfl ?_
  refine r_ldcWS (own := "Ironpour") (i := 1) (by decide) d_Ip_charge_0 ?_
  refine r_iload_n d_Ip_charge_3 rfl 1 rfl ?_
  refine r_callVS (As := [.int 103]) (rest := []) (csC := []) (is := []) (i := 1) (by first | assumption | decide) rfl ln_Ip_83 w_im_String_indexOf_0 w_se_String_indexOf_0 ok_Ip_charge_String_indexOf_0 d_Ip_charge_4 (C_St_indexOf g 1 (by decide) 103) rfl rfl (Nat.le_of_ble_eq_true rfl) rfl (by decide) (by omega) (by omega) (fun E cs1 hx => ?_) (fun v cs1 hx => ?_)
  · exact absurd hx.1 (by simp)
  · obtain ⟨e1, rfl⟩ := hx
    cases e1
    refine ⟨rfl, ?_⟩
    refine r_st (st2 := [.int (z_ix 1 103)]) rfl ?_
    refine r_cs (cs2 := [(a, .inr (11, [.ref pa, .ref ta, .ref sa, .ref gs, .ref co, .ref fu, .ref la, .ref gy, .ref du, .ref re, .ref wm, .ref ac])), (fu, .inr (3, [.ref fub, .ref fut1, .ref fut2, .ref fut3, .long io])), (fub, .inr (6, [.ref fubg, .int ir])), (fubg, .inl (3, 4, .inr (.inl gr))), (fut1, .inl (3, 4, .inr (.inl T1))), (fut2, .inl (3, 4, .inr (.inl T2))), (fut3, .inl (3, 4, .inr (.inl T3))), (gy, .inr (6, [.ref gyg, .int i1])), (gyg, .inl (3, 4, .inr (.inl g1))), (du, .inr (6, [.ref dug, .int i2])), (dug, .inl (3, 4, .inr (.inl g2)))]) rfl ?_
    refine r_if_lt (tgt := 21) d_Ip_charge_7 (by decide) (fun c_7 => ?_) (fun c_7 => ?_)
    · exact absurd c_7 (by decide)
    · refine r_iload_n d_Ip_charge_10 rfl 2 rfl ?_
      refine r_iconst d_Ip_charge_11 (v := 1) (by decide) ?_
      refine r_sipush d_Ip_charge_12 (v := 1000) (by decide) ?_
      refine r_callS (As := [.int m, .int 1, .int 1000]) (rest := []) (csC := []) (is := []) ln_Ip_203 w_st_Ip_isWithin ok_Ip_charge_Ip_isWithin d_Ip_charge_15 (C_Ip_isWithin g m 1 1000) rfl rfl (Nat.le_of_ble_eq_true rfl) rfl (by decide) (by omega) (by omega) (fun E cs1 hx => ?_) (fun v cs1 hx => ?_)
      · exact absurd hx.1 (by simp)
      · obtain ⟨e1, rfl⟩ := hx
        cases e1
        refine ⟨rfl, ?_⟩
        refine r_st (st2 := [.int (if 1 ≤ m ∧ m ≤ 1000 then 1 else 0)]) rfl ?_
        refine r_cs (cs2 := [(a, .inr (11, [.ref pa, .ref ta, .ref sa, .ref gs, .ref co, .ref fu, .ref la, .ref gy, .ref du, .ref re, .ref wm, .ref ac])), (fu, .inr (3, [.ref fub, .ref fut1, .ref fut2, .ref fut3, .long io])), (fub, .inr (6, [.ref fubg, .int ir])), (fubg, .inl (3, 4, .inr (.inl gr))), (fut1, .inl (3, 4, .inr (.inl T1))), (fut2, .inl (3, 4, .inr (.inl T2))), (fut3, .inl (3, 4, .inr (.inl T3))), (gy, .inr (6, [.ref gyg, .int i1])), (gyg, .inl (3, 4, .inr (.inl g1))), (du, .inr (6, [.ref dug, .int i2])), (dug, .inl (3, 4, .inr (.inl g2)))]) rfl ?_
        refine r_if_ne (tgt := 32) d_Ip_charge_18 (by decide) (fun c_18 => ?_) (fun c_18 => ?_)
        · refine r_aload_n d_Ip_charge_32 rfl 0 rfl ?_
          refine r_iload_n d_Ip_charge_33 rfl 1 rfl ?_
          refine r_callV (As := [.int 103]) (rest := []) (csC := [(a, .inr (11, [.ref pa, .ref ta, .ref sa, .ref gs, .ref co, .ref fu, .ref la, .ref gy, .ref du, .ref re, .ref wm, .ref ac]))]) (is := [0]) (q0 := 0) rfl rfl ln_Ip_265 w_im_Ip_poolOf w_se_Ip_poolOf ok_Ip_charge_Ip_poolOf d_Ip_charge_34 (C_Ip_poolOfG g a pa ta sa gs co fu la gy du re wm ac) rfl rfl (Nat.le_of_ble_eq_true rfl) rfl (by decide) (by omega) (by omega) (fun E cs1 hx => ?_) (fun v cs1 hx => ?_)
          · exact absurd hx.1 (by simp)
          · obtain ⟨e1, rfl⟩ := hx
            cases e1
            refine ⟨rfl, ?_⟩
            refine r_st (st2 := [.ref gy]) rfl ?_
            refine r_cs (cs2 := [(a, .inr (11, [.ref pa, .ref ta, .ref sa, .ref gs, .ref co, .ref fu, .ref la, .ref gy, .ref du, .ref re, .ref wm, .ref ac])), (fu, .inr (3, [.ref fub, .ref fut1, .ref fut2, .ref fut3, .long io])), (fub, .inr (6, [.ref fubg, .int ir])), (fubg, .inl (3, 4, .inr (.inl gr))), (fut1, .inl (3, 4, .inr (.inl T1))), (fut2, .inl (3, 4, .inr (.inl T2))), (fut3, .inl (3, 4, .inr (.inl T3))), (gy, .inr (6, [.ref gyg, .int i1])), (gyg, .inl (3, 4, .inr (.inl g1))), (du, .inr (6, [.ref dug, .int i2])), (dug, .inl (3, 4, .inr (.inl g2)))]) rfl ?_
            refine r_astore_n (lv' := [(3, .ref gy), (0, .ref a), (1, .int 103), (2, .int m)]) d_Ip_charge_37 rfl (by decide) rfl ?_
            refine r_aload_n d_Ip_charge_38 rfl 0 rfl ?_
            refine r_ifnull d_Ip_charge_39 ?_
            refine r_aload_n d_Ip_charge_42 rfl 0 rfl ?_
            refine r_get fs_Ip_269 d_Ip_charge_43 (q0 := 7) rfl rfl ?_
            refine r_iload_n d_Ip_charge_46 rfl 3 rfl ?_
            refine r_icmp_ge (tgt := 61) d_Ip_charge_47 (by decide) (fun c_47 => ?_) (fun c_47 => ?_)
            · exact absurd hf (Int32.not_lt.mpr c_47)
            · refine r_throwW tb_Ip_272_276 sr_Ip_274 d_Ip_charge_50 d_Ip_charge_53 d_Ip_charge_54 d_Ip_charge_57 d_Ip_charge_60 rfl (by decide) (by decide) (Nat.le_of_ble_eq_true rfl) (by omega) (by omega) ?_
              exact ⟨rfl, rfl⟩
        · exact absurd hw (z_b0 c_18)
set_option maxHeartbeats 4000000 in
set_option maxRecDepth 100000 in
theorem C_Ip_charge103G (g : zG) (a pa ta sa gs co fu la gy du re wm ac : Nat) (lab labg gyg dug fub fubg fut1 fut2 fut3 : Nat) (gr T1 T2 T3 g1 g2 : Nat → Int64) (ir i1 i2 : Int32) (io : Int64) (m : Int32) (hw : (1 ≤ m ∧ m ≤ 1000)) (hf : ¬ i1 < m) (hg : 3000 < ir + m) : CT g M_Ip_charge [.ref a, .int 103, .int m] [(a, .inr (11, [.ref pa, .ref ta, .ref sa, .ref gs, .ref co, .ref fu, .ref la, .ref gy, .ref du, .ref re, .ref wm, .ref ac])), (fu, .inr (3, [.ref fub, .ref fut1, .ref fut2, .ref fut3, .long io])), (fub, .inr (6, [.ref fubg, .int ir])), (fubg, .inl (3, 4, .inr (.inl gr))), (fut1, .inl (3, 4, .inr (.inl T1))), (fut2, .inl (3, 4, .inr (.inl T2))), (fut3, .inl (3, 4, .inr (.inl T3))), (gy, .inr (6, [.ref gyg, .int i1])), (gyg, .inl (3, 4, .inr (.inl g1))), (du, .inr (6, [.ref dug, .int i2])), (dug, .inl (3, 4, .inr (.inl g2)))] (fun o cs1 => o = .inr "java/lang/IllegalStateException" ∧ cs1 = [(a, .inr (11, [.ref pa, .ref ta, .ref sa, .ref gs, .ref co, .ref fu, .ref la, .ref gy, .ref du, .ref re, .ref wm, .ref ac])), (fu, .inr (3, [.ref fub, .ref fut1, .ref fut2, .ref fut3, .long io])), (fub, .inr (6, [.ref fubg, .int ir])), (fubg, .inl (3, 4, .inr (.inl gr))), (fut1, .inl (3, 4, .inr (.inl T1))), (fut2, .inl (3, 4, .inr (.inl T2))), (fut3, .inl (3, 4, .inr (.inl T3))), (gy, .inr (6, [.ref gyg, .int i1])), (gyg, .inl (3, 4, .inr (.inl g1))), (du, .inr (6, [.ref dug, .int i2])), (dug, .inl (3, 4, .inr (.inl g2)))]) 1 6 := by
  refine z_of (by decide) rfl (Nat.le_of_ble_eq_true rfl) (fun w0 => ?_)
  refine r_lvE (lv2 := [(0, .ref a), (1, .int 103), (2, .int m)]) rfl ?_
  refine r_ldcWS (own := "Ironpour") (i := 1) (by decide) d_Ip_charge_0 ?_
  refine r_iload_n d_Ip_charge_3 rfl 1 rfl ?_
  refine r_callVS (As := [.int 103]) (rest := []) (csC := []) (is := []) (i := 1) (by first | assumption | decide) rfl ln_Ip_83 w_im_String_indexOf_0 w_se_String_indexOf_0 ok_Ip_charge_String_indexOf_0 d_Ip_charge_4 (C_St_indexOf g 1 (by decide) 103) rfl rfl (Nat.le_of_ble_eq_true rfl) rfl (by decide) (by omega) (by omega) (fun E cs1 hx => ?_) (fun v cs1 hx => ?_)
  · exact absurd hx.1 (by simp)
  · obtain ⟨e1, rfl⟩ := hx
    cases e1
    refine ⟨rfl, ?_⟩
    refine r_st (st2 := [.int (z_ix 1 103)]) rfl ?_
    refine r_cs (cs2 := [(a, .inr (11, [.ref pa, .ref ta, .ref sa, .ref gs, .ref co, .ref fu, .ref la, .ref gy, .ref du, .ref re, .ref wm, .ref ac])), (fu, .inr (3, [.ref fub, .ref fut1, .ref fut2, .ref fut3, .long io])), (fub, .inr (6, [.ref fubg, .int ir])), (fubg, .inl (3, 4, .inr (.inl gr))), (fut1, .inl (3, 4, .inr (.inl T1))), (fut2, .inl (3, 4, .inr (.inl T2))), (fut3, .inl (3, 4, .inr (.inl T3))), (gy, .inr (6, [.ref gyg, .int i1])), (gyg, .inl (3, 4, .inr (.inl g1))), (du, .inr (6, [.ref dug, .int i2])), (dug, .inl (3, 4, .inr (.inl g2)))]) rfl ?_
    refine r_if_lt (tgt := 21) d_Ip_charge_7 (by decide) (fun c_7 => ?_) (fun c_7 => ?_)
    · exact absurd c_7 (by decide)
    · refine r_iload_n d_Ip_charge_10 rfl 2 rfl ?_
      refine r_iconst d_Ip_charge_11 (v := 1) (by decide) ?_
      refine r_sipush d_Ip_charge_12 (v := 1000) (by decide) ?_
      refine r_callS (As := [.int m, .int 1, .int 1000]) (rest := []) (csC := []) (is := []) ln_Ip_203 w_st_Ip_isWithin ok_Ip_charge_Ip_isWithin d_Ip_charge_15 (C_Ip_isWithin g m 1 1000) rfl rfl (Nat.le_of_ble_eq_true rfl) rfl (by decide) (by omega) (by omega) (fun E cs1 hx => ?_) (fun v cs1 hx => ?_)
      · exact absurd hx.1 (by simp)
      · obtain ⟨e1, rfl⟩ := hx
        cases e1
        refine ⟨rfl, ?_⟩
        refine r_st (st2 := [.int (if 1 ≤ m ∧ m ≤ 1000 then 1 else 0)]) rfl ?_
        refine r_cs (cs2 := [(a, .inr (11, [.ref pa, .ref ta, .ref sa, .ref gs, .ref co, .ref fu, .ref la, .ref gy, .ref du, .ref re, .ref wm, .ref ac])), (fu, .inr (3, [.ref fub, .ref fut1, .ref fut2, .ref fut3, .long io])), (fub, .inr (6, [.ref fubg, .int ir])), (fubg, .inl (3, 4, .inr (.inl gr))), (fut1, .inl (3, 4, .inr (.inl T1))), (fut2, .inl (3, 4, .inr (.inl T2))), (fut3, .inl (3, 4, .inr (.inl T3))), (gy, .inr (6, [.ref gyg, .int i1])), (gyg, .inl (3, 4, .inr (.inl g1))), (du, .inr (6, [.ref dug, .int i2])), (dug, .inl (3, 4, .inr (.inl g2)))]) rfl ?_
        refine r_if_ne (tgt := 32) d_Ip_charge_18 (by decide) (fun c_18 => ?_) (fun c_18 => ?_)
        · refine r_aload_n d_Ip_charge_32 rfl 0 rfl ?_
          refine r_iload_n d_Ip_charge_33 rfl 1 rfl ?_
          refine r_callV (As := [.int 103]) (rest := []) (csC := [(a, .inr (11, [.ref pa, .ref ta, .ref sa, .ref gs, .ref co, .ref fu, .ref la, .ref gy, .ref du, .ref re, .ref wm, .ref ac]))]) (is := [0]) (q0 := 0) rfl rfl ln_Ip_265 w_im_Ip_poolOf w_se_Ip_poolOf ok_Ip_charge_Ip_poolOf d_Ip_charge_34 (C_Ip_poolOfG g a pa ta sa gs co fu la gy du re wm ac) rfl rfl (Nat.le_of_ble_eq_true rfl) rfl (by decide) (by omega) (by omega) (fun E cs1 hx => ?_) (fun v cs1 hx => ?_)
          · exact absurd hx.1 (by simp)
          · obtain ⟨e1, rfl⟩ := hx
            cases e1
            refine ⟨rfl, ?_⟩
            refine r_st (st2 := [.ref gy]) rfl ?_
            refine r_cs (cs2 := [(a, .inr (11, [.ref pa, .ref ta, .ref sa, .ref gs, .ref co, .ref fu, .ref la, .ref gy, .ref du, .ref re, .ref wm, .ref ac])), (fu, .inr (3, [.ref fub, .ref fut1, .ref fut2, .ref fut3, .long io])), (fub, .inr (6, [.ref fubg, .int ir])), (fubg, .inl (3, 4, .inr (.inl gr))), (fut1, .inl (3, 4, .inr (.inl T1))), (fut2, .inl (3, 4, .inr (.inl T2))), (fut3, .inl (3, 4, .inr (.inl T3))), (gy, .inr (6, [.ref gyg, .int i1])), (gyg, .inl (3, 4, .inr (.inl g1))), (du, .inr (6, [.ref dug, .int i2])), (dug, .inl (3, 4, .inr (.inl g2)))]) rfl ?_
            refine r_astore_n (lv' := [(3, .ref gy), (0, .ref a), (1, .int 103), (2, .int m)]) d_Ip_charge_37 rfl (by decide) rfl ?_
            refine r_aload_n d_Ip_charge_38 rfl 0 rfl ?_
            refine r_ifnull d_Ip_charge_39 ?_
            refine r_aload_n d_Ip_charge_42 rfl 0 rfl ?_
            refine r_get fs_Ip_269 d_Ip_charge_43 (q0 := 7) rfl rfl ?_
            refine r_iload_n d_Ip_charge_46 rfl 3 rfl ?_
            refine r_icmp_ge (tgt := 61) d_Ip_charge_47 (by decide) (fun c_47 => ?_) (fun c_47 => ?_)
            · refine r_iload_n d_Ip_charge_61 rfl 2 rfl ?_
              refine r_bipush d_Ip_charge_62 (v := 107) (by decide) ?_
              refine r_icmp_ne (tgt := 71) d_Ip_charge_64 (by decide) (fun c_64 => ?_) (fun c_64 => ?_)
              · refine r_iload_n d_Ip_charge_71 rfl 3 rfl ?_
                refine r_istore (lv' := [(4, .int m), (3, .ref gy), (0, .ref a), (1, .int 103), (2, .int m)]) d_Ip_charge_72 (by decide) rfl ?_
                refine r_aload_n d_Ip_charge_74 rfl 2 rfl ?_
                refine r_get fs_Ip_43 d_Ip_charge_75 (q0 := 0) rfl rfl ?_
                refine r_get fs_Ip_277 d_Ip_charge_78 (q0 := 1) rfl rfl ?_
                refine r_get fs_Ip_269 d_Ip_charge_81 (q0 := 2) rfl rfl ?_
                refine r_iload d_Ip_charge_84 0 rfl ?_
                refine r_iadd d_Ip_charge_86 (v := ir + m) rfl ?_
                refine r_sipush d_Ip_charge_87 (v := 3000) (by decide) ?_
                refine r_icmp_le (tgt := 104) d_Ip_charge_90 (by decide) (fun c_90 => ?_) (fun c_90 => ?_)
                · exact absurd hg (Int32.not_lt.mpr c_90)
                · refine r_throwW tb_Ip_242_246 sr_Ip_280 d_Ip_charge_93 d_Ip_charge_96 d_Ip_charge_97 d_Ip_charge_100 d_Ip_charge_103 rfl (by decide) (by decide) (Nat.le_of_ble_eq_true rfl) (by omega) (by omega) ?_
                  exact ⟨rfl, rfl⟩
              · exact absurd c_64 (by decide)
            · exact absurd (Int32.not_le.mp c_47) hf
        · exact absurd hw (z_b0 c_18)
theorem d_Ip_charge_108 : decode prog_1_method_23_code 108 = .ok (.aload_n 3, 1) := zo_45 (zd_b zq_prog_1_method_23_code_3 12 rfl rfl rfl)
theorem d_Ip_charge_109 : decode prog_1_method_23_code 109 = .ok (.aload_n 0, 1) := zo_42 (zd_b zq_prog_1_method_23_code_3 13 rfl rfl rfl)
theorem d_Ip_charge_110 : decode prog_1_method_23_code 110 = .ok (.getfield 43, 3) := zo_180 (d := 0) (e := 43) (zd_b zq_prog_1_method_23_code_3 14 rfl rfl rfl) (zd_b zq_prog_1_method_23_code_3 15 rfl rfl rfl) (zd_b zq_prog_1_method_23_code_3 16 rfl rfl rfl)
theorem d_Ip_charge_113 : decode prog_1_method_23_code 113 = .ok (.getfield 277, 3) := zo_180 (d := 1) (e := 21) (zd_b zq_prog_1_method_23_code_3 17 rfl rfl rfl) (zd_b zq_prog_1_method_23_code_3 18 rfl rfl rfl) (zd_b zq_prog_1_method_23_code_3 19 rfl rfl rfl)
theorem d_Ip_charge_116 : decode prog_1_method_23_code 116 = .ok (.iload_n 2, 1) := zo_28 (zd_b zq_prog_1_method_23_code_3 20 rfl rfl rfl)
theorem d_Ip_charge_117 : decode prog_1_method_23_code 117 = .ok (.invokevirtual 282, 3) := zo_182 (d := 1) (e := 26) (zd_b zq_prog_1_method_23_code_3 21 rfl rfl rfl) (zd_b zq_prog_1_method_23_code_3 22 rfl rfl rfl) (zd_b zq_prog_1_method_23_code_3 23 rfl rfl rfl)
theorem ok_Ip_charge_Me_moveTo : z_ok M_Ip_charge M_Me_moveTo 2 := ⟨z_mj5 (i := 48) rfl (by decide +kernel), rfl, ⟨by decide +kernel, by decide +kernel, by decide +kernel⟩, ⟨by decide, by decide⟩, z_mj1 (i := 8) rfl (by decide +kernel), rfl⟩
theorem d_Ip_charge_120 : decode prog_1_method_23_code 120 = .ok (.goto 17, 3) := zo_167 (d := 0) (e := 17) (zd_b zq_prog_1_method_23_code_3 24 rfl rfl rfl) (zd_b zq_prog_1_method_23_code_3 25 rfl rfl rfl) (zd_b zq_prog_1_method_23_code_3 26 rfl rfl rfl) (by decide +kernel)
set_option maxHeartbeats 4000000 in
set_option maxRecDepth 100000 in
theorem C_Ip_charge103N (g : zG) (a pa ta sa gs co fu la gy du re wm ac : Nat) (lab labg gyg dug fub fubg fut1 fut2 fut3 : Nat) (gr T1 T2 T3 g1 g2 : Nat → Int64) (ir i1 i2 : Int32) (io : Int64) (m : Int32) (hw : (1 ≤ m ∧ m ≤ 1000)) (hf : ¬ i1 < m) (hg : ¬ 3000 < ir + m) (h0 : ¬ i1 ≤ 0) : CT g M_Ip_charge [.ref a, .int 103, .int m] [(a, .inr (11, [.ref pa, .ref ta, .ref sa, .ref gs, .ref co, .ref fu, .ref la, .ref gy, .ref du, .ref re, .ref wm, .ref ac])), (fu, .inr (3, [.ref fub, .ref fut1, .ref fut2, .ref fut3, .long io])), (fub, .inr (6, [.ref fubg, .int ir])), (fubg, .inl (3, 4, .inr (.inl gr))), (fut1, .inl (3, 4, .inr (.inl T1))), (fut2, .inl (3, 4, .inr (.inl T2))), (fut3, .inl (3, 4, .inr (.inl T3))), (gy, .inr (6, [.ref gyg, .int i1])), (gyg, .inl (3, 4, .inr (.inl g1))), (du, .inr (6, [.ref dug, .int i2])), (dug, .inl (3, 4, .inr (.inl g2)))] (fun o cs1 => o = .inl (some (.int (ir + m))) ∧ cs1 = [(a, .inr (11, [.ref pa, .ref ta, .ref sa, .ref gs, .ref co, .ref fu, .ref la, .ref gy, .ref du, .ref re, .ref wm, .ref ac])), (fu, .inr (3, [.ref fub, .ref fut1, .ref fut2, .ref fut3, .long io])), (fub, .inr (6, [.ref fubg, .int (ir + m)])), (fubg, .inl (3, 4, .inr (.inl (mvT g1 m i1 gr 4)))), (fut1, .inl (3, 4, .inr (.inl T1))), (fut2, .inl (3, 4, .inr (.inl T2))), (fut3, .inl (3, 4, .inr (.inl T3))), (gy, .inr (6, [.ref gyg, .int (i1 - m)])), (gyg, .inl (3, 4, .inr (.inl (mvS g1 m i1 4)))), (du, .inr (6, [.ref dug, .int i2])), (dug, .inl (3, 4, .inr (.inl g2)))]) 1 6 := by
  refine z_of (by decide) rfl (Nat.le_of_ble_eq_true rfl) (fun w0 => ?_)
  refine r_lvE (lv2 := [(0, .ref a), (1, .int 103), (2, .int m)]) rfl ?_
  refine r_ldcWS (own := "Ironpour") (i := 1) (by decide) d_Ip_charge_0 ?_
  refine r_iload_n d_Ip_charge_3 rfl 1 rfl ?_
  refine r_callVS (As := [.int 103]) (rest := []) (csC := []) (is := []) (i := 1) (by first | assumption | decide) rfl ln_Ip_83 w_im_String_indexOf_0 w_se_String_indexOf_0 ok_Ip_charge_String_indexOf_0 d_Ip_charge_4 (C_St_indexOf g 1 (by decide) 103) rfl rfl (Nat.le_of_ble_eq_true rfl) rfl (by decide) (by omega) (by omega) (fun E cs1 hx => ?_) (fun v cs1 hx => ?_)
  · exact absurd hx.1 (by simp)
  · obtain ⟨e1, rfl⟩ := hx
    cases e1
    refine ⟨rfl, ?_⟩
    refine r_st (st2 := [.int (z_ix 1 103)]) rfl ?_
    refine r_cs (cs2 := [(a, .inr (11, [.ref pa, .ref ta, .ref sa, .ref gs, .ref co, .ref fu, .ref la, .ref gy, .ref du, .ref re, .ref wm, .ref ac])), (fu, .inr (3, [.ref fub, .ref fut1, .ref fut2, .ref fut3, .long io])), (fub, .inr (6, [.ref fubg, .int ir])), (fubg, .inl (3, 4, .inr (.inl gr))), (fut1, .inl (3, 4, .inr (.inl T1))), (fut2, .inl (3, 4, .inr (.inl T2))), (fut3, .inl (3, 4, .inr (.inl T3))), (gy, .inr (6, [.ref gyg, .int i1])), (gyg, .inl (3, 4, .inr (.inl g1))), (du, .inr (6, [.ref dug, .int i2])), (dug, .inl (3, 4, .inr (.inl g2)))]) rfl ?_
    refine r_if_lt (tgt := 21) d_Ip_charge_7 (by decide) (fun c_7 => ?_) (fun c_7 => ?_)
    · exact absurd c_7 (by decide)
    · refine r_iload_n d_Ip_charge_10 rfl 2 rfl ?_
      refine r_iconst d_Ip_charge_11 (v := 1) (by decide) ?_
      refine r_sipush d_Ip_charge_12 (v := 1000) (by decide) ?_
      refine r_callS (As := [.int m, .int 1, .int 1000]) (rest := []) (csC := []) (is := []) ln_Ip_203 w_st_Ip_isWithin ok_Ip_charge_Ip_isWithin d_Ip_charge_15 (C_Ip_isWithin g m 1 1000) rfl rfl (Nat.le_of_ble_eq_true rfl) rfl (by decide) (by omega) (by omega) (fun E cs1 hx => ?_) (fun v cs1 hx => ?_)
      · exact absurd hx.1 (by simp)
      · obtain ⟨e1, rfl⟩ := hx
        cases e1
        refine ⟨rfl, ?_⟩
        refine r_st (st2 := [.int (if 1 ≤ m ∧ m ≤ 1000 then 1 else 0)]) rfl ?_
        refine r_cs (cs2 := [(a, .inr (11, [.ref pa, .ref ta, .ref sa, .ref gs, .ref co, .ref fu, .ref la, .ref gy, .ref du, .ref re, .ref wm, .ref ac])), (fu, .inr (3, [.ref fub, .ref fut1, .ref fut2, .ref fut3, .long io])), (fub, .inr (6, [.ref fubg, .int ir])), (fubg, .inl (3, 4, .inr (.inl gr))), (fut1, .inl (3, 4, .inr (.inl T1))), (fut2, .inl (3, 4, .inr (.inl T2))), (fut3, .inl (3, 4, .inr (.inl T3))), (gy, .inr (6, [.ref gyg, .int i1])), (gyg, .inl (3, 4, .inr (.inl g1))), (du, .inr (6, [.ref dug, .int i2])), (dug, .inl (3, 4, .inr (.inl g2)))]) rfl ?_
        refine r_if_ne (tgt := 32) d_Ip_charge_18 (by decide) (fun c_18 => ?_) (fun c_18 => ?_)
        · refine r_aload_n d_Ip_charge_32 rfl 0 rfl ?_
          refine r_iload_n d_Ip_charge_33 rfl 1 rfl ?_
          refine r_callV (As := [.int 103]) (rest := []) (csC := [(a, .inr (11, [.ref pa, .ref ta, .ref sa, .ref gs, .ref co, .ref fu, .ref la, .ref gy, .ref du, .ref re, .ref wm, .ref ac]))]) (is := [0]) (q0 := 0) rfl rfl ln_Ip_265 w_im_Ip_poolOf w_se_Ip_poolOf ok_Ip_charge_Ip_poolOf d_Ip_charge_34 (C_Ip_poolOfG g a pa ta sa gs co fu la gy du re wm ac) rfl rfl (Nat.le_of_ble_eq_true rfl) rfl (by decide) (by omega) (by omega) (fun E cs1 hx => ?_) (fun v cs1 hx => ?_)
          · exact absurd hx.1 (by simp)
          · obtain ⟨e1, rfl⟩ := hx
            cases e1
            refine ⟨rfl, ?_⟩
            refine r_st (st2 := [.ref gy]) rfl ?_
            refine r_cs (cs2 := [(a, .inr (11, [.ref pa, .ref ta, .ref sa, .ref gs, .ref co, .ref fu, .ref la, .ref gy, .ref du, .ref re, .ref wm, .ref ac])), (fu, .inr (3, [.ref fub, .ref fut1, .ref fut2, .ref fut3, .long io])), (fub, .inr (6, [.ref fubg, .int ir])), (fubg, .inl (3, 4, .inr (.inl gr))), (fut1, .inl (3, 4, .inr (.inl T1))), (fut2, .inl (3, 4, .inr (.inl T2))), (fut3, .inl (3, 4, .inr (.inl T3))), (gy, .inr (6, [.ref gyg, .int i1])), (gyg, .inl (3, 4, .inr (.inl g1))), (du, .inr (6, [.ref dug, .int i2])), (dug, .inl (3, 4, .inr (.inl g2)))]) rfl ?_
            refine r_astore_n (lv' := [(3, .ref gy), (0, .ref a), (1, .int 103), (2, .int m)]) d_Ip_charge_37 rfl (by decide) rfl ?_
            refine r_aload_n d_Ip_charge_38 rfl 0 rfl ?_
            refine r_ifnull d_Ip_charge_39 ?_
            refine r_aload_n d_Ip_charge_42 rfl 0 rfl ?_
            refine r_get fs_Ip_269 d_Ip_charge_43 (q0 := 7) rfl rfl ?_
            refine r_iload_n d_Ip_charge_46 rfl 3 rfl ?_
            refine r_icmp_ge (tgt := 61) d_Ip_charge_47 (by decide) (fun c_47 => ?_) (fun c_47 => ?_)
            · refine r_iload_n d_Ip_charge_61 rfl 2 rfl ?_
              refine r_bipush d_Ip_charge_62 (v := 107) (by decide) ?_
              refine r_icmp_ne (tgt := 71) d_Ip_charge_64 (by decide) (fun c_64 => ?_) (fun c_64 => ?_)
              · refine r_iload_n d_Ip_charge_71 rfl 3 rfl ?_
                refine r_istore (lv' := [(4, .int m), (3, .ref gy), (0, .ref a), (1, .int 103), (2, .int m)]) d_Ip_charge_72 (by decide) rfl ?_
                refine r_aload_n d_Ip_charge_74 rfl 2 rfl ?_
                refine r_get fs_Ip_43 d_Ip_charge_75 (q0 := 0) rfl rfl ?_
                refine r_get fs_Ip_277 d_Ip_charge_78 (q0 := 1) rfl rfl ?_
                refine r_get fs_Ip_269 d_Ip_charge_81 (q0 := 2) rfl rfl ?_
                refine r_iload d_Ip_charge_84 0 rfl ?_
                refine r_iadd d_Ip_charge_86 (v := ir + m) rfl ?_
                refine r_sipush d_Ip_charge_87 (v := 3000) (by decide) ?_
                refine r_icmp_le (tgt := 104) d_Ip_charge_90 (by decide) (fun c_90 => ?_) (fun c_90 => ?_)
                · refine r_aload_n d_Ip_charge_104 rfl 1 rfl ?_
                  refine r_ifnull d_Ip_charge_105 ?_
                  refine r_aload_n d_Ip_charge_108 rfl 1 rfl ?_
                  refine r_aload_n d_Ip_charge_109 rfl 2 rfl ?_
                  refine r_get fs_Ip_43 d_Ip_charge_110 (q0 := 0) rfl rfl ?_
                  refine r_get fs_Ip_277 d_Ip_charge_113 (q0 := 1) rfl rfl ?_
                  refine r_iload_n d_Ip_charge_116 rfl 4 rfl ?_
                  refine r_callV (As := [.ref fub, .int m]) (rest := []) (csC := [(gy, .inr (6, [.ref gyg, .int i1])), (gyg, .inl (3, 4, .inr (.inl g1))), (fub, .inr (6, [.ref fubg, .int ir])), (fubg, .inl (3, 4, .inr (.inl gr)))]) (is := [7, 8, 2, 3]) (q0 := 7) rfl rfl ln_Ip_282 w_im_Me_moveTo w_se_Me_moveTo ok_Ip_charge_Me_moveTo d_Ip_charge_117 (C_Me_moveToN g gy gyg g1 i1 fub fubg gr ir m h0) rfl rfl (Nat.le_of_ble_eq_true rfl) rfl (by decide) (by omega) (by omega) (fun E cs1 hx => ?_) (fun v cs1 hx => ?_)
                  · exact absurd hx.1 (by simp)
                  · obtain ⟨e1, rfl⟩ := hx
                    cases e1
                    refine ⟨rfl, ?_⟩
                    refine r_st (st2 := []) rfl ?_
                    refine r_cs (cs2 := [(a, .inr (11, [.ref pa, .ref ta, .ref sa, .ref gs, .ref co, .ref fu, .ref la, .ref gy, .ref du, .ref re, .ref wm, .ref ac])), (fu, .inr (3, [.ref fub, .ref fut1, .ref fut2, .ref fut3, .long io])), (fub, .inr (6, [.ref fubg, .int (ir + m)])), (fubg, .inl (3, 4, .inr (.inl (mvT g1 m i1 gr 4)))), (fut1, .inl (3, 4, .inr (.inl T1))), (fut2, .inl (3, 4, .inr (.inl T2))), (fut3, .inl (3, 4, .inr (.inl T3))), (gy, .inr (6, [.ref gyg, .int (i1 - m)])), (gyg, .inl (3, 4, .inr (.inl (mvS g1 m i1 4)))), (du, .inr (6, [.ref dug, .int i2])), (dug, .inl (3, 4, .inr (.inl g2)))]) rfl ?_
                    refine r_goto (tgt := 137) d_Ip_charge_120 (by decide) ?_
                    refine r_aload_n d_Ip_charge_137 rfl 2 rfl ?_
                    refine r_get fs_Ip_43 d_Ip_charge_138 (q0 := 0) rfl rfl ?_
                    refine r_get fs_Ip_277 d_Ip_charge_141 (q0 := 1) rfl rfl ?_
                    refine r_get fs_Ip_269 d_Ip_charge_144 (q0 := 2) rfl rfl ?_
                    refine r_iret d_Ip_charge_147 rfl rfl ?_
                    exact ⟨rfl, rfl⟩
                · exact absurd (Int32.not_le.mp c_90) hg
              · exact absurd c_64 (by decide)
            · exact absurd (Int32.not_le.mp c_47) hf
        · exact absurd hw (z_b0 c_18)
set_option maxHeartbeats 4000000 in
set_option maxRecDepth 100000 in
theorem C_Ip_charge100F (g : zG) (a pa ta sa gs co fu la gy du re wm ac : Nat) (lab labg gyg dug fub fubg fut1 fut2 fut3 : Nat) (gr T1 T2 T3 g1 g2 : Nat → Int64) (ir i1 i2 : Int32) (io : Int64) (m : Int32) (hw : (1 ≤ m ∧ m ≤ 1000)) (hf : i2 < m) : CT g M_Ip_charge [.ref a, .int 100, .int m] [(a, .inr (11, [.ref pa, .ref ta, .ref sa, .ref gs, .ref co, .ref fu, .ref la, .ref gy, .ref du, .ref re, .ref wm, .ref ac])), (fu, .inr (3, [.ref fub, .ref fut1, .ref fut2, .ref fut3, .long io])), (fub, .inr (6, [.ref fubg, .int ir])), (fubg, .inl (3, 4, .inr (.inl gr))), (fut1, .inl (3, 4, .inr (.inl T1))), (fut2, .inl (3, 4, .inr (.inl T2))), (fut3, .inl (3, 4, .inr (.inl T3))), (gy, .inr (6, [.ref gyg, .int i1])), (gyg, .inl (3, 4, .inr (.inl g1))), (du, .inr (6, [.ref dug, .int i2])), (dug, .inl (3, 4, .inr (.inl g2)))] (fun o cs1 => o = .inr "java/lang/UnsupportedOperationException" ∧ cs1 = [(a, .inr (11, [.ref pa, .ref ta, .ref sa, .ref gs, .ref co, .ref fu, .ref la, .ref gy, .ref du, .ref re, .ref wm, .ref ac])), (fu, .inr (3, [.ref fub, .ref fut1, .ref fut2, .ref fut3, .long io])), (fub, .inr (6, [.ref fubg, .int ir])), (fubg, .inl (3, 4, .inr (.inl gr))), (fut1, .inl (3, 4, .inr (.inl T1))), (fut2, .inl (3, 4, .inr (.inl T2))), (fut3, .inl (3, 4, .inr (.inl T3))), (gy, .inr (6, [.ref gyg, .int i1])), (gyg, .inl (3, 4, .inr (.inl g1))), (du, .inr (6, [.ref dug, .int i2])), (dug, .inl (3, 4, .inr (.inl g2)))]) 1 6 := by
  refine z_of (by decide) rfl (Nat.le_of_ble_eq_true rfl) (fun w0 => ?_)
  refine r_lvE (lv2 := [(0, .ref a), (1, .int 100), (2, .int m)]) rfl ?_
  refine r_ldcWS (own := "Ironpour") (i := 1) (by decide) d_Ip_charge_0 ?_
  refine r_iload_n d_Ip_charge_3 rfl 1 rfl ?_
  refine r_callVS (As := [.int 100]) (rest := []) (csC := []) (is := []) (i := 1) (by first | assumption | decide) rfl ln_Ip_83 w_im_String_indexOf_0 w_se_String_indexOf_0 ok_Ip_charge_String_indexOf_0 d_Ip_charge_4 (C_St_indexOf g 1 (by decide) 100) rfl rfl (Nat.le_of_ble_eq_true rfl) rfl (by decide) (by omega) (by omega) (fun E cs1 hx => ?_) (fun v cs1 hx => ?_)
  · exact absurd hx.1 (by simp)
  · obtain ⟨e1, rfl⟩ := hx
    cases e1
    refine ⟨rfl, ?_⟩
    refine r_st (st2 := [.int (z_ix 1 100)]) rfl ?_
    refine r_cs (cs2 := [(a, .inr (11, [.ref pa, .ref ta, .ref sa, .ref gs, .ref co, .ref fu, .ref la, .ref gy, .ref du, .ref re, .ref wm, .ref ac])), (fu, .inr (3, [.ref fub, .ref fut1, .ref fut2, .ref fut3, .long io])), (fub, .inr (6, [.ref fubg, .int ir])), (fubg, .inl (3, 4, .inr (.inl gr))), (fut1, .inl (3, 4, .inr (.inl T1))), (fut2, .inl (3, 4, .inr (.inl T2))), (fut3, .inl (3, 4, .inr (.inl T3))), (gy, .inr (6, [.ref gyg, .int i1])), (gyg, .inl (3, 4, .inr (.inl g1))), (du, .inr (6, [.ref dug, .int i2])), (dug, .inl (3, 4, .inr (.inl g2)))]) rfl ?_
    refine r_if_lt (tgt := 21) d_Ip_charge_7 (by decide) (fun c_7 => ?_) (fun c_7 => ?_)
    · exact absurd c_7 (by decide)
    · refine r_iload_n d_Ip_charge_10 rfl 2 rfl ?_
      refine r_iconst d_Ip_charge_11 (v := 1) (by decide) ?_
      refine r_sipush d_Ip_charge_12 (v := 1000) (by decide) ?_
      refine r_callS (As := [.int m, .int 1, .int 1000]) (rest := []) (csC := []) (is := []) ln_Ip_203 w_st_Ip_isWithin ok_Ip_charge_Ip_isWithin d_Ip_charge_15 (C_Ip_isWithin g m 1 1000) rfl rfl (Nat.le_of_ble_eq_true rfl) rfl (by decide) (by omega) (by omega) (fun E cs1 hx => ?_) (fun v cs1 hx => ?_)
      · exact absurd hx.1 (by simp)
      · obtain ⟨e1, rfl⟩ := hx
        cases e1
        refine ⟨rfl, ?_⟩
        refine r_st (st2 := [.int (if 1 ≤ m ∧ m ≤ 1000 then 1 else 0)]) rfl ?_
        refine r_cs (cs2 := [(a, .inr (11, [.ref pa, .ref ta, .ref sa, .ref gs, .ref co, .ref fu, .ref la, .ref gy, .ref du, .ref re, .ref wm, .ref ac])), (fu, .inr (3, [.ref fub, .ref fut1, .ref fut2, .ref fut3, .long io])), (fub, .inr (6, [.ref fubg, .int ir])), (fubg, .inl (3, 4, .inr (.inl gr))), (fut1, .inl (3, 4, .inr (.inl T1))), (fut2, .inl (3, 4, .inr (.inl T2))), (fut3, .inl (3, 4, .inr (.inl T3))), (gy, .inr (6, [.ref gyg, .int i1])), (gyg, .inl (3, 4, .inr (.inl g1))), (du, .inr (6, [.ref dug, .int i2])), (dug, .inl (3, 4, .inr (.inl g2)))]) rfl ?_
        refine r_if_ne (tgt := 32) d_Ip_charge_18 (by decide) (fun c_18 => ?_) (fun c_18 => ?_)
        · refine r_aload_n d_Ip_charge_32 rfl 0 rfl ?_
          refine r_iload_n d_Ip_charge_33 rfl 1 rfl ?_
          refine r_callV (As := [.int 100]) (rest := []) (csC := [(a, .inr (11, [.ref pa, .ref ta, .ref sa, .ref gs, .ref co, .ref fu, .ref la, .ref gy, .ref du, .ref re, .ref wm, .ref ac]))]) (is := [0]) (q0 := 0) rfl rfl ln_Ip_265 w_im_Ip_poolOf w_se_Ip_poolOf ok_Ip_charge_Ip_poolOf d_Ip_charge_34 (C_Ip_poolOfD g a pa ta sa gs co fu la gy du re wm ac) rfl rfl (Nat.le_of_ble_eq_true rfl) rfl (by decide) (by omega) (by omega) (fun E cs1 hx => ?_) (fun v cs1 hx => ?_)
          · exact absurd hx.1 (by simp)
          · obtain ⟨e1, rfl⟩ := hx
            cases e1
            refine ⟨rfl, ?_⟩
            refine r_st (st2 := [.ref du]) rfl ?_
            refine r_cs (cs2 := [(a, .inr (11, [.ref pa, .ref ta, .ref sa, .ref gs, .ref co, .ref fu, .ref la, .ref gy, .ref du, .ref re, .ref wm, .ref ac])), (fu, .inr (3, [.ref fub, .ref fut1, .ref fut2, .ref fut3, .long io])), (fub, .inr (6, [.ref fubg, .int ir])), (fubg, .inl (3, 4, .inr (.inl gr))), (fut1, .inl (3, 4, .inr (.inl T1))), (fut2, .inl (3, 4, .inr (.inl T2))), (fut3, .inl (3, 4, .inr (.inl T3))), (gy, .inr (6, [.ref gyg, .int i1])), (gyg, .inl (3, 4, .inr (.inl g1))), (du, .inr (6, [.ref dug, .int i2])), (dug, .inl (3, 4, .inr (.inl g2)))]) rfl ?_
            refine r_astore_n (lv' := [(3, .ref du), (0, .ref a), (1, .int 100), (2, .int m)]) d_Ip_charge_37 rfl (by decide) rfl ?_
            refine r_aload_n d_Ip_charge_38 rfl 0 rfl ?_
            refine r_ifnull d_Ip_charge_39 ?_
            refine r_aload_n d_Ip_charge_42 rfl 0 rfl ?_
            refine r_get fs_Ip_269 d_Ip_charge_43 (q0 := 9) rfl rfl ?_
            refine r_iload_n d_Ip_charge_46 rfl 3 rfl ?_
            refine r_icmp_ge (tgt := 61) d_Ip_charge_47 (by decide) (fun c_47 => ?_) (fun c_47 => ?_)
            · exact absurd hf (Int32.not_lt.mpr c_47)
            · refine r_throwW tb_Ip_272_276 sr_Ip_274 d_Ip_charge_50 d_Ip_charge_53 d_Ip_charge_54 d_Ip_charge_57 d_Ip_charge_60 rfl (by decide) (by decide) (Nat.le_of_ble_eq_true rfl) (by omega) (by omega) ?_
              exact ⟨rfl, rfl⟩
        · exact absurd hw (z_b0 c_18)
set_option maxHeartbeats 4000000 in
set_option maxRecDepth 100000 in
theorem C_Ip_charge100G (g : zG) (a pa ta sa gs co fu la gy du re wm ac : Nat) (lab labg gyg dug fub fubg fut1 fut2 fut3 : Nat) (gr T1 T2 T3 g1 g2 : Nat → Int64) (ir i1 i2 : Int32) (io : Int64) (m : Int32) (hw : (1 ≤ m ∧ m ≤ 1000)) (hf : ¬ i2 < m) (hg : 3000 < ir + m) : CT g M_Ip_charge [.ref a, .int 100, .int m] [(a, .inr (11, [.ref pa, .ref ta, .ref sa, .ref gs, .ref co, .ref fu, .ref la, .ref gy, .ref du, .ref re, .ref wm, .ref ac])), (fu, .inr (3, [.ref fub, .ref fut1, .ref fut2, .ref fut3, .long io])), (fub, .inr (6, [.ref fubg, .int ir])), (fubg, .inl (3, 4, .inr (.inl gr))), (fut1, .inl (3, 4, .inr (.inl T1))), (fut2, .inl (3, 4, .inr (.inl T2))), (fut3, .inl (3, 4, .inr (.inl T3))), (gy, .inr (6, [.ref gyg, .int i1])), (gyg, .inl (3, 4, .inr (.inl g1))), (du, .inr (6, [.ref dug, .int i2])), (dug, .inl (3, 4, .inr (.inl g2)))] (fun o cs1 => o = .inr "java/lang/IllegalStateException" ∧ cs1 = [(a, .inr (11, [.ref pa, .ref ta, .ref sa, .ref gs, .ref co, .ref fu, .ref la, .ref gy, .ref du, .ref re, .ref wm, .ref ac])), (fu, .inr (3, [.ref fub, .ref fut1, .ref fut2, .ref fut3, .long io])), (fub, .inr (6, [.ref fubg, .int ir])), (fubg, .inl (3, 4, .inr (.inl gr))), (fut1, .inl (3, 4, .inr (.inl T1))), (fut2, .inl (3, 4, .inr (.inl T2))), (fut3, .inl (3, 4, .inr (.inl T3))), (gy, .inr (6, [.ref gyg, .int i1])), (gyg, .inl (3, 4, .inr (.inl g1))), (du, .inr (6, [.ref dug, .int i2])), (dug, .inl (3, 4, .inr (.inl g2)))]) 1 6 := by
  refine z_of (by decide) rfl (Nat.le_of_ble_eq_true rfl) (fun w0 => ?_)
  refine r_lvE (lv2 := [(0, .ref a), (1, .int 100), (2, .int m)]) rfl ?_
  refine r_ldcWS (own := "Ironpour") (i := 1) (by decide) d_Ip_charge_0 ?_
  refine r_iload_n d_Ip_charge_3 rfl 1 rfl ?_
  refine r_callVS (As := [.int 100]) (rest := []) (csC := []) (is := []) (i := 1) (by first | assumption | decide) rfl ln_Ip_83 w_im_String_indexOf_0 w_se_String_indexOf_0 ok_Ip_charge_String_indexOf_0 d_Ip_charge_4 (C_St_indexOf g 1 (by decide) 100) rfl rfl (Nat.le_of_ble_eq_true rfl) rfl (by decide) (by omega) (by omega) (fun E cs1 hx => ?_) (fun v cs1 hx => ?_)
  · exact absurd hx.1 (by simp)
  · obtain ⟨e1, rfl⟩ := hx
    cases e1
    refine ⟨rfl, ?_⟩
    refine r_st (st2 := [.int (z_ix 1 100)]) rfl ?_
    refine r_cs (cs2 := [(a, .inr (11, [.ref pa, .ref ta, .ref sa, .ref gs, .ref co, .ref fu, .ref la, .ref gy, .ref du, .ref re, .ref wm, .ref ac])), (fu, .inr (3, [.ref fub, .ref fut1, .ref fut2, .ref fut3, .long io])), (fub, .inr (6, [.ref fubg, .int ir])), (fubg, .inl (3, 4, .inr (.inl gr))), (fut1, .inl (3, 4, .inr (.inl T1))), (fut2, .inl (3, 4, .inr (.inl T2))), (fut3, .inl (3, 4, .inr (.inl T3))), (gy, .inr (6, [.ref gyg, .int i1])), (gyg, .inl (3, 4, .inr (.inl g1))), (du, .inr (6, [.ref dug, .int i2])), (dug, .inl (3, 4, .inr (.inl g2)))]) rfl ?_
    refine r_if_lt (tgt := 21) d_Ip_charge_7 (by decide) (fun c_7 => ?_) (fun c_7 => ?_)
    · exact absurd c_7 (by decide)
    · refine r_iload_n d_Ip_charge_10 rfl 2 rfl ?_
      refine r_iconst d_Ip_charge_11 (v := 1) (by decide) ?_
      refine r_sipush d_Ip_charge_12 (v := 1000) (by decide) ?_
      refine r_callS (As := [.int m, .int 1, .int 1000]) (rest := []) (csC := []) (is := []) ln_Ip_203 w_st_Ip_isWithin ok_Ip_charge_Ip_isWithin d_Ip_charge_15 (C_Ip_isWithin g m 1 1000) rfl rfl (Nat.le_of_ble_eq_true rfl) rfl (by decide) (by omega) (by omega) (fun E cs1 hx => ?_) (fun v cs1 hx => ?_)
      · exact absurd hx.1 (by simp)
      · obtain ⟨e1, rfl⟩ := hx
        cases e1
        refine ⟨rfl, ?_⟩
        refine r_st (st2 := [.int (if 1 ≤ m ∧ m ≤ 1000 then 1 else 0)]) rfl ?_
        refine r_cs (cs2 := [(a, .inr (11, [.ref pa, .ref ta, .ref sa, .ref gs, .ref co, .ref fu, .ref la, .ref gy, .ref du, .ref re, .ref wm, .ref ac])), (fu, .inr (3, [.ref fub, .ref fut1, .ref fut2, .ref fut3, .long io])), (fub, .inr (6, [.ref fubg, .int ir])), (fubg, .inl (3, 4, .inr (.inl gr))), (fut1, .inl (3, 4, .inr (.inl T1))), (fut2, .inl (3, 4, .inr (.inl T2))), (fut3, .inl (3, 4, .inr (.inl T3))), (gy, .inr (6, [.ref gyg, .int i1])), (gyg, .inl (3, 4, .inr (.inl g1))), (du, .inr (6, [.ref dug, .int i2])), (dug, .inl (3, 4, .inr (.inl g2)))]) rfl ?_
        refine r_if_ne (tgt := 32) d_Ip_charge_18 (by decide) (fun c_18 => ?_) (fun c_18 => ?_)
        · refine r_aload_n d_Ip_charge_32 rfl 0 rfl ?_
          refine r_iload_n d_Ip_charge_33 rfl 1 rfl ?_
          refine r_callV (As := [.int 100]) (rest := []) (csC := [(a, .inr (11, [.ref pa, .ref ta, .ref sa, .ref gs, .ref co, .ref fu, .ref la, .ref gy, .ref du, .ref re, .ref wm, .ref ac]))]) (is := [0]) (q0 := 0) rfl rfl ln_Ip_265 w_im_Ip_poolOf w_se_Ip_poolOf ok_Ip_charge_Ip_poolOf d_Ip_charge_34 (C_Ip_poolOfD g a pa ta sa gs co fu la gy du re wm ac) rfl rfl (Nat.le_of_ble_eq_true rfl) rfl (by decide) (by omega) (by omega) (fun E cs1 hx => ?_) (fun v cs1 hx => ?_)
          · exact absurd hx.1 (by simp)
          · obtain ⟨e1, rfl⟩ := hx
            cases e1
            refine ⟨rfl, ?_⟩
            refine r_st (st2 := [.ref du]) rfl ?_
            refine r_cs (cs2 := [(a, .inr (11, [.ref pa, .ref ta, .ref sa, .ref gs, .ref co, .ref fu, .ref la, .ref gy, .ref du, .ref re, .ref wm, .ref ac])), (fu, .inr (3, [.ref fub, .ref fut1, .ref fut2, .ref fut3, .long io])), (fub, .inr (6, [.ref fubg, .int ir])), (fubg, .inl (3, 4, .inr (.inl gr))), (fut1, .inl (3, 4, .inr (.inl T1))), (fut2, .inl (3, 4, .inr (.inl T2))), (fut3, .inl (3, 4, .inr (.inl T3))), (gy, .inr (6, [.ref gyg, .int i1])), (gyg, .inl (3, 4, .inr (.inl g1))), (du, .inr (6, [.ref dug, .int i2])), (dug, .inl (3, 4, .inr (.inl g2)))]) rfl ?_
            refine r_astore_n (lv' := [(3, .ref du), (0, .ref a), (1, .int 100), (2, .int m)]) d_Ip_charge_37 rfl (by decide) rfl ?_
            refine r_aload_n d_Ip_charge_38 rfl 0 rfl ?_
            refine r_ifnull d_Ip_charge_39 ?_
            refine r_aload_n d_Ip_charge_42 rfl 0 rfl ?_
            refine r_get fs_Ip_269 d_Ip_charge_43 (q0 := 9) rfl rfl ?_
            refine r_iload_n d_Ip_charge_46 rfl 3 rfl ?_
            refine r_icmp_ge (tgt := 61) d_Ip_charge_47 (by decide) (fun c_47 => ?_) (fun c_47 => ?_)
            · refine r_iload_n d_Ip_charge_61 rfl 2 rfl ?_
              refine r_bipush d_Ip_charge_62 (v := 107) (by decide) ?_
              refine r_icmp_ne (tgt := 71) d_Ip_charge_64 (by decide) (fun c_64 => ?_) (fun c_64 => ?_)
              · refine r_iload_n d_Ip_charge_71 rfl 3 rfl ?_
                refine r_istore (lv' := [(4, .int m), (3, .ref du), (0, .ref a), (1, .int 100), (2, .int m)]) d_Ip_charge_72 (by decide) rfl ?_
                refine r_aload_n d_Ip_charge_74 rfl 2 rfl ?_
                refine r_get fs_Ip_43 d_Ip_charge_75 (q0 := 0) rfl rfl ?_
                refine r_get fs_Ip_277 d_Ip_charge_78 (q0 := 1) rfl rfl ?_
                refine r_get fs_Ip_269 d_Ip_charge_81 (q0 := 2) rfl rfl ?_
                refine r_iload d_Ip_charge_84 0 rfl ?_
                refine r_iadd d_Ip_charge_86 (v := ir + m) rfl ?_
                refine r_sipush d_Ip_charge_87 (v := 3000) (by decide) ?_
                refine r_icmp_le (tgt := 104) d_Ip_charge_90 (by decide) (fun c_90 => ?_) (fun c_90 => ?_)
                · exact absurd hg (Int32.not_lt.mpr c_90)
                · refine r_throwW tb_Ip_242_246 sr_Ip_280 d_Ip_charge_93 d_Ip_charge_96 d_Ip_charge_97 d_Ip_charge_100 d_Ip_charge_103 rfl (by decide) (by decide) (Nat.le_of_ble_eq_true rfl) (by omega) (by omega) ?_
                  exact ⟨rfl, rfl⟩
              · exact absurd c_64 (by decide)
            · exact absurd (Int32.not_le.mp c_47) hf
        · exact absurd hw (z_b0 c_18)
set_option maxHeartbeats 4000000 in
set_option maxRecDepth 100000 in
theorem C_Ip_charge100N (g : zG) (a pa ta sa gs co fu la gy du re wm ac : Nat) (lab labg gyg dug fub fubg fut1 fut2 fut3 : Nat) (gr T1 T2 T3 g1 g2 : Nat → Int64) (ir i1 i2 : Int32) (io : Int64) (m : Int32) (hw : (1 ≤ m ∧ m ≤ 1000)) (hf : ¬ i2 < m) (hg : ¬ 3000 < ir + m) (h0 : ¬ i2 ≤ 0) : CT g M_Ip_charge [.ref a, .int 100, .int m] [(a, .inr (11, [.ref pa, .ref ta, .ref sa, .ref gs, .ref co, .ref fu, .ref la, .ref gy, .ref du, .ref re, .ref wm, .ref ac])), (fu, .inr (3, [.ref fub, .ref fut1, .ref fut2, .ref fut3, .long io])), (fub, .inr (6, [.ref fubg, .int ir])), (fubg, .inl (3, 4, .inr (.inl gr))), (fut1, .inl (3, 4, .inr (.inl T1))), (fut2, .inl (3, 4, .inr (.inl T2))), (fut3, .inl (3, 4, .inr (.inl T3))), (gy, .inr (6, [.ref gyg, .int i1])), (gyg, .inl (3, 4, .inr (.inl g1))), (du, .inr (6, [.ref dug, .int i2])), (dug, .inl (3, 4, .inr (.inl g2)))] (fun o cs1 => o = .inl (some (.int (ir + m))) ∧ cs1 = [(a, .inr (11, [.ref pa, .ref ta, .ref sa, .ref gs, .ref co, .ref fu, .ref la, .ref gy, .ref du, .ref re, .ref wm, .ref ac])), (fu, .inr (3, [.ref fub, .ref fut1, .ref fut2, .ref fut3, .long io])), (fub, .inr (6, [.ref fubg, .int (ir + m)])), (fubg, .inl (3, 4, .inr (.inl (mvT g2 m i2 gr 4)))), (fut1, .inl (3, 4, .inr (.inl T1))), (fut2, .inl (3, 4, .inr (.inl T2))), (fut3, .inl (3, 4, .inr (.inl T3))), (gy, .inr (6, [.ref gyg, .int i1])), (gyg, .inl (3, 4, .inr (.inl g1))), (du, .inr (6, [.ref dug, .int (i2 - m)])), (dug, .inl (3, 4, .inr (.inl (mvS g2 m i2 4))))]) 1 6 := by
  refine z_of (by decide) rfl (Nat.le_of_ble_eq_true rfl) (fun w0 => ?_)
  refine r_lvE (lv2 := [(0, .ref a), (1, .int 100), (2, .int m)]) rfl ?_
  refine r_ldcWS (own := "Ironpour") (i := 1) (by decide) d_Ip_charge_0 ?_
  refine r_iload_n d_Ip_charge_3 rfl 1 rfl ?_
  refine r_callVS (As := [.int 100]) (rest := []) (csC := []) (is := []) (i := 1) (by first | assumption | decide) rfl ln_Ip_83 w_im_String_indexOf_0 w_se_String_indexOf_0 ok_Ip_charge_String_indexOf_0 d_Ip_charge_4 (C_St_indexOf g 1 (by decide) 100) rfl rfl (Nat.le_of_ble_eq_true rfl) rfl (by decide) (by omega) (by omega) (fun E cs1 hx => ?_) (fun v cs1 hx => ?_)
  · exact absurd hx.1 (by simp)
  · obtain ⟨e1, rfl⟩ := hx
    cases e1
    refine ⟨rfl, ?_⟩
    refine r_st (st2 := [.int (z_ix 1 100)]) rfl ?_
    refine r_cs (cs2 := [(a, .inr (11, [.ref pa, .ref ta, .ref sa, .ref gs, .ref co, .ref fu, .ref la, .ref gy, .ref du, .ref re, .ref wm, .ref ac])), (fu, .inr (3, [.ref fub, .ref fut1, .ref fut2, .ref fut3, .long io])), (fub, .inr (6, [.ref fubg, .int ir])), (fubg, .inl (3, 4, .inr (.inl gr))), (fut1, .inl (3, 4, .inr (.inl T1))), (fut2, .inl (3, 4, .inr (.inl T2))), (fut3, .inl (3, 4, .inr (.inl T3))), (gy, .inr (6, [.ref gyg, .int i1])), (gyg, .inl (3, 4, .inr (.inl g1))), (du, .inr (6, [.ref dug, .int i2])), (dug, .inl (3, 4, .inr (.inl g2)))]) rfl ?_
    refine r_if_lt (tgt := 21) d_Ip_charge_7 (by decide) (fun c_7 => ?_) (fun c_7 => ?_)
    · exact absurd c_7 (by decide)
    · refine r_iload_n d_Ip_charge_10 rfl 2 rfl ?_
      refine r_iconst d_Ip_charge_11 (v := 1) (by decide) ?_
      refine r_sipush d_Ip_charge_12 (v := 1000) (by decide) ?_
      refine r_callS (As := [.int m, .int 1, .int 1000]) (rest := []) (csC := []) (is := []) ln_Ip_203 w_st_Ip_isWithin ok_Ip_charge_Ip_isWithin d_Ip_charge_15 (C_Ip_isWithin g m 1 1000) rfl rfl (Nat.le_of_ble_eq_true rfl) rfl (by decide) (by omega) (by omega) (fun E cs1 hx => ?_) (fun v cs1 hx => ?_)
      · exact absurd hx.1 (by simp)
      · obtain ⟨e1, rfl⟩ := hx
        cases e1
        refine ⟨rfl, ?_⟩
        refine r_st (st2 := [.int (if 1 ≤ m ∧ m ≤ 1000 then 1 else 0)]) rfl ?_
        refine r_cs (cs2 := [(a, .inr (11, [.ref pa, .ref ta, .ref sa, .ref gs, .ref co, .ref fu, .ref la, .ref gy, .ref du, .ref re, .ref wm, .ref ac])), (fu, .inr (3, [.ref fub, .ref fut1, .ref fut2, .ref fut3, .long io])), (fub, .inr (6, [.ref fubg, .int ir])), (fubg, .inl (3, 4, .inr (.inl gr))), (fut1, .inl (3, 4, .inr (.inl T1))), (fut2, .inl (3, 4, .inr (.inl T2))), (fut3, .inl (3, 4, .inr (.inl T3))), (gy, .inr (6, [.ref gyg, .int i1])), (gyg, .inl (3, 4, .inr (.inl g1))), (du, .inr (6, [.ref dug, .int i2])), (dug, .inl (3, 4, .inr (.inl g2)))]) rfl ?_
        refine r_if_ne (tgt := 32) d_Ip_charge_18 (by decide) (fun c_18 => ?_) (fun c_18 => ?_)
        · refine r_aload_n d_Ip_charge_32 rfl 0 rfl ?_
          refine r_iload_n d_Ip_charge_33 rfl 1 rfl ?_
          refine r_callV (As := [.int 100]) (rest := []) (csC := [(a, .inr (11, [.ref pa, .ref ta, .ref sa, .ref gs, .ref co, .ref fu, .ref la, .ref gy, .ref du, .ref re, .ref wm, .ref ac]))]) (is := [0]) (q0 := 0) rfl rfl ln_Ip_265 w_im_Ip_poolOf w_se_Ip_poolOf ok_Ip_charge_Ip_poolOf d_Ip_charge_34 (C_Ip_poolOfD g a pa ta sa gs co fu la gy du re wm ac) rfl rfl (Nat.le_of_ble_eq_true rfl) rfl (by decide) (by omega) (by omega) (fun E cs1 hx => ?_) (fun v cs1 hx => ?_)
          · exact absurd hx.1 (by simp)
          · obtain ⟨e1, rfl⟩ := hx
            cases e1
            refine ⟨rfl, ?_⟩
            refine r_st (st2 := [.ref du]) rfl ?_
            refine r_cs (cs2 := [(a, .inr (11, [.ref pa, .ref ta, .ref sa, .ref gs, .ref co, .ref fu, .ref la, .ref gy, .ref du, .ref re, .ref wm, .ref ac])), (fu, .inr (3, [.ref fub, .ref fut1, .ref fut2, .ref fut3, .long io])), (fub, .inr (6, [.ref fubg, .int ir])), (fubg, .inl (3, 4, .inr (.inl gr))), (fut1, .inl (3, 4, .inr (.inl T1))), (fut2, .inl (3, 4, .inr (.inl T2))), (fut3, .inl (3, 4, .inr (.inl T3))), (gy, .inr (6, [.ref gyg, .int i1])), (gyg, .inl (3, 4, .inr (.inl g1))), (du, .inr (6, [.ref dug, .int i2])), (dug, .inl (3, 4, .inr (.inl g2)))]) rfl ?_
            refine r_astore_n (lv' := [(3, .ref du), (0, .ref a), (1, .int 100), (2, .int m)]) d_Ip_charge_37 rfl (by decide) rfl ?_
            refine r_aload_n d_Ip_charge_38 rfl 0 rfl ?_
            refine r_ifnull d_Ip_charge_39 ?_
            refine r_aload_n d_Ip_charge_42 rfl 0 rfl ?_
            refine r_get fs_Ip_269 d_Ip_charge_43 (q0 := 9) rfl rfl ?_
            refine r_iload_n d_Ip_charge_46 rfl 3 rfl ?_
            refine r_icmp_ge (tgt := 61) d_Ip_charge_47 (by decide) (fun c_47 => ?_) (fun c_47 => ?_)
            · refine r_iload_n d_Ip_charge_61 rfl 2 rfl ?_
              refine r_bipush d_Ip_charge_62 (v := 107) (by decide) ?_
              refine r_icmp_ne (tgt := 71) d_Ip_charge_64 (by decide) (fun c_64 => ?_) (fun c_64 => ?_)
              · refine r_iload_n d_Ip_charge_71 rfl 3 rfl ?_
                refine r_istore (lv' := [(4, .int m), (3, .ref du), (0, .ref a), (1, .int 100), (2, .int m)]) d_Ip_charge_72 (by decide) rfl ?_
                refine r_aload_n d_Ip_charge_74 rfl 2 rfl ?_
                refine r_get fs_Ip_43 d_Ip_charge_75 (q0 := 0) rfl rfl ?_
                refine r_get fs_Ip_277 d_Ip_charge_78 (q0 := 1) rfl rfl ?_
                refine r_get fs_Ip_269 d_Ip_charge_81 (q0 := 2) rfl rfl ?_
                refine r_iload d_Ip_charge_84 0 rfl ?_
                refine r_iadd d_Ip_charge_86 (v := ir + m) rfl ?_
                refine r_sipush d_Ip_charge_87 (v := 3000) (by decide) ?_
                refine r_icmp_le (tgt := 104) d_Ip_charge_90 (by decide) (fun c_90 => ?_) (fun c_90 => ?_)
                · refine r_aload_n d_Ip_charge_104 rfl 1 rfl ?_
                  refine r_ifnull d_Ip_charge_105 ?_
                  refine r_aload_n d_Ip_charge_108 rfl 1 rfl ?_
                  refine r_aload_n d_Ip_charge_109 rfl 2 rfl ?_
                  refine r_get fs_Ip_43 d_Ip_charge_110 (q0 := 0) rfl rfl ?_
                  refine r_get fs_Ip_277 d_Ip_charge_113 (q0 := 1) rfl rfl ?_
                  refine r_iload_n d_Ip_charge_116 rfl 4 rfl ?_
                  refine r_callV (As := [.ref fub, .int m]) (rest := []) (csC := [(du, .inr (6, [.ref dug, .int i2])), (dug, .inl (3, 4, .inr (.inl g2))), (fub, .inr (6, [.ref fubg, .int ir])), (fubg, .inl (3, 4, .inr (.inl gr)))]) (is := [9, 10, 2, 3]) (q0 := 9) rfl rfl ln_Ip_282 w_im_Me_moveTo w_se_Me_moveTo ok_Ip_charge_Me_moveTo d_Ip_charge_117 (C_Me_moveToN g du dug g2 i2 fub fubg gr ir m h0) rfl rfl (Nat.le_of_ble_eq_true rfl) rfl (by decide) (by omega) (by omega) (fun E cs1 hx => ?_) (fun v cs1 hx => ?_)
                  · exact absurd hx.1 (by simp)
                  · obtain ⟨e1, rfl⟩ := hx
                    cases e1
                    refine ⟨rfl, ?_⟩
                    refine r_st (st2 := []) rfl ?_
                    refine r_cs (cs2 := [(a, .inr (11, [.ref pa, .ref ta, .ref sa, .ref gs, .ref co, .ref fu, .ref la, .ref gy, .ref du, .ref re, .ref wm, .ref ac])), (fu, .inr (3, [.ref fub, .ref fut1, .ref fut2, .ref fut3, .long io])), (fub, .inr (6, [.ref fubg, .int (ir + m)])), (fubg, .inl (3, 4, .inr (.inl (mvT g2 m i2 gr 4)))), (fut1, .inl (3, 4, .inr (.inl T1))), (fut2, .inl (3, 4, .inr (.inl T2))), (fut3, .inl (3, 4, .inr (.inl T3))), (gy, .inr (6, [.ref gyg, .int i1])), (gyg, .inl (3, 4, .inr (.inl g1))), (du, .inr (6, [.ref dug, .int (i2 - m)])), (dug, .inl (3, 4, .inr (.inl (mvS g2 m i2 4))))]) rfl ?_
                    refine r_goto (tgt := 137) d_Ip_charge_120 (by decide) ?_
                    refine r_aload_n d_Ip_charge_137 rfl 2 rfl ?_
                    refine r_get fs_Ip_43 d_Ip_charge_138 (q0 := 0) rfl rfl ?_
                    refine r_get fs_Ip_277 d_Ip_charge_141 (q0 := 1) rfl rfl ?_
                    refine r_get fs_Ip_269 d_Ip_charge_144 (q0 := 2) rfl rfl ?_
                    refine r_iret d_Ip_charge_147 rfl rfl ?_
                    exact ⟨rfl, rfl⟩
                · exact absurd (Int32.not_le.mp c_90) hg
              · exact absurd c_64 (by decide)
            · exact absurd (Int32.not_le.mp c_47) hf
        · exact absurd hw (z_b0 c_18)
abbrev M_Ip_init : zM := (⟨"Ironpour", "<init>", "()V"⟩, prog_1_method_1_code, 1, (Option.none : Option FieldType), 4, 80, [])
theorem d_Ip_init_0 : decode prog_1_method_1_code 0 = .ok (.aload_n 0, 1) := zo_42 (zd_b zq_prog_1_method_1_code_0 0 rfl rfl rfl)
theorem d_Ip_init_1 : decode prog_1_method_1_code 1 = .ok (.invokespecial 1, 3) := zo_183 (d := 0) (e := 1) (zd_b zq_prog_1_method_1_code_0 1 rfl rfl rfl) (zd_b zq_prog_1_method_1_code_0 2 rfl rfl rfl) (zd_b zq_prog_1_method_1_code_0 3 rfl rfl rfl)
theorem ln_Ip_1 : Cond.methodLink "Ironpour" 1 Lib.objectInit ∈ z_gw := z_mj1 (i := 43) rfl (by decide +kernel)
theorem d_Ip_init_4 : decode prog_1_method_1_code 4 = .ok (.aload_n 0, 1) := zo_42 (zd_b zq_prog_1_method_1_code_0 4 rfl rfl rfl)
theorem d_Ip_init_5 : decode prog_1_method_1_code 5 = .ok (.new 7, 3) := zo_187 (d := 0) (e := 7) (zd_b zq_prog_1_method_1_code_0 5 rfl rfl rfl) (zd_b zq_prog_1_method_1_code_0 6 rfl rfl rfl) (zd_b zq_prog_1_method_1_code_0 7 rfl rfl rfl)
theorem nc_Ip_7 : z_nc "Ironpour" 7 8 4 [.null, .null, .null, .int 0] := ⟨R_Pa, F_Pa, t_Pa, rfl, u_Pa, t_Pa_ok, z_mj1 (i := 46) rfl (by decide +kernel), z_mj1 (i := 47) rfl (by decide +kernel), z_mj1 (i := 2) rfl (by decide +kernel), by decide +kernel⟩
theorem d_Ip_init_8 : decode prog_1_method_1_code 8 = .ok (.dup, 1) := zo_89 (zd_b zq_prog_1_method_1_code_0 8 rfl rfl rfl)
theorem d_Ip_init_9 : decode prog_1_method_1_code 9 = .ok (.invokespecial 9, 3) := zo_183 (d := 0) (e := 9) (zd_b zq_prog_1_method_1_code_0 9 rfl rfl rfl) (zd_b zq_prog_1_method_1_code_0 10 rfl rfl rfl) (zd_b zq_prog_1_method_1_code_0 11 rfl rfl rfl)
theorem ok_Ip_init_Pa_init : z_ok M_Ip_init M_Pa_init 0 := ⟨z_mj1 (i := 50) rfl (by decide +kernel), rfl, ⟨by decide +kernel, by decide +kernel, by decide +kernel⟩, ⟨by decide, by decide⟩, z_mj1 (i := 2) rfl (by decide +kernel), rfl⟩
theorem ln_Ip_9 : Cond.methodLink "Ironpour" 9 M_Pa_init.1 ∈ z_gw := z_mj1 (i := 48) rfl (by decide +kernel)
theorem w_im_Pa_init : Cond.instanceMethod M_Pa_init.1 ∈ z_gw := z_mj1 (i := 49) rfl (by decide +kernel)
theorem d_Ip_init_12 : decode prog_1_method_1_code 12 = .ok (.putfield 10, 3) := zo_181 (d := 0) (e := 10) (zd_b zq_prog_1_method_1_code_0 12 rfl rfl rfl) (zd_b zq_prog_1_method_1_code_0 13 rfl rfl rfl) (zd_b zq_prog_1_method_1_code_0 14 rfl rfl rfl)
theorem fp_Ip_10 : z_fp "Ironpour" 10 11 0 true (t_Ip 0) := ⟨R_Ip, "Ironpour", F_Ip, 12, t_Ip, rfl, u_Ip, by decide, t_Ip_ok, n_Ip, rfl, rfl, Or.inl ⟨z_mj2 (i := 63) rfl (by decide +kernel), Or.inl rfl, fun _ => ⟨rfl, rfl⟩⟩⟩
theorem d_Ip_init_15 : decode prog_1_method_1_code 15 = .ok (.aload_n 0, 1) := zo_42 (zd_b zq_prog_1_method_1_code_0 15 rfl rfl rfl)
theorem d_Ip_init_16 : decode prog_1_method_1_code 16 = .ok (.new 16, 3) := zo_187 (d := 0) (e := 16) (zd_b zq_prog_1_method_1_code_0 16 rfl rfl rfl) (zd_b zq_prog_1_method_1_code_0 17 rfl rfl rfl) (zd_b zq_prog_1_method_1_code_0 18 rfl rfl rfl)
theorem nc_Ip_16 : z_nc "Ironpour" 16 10 8 [.null, .null, .null, .null, .null, .null, .int 0, .int 0] := ⟨R_Tr, F_Tr, t_Tr, rfl, u_Tr, t_Tr_ok, z_mj1 (i := 71) rfl (by decide +kernel), z_mj1 (i := 72) rfl (by decide +kernel), z_mj1 (i := 3) rfl (by decide +kernel), by decide +kernel⟩
theorem d_Ip_init_19 : decode prog_1_method_1_code 19 = .ok (.dup, 1) := zo_89 (zd_b zq_prog_1_method_1_code_0 19 rfl rfl rfl)
theorem d_Ip_init_20 : decode prog_1_method_1_code 20 = .ok (.invokespecial 18, 3) := zo_183 (d := 0) (e := 18) (zd_b zq_prog_1_method_1_code_0 20 rfl rfl rfl) (zd_b zq_prog_1_method_1_code_0 21 rfl rfl rfl) (zd_b zq_prog_1_method_1_code_0 22 rfl rfl rfl)
theorem ok_Ip_init_Tr_init : z_ok M_Ip_init M_Tr_init 0 := ⟨z_mj1 (i := 75) rfl (by decide +kernel), rfl, ⟨by decide +kernel, by decide +kernel, by decide +kernel⟩, ⟨by decide, by decide⟩, z_mj1 (i := 3) rfl (by decide +kernel), rfl⟩
theorem ln_Ip_18 : Cond.methodLink "Ironpour" 18 M_Tr_init.1 ∈ z_gw := z_mj1 (i := 73) rfl (by decide +kernel)
theorem w_im_Tr_init : Cond.instanceMethod M_Tr_init.1 ∈ z_gw := z_mj1 (i := 74) rfl (by decide +kernel)
theorem d_Ip_init_23 : decode prog_1_method_1_code 23 = .ok (.putfield 19, 3) := zo_181 (d := 0) (e := 19) (zd_b zq_prog_1_method_1_code_0 23 rfl rfl rfl) (zd_b zq_prog_1_method_1_code_0 24 rfl rfl rfl) (zd_b zq_prog_1_method_1_code_0 25 rfl rfl rfl)
theorem fp_Ip_19 : z_fp "Ironpour" 19 11 1 true (t_Ip 1) := ⟨R_Ip, "Ironpour", F_Ip, 12, t_Ip, rfl, u_Ip, by decide, t_Ip_ok, n_Ip, rfl, rfl, Or.inl ⟨z_mj2 (i := 64) rfl (by decide +kernel), Or.inl rfl, fun _ => ⟨rfl, rfl⟩⟩⟩
theorem d_Ip_init_26 : decode prog_1_method_1_code 26 = .ok (.aload_n 0, 1) := zo_42 (zd_b zq_prog_1_method_1_code_0 26 rfl rfl rfl)
theorem d_Ip_init_27 : decode prog_1_method_1_code 27 = .ok (.new 16, 3) := zo_187 (d := 0) (e := 16) (zd_b zq_prog_1_method_1_code_0 27 rfl rfl rfl) (zd_b zq_prog_1_method_1_code_0 28 rfl rfl rfl) (zd_b zq_prog_1_method_1_code_0 29 rfl rfl rfl)
theorem d_Ip_init_30 : decode prog_1_method_1_code 30 = .ok (.dup, 1) := zo_89 (zd_b zq_prog_1_method_1_code_0 30 rfl rfl rfl)
theorem d_Ip_init_31 : decode prog_1_method_1_code 31 = .ok (.invokespecial 18, 3) := zo_183 (d := 0) (e := 18) (zd_b zq_prog_1_method_1_code_0 31 rfl rfl rfl) (zd_b zq_prog_1_method_1_code_1 0 rfl rfl rfl) (zd_b zq_prog_1_method_1_code_1 1 rfl rfl rfl)
theorem d_Ip_init_34 : decode prog_1_method_1_code 34 = .ok (.putfield 23, 3) := zo_181 (d := 0) (e := 23) (zd_b zq_prog_1_method_1_code_1 2 rfl rfl rfl) (zd_b zq_prog_1_method_1_code_1 3 rfl rfl rfl) (zd_b zq_prog_1_method_1_code_1 4 rfl rfl rfl)
theorem fp_Ip_23 : z_fp "Ironpour" 23 11 2 true (t_Ip 2) := ⟨R_Ip, "Ironpour", F_Ip, 12, t_Ip, rfl, u_Ip, by decide, t_Ip_ok, n_Ip, rfl, rfl, Or.inl ⟨z_mj2 (i := 65) rfl (by decide +kernel), Or.inl rfl, fun _ => ⟨rfl, rfl⟩⟩⟩
theorem d_Ip_init_37 : decode prog_1_method_1_code 37 = .ok (.aload_n 0, 1) := zo_42 (zd_b zq_prog_1_method_1_code_1 5 rfl rfl rfl)
theorem d_Ip_init_38 : decode prog_1_method_1_code 38 = .ok (.new 26, 3) := zo_187 (d := 0) (e := 26) (zd_b zq_prog_1_method_1_code_1 6 rfl rfl rfl) (zd_b zq_prog_1_method_1_code_1 7 rfl rfl rfl) (zd_b zq_prog_1_method_1_code_1 8 rfl rfl rfl)
theorem nc_Ip_26 : z_nc "Ironpour" 26 4 5 [.int 0, .int 0, .int 0, .int 0, .int 0] := ⟨R_GS, F_GS, t_GS, rfl, u_GS, t_GS_ok, z_mj1 (i := 138) rfl (by decide +kernel), z_mj1 (i := 139) rfl (by decide +kernel), z_mj1 (i := 5) rfl (by decide +kernel), by decide +kernel⟩
theorem d_Ip_init_41 : decode prog_1_method_1_code 41 = .ok (.dup, 1) := zo_89 (zd_b zq_prog_1_method_1_code_1 9 rfl rfl rfl)
theorem d_Ip_init_42 : decode prog_1_method_1_code 42 = .ok (.invokespecial 28, 3) := zo_183 (d := 0) (e := 28) (zd_b zq_prog_1_method_1_code_1 10 rfl rfl rfl) (zd_b zq_prog_1_method_1_code_1 11 rfl rfl rfl) (zd_b zq_prog_1_method_1_code_1 12 rfl rfl rfl)
theorem ok_Ip_init_GS_init : z_ok M_Ip_init M_GS_init 0 := ⟨z_mj1 (i := 142) rfl (by decide +kernel), rfl, ⟨by decide +kernel, by decide +kernel, by decide +kernel⟩, ⟨by decide, by decide⟩, z_mj1 (i := 5) rfl (by decide +kernel), rfl⟩
theorem ln_Ip_28 : Cond.methodLinkNest "Ironpour" 28 M_GS_init.1 "Ironpour" ∈ z_nw := z_mk1 (i := 140) rfl (by decide +kernel)
theorem w_im_GS_init : Cond.instanceMethod M_GS_init.1 ∈ z_gw := z_mj1 (i := 141) rfl (by decide +kernel)
theorem d_Ip_init_45 : decode prog_1_method_1_code 45 = .ok (.putfield 29, 3) := zo_181 (d := 0) (e := 29) (zd_b zq_prog_1_method_1_code_1 13 rfl rfl rfl) (zd_b zq_prog_1_method_1_code_1 14 rfl rfl rfl) (zd_b zq_prog_1_method_1_code_1 15 rfl rfl rfl)
theorem fp_Ip_29 : z_fp "Ironpour" 29 11 3 true (t_Ip 3) := ⟨R_Ip, "Ironpour", F_Ip, 12, t_Ip, rfl, u_Ip, by decide, t_Ip_ok, n_Ip, rfl, rfl, Or.inl ⟨z_mj2 (i := 66) rfl (by decide +kernel), Or.inl rfl, fun _ => ⟨rfl, rfl⟩⟩⟩
theorem d_Ip_init_48 : decode prog_1_method_1_code 48 = .ok (.aload_n 0, 1) := zo_42 (zd_b zq_prog_1_method_1_code_1 16 rfl rfl rfl)
theorem d_Ip_init_49 : decode prog_1_method_1_code 49 = .ok (.new 33, 3) := zo_187 (d := 0) (e := 33) (zd_b zq_prog_1_method_1_code_1 17 rfl rfl rfl) (zd_b zq_prog_1_method_1_code_1 18 rfl rfl rfl) (zd_b zq_prog_1_method_1_code_1 19 rfl rfl rfl)
theorem nc_Ip_33 : z_nc "Ironpour" 33 1 4 [.null, .null, .null, .int 0] := ⟨R_CS, F_CS, t_CS, rfl, u_CS, t_CS_ok, z_mj1 (i := 166) rfl (by decide +kernel), z_mj1 (i := 167) rfl (by decide +kernel), z_mj1 (i := 6) rfl (by decide +kernel), by decide +kernel⟩
theorem d_Ip_init_52 : decode prog_1_method_1_code 52 = .ok (.dup, 1) := zo_89 (zd_b zq_prog_1_method_1_code_1 20 rfl rfl rfl)
theorem d_Ip_init_53 : decode prog_1_method_1_code 53 = .ok (.invokespecial 35, 3) := zo_183 (d := 0) (e := 35) (zd_b zq_prog_1_method_1_code_1 21 rfl rfl rfl) (zd_b zq_prog_1_method_1_code_1 22 rfl rfl rfl) (zd_b zq_prog_1_method_1_code_1 23 rfl rfl rfl)
theorem ok_Ip_init_CS_init : z_ok M_Ip_init M_CS_init 0 := ⟨z_mj1 (i := 170) rfl (by decide +kernel), rfl, ⟨by decide +kernel, by decide +kernel, by decide +kernel⟩, ⟨by decide, by decide⟩, z_mj1 (i := 6) rfl (by decide +kernel), rfl⟩
theorem ln_Ip_35 : Cond.methodLinkNest "Ironpour" 35 M_CS_init.1 "Ironpour" ∈ z_nw := z_mk1 (i := 168) rfl (by decide +kernel)
theorem w_im_CS_init : Cond.instanceMethod M_CS_init.1 ∈ z_gw := z_mj1 (i := 169) rfl (by decide +kernel)
theorem d_Ip_init_56 : decode prog_1_method_1_code 56 = .ok (.putfield 36, 3) := zo_181 (d := 0) (e := 36) (zd_b zq_prog_1_method_1_code_1 24 rfl rfl rfl) (zd_b zq_prog_1_method_1_code_1 25 rfl rfl rfl) (zd_b zq_prog_1_method_1_code_1 26 rfl rfl rfl)
theorem fp_Ip_36 : z_fp "Ironpour" 36 11 4 true (t_Ip 4) := ⟨R_Ip, "Ironpour", F_Ip, 12, t_Ip, rfl, u_Ip, by decide, t_Ip_ok, n_Ip, rfl, rfl, Or.inl ⟨z_mj2 (i := 67) rfl (by decide +kernel), Or.inl rfl, fun _ => ⟨rfl, rfl⟩⟩⟩
theorem d_Ip_init_59 : decode prog_1_method_1_code 59 = .ok (.aload_n 0, 1) := zo_42 (zd_b zq_prog_1_method_1_code_1 27 rfl rfl rfl)
theorem d_Ip_init_60 : decode prog_1_method_1_code 60 = .ok (.new 40, 3) := zo_187 (d := 0) (e := 40) (zd_b zq_prog_1_method_1_code_1 28 rfl rfl rfl) (zd_b zq_prog_1_method_1_code_1 29 rfl rfl rfl) (zd_b zq_prog_1_method_1_code_1 30 rfl rfl rfl)
theorem nc_Ip_40 : z_nc "Ironpour" 40 3 5 [.null, .null, .null, .null, .long 0] := ⟨R_Fu, F_Fu, t_Fu, rfl, u_Fu, t_Fu_ok, z_mj1 (i := 185) rfl (by decide +kernel), z_mj1 (i := 186) rfl (by decide +kernel), z_mj1 (i := 7) rfl (by decide +kernel), by decide +kernel⟩
theorem d_Ip_init_63 : decode prog_1_method_1_code 63 = .ok (.dup, 1) := zo_89 (zd_b zq_prog_1_method_1_code_1 31 rfl rfl rfl)
theorem d_Ip_init_64 : decode prog_1_method_1_code 64 = .ok (.invokespecial 42, 3) := zo_183 (d := 0) (e := 42) (zd_b zq_prog_1_method_1_code_2 0 rfl rfl rfl) (zd_b zq_prog_1_method_1_code_2 1 rfl rfl rfl) (zd_b zq_prog_1_method_1_code_2 2 rfl rfl rfl)
theorem ok_Ip_init_Fu_init : z_ok M_Ip_init M_Fu_init 0 := ⟨z_mj1 (i := 189) rfl (by decide +kernel), rfl, ⟨by decide +kernel, by decide +kernel, by decide +kernel⟩, ⟨by decide, by decide⟩, z_mj1 (i := 7) rfl (by decide +kernel), rfl⟩
theorem ln_Ip_42 : Cond.methodLinkNest "Ironpour" 42 M_Fu_init.1 "Ironpour" ∈ z_nw := z_mk1 (i := 187) rfl (by decide +kernel)
theorem w_im_Fu_init : Cond.instanceMethod M_Fu_init.1 ∈ z_gw := z_mj1 (i := 188) rfl (by decide +kernel)
theorem d_Ip_init_67 : decode prog_1_method_1_code 67 = .ok (.putfield 43, 3) := zo_181 (d := 0) (e := 43) (zd_b zq_prog_1_method_1_code_2 3 rfl rfl rfl) (zd_b zq_prog_1_method_1_code_2 4 rfl rfl rfl) (zd_b zq_prog_1_method_1_code_2 5 rfl rfl rfl)
theorem fp_Ip_43 : z_fp "Ironpour" 43 11 5 true (t_Ip 5) := ⟨R_Ip, "Ironpour", F_Ip, 12, t_Ip, rfl, u_Ip, by decide, t_Ip_ok, n_Ip, rfl, rfl, Or.inl ⟨z_mj2 (i := 68) rfl (by decide +kernel), Or.inl rfl, fun _ => ⟨rfl, rfl⟩⟩⟩
theorem d_Ip_init_70 : decode prog_1_method_1_code 70 = .ok (.aload_n 0, 1) := zo_42 (zd_b zq_prog_1_method_1_code_2 6 rfl rfl rfl)
theorem d_Ip_init_71 : decode prog_1_method_1_code 71 = .ok (.new 47, 3) := zo_187 (d := 0) (e := 47) (zd_b zq_prog_1_method_1_code_2 7 rfl rfl rfl) (zd_b zq_prog_1_method_1_code_2 8 rfl rfl rfl) (zd_b zq_prog_1_method_1_code_2 9 rfl rfl rfl)
theorem nc_Ip_47 : z_nc "Ironpour" 47 5 4 [.null, .int 0, .int 0, .int 0] := ⟨R_La, F_La, t_La, rfl, u_La, t_La_ok, z_mj1 (i := 231) rfl (by decide +kernel), z_mj1 (i := 232) rfl (by decide +kernel), z_mj1 (i := 9) rfl (by decide +kernel), by decide +kernel⟩
theorem d_Ip_init_74 : decode prog_1_method_1_code 74 = .ok (.dup, 1) := zo_89 (zd_b zq_prog_1_method_1_code_2 10 rfl rfl rfl)
theorem d_Ip_init_75 : decode prog_1_method_1_code 75 = .ok (.invokespecial 49, 3) := zo_183 (d := 0) (e := 49) (zd_b zq_prog_1_method_1_code_2 11 rfl rfl rfl) (zd_b zq_prog_1_method_1_code_2 12 rfl rfl rfl) (zd_b zq_prog_1_method_1_code_2 13 rfl rfl rfl)
theorem ok_Ip_init_La_init : z_ok M_Ip_init M_La_init 0 := ⟨z_mj1 (i := 235) rfl (by decide +kernel), rfl, ⟨by decide +kernel, by decide +kernel, by decide +kernel⟩, ⟨by decide, by decide⟩, z_mj1 (i := 9) rfl (by decide +kernel), rfl⟩
theorem ln_Ip_49 : Cond.methodLinkNest "Ironpour" 49 M_La_init.1 "Ironpour" ∈ z_nw := z_mk1 (i := 233) rfl (by decide +kernel)
theorem w_im_La_init : Cond.instanceMethod M_La_init.1 ∈ z_gw := z_mj1 (i := 234) rfl (by decide +kernel)
theorem d_Ip_init_78 : decode prog_1_method_1_code 78 = .ok (.putfield 50, 3) := zo_181 (d := 0) (e := 50) (zd_b zq_prog_1_method_1_code_2 14 rfl rfl rfl) (zd_b zq_prog_1_method_1_code_2 15 rfl rfl rfl) (zd_b zq_prog_1_method_1_code_2 16 rfl rfl rfl)
theorem fp_Ip_50 : z_fp "Ironpour" 50 11 6 true (t_Ip 6) := ⟨R_Ip, "Ironpour", F_Ip, 12, t_Ip, rfl, u_Ip, by decide, t_Ip_ok, n_Ip, rfl, rfl, Or.inl ⟨z_mj2 (i := 69) rfl (by decide +kernel), Or.inl rfl, fun _ => ⟨rfl, rfl⟩⟩⟩
theorem d_Ip_init_81 : decode prog_1_method_1_code 81 = .ok (.aload_n 0, 1) := zo_42 (zd_b zq_prog_1_method_1_code_2 17 rfl rfl rfl)
theorem d_Ip_init_82 : decode prog_1_method_1_code 82 = .ok (.new 54, 3) := zo_187 (d := 0) (e := 54) (zd_b zq_prog_1_method_1_code_2 18 rfl rfl rfl) (zd_b zq_prog_1_method_1_code_2 19 rfl rfl rfl) (zd_b zq_prog_1_method_1_code_2 20 rfl rfl rfl)
theorem nc_Ip_54 : z_nc "Ironpour" 54 6 2 [.null, .int 0] := ⟨R_Me, F_Me, t_Me, rfl, u_Me, t_Me_ok, z_mj2 (i := 16) rfl (by decide +kernel), z_mj1 (i := 192) rfl (by decide +kernel), z_mj1 (i := 8) rfl (by decide +kernel), by decide +kernel⟩
theorem d_Ip_init_85 : decode prog_1_method_1_code 85 = .ok (.dup, 1) := zo_89 (zd_b zq_prog_1_method_1_code_2 21 rfl rfl rfl)
theorem d_Ip_init_86 : decode prog_1_method_1_code 86 = .ok (.invokespecial 56, 3) := zo_183 (d := 0) (e := 56) (zd_b zq_prog_1_method_1_code_2 22 rfl rfl rfl) (zd_b zq_prog_1_method_1_code_2 23 rfl rfl rfl) (zd_b zq_prog_1_method_1_code_2 24 rfl rfl rfl)
theorem ok_Ip_init_Me_init : z_ok M_Ip_init M_Me_init 0 := ⟨z_mj1 (i := 195) rfl (by decide +kernel), rfl, ⟨by decide +kernel, by decide +kernel, by decide +kernel⟩, ⟨by decide, by decide⟩, z_mj1 (i := 8) rfl (by decide +kernel), rfl⟩
theorem ln_Ip_56 : Cond.methodLinkNest "Ironpour" 56 M_Me_init.1 "Ironpour" ∈ z_nw := z_mk2 (i := 17) rfl (by decide +kernel)
theorem d_Ip_init_89 : decode prog_1_method_1_code 89 = .ok (.putfield 57, 3) := zo_181 (d := 0) (e := 57) (zd_b zq_prog_1_method_1_code_2 25 rfl rfl rfl) (zd_b zq_prog_1_method_1_code_2 26 rfl rfl rfl) (zd_b zq_prog_1_method_1_code_2 27 rfl rfl rfl)
theorem fp_Ip_57 : z_fp "Ironpour" 57 11 7 true (t_Ip 7) := ⟨R_Ip, "Ironpour", F_Ip, 12, t_Ip, rfl, u_Ip, by decide, t_Ip_ok, n_Ip, rfl, rfl, Or.inl ⟨z_mj2 (i := 70) rfl (by decide +kernel), Or.inl rfl, fun _ => ⟨rfl, rfl⟩⟩⟩
theorem d_Ip_init_92 : decode prog_1_method_1_code 92 = .ok (.aload_n 0, 1) := zo_42 (zd_b zq_prog_1_method_1_code_2 28 rfl rfl rfl)
theorem d_Ip_init_93 : decode prog_1_method_1_code 93 = .ok (.new 54, 3) := zo_187 (d := 0) (e := 54) (zd_b zq_prog_1_method_1_code_2 29 rfl rfl rfl) (zd_b zq_prog_1_method_1_code_2 30 rfl rfl rfl) (zd_b zq_prog_1_method_1_code_2 31 rfl rfl rfl)
theorem d_Ip_init_96 : decode prog_1_method_1_code 96 = .ok (.dup, 1) := zo_89 (zd_b zq_prog_1_method_1_code_3 0 rfl rfl rfl)
theorem d_Ip_init_97 : decode prog_1_method_1_code 97 = .ok (.invokespecial 56, 3) := zo_183 (d := 0) (e := 56) (zd_b zq_prog_1_method_1_code_3 1 rfl rfl rfl) (zd_b zq_prog_1_method_1_code_3 2 rfl rfl rfl) (zd_b zq_prog_1_method_1_code_3 3 rfl rfl rfl)
theorem d_Ip_init_100 : decode prog_1_method_1_code 100 = .ok (.putfield 61, 3) := zo_181 (d := 0) (e := 61) (zd_b zq_prog_1_method_1_code_3 4 rfl rfl rfl) (zd_b zq_prog_1_method_1_code_3 5 rfl rfl rfl) (zd_b zq_prog_1_method_1_code_3 6 rfl rfl rfl)
theorem fp_Ip_61 : z_fp "Ironpour" 61 11 8 true (t_Ip 8) := ⟨R_Ip, "Ironpour", F_Ip, 12, t_Ip, rfl, u_Ip, by decide, t_Ip_ok, n_Ip, rfl, rfl, Or.inl ⟨z_mj2 (i := 71) rfl (by decide +kernel), Or.inl rfl, fun _ => ⟨rfl, rfl⟩⟩⟩
theorem d_Ip_init_103 : decode prog_1_method_1_code 103 = .ok (.aload_n 0, 1) := zo_42 (zd_b zq_prog_1_method_1_code_3 7 rfl rfl rfl)
theorem d_Ip_init_104 : decode prog_1_method_1_code 104 = .ok (.new 64, 3) := zo_187 (d := 0) (e := 64) (zd_b zq_prog_1_method_1_code_3 8 rfl rfl rfl) (zd_b zq_prog_1_method_1_code_3 9 rfl rfl rfl) (zd_b zq_prog_1_method_1_code_3 10 rfl rfl rfl)
theorem nc_Ip_64 : z_nc "Ironpour" 64 9 3 [.int 0, .int 0, .int 0] := ⟨R_Re, F_Re, t_Re, rfl, u_Re, t_Re_ok, z_mj2 (i := 18) rfl (by decide +kernel), z_mj2 (i := 19) rfl (by decide +kernel), z_mj1 (i := 10) rfl (by decide +kernel), by decide +kernel⟩
theorem d_Ip_init_107 : decode prog_1_method_1_code 107 = .ok (.dup, 1) := zo_89 (zd_b zq_prog_1_method_1_code_3 11 rfl rfl rfl)
theorem d_Ip_init_108 : decode prog_1_method_1_code 108 = .ok (.invokespecial 66, 3) := zo_183 (d := 0) (e := 66) (zd_b zq_prog_1_method_1_code_3 12 rfl rfl rfl) (zd_b zq_prog_1_method_1_code_3 13 rfl rfl rfl) (zd_b zq_prog_1_method_1_code_3 14 rfl rfl rfl)
theorem ok_Ip_init_Re_init : z_ok M_Ip_init M_Re_init 0 := ⟨z_mj2 (i := 22) rfl (by decide +kernel), rfl, ⟨by decide +kernel, by decide +kernel, by decide +kernel⟩, ⟨by decide, by decide⟩, z_mj1 (i := 10) rfl (by decide +kernel), rfl⟩
theorem ln_Ip_66 : Cond.methodLinkNest "Ironpour" 66 M_Re_init.1 "Ironpour" ∈ z_nw := z_mk2 (i := 20) rfl (by decide +kernel)
theorem w_im_Re_init : Cond.instanceMethod M_Re_init.1 ∈ z_gw := z_mj2 (i := 21) rfl (by decide +kernel)
theorem d_Ip_init_111 : decode prog_1_method_1_code 111 = .ok (.putfield 67, 3) := zo_181 (d := 0) (e := 67) (zd_b zq_prog_1_method_1_code_3 15 rfl rfl rfl) (zd_b zq_prog_1_method_1_code_3 16 rfl rfl rfl) (zd_b zq_prog_1_method_1_code_3 17 rfl rfl rfl)
theorem fp_Ip_67 : z_fp "Ironpour" 67 11 9 true (t_Ip 9) := ⟨R_Ip, "Ironpour", F_Ip, 12, t_Ip, rfl, u_Ip, by decide, t_Ip_ok, n_Ip, rfl, rfl, Or.inl ⟨z_mj2 (i := 72) rfl (by decide +kernel), Or.inl rfl, fun _ => ⟨rfl, rfl⟩⟩⟩
theorem d_Ip_init_114 : decode prog_1_method_1_code 114 = .ok (.aload_n 0, 1) := zo_42 (zd_b zq_prog_1_method_1_code_3 18 rfl rfl rfl)
theorem d_Ip_init_115 : decode prog_1_method_1_code 115 = .ok (.new 71, 3) := zo_187 (d := 0) (e := 71) (zd_b zq_prog_1_method_1_code_3 19 rfl rfl rfl) (zd_b zq_prog_1_method_1_code_3 20 rfl rfl rfl) (zd_b zq_prog_1_method_1_code_3 21 rfl rfl rfl)
theorem nc_Ip_71 : z_nc "Ironpour" 71 13 3 [.int 0, .null, .int 0] := ⟨R_AL, F_AL, t_AL, rfl, u_AL, t_AL_ok, z_mj2 (i := 37) rfl (by decide +kernel), z_mj2 (i := 38) rfl (by decide +kernel), z_mj1 (i := 13) rfl (by decide +kernel), by decide +kernel⟩
theorem d_Ip_init_118 : decode prog_1_method_1_code 118 = .ok (.dup, 1) := zo_89 (zd_b zq_prog_1_method_1_code_3 22 rfl rfl rfl)
theorem d_Ip_init_119 : decode prog_1_method_1_code 119 = .ok (.invokespecial 73, 3) := zo_183 (d := 0) (e := 73) (zd_b zq_prog_1_method_1_code_3 23 rfl rfl rfl) (zd_b zq_prog_1_method_1_code_3 24 rfl rfl rfl) (zd_b zq_prog_1_method_1_code_3 25 rfl rfl rfl)
theorem ok_Ip_init_AL_init : z_ok M_Ip_init M_AL_init 0 := ⟨z_mj2 (i := 41) rfl (by decide +kernel), rfl, ⟨by decide +kernel, by decide +kernel, by decide +kernel⟩, ⟨by decide, by decide⟩, z_mj1 (i := 13) rfl (by decide +kernel), rfl⟩
theorem ln_Ip_73 : Cond.methodLink "Ironpour" 73 M_AL_init.1 ∈ z_gw := z_mj2 (i := 39) rfl (by decide +kernel)
theorem d_Ip_init_122 : decode prog_1_method_1_code 122 = .ok (.putfield 74, 3) := zo_181 (d := 0) (e := 74) (zd_b zq_prog_1_method_1_code_3 26 rfl rfl rfl) (zd_b zq_prog_1_method_1_code_3 27 rfl rfl rfl) (zd_b zq_prog_1_method_1_code_3 28 rfl rfl rfl)
theorem fp_Ip_74 : z_fp "Ironpour" 74 11 10 true (t_Ip 10) := ⟨R_Ip, "Ironpour", F_Ip, 12, t_Ip, rfl, u_Ip, by decide, t_Ip_ok, n_Ip, rfl, rfl, Or.inl ⟨z_mj2 (i := 73) rfl (by decide +kernel), Or.inl rfl, fun _ => ⟨rfl, rfl⟩⟩⟩
theorem d_Ip_init_125 : decode prog_1_method_1_code 125 = .ok (.aload_n 0, 1) := zo_42 (zd_b zq_prog_1_method_1_code_3 29 rfl rfl rfl)
theorem d_Ip_init_126 : decode prog_1_method_1_code 126 = .ok (.new 71, 3) := zo_187 (d := 0) (e := 71) (zd_b zq_prog_1_method_1_code_3 30 rfl rfl rfl) (zd_b zq_prog_1_method_1_code_3 31 rfl rfl rfl) (zd_b zq_prog_1_method_1_code_4 0 rfl rfl rfl)
theorem d_Ip_init_129 : decode prog_1_method_1_code 129 = .ok (.dup, 1) := zo_89 (zd_b zq_prog_1_method_1_code_4 1 rfl rfl rfl)
theorem d_Ip_init_130 : decode prog_1_method_1_code 130 = .ok (.invokespecial 73, 3) := zo_183 (d := 0) (e := 73) (zd_b zq_prog_1_method_1_code_4 2 rfl rfl rfl) (zd_b zq_prog_1_method_1_code_4 3 rfl rfl rfl) (zd_b zq_prog_1_method_1_code_4 4 rfl rfl rfl)
theorem d_Ip_init_133 : decode prog_1_method_1_code 133 = .ok (.putfield 78, 3) := zo_181 (d := 0) (e := 78) (zd_b zq_prog_1_method_1_code_4 5 rfl rfl rfl) (zd_b zq_prog_1_method_1_code_4 6 rfl rfl rfl) (zd_b zq_prog_1_method_1_code_4 7 rfl rfl rfl)
theorem fp_Ip_78 : z_fp "Ironpour" 78 11 11 true (t_Ip 11) := ⟨R_Ip, "Ironpour", F_Ip, 12, t_Ip, rfl, u_Ip, by decide, t_Ip_ok, n_Ip, rfl, rfl, Or.inl ⟨z_mj2 (i := 74) rfl (by decide +kernel), Or.inl rfl, fun _ => ⟨rfl, rfl⟩⟩⟩
theorem d_Ip_init_136 : decode prog_1_method_1_code 136 = .ok (.return_, 1) := zo_177 (zd_b zq_prog_1_method_1_code_4 8 rfl rfl rfl)
set_option maxHeartbeats 4000000 in
set_option maxRecDepth 100000 in
theorem C_Ip_init (g : zG) (a : Nat) : CT g M_Ip_init [.ref a] [(a, .inr (11, [.null, .null, .null, .null, .null, .null, .null, .null, .null, .null, .null, .null]))] (fun o cs1 => ∃ pa pa1 pa2 pa3 ta ta1 ta2 taz taz1 taz2 taz3 taz4 taz5 taz6 ta4 ta5 ta6 sa sa1 sa2 saz saz1 saz2 saz3 saz4 saz5 saz6 sa4 sa5 sa6 gs co co1 co2 co3 fu fub fubg fut1 fut2 fut3 la lab labg gy gyg du dug re wm ac, o = .inl none ∧ cs1 = [(a, .inr (11, [.ref pa, .ref ta, .ref sa, .ref gs, .ref co, .ref fu, .ref la, .ref gy, .ref du, .ref re, .ref wm, .ref ac])), (pa, .inr (8, [.ref pa1, .ref pa2, .ref pa3, .int 4])), (pa1, .inl (1, 108, .inl (fa_fill (fun _ => 46) (fun _ => 0) 108))), (pa2, .inl (2, 108, .inl (fun _ => 0))), (pa3, .inl (0, 108, .inl (fun _ => 0))), (ta, .inr (10, [.ref ta1, .ref ta2, .ref taz, .ref ta4, .ref ta5, .ref ta6, .int 0, .int 0])), (ta1, .inl (1, 108, .inl (fa_fill (fun _ => 46) (fun _ => 0) 108))), (ta2, .inl (0, 108, .inl (fun _ => 0))), (taz, .inr (2, [.ref taz1, .ref taz2, .ref taz3, .ref taz4, .ref taz5, .ref taz6, .int 0])), (taz1, .inl (0, 108, .inl (fun _ => 0))), (taz2, .inl (0, 108, .inl (fun _ => 0))), (taz3, .inl (0, 108, .inl (fun _ => 0))), (taz4, .inl (0, 108, .inl (fun _ => 0))), (taz5, .inl (0, 108, .inl (fun _ => 0))), (taz6, .inl (0, 108, .inl (fun _ => 0))), (ta4, .inl (2, 108, .inl (fun _ => 0))), (ta5, .inl (2, 108, .inl (fun _ => 0))), (ta6, .inl (0, 108, .inl (fun _ => 0))), (sa, .inr (10, [.ref sa1, .ref sa2, .ref saz, .ref sa4, .ref sa5, .ref sa6, .int 0, .int 0])), (sa1, .inl (1, 108, .inl (fa_fill (fun _ => 46) (fun _ => 0) 108))), (sa2, .inl (0, 108, .inl (fun _ => 0))), (saz, .inr (2, [.ref saz1, .ref saz2, .ref saz3, .ref saz4, .ref saz5, .ref saz6, .int 0])), (saz1, .inl (0, 108, .inl (fun _ => 0))), (saz2, .inl (0, 108, .inl (fun _ => 0))), (saz3, .inl (0, 108, .inl (fun _ => 0))), (saz4, .inl (0, 108, .inl (fun _ => 0))), (saz5, .inl (0, 108, .inl (fun _ => 0))), (saz6, .inl (0, 108, .inl (fun _ => 0))), (sa4, .inl (2, 108, .inl (fun _ => 0))), (sa5, .inl (2, 108, .inl (fun _ => 0))), (sa6, .inl (0, 108, .inl (fun _ => 0))), (gs, .inr (4, [.int 80, .int 35, .int 30, .int 50, .int 0])), (co, .inr (1, [.ref co1, .ref co2, .ref co3, .int 0])), (co1, .inl (0, 20, .inl (fun _ => 0))), (co2, .inl (0, 20, .inl (fun _ => 0))), (co3, .inl (0, 20, .inl (fun _ => 0))), (fu, .inr (3, [.ref fub, .ref fut1, .ref fut2, .ref fut3, .long 0])), (fub, .inr (6, [.ref fubg, .int 0])), (fubg, .inl (3, 4, .inr (.inl (fun _ => 0)))), (fut1, .inl (3, 4, .inr (.inl (fun _ => 0)))), (fut2, .inl (3, 4, .inr (.inl (fun _ => 0)))), (fut3, .inl (3, 4, .inr (.inl (fun _ => 0)))), (la, .inr (5, [.ref lab, .int 0, .int 0, .int 0])), (lab, .inr (6, [.ref labg, .int 0])), (labg, .inl (3, 4, .inr (.inl (fun _ => 0)))), (gy, .inr (6, [.ref gyg, .int 0])), (gyg, .inl (3, 4, .inr (.inl (fun _ => 0)))), (du, .inr (6, [.ref dug, .int 0])), (dug, .inl (3, 4, .inr (.inl (fun _ => 0)))), (re, .inr (9, [.int 0, .int 0, .int 0])), (wm, .inr (13, [.int 0, .ref (g.2.2 4), .int 0])), (ac, .inr (13, [.int 0, .ref (g.2.2 4), .int 0]))]) 60 3000 := by
  refine z_of (by decide) rfl (Nat.le_of_ble_eq_true rfl) (fun w0 => ?_)
  refine r_lvE (lv2 := [(0, .ref a)]) rfl ?_
  refine r_aload_n d_Ip_init_0 rfl 0 rfl ?_
  refine r_objInit ln_Ip_1 w_oi1 w_oi2 d_Ip_init_1 (by decide) (by decide) (Nat.le_of_ble_eq_true rfl) ?_
  refine r_aload_n d_Ip_init_4 rfl 0 rfl ?_
  refine r_new nc_Ip_7 d_Ip_init_5 (by omega) (by omega) (fun pa => ?_)
  refine r_cs (cs2 := [(a, .inr (11, [.null, .null, .null, .null, .null, .null, .null, .null, .null, .null, .null, .null])), (pa, .inr (8, [.null, .null, .null, .int 0]))]) rfl ?_
  refine r_dup d_Ip_init_8 rfl ?_
  refine r_callI (As := []) (rest := [.ref pa, .ref a]) (csC := [(pa, .inr (8, [.null, .null, .null, .int 0]))]) (is := [1]) rfl rfl ln_Ip_9 w_im_Pa_init ok_Ip_init_Pa_init d_Ip_init_9 (C_Pa_init g pa) rfl rfl (Nat.le_of_ble_eq_true rfl) rfl (by decide) (by omega) (by omega) (fun E cs1 hx => ?_) (fun v cs1 hx => ?_)
  · obtain ⟨pa1, pa2, pa3, e1, -⟩ := hx
    cases e1
  · obtain ⟨pa1, pa2, pa3, e1, rfl⟩ := hx
    cases e1
    refine ⟨rfl, ?_⟩
    refine r_st (st2 := [.ref pa, .ref a]) rfl ?_
    refine r_cs (cs2 := [(a, .inr (11, [.null, .null, .null, .null, .null, .null, .null, .null, .null, .null, .null, .null])), (pa, .inr (8, [.ref pa1, .ref pa2, .ref pa3, .int 4])), (pa1, .inl (1, 108, .inl (fa_fill (fun _ => 46) (fun _ => 0) 108))), (pa2, .inl (2, 108, .inl (fun _ => 0))), (pa3, .inl (0, 108, .inl (fun _ => 0)))]) rfl ?_
    refine r_put fp_Ip_10 d_Ip_init_12 (fun _ => rfl) rfl rfl (q0 := 0) rfl (Nat.le_of_ble_eq_true rfl) (cs' := [(a, .inr (11, [.ref pa, .null, .null, .null, .null, .null, .null, .null, .null, .null, .null, .null])), (pa, .inr (8, [.ref pa1, .ref pa2, .ref pa3, .int 4])), (pa1, .inl (1, 108, .inl (fa_fill (fun _ => 46) (fun _ => 0) 108))), (pa2, .inl (2, 108, .inl (fun _ => 0))), (pa3, .inl (0, 108, .inl (fun _ => 0)))]) rfl ?_
    refine r_aload_n d_Ip_init_15 rfl 0 rfl ?_
    refine r_new nc_Ip_16 d_Ip_init_16 (by omega) (by omega) (fun ta => ?_)
    refine r_cs (cs2 := [(a, .inr (11, [.ref pa, .null, .null, .null, .null, .null, .null, .null, .null, .null, .null, .null])), (pa, .inr (8, [.ref pa1, .ref pa2, .ref pa3, .int 4])), (pa1, .inl (1, 108, .inl (fa_fill (fun _ => 46) (fun _ => 0) 108))), (pa2, .inl (2, 108, .inl (fun _ => 0))), (pa3, .inl (0, 108, .inl (fun _ => 0))), (ta, .inr (10, [.null, .null, .null, .null, .null, .null, .int 0, .int 0]))]) rfl ?_
    refine r_dup d_Ip_init_19 rfl ?_
    refine r_callI (As := []) (rest := [.ref ta, .ref a]) (csC := [(ta, .inr (10, [.null, .null, .null, .null, .null, .null, .int 0, .int 0]))]) (is := [5]) rfl rfl ln_Ip_18 w_im_Tr_init ok_Ip_init_Tr_init d_Ip_init_20 (C_Tr_init g ta) rfl rfl (Nat.le_of_ble_eq_true rfl) rfl (by decide) (by omega) (by omega) (fun E cs1 hx => ?_) (fun v cs1 hx => ?_)
    · obtain ⟨ta1, ta2, taz, taz1, taz2, taz3, taz4, taz5, taz6, ta4, ta5, ta6, e1, -⟩ := hx
      cases e1
    · obtain ⟨ta1, ta2, taz, taz1, taz2, taz3, taz4, taz5, taz6, ta4, ta5, ta6, e1, rfl⟩ := hx
      cases e1
      refine ⟨rfl, ?_⟩
      refine r_st (st2 := [.ref ta, .ref a]) rfl ?_
      refine r_cs (cs2 := [(a, .inr (11, [.ref pa, .null, .null, .null, .null, .null, .null, .null, .null, .null, .null, .null])), (pa, .inr (8, [.ref pa1, .ref pa2, .ref pa3, .int 4])), (pa1, .inl (1, 108, .inl (fa_fill (fun _ => 46) (fun _ => 0) 108))), (pa2, .inl (2, 108, .inl (fun _ => 0))), (pa3, .inl (0, 108, .inl (fun _ => 0))), (ta, .inr (10, [.ref ta1, .ref ta2, .ref taz, .ref ta4, .ref ta5, .ref ta6, .int 0, .int 0])), (ta1, .inl (1, 108, .inl (fa_fill (fun _ => 46) (fun _ => 0) 108))), (ta2, .inl (0, 108, .inl (fun _ => 0))), (taz, .inr (2, [.ref taz1, .ref taz2, .ref taz3, .ref taz4, .ref taz5, .ref taz6, .int 0])), (taz1, .inl (0, 108, .inl (fun _ => 0))), (taz2, .inl (0, 108, .inl (fun _ => 0))), (taz3, .inl (0, 108, .inl (fun _ => 0))), (taz4, .inl (0, 108, .inl (fun _ => 0))), (taz5, .inl (0, 108, .inl (fun _ => 0))), (taz6, .inl (0, 108, .inl (fun _ => 0))), (ta4, .inl (2, 108, .inl (fun _ => 0))), (ta5, .inl (2, 108, .inl (fun _ => 0))), (ta6, .inl (0, 108, .inl (fun _ => 0)))]) rfl ?_
      refine r_put fp_Ip_19 d_Ip_init_23 (fun _ => rfl) rfl rfl (q0 := 0) rfl (Nat.le_of_ble_eq_true rfl) (cs' := [(a, .inr (11, [.ref pa, .ref ta, .null, .null, .null, .null, .null, .null, .null, .null, .null, .null])), (pa, .inr (8, [.ref pa1, .ref pa2, .ref pa3, .int 4])), (pa1, .inl (1, 108, .inl (fa_fill (fun _ => 46) (fun _ => 0) 108))), (pa2, .inl (2, 108, .inl (fun _ => 0))), (pa3, .inl (0, 108, .inl (fun _ => 0))), (ta, .inr (10, [.ref ta1, .ref ta2, .ref taz, .ref ta4, .ref ta5, .ref ta6, .int 0, .int 0])), (ta1, .inl (1, 108, .inl (fa_fill (fun _ => 46) (fun _ => 0) 108))), (ta2, .inl (0, 108, .inl (fun _ => 0))), (taz, .inr (2, [.ref taz1, .ref taz2, .ref taz3, .ref taz4, .ref taz5, .ref taz6, .int 0])), (taz1, .inl (0, 108, .inl (fun _ => 0))), (taz2, .inl (0, 108, .inl (fun _ => 0))), (taz3, .inl (0, 108, .inl (fun _ => 0))), (taz4, .inl (0, 108, .inl (fun _ => 0))), (taz5, .inl (0, 108, .inl (fun _ => 0))), (taz6, .inl (0, 108, .inl (fun _ => 0))), (ta4, .inl (2, 108, .inl (fun _ => 0))), (ta5, .inl (2, 108, .inl (fun _ => 0))), (ta6, .inl (0, 108, .inl (fun _ => 0)))]) rfl ?_
      refine r_aload_n d_Ip_init_26 rfl 0 rfl ?_
      refine r_new nc_Ip_16 d_Ip_init_27 (by omega) (by omega) (fun sa => ?_)
      refine r_cs (cs2 := [(a, .inr (11, [.ref pa, .ref ta, .null, .null, .null, .null, .null, .null, .null, .null, .null, .null])), (pa, .inr (8, [.ref pa1, .ref pa2, .ref pa3, .int 4])), (pa1, .inl (1, 108, .inl (fa_fill (fun _ => 46) (fun _ => 0) 108))), (pa2, .inl (2, 108, .inl (fun _ => 0))), (pa3, .inl (0, 108, .inl (fun _ => 0))), (ta, .inr (10, [.ref ta1, .ref ta2, .ref taz, .ref ta4, .ref ta5, .ref ta6, .int 0, .int 0])), (ta1, .inl (1, 108, .inl (fa_fill (fun _ => 46) (fun _ => 0) 108))), (ta2, .inl (0, 108, .inl (fun _ => 0))), (taz, .inr (2, [.ref taz1, .ref taz2, .ref taz3, .ref taz4, .ref taz5, .ref taz6, .int 0])), (taz1, .inl (0, 108, .inl (fun _ => 0))), (taz2, .inl (0, 108, .inl (fun _ => 0))), (taz3, .inl (0, 108, .inl (fun _ => 0))), (taz4, .inl (0, 108, .inl (fun _ => 0))), (taz5, .inl (0, 108, .inl (fun _ => 0))), (taz6, .inl (0, 108, .inl (fun _ => 0))), (ta4, .inl (2, 108, .inl (fun _ => 0))), (ta5, .inl (2, 108, .inl (fun _ => 0))), (ta6, .inl (0, 108, .inl (fun _ => 0))), (sa, .inr (10, [.null, .null, .null, .null, .null, .null, .int 0, .int 0]))]) rfl ?_
      refine r_dup d_Ip_init_30 rfl ?_
      refine r_callI (As := []) (rest := [.ref sa, .ref a]) (csC := [(sa, .inr (10, [.null, .null, .null, .null, .null, .null, .int 0, .int 0]))]) (is := [18]) rfl rfl ln_Ip_18 w_im_Tr_init ok_Ip_init_Tr_init d_Ip_init_31 (C_Tr_init g sa) rfl rfl (Nat.le_of_ble_eq_true rfl) rfl (by decide) (by omega) (by omega) (fun E cs1 hx => ?_) (fun v cs1 hx => ?_)
      · obtain ⟨sa1, sa2, saz, saz1, saz2, saz3, saz4, saz5, saz6, sa4, sa5, sa6, e1, -⟩ := hx
        cases e1
      · obtain ⟨sa1, sa2, saz, saz1, saz2, saz3, saz4, saz5, saz6, sa4, sa5, sa6, e1, rfl⟩ := hx
        cases e1
        refine ⟨rfl, ?_⟩
        refine r_st (st2 := [.ref sa, .ref a]) rfl ?_
        refine r_cs (cs2 := [(a, .inr (11, [.ref pa, .ref ta, .null, .null, .null, .null, .null, .null, .null, .null, .null, .null])), (pa, .inr (8, [.ref pa1, .ref pa2, .ref pa3, .int 4])), (pa1, .inl (1, 108, .inl (fa_fill (fun _ => 46) (fun _ => 0) 108))), (pa2, .inl (2, 108, .inl (fun _ => 0))), (pa3, .inl (0, 108, .inl (fun _ => 0))), (ta, .inr (10, [.ref ta1, .ref ta2, .ref taz, .ref ta4, .ref ta5, .ref ta6, .int 0, .int 0])), (ta1, .inl (1, 108, .inl (fa_fill (fun _ => 46) (fun _ => 0) 108))), (ta2, .inl (0, 108, .inl (fun _ => 0))), (taz, .inr (2, [.ref taz1, .ref taz2, .ref taz3, .ref taz4, .ref taz5, .ref taz6, .int 0])), (taz1, .inl (0, 108, .inl (fun _ => 0))), (taz2, .inl (0, 108, .inl (fun _ => 0))), (taz3, .inl (0, 108, .inl (fun _ => 0))), (taz4, .inl (0, 108, .inl (fun _ => 0))), (taz5, .inl (0, 108, .inl (fun _ => 0))), (taz6, .inl (0, 108, .inl (fun _ => 0))), (ta4, .inl (2, 108, .inl (fun _ => 0))), (ta5, .inl (2, 108, .inl (fun _ => 0))), (ta6, .inl (0, 108, .inl (fun _ => 0))), (sa, .inr (10, [.ref sa1, .ref sa2, .ref saz, .ref sa4, .ref sa5, .ref sa6, .int 0, .int 0])), (sa1, .inl (1, 108, .inl (fa_fill (fun _ => 46) (fun _ => 0) 108))), (sa2, .inl (0, 108, .inl (fun _ => 0))), (saz, .inr (2, [.ref saz1, .ref saz2, .ref saz3, .ref saz4, .ref saz5, .ref saz6, .int 0])), (saz1, .inl (0, 108, .inl (fun _ => 0))), (saz2, .inl (0, 108, .inl (fun _ => 0))), (saz3, .inl (0, 108, .inl (fun _ => 0))), (saz4, .inl (0, 108, .inl (fun _ => 0))), (saz5, .inl (0, 108, .inl (fun _ => 0))), (saz6, .inl (0, 108, .inl (fun _ => 0))), (sa4, .inl (2, 108, .inl (fun _ => 0))), (sa5, .inl (2, 108, .inl (fun _ => 0))), (sa6, .inl (0, 108, .inl (fun _ => 0)))]) rfl ?_
        refine r_put fp_Ip_23 d_Ip_init_34 (fun _ => rfl) rfl rfl (q0 := 0) rfl (Nat.le_of_ble_eq_true rfl) (cs' := [(a, .inr (11, [.ref pa, .ref ta, .ref sa, .null, .null, .null, .null, .null, .null, .null, .null, .null])), (pa, .inr (8, [.ref pa1, .ref pa2, .ref pa3, .int 4])), (pa1, .inl (1, 108, .inl (fa_fill (fun _ => 46) (fun _ => 0) 108))), (pa2, .inl (2, 108, .inl (fun _ => 0))), (pa3, .inl (0, 108, .inl (fun _ => 0))), (ta, .inr (10, [.ref ta1, .ref ta2, .ref taz, .ref ta4, .ref ta5, .ref ta6, .int 0, .int 0])), (ta1, .inl (1, 108, .inl (fa_fill (fun _ => 46) (fun _ => 0) 108))), (ta2, .inl (0, 108, .inl (fun _ => 0))), (taz, .inr (2, [.ref taz1, .ref taz2, .ref taz3, .ref taz4, .ref taz5, .ref taz6, .int 0])), (taz1, .inl (0, 108, .inl (fun _ => 0))), (taz2, .inl (0, 108, .inl (fun _ => 0))), (taz3, .inl (0, 108, .inl (fun _ => 0))), (taz4, .inl (0, 108, .inl (fun _ => 0))), (taz5, .inl (0, 108, .inl (fun _ => 0))), (taz6, .inl (0, 108, .inl (fun _ => 0))), (ta4, .inl (2, 108, .inl (fun _ => 0))), (ta5, .inl (2, 108, .inl (fun _ => 0))), (ta6, .inl (0, 108, .inl (fun _ => 0))), (sa, .inr (10, [.ref sa1, .ref sa2, .ref saz, .ref sa4, .ref sa5, .ref sa6, .int 0, .int 0])), (sa1, .inl (1, 108, .inl (fa_fill (fun _ => 46) (fun _ => 0) 108))), (sa2, .inl (0, 108, .inl (fun _ => 0))), (saz, .inr (2, [.ref saz1, .ref saz2, .ref saz3, .ref saz4, .ref saz5, .ref saz6, .int 0])), (saz1, .inl (0, 108, .inl (fun _ => 0))), (saz2, .inl (0, 108, .inl (fun _ => 0))), (saz3, .inl (0, 108, .inl (fun _ => 0))), (saz4, .inl (0, 108, .inl (fun _ => 0))), (saz5, .inl (0, 108, .inl (fun _ => 0))), (saz6, .inl (0, 108, .inl (fun _ => 0))), (sa4, .inl (2, 108, .inl (fun _ => 0))), (sa5, .inl (2, 108, .inl (fun _ => 0))), (sa6, .inl (0, 108, .inl (fun _ => 0)))]) rfl ?_
        refine r_aload_n d_Ip_init_37 rfl 0 rfl ?_
        refine r_new nc_Ip_26 d_Ip_init_38 (by omega) (by omega) (fun gs => ?_)
        refine r_cs (cs2 := [(a, .inr (11, [.ref pa, .ref ta, .ref sa, .null, .null, .null, .null, .null, .null, .null, .null, .null])), (pa, .inr (8, [.ref pa1, .ref pa2, .ref pa3, .int 4])), (pa1, .inl (1, 108, .inl (fa_fill (fun _ => 46) (fun _ => 0) 108))), (pa2, .inl (2, 108, .inl (fun _ => 0))), (pa3, .inl (0, 108, .inl (fun _ => 0))), (ta, .inr (10, [.ref ta1, .ref ta2, .ref taz, .ref ta4, .ref ta5, .ref ta6, .int 0, .int 0])), (ta1, .inl (1, 108, .inl (fa_fill (fun _ => 46) (fun _ => 0) 108))), (ta2, .inl (0, 108, .inl (fun _ => 0))), (taz, .inr (2, [.ref taz1, .ref taz2, .ref taz3, .ref taz4, .ref taz5, .ref taz6, .int 0])), (taz1, .inl (0, 108, .inl (fun _ => 0))), (taz2, .inl (0, 108, .inl (fun _ => 0))), (taz3, .inl (0, 108, .inl (fun _ => 0))), (taz4, .inl (0, 108, .inl (fun _ => 0))), (taz5, .inl (0, 108, .inl (fun _ => 0))), (taz6, .inl (0, 108, .inl (fun _ => 0))), (ta4, .inl (2, 108, .inl (fun _ => 0))), (ta5, .inl (2, 108, .inl (fun _ => 0))), (ta6, .inl (0, 108, .inl (fun _ => 0))), (sa, .inr (10, [.ref sa1, .ref sa2, .ref saz, .ref sa4, .ref sa5, .ref sa6, .int 0, .int 0])), (sa1, .inl (1, 108, .inl (fa_fill (fun _ => 46) (fun _ => 0) 108))), (sa2, .inl (0, 108, .inl (fun _ => 0))), (saz, .inr (2, [.ref saz1, .ref saz2, .ref saz3, .ref saz4, .ref saz5, .ref saz6, .int 0])), (saz1, .inl (0, 108, .inl (fun _ => 0))), (saz2, .inl (0, 108, .inl (fun _ => 0))), (saz3, .inl (0, 108, .inl (fun _ => 0))), (saz4, .inl (0, 108, .inl (fun _ => 0))), (saz5, .inl (0, 108, .inl (fun _ => 0))), (saz6, .inl (0, 108, .inl (fun _ => 0))), (sa4, .inl (2, 108, .inl (fun _ => 0))), (sa5, .inl (2, 108, .inl (fun _ => 0))), (sa6, .inl (0, 108, .inl (fun _ => 0))), (gs, .inr (4, [.int 0, .int 0, .int 0, .int 0, .int 0]))]) rfl ?_
        refine r_dup d_Ip_init_41 rfl ?_
        refine r_callIN (As := []) (rest := [.ref gs, .ref a]) (csC := [(gs, .inr (4, [.int 0, .int 0, .int 0, .int 0, .int 0]))]) (is := [31]) rfl rfl ln_Ip_28 w_im_GS_init ok_Ip_init_GS_init d_Ip_init_42 (C_GS_init g gs) rfl rfl (Nat.le_of_ble_eq_true rfl) rfl (by decide) (by omega) (by omega) (fun E cs1 hx => ?_) (fun v cs1 hx => ?_)
        · exact absurd hx.1 (by simp)
        · obtain ⟨e1, rfl⟩ := hx
          cases e1
          refine ⟨rfl, ?_⟩
          refine r_st (st2 := [.ref gs, .ref a]) rfl ?_
          refine r_cs (cs2 := [(a, .inr (11, [.ref pa, .ref ta, .ref sa, .null, .null, .null, .null, .null, .null, .null, .null, .null])), (pa, .inr (8, [.ref pa1, .ref pa2, .ref pa3, .int 4])), (pa1, .inl (1, 108, .inl (fa_fill (fun _ => 46) (fun _ => 0) 108))), (pa2, .inl (2, 108, .inl (fun _ => 0))), (pa3, .inl (0, 108, .inl (fun _ => 0))), (ta, .inr (10, [.ref ta1, .ref ta2, .ref taz, .ref ta4, .ref ta5, .ref ta6, .int 0, .int 0])), (ta1, .inl (1, 108, .inl (fa_fill (fun _ => 46) (fun _ => 0) 108))), (ta2, .inl (0, 108, .inl (fun _ => 0))), (taz, .inr (2, [.ref taz1, .ref taz2, .ref taz3, .ref taz4, .ref taz5, .ref taz6, .int 0])), (taz1, .inl (0, 108, .inl (fun _ => 0))), (taz2, .inl (0, 108, .inl (fun _ => 0))), (taz3, .inl (0, 108, .inl (fun _ => 0))), (taz4, .inl (0, 108, .inl (fun _ => 0))), (taz5, .inl (0, 108, .inl (fun _ => 0))), (taz6, .inl (0, 108, .inl (fun _ => 0))), (ta4, .inl (2, 108, .inl (fun _ => 0))), (ta5, .inl (2, 108, .inl (fun _ => 0))), (ta6, .inl (0, 108, .inl (fun _ => 0))), (sa, .inr (10, [.ref sa1, .ref sa2, .ref saz, .ref sa4, .ref sa5, .ref sa6, .int 0, .int 0])), (sa1, .inl (1, 108, .inl (fa_fill (fun _ => 46) (fun _ => 0) 108))), (sa2, .inl (0, 108, .inl (fun _ => 0))), (saz, .inr (2, [.ref saz1, .ref saz2, .ref saz3, .ref saz4, .ref saz5, .ref saz6, .int 0])), (saz1, .inl (0, 108, .inl (fun _ => 0))), (saz2, .inl (0, 108, .inl (fun _ => 0))), (saz3, .inl (0, 108, .inl (fun _ => 0))), (saz4, .inl (0, 108, .inl (fun _ => 0))), (saz5, .inl (0, 108, .inl (fun _ => 0))), (saz6, .inl (0, 108, .inl (fun _ => 0))), (sa4, .inl (2, 108, .inl (fun _ => 0))), (sa5, .inl (2, 108, .inl (fun _ => 0))), (sa6, .inl (0, 108, .inl (fun _ => 0))), (gs, .inr (4, [.int 80, .int 35, .int 30, .int 50, .int 0]))]) rfl ?_
          refine r_put fp_Ip_29 d_Ip_init_45 (fun _ => rfl) rfl rfl (q0 := 0) rfl (Nat.le_of_ble_eq_true rfl) (cs' := [(a, .inr (11, [.ref pa, .ref ta, .ref sa, .ref gs, .null, .null, .null, .null, .null, .null, .null, .null])), (pa, .inr (8, [.ref pa1, .ref pa2, .ref pa3, .int 4])), (pa1, .inl (1, 108, .inl (fa_fill (fun _ => 46) (fun _ => 0) 108))), (pa2, .inl (2, 108, .inl (fun _ => 0))), (pa3, .inl (0, 108, .inl (fun _ => 0))), (ta, .inr (10, [.ref ta1, .ref ta2, .ref taz, .ref ta4, .ref ta5, .ref ta6, .int 0, .int 0])), (ta1, .inl (1, 108, .inl (fa_fill (fun _ => 46) (fun _ => 0) 108))), (ta2, .inl (0, 108, .inl (fun _ => 0))), (taz, .inr (2, [.ref taz1, .ref taz2, .ref taz3, .ref taz4, .ref taz5, .ref taz6, .int 0])), (taz1, .inl (0, 108, .inl (fun _ => 0))), (taz2, .inl (0, 108, .inl (fun _ => 0))), (taz3, .inl (0, 108, .inl (fun _ => 0))), (taz4, .inl (0, 108, .inl (fun _ => 0))), (taz5, .inl (0, 108, .inl (fun _ => 0))), (taz6, .inl (0, 108, .inl (fun _ => 0))), (ta4, .inl (2, 108, .inl (fun _ => 0))), (ta5, .inl (2, 108, .inl (fun _ => 0))), (ta6, .inl (0, 108, .inl (fun _ => 0))), (sa, .inr (10, [.ref sa1, .ref sa2, .ref saz, .ref sa4, .ref sa5, .ref sa6, .int 0, .int 0])), (sa1, .inl (1, 108, .inl (fa_fill (fun _ => 46) (fun _ => 0) 108))), (sa2, .inl (0, 108, .inl (fun _ => 0))), (saz, .inr (2, [.ref saz1, .ref saz2, .ref saz3, .ref saz4, .ref saz5, .ref saz6, .int 0])), (saz1, .inl (0, 108, .inl (fun _ => 0))), (saz2, .inl (0, 108, .inl (fun _ => 0))), (saz3, .inl (0, 108, .inl (fun _ => 0))), (saz4, .inl (0, 108, .inl (fun _ => 0))), (saz5, .inl (0, 108, .inl (fun _ => 0))), (saz6, .inl (0, 108, .inl (fun _ => 0))), (sa4, .inl (2, 108, .inl (fun _ => 0))), (sa5, .inl (2, 108, .inl (fun _ => 0))), (sa6, .inl (0, 108, .inl (fun _ => 0))), (gs, .inr (4, [.int 80, .int 35, .int 30, .int 50, .int 0]))]) rfl ?_
          refine r_aload_n d_Ip_init_48 rfl 0 rfl ?_
          refine r_new nc_Ip_33 d_Ip_init_49 (by omega) (by omega) (fun co => ?_)
          refine r_cs (cs2 := [(a, .inr (11, [.ref pa, .ref ta, .ref sa, .ref gs, .null, .null, .null, .null, .null, .null, .null, .null])), (pa, .inr (8, [.ref pa1, .ref pa2, .ref pa3, .int 4])), (pa1, .inl (1, 108, .inl (fa_fill (fun _ => 46) (fun _ => 0) 108))), (pa2, .inl (2, 108, .inl (fun _ => 0))), (pa3, .inl (0, 108, .inl (fun _ => 0))), (ta, .inr (10, [.ref ta1, .ref ta2, .ref taz, .ref ta4, .ref ta5, .ref ta6, .int 0, .int 0])), (ta1, .inl (1, 108, .inl (fa_fill (fun _ => 46) (fun _ => 0) 108))), (ta2, .inl (0, 108, .inl (fun _ => 0))), (taz, .inr (2, [.ref taz1, .ref taz2, .ref taz3, .ref taz4, .ref taz5, .ref taz6, .int 0])), (taz1, .inl (0, 108, .inl (fun _ => 0))), (taz2, .inl (0, 108, .inl (fun _ => 0))), (taz3, .inl (0, 108, .inl (fun _ => 0))), (taz4, .inl (0, 108, .inl (fun _ => 0))), (taz5, .inl (0, 108, .inl (fun _ => 0))), (taz6, .inl (0, 108, .inl (fun _ => 0))), (ta4, .inl (2, 108, .inl (fun _ => 0))), (ta5, .inl (2, 108, .inl (fun _ => 0))), (ta6, .inl (0, 108, .inl (fun _ => 0))), (sa, .inr (10, [.ref sa1, .ref sa2, .ref saz, .ref sa4, .ref sa5, .ref sa6, .int 0, .int 0])), (sa1, .inl (1, 108, .inl (fa_fill (fun _ => 46) (fun _ => 0) 108))), (sa2, .inl (0, 108, .inl (fun _ => 0))), (saz, .inr (2, [.ref saz1, .ref saz2, .ref saz3, .ref saz4, .ref saz5, .ref saz6, .int 0])), (saz1, .inl (0, 108, .inl (fun _ => 0))), (saz2, .inl (0, 108, .inl (fun _ => 0))), (saz3, .inl (0, 108, .inl (fun _ => 0))), (saz4, .inl (0, 108, .inl (fun _ => 0))), (saz5, .inl (0, 108, .inl (fun _ => 0))), (saz6, .inl (0, 108, .inl (fun _ => 0))), (sa4, .inl (2, 108, .inl (fun _ => 0))), (sa5, .inl (2, 108, .inl (fun _ => 0))), (sa6, .inl (0, 108, .inl (fun _ => 0))), (gs, .inr (4, [.int 80, .int 35, .int 30, .int 50, .int 0])), (co, .inr (1, [.null, .null, .null, .int 0]))]) rfl ?_
          refine r_dup d_Ip_init_52 rfl ?_
          refine r_callIN (As := []) (rest := [.ref co, .ref a]) (csC := [(co, .inr (1, [.null, .null, .null, .int 0]))]) (is := [32]) rfl rfl ln_Ip_35 w_im_CS_init ok_Ip_init_CS_init d_Ip_init_53 (C_CS_init g co) rfl rfl (Nat.le_of_ble_eq_true rfl) rfl (by decide) (by omega) (by omega) (fun E cs1 hx => ?_) (fun v cs1 hx => ?_)
          · obtain ⟨co1, co2, co3, e1, -⟩ := hx
            cases e1
          · obtain ⟨co1, co2, co3, e1, rfl⟩ := hx
            cases e1
            refine ⟨rfl, ?_⟩
            refine r_st (st2 := [.ref co, .ref a]) rfl ?_
            refine r_cs (cs2 := [(a, .inr (11, [.ref pa, .ref ta, .ref sa, .ref gs, .null, .null, .null, .null, .null, .null, .null, .null])), (pa, .inr (8, [.ref pa1, .ref pa2, .ref pa3, .int 4])), (pa1, .inl (1, 108, .inl (fa_fill (fun _ => 46) (fun _ => 0) 108))), (pa2, .inl (2, 108, .inl (fun _ => 0))), (pa3, .inl (0, 108, .inl (fun _ => 0))), (ta, .inr (10, [.ref ta1, .ref ta2, .ref taz, .ref ta4, .ref ta5, .ref ta6, .int 0, .int 0])), (ta1, .inl (1, 108, .inl (fa_fill (fun _ => 46) (fun _ => 0) 108))), (ta2, .inl (0, 108, .inl (fun _ => 0))), (taz, .inr (2, [.ref taz1, .ref taz2, .ref taz3, .ref taz4, .ref taz5, .ref taz6, .int 0])), (taz1, .inl (0, 108, .inl (fun _ => 0))), (taz2, .inl (0, 108, .inl (fun _ => 0))), (taz3, .inl (0, 108, .inl (fun _ => 0))), (taz4, .inl (0, 108, .inl (fun _ => 0))), (taz5, .inl (0, 108, .inl (fun _ => 0))), (taz6, .inl (0, 108, .inl (fun _ => 0))), (ta4, .inl (2, 108, .inl (fun _ => 0))), (ta5, .inl (2, 108, .inl (fun _ => 0))), (ta6, .inl (0, 108, .inl (fun _ => 0))), (sa, .inr (10, [.ref sa1, .ref sa2, .ref saz, .ref sa4, .ref sa5, .ref sa6, .int 0, .int 0])), (sa1, .inl (1, 108, .inl (fa_fill (fun _ => 46) (fun _ => 0) 108))), (sa2, .inl (0, 108, .inl (fun _ => 0))), (saz, .inr (2, [.ref saz1, .ref saz2, .ref saz3, .ref saz4, .ref saz5, .ref saz6, .int 0])), (saz1, .inl (0, 108, .inl (fun _ => 0))), (saz2, .inl (0, 108, .inl (fun _ => 0))), (saz3, .inl (0, 108, .inl (fun _ => 0))), (saz4, .inl (0, 108, .inl (fun _ => 0))), (saz5, .inl (0, 108, .inl (fun _ => 0))), (saz6, .inl (0, 108, .inl (fun _ => 0))), (sa4, .inl (2, 108, .inl (fun _ => 0))), (sa5, .inl (2, 108, .inl (fun _ => 0))), (sa6, .inl (0, 108, .inl (fun _ => 0))), (gs, .inr (4, [.int 80, .int 35, .int 30, .int 50, .int 0])), (co, .inr (1, [.ref co1, .ref co2, .ref co3, .int 0])), (co1, .inl (0, 20, .inl (fun _ => 0))), (co2, .inl (0, 20, .inl (fun _ => 0))), (co3, .inl (0, 20, .inl (fun _ => 0)))]) rfl ?_
            refine r_put fp_Ip_36 d_Ip_init_56 (fun _ => rfl) rfl rfl (q0 := 0) rfl (Nat.le_of_ble_eq_true rfl) (cs' := [(a, .inr (11, [.ref pa, .ref ta, .ref sa, .ref gs, .ref co, .null, .null, .null, .null, .null, .null, .null])), (pa, .inr (8, [.ref pa1, .ref pa2, .ref pa3, .int 4])), (pa1, .inl (1, 108, .inl (fa_fill (fun _ => 46) (fun _ => 0) 108))), (pa2, .inl (2, 108, .inl (fun _ => 0))), (pa3, .inl (0, 108, .inl (fun _ => 0))), (ta, .inr (10, [.ref ta1, .ref ta2, .ref taz, .ref ta4, .ref ta5, .ref ta6, .int 0, .int 0])), (ta1, .inl (1, 108, .inl (fa_fill (fun _ => 46) (fun _ => 0) 108))), (ta2, .inl (0, 108, .inl (fun _ => 0))), (taz, .inr (2, [.ref taz1, .ref taz2, .ref taz3, .ref taz4, .ref taz5, .ref taz6, .int 0])), (taz1, .inl (0, 108, .inl (fun _ => 0))), (taz2, .inl (0, 108, .inl (fun _ => 0))), (taz3, .inl (0, 108, .inl (fun _ => 0))), (taz4, .inl (0, 108, .inl (fun _ => 0))), (taz5, .inl (0, 108, .inl (fun _ => 0))), (taz6, .inl (0, 108, .inl (fun _ => 0))), (ta4, .inl (2, 108, .inl (fun _ => 0))), (ta5, .inl (2, 108, .inl (fun _ => 0))), (ta6, .inl (0, 108, .inl (fun _ => 0))), (sa, .inr (10, [.ref sa1, .ref sa2, .ref saz, .ref sa4, .ref sa5, .ref sa6, .int 0, .int 0])), (sa1, .inl (1, 108, .inl (fa_fill (fun _ => 46) (fun _ => 0) 108))), (sa2, .inl (0, 108, .inl (fun _ => 0))), (saz, .inr (2, [.ref saz1, .ref saz2, .ref saz3, .ref saz4, .ref saz5, .ref saz6, .int 0])), (saz1, .inl (0, 108, .inl (fun _ => 0))), (saz2, .inl (0, 108, .inl (fun _ => 0))), (saz3, .inl (0, 108, .inl (fun _ => 0))), (saz4, .inl (0, 108, .inl (fun _ => 0))), (saz5, .inl (0, 108, .inl (fun _ => 0))), (saz6, .inl (0, 108, .inl (fun _ => 0))), (sa4, .inl (2, 108, .inl (fun _ => 0))), (sa5, .inl (2, 108, .inl (fun _ => 0))), (sa6, .inl (0, 108, .inl (fun _ => 0))), (gs, .inr (4, [.int 80, .int 35, .int 30, .int 50, .int 0])), (co, .inr (1, [.ref co1, .ref co2, .ref co3, .int 0])), (co1, .inl (0, 20, .inl (fun _ => 0))), (co2, .inl (0, 20, .inl (fun _ => 0))), (co3, .inl (0, 20, .inl (fun _ => 0)))]) rfl ?_
            refine r_aload_n d_Ip_init_59 rfl 0 rfl ?_
            refine r_new nc_Ip_40 d_Ip_init_60 (by omega) (by omega) (fun fu => ?_)
            refine r_cs (cs2 := [(a, .inr (11, [.ref pa, .ref ta, .ref sa, .ref gs, .ref co, .null, .null, .null, .null, .null, .null, .null])), (pa, .inr (8, [.ref pa1, .ref pa2, .ref pa3, .int 4])), (pa1, .inl (1, 108, .inl (fa_fill (fun _ => 46) (fun _ => 0) 108))), (pa2, .inl (2, 108, .inl (fun _ => 0))), (pa3, .inl (0, 108, .inl (fun _ => 0))), (ta, .inr (10, [.ref ta1, .ref ta2, .ref taz, .ref ta4, .ref ta5, .ref ta6, .int 0, .int 0])), (ta1, .inl (1, 108, .inl (fa_fill (fun _ => 46) (fun _ => 0) 108))), (ta2, .inl (0, 108, .inl (fun _ => 0))), (taz, .inr (2, [.ref taz1, .ref taz2, .ref taz3, .ref taz4, .ref taz5, .ref taz6, .int 0])), (taz1, .inl (0, 108, .inl (fun _ => 0))), (taz2, .inl (0, 108, .inl (fun _ => 0))), (taz3, .inl (0, 108, .inl (fun _ => 0))), (taz4, .inl (0, 108, .inl (fun _ => 0))), (taz5, .inl (0, 108, .inl (fun _ => 0))), (taz6, .inl (0, 108, .inl (fun _ => 0))), (ta4, .inl (2, 108, .inl (fun _ => 0))), (ta5, .inl (2, 108, .inl (fun _ => 0))), (ta6, .inl (0, 108, .inl (fun _ => 0))), (sa, .inr (10, [.ref sa1, .ref sa2, .ref saz, .ref sa4, .ref sa5, .ref sa6, .int 0, .int 0])), (sa1, .inl (1, 108, .inl (fa_fill (fun _ => 46) (fun _ => 0) 108))), (sa2, .inl (0, 108, .inl (fun _ => 0))), (saz, .inr (2, [.ref saz1, .ref saz2, .ref saz3, .ref saz4, .ref saz5, .ref saz6, .int 0])), (saz1, .inl (0, 108, .inl (fun _ => 0))), (saz2, .inl (0, 108, .inl (fun _ => 0))), (saz3, .inl (0, 108, .inl (fun _ => 0))), (saz4, .inl (0, 108, .inl (fun _ => 0))), (saz5, .inl (0, 108, .inl (fun _ => 0))), (saz6, .inl (0, 108, .inl (fun _ => 0))), (sa4, .inl (2, 108, .inl (fun _ => 0))), (sa5, .inl (2, 108, .inl (fun _ => 0))), (sa6, .inl (0, 108, .inl (fun _ => 0))), (gs, .inr (4, [.int 80, .int 35, .int 30, .int 50, .int 0])), (co, .inr (1, [.ref co1, .ref co2, .ref co3, .int 0])), (co1, .inl (0, 20, .inl (fun _ => 0))), (co2, .inl (0, 20, .inl (fun _ => 0))), (co3, .inl (0, 20, .inl (fun _ => 0))), (fu, .inr (3, [.null, .null, .null, .null, .long 0]))]) rfl ?_
            refine r_dup d_Ip_init_63 rfl ?_
            refine r_callIN (As := []) (rest := [.ref fu, .ref a]) (csC := [(fu, .inr (3, [.null, .null, .null, .null, .long 0]))]) (is := [36]) rfl rfl ln_Ip_42 w_im_Fu_init ok_Ip_init_Fu_init d_Ip_init_64 (C_Fu_init g fu) rfl rfl (Nat.le_of_ble_eq_true rfl) rfl (by decide) (by omega) (by omega) (fun E cs1 hx => ?_) (fun v cs1 hx => ?_)
            · obtain ⟨fub, fubg, fut1, fut2, fut3, e1, -⟩ := hx
              cases e1
            · obtain ⟨fub, fubg, fut1, fut2, fut3, e1, rfl⟩ := hx
              cases e1
              refine ⟨rfl, ?_⟩
              refine r_st (st2 := [.ref fu, .ref a]) rfl ?_
              refine r_cs (cs2 := [(a, .inr (11, [.ref pa, .ref ta, .ref sa, .ref gs, .ref co, .null, .null, .null, .null, .null, .null, .null])), (pa, .inr (8, [.ref pa1, .ref pa2, .ref pa3, .int 4])), (pa1, .inl (1, 108, .inl (fa_fill (fun _ => 46) (fun _ => 0) 108))), (pa2, .inl (2, 108, .inl (fun _ => 0))), (pa3, .inl (0, 108, .inl (fun _ => 0))), (ta, .inr (10, [.ref ta1, .ref ta2, .ref taz, .ref ta4, .ref ta5, .ref ta6, .int 0, .int 0])), (ta1, .inl (1, 108, .inl (fa_fill (fun _ => 46) (fun _ => 0) 108))), (ta2, .inl (0, 108, .inl (fun _ => 0))), (taz, .inr (2, [.ref taz1, .ref taz2, .ref taz3, .ref taz4, .ref taz5, .ref taz6, .int 0])), (taz1, .inl (0, 108, .inl (fun _ => 0))), (taz2, .inl (0, 108, .inl (fun _ => 0))), (taz3, .inl (0, 108, .inl (fun _ => 0))), (taz4, .inl (0, 108, .inl (fun _ => 0))), (taz5, .inl (0, 108, .inl (fun _ => 0))), (taz6, .inl (0, 108, .inl (fun _ => 0))), (ta4, .inl (2, 108, .inl (fun _ => 0))), (ta5, .inl (2, 108, .inl (fun _ => 0))), (ta6, .inl (0, 108, .inl (fun _ => 0))), (sa, .inr (10, [.ref sa1, .ref sa2, .ref saz, .ref sa4, .ref sa5, .ref sa6, .int 0, .int 0])), (sa1, .inl (1, 108, .inl (fa_fill (fun _ => 46) (fun _ => 0) 108))), (sa2, .inl (0, 108, .inl (fun _ => 0))), (saz, .inr (2, [.ref saz1, .ref saz2, .ref saz3, .ref saz4, .ref saz5, .ref saz6, .int 0])), (saz1, .inl (0, 108, .inl (fun _ => 0))), (saz2, .inl (0, 108, .inl (fun _ => 0))), (saz3, .inl (0, 108, .inl (fun _ => 0))), (saz4, .inl (0, 108, .inl (fun _ => 0))), (saz5, .inl (0, 108, .inl (fun _ => 0))), (saz6, .inl (0, 108, .inl (fun _ => 0))), (sa4, .inl (2, 108, .inl (fun _ => 0))), (sa5, .inl (2, 108, .inl (fun _ => 0))), (sa6, .inl (0, 108, .inl (fun _ => 0))), (gs, .inr (4, [.int 80, .int 35, .int 30, .int 50, .int 0])), (co, .inr (1, [.ref co1, .ref co2, .ref co3, .int 0])), (co1, .inl (0, 20, .inl (fun _ => 0))), (co2, .inl (0, 20, .inl (fun _ => 0))), (co3, .inl (0, 20, .inl (fun _ => 0))), (fu, .inr (3, [.ref fub, .ref fut1, .ref fut2, .ref fut3, .long 0])), (fub, .inr (6, [.ref fubg, .int 0])), (fubg, .inl (3, 4, .inr (.inl (fun _ => 0)))), (fut1, .inl (3, 4, .inr (.inl (fun _ => 0)))), (fut2, .inl (3, 4, .inr (.inl (fun _ => 0)))), (fut3, .inl (3, 4, .inr (.inl (fun _ => 0))))]) rfl ?_
              refine r_put fp_Ip_43 d_Ip_init_67 (fun _ => rfl) rfl rfl (q0 := 0) rfl (Nat.le_of_ble_eq_true rfl) (cs' := [(a, .inr (11, [.ref pa, .ref ta, .ref sa, .ref gs, .ref co, .ref fu, .null, .null, .null, .null, .null, .null])), (pa, .inr (8, [.ref pa1, .ref pa2, .ref pa3, .int 4])), (pa1, .inl (1, 108, .inl (fa_fill (fun _ => 46) (fun _ => 0) 108))), (pa2, .inl (2, 108, .inl (fun _ => 0))), (pa3, .inl (0, 108, .inl (fun _ => 0))), (ta, .inr (10, [.ref ta1, .ref ta2, .ref taz, .ref ta4, .ref ta5, .ref ta6, .int 0, .int 0])), (ta1, .inl (1, 108, .inl (fa_fill (fun _ => 46) (fun _ => 0) 108))), (ta2, .inl (0, 108, .inl (fun _ => 0))), (taz, .inr (2, [.ref taz1, .ref taz2, .ref taz3, .ref taz4, .ref taz5, .ref taz6, .int 0])), (taz1, .inl (0, 108, .inl (fun _ => 0))), (taz2, .inl (0, 108, .inl (fun _ => 0))), (taz3, .inl (0, 108, .inl (fun _ => 0))), (taz4, .inl (0, 108, .inl (fun _ => 0))), (taz5, .inl (0, 108, .inl (fun _ => 0))), (taz6, .inl (0, 108, .inl (fun _ => 0))), (ta4, .inl (2, 108, .inl (fun _ => 0))), (ta5, .inl (2, 108, .inl (fun _ => 0))), (ta6, .inl (0, 108, .inl (fun _ => 0))), (sa, .inr (10, [.ref sa1, .ref sa2, .ref saz, .ref sa4, .ref sa5, .ref sa6, .int 0, .int 0])), (sa1, .inl (1, 108, .inl (fa_fill (fun _ => 46) (fun _ => 0) 108))), (sa2, .inl (0, 108, .inl (fun _ => 0))), (saz, .inr (2, [.ref saz1, .ref saz2, .ref saz3, .ref saz4, .ref saz5, .ref saz6, .int 0])), (saz1, .inl (0, 108, .inl (fun _ => 0))), (saz2, .inl (0, 108, .inl (fun _ => 0))), (saz3, .inl (0, 108, .inl (fun _ => 0))), (saz4, .inl (0, 108, .inl (fun _ => 0))), (saz5, .inl (0, 108, .inl (fun _ => 0))), (saz6, .inl (0, 108, .inl (fun _ => 0))), (sa4, .inl (2, 108, .inl (fun _ => 0))), (sa5, .inl (2, 108, .inl (fun _ => 0))), (sa6, .inl (0, 108, .inl (fun _ => 0))), (gs, .inr (4, [.int 80, .int 35, .int 30, .int 50, .int 0])), (co, .inr (1, [.ref co1, .ref co2, .ref co3, .int 0])), (co1, .inl (0, 20, .inl (fun _ => 0))), (co2, .inl (0, 20, .inl (fun _ => 0))), (co3, .inl (0, 20, .inl (fun _ => 0))), (fu, .inr (3, [.ref fub, .ref fut1, .ref fut2, .ref fut3, .long 0])), (fub, .inr (6, [.ref fubg, .int 0])), (fubg, .inl (3, 4, .inr (.inl (fun _ => 0)))), (fut1, .inl (3, 4, .inr (.inl (fun _ => 0)))), (fut2, .inl (3, 4, .inr (.inl (fun _ => 0)))), (fut3, .inl (3, 4, .inr (.inl (fun _ => 0))))]) rfl ?_
              refine r_aload_n d_Ip_init_70 rfl 0 rfl ?_
              refine r_new nc_Ip_47 d_Ip_init_71 (by omega) (by omega) (fun la => ?_)
              refine r_cs (cs2 := [(a, .inr (11, [.ref pa, .ref ta, .ref sa, .ref gs, .ref co, .ref fu, .null, .null, .null, .null, .null, .null])), (pa, .inr (8, [.ref pa1, .ref pa2, .ref pa3, .int 4])), (pa1, .inl (1, 108, .inl (fa_fill (fun _ => 46) (fun _ => 0) 108))), (pa2, .inl (2, 108, .inl (fun _ => 0))), (pa3, .inl (0, 108, .inl (fun _ => 0))), (ta, .inr (10, [.ref ta1, .ref ta2, .ref taz, .ref ta4, .ref ta5, .ref ta6, .int 0, .int 0])), (ta1, .inl (1, 108, .inl (fa_fill (fun _ => 46) (fun _ => 0) 108))), (ta2, .inl (0, 108, .inl (fun _ => 0))), (taz, .inr (2, [.ref taz1, .ref taz2, .ref taz3, .ref taz4, .ref taz5, .ref taz6, .int 0])), (taz1, .inl (0, 108, .inl (fun _ => 0))), (taz2, .inl (0, 108, .inl (fun _ => 0))), (taz3, .inl (0, 108, .inl (fun _ => 0))), (taz4, .inl (0, 108, .inl (fun _ => 0))), (taz5, .inl (0, 108, .inl (fun _ => 0))), (taz6, .inl (0, 108, .inl (fun _ => 0))), (ta4, .inl (2, 108, .inl (fun _ => 0))), (ta5, .inl (2, 108, .inl (fun _ => 0))), (ta6, .inl (0, 108, .inl (fun _ => 0))), (sa, .inr (10, [.ref sa1, .ref sa2, .ref saz, .ref sa4, .ref sa5, .ref sa6, .int 0, .int 0])), (sa1, .inl (1, 108, .inl (fa_fill (fun _ => 46) (fun _ => 0) 108))), (sa2, .inl (0, 108, .inl (fun _ => 0))), (saz, .inr (2, [.ref saz1, .ref saz2, .ref saz3, .ref saz4, .ref saz5, .ref saz6, .int 0])), (saz1, .inl (0, 108, .inl (fun _ => 0))), (saz2, .inl (0, 108, .inl (fun _ => 0))), (saz3, .inl (0, 108, .inl (fun _ => 0))), (saz4, .inl (0, 108, .inl (fun _ => 0))), (saz5, .inl (0, 108, .inl (fun _ => 0))), (saz6, .inl (0, 108, .inl (fun _ => 0))), (sa4, .inl (2, 108, .inl (fun _ => 0))), (sa5, .inl (2, 108, .inl (fun _ => 0))), (sa6, .inl (0, 108, .inl (fun _ => 0))), (gs, .inr (4, [.int 80, .int 35, .int 30, .int 50, .int 0])), (co, .inr (1, [.ref co1, .ref co2, .ref co3, .int 0])), (co1, .inl (0, 20, .inl (fun _ => 0))), (co2, .inl (0, 20, .inl (fun _ => 0))), (co3, .inl (0, 20, .inl (fun _ => 0))), (fu, .inr (3, [.ref fub, .ref fut1, .ref fut2, .ref fut3, .long 0])), (fub, .inr (6, [.ref fubg, .int 0])), (fubg, .inl (3, 4, .inr (.inl (fun _ => 0)))), (fut1, .inl (3, 4, .inr (.inl (fun _ => 0)))), (fut2, .inl (3, 4, .inr (.inl (fun _ => 0)))), (fut3, .inl (3, 4, .inr (.inl (fun _ => 0)))), (la, .inr (5, [.null, .int 0, .int 0, .int 0]))]) rfl ?_
              refine r_dup d_Ip_init_74 rfl ?_
              refine r_callIN (As := []) (rest := [.ref la, .ref a]) (csC := [(la, .inr (5, [.null, .int 0, .int 0, .int 0]))]) (is := [42]) rfl rfl ln_Ip_49 w_im_La_init ok_Ip_init_La_init d_Ip_init_75 (C_La_init g la) rfl rfl (Nat.le_of_ble_eq_true rfl) rfl (by decide) (by omega) (by omega) (fun E cs1 hx => ?_) (fun v cs1 hx => ?_)
              · obtain ⟨lab, labg, e1, -⟩ := hx
                cases e1
              · obtain ⟨lab, labg, e1, rfl⟩ := hx
                cases e1
                refine ⟨rfl, ?_⟩
                refine r_st (st2 := [.ref la, .ref a]) rfl ?_
                refine r_cs (cs2 := [(a, .inr (11, [.ref pa, .ref ta, .ref sa, .ref gs, .ref co, .ref fu, .null, .null, .null, .null, .null, .null])), (pa, .inr (8, [.ref pa1, .ref pa2, .ref pa3, .int 4])), (pa1, .inl (1, 108, .inl (fa_fill (fun _ => 46) (fun _ => 0) 108))), (pa2, .inl (2, 108, .inl (fun _ => 0))), (pa3, .inl (0, 108, .inl (fun _ => 0))), (ta, .inr (10, [.ref ta1, .ref ta2, .ref taz, .ref ta4, .ref ta5, .ref ta6, .int 0, .int 0])), (ta1, .inl (1, 108, .inl (fa_fill (fun _ => 46) (fun _ => 0) 108))), (ta2, .inl (0, 108, .inl (fun _ => 0))), (taz, .inr (2, [.ref taz1, .ref taz2, .ref taz3, .ref taz4, .ref taz5, .ref taz6, .int 0])), (taz1, .inl (0, 108, .inl (fun _ => 0))), (taz2, .inl (0, 108, .inl (fun _ => 0))), (taz3, .inl (0, 108, .inl (fun _ => 0))), (taz4, .inl (0, 108, .inl (fun _ => 0))), (taz5, .inl (0, 108, .inl (fun _ => 0))), (taz6, .inl (0, 108, .inl (fun _ => 0))), (ta4, .inl (2, 108, .inl (fun _ => 0))), (ta5, .inl (2, 108, .inl (fun _ => 0))), (ta6, .inl (0, 108, .inl (fun _ => 0))), (sa, .inr (10, [.ref sa1, .ref sa2, .ref saz, .ref sa4, .ref sa5, .ref sa6, .int 0, .int 0])), (sa1, .inl (1, 108, .inl (fa_fill (fun _ => 46) (fun _ => 0) 108))), (sa2, .inl (0, 108, .inl (fun _ => 0))), (saz, .inr (2, [.ref saz1, .ref saz2, .ref saz3, .ref saz4, .ref saz5, .ref saz6, .int 0])), (saz1, .inl (0, 108, .inl (fun _ => 0))), (saz2, .inl (0, 108, .inl (fun _ => 0))), (saz3, .inl (0, 108, .inl (fun _ => 0))), (saz4, .inl (0, 108, .inl (fun _ => 0))), (saz5, .inl (0, 108, .inl (fun _ => 0))), (saz6, .inl (0, 108, .inl (fun _ => 0))), (sa4, .inl (2, 108, .inl (fun _ => 0))), (sa5, .inl (2, 108, .inl (fun _ => 0))), (sa6, .inl (0, 108, .inl (fun _ => 0))), (gs, .inr (4, [.int 80, .int 35, .int 30, .int 50, .int 0])), (co, .inr (1, [.ref co1, .ref co2, .ref co3, .int 0])), (co1, .inl (0, 20, .inl (fun _ => 0))), (co2, .inl (0, 20, .inl (fun _ => 0))), (co3, .inl (0, 20, .inl (fun _ => 0))), (fu, .inr (3, [.ref fub, .ref fut1, .ref fut2, .ref fut3, .long 0])), (fub, .inr (6, [.ref fubg, .int 0])), (fubg, .inl (3, 4, .inr (.inl (fun _ => 0)))), (fut1, .inl (3, 4, .inr (.inl (fun _ => 0)))), (fut2, .inl (3, 4, .inr (.inl (fun _ => 0)))), (fut3, .inl (3, 4, .inr (.inl (fun _ => 0)))), (la, .inr (5, [.ref lab, .int 0, .int 0, .int 0])), (lab, .inr (6, [.ref labg, .int 0])), (labg, .inl (3, 4, .inr (.inl (fun _ => 0))))]) rfl ?_
                refine r_put fp_Ip_50 d_Ip_init_78 (fun _ => rfl) rfl rfl (q0 := 0) rfl (Nat.le_of_ble_eq_true rfl) (cs' := [(a, .inr (11, [.ref pa, .ref ta, .ref sa, .ref gs, .ref co, .ref fu, .ref la, .null, .null, .null, .null, .null])), (pa, .inr (8, [.ref pa1, .ref pa2, .ref pa3, .int 4])), (pa1, .inl (1, 108, .inl (fa_fill (fun _ => 46) (fun _ => 0) 108))), (pa2, .inl (2, 108, .inl (fun _ => 0))), (pa3, .inl (0, 108, .inl (fun _ => 0))), (ta, .inr (10, [.ref ta1, .ref ta2, .ref taz, .ref ta4, .ref ta5, .ref ta6, .int 0, .int 0])), (ta1, .inl (1, 108, .inl (fa_fill (fun _ => 46) (fun _ => 0) 108))), (ta2, .inl (0, 108, .inl (fun _ => 0))), (taz, .inr (2, [.ref taz1, .ref taz2, .ref taz3, .ref taz4, .ref taz5, .ref taz6, .int 0])), (taz1, .inl (0, 108, .inl (fun _ => 0))), (taz2, .inl (0, 108, .inl (fun _ => 0))), (taz3, .inl (0, 108, .inl (fun _ => 0))), (taz4, .inl (0, 108, .inl (fun _ => 0))), (taz5, .inl (0, 108, .inl (fun _ => 0))), (taz6, .inl (0, 108, .inl (fun _ => 0))), (ta4, .inl (2, 108, .inl (fun _ => 0))), (ta5, .inl (2, 108, .inl (fun _ => 0))), (ta6, .inl (0, 108, .inl (fun _ => 0))), (sa, .inr (10, [.ref sa1, .ref sa2, .ref saz, .ref sa4, .ref sa5, .ref sa6, .int 0, .int 0])), (sa1, .inl (1, 108, .inl (fa_fill (fun _ => 46) (fun _ => 0) 108))), (sa2, .inl (0, 108, .inl (fun _ => 0))), (saz, .inr (2, [.ref saz1, .ref saz2, .ref saz3, .ref saz4, .ref saz5, .ref saz6, .int 0])), (saz1, .inl (0, 108, .inl (fun _ => 0))), (saz2, .inl (0, 108, .inl (fun _ => 0))), (saz3, .inl (0, 108, .inl (fun _ => 0))), (saz4, .inl (0, 108, .inl (fun _ => 0))), (saz5, .inl (0, 108, .inl (fun _ => 0))), (saz6, .inl (0, 108, .inl (fun _ => 0))), (sa4, .inl (2, 108, .inl (fun _ => 0))), (sa5, .inl (2, 108, .inl (fun _ => 0))), (sa6, .inl (0, 108, .inl (fun _ => 0))), (gs, .inr (4, [.int 80, .int 35, .int 30, .int 50, .int 0])), (co, .inr (1, [.ref co1, .ref co2, .ref co3, .int 0])), (co1, .inl (0, 20, .inl (fun _ => 0))), (co2, .inl (0, 20, .inl (fun _ => 0))), (co3, .inl (0, 20, .inl (fun _ => 0))), (fu, .inr (3, [.ref fub, .ref fut1, .ref fut2, .ref fut3, .long 0])), (fub, .inr (6, [.ref fubg, .int 0])), (fubg, .inl (3, 4, .inr (.inl (fun _ => 0)))), (fut1, .inl (3, 4, .inr (.inl (fun _ => 0)))), (fut2, .inl (3, 4, .inr (.inl (fun _ => 0)))), (fut3, .inl (3, 4, .inr (.inl (fun _ => 0)))), (la, .inr (5, [.ref lab, .int 0, .int 0, .int 0])), (lab, .inr (6, [.ref labg, .int 0])), (labg, .inl (3, 4, .inr (.inl (fun _ => 0))))]) rfl ?_
                refine r_aload_n d_Ip_init_81 rfl 0 rfl ?_
                refine r_new nc_Ip_54 d_Ip_init_82 (by omega) (by omega) (fun gy => ?_)
                refine r_cs (cs2 := [(a, .inr (11, [.ref pa, .ref ta, .ref sa, .ref gs, .ref co, .ref fu, .ref la, .null, .null, .null, .null, .null])), (pa, .inr (8, [.ref pa1, .ref pa2, .ref pa3, .int 4])), (pa1, .inl (1, 108, .inl (fa_fill (fun _ => 46) (fun _ => 0) 108))), (pa2, .inl (2, 108, .inl (fun _ => 0))), (pa3, .inl (0, 108, .inl (fun _ => 0))), (ta, .inr (10, [.ref ta1, .ref ta2, .ref taz, .ref ta4, .ref ta5, .ref ta6, .int 0, .int 0])), (ta1, .inl (1, 108, .inl (fa_fill (fun _ => 46) (fun _ => 0) 108))), (ta2, .inl (0, 108, .inl (fun _ => 0))), (taz, .inr (2, [.ref taz1, .ref taz2, .ref taz3, .ref taz4, .ref taz5, .ref taz6, .int 0])), (taz1, .inl (0, 108, .inl (fun _ => 0))), (taz2, .inl (0, 108, .inl (fun _ => 0))), (taz3, .inl (0, 108, .inl (fun _ => 0))), (taz4, .inl (0, 108, .inl (fun _ => 0))), (taz5, .inl (0, 108, .inl (fun _ => 0))), (taz6, .inl (0, 108, .inl (fun _ => 0))), (ta4, .inl (2, 108, .inl (fun _ => 0))), (ta5, .inl (2, 108, .inl (fun _ => 0))), (ta6, .inl (0, 108, .inl (fun _ => 0))), (sa, .inr (10, [.ref sa1, .ref sa2, .ref saz, .ref sa4, .ref sa5, .ref sa6, .int 0, .int 0])), (sa1, .inl (1, 108, .inl (fa_fill (fun _ => 46) (fun _ => 0) 108))), (sa2, .inl (0, 108, .inl (fun _ => 0))), (saz, .inr (2, [.ref saz1, .ref saz2, .ref saz3, .ref saz4, .ref saz5, .ref saz6, .int 0])), (saz1, .inl (0, 108, .inl (fun _ => 0))), (saz2, .inl (0, 108, .inl (fun _ => 0))), (saz3, .inl (0, 108, .inl (fun _ => 0))), (saz4, .inl (0, 108, .inl (fun _ => 0))), (saz5, .inl (0, 108, .inl (fun _ => 0))), (saz6, .inl (0, 108, .inl (fun _ => 0))), (sa4, .inl (2, 108, .inl (fun _ => 0))), (sa5, .inl (2, 108, .inl (fun _ => 0))), (sa6, .inl (0, 108, .inl (fun _ => 0))), (gs, .inr (4, [.int 80, .int 35, .int 30, .int 50, .int 0])), (co, .inr (1, [.ref co1, .ref co2, .ref co3, .int 0])), (co1, .inl (0, 20, .inl (fun _ => 0))), (co2, .inl (0, 20, .inl (fun _ => 0))), (co3, .inl (0, 20, .inl (fun _ => 0))), (fu, .inr (3, [.ref fub, .ref fut1, .ref fut2, .ref fut3, .long 0])), (fub, .inr (6, [.ref fubg, .int 0])), (fubg, .inl (3, 4, .inr (.inl (fun _ => 0)))), (fut1, .inl (3, 4, .inr (.inl (fun _ => 0)))), (fut2, .inl (3, 4, .inr (.inl (fun _ => 0)))), (fut3, .inl (3, 4, .inr (.inl (fun _ => 0)))), (la, .inr (5, [.ref lab, .int 0, .int 0, .int 0])), (lab, .inr (6, [.ref labg, .int 0])), (labg, .inl (3, 4, .inr (.inl (fun _ => 0)))), (gy, .inr (6, [.null, .int 0]))]) rfl ?_
                refine r_dup d_Ip_init_85 rfl ?_
                refine r_callIN (As := []) (rest := [.ref gy, .ref a]) (csC := [(gy, .inr (6, [.null, .int 0]))]) (is := [45]) rfl rfl ln_Ip_56 w_im_Me_init ok_Ip_init_Me_init d_Ip_init_86 (C_Me_init g gy) rfl rfl (Nat.le_of_ble_eq_true rfl) rfl (by decide) (by omega) (by omega) (fun E cs1 hx => ?_) (fun v cs1 hx => ?_)
                · obtain ⟨gyg, e1, -⟩ := hx
                  cases e1
                · obtain ⟨gyg, e1, rfl⟩ := hx
                  cases e1
                  refine ⟨rfl, ?_⟩
                  refine r_st (st2 := [.ref gy, .ref a]) rfl ?_
                  refine r_cs (cs2 := [(a, .inr (11, [.ref pa, .ref ta, .ref sa, .ref gs, .ref co, .ref fu, .ref la, .null, .null, .null, .null, .null])), (pa, .inr (8, [.ref pa1, .ref pa2, .ref pa3, .int 4])), (pa1, .inl (1, 108, .inl (fa_fill (fun _ => 46) (fun _ => 0) 108))), (pa2, .inl (2, 108, .inl (fun _ => 0))), (pa3, .inl (0, 108, .inl (fun _ => 0))), (ta, .inr (10, [.ref ta1, .ref ta2, .ref taz, .ref ta4, .ref ta5, .ref ta6, .int 0, .int 0])), (ta1, .inl (1, 108, .inl (fa_fill (fun _ => 46) (fun _ => 0) 108))), (ta2, .inl (0, 108, .inl (fun _ => 0))), (taz, .inr (2, [.ref taz1, .ref taz2, .ref taz3, .ref taz4, .ref taz5, .ref taz6, .int 0])), (taz1, .inl (0, 108, .inl (fun _ => 0))), (taz2, .inl (0, 108, .inl (fun _ => 0))), (taz3, .inl (0, 108, .inl (fun _ => 0))), (taz4, .inl (0, 108, .inl (fun _ => 0))), (taz5, .inl (0, 108, .inl (fun _ => 0))), (taz6, .inl (0, 108, .inl (fun _ => 0))), (ta4, .inl (2, 108, .inl (fun _ => 0))), (ta5, .inl (2, 108, .inl (fun _ => 0))), (ta6, .inl (0, 108, .inl (fun _ => 0))), (sa, .inr (10, [.ref sa1, .ref sa2, .ref saz, .ref sa4, .ref sa5, .ref sa6, .int 0, .int 0])), (sa1, .inl (1, 108, .inl (fa_fill (fun _ => 46) (fun _ => 0) 108))), (sa2, .inl (0, 108, .inl (fun _ => 0))), (saz, .inr (2, [.ref saz1, .ref saz2, .ref saz3, .ref saz4, .ref saz5, .ref saz6, .int 0])), (saz1, .inl (0, 108, .inl (fun _ => 0))), (saz2, .inl (0, 108, .inl (fun _ => 0))), (saz3, .inl (0, 108, .inl (fun _ => 0))), (saz4, .inl (0, 108, .inl (fun _ => 0))), (saz5, .inl (0, 108, .inl (fun _ => 0))), (saz6, .inl (0, 108, .inl (fun _ => 0))), (sa4, .inl (2, 108, .inl (fun _ => 0))), (sa5, .inl (2, 108, .inl (fun _ => 0))), (sa6, .inl (0, 108, .inl (fun _ => 0))), (gs, .inr (4, [.int 80, .int 35, .int 30, .int 50, .int 0])), (co, .inr (1, [.ref co1, .ref co2, .ref co3, .int 0])), (co1, .inl (0, 20, .inl (fun _ => 0))), (co2, .inl (0, 20, .inl (fun _ => 0))), (co3, .inl (0, 20, .inl (fun _ => 0))), (fu, .inr (3, [.ref fub, .ref fut1, .ref fut2, .ref fut3, .long 0])), (fub, .inr (6, [.ref fubg, .int 0])), (fubg, .inl (3, 4, .inr (.inl (fun _ => 0)))), (fut1, .inl (3, 4, .inr (.inl (fun _ => 0)))), (fut2, .inl (3, 4, .inr (.inl (fun _ => 0)))), (fut3, .inl (3, 4, .inr (.inl (fun _ => 0)))), (la, .inr (5, [.ref lab, .int 0, .int 0, .int 0])), (lab, .inr (6, [.ref labg, .int 0])), (labg, .inl (3, 4, .inr (.inl (fun _ => 0)))), (gy, .inr (6, [.ref gyg, .int 0])), (gyg, .inl (3, 4, .inr (.inl (fun _ => 0))))]) rfl ?_
                  refine r_put fp_Ip_57 d_Ip_init_89 (fun _ => rfl) rfl rfl (q0 := 0) rfl (Nat.le_of_ble_eq_true rfl) (cs' := [(a, .inr (11, [.ref pa, .ref ta, .ref sa, .ref gs, .ref co, .ref fu, .ref la, .ref gy, .null, .null, .null, .null])), (pa, .inr (8, [.ref pa1, .ref pa2, .ref pa3, .int 4])), (pa1, .inl (1, 108, .inl (fa_fill (fun _ => 46) (fun _ => 0) 108))), (pa2, .inl (2, 108, .inl (fun _ => 0))), (pa3, .inl (0, 108, .inl (fun _ => 0))), (ta, .inr (10, [.ref ta1, .ref ta2, .ref taz, .ref ta4, .ref ta5, .ref ta6, .int 0, .int 0])), (ta1, .inl (1, 108, .inl (fa_fill (fun _ => 46) (fun _ => 0) 108))), (ta2, .inl (0, 108, .inl (fun _ => 0))), (taz, .inr (2, [.ref taz1, .ref taz2, .ref taz3, .ref taz4, .ref taz5, .ref taz6, .int 0])), (taz1, .inl (0, 108, .inl (fun _ => 0))), (taz2, .inl (0, 108, .inl (fun _ => 0))), (taz3, .inl (0, 108, .inl (fun _ => 0))), (taz4, .inl (0, 108, .inl (fun _ => 0))), (taz5, .inl (0, 108, .inl (fun _ => 0))), (taz6, .inl (0, 108, .inl (fun _ => 0))), (ta4, .inl (2, 108, .inl (fun _ => 0))), (ta5, .inl (2, 108, .inl (fun _ => 0))), (ta6, .inl (0, 108, .inl (fun _ => 0))), (sa, .inr (10, [.ref sa1, .ref sa2, .ref saz, .ref sa4, .ref sa5, .ref sa6, .int 0, .int 0])), (sa1, .inl (1, 108, .inl (fa_fill (fun _ => 46) (fun _ => 0) 108))), (sa2, .inl (0, 108, .inl (fun _ => 0))), (saz, .inr (2, [.ref saz1, .ref saz2, .ref saz3, .ref saz4, .ref saz5, .ref saz6, .int 0])), (saz1, .inl (0, 108, .inl (fun _ => 0))), (saz2, .inl (0, 108, .inl (fun _ => 0))), (saz3, .inl (0, 108, .inl (fun _ => 0))), (saz4, .inl (0, 108, .inl (fun _ => 0))), (saz5, .inl (0, 108, .inl (fun _ => 0))), (saz6, .inl (0, 108, .inl (fun _ => 0))), (sa4, .inl (2, 108, .inl (fun _ => 0))), (sa5, .inl (2, 108, .inl (fun _ => 0))), (sa6, .inl (0, 108, .inl (fun _ => 0))), (gs, .inr (4, [.int 80, .int 35, .int 30, .int 50, .int 0])), (co, .inr (1, [.ref co1, .ref co2, .ref co3, .int 0])), (co1, .inl (0, 20, .inl (fun _ => 0))), (co2, .inl (0, 20, .inl (fun _ => 0))), (co3, .inl (0, 20, .inl (fun _ => 0))), (fu, .inr (3, [.ref fub, .ref fut1, .ref fut2, .ref fut3, .long 0])), (fub, .inr (6, [.ref fubg, .int 0])), (fubg, .inl (3, 4, .inr (.inl (fun _ => 0)))), (fut1, .inl (3, 4, .inr (.inl (fun _ => 0)))), (fut2, .inl (3, 4, .inr (.inl (fun _ => 0)))), (fut3, .inl (3, 4, .inr (.inl (fun _ => 0)))), (la, .inr (5, [.ref lab, .int 0, .int 0, .int 0])), (lab, .inr (6, [.ref labg, .int 0])), (labg, .inl (3, 4, .inr (.inl (fun _ => 0)))), (gy, .inr (6, [.ref gyg, .int 0])), (gyg, .inl (3, 4, .inr (.inl (fun _ => 0))))]) rfl ?_
                  refine r_aload_n d_Ip_init_92 rfl 0 rfl ?_
                  refine r_new nc_Ip_54 d_Ip_init_93 (by omega) (by omega) (fun du => ?_)
                  refine r_cs (cs2 := [(a, .inr (11, [.ref pa, .ref ta, .ref sa, .ref gs, .ref co, .ref fu, .ref la, .ref gy, .null, .null, .null, .null])), (pa, .inr (8, [.ref pa1, .ref pa2, .ref pa3, .int 4])), (pa1, .inl (1, 108, .inl (fa_fill (fun _ => 46) (fun _ => 0) 108))), (pa2, .inl (2, 108, .inl (fun _ => 0))), (pa3, .inl (0, 108, .inl (fun _ => 0))), (ta, .inr (10, [.ref ta1, .ref ta2, .ref taz, .ref ta4, .ref ta5, .ref ta6, .int 0, .int 0])), (ta1, .inl (1, 108, .inl (fa_fill (fun _ => 46) (fun _ => 0) 108))), (ta2, .inl (0, 108, .inl (fun _ => 0))), (taz, .inr (2, [.ref taz1, .ref taz2, .ref taz3, .ref taz4, .ref taz5, .ref taz6, .int 0])), (taz1, .inl (0, 108, .inl (fun _ => 0))), (taz2, .inl (0, 108, .inl (fun _ => 0))), (taz3, .inl (0, 108, .inl (fun _ => 0))), (taz4, .inl (0, 108, .inl (fun _ => 0))), (taz5, .inl (0, 108, .inl (fun _ => 0))), (taz6, .inl (0, 108, .inl (fun _ => 0))), (ta4, .inl (2, 108, .inl (fun _ => 0))), (ta5, .inl (2, 108, .inl (fun _ => 0))), (ta6, .inl (0, 108, .inl (fun _ => 0))), (sa, .inr (10, [.ref sa1, .ref sa2, .ref saz, .ref sa4, .ref sa5, .ref sa6, .int 0, .int 0])), (sa1, .inl (1, 108, .inl (fa_fill (fun _ => 46) (fun _ => 0) 108))), (sa2, .inl (0, 108, .inl (fun _ => 0))), (saz, .inr (2, [.ref saz1, .ref saz2, .ref saz3, .ref saz4, .ref saz5, .ref saz6, .int 0])), (saz1, .inl (0, 108, .inl (fun _ => 0))), (saz2, .inl (0, 108, .inl (fun _ => 0))), (saz3, .inl (0, 108, .inl (fun _ => 0))), (saz4, .inl (0, 108, .inl (fun _ => 0))), (saz5, .inl (0, 108, .inl (fun _ => 0))), (saz6, .inl (0, 108, .inl (fun _ => 0))), (sa4, .inl (2, 108, .inl (fun _ => 0))), (sa5, .inl (2, 108, .inl (fun _ => 0))), (sa6, .inl (0, 108, .inl (fun _ => 0))), (gs, .inr (4, [.int 80, .int 35, .int 30, .int 50, .int 0])), (co, .inr (1, [.ref co1, .ref co2, .ref co3, .int 0])), (co1, .inl (0, 20, .inl (fun _ => 0))), (co2, .inl (0, 20, .inl (fun _ => 0))), (co3, .inl (0, 20, .inl (fun _ => 0))), (fu, .inr (3, [.ref fub, .ref fut1, .ref fut2, .ref fut3, .long 0])), (fub, .inr (6, [.ref fubg, .int 0])), (fubg, .inl (3, 4, .inr (.inl (fun _ => 0)))), (fut1, .inl (3, 4, .inr (.inl (fun _ => 0)))), (fut2, .inl (3, 4, .inr (.inl (fun _ => 0)))), (fut3, .inl (3, 4, .inr (.inl (fun _ => 0)))), (la, .inr (5, [.ref lab, .int 0, .int 0, .int 0])), (lab, .inr (6, [.ref labg, .int 0])), (labg, .inl (3, 4, .inr (.inl (fun _ => 0)))), (gy, .inr (6, [.ref gyg, .int 0])), (gyg, .inl (3, 4, .inr (.inl (fun _ => 0)))), (du, .inr (6, [.null, .int 0]))]) rfl ?_
                  refine r_dup d_Ip_init_96 rfl ?_
                  refine r_callIN (As := []) (rest := [.ref du, .ref a]) (csC := [(du, .inr (6, [.null, .int 0]))]) (is := [47]) rfl rfl ln_Ip_56 w_im_Me_init ok_Ip_init_Me_init d_Ip_init_97 (C_Me_init g du) rfl rfl (Nat.le_of_ble_eq_true rfl) rfl (by decide) (by omega) (by omega) (fun E cs1 hx => ?_) (fun v cs1 hx => ?_)
                  · obtain ⟨dug, e1, -⟩ := hx
                    cases e1
                  · obtain ⟨dug, e1, rfl⟩ := hx
                    cases e1
                    refine ⟨rfl, ?_⟩
                    refine r_st (st2 := [.ref du, .ref a]) rfl ?_
                    refine r_cs (cs2 := [(a, .inr (11, [.ref pa, .ref ta, .ref sa, .ref gs, .ref co, .ref fu, .ref la, .ref gy, .null, .null, .null, .null])), (pa, .inr (8, [.ref pa1, .ref pa2, .ref pa3, .int 4])), (pa1, .inl (1, 108, .inl (fa_fill (fun _ => 46) (fun _ => 0) 108))), (pa2, .inl (2, 108, .inl (fun _ => 0))), (pa3, .inl (0, 108, .inl (fun _ => 0))), (ta, .inr (10, [.ref ta1, .ref ta2, .ref taz, .ref ta4, .ref ta5, .ref ta6, .int 0, .int 0])), (ta1, .inl (1, 108, .inl (fa_fill (fun _ => 46) (fun _ => 0) 108))), (ta2, .inl (0, 108, .inl (fun _ => 0))), (taz, .inr (2, [.ref taz1, .ref taz2, .ref taz3, .ref taz4, .ref taz5, .ref taz6, .int 0])), (taz1, .inl (0, 108, .inl (fun _ => 0))), (taz2, .inl (0, 108, .inl (fun _ => 0))), (taz3, .inl (0, 108, .inl (fun _ => 0))), (taz4, .inl (0, 108, .inl (fun _ => 0))), (taz5, .inl (0, 108, .inl (fun _ => 0))), (taz6, .inl (0, 108, .inl (fun _ => 0))), (ta4, .inl (2, 108, .inl (fun _ => 0))), (ta5, .inl (2, 108, .inl (fun _ => 0))), (ta6, .inl (0, 108, .inl (fun _ => 0))), (sa, .inr (10, [.ref sa1, .ref sa2, .ref saz, .ref sa4, .ref sa5, .ref sa6, .int 0, .int 0])), (sa1, .inl (1, 108, .inl (fa_fill (fun _ => 46) (fun _ => 0) 108))), (sa2, .inl (0, 108, .inl (fun _ => 0))), (saz, .inr (2, [.ref saz1, .ref saz2, .ref saz3, .ref saz4, .ref saz5, .ref saz6, .int 0])), (saz1, .inl (0, 108, .inl (fun _ => 0))), (saz2, .inl (0, 108, .inl (fun _ => 0))), (saz3, .inl (0, 108, .inl (fun _ => 0))), (saz4, .inl (0, 108, .inl (fun _ => 0))), (saz5, .inl (0, 108, .inl (fun _ => 0))), (saz6, .inl (0, 108, .inl (fun _ => 0))), (sa4, .inl (2, 108, .inl (fun _ => 0))), (sa5, .inl (2, 108, .inl (fun _ => 0))), (sa6, .inl (0, 108, .inl (fun _ => 0))), (gs, .inr (4, [.int 80, .int 35, .int 30, .int 50, .int 0])), (co, .inr (1, [.ref co1, .ref co2, .ref co3, .int 0])), (co1, .inl (0, 20, .inl (fun _ => 0))), (co2, .inl (0, 20, .inl (fun _ => 0))), (co3, .inl (0, 20, .inl (fun _ => 0))), (fu, .inr (3, [.ref fub, .ref fut1, .ref fut2, .ref fut3, .long 0])), (fub, .inr (6, [.ref fubg, .int 0])), (fubg, .inl (3, 4, .inr (.inl (fun _ => 0)))), (fut1, .inl (3, 4, .inr (.inl (fun _ => 0)))), (fut2, .inl (3, 4, .inr (.inl (fun _ => 0)))), (fut3, .inl (3, 4, .inr (.inl (fun _ => 0)))), (la, .inr (5, [.ref lab, .int 0, .int 0, .int 0])), (lab, .inr (6, [.ref labg, .int 0])), (labg, .inl (3, 4, .inr (.inl (fun _ => 0)))), (gy, .inr (6, [.ref gyg, .int 0])), (gyg, .inl (3, 4, .inr (.inl (fun _ => 0)))), (du, .inr (6, [.ref dug, .int 0])), (dug, .inl (3, 4, .inr (.inl (fun _ => 0))))]) rfl ?_
                    refine r_put fp_Ip_61 d_Ip_init_100 (fun _ => rfl) rfl rfl (q0 := 0) rfl (Nat.le_of_ble_eq_true rfl) (cs' := [(a, .inr (11, [.ref pa, .ref ta, .ref sa, .ref gs, .ref co, .ref fu, .ref la, .ref gy, .ref du, .null, .null, .null])), (pa, .inr (8, [.ref pa1, .ref pa2, .ref pa3, .int 4])), (pa1, .inl (1, 108, .inl (fa_fill (fun _ => 46) (fun _ => 0) 108))), (pa2, .inl (2, 108, .inl (fun _ => 0))), (pa3, .inl (0, 108, .inl (fun _ => 0))), (ta, .inr (10, [.ref ta1, .ref ta2, .ref taz, .ref ta4, .ref ta5, .ref ta6, .int 0, .int 0])), (ta1, .inl (1, 108, .inl (fa_fill (fun _ => 46) (fun _ => 0) 108))), (ta2, .inl (0, 108, .inl (fun _ => 0))), (taz, .inr (2, [.ref taz1, .ref taz2, .ref taz3, .ref taz4, .ref taz5, .ref taz6, .int 0])), (taz1, .inl (0, 108, .inl (fun _ => 0))), (taz2, .inl (0, 108, .inl (fun _ => 0))), (taz3, .inl (0, 108, .inl (fun _ => 0))), (taz4, .inl (0, 108, .inl (fun _ => 0))), (taz5, .inl (0, 108, .inl (fun _ => 0))), (taz6, .inl (0, 108, .inl (fun _ => 0))), (ta4, .inl (2, 108, .inl (fun _ => 0))), (ta5, .inl (2, 108, .inl (fun _ => 0))), (ta6, .inl (0, 108, .inl (fun _ => 0))), (sa, .inr (10, [.ref sa1, .ref sa2, .ref saz, .ref sa4, .ref sa5, .ref sa6, .int 0, .int 0])), (sa1, .inl (1, 108, .inl (fa_fill (fun _ => 46) (fun _ => 0) 108))), (sa2, .inl (0, 108, .inl (fun _ => 0))), (saz, .inr (2, [.ref saz1, .ref saz2, .ref saz3, .ref saz4, .ref saz5, .ref saz6, .int 0])), (saz1, .inl (0, 108, .inl (fun _ => 0))), (saz2, .inl (0, 108, .inl (fun _ => 0))), (saz3, .inl (0, 108, .inl (fun _ => 0))), (saz4, .inl (0, 108, .inl (fun _ => 0))), (saz5, .inl (0, 108, .inl (fun _ => 0))), (saz6, .inl (0, 108, .inl (fun _ => 0))), (sa4, .inl (2, 108, .inl (fun _ => 0))), (sa5, .inl (2, 108, .inl (fun _ => 0))), (sa6, .inl (0, 108, .inl (fun _ => 0))), (gs, .inr (4, [.int 80, .int 35, .int 30, .int 50, .int 0])), (co, .inr (1, [.ref co1, .ref co2, .ref co3, .int 0])), (co1, .inl (0, 20, .inl (fun _ => 0))), (co2, .inl (0, 20, .inl (fun _ => 0))), (co3, .inl (0, 20, .inl (fun _ => 0))), (fu, .inr (3, [.ref fub, .ref fut1, .ref fut2, .ref fut3, .long 0])), (fub, .inr (6, [.ref fubg, .int 0])), (fubg, .inl (3, 4, .inr (.inl (fun _ => 0)))), (fut1, .inl (3, 4, .inr (.inl (fun _ => 0)))), (fut2, .inl (3, 4, .inr (.inl (fun _ => 0)))), (fut3, .inl (3, 4, .inr (.inl (fun _ => 0)))), (la, .inr (5, [.ref lab, .int 0, .int 0, .int 0])), (lab, .inr (6, [.ref labg, .int 0])), (labg, .inl (3, 4, .inr (.inl (fun _ => 0)))), (gy, .inr (6, [.ref gyg, .int 0])), (gyg, .inl (3, 4, .inr (.inl (fun _ => 0)))), (du, .inr (6, [.ref dug, .int 0])), (dug, .inl (3, 4, .inr (.inl (fun _ => 0))))]) rfl ?_
                    refine r_aload_n d_Ip_init_103 rfl 0 rfl ?_
                    refine r_new nc_Ip_64 d_Ip_init_104 (by omega) (by omega) (fun re => ?_)
                    refine r_cs (cs2 := [(a, .inr (11, [.ref pa, .ref ta, .ref sa, .ref gs, .ref co, .ref fu, .ref la, .ref gy, .ref du, .null, .null, .null])), (pa, .inr (8, [.ref pa1, .ref pa2, .ref pa3, .int 4])), (pa1, .inl (1, 108, .inl (fa_fill (fun _ => 46) (fun _ => 0) 108))), (pa2, .inl (2, 108, .inl (fun _ => 0))), (pa3, .inl (0, 108, .inl (fun _ => 0))), (ta, .inr (10, [.ref ta1, .ref ta2, .ref taz, .ref ta4, .ref ta5, .ref ta6, .int 0, .int 0])), (ta1, .inl (1, 108, .inl (fa_fill (fun _ => 46) (fun _ => 0) 108))), (ta2, .inl (0, 108, .inl (fun _ => 0))), (taz, .inr (2, [.ref taz1, .ref taz2, .ref taz3, .ref taz4, .ref taz5, .ref taz6, .int 0])), (taz1, .inl (0, 108, .inl (fun _ => 0))), (taz2, .inl (0, 108, .inl (fun _ => 0))), (taz3, .inl (0, 108, .inl (fun _ => 0))), (taz4, .inl (0, 108, .inl (fun _ => 0))), (taz5, .inl (0, 108, .inl (fun _ => 0))), (taz6, .inl (0, 108, .inl (fun _ => 0))), (ta4, .inl (2, 108, .inl (fun _ => 0))), (ta5, .inl (2, 108, .inl (fun _ => 0))), (ta6, .inl (0, 108, .inl (fun _ => 0))), (sa, .inr (10, [.ref sa1, .ref sa2, .ref saz, .ref sa4, .ref sa5, .ref sa6, .int 0, .int 0])), (sa1, .inl (1, 108, .inl (fa_fill (fun _ => 46) (fun _ => 0) 108))), (sa2, .inl (0, 108, .inl (fun _ => 0))), (saz, .inr (2, [.ref saz1, .ref saz2, .ref saz3, .ref saz4, .ref saz5, .ref saz6, .int 0])), (saz1, .inl (0, 108, .inl (fun _ => 0))), (saz2, .inl (0, 108, .inl (fun _ => 0))), (saz3, .inl (0, 108, .inl (fun _ => 0))), (saz4, .inl (0, 108, .inl (fun _ => 0))), (saz5, .inl (0, 108, .inl (fun _ => 0))), (saz6, .inl (0, 108, .inl (fun _ => 0))), (sa4, .inl (2, 108, .inl (fun _ => 0))), (sa5, .inl (2, 108, .inl (fun _ => 0))), (sa6, .inl (0, 108, .inl (fun _ => 0))), (gs, .inr (4, [.int 80, .int 35, .int 30, .int 50, .int 0])), (co, .inr (1, [.ref co1, .ref co2, .ref co3, .int 0])), (co1, .inl (0, 20, .inl (fun _ => 0))), (co2, .inl (0, 20, .inl (fun _ => 0))), (co3, .inl (0, 20, .inl (fun _ => 0))), (fu, .inr (3, [.ref fub, .ref fut1, .ref fut2, .ref fut3, .long 0])), (fub, .inr (6, [.ref fubg, .int 0])), (fubg, .inl (3, 4, .inr (.inl (fun _ => 0)))), (fut1, .inl (3, 4, .inr (.inl (fun _ => 0)))), (fut2, .inl (3, 4, .inr (.inl (fun _ => 0)))), (fut3, .inl (3, 4, .inr (.inl (fun _ => 0)))), (la, .inr (5, [.ref lab, .int 0, .int 0, .int 0])), (lab, .inr (6, [.ref labg, .int 0])), (labg, .inl (3, 4, .inr (.inl (fun _ => 0)))), (gy, .inr (6, [.ref gyg, .int 0])), (gyg, .inl (3, 4, .inr (.inl (fun _ => 0)))), (du, .inr (6, [.ref dug, .int 0])), (dug, .inl (3, 4, .inr (.inl (fun _ => 0)))), (re, .inr (9, [.int 0, .int 0, .int 0]))]) rfl ?_
                    refine r_dup d_Ip_init_107 rfl ?_
                    refine r_callIN (As := []) (rest := [.ref re, .ref a]) (csC := [(re, .inr (9, [.int 0, .int 0, .int 0]))]) (is := [49]) rfl rfl ln_Ip_66 w_im_Re_init ok_Ip_init_Re_init d_Ip_init_108 (C_Re_init g re) rfl rfl (Nat.le_of_ble_eq_true rfl) rfl (by decide) (by omega) (by omega) (fun E cs1 hx => ?_) (fun v cs1 hx => ?_)
                    · exact absurd hx.1 (by simp)
                    · obtain ⟨e1, rfl⟩ := hx
                      cases e1
                      refine ⟨rfl, ?_⟩
                      refine r_st (st2 := [.ref re, .ref a]) rfl ?_
                      refine r_cs (cs2 := [(a, .inr (11, [.ref pa, .ref ta, .ref sa, .ref gs, .ref co, .ref fu, .ref la, .ref gy, .ref du, .null, .null, .null])), (pa, .inr (8, [.ref pa1, .ref pa2, .ref pa3, .int 4])), (pa1, .inl (1, 108, .inl (fa_fill (fun _ => 46) (fun _ => 0) 108))), (pa2, .inl (2, 108, .inl (fun _ => 0))), (pa3, .inl (0, 108, .inl (fun _ => 0))), (ta, .inr (10, [.ref ta1, .ref ta2, .ref taz, .ref ta4, .ref ta5, .ref ta6, .int 0, .int 0])), (ta1, .inl (1, 108, .inl (fa_fill (fun _ => 46) (fun _ => 0) 108))), (ta2, .inl (0, 108, .inl (fun _ => 0))), (taz, .inr (2, [.ref taz1, .ref taz2, .ref taz3, .ref taz4, .ref taz5, .ref taz6, .int 0])), (taz1, .inl (0, 108, .inl (fun _ => 0))), (taz2, .inl (0, 108, .inl (fun _ => 0))), (taz3, .inl (0, 108, .inl (fun _ => 0))), (taz4, .inl (0, 108, .inl (fun _ => 0))), (taz5, .inl (0, 108, .inl (fun _ => 0))), (taz6, .inl (0, 108, .inl (fun _ => 0))), (ta4, .inl (2, 108, .inl (fun _ => 0))), (ta5, .inl (2, 108, .inl (fun _ => 0))), (ta6, .inl (0, 108, .inl (fun _ => 0))), (sa, .inr (10, [.ref sa1, .ref sa2, .ref saz, .ref sa4, .ref sa5, .ref sa6, .int 0, .int 0])), (sa1, .inl (1, 108, .inl (fa_fill (fun _ => 46) (fun _ => 0) 108))), (sa2, .inl (0, 108, .inl (fun _ => 0))), (saz, .inr (2, [.ref saz1, .ref saz2, .ref saz3, .ref saz4, .ref saz5, .ref saz6, .int 0])), (saz1, .inl (0, 108, .inl (fun _ => 0))), (saz2, .inl (0, 108, .inl (fun _ => 0))), (saz3, .inl (0, 108, .inl (fun _ => 0))), (saz4, .inl (0, 108, .inl (fun _ => 0))), (saz5, .inl (0, 108, .inl (fun _ => 0))), (saz6, .inl (0, 108, .inl (fun _ => 0))), (sa4, .inl (2, 108, .inl (fun _ => 0))), (sa5, .inl (2, 108, .inl (fun _ => 0))), (sa6, .inl (0, 108, .inl (fun _ => 0))), (gs, .inr (4, [.int 80, .int 35, .int 30, .int 50, .int 0])), (co, .inr (1, [.ref co1, .ref co2, .ref co3, .int 0])), (co1, .inl (0, 20, .inl (fun _ => 0))), (co2, .inl (0, 20, .inl (fun _ => 0))), (co3, .inl (0, 20, .inl (fun _ => 0))), (fu, .inr (3, [.ref fub, .ref fut1, .ref fut2, .ref fut3, .long 0])), (fub, .inr (6, [.ref fubg, .int 0])), (fubg, .inl (3, 4, .inr (.inl (fun _ => 0)))), (fut1, .inl (3, 4, .inr (.inl (fun _ => 0)))), (fut2, .inl (3, 4, .inr (.inl (fun _ => 0)))), (fut3, .inl (3, 4, .inr (.inl (fun _ => 0)))), (la, .inr (5, [.ref lab, .int 0, .int 0, .int 0])), (lab, .inr (6, [.ref labg, .int 0])), (labg, .inl (3, 4, .inr (.inl (fun _ => 0)))), (gy, .inr (6, [.ref gyg, .int 0])), (gyg, .inl (3, 4, .inr (.inl (fun _ => 0)))), (du, .inr (6, [.ref dug, .int 0])), (dug, .inl (3, 4, .inr (.inl (fun _ => 0)))), (re, .inr (9, [.int 0, .int 0, .int 0]))]) rfl ?_
                      refine r_put fp_Ip_67 d_Ip_init_111 (fun _ => rfl) rfl rfl (q0 := 0) rfl (Nat.le_of_ble_eq_true rfl) (cs' := [(a, .inr (11, [.ref pa, .ref ta, .ref sa, .ref gs, .ref co, .ref fu, .ref la, .ref gy, .ref du, .ref re, .null, .null])), (pa, .inr (8, [.ref pa1, .ref pa2, .ref pa3, .int 4])), (pa1, .inl (1, 108, .inl (fa_fill (fun _ => 46) (fun _ => 0) 108))), (pa2, .inl (2, 108, .inl (fun _ => 0))), (pa3, .inl (0, 108, .inl (fun _ => 0))), (ta, .inr (10, [.ref ta1, .ref ta2, .ref taz, .ref ta4, .ref ta5, .ref ta6, .int 0, .int 0])), (ta1, .inl (1, 108, .inl (fa_fill (fun _ => 46) (fun _ => 0) 108))), (ta2, .inl (0, 108, .inl (fun _ => 0))), (taz, .inr (2, [.ref taz1, .ref taz2, .ref taz3, .ref taz4, .ref taz5, .ref taz6, .int 0])), (taz1, .inl (0, 108, .inl (fun _ => 0))), (taz2, .inl (0, 108, .inl (fun _ => 0))), (taz3, .inl (0, 108, .inl (fun _ => 0))), (taz4, .inl (0, 108, .inl (fun _ => 0))), (taz5, .inl (0, 108, .inl (fun _ => 0))), (taz6, .inl (0, 108, .inl (fun _ => 0))), (ta4, .inl (2, 108, .inl (fun _ => 0))), (ta5, .inl (2, 108, .inl (fun _ => 0))), (ta6, .inl (0, 108, .inl (fun _ => 0))), (sa, .inr (10, [.ref sa1, .ref sa2, .ref saz, .ref sa4, .ref sa5, .ref sa6, .int 0, .int 0])), (sa1, .inl (1, 108, .inl (fa_fill (fun _ => 46) (fun _ => 0) 108))), (sa2, .inl (0, 108, .inl (fun _ => 0))), (saz, .inr (2, [.ref saz1, .ref saz2, .ref saz3, .ref saz4, .ref saz5, .ref saz6, .int 0])), (saz1, .inl (0, 108, .inl (fun _ => 0))), (saz2, .inl (0, 108, .inl (fun _ => 0))), (saz3, .inl (0, 108, .inl (fun _ => 0))), (saz4, .inl (0, 108, .inl (fun _ => 0))), (saz5, .inl (0, 108, .inl (fun _ => 0))), (saz6, .inl (0, 108, .inl (fun _ => 0))), (sa4, .inl (2, 108, .inl (fun _ => 0))), (sa5, .inl (2, 108, .inl (fun _ => 0))), (sa6, .inl (0, 108, .inl (fun _ => 0))), (gs, .inr (4, [.int 80, .int 35, .int 30, .int 50, .int 0])), (co, .inr (1, [.ref co1, .ref co2, .ref co3, .int 0])), (co1, .inl (0, 20, .inl (fun _ => 0))), (co2, .inl (0, 20, .inl (fun _ => 0))), (co3, .inl (0, 20, .inl (fun _ => 0))), (fu, .inr (3, [.ref fub, .ref fut1, .ref fut2, .ref fut3, .long 0])), (fub, .inr (6, [.ref fubg, .int 0])), (fubg, .inl (3, 4, .inr (.inl (fun _ => 0)))), (fut1, .inl (3, 4, .inr (.inl (fun _ => 0)))), (fut2, .inl (3, 4, .inr (.inl (fun _ => 0)))), (fut3, .inl (3, 4, .inr (.inl (fun _ => 0)))), (la, .inr (5, [.ref lab, .int 0, .int 0, .int 0])), (lab, .inr (6, [.ref labg, .int 0])), (labg, .inl (3, 4, .inr (.inl (fun _ => 0)))), (gy, .inr (6, [.ref gyg, .int 0])), (gyg, .inl (3, 4, .inr (.inl (fun _ => 0)))), (du, .inr (6, [.ref dug, .int 0])), (dug, .inl (3, 4, .inr (.inl (fun _ => 0)))), (re, .inr (9, [.int 0, .int 0, .int 0]))]) rfl ?_
                      refine r_aload_n d_Ip_init_114 rfl 0 rfl ?_
                      refine r_new nc_Ip_71 d_Ip_init_115 (by omega) (by omega) (fun wm => ?_)
                      refine r_cs (cs2 := [(a, .inr (11, [.ref pa, .ref ta, .ref sa, .ref gs, .ref co, .ref fu, .ref la, .ref gy, .ref du, .ref re, .null, .null])), (pa, .inr (8, [.ref pa1, .ref pa2, .ref pa3, .int 4])), (pa1, .inl (1, 108, .inl (fa_fill (fun _ => 46) (fun _ => 0) 108))), (pa2, .inl (2, 108, .inl (fun _ => 0))), (pa3, .inl (0, 108, .inl (fun _ => 0))), (ta, .inr (10, [.ref ta1, .ref ta2, .ref taz, .ref ta4, .ref ta5, .ref ta6, .int 0, .int 0])), (ta1, .inl (1, 108, .inl (fa_fill (fun _ => 46) (fun _ => 0) 108))), (ta2, .inl (0, 108, .inl (fun _ => 0))), (taz, .inr (2, [.ref taz1, .ref taz2, .ref taz3, .ref taz4, .ref taz5, .ref taz6, .int 0])), (taz1, .inl (0, 108, .inl (fun _ => 0))), (taz2, .inl (0, 108, .inl (fun _ => 0))), (taz3, .inl (0, 108, .inl (fun _ => 0))), (taz4, .inl (0, 108, .inl (fun _ => 0))), (taz5, .inl (0, 108, .inl (fun _ => 0))), (taz6, .inl (0, 108, .inl (fun _ => 0))), (ta4, .inl (2, 108, .inl (fun _ => 0))), (ta5, .inl (2, 108, .inl (fun _ => 0))), (ta6, .inl (0, 108, .inl (fun _ => 0))), (sa, .inr (10, [.ref sa1, .ref sa2, .ref saz, .ref sa4, .ref sa5, .ref sa6, .int 0, .int 0])), (sa1, .inl (1, 108, .inl (fa_fill (fun _ => 46) (fun _ => 0) 108))), (sa2, .inl (0, 108, .inl (fun _ => 0))), (saz, .inr (2, [.ref saz1, .ref saz2, .ref saz3, .ref saz4, .ref saz5, .ref saz6, .int 0])), (saz1, .inl (0, 108, .inl (fun _ => 0))), (saz2, .inl (0, 108, .inl (fun _ => 0))), (saz3, .inl (0, 108, .inl (fun _ => 0))), (saz4, .inl (0, 108, .inl (fun _ => 0))), (saz5, .inl (0, 108, .inl (fun _ => 0))), (saz6, .inl (0, 108, .inl (fun _ => 0))), (sa4, .inl (2, 108, .inl (fun _ => 0))), (sa5, .inl (2, 108, .inl (fun _ => 0))), (sa6, .inl (0, 108, .inl (fun _ => 0))), (gs, .inr (4, [.int 80, .int 35, .int 30, .int 50, .int 0])), (co, .inr (1, [.ref co1, .ref co2, .ref co3, .int 0])), (co1, .inl (0, 20, .inl (fun _ => 0))), (co2, .inl (0, 20, .inl (fun _ => 0))), (co3, .inl (0, 20, .inl (fun _ => 0))), (fu, .inr (3, [.ref fub, .ref fut1, .ref fut2, .ref fut3, .long 0])), (fub, .inr (6, [.ref fubg, .int 0])), (fubg, .inl (3, 4, .inr (.inl (fun _ => 0)))), (fut1, .inl (3, 4, .inr (.inl (fun _ => 0)))), (fut2, .inl (3, 4, .inr (.inl (fun _ => 0)))), (fut3, .inl (3, 4, .inr (.inl (fun _ => 0)))), (la, .inr (5, [.ref lab, .int 0, .int 0, .int 0])), (lab, .inr (6, [.ref labg, .int 0])), (labg, .inl (3, 4, .inr (.inl (fun _ => 0)))), (gy, .inr (6, [.ref gyg, .int 0])), (gyg, .inl (3, 4, .inr (.inl (fun _ => 0)))), (du, .inr (6, [.ref dug, .int 0])), (dug, .inl (3, 4, .inr (.inl (fun _ => 0)))), (re, .inr (9, [.int 0, .int 0, .int 0])), (wm, .inr (13, [.int 0, .null, .int 0]))]) rfl ?_
                      refine r_dup d_Ip_init_118 rfl ?_
                      refine r_callI (As := []) (rest := [.ref wm, .ref a]) (csC := [(wm, .inr (13, [.int 0, .null, .int 0]))]) (is := [50]) rfl rfl ln_Ip_73 w_im_AL_init ok_Ip_init_AL_init d_Ip_init_119 (C_AL_init g wm) rfl rfl (Nat.le_of_ble_eq_true rfl) rfl (by decide) (by omega) (by omega) (fun E cs1 hx => ?_) (fun v cs1 hx => ?_)
                      · exact absurd hx.1 (by simp)
                      · obtain ⟨e1, rfl⟩ := hx
                        cases e1
                        refine ⟨rfl, ?_⟩
                        refine r_st (st2 := [.ref wm, .ref a]) rfl ?_
                        refine r_cs (cs2 := [(a, .inr (11, [.ref pa, .ref ta, .ref sa, .ref gs, .ref co, .ref fu, .ref la, .ref gy, .ref du, .ref re, .null, .null])), (pa, .inr (8, [.ref pa1, .ref pa2, .ref pa3, .int 4])), (pa1, .inl (1, 108, .inl (fa_fill (fun _ => 46) (fun _ => 0) 108))), (pa2, .inl (2, 108, .inl (fun _ => 0))), (pa3, .inl (0, 108, .inl (fun _ => 0))), (ta, .inr (10, [.ref ta1, .ref ta2, .ref taz, .ref ta4, .ref ta5, .ref ta6, .int 0, .int 0])), (ta1, .inl (1, 108, .inl (fa_fill (fun _ => 46) (fun _ => 0) 108))), (ta2, .inl (0, 108, .inl (fun _ => 0))), (taz, .inr (2, [.ref taz1, .ref taz2, .ref taz3, .ref taz4, .ref taz5, .ref taz6, .int 0])), (taz1, .inl (0, 108, .inl (fun _ => 0))), (taz2, .inl (0, 108, .inl (fun _ => 0))), (taz3, .inl (0, 108, .inl (fun _ => 0))), (taz4, .inl (0, 108, .inl (fun _ => 0))), (taz5, .inl (0, 108, .inl (fun _ => 0))), (taz6, .inl (0, 108, .inl (fun _ => 0))), (ta4, .inl (2, 108, .inl (fun _ => 0))), (ta5, .inl (2, 108, .inl (fun _ => 0))), (ta6, .inl (0, 108, .inl (fun _ => 0))), (sa, .inr (10, [.ref sa1, .ref sa2, .ref saz, .ref sa4, .ref sa5, .ref sa6, .int 0, .int 0])), (sa1, .inl (1, 108, .inl (fa_fill (fun _ => 46) (fun _ => 0) 108))), (sa2, .inl (0, 108, .inl (fun _ => 0))), (saz, .inr (2, [.ref saz1, .ref saz2, .ref saz3, .ref saz4, .ref saz5, .ref saz6, .int 0])), (saz1, .inl (0, 108, .inl (fun _ => 0))), (saz2, .inl (0, 108, .inl (fun _ => 0))), (saz3, .inl (0, 108, .inl (fun _ => 0))), (saz4, .inl (0, 108, .inl (fun _ => 0))), (saz5, .inl (0, 108, .inl (fun _ => 0))), (saz6, .inl (0, 108, .inl (fun _ => 0))), (sa4, .inl (2, 108, .inl (fun _ => 0))), (sa5, .inl (2, 108, .inl (fun _ => 0))), (sa6, .inl (0, 108, .inl (fun _ => 0))), (gs, .inr (4, [.int 80, .int 35, .int 30, .int 50, .int 0])), (co, .inr (1, [.ref co1, .ref co2, .ref co3, .int 0])), (co1, .inl (0, 20, .inl (fun _ => 0))), (co2, .inl (0, 20, .inl (fun _ => 0))), (co3, .inl (0, 20, .inl (fun _ => 0))), (fu, .inr (3, [.ref fub, .ref fut1, .ref fut2, .ref fut3, .long 0])), (fub, .inr (6, [.ref fubg, .int 0])), (fubg, .inl (3, 4, .inr (.inl (fun _ => 0)))), (fut1, .inl (3, 4, .inr (.inl (fun _ => 0)))), (fut2, .inl (3, 4, .inr (.inl (fun _ => 0)))), (fut3, .inl (3, 4, .inr (.inl (fun _ => 0)))), (la, .inr (5, [.ref lab, .int 0, .int 0, .int 0])), (lab, .inr (6, [.ref labg, .int 0])), (labg, .inl (3, 4, .inr (.inl (fun _ => 0)))), (gy, .inr (6, [.ref gyg, .int 0])), (gyg, .inl (3, 4, .inr (.inl (fun _ => 0)))), (du, .inr (6, [.ref dug, .int 0])), (dug, .inl (3, 4, .inr (.inl (fun _ => 0)))), (re, .inr (9, [.int 0, .int 0, .int 0])), (wm, .inr (13, [.int 0, .ref (g.2.2 4), .int 0]))]) rfl ?_
                        refine r_put fp_Ip_74 d_Ip_init_122 (fun _ => rfl) rfl rfl (q0 := 0) rfl (Nat.le_of_ble_eq_true rfl) (cs' := [(a, .inr (11, [.ref pa, .ref ta, .ref sa, .ref gs, .ref co, .ref fu, .ref la, .ref gy, .ref du, .ref re, .ref wm, .null])), (pa, .inr (8, [.ref pa1, .ref pa2, .ref pa3, .int 4])), (pa1, .inl (1, 108, .inl (fa_fill (fun _ => 46) (fun _ => 0) 108))), (pa2, .inl (2, 108, .inl (fun _ => 0))), (pa3, .inl (0, 108, .inl (fun _ => 0))), (ta, .inr (10, [.ref ta1, .ref ta2, .ref taz, .ref ta4, .ref ta5, .ref ta6, .int 0, .int 0])), (ta1, .inl (1, 108, .inl (fa_fill (fun _ => 46) (fun _ => 0) 108))), (ta2, .inl (0, 108, .inl (fun _ => 0))), (taz, .inr (2, [.ref taz1, .ref taz2, .ref taz3, .ref taz4, .ref taz5, .ref taz6, .int 0])), (taz1, .inl (0, 108, .inl (fun _ => 0))), (taz2, .inl (0, 108, .inl (fun _ => 0))), (taz3, .inl (0, 108, .inl (fun _ => 0))), (taz4, .inl (0, 108, .inl (fun _ => 0))), (taz5, .inl (0, 108, .inl (fun _ => 0))), (taz6, .inl (0, 108, .inl (fun _ => 0))), (ta4, .inl (2, 108, .inl (fun _ => 0))), (ta5, .inl (2, 108, .inl (fun _ => 0))), (ta6, .inl (0, 108, .inl (fun _ => 0))), (sa, .inr (10, [.ref sa1, .ref sa2, .ref saz, .ref sa4, .ref sa5, .ref sa6, .int 0, .int 0])), (sa1, .inl (1, 108, .inl (fa_fill (fun _ => 46) (fun _ => 0) 108))), (sa2, .inl (0, 108, .inl (fun _ => 0))), (saz, .inr (2, [.ref saz1, .ref saz2, .ref saz3, .ref saz4, .ref saz5, .ref saz6, .int 0])), (saz1, .inl (0, 108, .inl (fun _ => 0))), (saz2, .inl (0, 108, .inl (fun _ => 0))), (saz3, .inl (0, 108, .inl (fun _ => 0))), (saz4, .inl (0, 108, .inl (fun _ => 0))), (saz5, .inl (0, 108, .inl (fun _ => 0))), (saz6, .inl (0, 108, .inl (fun _ => 0))), (sa4, .inl (2, 108, .inl (fun _ => 0))), (sa5, .inl (2, 108, .inl (fun _ => 0))), (sa6, .inl (0, 108, .inl (fun _ => 0))), (gs, .inr (4, [.int 80, .int 35, .int 30, .int 50, .int 0])), (co, .inr (1, [.ref co1, .ref co2, .ref co3, .int 0])), (co1, .inl (0, 20, .inl (fun _ => 0))), (co2, .inl (0, 20, .inl (fun _ => 0))), (co3, .inl (0, 20, .inl (fun _ => 0))), (fu, .inr (3, [.ref fub, .ref fut1, .ref fut2, .ref fut3, .long 0])), (fub, .inr (6, [.ref fubg, .int 0])), (fubg, .inl (3, 4, .inr (.inl (fun _ => 0)))), (fut1, .inl (3, 4, .inr (.inl (fun _ => 0)))), (fut2, .inl (3, 4, .inr (.inl (fun _ => 0)))), (fut3, .inl (3, 4, .inr (.inl (fun _ => 0)))), (la, .inr (5, [.ref lab, .int 0, .int 0, .int 0])), (lab, .inr (6, [.ref labg, .int 0])), (labg, .inl (3, 4, .inr (.inl (fun _ => 0)))), (gy, .inr (6, [.ref gyg, .int 0])), (gyg, .inl (3, 4, .inr (.inl (fun _ => 0)))), (du, .inr (6, [.ref dug, .int 0])), (dug, .inl (3, 4, .inr (.inl (fun _ => 0)))), (re, .inr (9, [.int 0, .int 0, .int 0])), (wm, .inr (13, [.int 0, .ref (g.2.2 4), .int 0]))]) rfl ?_
                        refine r_aload_n d_Ip_init_125 rfl 0 rfl ?_
                        refine r_new nc_Ip_71 d_Ip_init_126 (by omega) (by omega) (fun ac => ?_)
                        refine r_cs (cs2 := [(a, .inr (11, [.ref pa, .ref ta, .ref sa, .ref gs, .ref co, .ref fu, .ref la, .ref gy, .ref du, .ref re, .ref wm, .null])), (pa, .inr (8, [.ref pa1, .ref pa2, .ref pa3, .int 4])), (pa1, .inl (1, 108, .inl (fa_fill (fun _ => 46) (fun _ => 0) 108))), (pa2, .inl (2, 108, .inl (fun _ => 0))), (pa3, .inl (0, 108, .inl (fun _ => 0))), (ta, .inr (10, [.ref ta1, .ref ta2, .ref taz, .ref ta4, .ref ta5, .ref ta6, .int 0, .int 0])), (ta1, .inl (1, 108, .inl (fa_fill (fun _ => 46) (fun _ => 0) 108))), (ta2, .inl (0, 108, .inl (fun _ => 0))), (taz, .inr (2, [.ref taz1, .ref taz2, .ref taz3, .ref taz4, .ref taz5, .ref taz6, .int 0])), (taz1, .inl (0, 108, .inl (fun _ => 0))), (taz2, .inl (0, 108, .inl (fun _ => 0))), (taz3, .inl (0, 108, .inl (fun _ => 0))), (taz4, .inl (0, 108, .inl (fun _ => 0))), (taz5, .inl (0, 108, .inl (fun _ => 0))), (taz6, .inl (0, 108, .inl (fun _ => 0))), (ta4, .inl (2, 108, .inl (fun _ => 0))), (ta5, .inl (2, 108, .inl (fun _ => 0))), (ta6, .inl (0, 108, .inl (fun _ => 0))), (sa, .inr (10, [.ref sa1, .ref sa2, .ref saz, .ref sa4, .ref sa5, .ref sa6, .int 0, .int 0])), (sa1, .inl (1, 108, .inl (fa_fill (fun _ => 46) (fun _ => 0) 108))), (sa2, .inl (0, 108, .inl (fun _ => 0))), (saz, .inr (2, [.ref saz1, .ref saz2, .ref saz3, .ref saz4, .ref saz5, .ref saz6, .int 0])), (saz1, .inl (0, 108, .inl (fun _ => 0))), (saz2, .inl (0, 108, .inl (fun _ => 0))), (saz3, .inl (0, 108, .inl (fun _ => 0))), (saz4, .inl (0, 108, .inl (fun _ => 0))), (saz5, .inl (0, 108, .inl (fun _ => 0))), (saz6, .inl (0, 108, .inl (fun _ => 0))), (sa4, .inl (2, 108, .inl (fun _ => 0))), (sa5, .inl (2, 108, .inl (fun _ => 0))), (sa6, .inl (0, 108, .inl (fun _ => 0))), (gs, .inr (4, [.int 80, .int 35, .int 30, .int 50, .int 0])), (co, .inr (1, [.ref co1, .ref co2, .ref co3, .int 0])), (co1, .inl (0, 20, .inl (fun _ => 0))), (co2, .inl (0, 20, .inl (fun _ => 0))), (co3, .inl (0, 20, .inl (fun _ => 0))), (fu, .inr (3, [.ref fub, .ref fut1, .ref fut2, .ref fut3, .long 0])), (fub, .inr (6, [.ref fubg, .int 0])), (fubg, .inl (3, 4, .inr (.inl (fun _ => 0)))), (fut1, .inl (3, 4, .inr (.inl (fun _ => 0)))), (fut2, .inl (3, 4, .inr (.inl (fun _ => 0)))), (fut3, .inl (3, 4, .inr (.inl (fun _ => 0)))), (la, .inr (5, [.ref lab, .int 0, .int 0, .int 0])), (lab, .inr (6, [.ref labg, .int 0])), (labg, .inl (3, 4, .inr (.inl (fun _ => 0)))), (gy, .inr (6, [.ref gyg, .int 0])), (gyg, .inl (3, 4, .inr (.inl (fun _ => 0)))), (du, .inr (6, [.ref dug, .int 0])), (dug, .inl (3, 4, .inr (.inl (fun _ => 0)))), (re, .inr (9, [.int 0, .int 0, .int 0])), (wm, .inr (13, [.int 0, .ref (g.2.2 4), .int 0])), (ac, .inr (13, [.int 0, .null, .int 0]))]) rfl ?_
                        refine r_dup d_Ip_init_129 rfl ?_
                        refine r_callI (As := []) (rest := [.ref ac, .ref a]) (csC := [(ac, .inr (13, [.int 0, .null, .int 0]))]) (is := [51]) rfl rfl ln_Ip_73 w_im_AL_init ok_Ip_init_AL_init d_Ip_init_130 (C_AL_init g ac) rfl rfl (Nat.le_of_ble_eq_true rfl) rfl (by decide) (by omega) (by omega) (fun E cs1 hx => ?_) (fun v cs1 hx => ?_)
                        · exact absurd hx.1 (by simp)
                        · obtain ⟨e1, rfl⟩ := hx
                          cases e1
                          refine ⟨rfl, ?_⟩
                          refine r_st (st2 := [.ref ac, .ref a]) rfl ?_
                          refine r_cs (cs2 := [(a, .inr (11, [.ref pa, .ref ta, .ref sa, .ref gs, .ref co, .ref fu, .ref la, .ref gy, .ref du, .ref re, .ref wm, .null])), (pa, .inr (8, [.ref pa1, .ref pa2, .ref pa3, .int 4])), (pa1, .inl (1, 108, .inl (fa_fill (fun _ => 46) (fun _ => 0) 108))), (pa2, .inl (2, 108, .inl (fun _ => 0))), (pa3, .inl (0, 108, .inl (fun _ => 0))), (ta, .inr (10, [.ref ta1, .ref ta2, .ref taz, .ref ta4, .ref ta5, .ref ta6, .int 0, .int 0])), (ta1, .inl (1, 108, .inl (fa_fill (fun _ => 46) (fun _ => 0) 108))), (ta2, .inl (0, 108, .inl (fun _ => 0))), (taz, .inr (2, [.ref taz1, .ref taz2, .ref taz3, .ref taz4, .ref taz5, .ref taz6, .int 0])), (taz1, .inl (0, 108, .inl (fun _ => 0))), (taz2, .inl (0, 108, .inl (fun _ => 0))), (taz3, .inl (0, 108, .inl (fun _ => 0))), (taz4, .inl (0, 108, .inl (fun _ => 0))), (taz5, .inl (0, 108, .inl (fun _ => 0))), (taz6, .inl (0, 108, .inl (fun _ => 0))), (ta4, .inl (2, 108, .inl (fun _ => 0))), (ta5, .inl (2, 108, .inl (fun _ => 0))), (ta6, .inl (0, 108, .inl (fun _ => 0))), (sa, .inr (10, [.ref sa1, .ref sa2, .ref saz, .ref sa4, .ref sa5, .ref sa6, .int 0, .int 0])), (sa1, .inl (1, 108, .inl (fa_fill (fun _ => 46) (fun _ => 0) 108))), (sa2, .inl (0, 108, .inl (fun _ => 0))), (saz, .inr (2, [.ref saz1, .ref saz2, .ref saz3, .ref saz4, .ref saz5, .ref saz6, .int 0])), (saz1, .inl (0, 108, .inl (fun _ => 0))), (saz2, .inl (0, 108, .inl (fun _ => 0))), (saz3, .inl (0, 108, .inl (fun _ => 0))), (saz4, .inl (0, 108, .inl (fun _ => 0))), (saz5, .inl (0, 108, .inl (fun _ => 0))), (saz6, .inl (0, 108, .inl (fun _ => 0))), (sa4, .inl (2, 108, .inl (fun _ => 0))), (sa5, .inl (2, 108, .inl (fun _ => 0))), (sa6, .inl (0, 108, .inl (fun _ => 0))), (gs, .inr (4, [.int 80, .int 35, .int 30, .int 50, .int 0])), (co, .inr (1, [.ref co1, .ref co2, .ref co3, .int 0])), (co1, .inl (0, 20, .inl (fun _ => 0))), (co2, .inl (0, 20, .inl (fun _ => 0))), (co3, .inl (0, 20, .inl (fun _ => 0))), (fu, .inr (3, [.ref fub, .ref fut1, .ref fut2, .ref fut3, .long 0])), (fub, .inr (6, [.ref fubg, .int 0])), (fubg, .inl (3, 4, .inr (.inl (fun _ => 0)))), (fut1, .inl (3, 4, .inr (.inl (fun _ => 0)))), (fut2, .inl (3, 4, .inr (.inl (fun _ => 0)))), (fut3, .inl (3, 4, .inr (.inl (fun _ => 0)))), (la, .inr (5, [.ref lab, .int 0, .int 0, .int 0])), (lab, .inr (6, [.ref labg, .int 0])), (labg, .inl (3, 4, .inr (.inl (fun _ => 0)))), (gy, .inr (6, [.ref gyg, .int 0])), (gyg, .inl (3, 4, .inr (.inl (fun _ => 0)))), (du, .inr (6, [.ref dug, .int 0])), (dug, .inl (3, 4, .inr (.inl (fun _ => 0)))), (re, .inr (9, [.int 0, .int 0, .int 0])), (wm, .inr (13, [.int 0, .ref (g.2.2 4), .int 0])), (ac, .inr (13, [.int 0, .ref (g.2.2 4), .int 0]))]) rfl ?_
                          refine r_put fp_Ip_78 d_Ip_init_133 (fun _ => rfl) rfl rfl (q0 := 0) rfl (Nat.le_of_ble_eq_true rfl) (cs' := [(a, .inr (11, [.ref pa, .ref ta, .ref sa, .ref gs, .ref co, .ref fu, .ref la, .ref gy, .ref du, .ref re, .ref wm, .ref ac])), (pa, .inr (8, [.ref pa1, .ref pa2, .ref pa3, .int 4])), (pa1, .inl (1, 108, .inl (fa_fill (fun _ => 46) (fun _ => 0) 108))), (pa2, .inl (2, 108, .inl (fun _ => 0))), (pa3, .inl (0, 108, .inl (fun _ => 0))), (ta, .inr (10, [.ref ta1, .ref ta2, .ref taz, .ref ta4, .ref ta5, .ref ta6, .int 0, .int 0])), (ta1, .inl (1, 108, .inl (fa_fill (fun _ => 46) (fun _ => 0) 108))), (ta2, .inl (0, 108, .inl (fun _ => 0))), (taz, .inr (2, [.ref taz1, .ref taz2, .ref taz3, .ref taz4, .ref taz5, .ref taz6, .int 0])), (taz1, .inl (0, 108, .inl (fun _ => 0))), (taz2, .inl (0, 108, .inl (fun _ => 0))), (taz3, .inl (0, 108, .inl (fun _ => 0))), (taz4, .inl (0, 108, .inl (fun _ => 0))), (taz5, .inl (0, 108, .inl (fun _ => 0))), (taz6, .inl (0, 108, .inl (fun _ => 0))), (ta4, .inl (2, 108, .inl (fun _ => 0))), (ta5, .inl (2, 108, .inl (fun _ => 0))), (ta6, .inl (0, 108, .inl (fun _ => 0))), (sa, .inr (10, [.ref sa1, .ref sa2, .ref saz, .ref sa4, .ref sa5, .ref sa6, .int 0, .int 0])), (sa1, .inl (1, 108, .inl (fa_fill (fun _ => 46) (fun _ => 0) 108))), (sa2, .inl (0, 108, .inl (fun _ => 0))), (saz, .inr (2, [.ref saz1, .ref saz2, .ref saz3, .ref saz4, .ref saz5, .ref saz6, .int 0])), (saz1, .inl (0, 108, .inl (fun _ => 0))), (saz2, .inl (0, 108, .inl (fun _ => 0))), (saz3, .inl (0, 108, .inl (fun _ => 0))), (saz4, .inl (0, 108, .inl (fun _ => 0))), (saz5, .inl (0, 108, .inl (fun _ => 0))), (saz6, .inl (0, 108, .inl (fun _ => 0))), (sa4, .inl (2, 108, .inl (fun _ => 0))), (sa5, .inl (2, 108, .inl (fun _ => 0))), (sa6, .inl (0, 108, .inl (fun _ => 0))), (gs, .inr (4, [.int 80, .int 35, .int 30, .int 50, .int 0])), (co, .inr (1, [.ref co1, .ref co2, .ref co3, .int 0])), (co1, .inl (0, 20, .inl (fun _ => 0))), (co2, .inl (0, 20, .inl (fun _ => 0))), (co3, .inl (0, 20, .inl (fun _ => 0))), (fu, .inr (3, [.ref fub, .ref fut1, .ref fut2, .ref fut3, .long 0])), (fub, .inr (6, [.ref fubg, .int 0])), (fubg, .inl (3, 4, .inr (.inl (fun _ => 0)))), (fut1, .inl (3, 4, .inr (.inl (fun _ => 0)))), (fut2, .inl (3, 4, .inr (.inl (fun _ => 0)))), (fut3, .inl (3, 4, .inr (.inl (fun _ => 0)))), (la, .inr (5, [.ref lab, .int 0, .int 0, .int 0])), (lab, .inr (6, [.ref labg, .int 0])), (labg, .inl (3, 4, .inr (.inl (fun _ => 0)))), (gy, .inr (6, [.ref gyg, .int 0])), (gyg, .inl (3, 4, .inr (.inl (fun _ => 0)))), (du, .inr (6, [.ref dug, .int 0])), (dug, .inl (3, 4, .inr (.inl (fun _ => 0)))), (re, .inr (9, [.int 0, .int 0, .int 0])), (wm, .inr (13, [.int 0, .ref (g.2.2 4), .int 0])), (ac, .inr (13, [.int 0, .ref (g.2.2 4), .int 0]))]) rfl ?_
                          refine r_vret d_Ip_init_136 rfl ?_
                          exact ⟨pa, pa1, pa2, pa3, ta, ta1, ta2, taz, taz1, taz2, taz3, taz4, taz5, taz6, ta4, ta5, ta6, sa, sa1, sa2, saz, saz1, saz2, saz3, saz4, saz5, saz6, sa4, sa5, sa6, gs, co, co1, co2, co3, fu, fub, fubg, fut1, fut2, fut3, la, lab, labg, gy, gyg, du, dug, re, wm, ac, rfl, rfl⟩
