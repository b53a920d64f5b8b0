abbrev M_Ip_tenthsOf : zM := (⟨"Ironpour", "tenthsOf", "(C)[I"⟩, prog_1_method_61_code, 1, (Option.some (FieldType.array FieldType.int)), 1, 20, [])
theorem d_Ip_tenthsOf_0 : decode prog_1_method_61_code 0 = .ok (.iload_n 0, 1) := zo_26 (zd_b zq_prog_1_method_61_code_0 0 rfl rfl rfl)
theorem d_Ip_tenthsOf_1 : decode prog_1_method_61_code 1 = .ok (.lookupswitch 47 #[(102, 43), (112, 35), (115, 39)], 35) := by decide +kernel
theorem d_Ip_tenthsOf_36 : decode prog_1_method_61_code 36 = .ok (.getstatic 523, 3) := zo_178 (d := 2) (e := 11) (zd_b zq_prog_1_method_61_code_1 4 rfl rfl rfl) (zd_b zq_prog_1_method_61_code_1 5 rfl rfl rfl) (zd_b zq_prog_1_method_61_code_1 6 rfl rfl rfl)
theorem ls_Ip_523 : Cond.fieldLink "Ironpour" 523 "Ironpour" (z_sn 0) "[I" ∈ z_gw := z_mj5 (i := 52) rfl (by decide +kernel)
theorem d_Ip_tenthsOf_39 : decode prog_1_method_61_code 39 = .ok (.areturn, 1) := zo_176 (zd_b zq_prog_1_method_61_code_1 7 rfl rfl rfl)
set_option maxHeartbeats 4000000 in
set_option maxRecDepth 100000 in
theorem C_Ip_tenthsOf112 (g : zG)  : CT g M_Ip_tenthsOf [.int 112] [] (fun o cs1 => o = .inl (some (.ref (g.2.2 0))) ∧ cs1 = []) 0 0 := by
  refine z_of (by decide) rfl (Nat.le_of_ble_eq_true rfl) (fun w0 => ?_)
  refine r_lvE (lv2 := [(0, .int 112)]) rfl ?_
  refine r_iload_n d_Ip_tenthsOf_0 rfl 0 rfl ?_
  · refine r_lookup (off := 35) (tgt := 36) d_Ip_tenthsOf_1 (by decide) (by decide) (by decide) ?_
    refine r_getsA (i := 0) (by decide) ls_Ip_523 d_Ip_tenthsOf_36 ?_
    refine r_aret d_Ip_tenthsOf_39 rfl (Or.inr ⟨_, rfl⟩) (Or.inr ⟨_, rfl⟩) ?_
    exact ⟨rfl, rfl⟩
theorem d_Ip_tenthsOf_40 : decode prog_1_method_61_code 40 = .ok (.getstatic 526, 3) := zo_178 (d := 2) (e := 14) (zd_b zq_prog_1_method_61_code_1 8 rfl rfl rfl) (zd_b zq_prog_1_method_61_code_1 9 rfl rfl rfl) (zd_b zq_prog_1_method_61_code_1 10 rfl rfl rfl)
theorem ls_Ip_526 : Cond.fieldLink "Ironpour" 526 "Ironpour" (z_sn 1) "[I" ∈ z_gw := z_mj5 (i := 54) rfl (by decide +kernel)
theorem d_Ip_tenthsOf_43 : decode prog_1_method_61_code 43 = .ok (.areturn, 1) := zo_176 (zd_b zq_prog_1_method_61_code_1 11 rfl rfl rfl)
set_option maxHeartbeats 4000000 in
set_option maxRecDepth 100000 in
theorem C_Ip_tenthsOf115 (g : zG)  : CT g M_Ip_tenthsOf [.int 115] [] (fun o cs1 => o = .inl (some (.ref (g.2.2 1))) ∧ cs1 = []) 0 0 := by
  refine z_of (by decide) rfl (Nat.le_of_ble_eq_true rfl) (fun w0 => ?_)
  refine r_lvE (lv2 := [(0, .int 115)]) rfl ?_
  refine r_iload_n d_Ip_tenthsOf_0 rfl 0 rfl ?_
  · refine r_lookup (off := 39) (tgt := 40) d_Ip_tenthsOf_1 (by decide) (by decide) (by decide) ?_
    refine r_getsA (i := 1) (by decide) ls_Ip_526 d_Ip_tenthsOf_40 ?_
    refine r_aret d_Ip_tenthsOf_43 rfl (Or.inr ⟨_, rfl⟩) (Or.inr ⟨_, rfl⟩) ?_
    exact ⟨rfl, rfl⟩
theorem d_Ip_tenthsOf_44 : decode prog_1_method_61_code 44 = .ok (.getstatic 529, 3) := zo_178 (d := 2) (e := 17) (zd_b zq_prog_1_method_61_code_1 12 rfl rfl rfl) (zd_b zq_prog_1_method_61_code_1 13 rfl rfl rfl) (zd_b zq_prog_1_method_61_code_1 14 rfl rfl rfl)
theorem ls_Ip_529 : Cond.fieldLink "Ironpour" 529 "Ironpour" (z_sn 2) "[I" ∈ z_gw := z_mj5 (i := 56) rfl (by decide +kernel)
theorem d_Ip_tenthsOf_47 : decode prog_1_method_61_code 47 = .ok (.areturn, 1) := zo_176 (zd_b zq_prog_1_method_61_code_1 15 rfl rfl rfl)
set_option maxHeartbeats 4000000 in
set_option maxRecDepth 100000 in
theorem C_Ip_tenthsOf102 (g : zG)  : CT g M_Ip_tenthsOf [.int 102] [] (fun o cs1 => o = .inl (some (.ref (g.2.2 2))) ∧ cs1 = []) 0 0 := by
  refine z_of (by decide) rfl (Nat.le_of_ble_eq_true rfl) (fun w0 => ?_)
  refine r_lvE (lv2 := [(0, .int 102)]) rfl ?_
  refine r_iload_n d_Ip_tenthsOf_0 rfl 0 rfl ?_
  · refine r_lookup (off := 43) (tgt := 44) d_Ip_tenthsOf_1 (by decide) (by decide) (by decide) ?_
    refine r_getsA (i := 2) (by decide) ls_Ip_529 d_Ip_tenthsOf_44 ?_
    refine r_aret d_Ip_tenthsOf_47 rfl (Or.inr ⟨_, rfl⟩) (Or.inr ⟨_, rfl⟩) ?_
    exact ⟨rfl, rfl⟩
theorem d_Ip_tenthsOf_48 : decode prog_1_method_61_code 48 = .ok (.getstatic 532, 3) := zo_178 (d := 2) (e := 20) (zd_b zq_prog_1_method_61_code_1 16 rfl rfl rfl) (zd_b zq_prog_1_method_61_code_1 17 rfl rfl rfl) (zd_b zq_prog_1_method_61_code_1 18 rfl rfl rfl)
theorem ls_Ip_532 : Cond.fieldLink "Ironpour" 532 "Ironpour" (z_sn 3) "[I" ∈ z_gw := z_mj5 (i := 58) rfl (by decide +kernel)
theorem d_Ip_tenthsOf_51 : decode prog_1_method_61_code 51 = .ok (.areturn, 1) := zo_176 (zd_b zq_prog_1_method_61_code_1 19 rfl rfl rfl)
set_option maxHeartbeats 4000000 in
set_option maxRecDepth 100000 in
theorem C_Ip_tenthsOf107 (g : zG)  : CT g M_Ip_tenthsOf [.int 107] [] (fun o cs1 => o = .inl (some (.ref (g.2.2 3))) ∧ cs1 = []) 0 0 := by
  refine z_of (by decide) rfl (Nat.le_of_ble_eq_true rfl) (fun w0 => ?_)
  refine r_lvE (lv2 := [(0, .int 107)]) rfl ?_
  refine r_iload_n d_Ip_tenthsOf_0 rfl 0 rfl ?_
  · refine r_lookup (off := 47) (tgt := 48) d_Ip_tenthsOf_1 (by decide) (by decide) (by decide) ?_
    refine r_getsA (i := 3) (by decide) ls_Ip_532 d_Ip_tenthsOf_48 ?_
    refine r_aret d_Ip_tenthsOf_51 rfl (Or.inr ⟨_, rfl⟩) (Or.inr ⟨_, rfl⟩) ?_
    exact ⟨rfl, rfl⟩
abbrev M_Ip_minutes : zM := (⟨"Ironpour", "minutes", "(I)I"⟩, prog_1_method_28_code, 3, (Option.some FieldType.int), 6, 100, [])
theorem d_Ip_minutes_0 : decode prog_1_method_28_code 0 = .ok (.iload_n 1, 1) := zo_27 (zd_b zq_prog_1_method_28_code_0 0 rfl rfl rfl)
theorem d_Ip_minutes_1 : decode prog_1_method_28_code 1 = .ok (.iconst 1, 1) := zo_4 (zd_b zq_prog_1_method_28_code_0 1 rfl rfl rfl)
theorem d_Ip_minutes_2 : decode prog_1_method_28_code 2 = .ok (.bipush 60, 2) := zo_16 (d := 60) (zd_b zq_prog_1_method_28_code_0 2 rfl rfl rfl) (zd_b zq_prog_1_method_28_code_0 3 rfl rfl rfl) (by decide +kernel)
theorem d_Ip_minutes_4 : decode prog_1_method_28_code 4 = .ok (.invokestatic 203, 3) := zo_184 (d := 0) (e := 203) (zd_b zq_prog_1_method_28_code_0 4 rfl rfl rfl) (zd_b zq_prog_1_method_28_code_0 5 rfl rfl rfl) (zd_b zq_prog_1_method_28_code_0 6 rfl rfl rfl)
theorem ok_Ip_minutes_Ip_isWithin : z_ok M_Ip_minutes M_Ip_isWithin 3 := ⟨z_mj4 (i := 97) rfl (by decide +kernel), rfl, ⟨by decide +kernel, by decide +kernel, by decide +kernel⟩, ⟨by decide, by decide⟩, z_mj1 (i := 1) rfl (by decide +kernel), rfl⟩
theorem d_Ip_minutes_7 : decode prog_1_method_28_code 7 = .ok (.ifCond .ne 14, 3) := zo_154 (d := 0) (e := 14) (zd_b zq_prog_1_method_28_code_0 7 rfl rfl rfl) (zd_b zq_prog_1_method_28_code_0 8 rfl rfl rfl) (zd_b zq_prog_1_method_28_code_0 9 rfl rfl rfl) (by decide +kernel)
theorem d_Ip_minutes_10 : decode prog_1_method_28_code 10 = .ok (.new 89, 3) := zo_187 (d := 0) (e := 89) (zd_b zq_prog_1_method_28_code_0 10 rfl rfl rfl) (zd_b zq_prog_1_method_28_code_0 11 rfl rfl rfl) (zd_b zq_prog_1_method_28_code_0 12 rfl rfl rfl)
theorem sr_Ip_336 : Cond.stringRef "Ironpour" 336 "1 to 60 minutes go by" ∈ lw_tbl := z_tb5 (i := 139) rfl
theorem d_Ip_minutes_13 : decode prog_1_method_28_code 13 = .ok (.dup, 1) := zo_89 (zd_b zq_prog_1_method_28_code_0 13 rfl rfl rfl)
theorem d_Ip_minutes_14 : decode prog_1_method_28_code 14 = .ok (.ldc_w 336, 3) := zo_19 (d := 1) (e := 80) (zd_b zq_prog_1_method_28_code_0 14 rfl rfl rfl) (zd_b zq_prog_1_method_28_code_0 15 rfl rfl rfl) (zd_b zq_prog_1_method_28_code_0 16 rfl rfl rfl)
theorem d_Ip_minutes_17 : decode prog_1_method_28_code 17 = .ok (.invokespecial 93, 3) := zo_183 (d := 0) (e := 93) (zd_b zq_prog_1_method_28_code_0 17 rfl rfl rfl) (zd_b zq_prog_1_method_28_code_0 18 rfl rfl rfl) (zd_b zq_prog_1_method_28_code_0 19 rfl rfl rfl)
theorem d_Ip_minutes_20 : decode prog_1_method_28_code 20 = .ok (.athrow, 1) := zo_191 (zd_b zq_prog_1_method_28_code_0 20 rfl rfl rfl)
theorem d_Ip_minutes_21 : decode prog_1_method_28_code 21 = .ok (.aload_n 0, 1) := zo_42 (zd_b zq_prog_1_method_28_code_0 21 rfl rfl rfl)
theorem d_Ip_minutes_22 : decode prog_1_method_28_code 22 = .ok (.getfield 50, 3) := zo_180 (d := 0) (e := 50) (zd_b zq_prog_1_method_28_code_0 22 rfl rfl rfl) (zd_b zq_prog_1_method_28_code_0 23 rfl rfl rfl) (zd_b zq_prog_1_method_28_code_0 24 rfl rfl rfl)
theorem d_Ip_minutes_25 : decode prog_1_method_28_code 25 = .ok (.iload_n 1, 1) := zo_27 (zd_b zq_prog_1_method_28_code_0 25 rfl rfl rfl)
theorem d_Ip_minutes_26 : decode prog_1_method_28_code 26 = .ok (.invokevirtual 338, 3) := zo_182 (d := 1) (e := 82) (zd_b zq_prog_1_method_28_code_0 26 rfl rfl rfl) (zd_b zq_prog_1_method_28_code_0 27 rfl rfl rfl) (zd_b zq_prog_1_method_28_code_0 28 rfl rfl rfl)
theorem ok_Ip_minutes_La_fadeFor : z_ok M_Ip_minutes M_La_fadeFor 1 := ⟨z_mj5 (i := 143) rfl (by decide +kernel), rfl, ⟨by decide +kernel, by decide +kernel, by decide +kernel⟩, ⟨by decide, by decide⟩, z_mj1 (i := 9) rfl (by decide +kernel), rfl⟩
theorem ln_Ip_338 : Cond.methodLink "Ironpour" 338 M_La_fadeFor.1 ∈ z_gw := z_mj5 (i := 140) rfl (by decide +kernel)
theorem w_im_La_fadeFor : Cond.instanceMethod M_La_fadeFor.1 ∈ z_gw := z_mj5 (i := 141) rfl (by decide +kernel)
theorem w_se_La_fadeFor : Cond.selects M_La_fadeFor.1.cls M_La_fadeFor.1 M_La_fadeFor.1 ∈ z_gw := z_mj5 (i := 142) rfl (by decide +kernel)
theorem d_Ip_minutes_29 : decode prog_1_method_28_code 29 = .ok (.iconst 0, 1) := zo_3 (zd_b zq_prog_1_method_28_code_0 29 rfl rfl rfl)
theorem d_Ip_minutes_30 : decode prog_1_method_28_code 30 = .ok (.istore_n 2, 1) := zo_61 (zd_b zq_prog_1_method_28_code_0 30 rfl rfl rfl)
theorem d_Ip_minutes_31 : decode prog_1_method_28_code 31 = .ok (.iload_n 2, 1) := zo_28 (zd_b zq_prog_1_method_28_code_0 31 rfl rfl rfl)
theorem d_Ip_minutes_32 : decode prog_1_method_28_code 32 = .ok (.aload_n 0, 1) := zo_42 (zd_b zq_prog_1_method_28_code_1 0 rfl rfl rfl)
theorem d_Ip_minutes_33 : decode prog_1_method_28_code 33 = .ok (.getfield 74, 3) := zo_180 (d := 0) (e := 74) (zd_b zq_prog_1_method_28_code_1 1 rfl rfl rfl) (zd_b zq_prog_1_method_28_code_1 2 rfl rfl rfl) (zd_b zq_prog_1_method_28_code_1 3 rfl rfl rfl)
theorem fs_Ip_74 : z_fs "Ironpour" 74 11 10 := ⟨R_Ip, "Ironpour", F_Ip, 12, rfl, u_Ip, by decide, Or.inl ⟨z_mj2 (i := 73) rfl (by decide +kernel), Or.inl rfl⟩⟩
theorem d_Ip_minutes_36 : decode prog_1_method_28_code 36 = .ok (.invokevirtual 341, 3) := zo_182 (d := 1) (e := 85) (zd_b zq_prog_1_method_28_code_1 4 rfl rfl rfl) (zd_b zq_prog_1_method_28_code_1 5 rfl rfl rfl) (zd_b zq_prog_1_method_28_code_1 6 rfl rfl rfl)
theorem ok_Ip_minutes_AL_size : z_ok M_Ip_minutes M_AL_size 0 := ⟨z_mj2 (i := 172) rfl (by decide +kernel), rfl, ⟨by decide +kernel, by decide +kernel, by decide +kernel⟩, ⟨by decide, by decide⟩, z_mj1 (i := 13) rfl (by decide +kernel), rfl⟩
theorem ln_Ip_341 : Cond.methodLink "Ironpour" 341 M_AL_size.1 ∈ z_gw := z_mj2 (i := 169) rfl (by decide +kernel)
theorem d_Ip_minutes_39 : decode prog_1_method_28_code 39 = .ok (.if_icmp .ge 29, 3) := zo_162 (d := 0) (e := 29) (zd_b zq_prog_1_method_28_code_1 7 rfl rfl rfl) (zd_b zq_prog_1_method_28_code_1 8 rfl rfl rfl) (zd_b zq_prog_1_method_28_code_1 9 rfl rfl rfl) (by decide +kernel)
theorem d_Ip_minutes_68 : decode prog_1_method_28_code 68 = .ok (.aload_n 0, 1) := zo_42 (zd_b zq_prog_1_method_28_code_2 4 rfl rfl rfl)
theorem d_Ip_minutes_69 : decode prog_1_method_28_code 69 = .ok (.getfield 50, 3) := zo_180 (d := 0) (e := 50) (zd_b zq_prog_1_method_28_code_2 5 rfl rfl rfl) (zd_b zq_prog_1_method_28_code_2 6 rfl rfl rfl) (zd_b zq_prog_1_method_28_code_2 7 rfl rfl rfl)
theorem d_Ip_minutes_72 : decode prog_1_method_28_code 72 = .ok (.invokevirtual 314, 3) := zo_182 (d := 1) (e := 58) (zd_b zq_prog_1_method_28_code_2 8 rfl rfl rfl) (zd_b zq_prog_1_method_28_code_2 9 rfl rfl rfl) (zd_b zq_prog_1_method_28_code_2 10 rfl rfl rfl)
theorem ok_Ip_minutes_La_isEmpty : z_ok M_Ip_minutes M_La_isEmpty 0 := ⟨z_mj5 (i := 110) rfl (by decide +kernel), rfl, ⟨by decide +kernel, by decide +kernel, by decide +kernel⟩, ⟨by decide, by decide⟩, z_mj1 (i := 9) rfl (by decide +kernel), rfl⟩
theorem d_Ip_minutes_75 : decode prog_1_method_28_code 75 = .ok (.ifCond .eq 7, 3) := zo_153 (d := 0) (e := 7) (zd_b zq_prog_1_method_28_code_2 11 rfl rfl rfl) (zd_b zq_prog_1_method_28_code_2 12 rfl rfl rfl) (zd_b zq_prog_1_method_28_code_2 13 rfl rfl rfl) (by decide +kernel)
theorem d_Ip_minutes_82 : decode prog_1_method_28_code 82 = .ok (.aload_n 0, 1) := zo_42 (zd_b zq_prog_1_method_28_code_2 18 rfl rfl rfl)
theorem d_Ip_minutes_83 : decode prog_1_method_28_code 83 = .ok (.getfield 50, 3) := zo_180 (d := 0) (e := 50) (zd_b zq_prog_1_method_28_code_2 19 rfl rfl rfl) (zd_b zq_prog_1_method_28_code_2 20 rfl rfl rfl) (zd_b zq_prog_1_method_28_code_2 21 rfl rfl rfl)
theorem d_Ip_minutes_86 : decode prog_1_method_28_code 86 = .ok (.getfield 353, 3) := zo_180 (d := 1) (e := 97) (zd_b zq_prog_1_method_28_code_2 22 rfl rfl rfl) (zd_b zq_prog_1_method_28_code_2 23 rfl rfl rfl) (zd_b zq_prog_1_method_28_code_2 24 rfl rfl rfl)
theorem d_Ip_minutes_89 : decode prog_1_method_28_code 89 = .ok (.ireturn, 1) := zo_172 (zd_b zq_prog_1_method_28_code_2 25 rfl rfl rfl)
theorem d_Ip_minutes_78 : decode prog_1_method_28_code 78 = .ok (.iconst 0, 1) := zo_3 (zd_b zq_prog_1_method_28_code_2 14 rfl rfl rfl)
theorem d_Ip_minutes_79 : decode prog_1_method_28_code 79 = .ok (.goto 10, 3) := zo_167 (d := 0) (e := 10) (zd_b zq_prog_1_method_28_code_2 15 rfl rfl rfl) (zd_b zq_prog_1_method_28_code_2 16 rfl rfl rfl) (zd_b zq_prog_1_method_28_code_2 17 rfl rfl rfl) (by decide +kernel)
abbrev M_Ip_mould : zM := (⟨"Ironpour", "mould", "()I"⟩, prog_1_method_35_code, 2, (Option.some FieldType.int), 8, 231, [])
theorem d_Ip_mould_0 : decode prog_1_method_35_code 0 = .ok (.aload_n 0, 1) := zo_42 (zd_b zq_prog_1_method_35_code_0 0 rfl rfl rfl)
theorem d_Ip_mould_1 : decode prog_1_method_35_code 1 = .ok (.getfield 10, 3) := zo_180 (d := 0) (e := 10) (zd_b zq_prog_1_method_35_code_0 1 rfl rfl rfl) (zd_b zq_prog_1_method_35_code_0 2 rfl rfl rfl) (zd_b zq_prog_1_method_35_code_0 3 rfl rfl rfl)
theorem d_Ip_mould_4 : decode prog_1_method_35_code 4 = .ok (.invokevirtual 147, 3) := zo_182 (d := 0) (e := 147) (zd_b zq_prog_1_method_35_code_0 4 rfl rfl rfl) (zd_b zq_prog_1_method_35_code_0 5 rfl rfl rfl) (zd_b zq_prog_1_method_35_code_0 6 rfl rfl rfl)
theorem ok_Ip_mould_Pa_gatesOnTop : z_ok M_Ip_mould M_Pa_gatesOnTop 0 := ⟨z_mj4 (i := 63) rfl (by decide +kernel), rfl, ⟨by decide +kernel, by decide +kernel, by decide +kernel⟩, ⟨by decide, by decide⟩, z_mj1 (i := 2) rfl (by decide +kernel), rfl⟩
theorem d_Ip_mould_7 : decode prog_1_method_35_code 7 = .ok (.ifCond .eq 13, 3) := zo_153 (d := 0) (e := 13) (zd_b zq_prog_1_method_35_code_0 7 rfl rfl rfl) (zd_b zq_prog_1_method_35_code_0 8 rfl rfl rfl) (zd_b zq_prog_1_method_35_code_0 9 rfl rfl rfl) (by decide +kernel)
theorem d_Ip_mould_20 : decode prog_1_method_35_code 20 = .ok (.new 150, 3) := zo_187 (d := 0) (e := 150) (zd_b zq_prog_1_method_35_code_0 20 rfl rfl rfl) (zd_b zq_prog_1_method_35_code_0 21 rfl rfl rfl) (zd_b zq_prog_1_method_35_code_0 22 rfl rfl rfl)
theorem sr_Ip_401 : Cond.stringRef "Ironpour" 401 "no gate in the row 0, or no cell of the casting" ∈ lw_tbl := z_tb5 (i := 223) rfl
theorem d_Ip_mould_23 : decode prog_1_method_35_code 23 = .ok (.dup, 1) := zo_89 (zd_b zq_prog_1_method_35_code_0 23 rfl rfl rfl)
theorem d_Ip_mould_24 : decode prog_1_method_35_code 24 = .ok (.ldc_w 401, 3) := zo_19 (d := 1) (e := 145) (zd_b zq_prog_1_method_35_code_0 24 rfl rfl rfl) (zd_b zq_prog_1_method_35_code_0 25 rfl rfl rfl) (zd_b zq_prog_1_method_35_code_0 26 rfl rfl rfl)
theorem d_Ip_mould_27 : decode prog_1_method_35_code 27 = .ok (.invokespecial 154, 3) := zo_183 (d := 0) (e := 154) (zd_b zq_prog_1_method_35_code_0 27 rfl rfl rfl) (zd_b zq_prog_1_method_35_code_0 28 rfl rfl rfl) (zd_b zq_prog_1_method_35_code_0 29 rfl rfl rfl)
theorem d_Ip_mould_30 : decode prog_1_method_35_code 30 = .ok (.athrow, 1) := zo_191 (zd_b zq_prog_1_method_35_code_0 30 rfl rfl rfl)
theorem d_Ip_mould_10 : decode prog_1_method_35_code 10 = .ok (.aload_n 0, 1) := zo_42 (zd_b zq_prog_1_method_35_code_0 10 rfl rfl rfl)
theorem d_Ip_mould_11 : decode prog_1_method_35_code 11 = .ok (.getfield 10, 3) := zo_180 (d := 0) (e := 10) (zd_b zq_prog_1_method_35_code_0 11 rfl rfl rfl) (zd_b zq_prog_1_method_35_code_0 12 rfl rfl rfl) (zd_b zq_prog_1_method_35_code_0 13 rfl rfl rfl)
theorem d_Ip_mould_14 : decode prog_1_method_35_code 14 = .ok (.invokevirtual 398, 3) := zo_182 (d := 1) (e := 142) (zd_b zq_prog_1_method_35_code_0 14 rfl rfl rfl) (zd_b zq_prog_1_method_35_code_0 15 rfl rfl rfl) (zd_b zq_prog_1_method_35_code_0 16 rfl rfl rfl)
theorem ok_Ip_mould_Pa_hasCasting : z_ok M_Ip_mould M_Pa_hasCasting 0 := ⟨z_mj5 (i := 222) rfl (by decide +kernel), rfl, ⟨by decide +kernel, by decide +kernel, by decide +kernel⟩, ⟨by decide, by decide⟩, z_mj1 (i := 2) rfl (by decide +kernel), rfl⟩
theorem ln_Ip_398 : Cond.methodLink "Ironpour" 398 M_Pa_hasCasting.1 ∈ z_gw := z_mj5 (i := 219) rfl (by decide +kernel)
theorem w_im_Pa_hasCasting : Cond.instanceMethod M_Pa_hasCasting.1 ∈ z_gw := z_mj5 (i := 220) rfl (by decide +kernel)
theorem w_se_Pa_hasCasting : Cond.selects M_Pa_hasCasting.1.cls M_Pa_hasCasting.1 M_Pa_hasCasting.1 ∈ z_gw := z_mj5 (i := 221) rfl (by decide +kernel)
theorem d_Ip_mould_17 : decode prog_1_method_35_code 17 = .ok (.ifCond .ne 14, 3) := zo_154 (d := 0) (e := 14) (zd_b zq_prog_1_method_35_code_0 17 rfl rfl rfl) (zd_b zq_prog_1_method_35_code_0 18 rfl rfl rfl) (zd_b zq_prog_1_method_35_code_0 19 rfl rfl rfl) (by decide +kernel)
set_option maxHeartbeats 4000000 in
set_option maxRecDepth 100000 in
theorem C_Ip_mouldE (g : zG) (a pa ta sa gs co fu la gy du re wm ac : Nat) (pa1 pa2 pa3 : Nat) (f sn : Nat → Int32) (qn : Nat → Nat) (p : Nat) (hE : fa_cnt (fun k => decide (f k = 103)) 12 = 0 ∨ anB (fun k => decide (f k = 99)) 108 = false) : CT g M_Ip_mould [.ref a] [(a, .inr (11, [.ref pa, .ref ta, .ref sa, .ref gs, .ref co, .ref fu, .ref la, .ref gy, .ref du, .ref re, .ref wm, .ref ac])), (pa, .inr (8, [.ref pa1, .ref pa2, .ref pa3, .int (nI p)])), (pa1, .inl (1, 108, .inl f)), (pa2, .inl (2, 108, .inl sn)), (pa3, .inl (0, 108, .inl (fun k => nI (qn k))))] (fun o cs1 => o = .inr "java/util/NoSuchElementException" ∧ cs1 = [(a, .inr (11, [.ref pa, .ref ta, .ref sa, .ref gs, .ref co, .ref fu, .ref la, .ref gy, .ref du, .ref re, .ref wm, .ref ac])), (pa, .inr (8, [.ref pa1, .ref pa2, .ref pa3, .int (nI p)])), (pa1, .inl (1, 108, .inl f)), (pa2, .inl (2, 108, .inl sn)), (pa3, .inl (0, 108, .inl (fun k => nI (qn k))))]) 1 6 := by
  refine z_of (by decide) rfl (Nat.le_of_ble_eq_true rfl) (fun w0 => ?_)
  refine r_lvE (lv2 := [(0, .ref a)]) rfl ?_
  refine r_aload_n d_Ip_mould_0 rfl 0 rfl ?_
  refine r_get fs_Ip_10 d_Ip_mould_1 (q0 := 0) rfl rfl ?_
  refine r_callV (As := []) (rest := []) (csC := [(pa, .inr (8, [.ref pa1, .ref pa2, .ref pa3, .int (nI p)])), (pa1, .inl (1, 108, .inl f)), (pa2, .inl (2, 108, .inl sn)), (pa3, .inl (0, 108, .inl (fun k => nI (qn k))))]) (is := [1, 2, 3, 4]) (q0 := 1) rfl rfl ln_Ip_147 w_im_Pa_gatesOnTop w_se_Pa_gatesOnTop ok_Ip_mould_Pa_gatesOnTop d_Ip_mould_4 (C_Pa_gatesOnTop g pa pa1 pa2 pa3 f sn (fun k => nI (qn k)) (nI p)) rfl rfl (Nat.le_of_ble_eq_true rfl) rfl (by decide) (by omega) (by omega) (fun E cs1 hx => ?_) (fun v cs1 hx => ?_)
  · exact absurd hx.1 (by simp)
  · obtain ⟨e1, rfl⟩ := hx
    cases e1
    refine ⟨rfl, ?_⟩
    refine r_st (st2 := [.int (nI (fa_cnt (fun k => decide (f k = 103)) 12))]) rfl ?_
    refine r_cs (cs2 := [(a, .inr (11, [.ref pa, .ref ta, .ref sa, .ref gs, .ref co, .ref fu, .ref la, .ref gy, .ref du, .ref re, .ref wm, .ref ac])), (pa, .inr (8, [.ref pa1, .ref pa2, .ref pa3, .int (nI p)])), (pa1, .inl (1, 108, .inl f)), (pa2, .inl (2, 108, .inl sn)), (pa3, .inl (0, 108, .inl (fun k => nI (qn k))))]) rfl ?_
    refine r_if_eq (tgt := 20) d_Ip_mould_7 (by decide) (fun c_7 => ?_) (fun c_7 => ?_)
    · refine r_throwXW tb_Ip_150_154 sr_Ip_401 d_Ip_mould_20 d_Ip_mould_23 d_Ip_mould_24 d_Ip_mould_27 d_Ip_mould_30 rfl (by decide) (by decide) (Nat.le_of_ble_eq_true rfl) (by omega) (by omega) ?_
      exact ⟨rfl, rfl⟩
    · refine r_aload_n d_Ip_mould_10 rfl 0 rfl ?_
      refine r_get fs_Ip_10 d_Ip_mould_11 (q0 := 0) rfl rfl ?_
      refine r_callV (As := []) (rest := []) (csC := [(pa, .inr (8, [.ref pa1, .ref pa2, .ref pa3, .int (nI p)])), (pa1, .inl (1, 108, .inl f)), (pa2, .inl (2, 108, .inl sn)), (pa3, .inl (0, 108, .inl (fun k => nI (qn k))))]) (is := [1, 2, 3, 4]) (q0 := 1) rfl rfl ln_Ip_398 w_im_Pa_hasCasting w_se_Pa_hasCasting ok_Ip_mould_Pa_hasCasting d_Ip_mould_14 (C_Pa_hasCasting g pa pa1 pa2 pa3 f sn (fun k => nI (qn k)) (nI p)) rfl rfl (Nat.le_of_ble_eq_true rfl) rfl (by decide) (by omega) (by omega) (fun E cs1 hx => ?_) (fun v cs1 hx => ?_)
      · exact absurd hx.1 (by simp)
      · obtain ⟨e1, rfl⟩ := hx
        cases e1
        refine ⟨rfl, ?_⟩
        refine r_st (st2 := [.int (z_bi (anB (fun k => decide (f k = 99)) 108))]) rfl ?_
        refine r_cs (cs2 := [(a, .inr (11, [.ref pa, .ref ta, .ref sa, .ref gs, .ref co, .ref fu, .ref la, .ref gy, .ref du, .ref re, .ref wm, .ref ac])), (pa, .inr (8, [.ref pa1, .ref pa2, .ref pa3, .int (nI p)])), (pa1, .inl (1, 108, .inl f)), (pa2, .inl (2, 108, .inl sn)), (pa3, .inl (0, 108, .inl (fun k => nI (qn k))))]) rfl ?_
        refine r_if_ne (tgt := 31) d_Ip_mould_17 (by decide) (fun c_17 => ?_) (fun c_17 => ?_)
        · exact absurd hE (fun q => q.elim (fun e => c_7 (by rw [e]; rfl)) (fun e => by have := z_bi1 c_17; rw [e] at this; cases this))
        · refine r_throwXW tb_Ip_150_154 sr_Ip_401 d_Ip_mould_20 d_Ip_mould_23 d_Ip_mould_24 d_Ip_mould_27 d_Ip_mould_30 rfl (by decide) (by decide) (Nat.le_of_ble_eq_true rfl) (by omega) (by omega) ?_
          exact ⟨rfl, rfl⟩
abbrev M_Ip_waiting : zM := (⟨"Ironpour", "waiting", "(I)I"⟩, prog_1_method_36_code, 2, (Option.some FieldType.int), 6, 100, [])
theorem d_Ip_waiting_0 : decode prog_1_method_36_code 0 = .ok (.iload_n 1, 1) := zo_27 (zd_b zq_prog_1_method_36_code_0 0 rfl rfl rfl)
theorem d_Ip_waiting_1 : decode prog_1_method_36_code 1 = .ok (.ifCond .lt 14, 3) := zo_155 (d := 0) (e := 14) (zd_b zq_prog_1_method_36_code_0 1 rfl rfl rfl) (zd_b zq_prog_1_method_36_code_0 2 rfl rfl rfl) (zd_b zq_prog_1_method_36_code_0 3 rfl rfl rfl) (by decide +kernel)
theorem d_Ip_waiting_15 : decode prog_1_method_36_code 15 = .ok (.new 150, 3) := zo_187 (d := 0) (e := 150) (zd_b zq_prog_1_method_36_code_0 15 rfl rfl rfl) (zd_b zq_prog_1_method_36_code_0 16 rfl rfl rfl) (zd_b zq_prog_1_method_36_code_0 17 rfl rfl rfl)
theorem sr_Ip_420 : Cond.stringRef "Ironpour" 420 "no such mould" ∈ lw_tbl := z_tb6 (i := 104) rfl
theorem d_Ip_waiting_18 : decode prog_1_method_36_code 18 = .ok (.dup, 1) := zo_89 (zd_b zq_prog_1_method_36_code_0 18 rfl rfl rfl)
theorem d_Ip_waiting_19 : decode prog_1_method_36_code 19 = .ok (.ldc_w 420, 3) := zo_19 (d := 1) (e := 164) (zd_b zq_prog_1_method_36_code_0 19 rfl rfl rfl) (zd_b zq_prog_1_method_36_code_0 20 rfl rfl rfl) (zd_b zq_prog_1_method_36_code_0 21 rfl rfl rfl)
theorem d_Ip_waiting_22 : decode prog_1_method_36_code 22 = .ok (.invokespecial 154, 3) := zo_183 (d := 0) (e := 154) (zd_b zq_prog_1_method_36_code_0 22 rfl rfl rfl) (zd_b zq_prog_1_method_36_code_0 23 rfl rfl rfl) (zd_b zq_prog_1_method_36_code_0 24 rfl rfl rfl)
theorem d_Ip_waiting_25 : decode prog_1_method_36_code 25 = .ok (.athrow, 1) := zo_191 (zd_b zq_prog_1_method_36_code_0 25 rfl rfl rfl)
theorem d_Ip_waiting_4 : decode prog_1_method_36_code 4 = .ok (.iload_n 1, 1) := zo_27 (zd_b zq_prog_1_method_36_code_0 4 rfl rfl rfl)
theorem d_Ip_waiting_5 : decode prog_1_method_36_code 5 = .ok (.aload_n 0, 1) := zo_42 (zd_b zq_prog_1_method_36_code_0 5 rfl rfl rfl)
theorem d_Ip_waiting_6 : decode prog_1_method_36_code 6 = .ok (.getfield 74, 3) := zo_180 (d := 0) (e := 74) (zd_b zq_prog_1_method_36_code_0 6 rfl rfl rfl) (zd_b zq_prog_1_method_36_code_0 7 rfl rfl rfl) (zd_b zq_prog_1_method_36_code_0 8 rfl rfl rfl)
theorem d_Ip_waiting_9 : decode prog_1_method_36_code 9 = .ok (.invokevirtual 341, 3) := zo_182 (d := 1) (e := 85) (zd_b zq_prog_1_method_36_code_0 9 rfl rfl rfl) (zd_b zq_prog_1_method_36_code_0 10 rfl rfl rfl) (zd_b zq_prog_1_method_36_code_0 11 rfl rfl rfl)
theorem ok_Ip_waiting_AL_size : z_ok M_Ip_waiting M_AL_size 0 := ⟨z_mj2 (i := 172) rfl (by decide +kernel), rfl, ⟨by decide +kernel, by decide +kernel, by decide +kernel⟩, ⟨by decide, by decide⟩, z_mj1 (i := 13) rfl (by decide +kernel), rfl⟩
theorem d_Ip_waiting_12 : decode prog_1_method_36_code 12 = .ok (.if_icmp .lt 14, 3) := zo_161 (d := 0) (e := 14) (zd_b zq_prog_1_method_36_code_0 12 rfl rfl rfl) (zd_b zq_prog_1_method_36_code_0 13 rfl rfl rfl) (zd_b zq_prog_1_method_36_code_0 14 rfl rfl rfl) (by decide +kernel)
abbrev M_Ip_pour : zM := (⟨"Ironpour", "pour", "()I"⟩, prog_1_method_37_code, 1, (Option.some FieldType.int), 8, 231, [])
theorem d_Ip_pour_0 : decode prog_1_method_37_code 0 = .ok (.aload_n 0, 1) := zo_42 (zd_b zq_prog_1_method_37_code_0 0 rfl rfl rfl)
