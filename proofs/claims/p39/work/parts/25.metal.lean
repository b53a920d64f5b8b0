abbrev M_Ip_hold : zM := (⟨"Ironpour", "hold", "(I)I"⟩, prog_1_method_25_code, 2, (Option.some FieldType.int), 6, 100, [])
theorem d_Ip_hold_0 : decode prog_1_method_25_code 0 = .ok (.iload_n 1, 1) := zo_27 (zd_b zq_prog_1_method_25_code_0 0 rfl rfl rfl)
theorem d_Ip_hold_1 : decode prog_1_method_25_code 1 = .ok (.iconst 1, 1) := zo_4 (zd_b zq_prog_1_method_25_code_0 1 rfl rfl rfl)
theorem d_Ip_hold_2 : decode prog_1_method_25_code 2 = .ok (.bipush 120, 2) := zo_16 (d := 120) (zd_b zq_prog_1_method_25_code_0 2 rfl rfl rfl) (zd_b zq_prog_1_method_25_code_0 3 rfl rfl rfl) (by decide +kernel)
theorem d_Ip_hold_4 : decode prog_1_method_25_code 4 = .ok (.invokestatic 203, 3) := zo_184 (d := 0) (e := 203) (zd_b zq_prog_1_method_25_code_0 4 rfl rfl rfl) (zd_b zq_prog_1_method_25_code_0 5 rfl rfl rfl) (zd_b zq_prog_1_method_25_code_0 6 rfl rfl rfl)
theorem ok_Ip_hold_Ip_isWithin : z_ok M_Ip_hold M_Ip_isWithin 3 := ⟨z_mj4 (i := 97) rfl (by decide +kernel), rfl, ⟨by decide +kernel, by decide +kernel, by decide +kernel⟩, ⟨by decide, by decide⟩, z_mj1 (i := 1) rfl (by decide +kernel), rfl⟩
theorem d_Ip_hold_7 : decode prog_1_method_25_code 7 = .ok (.ifCond .ne 14, 3) := zo_154 (d := 0) (e := 14) (zd_b zq_prog_1_method_25_code_0 7 rfl rfl rfl) (zd_b zq_prog_1_method_25_code_0 8 rfl rfl rfl) (zd_b zq_prog_1_method_25_code_0 9 rfl rfl rfl) (by decide +kernel)
theorem d_Ip_hold_10 : decode prog_1_method_25_code 10 = .ok (.new 89, 3) := zo_187 (d := 0) (e := 89) (zd_b zq_prog_1_method_25_code_0 10 rfl rfl rfl) (zd_b zq_prog_1_method_25_code_0 11 rfl rfl rfl) (zd_b zq_prog_1_method_25_code_0 12 rfl rfl rfl)
theorem sr_Ip_303 : Cond.stringRef "Ironpour" 303 "a furnace is held for 1 to 120 minutes" ∈ lw_tbl := z_tb5 (i := 90) rfl
theorem d_Ip_hold_13 : decode prog_1_method_25_code 13 = .ok (.dup, 1) := zo_89 (zd_b zq_prog_1_method_25_code_0 13 rfl rfl rfl)
theorem d_Ip_hold_14 : decode prog_1_method_25_code 14 = .ok (.ldc_w 303, 3) := zo_19 (d := 1) (e := 47) (zd_b zq_prog_1_method_25_code_0 14 rfl rfl rfl) (zd_b zq_prog_1_method_25_code_0 15 rfl rfl rfl) (zd_b zq_prog_1_method_25_code_0 16 rfl rfl rfl)
theorem d_Ip_hold_17 : decode prog_1_method_25_code 17 = .ok (.invokespecial 93, 3) := zo_183 (d := 0) (e := 93) (zd_b zq_prog_1_method_25_code_0 17 rfl rfl rfl) (zd_b zq_prog_1_method_25_code_0 18 rfl rfl rfl) (zd_b zq_prog_1_method_25_code_0 19 rfl rfl rfl)
theorem d_Ip_hold_20 : decode prog_1_method_25_code 20 = .ok (.athrow, 1) := zo_191 (zd_b zq_prog_1_method_25_code_0 20 rfl rfl rfl)
set_option maxHeartbeats 4000000 in
set_option maxRecDepth 100000 in
theorem C_Ip_holdE (g : zG) (a pa ta sa gs co fu la gy du re wm ac : Nat) (fub fubg fut1 fut2 fut3 : Nat) (gr T1 T2 T3 : Nat → Int64) (ir : Int32) (io : Int64) (h : Int32) (hw : ¬ (1 ≤ h ∧ h ≤ 120)) : CT g M_Ip_hold [.ref a, .int h] [(a, .inr (11, [.ref pa, .ref ta, .ref sa, .ref gs, .ref co, .ref fu, .ref la, .ref gy, .ref du, .ref re, .ref wm, .ref ac])), (fu, .inr (3, [.ref fub, .ref fut1, .ref fut2, .ref fut3, .long io])), (fub, .inr (6, [.ref fubg, .int ir])), (fubg, .inl (3, 4, .inr (.inl gr))), (fut1, .inl (3, 4, .inr (.inl T1))), (fut2, .inl (3, 4, .inr (.inl T2))), (fut3, .inl (3, 4, .inr (.inl T3)))] (fun o cs1 => o = .inr "java/lang/IllegalArgumentException" ∧ cs1 = [(a, .inr (11, [.ref pa, .ref ta, .ref sa, .ref gs, .ref co, .ref fu, .ref la, .ref gy, .ref du, .ref re, .ref wm, .ref ac])), (fu, .inr (3, [.ref fub, .ref fut1, .ref fut2, .ref fut3, .long io])), (fub, .inr (6, [.ref fubg, .int ir])), (fubg, .inl (3, 4, .inr (.inl gr))), (fut1, .inl (3, 4, .inr (.inl T1))), (fut2, .inl (3, 4, .inr (.inl T2))), (fut3, .inl (3, 4, .inr (.inl T3)))]) 1 6 := by
  refine z_of (by decide) rfl (Nat.le_of_ble_eq_true rfl) (fun w0 => ?_)
  refine r_lvE (lv2 := [(0, .ref a), (1, .int h)]) rfl ?_
  refine r_iload_n d_Ip_hold_0 rfl 1 rfl ?_
  refine r_iconst d_Ip_hold_1 (v := 1) (by decide) ?_
  refine r_bipush d_Ip_hold_2 (v := 120) (by decide) ?_
  refine r_callS (As := [.int h, .int 1, .int 120]) (rest := []) (csC := []) (is := []) ln_Ip_203 w_st_Ip_isWithin ok_Ip_hold_Ip_isWithin d_Ip_hold_4 (C_Ip_isWithin g h 1 120) rfl rfl (Nat.le_of_ble_eq_true rfl) rfl (by decide) (by omega) (by omega) (fun E cs1 hx => ?_) (fun v cs1 hx => ?_)
  · exact absurd hx.1 (by simp)
  · obtain ⟨e1, rfl⟩ := hx
    cases e1
    refine ⟨rfl, ?_⟩
    refine r_st (st2 := [.int (if 1 ≤ h ∧ h ≤ 120 then 1 else 0)]) rfl ?_
    refine r_cs (cs2 := [(a, .inr (11, [.ref pa, .ref ta, .ref sa, .ref gs, .ref co, .ref fu, .ref la, .ref gy, .ref du, .ref re, .ref wm, .ref ac])), (fu, .inr (3, [.ref fub, .ref fut1, .ref fut2, .ref fut3, .long io])), (fub, .inr (6, [.ref fubg, .int ir])), (fubg, .inl (3, 4, .inr (.inl gr))), (fut1, .inl (3, 4, .inr (.inl T1))), (fut2, .inl (3, 4, .inr (.inl T2))), (fut3, .inl (3, 4, .inr (.inl T3)))]) rfl ?_
    refine r_if_ne (tgt := 21) d_Ip_hold_7 (by decide) (fun c_7 => ?_) (fun c_7 => ?_)
    · exact absurd (z_b1 c_7) hw
    · refine r_throwW tb_Ip_89_93 sr_Ip_303 d_Ip_hold_10 d_Ip_hold_13 d_Ip_hold_14 d_Ip_hold_17 d_Ip_hold_20 rfl (by decide) (by decide) (Nat.le_of_ble_eq_true rfl) (by omega) (by omega) ?_
      exact ⟨rfl, rfl⟩
theorem d_Ip_hold_21 : decode prog_1_method_25_code 21 = .ok (.aload_n 0, 1) := zo_42 (zd_b zq_prog_1_method_25_code_0 21 rfl rfl rfl)
theorem d_Ip_hold_22 : decode prog_1_method_25_code 22 = .ok (.getfield 43, 3) := zo_180 (d := 0) (e := 43) (zd_b zq_prog_1_method_25_code_0 22 rfl rfl rfl) (zd_b zq_prog_1_method_25_code_0 23 rfl rfl rfl) (zd_b zq_prog_1_method_25_code_0 24 rfl rfl rfl)
theorem fs_Ip_43 : z_fs "Ironpour" 43 11 5 := ⟨R_Ip, "Ironpour", F_Ip, 12, rfl, u_Ip, by decide, Or.inl ⟨z_mj2 (i := 68) rfl (by decide +kernel), Or.inl rfl⟩⟩
theorem d_Ip_hold_25 : decode prog_1_method_25_code 25 = .ok (.iload_n 1, 1) := zo_27 (zd_b zq_prog_1_method_25_code_0 25 rfl rfl rfl)
theorem d_Ip_hold_26 : decode prog_1_method_25_code 26 = .ok (.invokevirtual 305, 3) := zo_182 (d := 1) (e := 49) (zd_b zq_prog_1_method_25_code_0 26 rfl rfl rfl) (zd_b zq_prog_1_method_25_code_0 27 rfl rfl rfl) (zd_b zq_prog_1_method_25_code_0 28 rfl rfl rfl)
theorem ok_Ip_hold_Fu_loseFor : z_ok M_Ip_hold M_Fu_loseFor 1 := ⟨z_mj5 (i := 94) rfl (by decide +kernel), rfl, ⟨by decide +kernel, by decide +kernel, by decide +kernel⟩, ⟨by decide, by decide⟩, z_mj1 (i := 7) rfl (by decide +kernel), rfl⟩
theorem ln_Ip_305 : Cond.methodLink "Ironpour" 305 M_Fu_loseFor.1 ∈ z_gw := z_mj5 (i := 91) rfl (by decide +kernel)
theorem w_im_Fu_loseFor : Cond.instanceMethod M_Fu_loseFor.1 ∈ z_gw := z_mj5 (i := 92) rfl (by decide +kernel)
theorem w_se_Fu_loseFor : Cond.selects M_Fu_loseFor.1.cls M_Fu_loseFor.1 M_Fu_loseFor.1 ∈ z_gw := z_mj5 (i := 93) rfl (by decide +kernel)
theorem d_Ip_hold_29 : decode prog_1_method_25_code 29 = .ok (.aload_n 0, 1) := zo_42 (zd_b zq_prog_1_method_25_code_0 29 rfl rfl rfl)
theorem d_Ip_hold_30 : decode prog_1_method_25_code 30 = .ok (.getfield 43, 3) := zo_180 (d := 0) (e := 43) (zd_b zq_prog_1_method_25_code_0 30 rfl rfl rfl) (zd_b zq_prog_1_method_25_code_0 31 rfl rfl rfl) (zd_b zq_prog_1_method_25_code_1 0 rfl rfl rfl)
theorem d_Ip_hold_33 : decode prog_1_method_25_code 33 = .ok (.getfield 277, 3) := zo_180 (d := 1) (e := 21) (zd_b zq_prog_1_method_25_code_1 1 rfl rfl rfl) (zd_b zq_prog_1_method_25_code_1 2 rfl rfl rfl) (zd_b zq_prog_1_method_25_code_1 3 rfl rfl rfl)
theorem fs_Ip_277 : z_fs "Ironpour" 277 3 0 := ⟨R_Fu, "Ironpour$Furnace", F_Fu, 5, rfl, u_Fu, by decide, Or.inr ⟨"Ironpour", z_mk1 (i := 211) rfl (by decide +kernel), rfl⟩⟩
theorem d_Ip_hold_36 : decode prog_1_method_25_code 36 = .ok (.getfield 308, 3) := zo_180 (d := 1) (e := 52) (zd_b zq_prog_1_method_25_code_1 4 rfl rfl rfl) (zd_b zq_prog_1_method_25_code_1 5 rfl rfl rfl) (zd_b zq_prog_1_method_25_code_1 6 rfl rfl rfl)
theorem fs_Ip_308 : z_fs "Ironpour" 308 6 0 := ⟨R_Me, "Ironpour$Metal", F_Me, 2, rfl, u_Me, by decide, Or.inr ⟨"Ironpour", z_mk1 (i := 199) rfl (by decide +kernel), rfl⟩⟩
theorem d_Ip_hold_39 : decode prog_1_method_25_code 39 = .ok (.iconst 0, 1) := zo_3 (zd_b zq_prog_1_method_25_code_1 7 rfl rfl rfl)
theorem d_Ip_hold_40 : decode prog_1_method_25_code 40 = .ok (.laload, 1) := zo_47 (zd_b zq_prog_1_method_25_code_1 8 rfl rfl rfl)
theorem d_Ip_hold_41 : decode prog_1_method_25_code 41 = .ok (.l2i, 1) := zo_136 (zd_b zq_prog_1_method_25_code_1 9 rfl rfl rfl)
theorem d_Ip_hold_42 : decode prog_1_method_25_code 42 = .ok (.ireturn, 1) := zo_172 (zd_b zq_prog_1_method_25_code_1 10 rfl rfl rfl)
set_option maxHeartbeats 4000000 in
set_option maxRecDepth 100000 in
theorem C_Ip_holdN (g : zG) (a pa ta sa gs co fu la gy du re wm ac : Nat) (fub fubg fut1 fut2 fut3 : Nat) (gr T1 T2 T3 : Nat → Int64) (ir : Int32) (io : Int64) (m : Nat) (hm : m < 1000) (hw : (1 ≤ nI m ∧ nI m ≤ 120)) : CT g M_Ip_hold [.ref a, .int (nI m)] [(a, .inr (11, [.ref pa, .ref ta, .ref sa, .ref gs, .ref co, .ref fu, .ref la, .ref gy, .ref du, .ref re, .ref wm, .ref ac])), (fu, .inr (3, [.ref fub, .ref fut1, .ref fut2, .ref fut3, .long io])), (fub, .inr (6, [.ref fubg, .int ir])), (fubg, .inl (3, 4, .inr (.inl gr))), (fut1, .inl (3, 4, .inr (.inl T1))), (fut2, .inl (3, 4, .inr (.inl T2))), (fut3, .inl (3, 4, .inr (.inl T3)))] (fun o cs1 => o = .inl (some (.int (((lmS (gr, T3) m).1 0).toInt32))) ∧ cs1 = [(a, .inr (11, [.ref pa, .ref ta, .ref sa, .ref gs, .ref co, .ref fu, .ref la, .ref gy, .ref du, .ref re, .ref wm, .ref ac])), (fu, .inr (3, [.ref fub, .ref fut1, .ref fut2, .ref fut3, .long io])), (fub, .inr (6, [.ref fubg, .int ir])), (fubg, .inl (3, 4, .inr (.inl ((lmS (gr, T3) m).1)))), (fut1, .inl (3, 4, .inr (.inl T1))), (fut2, .inl (3, 4, .inr (.inl T2))), (fut3, .inl (3, 4, .inr (.inl ((lmS (gr, T3) m).2))))]) 1 6 := by
  refine z_of (by decide) rfl (Nat.le_of_ble_eq_true rfl) (fun w0 => ?_)
  refine r_lvE (lv2 := [(0, .ref a), (1, .int (nI m))]) rfl ?_
  refine r_iload_n d_Ip_hold_0 rfl 1 rfl ?_
  refine r_iconst d_Ip_hold_1 (v := 1) (by decide) ?_
  refine r_bipush d_Ip_hold_2 (v := 120) (by decide) ?_
  refine r_callS (As := [.int (nI m), .int 1, .int 120]) (rest := []) (csC := []) (is := []) ln_Ip_203 w_st_Ip_isWithin ok_Ip_hold_Ip_isWithin d_Ip_hold_4 (C_Ip_isWithin g (nI m) 1 120) rfl rfl (Nat.le_of_ble_eq_true rfl) rfl (by decide) (by omega) (by omega) (fun E cs1 hx => ?_) (fun v cs1 hx => ?_)
  · exact absurd hx.1 (by simp)
  · obtain ⟨e1, rfl⟩ := hx
    cases e1
    refine ⟨rfl, ?_⟩
    refine r_st (st2 := [.int (if 1 ≤ (nI m) ∧ (nI m) ≤ 120 then 1 else 0)]) rfl ?_
    refine r_cs (cs2 := [(a, .inr (11, [.ref pa, .ref ta, .ref sa, .ref gs, .ref co, .ref fu, .ref la, .ref gy, .ref du, .ref re, .ref wm, .ref ac])), (fu, .inr (3, [.ref fub, .ref fut1, .ref fut2, .ref fut3, .long io])), (fub, .inr (6, [.ref fubg, .int ir])), (fubg, .inl (3, 4, .inr (.inl gr))), (fut1, .inl (3, 4, .inr (.inl T1))), (fut2, .inl (3, 4, .inr (.inl T2))), (fut3, .inl (3, 4, .inr (.inl T3)))]) rfl ?_
    refine r_if_ne (tgt := 21) d_Ip_hold_7 (by decide) (fun c_7 => ?_) (fun c_7 => ?_)
    · refine r_aload_n d_Ip_hold_21 rfl 0 rfl ?_
      refine r_get fs_Ip_43 d_Ip_hold_22 (q0 := 0) rfl rfl ?_
      refine r_iload_n d_Ip_hold_25 rfl 1 rfl ?_
      refine r_callV (As := [.int (nI m)]) (rest := []) (csC := [(fu, .inr (3, [.ref fub, .ref fut1, .ref fut2, .ref fut3, .long io])), (fub, .inr (6, [.ref fubg, .int ir])), (fubg, .inl (3, 4, .inr (.inl gr))), (fut1, .inl (3, 4, .inr (.inl T1))), (fut2, .inl (3, 4, .inr (.inl T2))), (fut3, .inl (3, 4, .inr (.inl T3)))]) (is := [1, 2, 3, 4, 5, 6]) (q0 := 1) rfl rfl ln_Ip_305 w_im_Fu_loseFor w_se_Fu_loseFor ok_Ip_hold_Fu_loseFor d_Ip_hold_26 (C_Fu_loseFor g fu fub fubg fut1 fut2 fut3 gr T1 T2 T3 ir io m hm) rfl rfl (Nat.le_of_ble_eq_true rfl) rfl (by decide) (by omega) (by omega) (fun E cs1 hx => ?_) (fun v cs1 hx => ?_)
      · exact absurd hx.1 (by simp)
      · obtain ⟨e1, rfl⟩ := hx
        cases e1
        refine ⟨rfl, ?_⟩
        refine r_st (st2 := []) rfl ?_
        refine r_cs (cs2 := [(a, .inr (11, [.ref pa, .ref ta, .ref sa, .ref gs, .ref co, .ref fu, .ref la, .ref gy, .ref du, .ref re, .ref wm, .ref ac])), (fu, .inr (3, [.ref fub, .ref fut1, .ref fut2, .ref fut3, .long io])), (fub, .inr (6, [.ref fubg, .int ir])), (fubg, .inl (3, 4, .inr (.inl ((lmS (gr, T3) m).1)))), (fut1, .inl (3, 4, .inr (.inl T1))), (fut2, .inl (3, 4, .inr (.inl T2))), (fut3, .inl (3, 4, .inr (.inl ((lmS (gr, T3) m).2))))]) rfl ?_
        refine r_aload_n d_Ip_hold_29 rfl 0 rfl ?_
        refine r_get fs_Ip_43 d_Ip_hold_30 (q0 := 0) rfl rfl ?_
        refine r_get fs_Ip_277 d_Ip_hold_33 (q0 := 1) rfl rfl ?_
        refine r_get fs_Ip_308 d_Ip_hold_36 (q0 := 2) rfl rfl ?_
        refine r_iconst d_Ip_hold_39 (v := 0) (by decide) ?_
        refine r_lald d_Ip_hold_40 (q0 := 3) rfl (fun q => q.elim (by decide) (by decide)) (v := ((lmS (gr, T3) m).1) 0) rfl ?_
        refine r_l2i d_Ip_hold_41 (v := (((lmS (gr, T3) m).1) 0).toInt32) rfl ?_
        refine r_iret d_Ip_hold_42 rfl rfl ?_
        exact ⟨rfl, rfl⟩
    · exact absurd hw (z_b0 c_7)
abbrev M_Ip_treat : zM := (⟨"Ironpour", "treat", "(I)I"⟩, prog_1_method_27_code, 2, (Option.some FieldType.int), 6, 100, [])
theorem d_Ip_treat_0 : decode prog_1_method_27_code 0 = .ok (.iload_n 1, 1) := zo_27 (zd_b zq_prog_1_method_27_code_0 0 rfl rfl rfl)
theorem d_Ip_treat_1 : decode prog_1_method_27_code 1 = .ok (.iconst 1, 1) := zo_4 (zd_b zq_prog_1_method_27_code_0 1 rfl rfl rfl)
theorem d_Ip_treat_2 : decode prog_1_method_27_code 2 = .ok (.bipush 100, 2) := zo_16 (d := 100) (zd_b zq_prog_1_method_27_code_0 2 rfl rfl rfl) (zd_b zq_prog_1_method_27_code_0 3 rfl rfl rfl) (by decide +kernel)
theorem d_Ip_treat_4 : decode prog_1_method_27_code 4 = .ok (.invokestatic 203, 3) := zo_184 (d := 0) (e := 203) (zd_b zq_prog_1_method_27_code_0 4 rfl rfl rfl) (zd_b zq_prog_1_method_27_code_0 5 rfl rfl rfl) (zd_b zq_prog_1_method_27_code_0 6 rfl rfl rfl)
theorem ok_Ip_treat_Ip_isWithin : z_ok M_Ip_treat M_Ip_isWithin 3 := ⟨z_mj4 (i := 97) rfl (by decide +kernel), rfl, ⟨by decide +kernel, by decide +kernel, by decide +kernel⟩, ⟨by decide, by decide⟩, z_mj1 (i := 1) rfl (by decide +kernel), rfl⟩
theorem d_Ip_treat_7 : decode prog_1_method_27_code 7 = .ok (.ifCond .ne 14, 3) := zo_154 (d := 0) (e := 14) (zd_b zq_prog_1_method_27_code_0 7 rfl rfl rfl) (zd_b zq_prog_1_method_27_code_0 8 rfl rfl rfl) (zd_b zq_prog_1_method_27_code_0 9 rfl rfl rfl) (by decide +kernel)
theorem d_Ip_treat_10 : decode prog_1_method_27_code 10 = .ok (.new 89, 3) := zo_187 (d := 0) (e := 89) (zd_b zq_prog_1_method_27_code_0 10 rfl rfl rfl) (zd_b zq_prog_1_method_27_code_0 11 rfl rfl rfl) (zd_b zq_prog_1_method_27_code_0 12 rfl rfl rfl)
theorem sr_Ip_324 : Cond.stringRef "Ironpour" 324 "magnesium is 1 to 100" ∈ lw_tbl := z_tb5 (i := 125) rfl
theorem d_Ip_treat_13 : decode prog_1_method_27_code 13 = .ok (.dup, 1) := zo_89 (zd_b zq_prog_1_method_27_code_0 13 rfl rfl rfl)
theorem d_Ip_treat_14 : decode prog_1_method_27_code 14 = .ok (.ldc_w 324, 3) := zo_19 (d := 1) (e := 68) (zd_b zq_prog_1_method_27_code_0 14 rfl rfl rfl) (zd_b zq_prog_1_method_27_code_0 15 rfl rfl rfl) (zd_b zq_prog_1_method_27_code_0 16 rfl rfl rfl)
theorem d_Ip_treat_17 : decode prog_1_method_27_code 17 = .ok (.invokespecial 93, 3) := zo_183 (d := 0) (e := 93) (zd_b zq_prog_1_method_27_code_0 17 rfl rfl rfl) (zd_b zq_prog_1_method_27_code_0 18 rfl rfl rfl) (zd_b zq_prog_1_method_27_code_0 19 rfl rfl rfl)
theorem d_Ip_treat_20 : decode prog_1_method_27_code 20 = .ok (.athrow, 1) := zo_191 (zd_b zq_prog_1_method_27_code_0 20 rfl rfl rfl)
set_option maxHeartbeats 4000000 in
set_option maxRecDepth 100000 in
theorem C_Ip_treatE (g : zG) (a pa ta sa gs co fu la gy du re wm ac : Nat) (lab labg : Nat) (gr : Nat → Int64) (he mg wd ir : Int32) (m : Int32) (hw : ¬ (1 ≤ m ∧ m ≤ 100)) : CT g M_Ip_treat [.ref a, .int m] [(a, .inr (11, [.ref pa, .ref ta, .ref sa, .ref gs, .ref co, .ref fu, .ref la, .ref gy, .ref du, .ref re, .ref wm, .ref ac])), (la, .inr (5, [.ref lab, .int he, .int mg, .int wd])), (lab, .inr (6, [.ref labg, .int ir])), (labg, .inl (3, 4, .inr (.inl gr)))] (fun o cs1 => o = .inr "java/lang/IllegalArgumentException" ∧ cs1 = [(a, .inr (11, [.ref pa, .ref ta, .ref sa, .ref gs, .ref co, .ref fu, .ref la, .ref gy, .ref du, .ref re, .ref wm, .ref ac])), (la, .inr (5, [.ref lab, .int he, .int mg, .int wd])), (lab, .inr (6, [.ref labg, .int ir])), (labg, .inl (3, 4, .inr (.inl gr)))]) 1 6 := by
  refine z_of (by decide) rfl (Nat.le_of_ble_eq_true rfl) (fun w0 => ?_)
  refine r_lvE (lv2 := [(0, .ref a), (1, .int m)]) rfl ?_
  refine r_iload_n d_Ip_treat_0 rfl 1 rfl ?_
  refine r_iconst d_Ip_treat_1 (v := 1) (by decide) ?_
  refine r_bipush d_Ip_treat_2 (v := 100) (by decide) ?_
  refine r_callS (As := [.int m, .int 1, .int 100]) (rest := []) (csC := []) (is := []) ln_Ip_203 w_st_Ip_isWithin ok_Ip_treat_Ip_isWithin d_Ip_treat_4 (C_Ip_isWithin g m 1 100) rfl rfl (Nat.le_of_ble_eq_true rfl) rfl (by decide) (by omega) (by omega) (fun E cs1 hx => ?_) (fun v cs1 hx => ?_)
  · exact absurd hx.1 (by simp)
  · obtain ⟨e1, rfl⟩ := hx
    cases e1
    refine ⟨rfl, ?_⟩
    refine r_st (st2 := [.int (if 1 ≤ m ∧ m ≤ 100 then 1 else 0)]) rfl ?_
    refine r_cs (cs2 := [(a, .inr (11, [.ref pa, .ref ta, .ref sa, .ref gs, .ref co, .ref fu, .ref la, .ref gy, .ref du, .ref re, .ref wm, .ref ac])), (la, .inr (5, [.ref lab, .int he, .int mg, .int wd])), (lab, .inr (6, [.ref labg, .int ir])), (labg, .inl (3, 4, .inr (.inl gr)))]) rfl ?_
    refine r_if_ne (tgt := 21) d_Ip_treat_7 (by decide) (fun c_7 => ?_) (fun c_7 => ?_)
    · exact absurd (z_b1 c_7) hw
    · refine r_throwW tb_Ip_89_93 sr_Ip_324 d_Ip_treat_10 d_Ip_treat_13 d_Ip_treat_14 d_Ip_treat_17 d_Ip_treat_20 rfl (by decide) (by decide) (Nat.le_of_ble_eq_true rfl) (by omega) (by omega) ?_
      exact ⟨rfl, rfl⟩
theorem d_Ip_treat_21 : decode prog_1_method_27_code 21 = .ok (.aload_n 0, 1) := zo_42 (zd_b zq_prog_1_method_27_code_0 21 rfl rfl rfl)
theorem d_Ip_treat_22 : decode prog_1_method_27_code 22 = .ok (.getfield 50, 3) := zo_180 (d := 0) (e := 50) (zd_b zq_prog_1_method_27_code_0 22 rfl rfl rfl) (zd_b zq_prog_1_method_27_code_0 23 rfl rfl rfl) (zd_b zq_prog_1_method_27_code_0 24 rfl rfl rfl)
theorem fs_Ip_50 : z_fs "Ironpour" 50 11 6 := ⟨R_Ip, "Ironpour", F_Ip, 12, rfl, u_Ip, by decide, Or.inl ⟨z_mj2 (i := 69) rfl (by decide +kernel), Or.inl rfl⟩⟩
theorem d_Ip_treat_25 : decode prog_1_method_27_code 25 = .ok (.invokevirtual 314, 3) := zo_182 (d := 1) (e := 58) (zd_b zq_prog_1_method_27_code_0 25 rfl rfl rfl) (zd_b zq_prog_1_method_27_code_0 26 rfl rfl rfl) (zd_b zq_prog_1_method_27_code_0 27 rfl rfl rfl)
theorem ok_Ip_treat_La_isEmpty : z_ok M_Ip_treat M_La_isEmpty 0 := ⟨z_mj5 (i := 110) rfl (by decide +kernel), rfl, ⟨by decide +kernel, by decide +kernel, by decide +kernel⟩, ⟨by decide, by decide⟩, z_mj1 (i := 9) rfl (by decide +kernel), rfl⟩
theorem ln_Ip_314 : Cond.methodLink "Ironpour" 314 M_La_isEmpty.1 ∈ z_gw := z_mj5 (i := 107) rfl (by decide +kernel)
theorem w_im_La_isEmpty : Cond.instanceMethod M_La_isEmpty.1 ∈ z_gw := z_mj5 (i := 108) rfl (by decide +kernel)
theorem w_se_La_isEmpty : Cond.selects M_La_isEmpty.1.cls M_La_isEmpty.1 M_La_isEmpty.1 ∈ z_gw := z_mj5 (i := 109) rfl (by decide +kernel)
theorem d_Ip_treat_28 : decode prog_1_method_27_code 28 = .ok (.ifCond .eq 14, 3) := zo_153 (d := 0) (e := 14) (zd_b zq_prog_1_method_27_code_0 28 rfl rfl rfl) (zd_b zq_prog_1_method_27_code_0 29 rfl rfl rfl) (zd_b zq_prog_1_method_27_code_0 30 rfl rfl rfl) (by decide +kernel)
theorem d_Ip_treat_31 : decode prog_1_method_27_code 31 = .ok (.new 242, 3) := zo_187 (d := 0) (e := 242) (zd_b zq_prog_1_method_27_code_0 31 rfl rfl rfl) (zd_b zq_prog_1_method_27_code_1 0 rfl rfl rfl) (zd_b zq_prog_1_method_27_code_1 1 rfl rfl rfl)
theorem sr_Ip_326 : Cond.stringRef "Ironpour" 326 "the ladle is empty" ∈ lw_tbl := z_tb5 (i := 126) rfl
theorem d_Ip_treat_34 : decode prog_1_method_27_code 34 = .ok (.dup, 1) := zo_89 (zd_b zq_prog_1_method_27_code_1 2 rfl rfl rfl)
theorem d_Ip_treat_35 : decode prog_1_method_27_code 35 = .ok (.ldc_w 326, 3) := zo_19 (d := 1) (e := 70) (zd_b zq_prog_1_method_27_code_1 3 rfl rfl rfl) (zd_b zq_prog_1_method_27_code_1 4 rfl rfl rfl) (zd_b zq_prog_1_method_27_code_1 5 rfl rfl rfl)
theorem d_Ip_treat_38 : decode prog_1_method_27_code 38 = .ok (.invokespecial 246, 3) := zo_183 (d := 0) (e := 246) (zd_b zq_prog_1_method_27_code_1 6 rfl rfl rfl) (zd_b zq_prog_1_method_27_code_1 7 rfl rfl rfl) (zd_b zq_prog_1_method_27_code_1 8 rfl rfl rfl)
theorem d_Ip_treat_41 : decode prog_1_method_27_code 41 = .ok (.athrow, 1) := zo_191 (zd_b zq_prog_1_method_27_code_1 9 rfl rfl rfl)
set_option maxHeartbeats 4000000 in
set_option maxRecDepth 100000 in
theorem C_Ip_treatF (g : zG) (a pa ta sa gs co fu la gy du re wm ac : Nat) (lab labg : Nat) (gr : Nat → Int64) (he mg wd ir : Int32) (m : Int32) (hw : (1 ≤ m ∧ m ≤ 100)) (he0 : ir = 0) : CT g M_Ip_treat [.ref a, .int m] [(a, .inr (11, [.ref pa, .ref ta, .ref sa, .ref gs, .ref co, .ref fu, .ref la, .ref gy, .ref du, .ref re, .ref wm, .ref ac])), (la, .inr (5, [.ref lab, .int he, .int mg, .int wd])), (lab, .inr (6, [.ref labg, .int ir])), (labg, .inl (3, 4, .inr (.inl gr)))] (fun o cs1 => o = .inr "java/lang/IllegalStateException" ∧ cs1 = [(a, .inr (11, [.ref pa, .ref ta, .ref sa, .ref gs, .ref co, .ref fu, .ref la, .ref gy, .ref du, .ref re, .ref wm, .ref ac])), (la, .inr (5, [.ref lab, .int he, .int mg, .int wd])), (lab, .inr (6, [.ref labg, .int ir])), (labg, .inl (3, 4, .inr (.inl gr)))]) 1 6 := by
  refine z_of (by decide) rfl (Nat.le_of_ble_eq_true rfl) (fun w0 => ?_)
  refine r_lvE (lv2 := [(0, .ref a), (1, .int m)]) rfl ?_
  refine r_iload_n d_Ip_treat_0 rfl 1 rfl ?_
  refine r_iconst d_Ip_treat_1 (v := 1) (by decide) ?_
  refine r_bipush d_Ip_treat_2 (v := 100) (by decide) ?_
  refine r_callS (As := [.int m, .int 1, .int 100]) (rest := []) (csC := []) (is := []) ln_Ip_203 w_st_Ip_isWithin ok_Ip_treat_Ip_isWithin d_Ip_treat_4 (C_Ip_isWithin g m 1 100) rfl rfl (Nat.le_of_ble_eq_true rfl) rfl (by decide) (by omega) (by omega) (fun E cs1 hx => ?_) (fun v cs1 hx => ?_)
  · exact absurd hx.1 (by simp)
  · obtain ⟨e1, rfl⟩ := hx
    cases e1
    refine ⟨rfl, ?_⟩
    refine r_st (st2 := [.int (if 1 ≤ m ∧ m ≤ 100 then 1 else 0)]) rfl ?_
    refine r_cs (cs2 := [(a, .inr (11, [.ref pa, .ref ta, .ref sa, .ref gs, .ref co, .ref fu, .ref la, .ref gy, .ref du, .ref re, .ref wm, .ref ac])), (la, .inr (5, [.ref lab, .int he, .int mg, .int wd])), (lab, .inr (6, [.ref labg, .int ir])), (labg, .inl (3, 4, .inr (.inl gr)))]) rfl ?_
    refine r_if_ne (tgt := 21) d_Ip_treat_7 (by decide) (fun c_7 => ?_) (fun c_7 => ?_)
    · refine r_aload_n d_Ip_treat_21 rfl 0 rfl ?_
      refine r_get fs_Ip_50 d_Ip_treat_22 (q0 := 0) rfl rfl ?_
      refine r_callV (As := []) (rest := []) (csC := [(la, .inr (5, [.ref lab, .int he, .int mg, .int wd])), (lab, .inr (6, [.ref labg, .int ir])), (labg, .inl (3, 4, .inr (.inl gr)))]) (is := [1, 2, 3]) (q0 := 1) rfl rfl ln_Ip_314 w_im_La_isEmpty w_se_La_isEmpty ok_Ip_treat_La_isEmpty d_Ip_treat_25 (C_La_isEmpty g la lab labg gr he mg wd ir) rfl rfl (Nat.le_of_ble_eq_true rfl) rfl (by decide) (by omega) (by omega) (fun E cs1 hx => ?_) (fun v cs1 hx => ?_)
      · exact absurd hx.1 (by simp)
      · obtain ⟨e1, rfl⟩ := hx
        cases e1
        refine ⟨rfl, ?_⟩
        refine r_st (st2 := [.int (if ir = 0 then 1 else 0)]) rfl ?_
        refine r_cs (cs2 := [(a, .inr (11, [.ref pa, .ref ta, .ref sa, .ref gs, .ref co, .ref fu, .ref la, .ref gy, .ref du, .ref re, .ref wm, .ref ac])), (la, .inr (5, [.ref lab, .int he, .int mg, .int wd])), (lab, .inr (6, [.ref labg, .int ir])), (labg, .inl (3, 4, .inr (.inl gr)))]) rfl ?_
        refine r_if_eq (tgt := 42) d_Ip_treat_28 (by decide) (fun c_28 => ?_) (fun c_28 => ?_)
        · exact absurd he0 (z_b0 c_28)
        · refine r_throwW tb_Ip_242_246 sr_Ip_326 d_Ip_treat_31 d_Ip_treat_34 d_Ip_treat_35 d_Ip_treat_38 d_Ip_treat_41 rfl (by decide) (by decide) (Nat.le_of_ble_eq_true rfl) (by omega) (by omega) ?_
          exact ⟨rfl, rfl⟩
    · exact absurd hw (z_b0 c_7)
theorem d_Ip_treat_42 : decode prog_1_method_27_code 42 = .ok (.aload_n 0, 1) := zo_42 (zd_b zq_prog_1_method_27_code_1 10 rfl rfl rfl)
theorem d_Ip_treat_43 : decode prog_1_method_27_code 43 = .ok (.getfield 50, 3) := zo_180 (d := 0) (e := 50) (zd_b zq_prog_1_method_27_code_1 11 rfl rfl rfl) (zd_b zq_prog_1_method_27_code_1 12 rfl rfl rfl) (zd_b zq_prog_1_method_27_code_1 13 rfl rfl rfl)
theorem d_Ip_treat_46 : decode prog_1_method_27_code 46 = .ok (.getfield 328, 3) := zo_180 (d := 1) (e := 72) (zd_b zq_prog_1_method_27_code_1 14 rfl rfl rfl) (zd_b zq_prog_1_method_27_code_1 15 rfl rfl rfl) (zd_b zq_prog_1_method_27_code_1 16 rfl rfl rfl)
theorem fs_Ip_328 : z_fs "Ironpour" 328 5 2 := ⟨R_La, "Ironpour$Ladle", F_La, 4, rfl, u_La, by decide, Or.inr ⟨"Ironpour", z_mk2 (i := 4) rfl (by decide +kernel), rfl⟩⟩
theorem d_Ip_treat_49 : decode prog_1_method_27_code 49 = .ok (.iload_n 1, 1) := zo_27 (zd_b zq_prog_1_method_27_code_1 17 rfl rfl rfl)
theorem d_Ip_treat_50 : decode prog_1_method_27_code 50 = .ok (.iadd, 1) := zo_96 (zd_b zq_prog_1_method_27_code_1 18 rfl rfl rfl)
theorem d_Ip_treat_51 : decode prog_1_method_27_code 51 = .ok (.bipush 100, 2) := zo_16 (d := 100) (zd_b zq_prog_1_method_27_code_1 19 rfl rfl rfl) (zd_b zq_prog_1_method_27_code_1 20 rfl rfl rfl) (by decide +kernel)
theorem d_Ip_treat_53 : decode prog_1_method_27_code 53 = .ok (.if_icmp .le 14, 3) := zo_164 (d := 0) (e := 14) (zd_b zq_prog_1_method_27_code_1 21 rfl rfl rfl) (zd_b zq_prog_1_method_27_code_1 22 rfl rfl rfl) (zd_b zq_prog_1_method_27_code_1 23 rfl rfl rfl) (by decide +kernel)
theorem d_Ip_treat_56 : decode prog_1_method_27_code 56 = .ok (.new 272, 3) := zo_187 (d := 1) (e := 16) (zd_b zq_prog_1_method_27_code_1 24 rfl rfl rfl) (zd_b zq_prog_1_method_27_code_1 25 rfl rfl rfl) (zd_b zq_prog_1_method_27_code_1 26 rfl rfl rfl)
theorem tb_Ip_272_276 : z_tb "Ironpour" 272 276 "java/lang/UnsupportedOperationException" := ⟨by decide +kernel, z_mj5 (i := 28) rfl (by decide +kernel), z_mj1 (i := 33) rfl (by decide +kernel), fun w h => ((z_at [(1, 21), (3, 163), (3, 172), (3, 180), (3, 183), (3, 185), (3, 164), (3, 165), (1, 44), (1, 45), (3, 166), (3, 171), (3, 181), (3, 201), (3, 153), (3, 202), (3, 155), (3, 203), (3, 157), (3, 167), (3, 169), (3, 159), (3, 197), (3, 198), (3, 200), (3, 159), (5, 39), (5, 40), (5, 41), (3, 191), (3, 145), (3, 191), (3, 192), (3, 193), (3, 194), (3, 147), (3, 194), (3, 195), (3, 196), (3, 197), (3, 149), (5, 38), (5, 29), (5, 30), (5, 31), (3, 178), (5, 32), (5, 33), (5, 34), (5, 35), (3, 162), (3, 161), (5, 36)] (by decide +kernel) (by decide +kernel) : ∀ w ∈ vx_atS "Ironpour" 276 "java/lang/UnsupportedOperationException" ["java/lang/RuntimeException", "java/lang/Exception"], w ∈ lw_tbl ∧ (goodWord w || z_isN w) = true) w h).elim (fun h1 h2 => (Bool.or_eq_true _ _ ▸ h2).elim (fun h3 => Or.inl (List.mem_filter.mpr ⟨h1, h3⟩)) (fun h3 => Or.inr (List.mem_filter.mpr ⟨h1, h3⟩))), by decide +kernel⟩
theorem sr_Ip_331 : Cond.stringRef "Ironpour" 331 "it would have more than 100" ∈ lw_tbl := z_tb5 (i := 127) rfl
theorem d_Ip_treat_59 : decode prog_1_method_27_code 59 = .ok (.dup, 1) := zo_89 (zd_b zq_prog_1_method_27_code_1 27 rfl rfl rfl)
theorem d_Ip_treat_60 : decode prog_1_method_27_code 60 = .ok (.ldc_w 331, 3) := zo_19 (d := 1) (e := 75) (zd_b zq_prog_1_method_27_code_1 28 rfl rfl rfl) (zd_b zq_prog_1_method_27_code_1 29 rfl rfl rfl) (zd_b zq_prog_1_method_27_code_1 30 rfl rfl rfl)
theorem d_Ip_treat_63 : decode prog_1_method_27_code 63 = .ok (.invokespecial 276, 3) := zo_183 (d := 1) (e := 20) (zd_b zq_prog_1_method_27_code_1 31 rfl rfl rfl) (zd_b zq_prog_1_method_27_code_2 0 rfl rfl rfl) (zd_b zq_prog_1_method_27_code_2 1 rfl rfl rfl)
theorem d_Ip_treat_66 : decode prog_1_method_27_code 66 = .ok (.athrow, 1) := zo_191 (zd_b zq_prog_1_method_27_code_2 2 rfl rfl rfl)
set_option maxHeartbeats 4000000 in
set_option maxRecDepth 100000 in
theorem C_Ip_treatG (g : zG) (a pa ta sa gs co fu la gy du re wm ac : Nat) (lab labg : Nat) (gr : Nat → Int64) (he mg wd ir : Int32) (m : Int32) (hw : (1 ≤ m ∧ m ≤ 100)) (he0 : ¬ ir = 0) (hg : ¬ mg + m ≤ 100) : CT g M_Ip_treat [.ref a, .int m] [(a, .inr (11, [.ref pa, .ref ta, .ref sa, .ref gs, .ref co, .ref fu, .ref la, .ref gy, .ref du, .ref re, .ref wm, .ref ac])), (la, .inr (5, [.ref lab, .int he, .int mg, .int wd])), (lab, .inr (6, [.ref labg, .int ir])), (labg, .inl (3, 4, .inr (.inl gr)))] (fun o cs1 => o = .inr "java/lang/UnsupportedOperationException" ∧ cs1 = [(a, .inr (11, [.ref pa, .ref ta, .ref sa, .ref gs, .ref co, .ref fu, .ref la, .ref gy, .ref du, .ref re, .ref wm, .ref ac])), (la, .inr (5, [.ref lab, .int he, .int mg, .int wd])), (lab, .inr (6, [.ref labg, .int ir])), (labg, .inl (3, 4, .inr (.inl gr)))]) 1 6 := by
  refine z_of (by decide) rfl (Nat.le_of_ble_eq_true rfl) (fun w0 => ?_)
  refine r_lvE (lv2 := [(0, .ref a), (1, .int m)]) rfl ?_
  refine r_iload_n d_Ip_treat_0 rfl 1 rfl ?_
  refine r_iconst d_Ip_treat_1 (v := 1) (by decide) ?_
  refine r_bipush d_Ip_treat_2 (v := 100) (by decide) ?_
  refine r_callS (As := [.int m, .int 1, .int 100]) (rest := []) (csC := []) (is := []) ln_Ip_203 w_st_Ip_isWithin ok_Ip_treat_Ip_isWithin d_Ip_treat_4 (C_Ip_isWithin g m 1 100) rfl rfl (Nat.le_of_ble_eq_true rfl) rfl (by decide) (by omega) (by omega) (fun E cs1 hx => ?_) (fun v cs1 hx => ?_)
  · exact absurd hx.1 (by simp)
  · obtain ⟨e1, rfl⟩ := hx
    cases e1
    refine ⟨rfl, ?_⟩
    refine r_st (st2 := [.int (if 1 ≤ m ∧ m ≤ 100 then 1 else 0)]) rfl ?_
    refine r_cs (cs2 := [(a, .inr (11, [.ref pa, .ref ta, .ref sa, .ref gs, .ref co, .ref fu, .ref la, .ref gy, .ref du, .ref re, .ref wm, .ref ac])), (la, .inr (5, [.ref lab, .int he, .int mg, .int wd])), (lab, .inr (6, [.ref labg, .int ir])), (labg, .inl (3, 4, .inr (.inl gr)))]) rfl ?_
    refine r_if_ne (tgt := 21) d_Ip_treat_7 (by decide) (fun c_7 => ?_) (fun c_7 => ?_)
    · refine r_aload_n d_Ip_treat_21 rfl 0 rfl ?_
      refine r_get fs_Ip_50 d_Ip_treat_22 (q0 := 0) rfl rfl ?_
      refine r_callV (As := []) (rest := []) (csC := [(la, .inr (5, [.ref lab, .int he, .int mg, .int wd])), (lab, .inr (6, [.ref labg, .int ir])), (labg, .inl (3, 4, .inr (.inl gr)))]) (is := [1, 2, 3]) (q0 := 1) rfl rfl ln_Ip_314 w_im_La_isEmpty w_se_La_isEmpty ok_Ip_treat_La_isEmpty d_Ip_treat_25 (C_La_isEmpty g la lab labg gr he mg wd ir) rfl rfl (Nat.le_of_ble_eq_true rfl) rfl (by decide) (by omega) (by omega) (fun E cs1 hx => ?_) (fun v cs1 hx => ?_)
      · exact absurd hx.1 (by simp)
      · obtain ⟨e1, rfl⟩ := hx
        cases e1
        refine ⟨rfl, ?_⟩
        refine r_st (st2 := [.int (if ir = 0 then 1 else 0)]) rfl ?_
        refine r_cs (cs2 := [(a, .inr (11, [.ref pa, .ref ta, .ref sa, .ref gs, .ref co, .ref fu, .ref la, .ref gy, .ref du, .ref re, .ref wm, .ref ac])), (la, .inr (5, [.ref lab, .int he, .int mg, .int wd])), (lab, .inr (6, [.ref labg, .int ir])), (labg, .inl (3, 4, .inr (.inl gr)))]) rfl ?_
        refine r_if_eq (tgt := 42) d_Ip_treat_28 (by decide) (fun c_28 => ?_) (fun c_28 => ?_)
        · refine r_aload_n d_Ip_treat_42 rfl 0 rfl ?_
          refine r_get fs_Ip_50 d_Ip_treat_43 (q0 := 0) rfl rfl ?_
          refine r_get fs_Ip_328 d_Ip_treat_46 (q0 := 1) rfl rfl ?_
          refine r_iload_n d_Ip_treat_49 rfl 1 rfl ?_
          refine r_iadd d_Ip_treat_50 (v := mg + m) rfl ?_
          refine r_bipush d_Ip_treat_51 (v := 100) (by decide) ?_
          refine r_icmp_le (tgt := 67) d_Ip_treat_53 (by decide) (fun c_53 => ?_) (fun c_53 => ?_)
          · exact absurd c_53 hg
          · refine r_throwW tb_Ip_272_276 sr_Ip_331 d_Ip_treat_56 d_Ip_treat_59 d_Ip_treat_60 d_Ip_treat_63 d_Ip_treat_66 rfl (by decide) (by decide) (Nat.le_of_ble_eq_true rfl) (by omega) (by omega) ?_
            exact ⟨rfl, rfl⟩
        · exact absurd (z_b1 c_28) he0
    · exact absurd hw (z_b0 c_7)
theorem d_Ip_treat_67 : decode prog_1_method_27_code 67 = .ok (.aload_n 0, 1) := zo_42 (zd_b zq_prog_1_method_27_code_2 3 rfl rfl rfl)
theorem d_Ip_treat_68 : decode prog_1_method_27_code 68 = .ok (.getfield 50, 3) := zo_180 (d := 0) (e := 50) (zd_b zq_prog_1_method_27_code_2 4 rfl rfl rfl) (zd_b zq_prog_1_method_27_code_2 5 rfl rfl rfl) (zd_b zq_prog_1_method_27_code_2 6 rfl rfl rfl)
theorem d_Ip_treat_71 : decode prog_1_method_27_code 71 = .ok (.iload_n 1, 1) := zo_27 (zd_b zq_prog_1_method_27_code_2 7 rfl rfl rfl)
theorem d_Ip_treat_72 : decode prog_1_method_27_code 72 = .ok (.invokevirtual 333, 3) := zo_182 (d := 1) (e := 77) (zd_b zq_prog_1_method_27_code_2 8 rfl rfl rfl) (zd_b zq_prog_1_method_27_code_2 9 rfl rfl rfl) (zd_b zq_prog_1_method_27_code_2 10 rfl rfl rfl)
theorem ok_Ip_treat_La_addMagnesium : z_ok M_Ip_treat M_La_addMagnesium 1 := ⟨z_mj5 (i := 131) rfl (by decide +kernel), rfl, ⟨by decide +kernel, by decide +kernel, by decide +kernel⟩, ⟨by decide, by decide⟩, z_mj1 (i := 9) rfl (by decide +kernel), rfl⟩
theorem ln_Ip_333 : Cond.methodLink "Ironpour" 333 M_La_addMagnesium.1 ∈ z_gw := z_mj5 (i := 128) rfl (by decide +kernel)
theorem w_im_La_addMagnesium : Cond.instanceMethod M_La_addMagnesium.1 ∈ z_gw := z_mj5 (i := 129) rfl (by decide +kernel)
theorem w_se_La_addMagnesium : Cond.selects M_La_addMagnesium.1.cls M_La_addMagnesium.1 M_La_addMagnesium.1 ∈ z_gw := z_mj5 (i := 130) rfl (by decide +kernel)
theorem d_Ip_treat_75 : decode prog_1_method_27_code 75 = .ok (.aload_n 0, 1) := zo_42 (zd_b zq_prog_1_method_27_code_2 11 rfl rfl rfl)
theorem d_Ip_treat_76 : decode prog_1_method_27_code 76 = .ok (.getfield 50, 3) := zo_180 (d := 0) (e := 50) (zd_b zq_prog_1_method_27_code_2 12 rfl rfl rfl) (zd_b zq_prog_1_method_27_code_2 13 rfl rfl rfl) (zd_b zq_prog_1_method_27_code_2 14 rfl rfl rfl)
theorem d_Ip_treat_79 : decode prog_1_method_27_code 79 = .ok (.getfield 328, 3) := zo_180 (d := 1) (e := 72) (zd_b zq_prog_1_method_27_code_2 15 rfl rfl rfl) (zd_b zq_prog_1_method_27_code_2 16 rfl rfl rfl) (zd_b zq_prog_1_method_27_code_2 17 rfl rfl rfl)
theorem d_Ip_treat_82 : decode prog_1_method_27_code 82 = .ok (.ireturn, 1) := zo_172 (zd_b zq_prog_1_method_27_code_2 18 rfl rfl rfl)
set_option maxHeartbeats 4000000 in
set_option maxRecDepth 100000 in
theorem C_Ip_treatN (g : zG) (a pa ta sa gs co fu la gy du re wm ac : Nat) (lab labg : Nat) (gr : Nat → Int64) (he mg wd ir : Int32) (m : Int32) (hwd : wd = 0 ∨ wd = 1) (hw : (1 ≤ m ∧ m ≤ 100)) (he0 : ¬ ir = 0) (hg : mg + m ≤ 100) : CT g M_Ip_treat [.ref a, .int m] [(a, .inr (11, [.ref pa, .ref ta, .ref sa, .ref gs, .ref co, .ref fu, .ref la, .ref gy, .ref du, .ref re, .ref wm, .ref ac])), (la, .inr (5, [.ref lab, .int he, .int mg, .int wd])), (lab, .inr (6, [.ref labg, .int ir])), (labg, .inl (3, 4, .inr (.inl gr)))] (fun o cs1 => o = .inl (some (.int (mg + m))) ∧ cs1 = [(a, .inr (11, [.ref pa, .ref ta, .ref sa, .ref gs, .ref co, .ref fu, .ref la, .ref gy, .ref du, .ref re, .ref wm, .ref ac])), (la, .inr (5, [.ref lab, .int he, .int (mg + m), .int (if mg + m < 20 then wd else 1)])), (lab, .inr (6, [.ref labg, .int ir])), (labg, .inl (3, 4, .inr (.inl gr)))]) 1 6 := by
  refine z_of (by decide) rfl (Nat.le_of_ble_eq_true rfl) (fun w0 => ?_)
  refine r_lvE (lv2 := [(0, .ref a), (1, .int m)]) rfl ?_
  refine r_iload_n d_Ip_treat_0 rfl 1 rfl ?_
  refine r_iconst d_Ip_treat_1 (v := 1) (by decide) ?_
  refine r_bipush d_Ip_treat_2 (v := 100) (by decide) ?_
  refine r_callS (As := [.int m, .int 1, .int 100]) (rest := []) (csC := []) (is := []) ln_Ip_203 w_st_Ip_isWithin ok_Ip_treat_Ip_isWithin d_Ip_treat_4 (C_Ip_isWithin g m 1 100) rfl rfl (Nat.le_of_ble_eq_true rfl) rfl (by decide) (by omega) (by omega) (fun E cs1 hx => ?_) (fun v cs1 hx => ?_)
  · exact absurd hx.1 (by simp)
  · obtain ⟨e1, rfl⟩ := hx
    cases e1
    refine ⟨rfl, ?_⟩
    refine r_st (st2 := [.int (if 1 ≤ m ∧ m ≤ 100 then 1 else 0)]) rfl ?_
    refine r_cs (cs2 := [(a, .inr (11, [.ref pa, .ref ta, .ref sa, .ref gs, .ref co, .ref fu, .ref la, .ref gy, .ref du, .ref re, .ref wm, .ref ac])), (la, .inr (5, [.ref lab, .int he, .int mg, .int wd])), (lab, .inr (6, [.ref labg, .int ir])), (labg, .inl (3, 4, .inr (.inl gr)))]) rfl ?_
    refine r_if_ne (tgt := 21) d_Ip_treat_7 (by decide) (fun c_7 => ?_) (fun c_7 => ?_)
    · refine r_aload_n d_Ip_treat_21 rfl 0 rfl ?_
      refine r_get fs_Ip_50 d_Ip_treat_22 (q0 := 0) rfl rfl ?_
      refine r_callV (As := []) (rest := []) (csC := [(la, .inr (5, [.ref lab, .int he, .int mg, .int wd])), (lab, .inr (6, [.ref labg, .int ir])), (labg, .inl (3, 4, .inr (.inl gr)))]) (is := [1, 2, 3]) (q0 := 1) rfl rfl ln_Ip_314 w_im_La_isEmpty w_se_La_isEmpty ok_Ip_treat_La_isEmpty d_Ip_treat_25 (C_La_isEmpty g la lab labg gr he mg wd ir) rfl rfl (Nat.le_of_ble_eq_true rfl) rfl (by decide) (by omega) (by omega) (fun E cs1 hx => ?_) (fun v cs1 hx => ?_)
      · exact absurd hx.1 (by simp)
      · obtain ⟨e1, rfl⟩ := hx
        cases e1
        refine ⟨rfl, ?_⟩
        refine r_st (st2 := [.int (if ir = 0 then 1 else 0)]) rfl ?_
        refine r_cs (cs2 := [(a, .inr (11, [.ref pa, .ref ta, .ref sa, .ref gs, .ref co, .ref fu, .ref la, .ref gy, .ref du, .ref re, .ref wm, .ref ac])), (la, .inr (5, [.ref lab, .int he, .int mg, .int wd])), (lab, .inr (6, [.ref labg, .int ir])), (labg, .inl (3, 4, .inr (.inl gr)))]) rfl ?_
        refine r_if_eq (tgt := 42) d_Ip_treat_28 (by decide) (fun c_28 => ?_) (fun c_28 => ?_)
        · refine r_aload_n d_Ip_treat_42 rfl 0 rfl ?_
          refine r_get fs_Ip_50 d_Ip_treat_43 (q0 := 0) rfl rfl ?_
          refine r_get fs_Ip_328 d_Ip_treat_46 (q0 := 1) rfl rfl ?_
          refine r_iload_n d_Ip_treat_49 rfl 1 rfl ?_
          refine r_iadd d_Ip_treat_50 (v := mg + m) rfl ?_
          refine r_bipush d_Ip_treat_51 (v := 100) (by decide) ?_
          refine r_icmp_le (tgt := 67) d_Ip_treat_53 (by decide) (fun c_53 => ?_) (fun c_53 => ?_)
          · refine r_aload_n d_Ip_treat_67 rfl 0 rfl ?_
            refine r_get fs_Ip_50 d_Ip_treat_68 (q0 := 0) rfl rfl ?_
            refine r_iload_n d_Ip_treat_71 rfl 1 rfl ?_
            refine r_callV (As := [.int m]) (rest := []) (csC := [(la, .inr (5, [.ref lab, .int he, .int mg, .int wd])), (lab, .inr (6, [.ref labg, .int ir])), (labg, .inl (3, 4, .inr (.inl gr)))]) (is := [1, 2, 3]) (q0 := 1) rfl rfl ln_Ip_333 w_im_La_addMagnesium w_se_La_addMagnesium ok_Ip_treat_La_addMagnesium d_Ip_treat_72 (C_La_addMagnesium g la lab labg gr he mg wd ir m hwd) rfl rfl (Nat.le_of_ble_eq_true rfl) rfl (by decide) (by omega) (by omega) (fun E cs1 hx => ?_) (fun v cs1 hx => ?_)
            · exact absurd hx.1 (by simp)
            · obtain ⟨e1, rfl⟩ := hx
              cases e1
              refine ⟨rfl, ?_⟩
              refine r_st (st2 := []) rfl ?_
              refine r_cs (cs2 := [(a, .inr (11, [.ref pa, .ref ta, .ref sa, .ref gs, .ref co, .ref fu, .ref la, .ref gy, .ref du, .ref re, .ref wm, .ref ac])), (la, .inr (5, [.ref lab, .int he, .int (mg + m), .int (if mg + m < 20 then wd else 1)])), (lab, .inr (6, [.ref labg, .int ir])), (labg, .inl (3, 4, .inr (.inl gr)))]) rfl ?_
              refine r_aload_n d_Ip_treat_75 rfl 0 rfl ?_
              refine r_get fs_Ip_50 d_Ip_treat_76 (q0 := 0) rfl rfl ?_
              refine r_get fs_Ip_328 d_Ip_treat_79 (q0 := 1) rfl rfl ?_
              refine r_iret d_Ip_treat_82 rfl rfl ?_
              exact ⟨rfl, rfl⟩
          · exact absurd hg c_53
        · exact absurd (z_b1 c_28) he0
    · exact absurd hw (z_b0 c_7)
