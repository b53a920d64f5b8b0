abbrev M_Ip_tap : zM := (⟨"Ironpour", "tap", "(I)I"⟩, prog_1_method_26_code, 2, (Option.some FieldType.int), 6, 100, [])
theorem d_Ip_tap_0 : decode prog_1_method_26_code 0 = .ok (.iload_n 1, 1) := zo_27 (zd_b zq_prog_1_method_26_code_0 0 rfl rfl rfl)
theorem d_Ip_tap_1 : decode prog_1_method_26_code 1 = .ok (.iconst 1, 1) := zo_4 (zd_b zq_prog_1_method_26_code_0 1 rfl rfl rfl)
theorem d_Ip_tap_2 : decode prog_1_method_26_code 2 = .ok (.sipush 500, 3) := zo_17 (d := 1) (e := 244) (zd_b zq_prog_1_method_26_code_0 2 rfl rfl rfl) (zd_b zq_prog_1_method_26_code_0 3 rfl rfl rfl) (zd_b zq_prog_1_method_26_code_0 4 rfl rfl rfl) (by decide +kernel)
theorem d_Ip_tap_5 : decode prog_1_method_26_code 5 = .ok (.invokestatic 203, 3) := zo_184 (d := 0) (e := 203) (zd_b zq_prog_1_method_26_code_0 5 rfl rfl rfl) (zd_b zq_prog_1_method_26_code_0 6 rfl rfl rfl) (zd_b zq_prog_1_method_26_code_0 7 rfl rfl rfl)
theorem ok_Ip_tap_Ip_isWithin : z_ok M_Ip_tap M_Ip_isWithin 3 := ⟨z_mj4 (i := 97) rfl (by decide +kernel), rfl, ⟨by decide +kernel, by decide +kernel, by decide +kernel⟩, ⟨by decide, by decide⟩, z_mj1 (i := 1) rfl (by decide +kernel), rfl⟩
theorem d_Ip_tap_8 : decode prog_1_method_26_code 8 = .ok (.ifCond .ne 14, 3) := zo_154 (d := 0) (e := 14) (zd_b zq_prog_1_method_26_code_0 8 rfl rfl rfl) (zd_b zq_prog_1_method_26_code_0 9 rfl rfl rfl) (zd_b zq_prog_1_method_26_code_0 10 rfl rfl rfl) (by decide +kernel)
theorem d_Ip_tap_11 : decode prog_1_method_26_code 11 = .ok (.new 89, 3) := zo_187 (d := 0) (e := 89) (zd_b zq_prog_1_method_26_code_0 11 rfl rfl rfl) (zd_b zq_prog_1_method_26_code_0 12 rfl rfl rfl) (zd_b zq_prog_1_method_26_code_0 13 rfl rfl rfl)
theorem sr_Ip_312 : Cond.stringRef "Ironpour" 312 "1 to 500 kilograms are tapped" ∈ lw_tbl := z_tb5 (i := 106) rfl
theorem d_Ip_tap_14 : decode prog_1_method_26_code 14 = .ok (.dup, 1) := zo_89 (zd_b zq_prog_1_method_26_code_0 14 rfl rfl rfl)
theorem d_Ip_tap_15 : decode prog_1_method_26_code 15 = .ok (.ldc_w 312, 3) := zo_19 (d := 1) (e := 56) (zd_b zq_prog_1_method_26_code_0 15 rfl rfl rfl) (zd_b zq_prog_1_method_26_code_0 16 rfl rfl rfl) (zd_b zq_prog_1_method_26_code_0 17 rfl rfl rfl)
theorem d_Ip_tap_18 : decode prog_1_method_26_code 18 = .ok (.invokespecial 93, 3) := zo_183 (d := 0) (e := 93) (zd_b zq_prog_1_method_26_code_0 18 rfl rfl rfl) (zd_b zq_prog_1_method_26_code_0 19 rfl rfl rfl) (zd_b zq_prog_1_method_26_code_0 20 rfl rfl rfl)
theorem d_Ip_tap_21 : decode prog_1_method_26_code 21 = .ok (.athrow, 1) := zo_191 (zd_b zq_prog_1_method_26_code_0 21 rfl rfl rfl)
set_option maxHeartbeats 4000000 in
set_option maxRecDepth 100000 in
theorem C_Ip_tapE (g : zG) (a pa ta sa gs co fu la gy du re wm ac : Nat) (lab labg fub fubg fut1 fut2 fut3 : Nat) (gr gb : Nat → Int64) (he mg wd ir ib : Int32) (io : Int64) (m : Int32) (hw : ¬ (1 ≤ m ∧ m ≤ 500)) : CT g M_Ip_tap [.ref a, .int m] [(a, .inr (11, [.ref pa, .ref ta, .ref sa, .ref gs, .ref co, .ref fu, .ref la, .ref gy, .ref du, .ref re, .ref wm, .ref ac])), (la, .inr (5, [.ref lab, .int he, .int mg, .int wd])), (lab, .inr (6, [.ref labg, .int ir])), (labg, .inl (3, 4, .inr (.inl gr))), (fu, .inr (3, [.ref fub, .ref fut1, .ref fut2, .ref fut3, .long io])), (fub, .inr (6, [.ref fubg, .int ib])), (fubg, .inl (3, 4, .inr (.inl gb)))] (fun o cs1 => o = .inr "java/lang/IllegalArgumentException" ∧ cs1 = [(a, .inr (11, [.ref pa, .ref ta, .ref sa, .ref gs, .ref co, .ref fu, .ref la, .ref gy, .ref du, .ref re, .ref wm, .ref ac])), (la, .inr (5, [.ref lab, .int he, .int mg, .int wd])), (lab, .inr (6, [.ref labg, .int ir])), (labg, .inl (3, 4, .inr (.inl gr))), (fu, .inr (3, [.ref fub, .ref fut1, .ref fut2, .ref fut3, .long io])), (fub, .inr (6, [.ref fubg, .int ib])), (fubg, .inl (3, 4, .inr (.inl gb)))]) 1 6 := by
  refine z_of (by decide) rfl (Nat.le_of_ble_eq_true rfl) (fun w0 => ?_)
  refine r_lvE (lv2 := [(0, .ref a), (1, .int m)]) rfl ?_
  refine r_iload_n d_Ip_tap_0 rfl 1 rfl ?_
  refine r_iconst d_Ip_tap_1 (v := 1) (by decide) ?_
  refine r_sipush d_Ip_tap_2 (v := 500) (by decide) ?_
  refine r_callS (As := [.int m, .int 1, .int 500]) (rest := []) (csC := []) (is := []) ln_Ip_203 w_st_Ip_isWithin ok_Ip_tap_Ip_isWithin d_Ip_tap_5 (C_Ip_isWithin g m 1 500) rfl rfl (Nat.le_of_ble_eq_true rfl) rfl (by decide) (by omega) (by omega) (fun E cs1 hx => ?_) (fun v cs1 hx => ?_)
  · exact absurd hx.1 (by simp)
  · obtain ⟨e1, rfl⟩ := hx
    cases e1
    refine ⟨rfl, ?_⟩
    refine r_st (st2 := [.int (if 1 ≤ m ∧ m ≤ 500 then 1 else 0)]) rfl ?_
    refine r_cs (cs2 := [(a, .inr (11, [.ref pa, .ref ta, .ref sa, .ref gs, .ref co, .ref fu, .ref la, .ref gy, .ref du, .ref re, .ref wm, .ref ac])), (la, .inr (5, [.ref lab, .int he, .int mg, .int wd])), (lab, .inr (6, [.ref labg, .int ir])), (labg, .inl (3, 4, .inr (.inl gr))), (fu, .inr (3, [.ref fub, .ref fut1, .ref fut2, .ref fut3, .long io])), (fub, .inr (6, [.ref fubg, .int ib])), (fubg, .inl (3, 4, .inr (.inl gb)))]) rfl ?_
    refine r_if_ne (tgt := 22) d_Ip_tap_8 (by decide) (fun c_8 => ?_) (fun c_8 => ?_)
    · exact absurd (z_b1 c_8) hw
    · refine r_throwW tb_Ip_89_93 sr_Ip_312 d_Ip_tap_11 d_Ip_tap_14 d_Ip_tap_15 d_Ip_tap_18 d_Ip_tap_21 rfl (by decide) (by decide) (Nat.le_of_ble_eq_true rfl) (by omega) (by omega) ?_
      exact ⟨rfl, rfl⟩
theorem d_Ip_tap_22 : decode prog_1_method_26_code 22 = .ok (.aload_n 0, 1) := zo_42 (zd_b zq_prog_1_method_26_code_0 22 rfl rfl rfl)
theorem d_Ip_tap_23 : decode prog_1_method_26_code 23 = .ok (.getfield 50, 3) := zo_180 (d := 0) (e := 50) (zd_b zq_prog_1_method_26_code_0 23 rfl rfl rfl) (zd_b zq_prog_1_method_26_code_0 24 rfl rfl rfl) (zd_b zq_prog_1_method_26_code_0 25 rfl rfl rfl)
theorem d_Ip_tap_26 : decode prog_1_method_26_code 26 = .ok (.invokevirtual 314, 3) := zo_182 (d := 1) (e := 58) (zd_b zq_prog_1_method_26_code_0 26 rfl rfl rfl) (zd_b zq_prog_1_method_26_code_0 27 rfl rfl rfl) (zd_b zq_prog_1_method_26_code_0 28 rfl rfl rfl)
theorem ok_Ip_tap_La_isEmpty : z_ok M_Ip_tap M_La_isEmpty 0 := ⟨z_mj5 (i := 110) rfl (by decide +kernel), rfl, ⟨by decide +kernel, by decide +kernel, by decide +kernel⟩, ⟨by decide, by decide⟩, z_mj1 (i := 9) rfl (by decide +kernel), rfl⟩
theorem d_Ip_tap_29 : decode prog_1_method_26_code 29 = .ok (.ifCond .ne 14, 3) := zo_154 (d := 0) (e := 14) (zd_b zq_prog_1_method_26_code_0 29 rfl rfl rfl) (zd_b zq_prog_1_method_26_code_0 30 rfl rfl rfl) (zd_b zq_prog_1_method_26_code_0 31 rfl rfl rfl) (by decide +kernel)
theorem d_Ip_tap_32 : decode prog_1_method_26_code 32 = .ok (.new 242, 3) := zo_187 (d := 0) (e := 242) (zd_b zq_prog_1_method_26_code_1 0 rfl rfl rfl) (zd_b zq_prog_1_method_26_code_1 1 rfl rfl rfl) (zd_b zq_prog_1_method_26_code_1 2 rfl rfl rfl)
theorem sr_Ip_317 : Cond.stringRef "Ironpour" 317 "the ladle is not empty" ∈ lw_tbl := z_tb5 (i := 111) rfl
theorem d_Ip_tap_35 : decode prog_1_method_26_code 35 = .ok (.dup, 1) := zo_89 (zd_b zq_prog_1_method_26_code_1 3 rfl rfl rfl)
theorem d_Ip_tap_36 : decode prog_1_method_26_code 36 = .ok (.ldc_w 317, 3) := zo_19 (d := 1) (e := 61) (zd_b zq_prog_1_method_26_code_1 4 rfl rfl rfl) (zd_b zq_prog_1_method_26_code_1 5 rfl rfl rfl) (zd_b zq_prog_1_method_26_code_1 6 rfl rfl rfl)
theorem d_Ip_tap_39 : decode prog_1_method_26_code 39 = .ok (.invokespecial 246, 3) := zo_183 (d := 0) (e := 246) (zd_b zq_prog_1_method_26_code_1 7 rfl rfl rfl) (zd_b zq_prog_1_method_26_code_1 8 rfl rfl rfl) (zd_b zq_prog_1_method_26_code_1 9 rfl rfl rfl)
theorem d_Ip_tap_42 : decode prog_1_method_26_code 42 = .ok (.athrow, 1) := zo_191 (zd_b zq_prog_1_method_26_code_1 10 rfl rfl rfl)
set_option maxHeartbeats 4000000 in
set_option maxRecDepth 100000 in
theorem C_Ip_tapF (g : zG) (a pa ta sa gs co fu la gy du re wm ac : Nat) (lab labg fub fubg fut1 fut2 fut3 : Nat) (gr gb : Nat → Int64) (he mg wd ir ib : Int32) (io : Int64) (m : Int32) (hw : (1 ≤ m ∧ m ≤ 500)) (he0 : ¬ ir = 0) : CT g M_Ip_tap [.ref a, .int m] [(a, .inr (11, [.ref pa, .ref ta, .ref sa, .ref gs, .ref co, .ref fu, .ref la, .ref gy, .ref du, .ref re, .ref wm, .ref ac])), (la, .inr (5, [.ref lab, .int he, .int mg, .int wd])), (lab, .inr (6, [.ref labg, .int ir])), (labg, .inl (3, 4, .inr (.inl gr))), (fu, .inr (3, [.ref fub, .ref fut1, .ref fut2, .ref fut3, .long io])), (fub, .inr (6, [.ref fubg, .int ib])), (fubg, .inl (3, 4, .inr (.inl gb)))] (fun o cs1 => o = .inr "java/lang/IllegalStateException" ∧ cs1 = [(a, .inr (11, [.ref pa, .ref ta, .ref sa, .ref gs, .ref co, .ref fu, .ref la, .ref gy, .ref du, .ref re, .ref wm, .ref ac])), (la, .inr (5, [.ref lab, .int he, .int mg, .int wd])), (lab, .inr (6, [.ref labg, .int ir])), (labg, .inl (3, 4, .inr (.inl gr))), (fu, .inr (3, [.ref fub, .ref fut1, .ref fut2, .ref fut3, .long io])), (fub, .inr (6, [.ref fubg, .int ib])), (fubg, .inl (3, 4, .inr (.inl gb)))]) 1 6 := by
  refine z_of (by decide) rfl (Nat.le_of_ble_eq_true rfl) (fun w0 => ?_)
  refine r_lvE (lv2 := [(0, .ref a), (1, .int m)]) rfl ?_
  refine r_iload_n d_Ip_tap_0 rfl 1 rfl ?_
  refine r_iconst d_Ip_tap_1 (v := 1) (by decide) ?_
  refine r_sipush d_Ip_tap_2 (v := 500) (by decide) ?_
  refine r_callS (As := [.int m, .int 1, .int 500]) (rest := []) (csC := []) (is := []) ln_Ip_203 w_st_Ip_isWithin ok_Ip_tap_Ip_isWithin d_Ip_tap_5 (C_Ip_isWithin g m 1 500) rfl rfl (Nat.le_of_ble_eq_true rfl) rfl (by decide) (by omega) (by omega) (fun E cs1 hx => ?_) (fun v cs1 hx => ?_)
  · exact absurd hx.1 (by simp)
  · obtain ⟨e1, rfl⟩ := hx
    cases e1
    refine ⟨rfl, ?_⟩
    refine r_st (st2 := [.int (if 1 ≤ m ∧ m ≤ 500 then 1 else 0)]) rfl ?_
    refine r_cs (cs2 := [(a, .inr (11, [.ref pa, .ref ta, .ref sa, .ref gs, .ref co, .ref fu, .ref la, .ref gy, .ref du, .ref re, .ref wm, .ref ac])), (la, .inr (5, [.ref lab, .int he, .int mg, .int wd])), (lab, .inr (6, [.ref labg, .int ir])), (labg, .inl (3, 4, .inr (.inl gr))), (fu, .inr (3, [.ref fub, .ref fut1, .ref fut2, .ref fut3, .long io])), (fub, .inr (6, [.ref fubg, .int ib])), (fubg, .inl (3, 4, .inr (.inl gb)))]) rfl ?_
    refine r_if_ne (tgt := 22) d_Ip_tap_8 (by decide) (fun c_8 => ?_) (fun c_8 => ?_)
    · refine r_aload_n d_Ip_tap_22 rfl 0 rfl ?_
      refine r_get fs_Ip_50 d_Ip_tap_23 (q0 := 0) rfl rfl ?_
      refine r_callV (As := []) (rest := []) (csC := [(la, .inr (5, [.ref lab, .int he, .int mg, .int wd])), (lab, .inr (6, [.ref labg, .int ir])), (labg, .inl (3, 4, .inr (.inl gr)))]) (is := [1, 2, 3]) (q0 := 1) rfl rfl ln_Ip_314 w_im_La_isEmpty w_se_La_isEmpty ok_Ip_tap_La_isEmpty d_Ip_tap_26 (C_La_isEmpty g la lab labg gr he mg wd ir) rfl rfl (Nat.le_of_ble_eq_true rfl) rfl (by decide) (by omega) (by omega) (fun E cs1 hx => ?_) (fun v cs1 hx => ?_)
      · exact absurd hx.1 (by simp)
      · obtain ⟨e1, rfl⟩ := hx
        cases e1
        refine ⟨rfl, ?_⟩
        refine r_st (st2 := [.int (if ir = 0 then 1 else 0)]) rfl ?_
        refine r_cs (cs2 := [(a, .inr (11, [.ref pa, .ref ta, .ref sa, .ref gs, .ref co, .ref fu, .ref la, .ref gy, .ref du, .ref re, .ref wm, .ref ac])), (la, .inr (5, [.ref lab, .int he, .int mg, .int wd])), (lab, .inr (6, [.ref labg, .int ir])), (labg, .inl (3, 4, .inr (.inl gr))), (fu, .inr (3, [.ref fub, .ref fut1, .ref fut2, .ref fut3, .long io])), (fub, .inr (6, [.ref fubg, .int ib])), (fubg, .inl (3, 4, .inr (.inl gb)))]) rfl ?_
        refine r_if_ne (tgt := 43) d_Ip_tap_29 (by decide) (fun c_29 => ?_) (fun c_29 => ?_)
        · exact absurd (z_b1 c_29) he0
        · refine r_throwW tb_Ip_242_246 sr_Ip_317 d_Ip_tap_32 d_Ip_tap_35 d_Ip_tap_36 d_Ip_tap_39 d_Ip_tap_42 rfl (by decide) (by decide) (Nat.le_of_ble_eq_true rfl) (by omega) (by omega) ?_
          exact ⟨rfl, rfl⟩
    · exact absurd hw (z_b0 c_8)
theorem d_Ip_tap_43 : decode prog_1_method_26_code 43 = .ok (.aload_n 0, 1) := zo_42 (zd_b zq_prog_1_method_26_code_1 11 rfl rfl rfl)
theorem d_Ip_tap_44 : decode prog_1_method_26_code 44 = .ok (.getfield 43, 3) := zo_180 (d := 0) (e := 43) (zd_b zq_prog_1_method_26_code_1 12 rfl rfl rfl) (zd_b zq_prog_1_method_26_code_1 13 rfl rfl rfl) (zd_b zq_prog_1_method_26_code_1 14 rfl rfl rfl)
theorem d_Ip_tap_47 : decode prog_1_method_26_code 47 = .ok (.getfield 277, 3) := zo_180 (d := 1) (e := 21) (zd_b zq_prog_1_method_26_code_1 15 rfl rfl rfl) (zd_b zq_prog_1_method_26_code_1 16 rfl rfl rfl) (zd_b zq_prog_1_method_26_code_1 17 rfl rfl rfl)
theorem d_Ip_tap_50 : decode prog_1_method_26_code 50 = .ok (.getfield 269, 3) := zo_180 (d := 1) (e := 13) (zd_b zq_prog_1_method_26_code_1 18 rfl rfl rfl) (zd_b zq_prog_1_method_26_code_1 19 rfl rfl rfl) (zd_b zq_prog_1_method_26_code_1 20 rfl rfl rfl)
theorem fs_Ip_269 : z_fs "Ironpour" 269 6 1 := ⟨R_Me, "Ironpour$Metal", F_Me, 2, rfl, u_Me, by decide, Or.inr ⟨"Ironpour", z_mk1 (i := 203) rfl (by decide +kernel), rfl⟩⟩
theorem d_Ip_tap_53 : decode prog_1_method_26_code 53 = .ok (.iload_n 1, 1) := zo_27 (zd_b zq_prog_1_method_26_code_1 21 rfl rfl rfl)
theorem d_Ip_tap_54 : decode prog_1_method_26_code 54 = .ok (.if_icmp .ge 14, 3) := zo_162 (d := 0) (e := 14) (zd_b zq_prog_1_method_26_code_1 22 rfl rfl rfl) (zd_b zq_prog_1_method_26_code_1 23 rfl rfl rfl) (zd_b zq_prog_1_method_26_code_1 24 rfl rfl rfl) (by decide +kernel)
theorem d_Ip_tap_57 : decode prog_1_method_26_code 57 = .ok (.new 272, 3) := zo_187 (d := 1) (e := 16) (zd_b zq_prog_1_method_26_code_1 25 rfl rfl rfl) (zd_b zq_prog_1_method_26_code_1 26 rfl rfl rfl) (zd_b zq_prog_1_method_26_code_1 27 rfl rfl rfl)
theorem sr_Ip_319 : Cond.stringRef "Ironpour" 319 "the furnace has not so much" ∈ lw_tbl := z_tb5 (i := 112) rfl
theorem d_Ip_tap_60 : decode prog_1_method_26_code 60 = .ok (.dup, 1) := zo_89 (zd_b zq_prog_1_method_26_code_1 28 rfl rfl rfl)
theorem d_Ip_tap_61 : decode prog_1_method_26_code 61 = .ok (.ldc_w 319, 3) := zo_19 (d := 1) (e := 63) (zd_b zq_prog_1_method_26_code_1 29 rfl rfl rfl) (zd_b zq_prog_1_method_26_code_1 30 rfl rfl rfl) (zd_b zq_prog_1_method_26_code_1 31 rfl rfl rfl)
theorem d_Ip_tap_64 : decode prog_1_method_26_code 64 = .ok (.invokespecial 276, 3) := zo_183 (d := 1) (e := 20) (zd_b zq_prog_1_method_26_code_2 0 rfl rfl rfl) (zd_b zq_prog_1_method_26_code_2 1 rfl rfl rfl) (zd_b zq_prog_1_method_26_code_2 2 rfl rfl rfl)
theorem d_Ip_tap_67 : decode prog_1_method_26_code 67 = .ok (.athrow, 1) := zo_191 (zd_b zq_prog_1_method_26_code_2 3 rfl rfl rfl)
set_option maxHeartbeats 4000000 in
set_option maxRecDepth 100000 in
theorem C_Ip_tapG (g : zG) (a pa ta sa gs co fu la gy du re wm ac : Nat) (lab labg fub fubg fut1 fut2 fut3 : Nat) (gr gb : Nat → Int64) (he mg wd ir ib : Int32) (io : Int64) (m : Int32) (hw : (1 ≤ m ∧ m ≤ 500)) (he0 : ir = 0) (hg : ib < m) : CT g M_Ip_tap [.ref a, .int m] [(a, .inr (11, [.ref pa, .ref ta, .ref sa, .ref gs, .ref co, .ref fu, .ref la, .ref gy, .ref du, .ref re, .ref wm, .ref ac])), (la, .inr (5, [.ref lab, .int he, .int mg, .int wd])), (lab, .inr (6, [.ref labg, .int ir])), (labg, .inl (3, 4, .inr (.inl gr))), (fu, .inr (3, [.ref fub, .ref fut1, .ref fut2, .ref fut3, .long io])), (fub, .inr (6, [.ref fubg, .int ib])), (fubg, .inl (3, 4, .inr (.inl gb)))] (fun o cs1 => o = .inr "java/lang/UnsupportedOperationException" ∧ cs1 = [(a, .inr (11, [.ref pa, .ref ta, .ref sa, .ref gs, .ref co, .ref fu, .ref la, .ref gy, .ref du, .ref re, .ref wm, .ref ac])), (la, .inr (5, [.ref lab, .int he, .int mg, .int wd])), (lab, .inr (6, [.ref labg, .int ir])), (labg, .inl (3, 4, .inr (.inl gr))), (fu, .inr (3, [.ref fub, .ref fut1, .ref fut2, .ref fut3, .long io])), (fub, .inr (6, [.ref fubg, .int ib])), (fubg, .inl (3, 4, .inr (.inl gb)))]) 1 6 := by
  refine z_of (by decide) rfl (Nat.le_of_ble_eq_true rfl) (fun w0 => ?_)
  refine r_lvE (lv2 := [(0, .ref a), (1, .int m)]) rfl ?_
  refine r_iload_n d_Ip_tap_0 rfl 1 rfl ?_
  refine r_iconst d_Ip_tap_1 (v := 1) (by decide) ?_
  refine r_sipush d_Ip_tap_2 (v := 500) (by decide) ?_
  refine r_callS (As := [.int m, .int 1, .int 500]) (rest := []) (csC := []) (is := []) ln_Ip_203 w_st_Ip_isWithin ok_Ip_tap_Ip_isWithin d_Ip_tap_5 (C_Ip_isWithin g m 1 500) rfl rfl (Nat.le_of_ble_eq_true rfl) rfl (by decide) (by omega) (by omega) (fun E cs1 hx => ?_) (fun v cs1 hx => ?_)
  · exact absurd hx.1 (by simp)
  · obtain ⟨e1, rfl⟩ := hx
    cases e1
    refine ⟨rfl, ?_⟩
    refine r_st (st2 := [.int (if 1 ≤ m ∧ m ≤ 500 then 1 else 0)]) rfl ?_
    refine r_cs (cs2 := [(a, .inr (11, [.ref pa, .ref ta, .ref sa, .ref gs, .ref co, .ref fu, .ref la, .ref gy, .ref du, .ref re, .ref wm, .ref ac])), (la, .inr (5, [.ref lab, .int he, .int mg, .int wd])), (lab, .inr (6, [.ref labg, .int ir])), (labg, .inl (3, 4, .inr (.inl gr))), (fu, .inr (3, [.ref fub, .ref fut1, .ref fut2, .ref fut3, .long io])), (fub, .inr (6, [.ref fubg, .int ib])), (fubg, .inl (3, 4, .inr (.inl gb)))]) rfl ?_
    refine r_if_ne (tgt := 22) d_Ip_tap_8 (by decide) (fun c_8 => ?_) (fun c_8 => ?_)
    · refine r_aload_n d_Ip_tap_22 rfl 0 rfl ?_
      refine r_get fs_Ip_50 d_Ip_tap_23 (q0 := 0) rfl rfl ?_
      refine r_callV (As := []) (rest := []) (csC := [(la, .inr (5, [.ref lab, .int he, .int mg, .int wd])), (lab, .inr (6, [.ref labg, .int ir])), (labg, .inl (3, 4, .inr (.inl gr)))]) (is := [1, 2, 3]) (q0 := 1) rfl rfl ln_Ip_314 w_im_La_isEmpty w_se_La_isEmpty ok_Ip_tap_La_isEmpty d_Ip_tap_26 (C_La_isEmpty g la lab labg gr he mg wd ir) rfl rfl (Nat.le_of_ble_eq_true rfl) rfl (by decide) (by omega) (by omega) (fun E cs1 hx => ?_) (fun v cs1 hx => ?_)
      · exact absurd hx.1 (by simp)
      · obtain ⟨e1, rfl⟩ := hx
        cases e1
        refine ⟨rfl, ?_⟩
        refine r_st (st2 := [.int (if ir = 0 then 1 else 0)]) rfl ?_
        refine r_cs (cs2 := [(a, .inr (11, [.ref pa, .ref ta, .ref sa, .ref gs, .ref co, .ref fu, .ref la, .ref gy, .ref du, .ref re, .ref wm, .ref ac])), (la, .inr (5, [.ref lab, .int he, .int mg, .int wd])), (lab, .inr (6, [.ref labg, .int ir])), (labg, .inl (3, 4, .inr (.inl gr))), (fu, .inr (3, [.ref fub, .ref fut1, .ref fut2, .ref fut3, .long io])), (fub, .inr (6, [.ref fubg, .int ib])), (fubg, .inl (3, 4, .inr (.inl gb)))]) rfl ?_
        refine r_if_ne (tgt := 43) d_Ip_tap_29 (by decide) (fun c_29 => ?_) (fun c_29 => ?_)
        · refine r_aload_n d_Ip_tap_43 rfl 0 rfl ?_
          refine r_get fs_Ip_43 d_Ip_tap_44 (q0 := 0) rfl rfl ?_
          refine r_get fs_Ip_277 d_Ip_tap_47 (q0 := 4) rfl rfl ?_
          refine r_get fs_Ip_269 d_Ip_tap_50 (q0 := 5) rfl rfl ?_
          refine r_iload_n d_Ip_tap_53 rfl 1 rfl ?_
          refine r_icmp_ge (tgt := 68) d_Ip_tap_54 (by decide) (fun c_54 => ?_) (fun c_54 => ?_)
          · exact absurd hg (Int32.not_lt.mpr c_54)
          · refine r_throwW tb_Ip_272_276 sr_Ip_319 d_Ip_tap_57 d_Ip_tap_60 d_Ip_tap_61 d_Ip_tap_64 d_Ip_tap_67 rfl (by decide) (by decide) (Nat.le_of_ble_eq_true rfl) (by omega) (by omega) ?_
            exact ⟨rfl, rfl⟩
        · exact absurd he0 (z_b0 c_29)
    · exact absurd hw (z_b0 c_8)
theorem d_Ip_tap_68 : decode prog_1_method_26_code 68 = .ok (.aload_n 0, 1) := zo_42 (zd_b zq_prog_1_method_26_code_2 4 rfl rfl rfl)
theorem d_Ip_tap_69 : decode prog_1_method_26_code 69 = .ok (.getfield 50, 3) := zo_180 (d := 0) (e := 50) (zd_b zq_prog_1_method_26_code_2 5 rfl rfl rfl) (zd_b zq_prog_1_method_26_code_2 6 rfl rfl rfl) (zd_b zq_prog_1_method_26_code_2 7 rfl rfl rfl)
theorem d_Ip_tap_72 : decode prog_1_method_26_code 72 = .ok (.aload_n 0, 1) := zo_42 (zd_b zq_prog_1_method_26_code_2 8 rfl rfl rfl)
theorem d_Ip_tap_73 : decode prog_1_method_26_code 73 = .ok (.getfield 43, 3) := zo_180 (d := 0) (e := 43) (zd_b zq_prog_1_method_26_code_2 9 rfl rfl rfl) (zd_b zq_prog_1_method_26_code_2 10 rfl rfl rfl) (zd_b zq_prog_1_method_26_code_2 11 rfl rfl rfl)
theorem d_Ip_tap_76 : decode prog_1_method_26_code 76 = .ok (.getfield 277, 3) := zo_180 (d := 1) (e := 21) (zd_b zq_prog_1_method_26_code_2 12 rfl rfl rfl) (zd_b zq_prog_1_method_26_code_2 13 rfl rfl rfl) (zd_b zq_prog_1_method_26_code_2 14 rfl rfl rfl)
theorem d_Ip_tap_79 : decode prog_1_method_26_code 79 = .ok (.iload_n 1, 1) := zo_27 (zd_b zq_prog_1_method_26_code_2 15 rfl rfl rfl)
theorem d_Ip_tap_80 : decode prog_1_method_26_code 80 = .ok (.invokevirtual 321, 3) := zo_182 (d := 1) (e := 65) (zd_b zq_prog_1_method_26_code_2 16 rfl rfl rfl) (zd_b zq_prog_1_method_26_code_2 17 rfl rfl rfl) (zd_b zq_prog_1_method_26_code_2 18 rfl rfl rfl)
theorem ok_Ip_tap_La_fillFrom : z_ok M_Ip_tap M_La_fillFrom 2 := ⟨z_mj5 (i := 116) rfl (by decide +kernel), rfl, ⟨by decide +kernel, by decide +kernel, by decide +kernel⟩, ⟨by decide, by decide⟩, z_mj1 (i := 9) rfl (by decide +kernel), rfl⟩
theorem ln_Ip_321 : Cond.methodLink "Ironpour" 321 M_La_fillFrom.1 ∈ z_gw := z_mj5 (i := 113) rfl (by decide +kernel)
theorem w_im_La_fillFrom : Cond.instanceMethod M_La_fillFrom.1 ∈ z_gw := z_mj5 (i := 114) rfl (by decide +kernel)
theorem w_se_La_fillFrom : Cond.selects M_La_fillFrom.1.cls M_La_fillFrom.1 M_La_fillFrom.1 ∈ z_gw := z_mj5 (i := 115) rfl (by decide +kernel)
theorem d_Ip_tap_83 : decode prog_1_method_26_code 83 = .ok (.aload_n 0, 1) := zo_42 (zd_b zq_prog_1_method_26_code_2 19 rfl rfl rfl)
theorem d_Ip_tap_84 : decode prog_1_method_26_code 84 = .ok (.getfield 43, 3) := zo_180 (d := 0) (e := 43) (zd_b zq_prog_1_method_26_code_2 20 rfl rfl rfl) (zd_b zq_prog_1_method_26_code_2 21 rfl rfl rfl) (zd_b zq_prog_1_method_26_code_2 22 rfl rfl rfl)
theorem d_Ip_tap_87 : decode prog_1_method_26_code 87 = .ok (.getfield 277, 3) := zo_180 (d := 1) (e := 21) (zd_b zq_prog_1_method_26_code_2 23 rfl rfl rfl) (zd_b zq_prog_1_method_26_code_2 24 rfl rfl rfl) (zd_b zq_prog_1_method_26_code_2 25 rfl rfl rfl)
theorem d_Ip_tap_90 : decode prog_1_method_26_code 90 = .ok (.getfield 269, 3) := zo_180 (d := 1) (e := 13) (zd_b zq_prog_1_method_26_code_2 26 rfl rfl rfl) (zd_b zq_prog_1_method_26_code_2 27 rfl rfl rfl) (zd_b zq_prog_1_method_26_code_2 28 rfl rfl rfl)
theorem d_Ip_tap_93 : decode prog_1_method_26_code 93 = .ok (.ireturn, 1) := zo_172 (zd_b zq_prog_1_method_26_code_2 29 rfl rfl rfl)
