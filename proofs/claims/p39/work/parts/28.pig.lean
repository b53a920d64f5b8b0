abbrev M_Ip_pig : zM := (⟨"Ironpour", "pig", "()I"⟩, prog_1_method_30_code, 2, (Option.some FieldType.int), 6, 100, [])
theorem d_Ip_pig_0 : decode prog_1_method_30_code 0 = .ok (.aload_n 0, 1) := zo_42 (zd_b zq_prog_1_method_30_code_0 0 rfl rfl rfl)
theorem d_Ip_pig_1 : decode prog_1_method_30_code 1 = .ok (.getfield 50, 3) := zo_180 (d := 0) (e := 50) (zd_b zq_prog_1_method_30_code_0 1 rfl rfl rfl) (zd_b zq_prog_1_method_30_code_0 2 rfl rfl rfl) (zd_b zq_prog_1_method_30_code_0 3 rfl rfl rfl)
theorem d_Ip_pig_4 : decode prog_1_method_30_code 4 = .ok (.invokevirtual 314, 3) := zo_182 (d := 1) (e := 58) (zd_b zq_prog_1_method_30_code_0 4 rfl rfl rfl) (zd_b zq_prog_1_method_30_code_0 5 rfl rfl rfl) (zd_b zq_prog_1_method_30_code_0 6 rfl rfl rfl)
theorem ok_Ip_pig_La_isEmpty : z_ok M_Ip_pig M_La_isEmpty 0 := ⟨z_mj5 (i := 110) rfl (by decide +kernel), rfl, ⟨by decide +kernel, by decide +kernel, by decide +kernel⟩, ⟨by decide, by decide⟩, z_mj1 (i := 9) rfl (by decide +kernel), rfl⟩
theorem d_Ip_pig_7 : decode prog_1_method_30_code 7 = .ok (.ifCond .eq 14, 3) := zo_153 (d := 0) (e := 14) (zd_b zq_prog_1_method_30_code_0 7 rfl rfl rfl) (zd_b zq_prog_1_method_30_code_0 8 rfl rfl rfl) (zd_b zq_prog_1_method_30_code_0 9 rfl rfl rfl) (by decide +kernel)
theorem d_Ip_pig_10 : decode prog_1_method_30_code 10 = .ok (.new 242, 3) := zo_187 (d := 0) (e := 242) (zd_b zq_prog_1_method_30_code_0 10 rfl rfl rfl) (zd_b zq_prog_1_method_30_code_0 11 rfl rfl rfl) (zd_b zq_prog_1_method_30_code_0 12 rfl rfl rfl)
theorem d_Ip_pig_13 : decode prog_1_method_30_code 13 = .ok (.dup, 1) := zo_89 (zd_b zq_prog_1_method_30_code_0 13 rfl rfl rfl)
theorem d_Ip_pig_14 : decode prog_1_method_30_code 14 = .ok (.ldc_w 326, 3) := zo_19 (d := 1) (e := 70) (zd_b zq_prog_1_method_30_code_0 14 rfl rfl rfl) (zd_b zq_prog_1_method_30_code_0 15 rfl rfl rfl) (zd_b zq_prog_1_method_30_code_0 16 rfl rfl rfl)
theorem d_Ip_pig_17 : decode prog_1_method_30_code 17 = .ok (.invokespecial 246, 3) := zo_183 (d := 0) (e := 246) (zd_b zq_prog_1_method_30_code_0 17 rfl rfl rfl) (zd_b zq_prog_1_method_30_code_0 18 rfl rfl rfl) (zd_b zq_prog_1_method_30_code_0 19 rfl rfl rfl)
theorem d_Ip_pig_20 : decode prog_1_method_30_code 20 = .ok (.athrow, 1) := zo_191 (zd_b zq_prog_1_method_30_code_0 20 rfl rfl rfl)
set_option maxHeartbeats 4000000 in
set_option maxRecDepth 100000 in
theorem C_Ip_pigE (g : zG) (a pa ta sa gs co fu la gy du re wm ac : Nat) (lab labg gyg dug : Nat) (gr g1 g2 : Nat → Int64) (he mg wd ir i1 i2 : Int32) (he0 : ir = 0) : CT g M_Ip_pig [.ref a] [(a, .inr (11, [.ref pa, .ref ta, .ref sa, .ref gs, .ref co, .ref fu, .ref la, .ref gy, .ref du, .ref re, .ref wm, .ref ac])), (la, .inr (5, [.ref lab, .int he, .int mg, .int wd])), (lab, .inr (6, [.ref labg, .int ir])), (labg, .inl (3, 4, .inr (.inl gr))), (gy, .inr (6, [.ref gyg, .int i1])), (gyg, .inl (3, 4, .inr (.inl g1))), (du, .inr (6, [.ref dug, .int i2])), (dug, .inl (3, 4, .inr (.inl g2)))] (fun o cs1 => o = .inr "java/lang/IllegalStateException" ∧ cs1 = [(a, .inr (11, [.ref pa, .ref ta, .ref sa, .ref gs, .ref co, .ref fu, .ref la, .ref gy, .ref du, .ref re, .ref wm, .ref ac])), (la, .inr (5, [.ref lab, .int he, .int mg, .int wd])), (lab, .inr (6, [.ref labg, .int ir])), (labg, .inl (3, 4, .inr (.inl gr))), (gy, .inr (6, [.ref gyg, .int i1])), (gyg, .inl (3, 4, .inr (.inl g1))), (du, .inr (6, [.ref dug, .int i2])), (dug, .inl (3, 4, .inr (.inl g2)))]) 1 6 := by
  refine z_of (by decide) rfl (Nat.le_of_ble_eq_true rfl) (fun w0 => ?_)
  refine r_lvE (lv2 := [(0, .ref a)]) rfl ?_
  refine r_aload_n d_Ip_pig_0 rfl 0 rfl ?_
  refine r_get fs_Ip_50 d_Ip_pig_1 (q0 := 0) rfl rfl ?_
  refine r_callV (As := []) (rest := []) (csC := [(la, .inr (5, [.ref lab, .int he, .int mg, .int wd])), (lab, .inr (6, [.ref labg, .int ir])), (labg, .inl (3, 4, .inr (.inl gr)))]) (is := [1, 2, 3]) (q0 := 1) rfl rfl ln_Ip_314 w_im_La_isEmpty w_se_La_isEmpty ok_Ip_pig_La_isEmpty d_Ip_pig_4 (C_La_isEmpty g la lab labg gr he mg wd ir) rfl rfl (Nat.le_of_ble_eq_true rfl) rfl (by decide) (by omega) (by omega) (fun E cs1 hx => ?_) (fun v cs1 hx => ?_)
  · exact absurd hx.1 (by simp)
  · obtain ⟨e1, rfl⟩ := hx
    cases e1
    refine ⟨rfl, ?_⟩
    refine r_st (st2 := [.int (if ir = 0 then 1 else 0)]) rfl ?_
    refine r_cs (cs2 := [(a, .inr (11, [.ref pa, .ref ta, .ref sa, .ref gs, .ref co, .ref fu, .ref la, .ref gy, .ref du, .ref re, .ref wm, .ref ac])), (la, .inr (5, [.ref lab, .int he, .int mg, .int wd])), (lab, .inr (6, [.ref labg, .int ir])), (labg, .inl (3, 4, .inr (.inl gr))), (gy, .inr (6, [.ref gyg, .int i1])), (gyg, .inl (3, 4, .inr (.inl g1))), (du, .inr (6, [.ref dug, .int i2])), (dug, .inl (3, 4, .inr (.inl g2)))]) rfl ?_
    refine r_if_eq (tgt := 21) d_Ip_pig_7 (by decide) (fun c_7 => ?_) (fun c_7 => ?_)
    · exact absurd he0 (z_b0 c_7)
    · refine r_throwW tb_Ip_242_246 sr_Ip_326 d_Ip_pig_10 d_Ip_pig_13 d_Ip_pig_14 d_Ip_pig_17 d_Ip_pig_20 rfl (by decide) (by decide) (Nat.le_of_ble_eq_true rfl) (by omega) (by omega) ?_
      exact ⟨rfl, rfl⟩
theorem d_Ip_pig_21 : decode prog_1_method_30_code 21 = .ok (.aload_n 0, 1) := zo_42 (zd_b zq_prog_1_method_30_code_0 21 rfl rfl rfl)
theorem d_Ip_pig_22 : decode prog_1_method_30_code 22 = .ok (.getfield 50, 3) := zo_180 (d := 0) (e := 50) (zd_b zq_prog_1_method_30_code_0 22 rfl rfl rfl) (zd_b zq_prog_1_method_30_code_0 23 rfl rfl rfl) (zd_b zq_prog_1_method_30_code_0 24 rfl rfl rfl)
theorem d_Ip_pig_25 : decode prog_1_method_30_code 25 = .ok (.getfield 359, 3) := zo_180 (d := 1) (e := 103) (zd_b zq_prog_1_method_30_code_0 25 rfl rfl rfl) (zd_b zq_prog_1_method_30_code_0 26 rfl rfl rfl) (zd_b zq_prog_1_method_30_code_0 27 rfl rfl rfl)
theorem fs_Ip_359 : z_fs "Ironpour" 359 5 0 := ⟨R_La, "Ironpour$Ladle", F_La, 4, rfl, u_La, by decide, Or.inr ⟨"Ironpour", z_mk2 (i := 0) rfl (by decide +kernel), rfl⟩⟩
theorem d_Ip_pig_28 : decode prog_1_method_30_code 28 = .ok (.getfield 269, 3) := zo_180 (d := 1) (e := 13) (zd_b zq_prog_1_method_30_code_0 28 rfl rfl rfl) (zd_b zq_prog_1_method_30_code_0 29 rfl rfl rfl) (zd_b zq_prog_1_method_30_code_0 30 rfl rfl rfl)
theorem d_Ip_pig_31 : decode prog_1_method_30_code 31 = .ok (.istore_n 1, 1) := zo_60 (zd_b zq_prog_1_method_30_code_0 31 rfl rfl rfl)
theorem d_Ip_pig_32 : decode prog_1_method_30_code 32 = .ok (.aload_n 0, 1) := zo_42 (zd_b zq_prog_1_method_30_code_1 0 rfl rfl rfl)
theorem d_Ip_pig_33 : decode prog_1_method_30_code 33 = .ok (.getfield 50, 3) := zo_180 (d := 0) (e := 50) (zd_b zq_prog_1_method_30_code_1 1 rfl rfl rfl) (zd_b zq_prog_1_method_30_code_1 2 rfl rfl rfl) (zd_b zq_prog_1_method_30_code_1 3 rfl rfl rfl)
theorem d_Ip_pig_36 : decode prog_1_method_30_code 36 = .ok (.getfield 359, 3) := zo_180 (d := 1) (e := 103) (zd_b zq_prog_1_method_30_code_1 4 rfl rfl rfl) (zd_b zq_prog_1_method_30_code_1 5 rfl rfl rfl) (zd_b zq_prog_1_method_30_code_1 6 rfl rfl rfl)
theorem d_Ip_pig_39 : decode prog_1_method_30_code 39 = .ok (.aload_n 0, 1) := zo_42 (zd_b zq_prog_1_method_30_code_1 7 rfl rfl rfl)
theorem d_Ip_pig_40 : decode prog_1_method_30_code 40 = .ok (.getfield 50, 3) := zo_180 (d := 0) (e := 50) (zd_b zq_prog_1_method_30_code_1 8 rfl rfl rfl) (zd_b zq_prog_1_method_30_code_1 9 rfl rfl rfl) (zd_b zq_prog_1_method_30_code_1 10 rfl rfl rfl)
theorem d_Ip_pig_43 : decode prog_1_method_30_code 43 = .ok (.getfield 362, 3) := zo_180 (d := 1) (e := 106) (zd_b zq_prog_1_method_30_code_1 11 rfl rfl rfl) (zd_b zq_prog_1_method_30_code_1 12 rfl rfl rfl) (zd_b zq_prog_1_method_30_code_1 13 rfl rfl rfl)
theorem fs_Ip_362 : z_fs "Ironpour" 362 5 3 := ⟨R_La, "Ironpour$Ladle", F_La, 4, rfl, u_La, by decide, Or.inr ⟨"Ironpour", z_mk2 (i := 6) rfl (by decide +kernel), rfl⟩⟩
theorem d_Ip_pig_46 : decode prog_1_method_30_code 46 = .ok (.ifCond .eq 10, 3) := zo_153 (d := 0) (e := 10) (zd_b zq_prog_1_method_30_code_1 14 rfl rfl rfl) (zd_b zq_prog_1_method_30_code_1 15 rfl rfl rfl) (zd_b zq_prog_1_method_30_code_1 16 rfl rfl rfl) (by decide +kernel)
theorem d_Ip_pig_56 : decode prog_1_method_30_code 56 = .ok (.aload_n 0, 1) := zo_42 (zd_b zq_prog_1_method_30_code_1 24 rfl rfl rfl)
theorem d_Ip_pig_57 : decode prog_1_method_30_code 57 = .ok (.getfield 57, 3) := zo_180 (d := 0) (e := 57) (zd_b zq_prog_1_method_30_code_1 25 rfl rfl rfl) (zd_b zq_prog_1_method_30_code_1 26 rfl rfl rfl) (zd_b zq_prog_1_method_30_code_1 27 rfl rfl rfl)
theorem fs_Ip_57 : z_fs "Ironpour" 57 11 7 := ⟨R_Ip, "Ironpour", F_Ip, 12, rfl, u_Ip, by decide, Or.inl ⟨z_mj2 (i := 70) rfl (by decide +kernel), Or.inl rfl⟩⟩
theorem d_Ip_pig_60 : decode prog_1_method_30_code 60 = .ok (.iload_n 1, 1) := zo_27 (zd_b zq_prog_1_method_30_code_1 28 rfl rfl rfl)
theorem d_Ip_pig_61 : decode prog_1_method_30_code 61 = .ok (.invokevirtual 282, 3) := zo_182 (d := 1) (e := 26) (zd_b zq_prog_1_method_30_code_1 29 rfl rfl rfl) (zd_b zq_prog_1_method_30_code_1 30 rfl rfl rfl) (zd_b zq_prog_1_method_30_code_1 31 rfl rfl rfl)
theorem ok_Ip_pig_Me_moveTo : z_ok M_Ip_pig M_Me_moveTo 2 := ⟨z_mj5 (i := 48) rfl (by decide +kernel), rfl, ⟨by decide +kernel, by decide +kernel, by decide +kernel⟩, ⟨by decide, by decide⟩, z_mj1 (i := 8) rfl (by decide +kernel), rfl⟩
theorem ln_Ip_282 : Cond.methodLink "Ironpour" 282 M_Me_moveTo.1 ∈ z_gw := z_mj5 (i := 45) rfl (by decide +kernel)
theorem d_Ip_pig_64 : decode prog_1_method_30_code 64 = .ok (.iload_n 1, 1) := zo_27 (zd_b zq_prog_1_method_30_code_2 0 rfl rfl rfl)
theorem d_Ip_pig_65 : decode prog_1_method_30_code 65 = .ok (.ireturn, 1) := zo_172 (zd_b zq_prog_1_method_30_code_2 1 rfl rfl rfl)
set_option maxHeartbeats 4000000 in
set_option maxRecDepth 100000 in
theorem C_Ip_pigN (g : zG) (a pa ta sa gs co fu la gy du re wm ac : Nat) (lab labg gyg dug : Nat) (gr g1 g2 : Nat → Int64) (he mg wd ir i1 i2 : Int32) (he0 : ¬ ir = 0) (h0 : ¬ ir ≤ 0) (hw : wd = 0) : CT g M_Ip_pig [.ref a] [(a, .inr (11, [.ref pa, .ref ta, .ref sa, .ref gs, .ref co, .ref fu, .ref la, .ref gy, .ref du, .ref re, .ref wm, .ref ac])), (la, .inr (5, [.ref lab, .int he, .int mg, .int wd])), (lab, .inr (6, [.ref labg, .int ir])), (labg, .inl (3, 4, .inr (.inl gr))), (gy, .inr (6, [.ref gyg, .int i1])), (gyg, .inl (3, 4, .inr (.inl g1))), (du, .inr (6, [.ref dug, .int i2])), (dug, .inl (3, 4, .inr (.inl g2)))] (fun o cs1 => o = .inl (some (.int ir)) ∧ cs1 = [(a, .inr (11, [.ref pa, .ref ta, .ref sa, .ref gs, .ref co, .ref fu, .ref la, .ref gy, .ref du, .ref re, .ref wm, .ref ac])), (la, .inr (5, [.ref lab, .int he, .int mg, .int wd])), (lab, .inr (6, [.ref labg, .int (ir - ir)])), (labg, .inl (3, 4, .inr (.inl (mvS gr ir ir 4)))), (gy, .inr (6, [.ref gyg, .int (i1 + ir)])), (gyg, .inl (3, 4, .inr (.inl (mvT gr ir ir g1 4)))), (du, .inr (6, [.ref dug, .int i2])), (dug, .inl (3, 4, .inr (.inl g2)))]) 1 6 := by
  refine z_of (by decide) rfl (Nat.le_of_ble_eq_true rfl) (fun w0 => ?_)
  refine r_lvE (lv2 := [(0, .ref a)]) rfl ?_
  refine r_aload_n d_Ip_pig_0 rfl 0 rfl ?_
  refine r_get fs_Ip_50 d_Ip_pig_1 (q0 := 0) rfl rfl ?_
  refine r_callV (As := []) (rest := []) (csC := [(la, .inr (5, [.ref lab, .int he, .int mg, .int wd])), (lab, .inr (6, [.ref labg, .int ir])), (labg, .inl (3, 4, .inr (.inl gr)))]) (is := [1, 2, 3]) (q0 := 1) rfl rfl ln_Ip_314 w_im_La_isEmpty w_se_La_isEmpty ok_Ip_pig_La_isEmpty d_Ip_pig_4 (C_La_isEmpty g la lab labg gr he mg wd ir) rfl rfl (Nat.le_of_ble_eq_true rfl) rfl (by decide) (by omega) (by omega) (fun E cs1 hx => ?_) (fun v cs1 hx => ?_)
  · exact absurd hx.1 (by simp)
  · obtain ⟨e1, rfl⟩ := hx
    cases e1
    refine ⟨rfl, ?_⟩
    refine r_st (st2 := [.int (if ir = 0 then 1 else 0)]) rfl ?_
    refine r_cs (cs2 := [(a, .inr (11, [.ref pa, .ref ta, .ref sa, .ref gs, .ref co, .ref fu, .ref la, .ref gy, .ref du, .ref re, .ref wm, .ref ac])), (la, .inr (5, [.ref lab, .int he, .int mg, .int wd])), (lab, .inr (6, [.ref labg, .int ir])), (labg, .inl (3, 4, .inr (.inl gr))), (gy, .inr (6, [.ref gyg, .int i1])), (gyg, .inl (3, 4, .inr (.inl g1))), (du, .inr (6, [.ref dug, .int i2])), (dug, .inl (3, 4, .inr (.inl g2)))]) rfl ?_
    refine r_if_eq (tgt := 21) d_Ip_pig_7 (by decide) (fun c_7 => ?_) (fun c_7 => ?_)
    · refine r_aload_n d_Ip_pig_21 rfl 0 rfl ?_
      refine r_get fs_Ip_50 d_Ip_pig_22 (q0 := 0) rfl rfl ?_
      refine r_get fs_Ip_359 d_Ip_pig_25 (q0 := 1) rfl rfl ?_
      refine r_get fs_Ip_269 d_Ip_pig_28 (q0 := 2) rfl rfl ?_
      refine r_istore_n (lv' := [(1, .int ir), (0, .ref a)]) d_Ip_pig_31 rfl (by decide) rfl ?_
      refine r_aload_n d_Ip_pig_32 rfl 1 rfl ?_
      refine r_get fs_Ip_50 d_Ip_pig_33 (q0 := 0) rfl rfl ?_
      refine r_get fs_Ip_359 d_Ip_pig_36 (q0 := 1) rfl rfl ?_
      refine r_aload_n d_Ip_pig_39 rfl 1 rfl ?_
      refine r_get fs_Ip_50 d_Ip_pig_40 (q0 := 0) rfl rfl ?_
      refine r_get fs_Ip_362 d_Ip_pig_43 (q0 := 1) rfl rfl ?_
      refine r_if_eq (tgt := 56) d_Ip_pig_46 (by decide) (fun c_46 => ?_) (fun c_46 => ?_)
      · refine r_aload_n d_Ip_pig_56 rfl 1 rfl ?_
        refine r_get fs_Ip_57 d_Ip_pig_57 (q0 := 0) rfl rfl ?_
        refine r_iload_n d_Ip_pig_60 rfl 0 rfl ?_
        refine r_callV (As := [.ref gy, .int ir]) (rest := []) (csC := [(lab, .inr (6, [.ref labg, .int ir])), (labg, .inl (3, 4, .inr (.inl gr))), (gy, .inr (6, [.ref gyg, .int i1])), (gyg, .inl (3, 4, .inr (.inl g1)))]) (is := [2, 3, 4, 5]) (q0 := 2) rfl rfl ln_Ip_282 w_im_Me_moveTo w_se_Me_moveTo ok_Ip_pig_Me_moveTo d_Ip_pig_61 (C_Me_moveToN g lab labg gr ir gy gyg g1 i1 ir h0) rfl rfl (Nat.le_of_ble_eq_true rfl) rfl (by decide) (by omega) (by omega) (fun E cs1 hx => ?_) (fun v cs1 hx => ?_)
        · exact absurd hx.1 (by simp)
        · obtain ⟨e1, rfl⟩ := hx
          cases e1
          refine ⟨rfl, ?_⟩
          refine r_st (st2 := []) rfl ?_
          refine r_cs (cs2 := [(a, .inr (11, [.ref pa, .ref ta, .ref sa, .ref gs, .ref co, .ref fu, .ref la, .ref gy, .ref du, .ref re, .ref wm, .ref ac])), (la, .inr (5, [.ref lab, .int he, .int mg, .int wd])), (lab, .inr (6, [.ref labg, .int (ir - ir)])), (labg, .inl (3, 4, .inr (.inl (mvS gr ir ir 4)))), (gy, .inr (6, [.ref gyg, .int (i1 + ir)])), (gyg, .inl (3, 4, .inr (.inl (mvT gr ir ir g1 4)))), (du, .inr (6, [.ref dug, .int i2])), (dug, .inl (3, 4, .inr (.inl g2)))]) rfl ?_
          refine r_iload_n d_Ip_pig_64 rfl 0 rfl ?_
          refine r_iret d_Ip_pig_65 rfl rfl ?_
          exact ⟨rfl, rfl⟩
      · exact absurd hw c_46
    · exact absurd (z_b1 c_7) he0
theorem d_Ip_pig_49 : decode prog_1_method_30_code 49 = .ok (.aload_n 0, 1) := zo_42 (zd_b zq_prog_1_method_30_code_1 17 rfl rfl rfl)
theorem d_Ip_pig_50 : decode prog_1_method_30_code 50 = .ok (.getfield 61, 3) := zo_180 (d := 0) (e := 61) (zd_b zq_prog_1_method_30_code_1 18 rfl rfl rfl) (zd_b zq_prog_1_method_30_code_1 19 rfl rfl rfl) (zd_b zq_prog_1_method_30_code_1 20 rfl rfl rfl)
theorem fs_Ip_61 : z_fs "Ironpour" 61 11 8 := ⟨R_Ip, "Ironpour", F_Ip, 12, rfl, u_Ip, by decide, Or.inl ⟨z_mj2 (i := 71) rfl (by decide +kernel), Or.inl rfl⟩⟩
theorem d_Ip_pig_53 : decode prog_1_method_30_code 53 = .ok (.goto 7, 3) := zo_167 (d := 0) (e := 7) (zd_b zq_prog_1_method_30_code_1 21 rfl rfl rfl) (zd_b zq_prog_1_method_30_code_1 22 rfl rfl rfl) (zd_b zq_prog_1_method_30_code_1 23 rfl rfl rfl) (by decide +kernel)
set_option maxHeartbeats 4000000 in
set_option maxRecDepth 100000 in
theorem C_Ip_pigD (g : zG) (a pa ta sa gs co fu la gy du re wm ac : Nat) (lab labg gyg dug : Nat) (gr g1 g2 : Nat → Int64) (he mg wd ir i1 i2 : Int32) (he0 : ¬ ir = 0) (h0 : ¬ ir ≤ 0) (hw : ¬ wd = 0) : CT g M_Ip_pig [.ref a] [(a, .inr (11, [.ref pa, .ref ta, .ref sa, .ref gs, .ref co, .ref fu, .ref la, .ref gy, .ref du, .ref re, .ref wm, .ref ac])), (la, .inr (5, [.ref lab, .int he, .int mg, .int wd])), (lab, .inr (6, [.ref labg, .int ir])), (labg, .inl (3, 4, .inr (.inl gr))), (gy, .inr (6, [.ref gyg, .int i1])), (gyg, .inl (3, 4, .inr (.inl g1))), (du, .inr (6, [.ref dug, .int i2])), (dug, .inl (3, 4, .inr (.inl g2)))] (fun o cs1 => o = .inl (some (.int ir)) ∧ cs1 = [(a, .inr (11, [.ref pa, .ref ta, .ref sa, .ref gs, .ref co, .ref fu, .ref la, .ref gy, .ref du, .ref re, .ref wm, .ref ac])), (la, .inr (5, [.ref lab, .int he, .int mg, .int wd])), (lab, .inr (6, [.ref labg, .int (ir - ir)])), (labg, .inl (3, 4, .inr (.inl (mvS gr ir ir 4)))), (gy, .inr (6, [.ref gyg, .int i1])), (gyg, .inl (3, 4, .inr (.inl g1))), (du, .inr (6, [.ref dug, .int (i2 + ir)])), (dug, .inl (3, 4, .inr (.inl (mvT gr ir ir g2 4))))]) 1 6 := by
  refine z_of (by decide) rfl (Nat.le_of_ble_eq_true rfl) (fun w0 => ?_)
  refine r_lvE (lv2 := [(0, .ref a)]) rfl ?_
  refine r_aload_n d_Ip_pig_0 rfl 0 rfl ?_
  refine r_get fs_Ip_50 d_Ip_pig_1 (q0 := 0) rfl rfl ?_
  refine r_callV (As := []) (rest := []) (csC := [(la, .inr (5, [.ref lab, .int he, .int mg, .int wd])), (lab, .inr (6, [.ref labg, .int ir])), (labg, .inl (3, 4, .inr (.inl gr)))]) (is := [1, 2, 3]) (q0 := 1) rfl rfl ln_Ip_314 w_im_La_isEmpty w_se_La_isEmpty ok_Ip_pig_La_isEmpty d_Ip_pig_4 (C_La_isEmpty g la lab labg gr he mg wd ir) rfl rfl (Nat.le_of_ble_eq_true rfl) rfl (by decide) (by omega) (by omega) (fun E cs1 hx => ?_) (fun v cs1 hx => ?_)
  · exact absurd hx.1 (by simp)
  · obtain ⟨e1, rfl⟩ := hx
    cases e1
    refine ⟨rfl, ?_⟩
    refine r_st (st2 := [.int (if ir = 0 then 1 else 0)]) rfl ?_
    refine r_cs (cs2 := [(a, .inr (11, [.ref pa, .ref ta, .ref sa, .ref gs, .ref co, .ref fu, .ref la, .ref gy, .ref du, .ref re, .ref wm, .ref ac])), (la, .inr (5, [.ref lab, .int he, .int mg, .int wd])), (lab, .inr (6, [.ref labg, .int ir])), (labg, .inl (3, 4, .inr (.inl gr))), (gy, .inr (6, [.ref gyg, .int i1])), (gyg, .inl (3, 4, .inr (.inl g1))), (du, .inr (6, [.ref dug, .int i2])), (dug, .inl (3, 4, .inr (.inl g2)))]) rfl ?_
    refine r_if_eq (tgt := 21) d_Ip_pig_7 (by decide) (fun c_7 => ?_) (fun c_7 => ?_)
    · refine r_aload_n d_Ip_pig_21 rfl 0 rfl ?_
      refine r_get fs_Ip_50 d_Ip_pig_22 (q0 := 0) rfl rfl ?_
      refine r_get fs_Ip_359 d_Ip_pig_25 (q0 := 1) rfl rfl ?_
      refine r_get fs_Ip_269 d_Ip_pig_28 (q0 := 2) rfl rfl ?_
      refine r_istore_n (lv' := [(1, .int ir), (0, .ref a)]) d_Ip_pig_31 rfl (by decide) rfl ?_
      refine r_aload_n d_Ip_pig_32 rfl 1 rfl ?_
      refine r_get fs_Ip_50 d_Ip_pig_33 (q0 := 0) rfl rfl ?_
      refine r_get fs_Ip_359 d_Ip_pig_36 (q0 := 1) rfl rfl ?_
      refine r_aload_n d_Ip_pig_39 rfl 1 rfl ?_
      refine r_get fs_Ip_50 d_Ip_pig_40 (q0 := 0) rfl rfl ?_
      refine r_get fs_Ip_362 d_Ip_pig_43 (q0 := 1) rfl rfl ?_
      refine r_if_eq (tgt := 56) d_Ip_pig_46 (by decide) (fun c_46 => ?_) (fun c_46 => ?_)
      · exact absurd c_46 hw
      · refine r_aload_n d_Ip_pig_49 rfl 1 rfl ?_
        refine r_get fs_Ip_61 d_Ip_pig_50 (q0 := 0) rfl rfl ?_
        refine r_goto (tgt := 60) d_Ip_pig_53 (by decide) ?_
        refine r_iload_n d_Ip_pig_60 rfl 0 rfl ?_
        refine r_callV (As := [.ref du, .int ir]) (rest := []) (csC := [(lab, .inr (6, [.ref labg, .int ir])), (labg, .inl (3, 4, .inr (.inl gr))), (du, .inr (6, [.ref dug, .int i2])), (dug, .inl (3, 4, .inr (.inl g2)))]) (is := [2, 3, 6, 7]) (q0 := 2) rfl rfl ln_Ip_282 w_im_Me_moveTo w_se_Me_moveTo ok_Ip_pig_Me_moveTo d_Ip_pig_61 (C_Me_moveToN g lab labg gr ir du dug g2 i2 ir h0) rfl rfl (Nat.le_of_ble_eq_true rfl) rfl (by decide) (by omega) (by omega) (fun E cs1 hx => ?_) (fun v cs1 hx => ?_)
        · exact absurd hx.1 (by simp)
        · obtain ⟨e1, rfl⟩ := hx
          cases e1
          refine ⟨rfl, ?_⟩
          refine r_st (st2 := []) rfl ?_
          refine r_cs (cs2 := [(a, .inr (11, [.ref pa, .ref ta, .ref sa, .ref gs, .ref co, .ref fu, .ref la, .ref gy, .ref du, .ref re, .ref wm, .ref ac])), (la, .inr (5, [.ref lab, .int he, .int mg, .int wd])), (lab, .inr (6, [.ref labg, .int (ir - ir)])), (labg, .inl (3, 4, .inr (.inl (mvS gr ir ir 4)))), (gy, .inr (6, [.ref gyg, .int i1])), (gyg, .inl (3, 4, .inr (.inl g1))), (du, .inr (6, [.ref dug, .int (i2 + ir)])), (dug, .inl (3, 4, .inr (.inl (mvT gr ir ir g2 4))))]) rfl ?_
          refine r_iload_n d_Ip_pig_64 rfl 0 rfl ?_
          refine r_iret d_Ip_pig_65 rfl rfl ?_
          exact ⟨rfl, rfl⟩
    · exact absurd (z_b1 c_7) he0
