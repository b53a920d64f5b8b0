theorem ok_Ip_charge_Ip_isWithin : z_ok M_Ip_charge M_Ip_isWithin 3 := ⟨z_mj4 (i := 97) rfl (by decide +kernel), rfl, ⟨by decide +kernel, by decide +kernel, by decide +kernel⟩, ⟨by decide, by decide⟩, z_mj1 (i := 1) rfl (by decide +kernel), rfl⟩
theorem d_Ip_charge_18 : decode prog_1_method_23_code 18 = .ok (.ifCond .ne 14, 3) := zo_154 (d := 0) (e := 14) (zd_b zq_prog_1_method_23_code_0 18 rfl rfl rfl) (zd_b zq_prog_1_method_23_code_0 19 rfl rfl rfl) (zd_b zq_prog_1_method_23_code_0 20 rfl rfl rfl) (by decide +kernel)
set_option maxHeartbeats 4000000 in
set_option maxRecDepth 100000 in
theorem C_Ip_chargeE (g : zG) (a pa ta sa gs co fu la gy du re wm ac : Nat) (lab labg gyg dug fub fubg fut1 fut2 fut3 : Nat) (gr T1 T2 T3 g1 g2 : Nat → Int64) (ir i1 i2 : Int32) (io : Int64) (m : Int32) (k : Int32) (hw : ¬ (0 ≤ z_ix 1 k ∧ (1 ≤ m ∧ m ≤ 1000))) : CT g M_Ip_charge [.ref a, .int k, .int m] [(a, .inr (11, [.ref pa, .ref ta, .ref sa, .ref gs, .ref co, .ref fu, .ref la, .ref gy, .ref du, .ref re, .ref wm, .ref ac])), (fu, .inr (3, [.ref fub, .ref fut1, .ref fut2, .ref fut3, .long io])), (fub, .inr (6, [.ref fubg, .int ir])), (fubg, .inl (3, 4, .inr (.inl gr))), (fut1, .inl (3, 4, .inr (.inl T1))), (fut2, .inl (3, 4, .inr (.inl T2))), (fut3, .inl (3, 4, .inr (.inl T3))), (gy, .inr (6, [.ref gyg, .int i1])), (gyg, .inl (3, 4, .inr (.inl g1))), (du, .inr (6, [.ref dug, .int i2])), (dug, .inl (3, 4, .inr (.inl g2)))] (fun o cs1 => o = .inr "java/lang/IllegalArgumentException" ∧ cs1 = [(a, .inr (11, [.ref pa, .ref ta, .ref sa, .ref gs, .ref co, .ref fu, .ref la, .ref gy, .ref du, .ref re, .ref wm, .ref ac])), (fu, .inr (3, [.ref fub, .ref fut1, .ref fut2, .ref fut3, .long io])), (fub, .inr (6, [.ref fubg, .int ir])), (fubg, .inl (3, 4, .inr (.inl gr))), (fut1, .inl (3, 4, .inr (.inl T1))), (fut2, .inl (3, 4, .inr (.inl T2))), (fut3, .inl (3, 4, .inr (.inl T3))), (gy, .inr (6, [.ref gyg, .int i1])), (gyg, .inl (3, 4, .inr (.inl g1))), (du, .inr (6, [.ref dug, .int i2])), (dug, .inl (3, 4, .inr (.inl g2)))]) 1 6 := by
  refine z_of (by decide) rfl (Nat.le_of_ble_eq_true rfl) (fun w0 => ?_)
  refine r_lvE (lv2 := [(0, .ref a), (1, .int k), (2, .int m)]) rfl ?_
  refine r_ldcWS (own := "Ironpour") (i := 1) (by decide) d_Ip_charge_0 ?_
  refine r_iload_n d_Ip_charge_3 rfl 1 rfl ?_
  refine r_callVS (As := [.int k]) (rest := []) (csC := []) (is := []) (i := 1) (by first | assumption | decide) rfl ln_Ip_83 w_im_String_indexOf_0 w_se_String_indexOf_0 ok_Ip_charge_String_indexOf_0 d_Ip_charge_4 (C_St_indexOf g 1 (by decide) k) rfl rfl (Nat.le_of_ble_eq_true rfl) rfl (by decide) (by omega) (by omega) (fun E cs1 hx => ?_) (fun v cs1 hx => ?_)
  · exact absurd hx.1 (by simp)
  · obtain ⟨e1, rfl⟩ := hx
    cases e1
    refine ⟨rfl, ?_⟩
    refine r_st (st2 := [.int (z_ix 1 k)]) rfl ?_
    refine r_cs (cs2 := [(a, .inr (11, [.ref pa, .ref ta, .ref sa, .ref gs, .ref co, .ref fu, .ref la, .ref gy, .ref du, .ref re, .ref wm, .ref ac])), (fu, .inr (3, [.ref fub, .ref fut1, .ref fut2, .ref fut3, .long io])), (fub, .inr (6, [.ref fubg, .int ir])), (fubg, .inl (3, 4, .inr (.inl gr))), (fut1, .inl (3, 4, .inr (.inl T1))), (fut2, .inl (3, 4, .inr (.inl T2))), (fut3, .inl (3, 4, .inr (.inl T3))), (gy, .inr (6, [.ref gyg, .int i1])), (gyg, .inl (3, 4, .inr (.inl g1))), (du, .inr (6, [.ref dug, .int i2])), (dug, .inl (3, 4, .inr (.inl g2)))]) rfl ?_
    refine r_if_lt (tgt := 21) d_Ip_charge_7 (by decide) (fun c_7 => ?_) (fun c_7 => ?_)
    · refine r_throwW tb_Ip_89_93 sr_Ip_263 d_Ip_charge_21 d_Ip_charge_24 d_Ip_charge_25 d_Ip_charge_28 d_Ip_charge_31 rfl (by decide) (by decide) (Nat.le_of_ble_eq_true rfl) (by omega) (by omega) ?_
      exact ⟨rfl, rfl⟩
    · refine r_iload_n d_Ip_charge_10 rfl 2 rfl ?_
      refine r_iconst d_Ip_charge_11 (v := 1) (by decide) ?_
      refine r_sipush d_Ip_charge_12 (v := 1000) (by decide) ?_
      refine r_callS (As := [.int m, .int 1, .int 1000]) (rest := []) (csC := []) (is := []) ln_Ip_203 w_st_Ip_isWithin ok_Ip_charge_Ip_isWithin d_Ip_charge_15 (C_Ip_isWithin g m 1 1000) rfl rfl (Nat.le_of_ble_eq_true rfl) rfl (by decide) (by omega) (by omega) (fun E cs1 hx => ?_) (fun v cs1 hx => ?_)
      · exact absurd hx.1 (by simp)
      · obtain ⟨e1, rfl⟩ := hx
        cases e1
        refine ⟨rfl, ?_⟩
        refine r_st (st2 := [.int (if 1 ≤ m ∧ m ≤ 1000 then 1 else 0)]) rfl ?_
        refine r_cs (cs2 := [(a, .inr (11, [.ref pa, .ref ta, .ref sa, .ref gs, .ref co, .ref fu, .ref la, .ref gy, .ref du, .ref re, .ref wm, .ref ac])), (fu, .inr (3, [.ref fub, .ref fut1, .ref fut2, .ref fut3, .long io])), (fub, .inr (6, [.ref fubg, .int ir])), (fubg, .inl (3, 4, .inr (.inl gr))), (fut1, .inl (3, 4, .inr (.inl T1))), (fut2, .inl (3, 4, .inr (.inl T2))), (fut3, .inl (3, 4, .inr (.inl T3))), (gy, .inr (6, [.ref gyg, .int i1])), (gyg, .inl (3, 4, .inr (.inl g1))), (du, .inr (6, [.ref dug, .int i2])), (dug, .inl (3, 4, .inr (.inl g2)))]) rfl ?_
        refine r_if_ne (tgt := 32) d_Ip_charge_18 (by decide) (fun c_18 => ?_) (fun c_18 => ?_)
        · exact absurd ⟨Int32.not_lt.mp c_7, z_b1 c_18⟩ hw
        · refine r_throwW tb_Ip_89_93 sr_Ip_263 d_Ip_charge_21 d_Ip_charge_24 d_Ip_charge_25 d_Ip_charge_28 d_Ip_charge_31 rfl (by decide) (by decide) (Nat.le_of_ble_eq_true rfl) (by omega) (by omega) ?_
          exact ⟨rfl, rfl⟩
theorem d_Ip_charge_32 : decode prog_1_method_23_code 32 = .ok (.aload_n 0, 1) := zo_42 (zd_b zq_prog_1_method_23_code_1 0 rfl rfl rfl)
theorem d_Ip_charge_33 : decode prog_1_method_23_code 33 = .ok (.iload_n 1, 1) := zo_27 (zd_b zq_prog_1_method_23_code_1 1 rfl rfl rfl)
theorem d_Ip_charge_34 : decode prog_1_method_23_code 34 = .ok (.invokevirtual 265, 3) := zo_182 (d := 1) (e := 9) (zd_b zq_prog_1_method_23_code_1 2 rfl rfl rfl) (zd_b zq_prog_1_method_23_code_1 3 rfl rfl rfl) (zd_b zq_prog_1_method_23_code_1 4 rfl rfl rfl)
theorem ok_Ip_charge_Ip_poolOf : z_ok M_Ip_charge M_Ip_poolOf 1 := ⟨z_mj5 (i := 27) rfl (by decide +kernel), rfl, ⟨by decide +kernel, by decide +kernel, by decide +kernel⟩, ⟨by decide, by decide⟩, z_mj1 (i := 1) rfl (by decide +kernel), rfl⟩
theorem d_Ip_charge_37 : decode prog_1_method_23_code 37 = .ok (.astore_n 3, 1) := zo_78 (zd_b zq_prog_1_method_23_code_1 5 rfl rfl rfl)
theorem d_Ip_charge_38 : decode prog_1_method_23_code 38 = .ok (.aload_n 3, 1) := zo_45 (zd_b zq_prog_1_method_23_code_1 6 rfl rfl rfl)
theorem d_Ip_charge_39 : decode prog_1_method_23_code 39 = .ok (.ifnull 22, 3) := zo_198 (d := 0) (e := 22) (zd_b zq_prog_1_method_23_code_1 7 rfl rfl rfl) (zd_b zq_prog_1_method_23_code_1 8 rfl rfl rfl) (zd_b zq_prog_1_method_23_code_1 9 rfl rfl rfl) (by decide +kernel)
theorem d_Ip_charge_61 : decode prog_1_method_23_code 61 = .ok (.iload_n 1, 1) := zo_27 (zd_b zq_prog_1_method_23_code_1 29 rfl rfl rfl)
theorem d_Ip_charge_62 : decode prog_1_method_23_code 62 = .ok (.bipush 107, 2) := zo_16 (d := 107) (zd_b zq_prog_1_method_23_code_1 30 rfl rfl rfl) (zd_b zq_prog_1_method_23_code_1 31 rfl rfl rfl) (by decide +kernel)
theorem d_Ip_charge_64 : decode prog_1_method_23_code 64 = .ok (.if_icmp .ne 7, 3) := zo_160 (d := 0) (e := 7) (zd_b zq_prog_1_method_23_code_2 0 rfl rfl rfl) (zd_b zq_prog_1_method_23_code_2 1 rfl rfl rfl) (zd_b zq_prog_1_method_23_code_2 2 rfl rfl rfl) (by decide +kernel)
theorem d_Ip_charge_71 : decode prog_1_method_23_code 71 = .ok (.iload_n 2, 1) := zo_28 (zd_b zq_prog_1_method_23_code_2 7 rfl rfl rfl)
theorem d_Ip_charge_72 : decode prog_1_method_23_code 72 = .ok (.istore 4, 2) := zo_54 (d := 4) (zd_b zq_prog_1_method_23_code_2 8 rfl rfl rfl) (zd_b zq_prog_1_method_23_code_2 9 rfl rfl rfl)
theorem d_Ip_charge_74 : decode prog_1_method_23_code 74 = .ok (.aload_n 0, 1) := zo_42 (zd_b zq_prog_1_method_23_code_2 10 rfl rfl rfl)
theorem d_Ip_charge_75 : decode prog_1_method_23_code 75 = .ok (.getfield 43, 3) := zo_180 (d := 0) (e := 43) (zd_b zq_prog_1_method_23_code_2 11 rfl rfl rfl) (zd_b zq_prog_1_method_23_code_2 12 rfl rfl rfl) (zd_b zq_prog_1_method_23_code_2 13 rfl rfl rfl)
theorem d_Ip_charge_78 : decode prog_1_method_23_code 78 = .ok (.getfield 277, 3) := zo_180 (d := 1) (e := 21) (zd_b zq_prog_1_method_23_code_2 14 rfl rfl rfl) (zd_b zq_prog_1_method_23_code_2 15 rfl rfl rfl) (zd_b zq_prog_1_method_23_code_2 16 rfl rfl rfl)
theorem d_Ip_charge_81 : decode prog_1_method_23_code 81 = .ok (.getfield 269, 3) := zo_180 (d := 1) (e := 13) (zd_b zq_prog_1_method_23_code_2 17 rfl rfl rfl) (zd_b zq_prog_1_method_23_code_2 18 rfl rfl rfl) (zd_b zq_prog_1_method_23_code_2 19 rfl rfl rfl)
theorem d_Ip_charge_84 : decode prog_1_method_23_code 84 = .ok (.iload 4, 2) := zo_21 (d := 4) (zd_b zq_prog_1_method_23_code_2 20 rfl rfl rfl) (zd_b zq_prog_1_method_23_code_2 21 rfl rfl rfl)
theorem d_Ip_charge_86 : decode prog_1_method_23_code 86 = .ok (.iadd, 1) := zo_96 (zd_b zq_prog_1_method_23_code_2 22 rfl rfl rfl)
theorem d_Ip_charge_87 : decode prog_1_method_23_code 87 = .ok (.sipush 3000, 3) := zo_17 (d := 11) (e := 184) (zd_b zq_prog_1_method_23_code_2 23 rfl rfl rfl) (zd_b zq_prog_1_method_23_code_2 24 rfl rfl rfl) (zd_b zq_prog_1_method_23_code_2 25 rfl rfl rfl) (by decide +kernel)
theorem d_Ip_charge_90 : decode prog_1_method_23_code 90 = .ok (.if_icmp .le 14, 3) := zo_164 (d := 0) (e := 14) (zd_b zq_prog_1_method_23_code_2 26 rfl rfl rfl) (zd_b zq_prog_1_method_23_code_2 27 rfl rfl rfl) (zd_b zq_prog_1_method_23_code_2 28 rfl rfl rfl) (by decide +kernel)
theorem d_Ip_charge_93 : decode prog_1_method_23_code 93 = .ok (.new 242, 3) := zo_187 (d := 0) (e := 242) (zd_b zq_prog_1_method_23_code_2 29 rfl rfl rfl) (zd_b zq_prog_1_method_23_code_2 30 rfl rfl rfl) (zd_b zq_prog_1_method_23_code_2 31 rfl rfl rfl)
theorem sr_Ip_280 : Cond.stringRef "Ironpour" 280 "the furnace takes 3000 kilograms" ∈ lw_tbl := z_tb5 (i := 44) rfl
theorem d_Ip_charge_96 : decode prog_1_method_23_code 96 = .ok (.dup, 1) := zo_89 (zd_b zq_prog_1_method_23_code_3 0 rfl rfl rfl)
theorem d_Ip_charge_97 : decode prog_1_method_23_code 97 = .ok (.ldc_w 280, 3) := zo_19 (d := 1) (e := 24) (zd_b zq_prog_1_method_23_code_3 1 rfl rfl rfl) (zd_b zq_prog_1_method_23_code_3 2 rfl rfl rfl) (zd_b zq_prog_1_method_23_code_3 3 rfl rfl rfl)
theorem d_Ip_charge_100 : decode prog_1_method_23_code 100 = .ok (.invokespecial 246, 3) := zo_183 (d := 0) (e := 246) (zd_b zq_prog_1_method_23_code_3 4 rfl rfl rfl) (zd_b zq_prog_1_method_23_code_3 5 rfl rfl rfl) (zd_b zq_prog_1_method_23_code_3 6 rfl rfl rfl)
theorem d_Ip_charge_103 : decode prog_1_method_23_code 103 = .ok (.athrow, 1) := zo_191 (zd_b zq_prog_1_method_23_code_3 7 rfl rfl rfl)
set_option maxHeartbeats 4000000 in
set_option maxRecDepth 100000 in
theorem C_Ip_charge112G (g : zG) (a pa ta sa gs co fu la gy du re wm ac : Nat) (lab labg gyg dug fub fubg fut1 fut2 fut3 : Nat) (gr T1 T2 T3 g1 g2 : Nat → Int64) (ir i1 i2 : Int32) (io : Int64) (m : Int32) (hw : (1 ≤ m ∧ m ≤ 1000)) (hg : 3000 < ir + m) : CT g M_Ip_charge [.ref a, .int 112, .int m] [(a, .inr (11, [.ref pa, .ref ta, .ref sa, .ref gs, .ref co, .ref fu, .ref la, .ref gy, .ref du, .ref re, .ref wm, .ref ac])), (fu, .inr (3, [.ref fub, .ref fut1, .ref fut2, .ref fut3, .long io])), (fub, .inr (6, [.ref fubg, .int ir])), (fubg, .inl (3, 4, .inr (.inl gr))), (fut1, .inl (3, 4, .inr (.inl T1))), (fut2, .inl (3, 4, .inr (.inl T2))), (fut3, .inl (3, 4, .inr (.inl T3))), (gy, .inr (6, [.ref gyg, .int i1])), (gyg, .inl (3, 4, .inr (.inl g1))), (du, .inr (6, [.ref dug, .int i2])), (dug, .inl (3, 4, .inr (.inl g2)))] (fun o cs1 => o = .inr "java/lang/IllegalStateException" ∧ cs1 = [(a, .inr (11, [.ref pa, .ref ta, .ref sa, .ref gs, .ref co, .ref fu, .ref la, .ref gy, .ref du, .ref re, .ref wm, .ref ac])), (fu, .inr (3, [.ref fub, .ref fut1, .ref fut2, .ref fut3, .long io])), (fub, .inr (6, [.ref fubg, .int ir])), (fubg, .inl (3, 4, .inr (.inl gr))), (fut1, .inl (3, 4, .inr (.inl T1))), (fut2, .inl (3, 4, .inr (.inl T2))), (fut3, .inl (3, 4, .inr (.inl T3))), (gy, .inr (6, [.ref gyg, .int i1])), (gyg, .inl (3, 4, .inr (.inl g1))), (du, .inr (6, [.ref dug, .int i2])), (dug, .inl (3, 4, .inr (.inl g2)))]) 1 6 := by
  refine z_of (by decide) rfl (Nat.le_of_ble_eq_true rfl) (fun w0 => ?_)
  refine r_lvE (lv2 := [(0, .ref a), (1, .int 112), (2, .int m)]) rfl ?_
  refine r_ldcWS (own := "Ironpour") (i := 1) (by decide) d_Ip_charge_0 ?_
  refine r_iload_n d_Ip_charge_3 rfl 1 rfl ?_
  refine r_callVS (As := [.int 112]) (rest := []) (csC := []) (is := []) (i := 1) (by first | assumption | decide) rfl ln_Ip_83 w_im_String_indexOf_0 w_se_String_indexOf_0 ok_Ip_charge_String_indexOf_0 d_Ip_charge_4 (C_St_indexOf g 1 (by decide) 112) rfl rfl (Nat.le_of_ble_eq_true rfl) rfl (by decide) (by omega) (by omega) (fun E cs1 hx => ?_) (fun v cs1 hx => ?_)
  · exact absurd hx.1 (by simp)
  · obtain ⟨e1, rfl⟩ := hx
    cases e1
    refine ⟨rfl, ?_⟩
    refine r_st (st2 := [.int (z_ix 1 112)]) rfl ?_
    refine r_cs (cs2 := [(a, .inr (11, [.ref pa, .ref ta, .ref sa, .ref gs, .ref co, .ref fu, .ref la, .ref gy, .ref du, .ref re, .ref wm, .ref ac])), (fu, .inr (3, [.ref fub, .ref fut1, .ref fut2, .ref fut3, .long io])), (fub, .inr (6, [.ref fubg, .int ir])), (fubg, .inl (3, 4, .inr (.inl gr))), (fut1, .inl (3, 4, .inr (.inl T1))), (fut2, .inl (3, 4, .inr (.inl T2))), (fut3, .inl (3, 4, .inr (.inl T3))), (gy, .inr (6, [.ref gyg, .int i1])), (gyg, .inl (3, 4, .inr (.inl g1))), (du, .inr (6, [.ref dug, .int i2])), (dug, .inl (3, 4, .inr (.inl g2)))]) rfl ?_
    refine r_if_lt (tgt := 21) d_Ip_charge_7 (by decide) (fun c_7 => ?_) (fun c_7 => ?_)
    · exact absurd c_7 (by decide)
    · refine r_iload_n d_Ip_charge_10 rfl 2 rfl ?_
      refine r_iconst d_Ip_charge_11 (v := 1) (by decide) ?_
      refine r_sipush d_Ip_charge_12 (v := 1000) (by decide) ?_
      refine r_callS (As := [.int m, .int 1, .int 1000]) (rest := []) (csC := []) (is := []) ln_Ip_203 w_st_Ip_isWithin ok_Ip_charge_Ip_isWithin d_Ip_charge_15 (C_Ip_isWithin g m 1 1000) rfl rfl (Nat.le_of_ble_eq_true rfl) rfl (by decide) (by omega) (by omega) (fun E cs1 hx => ?_) (fun v cs1 hx => ?_)
      · exact absurd hx.1 (by simp)
      · obtain ⟨e1, rfl⟩ := hx
        cases e1
        refine ⟨rfl, ?_⟩
        refine r_st (st2 := [.int (if 1 ≤ m ∧ m ≤ 1000 then 1 else 0)]) rfl ?_
        refine r_cs (cs2 := [(a, .inr (11, [.ref pa, .ref ta, .ref sa, .ref gs, .ref co, .ref fu, .ref la, .ref gy, .ref du, .ref re, .ref wm, .ref ac])), (fu, .inr (3, [.ref fub, .ref fut1, .ref fut2, .ref fut3, .long io])), (fub, .inr (6, [.ref fubg, .int ir])), (fubg, .inl (3, 4, .inr (.inl gr))), (fut1, .inl (3, 4, .inr (.inl T1))), (fut2, .inl (3, 4, .inr (.inl T2))), (fut3, .inl (3, 4, .inr (.inl T3))), (gy, .inr (6, [.ref gyg, .int i1])), (gyg, .inl (3, 4, .inr (.inl g1))), (du, .inr (6, [.ref dug, .int i2])), (dug, .inl (3, 4, .inr (.inl g2)))]) rfl ?_
        refine r_if_ne (tgt := 32) d_Ip_charge_18 (by decide) (fun c_18 => ?_) (fun c_18 => ?_)
        · refine r_aload_n d_Ip_charge_32 rfl 0 rfl ?_
          refine r_iload_n d_Ip_charge_33 rfl 1 rfl ?_
          refine r_callV (As := [.int 112]) (rest := []) (csC := [(a, .inr (11, [.ref pa, .ref ta, .ref sa, .ref gs, .ref co, .ref fu, .ref la, .ref gy, .ref du, .ref re, .ref wm, .ref ac]))]) (is := [0]) (q0 := 0) rfl rfl ln_Ip_265 w_im_Ip_poolOf w_se_Ip_poolOf ok_Ip_charge_Ip_poolOf d_Ip_charge_34 (C_Ip_poolOfO g a pa ta sa gs co fu la gy du re wm ac 112 (by decide) (by decide)) rfl rfl (Nat.le_of_ble_eq_true rfl) rfl (by decide) (by omega) (by omega) (fun E cs1 hx => ?_) (fun v cs1 hx => ?_)
          · exact absurd hx.1 (by simp)
          · obtain ⟨e1, rfl⟩ := hx
            cases e1
            refine ⟨rfl, ?_⟩
            refine r_st (st2 := [.null]) rfl ?_
            refine r_cs (cs2 := [(a, .inr (11, [.ref pa, .ref ta, .ref sa, .ref gs, .ref co, .ref fu, .ref la, .ref gy, .ref du, .ref re, .ref wm, .ref ac])), (fu, .inr (3, [.ref fub, .ref fut1, .ref fut2, .ref fut3, .long io])), (fub, .inr (6, [.ref fubg, .int ir])), (fubg, .inl (3, 4, .inr (.inl gr))), (fut1, .inl (3, 4, .inr (.inl T1))), (fut2, .inl (3, 4, .inr (.inl T2))), (fut3, .inl (3, 4, .inr (.inl T3))), (gy, .inr (6, [.ref gyg, .int i1])), (gyg, .inl (3, 4, .inr (.inl g1))), (du, .inr (6, [.ref dug, .int i2])), (dug, .inl (3, 4, .inr (.inl g2)))]) rfl ?_
            refine r_astore_nN (lv' := [(3, .null), (0, .ref a), (1, .int 112), (2, .int m)]) d_Ip_charge_37 rfl (by decide) rfl ?_
            refine r_aload_nN d_Ip_charge_38 rfl 0 rfl ?_
            refine r_ifnullN (tgt := 61) d_Ip_charge_39 (by decide) ?_
            refine r_iload_n d_Ip_charge_61 rfl 2 rfl ?_
            refine r_bipush d_Ip_charge_62 (v := 107) (by decide) ?_
            refine r_icmp_ne (tgt := 71) d_Ip_charge_64 (by decide) (fun c_64 => ?_) (fun c_64 => ?_)
            · refine r_iload_n d_Ip_charge_71 rfl 3 rfl ?_
              refine r_istore (lv' := [(4, .int m), (3, .null), (0, .ref a), (1, .int 112), (2, .int m)]) d_Ip_charge_72 (by decide) rfl ?_
              refine r_aload_n d_Ip_charge_74 rfl 2 rfl ?_
              refine r_get fs_Ip_43 d_Ip_charge_75 (q0 := 0) rfl rfl ?_
              refine r_get fs_Ip_277 d_Ip_charge_78 (q0 := 1) rfl rfl ?_
              refine r_get fs_Ip_269 d_Ip_charge_81 (q0 := 2) rfl rfl ?_
              refine r_iload d_Ip_charge_84 0 rfl ?_
              refine r_iadd d_Ip_charge_86 (v := ir + m) rfl ?_
              refine r_sipush d_Ip_charge_87 (v := 3000) (by decide) ?_
              refine r_icmp_le (tgt := 104) d_Ip_charge_90 (by decide) (fun c_90 => ?_) (fun c_90 => ?_)
              · exact absurd hg (Int32.not_lt.mpr c_90)
              · refine r_throwW tb_Ip_242_246 sr_Ip_280 d_Ip_charge_93 d_Ip_charge_96 d_Ip_charge_97 d_Ip_charge_100 d_Ip_charge_103 rfl (by decide) (by decide) (Nat.le_of_ble_eq_true rfl) (by omega) (by omega) ?_
                exact ⟨rfl, rfl⟩
            · exact absurd c_64 (by decide)
        · exact absurd hw (z_b0 c_18)
theorem d_Ip_charge_104 : decode prog_1_method_23_code 104 = .ok (.aload_n 3, 1) := zo_45 (zd_b zq_prog_1_method_23_code_3 8 rfl rfl rfl)
theorem d_Ip_charge_105 : decode prog_1_method_23_code 105 = .ok (.ifnull 18, 3) := zo_198 (d := 0) (e := 18) (zd_b zq_prog_1_method_23_code_3 9 rfl rfl rfl) (zd_b zq_prog_1_method_23_code_3 10 rfl rfl rfl) (zd_b zq_prog_1_method_23_code_3 11 rfl rfl rfl) (by decide +kernel)
theorem d_Ip_charge_123 : decode prog_1_method_23_code 123 = .ok (.aload_n 0, 1) := zo_42 (zd_b zq_prog_1_method_23_code_3 27 rfl rfl rfl)
theorem d_Ip_charge_124 : decode prog_1_method_23_code 124 = .ok (.getfield 43, 3) := zo_180 (d := 0) (e := 43) (zd_b zq_prog_1_method_23_code_3 28 rfl rfl rfl) (zd_b zq_prog_1_method_23_code_3 29 rfl rfl rfl) (zd_b zq_prog_1_method_23_code_3 30 rfl rfl rfl)
theorem d_Ip_charge_127 : decode prog_1_method_23_code 127 = .ok (.iload_n 2, 1) := zo_28 (zd_b zq_prog_1_method_23_code_3 31 rfl rfl rfl)
theorem d_Ip_charge_128 : decode prog_1_method_23_code 128 = .ok (.iload 4, 2) := zo_21 (d := 4) (zd_b zq_prog_1_method_23_code_4 0 rfl rfl rfl) (zd_b zq_prog_1_method_23_code_4 1 rfl rfl rfl)
theorem d_Ip_charge_130 : decode prog_1_method_23_code 130 = .ok (.iload_n 1, 1) := zo_27 (zd_b zq_prog_1_method_23_code_4 2 rfl rfl rfl)
theorem d_Ip_charge_131 : decode prog_1_method_23_code 131 = .ok (.invokestatic 286, 3) := zo_184 (d := 1) (e := 30) (zd_b zq_prog_1_method_23_code_4 3 rfl rfl rfl) (zd_b zq_prog_1_method_23_code_4 4 rfl rfl rfl) (zd_b zq_prog_1_method_23_code_4 5 rfl rfl rfl)
theorem ok_Ip_charge_Ip_tenthsOf : z_ok M_Ip_charge M_Ip_tenthsOf 1 := ⟨z_mj5 (i := 51) rfl (by decide +kernel), rfl, ⟨by decide +kernel, by decide +kernel, by decide +kernel⟩, ⟨by decide, by decide⟩, z_mj1 (i := 1) rfl (by decide +kernel), rfl⟩
theorem ln_Ip_286 : Cond.methodLink "Ironpour" 286 M_Ip_tenthsOf.1 ∈ z_gw := z_mj5 (i := 49) rfl (by decide +kernel)
theorem w_st_Ip_tenthsOf : Cond.static M_Ip_tenthsOf.1 ∈ z_gw := z_mj5 (i := 50) rfl (by decide +kernel)
theorem d_Ip_charge_134 : decode prog_1_method_23_code 134 = .ok (.invokevirtual 290, 3) := zo_182 (d := 1) (e := 34) (zd_b zq_prog_1_method_23_code_4 6 rfl rfl rfl) (zd_b zq_prog_1_method_23_code_4 7 rfl rfl rfl) (zd_b zq_prog_1_method_23_code_4 8 rfl rfl rfl)
theorem ok_Ip_charge_Fu_takeFromOutside : z_ok M_Ip_charge M_Fu_takeFromOutside 3 := ⟨z_mj5 (i := 63) rfl (by decide +kernel), rfl, ⟨by decide +kernel, by decide +kernel, by decide +kernel⟩, ⟨by decide, by decide⟩, z_mj1 (i := 7) rfl (by decide +kernel), rfl⟩
theorem ln_Ip_290 : Cond.methodLink "Ironpour" 290 M_Fu_takeFromOutside.1 ∈ z_gw := z_mj5 (i := 60) rfl (by decide +kernel)
theorem w_im_Fu_takeFromOutside : Cond.instanceMethod M_Fu_takeFromOutside.1 ∈ z_gw := z_mj5 (i := 61) rfl (by decide +kernel)
theorem w_se_Fu_takeFromOutside : Cond.selects M_Fu_takeFromOutside.1.cls M_Fu_takeFromOutside.1 M_Fu_takeFromOutside.1 ∈ z_gw := z_mj5 (i := 62) rfl (by decide +kernel)
theorem d_Ip_charge_137 : decode prog_1_method_23_code 137 = .ok (.aload_n 0, 1) := zo_42 (zd_b zq_prog_1_method_23_code_4 9 rfl rfl rfl)
theorem d_Ip_charge_138 : decode prog_1_method_23_code 138 = .ok (.getfield 43, 3) := zo_180 (d := 0) (e := 43) (zd_b zq_prog_1_method_23_code_4 10 rfl rfl rfl) (zd_b zq_prog_1_method_23_code_4 11 rfl rfl rfl) (zd_b zq_prog_1_method_23_code_4 12 rfl rfl rfl)
theorem d_Ip_charge_141 : decode prog_1_method_23_code 141 = .ok (.getfield 277, 3) := zo_180 (d := 1) (e := 21) (zd_b zq_prog_1_method_23_code_4 13 rfl rfl rfl) (zd_b zq_prog_1_method_23_code_4 14 rfl rfl rfl) (zd_b zq_prog_1_method_23_code_4 15 rfl rfl rfl)
theorem d_Ip_charge_144 : decode prog_1_method_23_code 144 = .ok (.getfield 269, 3) := zo_180 (d := 1) (e := 13) (zd_b zq_prog_1_method_23_code_4 16 rfl rfl rfl) (zd_b zq_prog_1_method_23_code_4 17 rfl rfl rfl) (zd_b zq_prog_1_method_23_code_4 18 rfl rfl rfl)
theorem d_Ip_charge_147 : decode prog_1_method_23_code 147 = .ok (.ireturn, 1) := zo_172 (zd_b zq_prog_1_method_23_code_4 19 rfl rfl rfl)
