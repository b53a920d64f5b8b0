set_option maxHeartbeats 4000000 in
set_option maxRecDepth 100000 in
theorem C_Ip_charge103G (g : zG) (a pa ta sa gs co fu la gy du re wm ac : Nat) (lab labg gyg dug fub fubg fut1 fut2 fut3 : Nat) (gr T1 T2 T3 g1 g2 : Nat → Int64) (ir i1 i2 : Int32) (io : Int64) (m : Int32) (hw : (1 ≤ m ∧ m ≤ 1000)) (hf : ¬ i1 < m) (hg : 3000 < ir + m) : CT g M_Ip_charge [.ref a, .int 103, .int m] [(a, .inr (11, [.ref pa, .ref ta, .ref sa, .ref gs, .ref co, .ref fu, .ref la, .ref gy, .ref du, .ref re, .ref wm, .ref ac])), (fu, .inr (3, [.ref fub, .ref fut1, .ref fut2, .ref fut3, .long io])), (fub, .inr (6, [.ref fubg, .int ir])), (fubg, .inl (3, 4, .inr (.inl gr))), (fut1, .inl (3, 4, .inr (.inl T1))), (fut2, .inl (3, 4, .inr (.inl T2))), (fut3, .inl (3, 4, .inr (.inl T3))), (gy, .inr (6, [.ref gyg, .int i1])), (gyg, .inl (3, 4, .inr (.inl g1))), (du, .inr (6, [.ref dug, .int i2])), (dug, .inl (3, 4, .inr (.inl g2)))] (fun o cs1 => o = .inr "java/lang/IllegalStateException" ∧ cs1 = [(a, .inr (11, [.ref pa, .ref ta, .ref sa, .ref gs, .ref co, .ref fu, .ref la, .ref gy, .ref du, .ref re, .ref wm, .ref ac])), (fu, .inr (3, [.ref fub, .ref fut1, .ref fut2, .ref fut3, .long io])), (fub, .inr (6, [.ref fubg, .int ir])), (fubg, .inl (3, 4, .inr (.inl gr))), (fut1, .inl (3, 4, .inr (.inl T1))), (fut2, .inl (3, 4, .inr (.inl T2))), (fut3, .inl (3, 4, .inr (.inl T3))), (gy, .inr (6, [.ref gyg, .int i1])), (gyg, .inl (3, 4, .inr (.inl g1))), (du, .inr (6, [.ref dug, .int i2])), (dug, .inl (3, 4, .inr (.inl g2)))]) 1 6 := by
  refine z_of (by decide) rfl (Nat.le_of_ble_eq_true rfl) (fun w0 => ?_)
  refine r_lvE (lv2 := [(0, .ref a), (1, .int 103), (2, .int m)]) rfl ?_
  refine r_ldcWS (own := "Ironpour") (i := 1) (by decide) d_Ip_charge_0 ?_
  refine r_iload_n d_Ip_charge_3 rfl 1 rfl ?_
  refine r_callVS (As := [.int 103]) (rest := []) (csC := []) (is := []) (i := 1) (by first | assumption | decide) rfl ln_Ip_83 w_im_String_indexOf_0 w_se_String_indexOf_0 ok_Ip_charge_String_indexOf_0 d_Ip_charge_4 (C_St_indexOf g 1 (by decide) 103) rfl rfl (Nat.le_of_ble_eq_true rfl) rfl (by decide) (by omega) (by omega) (fun E cs1 hx => ?_) (fun v cs1 hx => ?_)
  · exact absurd hx.1 (by simp)
  · obtain ⟨e1, rfl⟩ := hx
    cases e1
    refine ⟨rfl, ?_⟩
    refine r_st (st2 := [.int (z_ix 1 103)]) rfl ?_
    refine r_cs (cs2 := [(a, .inr (11, [.ref pa, .ref ta, .ref sa, .ref gs, .ref co, .ref fu, .ref la, .ref gy, .ref du, .ref re, .ref wm, .ref ac])), (fu, .inr (3, [.ref fub, .ref fut1, .ref fut2, .ref fut3, .long io])), (fub, .inr (6, [.ref fubg, .int ir])), (fubg, .inl (3, 4, .inr (.inl gr))), (fut1, .inl (3, 4, .inr (.inl T1))), (fut2, .inl (3, 4, .inr (.inl T2))), (fut3, .inl (3, 4, .inr (.inl T3))), (gy, .inr (6, [.ref gyg, .int i1])), (gyg, .inl (3, 4, .inr (.inl g1))), (du, .inr (6, [.ref dug, .int i2])), (dug, .inl (3, 4, .inr (.inl g2)))]) rfl ?_
    refine r_if_lt (tgt := 21) d_Ip_charge_7 (by decide) (fun c_7 => ?_) (fun c_7 => ?_)
    · exact absurd c_7 (by decide)
    · refine r_iload_n d_Ip_charge_10 rfl 2 rfl ?_
      refine r_iconst d_Ip_charge_11 (v := 1) (by decide) ?_
      refine r_sipush d_Ip_charge_12 (v := 1000) (by decide) ?_
      refine r_callS (As := [.int m, .int 1, .int 1000]) (rest := []) (csC := []) (is := []) ln_Ip_203 w_st_Ip_isWithin ok_Ip_charge_Ip_isWithin d_Ip_charge_15 (C_Ip_isWithin g m 1 1000) rfl rfl (Nat.le_of_ble_eq_true rfl) rfl (by decide) (by omega) (by omega) (fun E cs1 hx => ?_) (fun v cs1 hx => ?_)
      · exact absurd hx.1 (by simp)
      · obtain ⟨e1, rfl⟩ := hx
        cases e1
        refine ⟨rfl, ?_⟩
        refine r_st (st2 := [.int (if 1 ≤ m ∧ m ≤ 1000 then 1 else 0)]) rfl ?_
        refine r_cs (cs2 := [(a, .inr (11, [.ref pa, .ref ta, .ref sa, .ref gs, .ref co, .ref fu, .ref la, .ref gy, .ref du, .ref re, .ref wm, .ref ac])), (fu, .inr (3, [.ref fub, .ref fut1, .ref fut2, .ref fut3, .long io])), (fub, .inr (6, [.ref fubg, .int ir])), (fubg, .inl (3, 4, .inr (.inl gr))), (fut1, .inl (3, 4, .inr (.inl T1))), (fut2, .inl (3, 4, .inr (.inl T2))), (fut3, .inl (3, 4, .inr (.inl T3))), (gy, .inr (6, [.ref gyg, .int i1])), (gyg, .inl (3, 4, .inr (.inl g1))), (du, .inr (6, [.ref dug, .int i2])), (dug, .inl (3, 4, .inr (.inl g2)))]) rfl ?_
        refine r_if_ne (tgt := 32) d_Ip_charge_18 (by decide) (fun c_18 => ?_) (fun c_18 => ?_)
        · refine r_aload_n d_Ip_charge_32 rfl 0 rfl ?_
          refine r_iload_n d_Ip_charge_33 rfl 1 rfl ?_
          refine r_callV (As := [.int 103]) (rest := []) (csC := [(a, .inr (11, [.ref pa, .ref ta, .ref sa, .ref gs, .ref co, .ref fu, .ref la, .ref gy, .ref du, .ref re, .ref wm, .ref ac]))]) (is := [0]) (q0 := 0) rfl rfl ln_Ip_265 w_im_Ip_poolOf w_se_Ip_poolOf ok_Ip_charge_Ip_poolOf d_Ip_charge_34 (C_Ip_poolOfG g a pa ta sa gs co fu la gy du re wm ac) rfl rfl (Nat.le_of_ble_eq_true rfl) rfl (by decide) (by omega) (by omega) (fun E cs1 hx => ?_) (fun v cs1 hx => ?_)
          · exact absurd hx.1 (by simp)
          · obtain ⟨e1, rfl⟩ := hx
            cases e1
            refine ⟨rfl, ?_⟩
            refine r_st (st2 := [.ref gy]) rfl ?_
            refine r_cs (cs2 := [(a, .inr (11, [.ref pa, .ref ta, .ref sa, .ref gs, .ref co, .ref fu, .ref la, .ref gy, .ref du, .ref re, .ref wm, .ref ac])), (fu, .inr (3, [.ref fub, .ref fut1, .ref fut2, .ref fut3, .long io])), (fub, .inr (6, [.ref fubg, .int ir])), (fubg, .inl (3, 4, .inr (.inl gr))), (fut1, .inl (3, 4, .inr (.inl T1))), (fut2, .inl (3, 4, .inr (.inl T2))), (fut3, .inl (3, 4, .inr (.inl T3))), (gy, .inr (6, [.ref gyg, .int i1])), (gyg, .inl (3, 4, .inr (.inl g1))), (du, .inr (6, [.ref dug, .int i2])), (dug, .inl (3, 4, .inr (.inl g2)))]) rfl ?_
            refine r_astore_n (lv' := [(3, .ref gy), (0, .ref a), (1, .int 103), (2, .int m)]) d_Ip_charge_37 rfl (by decide) rfl ?_
            refine r_aload_n d_Ip_charge_38 rfl 0 rfl ?_
            refine r_ifnull d_Ip_charge_39 ?_
            refine r_aload_n d_Ip_charge_42 rfl 0 rfl ?_
            refine r_get fs_Ip_269 d_Ip_charge_43 (q0 := 7) rfl rfl ?_
            refine r_iload_n d_Ip_charge_46 rfl 3 rfl ?_
            refine r_icmp_ge (tgt := 61) d_Ip_charge_47 (by decide) (fun c_47 => ?_) (fun c_47 => ?_)
            · refine r_iload_n d_Ip_charge_61 rfl 2 rfl ?_
              refine r_bipush d_Ip_charge_62 (v := 107) (by decide) ?_
              refine r_icmp_ne (tgt := 71) d_Ip_charge_64 (by decide) (fun c_64 => ?_) (fun c_64 => ?_)
              · refine r_iload_n d_Ip_charge_71 rfl 3 rfl ?_
                refine r_istore (lv' := [(4, .int m), (3, .ref gy), (0, .ref a), (1, .int 103), (2, .int m)]) d_Ip_charge_72 (by decide) rfl ?_
                refine r_aload_n d_Ip_charge_74 rfl 2 rfl ?_
                refine r_get fs_Ip_43 d_Ip_charge_75 (q0 := 0) rfl rfl ?_
                refine r_get fs_Ip_277 d_Ip_charge_78 (q0 := 1) rfl rfl ?_
                refine r_get fs_Ip_269 d_Ip_charge_81 (q0 := 2) rfl rfl ?_
                refine r_iload d_Ip_charge_84 0 rfl ?_
                refine r_iadd d_Ip_charge_86 (v := ir + m) rfl ?_
                refine r_sipush d_Ip_charge_87 (v := 3000) (by decide) ?_
                refine r_icmp_le (tgt := 104) d_Ip_charge_90 (by decide) (fun c_90 => ?_) (fun c_90 => ?_)
                · exact absurd hg (Int32.not_lt.mpr c_90)
                · refine r_throwW tb_Ip_242_246 sr_Ip_280 d_Ip_charge_93 d_Ip_charge_96 d_Ip_charge_97 d_Ip_charge_100 d_Ip_charge_103 rfl (by decide) (by decide) (Nat.le_of_ble_eq_true rfl) (by omega) (by omega) ?_
                  exact ⟨rfl, rfl⟩
              · exact absurd c_64 (by decide)
            · exact absurd (Int32.not_le.mp c_47) hf
        · exact absurd hw (z_b0 c_18)
theorem d_Ip_charge_108 : decode prog_1_method_23_code 108 = .ok (.aload_n 3, 1) := zo_45 (zd_b zq_prog_1_method_23_code_3 12 rfl rfl rfl)
theorem d_Ip_charge_109 : decode prog_1_method_23_code 109 = .ok (.aload_n 0, 1) := zo_42 (zd_b zq_prog_1_method_23_code_3 13 rfl rfl rfl)
theorem d_Ip_charge_110 : decode prog_1_method_23_code 110 = .ok (.getfield 43, 3) := zo_180 (d := 0) (e := 43) (zd_b zq_prog_1_method_23_code_3 14 rfl rfl rfl) (zd_b zq_prog_1_method_23_code_3 15 rfl rfl rfl) (zd_b zq_prog_1_method_23_code_3 16 rfl rfl rfl)
theorem d_Ip_charge_113 : decode prog_1_method_23_code 113 = .ok (.getfield 277, 3) := zo_180 (d := 1) (e := 21) (zd_b zq_prog_1_method_23_code_3 17 rfl rfl rfl) (zd_b zq_prog_1_method_23_code_3 18 rfl rfl rfl) (zd_b zq_prog_1_method_23_code_3 19 rfl rfl rfl)
theorem d_Ip_charge_116 : decode prog_1_method_23_code 116 = .ok (.iload_n 2, 1) := zo_28 (zd_b zq_prog_1_method_23_code_3 20 rfl rfl rfl)
theorem d_Ip_charge_117 : decode prog_1_method_23_code 117 = .ok (.invokevirtual 282, 3) := zo_182 (d := 1) (e := 26) (zd_b zq_prog_1_method_23_code_3 21 rfl rfl rfl) (zd_b zq_prog_1_method_23_code_3 22 rfl rfl rfl) (zd_b zq_prog_1_method_23_code_3 23 rfl rfl rfl)
theorem ok_Ip_charge_Me_moveTo : z_ok M_Ip_charge M_Me_moveTo 2 := ⟨z_mj5 (i := 48) rfl (by decide +kernel), rfl, ⟨by decide +kernel, by decide +kernel, by decide +kernel⟩, ⟨by decide, by decide⟩, z_mj1 (i := 8) rfl (by decide +kernel), rfl⟩
theorem d_Ip_charge_120 : decode prog_1_method_23_code 120 = .ok (.goto 17, 3) := zo_167 (d := 0) (e := 17) (zd_b zq_prog_1_method_23_code_3 24 rfl rfl rfl) (zd_b zq_prog_1_method_23_code_3 25 rfl rfl rfl) (zd_b zq_prog_1_method_23_code_3 26 rfl rfl rfl) (by decide +kernel)
set_option maxHeartbeats 4000000 in
set_option maxRecDepth 100000 in
theorem C_Ip_charge103N (g : zG) (a pa ta sa gs co fu la gy du re wm ac : Nat) (lab labg gyg dug fub fubg fut1 fut2 fut3 : Nat) (gr T1 T2 T3 g1 g2 : Nat → Int64) (ir i1 i2 : Int32) (io : Int64) (m : Int32) (hw : (1 ≤ m ∧ m ≤ 1000)) (hf : ¬ i1 < m) (hg : ¬ 3000 < ir + m) (h0 : ¬ i1 ≤ 0) : CT g M_Ip_charge [.ref a, .int 103, .int m] [(a, .inr (11, [.ref pa, .ref ta, .ref sa, .ref gs, .ref co, .ref fu, .ref la, .ref gy, .ref du, .ref re, .ref wm, .ref ac])), (fu, .inr (3, [.ref fub, .ref fut1, .ref fut2, .ref fut3, .long io])), (fub, .inr (6, [.ref fubg, .int ir])), (fubg, .inl (3, 4, .inr (.inl gr))), (fut1, .inl (3, 4, .inr (.inl T1))), (fut2, .inl (3, 4, .inr (.inl T2))), (fut3, .inl (3, 4, .inr (.inl T3))), (gy, .inr (6, [.ref gyg, .int i1])), (gyg, .inl (3, 4, .inr (.inl g1))), (du, .inr (6, [.ref dug, .int i2])), (dug, .inl (3, 4, .inr (.inl g2)))] (fun o cs1 => o = .inl (some (.int (ir + m))) ∧ cs1 = [(a, .inr (11, [.ref pa, .ref ta, .ref sa, .ref gs, .ref co, .ref fu, .ref la, .ref gy, .ref du, .ref re, .ref wm, .ref ac])), (fu, .inr (3, [.ref fub, .ref fut1, .ref fut2, .ref fut3, .long io])), (fub, .inr (6, [.ref fubg, .int (ir + m)])), (fubg, .inl (3, 4, .inr (.inl (mvT g1 m i1 gr 4)))), (fut1, .inl (3, 4, .inr (.inl T1))), (fut2, .inl (3, 4, .inr (.inl T2))), (fut3, .inl (3, 4, .inr (.inl T3))), (gy, .inr (6, [.ref gyg, .int (i1 - m)])), (gyg, .inl (3, 4, .inr (.inl (mvS g1 m i1 4)))), (du, .inr (6, [.ref dug, .int i2])), (dug, .inl (3, 4, .inr (.inl g2)))]) 1 6 := by
  refine z_of (by decide) rfl (Nat.le_of_ble_eq_true rfl) (fun w0 => ?_)
  refine r_lvE (lv2 := [(0, .ref a), (1, .int 103), (2, .int m)]) rfl ?_
  refine r_ldcWS (own := "Ironpour") (i := 1) (by decide) d_Ip_charge_0 ?_
  refine r_iload_n d_Ip_charge_3 rfl 1 rfl ?_
  refine r_callVS (As := [.int 103]) (rest := []) (csC := []) (is := []) (i := 1) (by first | assumption | decide) rfl ln_Ip_83 w_im_String_indexOf_0 w_se_String_indexOf_0 ok_Ip_charge_String_indexOf_0 d_Ip_charge_4 (C_St_indexOf g 1 (by decide) 103) rfl rfl (Nat.le_of_ble_eq_true rfl) rfl (by decide) (by omega) (by omega) (fun E cs1 hx => ?_) (fun v cs1 hx => ?_)
  · exact absurd hx.1 (by simp)
  · obtain ⟨e1, rfl⟩ := hx
    cases e1
    refine ⟨rfl, ?_⟩
    refine r_st (st2 := [.int (z_ix 1 103)]) rfl ?_
    refine r_cs (cs2 := [(a, .inr (11, [.ref pa, .ref ta, .ref sa, .ref gs, .ref co, .ref fu, .ref la, .ref gy, .ref du, .ref re, .ref wm, .ref ac])), (fu, .inr (3, [.ref fub, .ref fut1, .ref fut2, .ref fut3, .long io])), (fub, .inr (6, [.ref fubg, .int ir])), (fubg, .inl (3, 4, .inr (.inl gr))), (fut1, .inl (3, 4, .inr (.inl T1))), (fut2, .inl (3, 4, .inr (.inl T2))), (fut3, .inl (3, 4, .inr (.inl T3))), (gy, .inr (6, [.ref gyg, .int i1])), (gyg, .inl (3, 4, .inr (.inl g1))), (du, .inr (6, [.ref dug, .int i2])), (dug, .inl (3, 4, .inr (.inl g2)))]) rfl ?_
    refine r_if_lt (tgt := 21) d_Ip_charge_7 (by decide) (fun c_7 => ?_) (fun c_7 => ?_)
    · exact absurd c_7 (by decide)
    · refine r_iload_n d_Ip_charge_10 rfl 2 rfl ?_
      refine r_iconst d_Ip_charge_11 (v := 1) (by decide) ?_
      refine r_sipush d_Ip_charge_12 (v := 1000) (by decide) ?_
      refine r_callS (As := [.int m, .int 1, .int 1000]) (rest := []) (csC := []) (is := []) ln_Ip_203 w_st_Ip_isWithin ok_Ip_charge_Ip_isWithin d_Ip_charge_15 (C_Ip_isWithin g m 1 1000) rfl rfl (Nat.le_of_ble_eq_true rfl) rfl (by decide) (by omega) (by omega) (fun E cs1 hx => ?_) (fun v cs1 hx => ?_)
      · exact absurd hx.1 (by simp)
      · obtain ⟨e1, rfl⟩ := hx
        cases e1
        refine ⟨rfl, ?_⟩
        refine r_st (st2 := [.int (if 1 ≤ m ∧ m ≤ 1000 then 1 else 0)]) rfl ?_
        refine r_cs (cs2 := [(a, .inr (11, [.ref pa, .ref ta, .ref sa, .ref gs, .ref co, .ref fu, .ref la, .ref gy, .ref du, .ref re, .ref wm, .ref ac])), (fu, .inr (3, [.ref fub, .ref fut1, .ref fut2, .ref fut3, .long io])), (fub, .inr (6, [.ref fubg, .int ir])), (fubg, .inl (3, 4, .inr (.inl gr))), (fut1, .inl (3, 4, .inr (.inl T1))), (fut2, .inl (3, 4, .inr (.inl T2))), (fut3, .inl (3, 4, .inr (.inl T3))), (gy, .inr (6, [.ref gyg, .int i1])), (gyg, .inl (3, 4, .inr (.inl g1))), (du, .inr (6, [.ref dug, .int i2])), (dug, .inl (3, 4, .inr (.inl g2)))]) rfl ?_
        refine r_if_ne (tgt := 32) d_Ip_charge_18 (by decide) (fun c_18 => ?_) (fun c_18 => ?_)
        · refine r_aload_n d_Ip_charge_32 rfl 0 rfl ?_
          refine r_iload_n d_Ip_charge_33 rfl 1 rfl ?_
          refine r_callV (As := [.int 103]) (rest := []) (csC := [(a, .inr (11, [.ref pa, .ref ta, .ref sa, .ref gs, .ref co, .ref fu, .ref la, .ref gy, .ref du, .ref re, .ref wm, .ref ac]))]) (is := [0]) (q0 := 0) rfl rfl ln_Ip_265 w_im_Ip_poolOf w_se_Ip_poolOf ok_Ip_charge_Ip_poolOf d_Ip_charge_34 (C_Ip_poolOfG g a pa ta sa gs co fu la gy du re wm ac) rfl rfl (Nat.le_of_ble_eq_true rfl) rfl (by decide) (by omega) (by omega) (fun E cs1 hx => ?_) (fun v cs1 hx => ?_)
          · exact absurd hx.1 (by simp)
          · obtain ⟨e1, rfl⟩ := hx
            cases e1
            refine ⟨rfl, ?_⟩
            refine r_st (st2 := [.ref gy]) rfl ?_
            refine r_cs (cs2 := [(a, .inr (11, [.ref pa, .ref ta, .ref sa, .ref gs, .ref co, .ref fu, .ref la, .ref gy, .ref du, .ref re, .ref wm, .ref ac])), (fu, .inr (3, [.ref fub, .ref fut1, .ref fut2, .ref fut3, .long io])), (fub, .inr (6, [.ref fubg, .int ir])), (fubg, .inl (3, 4, .inr (.inl gr))), (fut1, .inl (3, 4, .inr (.inl T1))), (fut2, .inl (3, 4, .inr (.inl T2))), (fut3, .inl (3, 4, .inr (.inl T3))), (gy, .inr (6, [.ref gyg, .int i1])), (gyg, .inl (3, 4, .inr (.inl g1))), (du, .inr (6, [.ref dug, .int i2])), (dug, .inl (3, 4, .inr (.inl g2)))]) rfl ?_
            refine r_astore_n (lv' := [(3, .ref gy), (0, .ref a), (1, .int 103), (2, .int m)]) d_Ip_charge_37 rfl (by decide) rfl ?_
            refine r_aload_n d_Ip_charge_38 rfl 0 rfl ?_
            refine r_ifnull d_Ip_charge_39 ?_
            refine r_aload_n d_Ip_charge_42 rfl 0 rfl ?_
            refine r_get fs_Ip_269 d_Ip_charge_43 (q0 := 7) rfl rfl ?_
            refine r_iload_n d_Ip_charge_46 rfl 3 rfl ?_
            refine r_icmp_ge (tgt := 61) d_Ip_charge_47 (by decide) (fun c_47 => ?_) (fun c_47 => ?_)
            · refine r_iload_n d_Ip_charge_61 rfl 2 rfl ?_
              refine r_bipush d_Ip_charge_62 (v := 107) (by decide) ?_
              refine r_icmp_ne (tgt := 71) d_Ip_charge_64 (by decide) (fun c_64 => ?_) (fun c_64 => ?_)
              · refine r_iload_n d_Ip_charge_71 rfl 3 rfl ?_
                refine r_istore (lv' := [(4, .int m), (3, .ref gy), (0, .ref a), (1, .int 103), (2, .int m)]) d_Ip_charge_72 (by decide) rfl ?_
                refine r_aload_n d_Ip_charge_74 rfl 2 rfl ?_
                refine r_get fs_Ip_43 d_Ip_charge_75 (q0 := 0) rfl rfl ?_
                refine r_get fs_Ip_277 d_Ip_charge_78 (q0 := 1) rfl rfl ?_
                refine r_get fs_Ip_269 d_Ip_charge_81 (q0 := 2) rfl rfl ?_
                refine r_iload d_Ip_charge_84 0 rfl ?_
                refine r_iadd d_Ip_charge_86 (v := ir + m) rfl ?_
                refine r_sipush d_Ip_charge_87 (v := 3000) (by decide) ?_
                refine r_icmp_le (tgt := 104) d_Ip_charge_90 (by decide) (fun c_90 => ?_) (fun c_90 => ?_)
                · refine r_aload_n d_Ip_charge_104 rfl 1 rfl ?_
                  refine r_ifnull d_Ip_charge_105 ?_
                  refine r_aload_n d_Ip_charge_108 rfl 1 rfl ?_
                  refine r_aload_n d_Ip_charge_109 rfl 2 rfl ?_
                  refine r_get fs_Ip_43 d_Ip_charge_110 (q0 := 0) rfl rfl ?_
                  refine r_get fs_Ip_277 d_Ip_charge_113 (q0 := 1) rfl rfl ?_
                  refine r_iload_n d_Ip_charge_116 rfl 4 rfl ?_
                  refine r_callV (As := [.ref fub, .int m]) (rest := []) (csC := [(gy, .inr (6, [.ref gyg, .int i1])), (gyg, .inl (3, 4, .inr (.inl g1))), (fub, .inr (6, [.ref fubg, .int ir])), (fubg, .inl (3, 4, .inr (.inl gr)))]) (is := [7, 8, 2, 3]) (q0 := 7) rfl rfl ln_Ip_282 w_im_Me_moveTo w_se_Me_moveTo ok_Ip_charge_Me_moveTo d_Ip_charge_117 (C_Me_moveToN g gy gyg g1 i1 fub fubg gr ir m h0) rfl rfl (Nat.le_of_ble_eq_true rfl) rfl (by decide) (by omega) (by omega) (fun E cs1 hx => ?_) (fun v cs1 hx => ?_)
                  · exact absurd hx.1 (by simp)
                  · obtain ⟨e1, rfl⟩ := hx
                    cases e1
                    refine ⟨rfl, ?_⟩
                    refine r_st (st2 := []) rfl ?_
                    refine r_cs (cs2 := [(a, .inr (11, [.ref pa, .ref ta, .ref sa, .ref gs, .ref co, .ref fu, .ref la, .ref gy, .ref du, .ref re, .ref wm, .ref ac])), (fu, .inr (3, [.ref fub, .ref fut1, .ref fut2, .ref fut3, .long io])), (fub, .inr (6, [.ref fubg, .int (ir + m)])), (fubg, .inl (3, 4, .inr (.inl (mvT g1 m i1 gr 4)))), (fut1, .inl (3, 4, .inr (.inl T1))), (fut2, .inl (3, 4, .inr (.inl T2))), (fut3, .inl (3, 4, .inr (.inl T3))), (gy, .inr (6, [.ref gyg, .int (i1 - m)])), (gyg, .inl (3, 4, .inr (.inl (mvS g1 m i1 4)))), (du, .inr (6, [.ref dug, .int i2])), (dug, .inl (3, 4, .inr (.inl g2)))]) rfl ?_
                    refine r_goto (tgt := 137) d_Ip_charge_120 (by decide) ?_
                    refine r_aload_n d_Ip_charge_137 rfl 2 rfl ?_
                    refine r_get fs_Ip_43 d_Ip_charge_138 (q0 := 0) rfl rfl ?_
                    refine r_get fs_Ip_277 d_Ip_charge_141 (q0 := 1) rfl rfl ?_
                    refine r_get fs_Ip_269 d_Ip_charge_144 (q0 := 2) rfl rfl ?_
                    refine r_iret d_Ip_charge_147 rfl rfl ?_
                    exact ⟨rfl, rfl⟩
                · exact absurd (Int32.not_le.mp c_90) hg
              · exact absurd c_64 (by decide)
            · exact absurd (Int32.not_le.mp c_47) hf
        · exact absurd hw (z_b0 c_18)
