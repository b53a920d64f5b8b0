set_option maxHeartbeats 4000000 in
set_option maxRecDepth 100000 in
theorem C_Ip_charge102N (g : zG) (a pa ta sa gs co fu la gy du re wm ac : Nat) (lab labg gyg dug fub fubg fut1 fut2 fut3 : Nat) (gr T1 T2 T3 g1 g2 : Nat → Int64) (ir i1 i2 : Int32) (io : Int64) (m : Int32) (hw : (1 ≤ m ∧ m ≤ 1000)) (hg : ¬ 3000 < ir + m) : CT g M_Ip_charge [.ref a, .int 102, .int m] [(a, .inr (11, [.ref pa, .ref ta, .ref sa, .ref gs, .ref co, .ref fu, .ref la, .ref gy, .ref du, .ref re, .ref wm, .ref ac])), (fu, .inr (3, [.ref fub, .ref fut1, .ref fut2, .ref fut3, .long io])), (fub, .inr (6, [.ref fubg, .int ir])), (fubg, .inl (3, 4, .inr (.inl gr))), (fut1, .inl (3, 4, .inr (.inl T1))), (fut2, .inl (3, 4, .inr (.inl T2))), (fut3, .inl (3, 4, .inr (.inl T3))), (gy, .inr (6, [.ref gyg, .int i1])), (gyg, .inl (3, 4, .inr (.inl g1))), (du, .inr (6, [.ref dug, .int i2])), (dug, .inl (3, 4, .inr (.inl g2)))] (fun o cs1 => o = .inl (some (.int (ir + m))) ∧ cs1 = [(a, .inr (11, [.ref pa, .ref ta, .ref sa, .ref gs, .ref co, .ref fu, .ref la, .ref gy, .ref du, .ref re, .ref wm, .ref ac])), (fu, .inr (3, [.ref fub, .ref fut1, .ref fut2, .ref fut3, .long (io + (m : Int32).toInt64)])), (fub, .inr (6, [.ref fubg, .int (ir + m)])), (fubg, .inl (3, 4, .inr (.inl (lfd gr (fun e => chS m 2 e / 10) 4)))), (fut1, .inl (3, 4, .inr (.inl (lfd T1 (fun e => chS m 2 e) 4)))), (fut2, .inl (3, 4, .inr (.inl (lfd T2 (fun e => chS m 2 e - chS m 2 e / 10 * 10) 4)))), (fut3, .inl (3, 4, .inr (.inl T3))), (gy, .inr (6, [.ref gyg, .int i1])), (gyg, .inl (3, 4, .inr (.inl g1))), (du, .inr (6, [.ref dug, .int i2])), (dug, .inl (3, 4, .inr (.inl g2)))]) 1 6 := by
  refine z_of (by decide) rfl (Nat.le_of_ble_eq_true rfl) (fun w0 => ?_)
  refine r_lvE (lv2 := [(0, .ref a), (1, .int 102), (2, .int m)]) rfl ?_
  refine r_ldcWS (own := "Ironpour") (i := 1) (by decide) d_Ip_charge_0 ?_
  refine r_iload_n d_Ip_charge_3 rfl 1 rfl ?_
  refine r_callVS (As := [.int 102]) (rest := []) (csC := []) (is := []) (i := 1) (by first | assumption | decide) rfl ln_Ip_83 w_im_String_indexOf_0 w_se_String_indexOf_0 ok_Ip_charge_String_indexOf_0 d_Ip_charge_4 (C_St_indexOf g 1 (by decide) 102) rfl rfl (Nat.le_of_ble_eq_true rfl) rfl (by decide) (by omega) (by omega) (fun E cs1 hx => ?_) (fun v cs1 hx => ?_)
  · exact absurd hx.1 (by simp)
  · obtain ⟨e1, rfl⟩ := hx
    cases e1
    refine ⟨rfl, ?_⟩
    refine r_st (st2 := [.int (z_ix 1 102)]) rfl ?_
    refine r_cs (cs2 := [(a, .inr (11, [.ref pa, .ref ta, .ref sa, .ref gs, .ref co, .ref fu, .ref la, .ref gy, .ref du, .ref re, .ref wm, .ref ac])), (fu, .inr (3, [.ref fub, .ref fut1, .ref fut2, .ref fut3, .long io])), (fub, .inr (6, [.ref fubg, .int ir])), (fubg, .inl (3, 4, .inr (.inl gr))), (fut1, .inl (3, 4, .inr (.inl T1))), (fut2, .inl (3, 4, .inr (.inl T2))), (fut3, .inl (3, 4, .inr (.inl T3))), (gy, .inr (6, [.ref gyg, .int i1])), (gyg, .inl (3, 4, .inr (.inl g1))), (du, .inr (6, [.ref dug, .int i2])), (dug, .inl (3, 4, .inr (.inl g2)))]) rfl ?_
    refine r_if_lt (tgt := 21) d_Ip_charge_7 (by decide) (fun c_7 => ?_) (fun c_7 => ?_)
    · exact absurd c_7 (by decide)
    · refine r_iload_n d_Ip_charge_10 rfl 2 rfl ?_
      refine r_iconst d_Ip_charge_11 (v := 1) (by decide) ?_
      refine r_sipush d_Ip_charge_12 (v := 1000) (by decide) ?_
      refine r_callS (As := [.int m, .int 1, .int 1000]) (rest := []) (csC := []) (is := []) ln_Ip_203 w_st_Ip_isWithin ok_Ip_charge_Ip_isWithin d_Ip_charge_15 (C_Ip_isWithin g m 1 1000) rfl rfl (Nat.le_of_ble_eq_true rfl) rfl (by decide) (by omega) (by omega) (fun E cs1 hx => ?_) (fun v cs1 hx => ?_)
      · exact absurd hx.1 (by simp)
      · obtain ⟨e1, rfl⟩ := hx
        cases e1
        refine ⟨rfl, ?_⟩
        refine r_st (st2 := [.int (if 1 ≤ m ∧ m ≤ 1000 then 1 else 0)]) rfl ?_
        refine r_cs (cs2 := [(a, .inr (11, [.ref pa, .ref ta, .ref sa, .ref gs, .ref co, .ref fu, .ref la, .ref gy, .ref du, .ref re, .ref wm, .ref ac])), (fu, .inr (3, [.ref fub, .ref fut1, .ref fut2, .ref fut3, .long io])), (fub, .inr (6, [.ref fubg, .int ir])), (fubg, .inl (3, 4, .inr (.inl gr))), (fut1, .inl (3, 4, .inr (.inl T1))), (fut2, .inl (3, 4, .inr (.inl T2))), (fut3, .inl (3, 4, .inr (.inl T3))), (gy, .inr (6, [.ref gyg, .int i1])), (gyg, .inl (3, 4, .inr (.inl g1))), (du, .inr (6, [.ref dug, .int i2])), (dug, .inl (3, 4, .inr (.inl g2)))]) rfl ?_
        refine r_if_ne (tgt := 32) d_Ip_charge_18 (by decide) (fun c_18 => ?_) (fun c_18 => ?_)
        · refine r_aload_n d_Ip_charge_32 rfl 0 rfl ?_
          refine r_iload_n d_Ip_charge_33 rfl 1 rfl ?_
          refine r_callV (As := [.int 102]) (rest := []) (csC := [(a, .inr (11, [.ref pa, .ref ta, .ref sa, .ref gs, .ref co, .ref fu, .ref la, .ref gy, .ref du, .ref re, .ref wm, .ref ac]))]) (is := [0]) (q0 := 0) rfl rfl ln_Ip_265 w_im_Ip_poolOf w_se_Ip_poolOf ok_Ip_charge_Ip_poolOf d_Ip_charge_34 (C_Ip_poolOfO g a pa ta sa gs co fu la gy du re wm ac 102 (by decide) (by decide)) rfl rfl (Nat.le_of_ble_eq_true rfl) rfl (by decide) (by omega) (by omega) (fun E cs1 hx => ?_) (fun v cs1 hx => ?_)
          · exact absurd hx.1 (by simp)
          · obtain ⟨e1, rfl⟩ := hx
            cases e1
            refine ⟨rfl, ?_⟩
            refine r_st (st2 := [.null]) rfl ?_
            refine r_cs (cs2 := [(a, .inr (11, [.ref pa, .ref ta, .ref sa, .ref gs, .ref co, .ref fu, .ref la, .ref gy, .ref du, .ref re, .ref wm, .ref ac])), (fu, .inr (3, [.ref fub, .ref fut1, .ref fut2, .ref fut3, .long io])), (fub, .inr (6, [.ref fubg, .int ir])), (fubg, .inl (3, 4, .inr (.inl gr))), (fut1, .inl (3, 4, .inr (.inl T1))), (fut2, .inl (3, 4, .inr (.inl T2))), (fut3, .inl (3, 4, .inr (.inl T3))), (gy, .inr (6, [.ref gyg, .int i1])), (gyg, .inl (3, 4, .inr (.inl g1))), (du, .inr (6, [.ref dug, .int i2])), (dug, .inl (3, 4, .inr (.inl g2)))]) rfl ?_
            refine r_astore_nN (lv' := [(3, .null), (0, .ref a), (1, .int 102), (2, .int m)]) d_Ip_charge_37 rfl (by decide) rfl ?_
            refine r_aload_nN d_Ip_charge_38 rfl 0 rfl ?_
            refine r_ifnullN (tgt := 61) d_Ip_charge_39 (by decide) ?_
            refine r_iload_n d_Ip_charge_61 rfl 2 rfl ?_
            refine r_bipush d_Ip_charge_62 (v := 107) (by decide) ?_
            refine r_icmp_ne (tgt := 71) d_Ip_charge_64 (by decide) (fun c_64 => ?_) (fun c_64 => ?_)
            · refine r_iload_n d_Ip_charge_71 rfl 3 rfl ?_
              refine r_istore (lv' := [(4, .int m), (3, .null), (0, .ref a), (1, .int 102), (2, .int m)]) d_Ip_charge_72 (by decide) rfl ?_
              refine r_aload_n d_Ip_charge_74 rfl 2 rfl ?_
              refine r_get fs_Ip_43 d_Ip_charge_75 (q0 := 0) rfl rfl ?_
              refine r_get fs_Ip_277 d_Ip_charge_78 (q0 := 1) rfl rfl ?_
              refine r_get fs_Ip_269 d_Ip_charge_81 (q0 := 2) rfl rfl ?_
              refine r_iload d_Ip_charge_84 0 rfl ?_
              refine r_iadd d_Ip_charge_86 (v := ir + m) rfl ?_
              refine r_sipush d_Ip_charge_87 (v := 3000) (by decide) ?_
              refine r_icmp_le (tgt := 104) d_Ip_charge_90 (by decide) (fun c_90 => ?_) (fun c_90 => ?_)
              · refine r_aload_nN d_Ip_charge_104 rfl 1 rfl ?_
                refine r_ifnullN (tgt := 123) d_Ip_charge_105 (by decide) ?_
                refine r_aload_n d_Ip_charge_123 rfl 2 rfl ?_
                refine r_get fs_Ip_43 d_Ip_charge_124 (q0 := 0) rfl rfl ?_
                refine r_iload_n d_Ip_charge_127 rfl 4 rfl ?_
                refine r_iload d_Ip_charge_128 0 rfl ?_
                refine r_iload_n d_Ip_charge_130 rfl 3 rfl ?_
                refine r_callS (As := [.int 102]) (rest := [.int m, .int m, .ref fu]) (csC := []) (is := []) ln_Ip_286 w_st_Ip_tenthsOf ok_Ip_charge_Ip_tenthsOf d_Ip_charge_131 (C_Ip_tenthsOf102 g) rfl rfl (Nat.le_of_ble_eq_true rfl) rfl (by decide) (by omega) (by omega) (fun E cs1 hx => ?_) (fun v cs1 hx => ?_)
                · exact absurd hx.1 (by simp)
                · obtain ⟨e1, rfl⟩ := hx
                  cases e1
                  refine ⟨rfl, ?_⟩
                  refine r_st (st2 := [.ref (g.2.2 2), .int m, .int m, .ref fu]) rfl ?_
                  refine r_cs (cs2 := [(a, .inr (11, [.ref pa, .ref ta, .ref sa, .ref gs, .ref co, .ref fu, .ref la, .ref gy, .ref du, .ref re, .ref wm, .ref ac])), (fu, .inr (3, [.ref fub, .ref fut1, .ref fut2, .ref fut3, .long io])), (fub, .inr (6, [.ref fubg, .int ir])), (fubg, .inl (3, 4, .inr (.inl gr))), (fut1, .inl (3, 4, .inr (.inl T1))), (fut2, .inl (3, 4, .inr (.inl T2))), (fut3, .inl (3, 4, .inr (.inl T3))), (gy, .inr (6, [.ref gyg, .int i1])), (gyg, .inl (3, 4, .inr (.inl g1))), (du, .inr (6, [.ref dug, .int i2])), (dug, .inl (3, 4, .inr (.inl g2)))]) rfl ?_
                  refine r_callV (As := [.int m, .int m, .ref (g.2.2 2)]) (rest := []) (csC := [(fu, .inr (3, [.ref fub, .ref fut1, .ref fut2, .ref fut3, .long io])), (fub, .inr (6, [.ref fubg, .int ir])), (fubg, .inl (3, 4, .inr (.inl gr))), (fut1, .inl (3, 4, .inr (.inl T1))), (fut2, .inl (3, 4, .inr (.inl T2))), (fut3, .inl (3, 4, .inr (.inl T3)))]) (is := [1, 2, 3, 4, 5, 6]) (q0 := 1) rfl rfl ln_Ip_290 w_im_Fu_takeFromOutside w_se_Fu_takeFromOutside ok_Ip_charge_Fu_takeFromOutside d_Ip_charge_134 (C_Fu_takeFromOutside g fu fub fubg fut1 fut2 fut3 gr T1 T2 T3 ir io m m 2 (by decide)) rfl rfl (Nat.le_of_ble_eq_true rfl) rfl (by decide) (by omega) (by omega) (fun E cs1 hx => ?_) (fun v cs1 hx => ?_)
                  · exact absurd hx.1 (by simp)
                  · obtain ⟨e1, rfl⟩ := hx
                    cases e1
                    refine ⟨rfl, ?_⟩
                    refine r_st (st2 := []) rfl ?_
                    refine r_cs (cs2 := [(a, .inr (11, [.ref pa, .ref ta, .ref sa, .ref gs, .ref co, .ref fu, .ref la, .ref gy, .ref du, .ref re, .ref wm, .ref ac])), (fu, .inr (3, [.ref fub, .ref fut1, .ref fut2, .ref fut3, .long (io + (m : Int32).toInt64)])), (fub, .inr (6, [.ref fubg, .int (ir + m)])), (fubg, .inl (3, 4, .inr (.inl (lfd gr (fun e => chS m 2 e / 10) 4)))), (fut1, .inl (3, 4, .inr (.inl (lfd T1 (fun e => chS m 2 e) 4)))), (fut2, .inl (3, 4, .inr (.inl (lfd T2 (fun e => chS m 2 e - chS m 2 e / 10 * 10) 4)))), (fut3, .inl (3, 4, .inr (.inl T3))), (gy, .inr (6, [.ref gyg, .int i1])), (gyg, .inl (3, 4, .inr (.inl g1))), (du, .inr (6, [.ref dug, .int i2])), (dug, .inl (3, 4, .inr (.inl g2)))]) rfl ?_
                    refine r_aload_n d_Ip_charge_137 rfl 2 rfl ?_
                    refine r_get fs_Ip_43 d_Ip_charge_138 (q0 := 0) rfl rfl ?_
                    refine r_get fs_Ip_277 d_Ip_charge_141 (q0 := 1) rfl rfl ?_
                    refine r_get fs_Ip_269 d_Ip_charge_144 (q0 := 2) rfl rfl ?_
                    refine r_iret d_Ip_charge_147 rfl rfl ?_
                    exact ⟨rfl, rfl⟩
              · exact absurd (Int32.not_le.mp c_90) hg
            · exact absurd c_64 (by decide)
        · exact absurd hw (z_b0 c_18)
theorem d_Ip_charge_67 : decode prog_1_method_23_code 67 = .ok (.iconst 0, 1) := zo_3 (zd_b zq_prog_1_method_23_code_2 3 rfl rfl rfl)
theorem d_Ip_charge_68 : decode prog_1_method_23_code 68 = .ok (.goto 4, 3) := zo_167 (d := 0) (e := 4) (zd_b zq_prog_1_method_23_code_2 4 rfl rfl rfl) (zd_b zq_prog_1_method_23_code_2 5 rfl rfl rfl) (zd_b zq_prog_1_method_23_code_2 6 rfl rfl rfl) (by decide +kernel)
set_option maxHeartbeats 4000000 in
set_option maxRecDepth 100000 in
theorem C_Ip_charge107G (g : zG) (a pa ta sa gs co fu la gy du re wm ac : Nat) (lab labg gyg dug fub fubg fut1 fut2 fut3 : Nat) (gr T1 T2 T3 g1 g2 : Nat → Int64) (ir i1 i2 : Int32) (io : Int64) (m : Int32) (hw : (1 ≤ m ∧ m ≤ 1000)) (hg : 3000 < ir + 0) : CT g M_Ip_charge [.ref a, .int 107, .int m] [(a, .inr (11, [.ref pa, .ref ta, .ref sa, .ref gs, .ref co, .ref fu, .ref la, .ref gy, .ref du, .ref re, .ref wm, .ref ac])), (fu, .inr (3, [.ref fub, .ref fut1, .ref fut2, .ref fut3, .long io])), (fub, .inr (6, [.ref fubg, .int ir])), (fubg, .inl (3, 4, .inr (.inl gr))), (fut1, .inl (3, 4, .inr (.inl T1))), (fut2, .inl (3, 4, .inr (.inl T2))), (fut3, .inl (3, 4, .inr (.inl T3))), (gy, .inr (6, [.ref gyg, .int i1])), (gyg, .inl (3, 4, .inr (.inl g1))), (du, .inr (6, [.ref dug, .int i2])), (dug, .inl (3, 4, .inr (.inl g2)))] (fun o cs1 => o = .inr "java/lang/IllegalStateException" ∧ cs1 = [(a, .inr (11, [.ref pa, .ref ta, .ref sa, .ref gs, .ref co, .ref fu, .ref la, .ref gy, .ref du, .ref re, .ref wm, .ref ac])), (fu, .inr (3, [.ref fub, .ref fut1, .ref fut2, .ref fut3, .long io])), (fub, .inr (6, [.ref fubg, .int ir])), (fubg, .inl (3, 4, .inr (.inl gr))), (fut1, .inl (3, 4, .inr (.inl T1))), (fut2, .inl (3, 4, .inr (.inl T2))), (fut3, .inl (3, 4, .inr (.inl T3))), (gy, .inr (6, [.ref gyg, .int i1])), (gyg, .inl (3, 4, .inr (.inl g1))), (du, .inr (6, [.ref dug, .int i2])), (dug, .inl (3, 4, .inr (.inl g2)))]) 1 6 := by
  refine z_of (by decide) rfl (Nat.le_of_ble_eq_true rfl) (fun w0 => ?_)
  refine r_lvE (lv2 := [(0, .ref a), (1, .int 107), (2, .int m)]) rfl ?_
  refine r_ldcWS (own := "Ironpour") (i := 1) (by decide) d_Ip_charge_0 ?_
  refine r_iload_n d_Ip_charge_3 rfl 1 rfl ?_
  refine r_callVS (As := [.int 107]) (rest := []) (csC := []) (is := []) (i := 1) (by first | assumption | decide) rfl ln_Ip_83 w_im_String_indexOf_0 w_se_String_indexOf_0 ok_Ip_charge_String_indexOf_0 d_Ip_charge_4 (C_St_indexOf g 1 (by decide) 107) rfl rfl (Nat.le_of_ble_eq_true rfl) rfl (by decide) (by omega) (by omega) (fun E cs1 hx => ?_) (fun v cs1 hx => ?_)
  · exact absurd hx.1 (by simp)
  · obtain ⟨e1, rfl⟩ := hx
    cases e1
    refine ⟨rfl, ?_⟩
    refine r_st (st2 := [.int (z_ix 1 107)]) rfl ?_
    refine r_cs (cs2 := [(a, .inr (11, [.ref pa, .ref ta, .ref sa, .ref gs, .ref co, .ref fu, .ref la, .ref gy, .ref du, .ref re, .ref wm, .ref ac])), (fu, .inr (3, [.ref fub, .ref fut1, .ref fut2, .ref fut3, .long io])), (fub, .inr (6, [.ref fubg, .int ir])), (fubg, .inl (3, 4, .inr (.inl gr))), (fut1, .inl (3, 4, .inr (.inl T1))), (fut2, .inl (3, 4, .inr (.inl T2))), (fut3, .inl (3, 4, .inr (.inl T3))), (gy, .inr (6, [.ref gyg, .int i1])), (gyg, .inl (3, 4, .inr (.inl g1))), (du, .inr (6, [.ref dug, .int i2])), (dug, .inl (3, 4, .inr (.inl g2)))]) rfl ?_
    refine r_if_lt (tgt := 21) d_Ip_charge_7 (by decide) (fun c_7 => ?_) (fun c_7 => ?_)
    · exact absurd c_7 (by decide)
    · refine r_iload_n d_Ip_charge_10 rfl 2 rfl ?_
      refine r_iconst d_Ip_charge_11 (v := 1) (by decide) ?_
      refine r_sipush d_Ip_charge_12 (v := 1000) (by decide) ?_
      refine r_callS (As := [.int m, .int 1, .int 1000]) (rest := []) (csC := []) (is := []) ln_Ip_203 w_st_Ip_isWithin ok_Ip_charge_Ip_isWithin d_Ip_charge_15 (C_Ip_isWithin g m 1 1000) rfl rfl (Nat.le_of_ble_eq_true rfl) rfl (by decide) (by omega) (by omega) (fun E cs1 hx => ?_) (fun v cs1 hx => ?_)
      · exact absurd hx.1 (by simp)
      · obtain ⟨e1, rfl⟩ := hx
        cases e1
        refine ⟨rfl, ?_⟩
        refine r_st (st2 := [.int (if 1 ≤ m ∧ m ≤ 1000 then 1 else 0)]) rfl ?_
        refine r_cs (cs2 := [(a, .inr (11, [.ref pa, .ref ta, .ref sa, .ref gs, .ref co, .ref fu, .ref la, .ref gy, .ref du, .ref re, .ref wm, .ref ac])), (fu, .inr (3, [.ref fub, .ref fut1, .ref fut2, .ref fut3, .long io])), (fub, .inr (6, [.ref fubg, .int ir])), (fubg, .inl (3, 4, .inr (.inl gr))), (fut1, .inl (3, 4, .inr (.inl T1))), (fut2, .inl (3, 4, .inr (.inl T2))), (fut3, .inl (3, 4, .inr (.inl T3))), (gy, .inr (6, [.ref gyg, .int i1])), (gyg, .inl (3, 4, .inr (.inl g1))), (du, .inr (6, [.ref dug, .int i2])), (dug, .inl (3, 4, .inr (.inl g2)))]) rfl ?_
        refine r_if_ne (tgt := 32) d_Ip_charge_18 (by decide) (fun c_18 => ?_) (fun c_18 => ?_)
        · refine r_aload_n d_Ip_charge_32 rfl 0 rfl ?_
          refine r_iload_n d_Ip_charge_33 rfl 1 rfl ?_
          refine r_callV (As := [.int 107]) (rest := []) (csC := [(a, .inr (11, [.ref pa, .ref ta, .ref sa, .ref gs, .ref co, .ref fu, .ref la, .ref gy, .ref du, .ref re, .ref wm, .ref ac]))]) (is := [0]) (q0 := 0) rfl rfl ln_Ip_265 w_im_Ip_poolOf w_se_Ip_poolOf ok_Ip_charge_Ip_poolOf d_Ip_charge_34 (C_Ip_poolOfO g a pa ta sa gs co fu la gy du re wm ac 107 (by decide) (by decide)) rfl rfl (Nat.le_of_ble_eq_true rfl) rfl (by decide) (by omega) (by omega) (fun E cs1 hx => ?_) (fun v cs1 hx => ?_)
          · exact absurd hx.1 (by simp)
          · obtain ⟨e1, rfl⟩ := hx
            cases e1
            refine ⟨rfl, ?_⟩
            refine r_st (st2 := [.null]) rfl ?_
            refine r_cs (cs2 := [(a, .inr (11, [.ref pa, .ref ta, .ref sa, .ref gs, .ref co, .ref fu, .ref la, .ref gy, .ref du, .ref re, .ref wm, .ref ac])), (fu, .inr (3, [.ref fub, .ref fut1, .ref fut2, .ref fut3, .long io])), (fub, .inr (6, [.ref fubg, .int ir])), (fubg, .inl (3, 4, .inr (.inl gr))), (fut1, .inl (3, 4, .inr (.inl T1))), (fut2, .inl (3, 4, .inr (.inl T2))), (fut3, .inl (3, 4, .inr (.inl T3))), (gy, .inr (6, [.ref gyg, .int i1])), (gyg, .inl (3, 4, .inr (.inl g1))), (du, .inr (6, [.ref dug, .int i2])), (dug, .inl (3, 4, .inr (.inl g2)))]) rfl ?_
            refine r_astore_nN (lv' := [(3, .null), (0, .ref a), (1, .int 107), (2, .int m)]) d_Ip_charge_37 rfl (by decide) rfl ?_
            refine r_aload_nN d_Ip_charge_38 rfl 0 rfl ?_
            refine r_ifnullN (tgt := 61) d_Ip_charge_39 (by decide) ?_
            refine r_iload_n d_Ip_charge_61 rfl 2 rfl ?_
            refine r_bipush d_Ip_charge_62 (v := 107) (by decide) ?_
            refine r_icmp_ne (tgt := 71) d_Ip_charge_64 (by decide) (fun c_64 => ?_) (fun c_64 => ?_)
            · exact absurd c_64 (by decide)
            · refine r_iconst d_Ip_charge_67 (v := 0) (by decide) ?_
              refine r_goto (tgt := 72) d_Ip_charge_68 (by decide) ?_
              refine r_istore (lv' := [(4, .int 0), (3, .null), (0, .ref a), (1, .int 107), (2, .int m)]) d_Ip_charge_72 (by decide) rfl ?_
              refine r_aload_n d_Ip_charge_74 rfl 2 rfl ?_
              refine r_get fs_Ip_43 d_Ip_charge_75 (q0 := 0) rfl rfl ?_
              refine r_get fs_Ip_277 d_Ip_charge_78 (q0 := 1) rfl rfl ?_
              refine r_get fs_Ip_269 d_Ip_charge_81 (q0 := 2) rfl rfl ?_
              refine r_iload d_Ip_charge_84 0 rfl ?_
              refine r_iadd d_Ip_charge_86 (v := ir + 0) rfl ?_
              refine r_sipush d_Ip_charge_87 (v := 3000) (by decide) ?_
              refine r_icmp_le (tgt := 104) d_Ip_charge_90 (by decide) (fun c_90 => ?_) (fun c_90 => ?_)
              · exact absurd hg (Int32.not_lt.mpr c_90)
              · refine r_throwW tb_Ip_242_246 sr_Ip_280 d_Ip_charge_93 d_Ip_charge_96 d_Ip_charge_97 d_Ip_charge_100 d_Ip_charge_103 rfl (by decide) (by decide) (Nat.le_of_ble_eq_true rfl) (by omega) (by omega) ?_
                exact ⟨rfl, rfl⟩
        · exact absurd hw (z_b0 c_18)
