theorem d_Ip_makeCores_46 : decode prog_1_method_20_code 46 = .ok (.invokespecial 246, 3) := zo_183 (d := 0) (e := 246) (zd_b zq_prog_1_method_20_code_1 14 rfl rfl rfl) (zd_b zq_prog_1_method_20_code_1 15 rfl rfl rfl) (zd_b zq_prog_1_method_20_code_1 16 rfl rfl rfl)
theorem d_Ip_makeCores_49 : decode prog_1_method_20_code 49 = .ok (.athrow, 1) := zo_191 (zd_b zq_prog_1_method_20_code_1 17 rfl rfl rfl)
set_option maxHeartbeats 4000000 in
set_option maxRecDepth 100000 in
theorem C_Ip_makeCoresF (g : zG) (a pa ta sa gs co fu la gy du re wm ac : Nat) (co1 co2 co3 : Nat) (cn cu ag : Nat → Int32) (nl : Nat) (hnl : nl ≤ 20) (c k : Int32) (hw : (1 ≤ c ∧ c ≤ 10) ∧ (1 ≤ k ∧ k ≤ 24)) (hf : ¬ nl < 20) : CT g M_Ip_makeCores [.ref a, .int c, .int k] [(a, .inr (11, [.ref pa, .ref ta, .ref sa, .ref gs, .ref co, .ref fu, .ref la, .ref gy, .ref du, .ref re, .ref wm, .ref ac])), (co, .inr (1, [.ref co1, .ref co2, .ref co3, .int (nI nl)])), (co1, .inl (0, 20, .inl cn)), (co2, .inl (0, 20, .inl cu)), (co3, .inl (0, 20, .inl ag))] (fun o cs1 => o = .inr "java/lang/IllegalStateException" ∧ cs1 = [(a, .inr (11, [.ref pa, .ref ta, .ref sa, .ref gs, .ref co, .ref fu, .ref la, .ref gy, .ref du, .ref re, .ref wm, .ref ac])), (co, .inr (1, [.ref co1, .ref co2, .ref co3, .int (nI nl)])), (co1, .inl (0, 20, .inl cn)), (co2, .inl (0, 20, .inl cu)), (co3, .inl (0, 20, .inl ag))]) 1 6 := by
  refine z_of (by decide) rfl (Nat.le_of_ble_eq_true rfl) (fun w0 => ?_)
  refine r_lvE (lv2 := [(0, .ref a), (1, .int c), (2, .int k)]) rfl ?_
  refine r_iload_n d_Ip_makeCores_0 rfl 1 rfl ?_
  refine r_iconst d_Ip_makeCores_1 (v := 1) (by decide) ?_
  refine r_bipush d_Ip_makeCores_2 (v := 10) (by decide) ?_
  refine r_callS (As := [.int c, .int 1, .int 10]) (rest := []) (csC := []) (is := []) ln_Ip_203 w_st_Ip_isWithin ok_Ip_makeCores_Ip_isWithin d_Ip_makeCores_4 (C_Ip_isWithin g c 1 10) rfl rfl (Nat.le_of_ble_eq_true rfl) rfl (by decide) (by omega) (by omega) (fun E cs1 hx => ?_) (fun v cs1 hx => ?_)
  · exact absurd hx.1 (by simp)
  · obtain ⟨e1, rfl⟩ := hx
    cases e1
    refine ⟨rfl, ?_⟩
    refine r_st (st2 := [.int (if 1 ≤ c ∧ c ≤ 10 then 1 else 0)]) rfl ?_
    refine r_cs (cs2 := [(a, .inr (11, [.ref pa, .ref ta, .ref sa, .ref gs, .ref co, .ref fu, .ref la, .ref gy, .ref du, .ref re, .ref wm, .ref ac])), (co, .inr (1, [.ref co1, .ref co2, .ref co3, .int (nI nl)])), (co1, .inl (0, 20, .inl cn)), (co2, .inl (0, 20, .inl cu)), (co3, .inl (0, 20, .inl ag))]) rfl ?_
    refine r_if_eq (tgt := 20) d_Ip_makeCores_7 (by decide) (fun c_7 => ?_) (fun c_7 => ?_)
    · exact absurd hw.1 (z_b0 c_7)
    · refine r_iload_n d_Ip_makeCores_10 rfl 2 rfl ?_
      refine r_iconst d_Ip_makeCores_11 (v := 1) (by decide) ?_
      refine r_bipush d_Ip_makeCores_12 (v := 24) (by decide) ?_
      refine r_callS (As := [.int k, .int 1, .int 24]) (rest := []) (csC := []) (is := []) ln_Ip_203 w_st_Ip_isWithin ok_Ip_makeCores_Ip_isWithin d_Ip_makeCores_14 (C_Ip_isWithin g k 1 24) rfl rfl (Nat.le_of_ble_eq_true rfl) rfl (by decide) (by omega) (by omega) (fun E cs1 hx => ?_) (fun v cs1 hx => ?_)
      · exact absurd hx.1 (by simp)
      · obtain ⟨e1, rfl⟩ := hx
        cases e1
        refine ⟨rfl, ?_⟩
        refine r_st (st2 := [.int (if 1 ≤ k ∧ k ≤ 24 then 1 else 0)]) rfl ?_
        refine r_cs (cs2 := [(a, .inr (11, [.ref pa, .ref ta, .ref sa, .ref gs, .ref co, .ref fu, .ref la, .ref gy, .ref du, .ref re, .ref wm, .ref ac])), (co, .inr (1, [.ref co1, .ref co2, .ref co3, .int (nI nl)])), (co1, .inl (0, 20, .inl cn)), (co2, .inl (0, 20, .inl cu)), (co3, .inl (0, 20, .inl ag))]) rfl ?_
        refine r_if_ne (tgt := 30) d_Ip_makeCores_17 (by decide) (fun c_17 => ?_) (fun c_17 => ?_)
        · refine r_aload_n d_Ip_makeCores_30 rfl 0 rfl ?_
          refine r_get fs_Ip_36 d_Ip_makeCores_31 (q0 := 0) rfl rfl ?_
          refine r_callV (As := []) (rest := []) (csC := [(co, .inr (1, [.ref co1, .ref co2, .ref co3, .int (nI nl)])), (co1, .inl (0, 20, .inl cn)), (co2, .inl (0, 20, .inl cu)), (co3, .inl (0, 20, .inl ag))]) (is := [1, 2, 3, 4]) (q0 := 1) rfl rfl ln_Ip_238 w_im_CS_isFull w_se_CS_isFull ok_Ip_makeCores_CS_isFull d_Ip_makeCores_34 (C_CS_isFull g co co1 co2 co3 cn cu ag nl hnl) rfl rfl (Nat.le_of_ble_eq_true rfl) rfl (by decide) (by omega) (by omega) (fun E cs1 hx => ?_) (fun v cs1 hx => ?_)
          · exact absurd hx.1 (by simp)
          · obtain ⟨e1, rfl⟩ := hx
            cases e1
            refine ⟨rfl, ?_⟩
            refine r_st (st2 := [.int (if nl < 20 then 0 else 1)]) rfl ?_
            refine r_cs (cs2 := [(a, .inr (11, [.ref pa, .ref ta, .ref sa, .ref gs, .ref co, .ref fu, .ref la, .ref gy, .ref du, .ref re, .ref wm, .ref ac])), (co, .inr (1, [.ref co1, .ref co2, .ref co3, .int (nI nl)])), (co1, .inl (0, 20, .inl cn)), (co2, .inl (0, 20, .inl cu)), (co3, .inl (0, 20, .inl ag))]) rfl ?_
            refine r_if_eq (tgt := 50) d_Ip_makeCores_37 (by decide) (fun c_37 => ?_) (fun c_37 => ?_)
            · exact absurd ((if_neg hf).symm.trans c_37) one_z
            · refine r_throw tb_Ip_242_246 sr_Ip_244 d_Ip_makeCores_40 d_Ip_makeCores_43 d_Ip_makeCores_44 d_Ip_makeCores_46 d_Ip_makeCores_49 rfl (by decide) (by decide) (Nat.le_of_ble_eq_true rfl) (by omega) (by omega) ?_
              exact ⟨rfl, rfl⟩
        · exact absurd hw.2 (z_b0 c_17)
theorem d_Ip_makeCores_50 : decode prog_1_method_20_code 50 = .ok (.aload_n 0, 1) := zo_42 (zd_b zq_prog_1_method_20_code_1 18 rfl rfl rfl)
theorem d_Ip_makeCores_51 : decode prog_1_method_20_code 51 = .ok (.getfield 36, 3) := zo_180 (d := 0) (e := 36) (zd_b zq_prog_1_method_20_code_1 19 rfl rfl rfl) (zd_b zq_prog_1_method_20_code_1 20 rfl rfl rfl) (zd_b zq_prog_1_method_20_code_1 21 rfl rfl rfl)
theorem d_Ip_makeCores_54 : decode prog_1_method_20_code 54 = .ok (.iload_n 1, 1) := zo_27 (zd_b zq_prog_1_method_20_code_1 22 rfl rfl rfl)
theorem d_Ip_makeCores_55 : decode prog_1_method_20_code 55 = .ok (.iload_n 2, 1) := zo_28 (zd_b zq_prog_1_method_20_code_1 23 rfl rfl rfl)
theorem d_Ip_makeCores_56 : decode prog_1_method_20_code 56 = .ok (.invokevirtual 247, 3) := zo_182 (d := 0) (e := 247) (zd_b zq_prog_1_method_20_code_1 24 rfl rfl rfl) (zd_b zq_prog_1_method_20_code_1 25 rfl rfl rfl) (zd_b zq_prog_1_method_20_code_1 26 rfl rfl rfl)
theorem ok_Ip_makeCores_CS_addLot : z_ok M_Ip_makeCores M_CS_addLot 2 := ⟨z_mj4 (i := 233) rfl (by decide +kernel), rfl, ⟨by decide +kernel, by decide +kernel, by decide +kernel⟩, ⟨by decide, by decide⟩, z_mj1 (i := 6) rfl (by decide +kernel), rfl⟩
theorem ln_Ip_247 : Cond.methodLink "Ironpour" 247 M_CS_addLot.1 ∈ z_gw := z_mj4 (i := 230) rfl (by decide +kernel)
theorem w_im_CS_addLot : Cond.instanceMethod M_CS_addLot.1 ∈ z_gw := z_mj4 (i := 231) rfl (by decide +kernel)
theorem w_se_CS_addLot : Cond.selects M_CS_addLot.1.cls M_CS_addLot.1 M_CS_addLot.1 ∈ z_gw := z_mj4 (i := 232) rfl (by decide +kernel)
theorem d_Ip_makeCores_59 : decode prog_1_method_20_code 59 = .ok (.aload_n 0, 1) := zo_42 (zd_b zq_prog_1_method_20_code_1 27 rfl rfl rfl)
theorem d_Ip_makeCores_60 : decode prog_1_method_20_code 60 = .ok (.getfield 36, 3) := zo_180 (d := 0) (e := 36) (zd_b zq_prog_1_method_20_code_1 28 rfl rfl rfl) (zd_b zq_prog_1_method_20_code_1 29 rfl rfl rfl) (zd_b zq_prog_1_method_20_code_1 30 rfl rfl rfl)
theorem d_Ip_makeCores_63 : decode prog_1_method_20_code 63 = .ok (.invokevirtual 250, 3) := zo_182 (d := 0) (e := 250) (zd_b zq_prog_1_method_20_code_1 31 rfl rfl rfl) (zd_b zq_prog_1_method_20_code_2 0 rfl rfl rfl) (zd_b zq_prog_1_method_20_code_2 1 rfl rfl rfl)
theorem ok_Ip_makeCores_CS_allCores : z_ok M_Ip_makeCores M_CS_allCores 0 := ⟨z_mj4 (i := 237) rfl (by decide +kernel), rfl, ⟨by decide +kernel, by decide +kernel, by decide +kernel⟩, ⟨by decide, by decide⟩, z_mj1 (i := 6) rfl (by decide +kernel), rfl⟩
theorem ln_Ip_250 : Cond.methodLink "Ironpour" 250 M_CS_allCores.1 ∈ z_gw := z_mj4 (i := 234) rfl (by decide +kernel)
theorem w_im_CS_allCores : Cond.instanceMethod M_CS_allCores.1 ∈ z_gw := z_mj4 (i := 235) rfl (by decide +kernel)
theorem w_se_CS_allCores : Cond.selects M_CS_allCores.1.cls M_CS_allCores.1 M_CS_allCores.1 ∈ z_gw := z_mj4 (i := 236) rfl (by decide +kernel)
theorem d_Ip_makeCores_66 : decode prog_1_method_20_code 66 = .ok (.ireturn, 1) := zo_172 (zd_b zq_prog_1_method_20_code_2 2 rfl rfl rfl)
set_option maxHeartbeats 4000000 in
set_option maxRecDepth 100000 in
theorem C_Ip_makeCoresN (g : zG) (a pa ta sa gs co fu la gy du re wm ac : Nat) (co1 co2 co3 : Nat) (cn cu ag : Nat → Int32) (nl : Nat) (hnl : nl ≤ 20) (c k : Int32) (hw : (1 ≤ c ∧ c ≤ 10) ∧ (1 ≤ k ∧ k ≤ 24)) (hf : nl < 20) : CT g M_Ip_makeCores [.ref a, .int c, .int k] [(a, .inr (11, [.ref pa, .ref ta, .ref sa, .ref gs, .ref co, .ref fu, .ref la, .ref gy, .ref du, .ref re, .ref wm, .ref ac])), (co, .inr (1, [.ref co1, .ref co2, .ref co3, .int (nI nl)])), (co1, .inl (0, 20, .inl cn)), (co2, .inl (0, 20, .inl cu)), (co3, .inl (0, 20, .inl ag))] (fun o cs1 => o = .inl (some (.int (bx_sum (upd cn nl c) (nl + 1)))) ∧ cs1 = [(a, .inr (11, [.ref pa, .ref ta, .ref sa, .ref gs, .ref co, .ref fu, .ref la, .ref gy, .ref du, .ref re, .ref wm, .ref ac])), (co, .inr (1, [.ref co1, .ref co2, .ref co3, .int (nI (nl + 1))])), (co1, .inl (0, 20, .inl (upd cn nl c))), (co2, .inl (0, 20, .inl (upd cu nl k))), (co3, .inl (0, 20, .inl (upd ag nl 0)))]) 1 6 := by
  refine z_of (by decide) rfl (Nat.le_of_ble_eq_true rfl) (fun w0 => ?_)
  refine r_lvE (lv2 := [(0, .ref a), (1, .int c), (2, .int k)]) rfl ?_
  refine r_iload_n d_Ip_makeCores_0 rfl 1 rfl ?_
  refine r_iconst d_Ip_makeCores_1 (v := 1) (by decide) ?_
  refine r_bipush d_Ip_makeCores_2 (v := 10) (by decide) ?_
  refine r_callS (As := [.int c, .int 1, .int 10]) (rest := []) (csC := []) (is := []) ln_Ip_203 w_st_Ip_isWithin ok_Ip_makeCores_Ip_isWithin d_Ip_makeCores_4 (C_Ip_isWithin g c 1 10) rfl rfl (Nat.le_of_ble_eq_true rfl) rfl (by decide) (by omega) (by omega) (fun E cs1 hx => ?_) (fun v cs1 hx => ?_)
  · exact absurd hx.1 (by simp)
  · obtain ⟨e1, rfl⟩ := hx
    cases e1
    refine ⟨rfl, ?_⟩
    refine r_st (st2 := [.int (if 1 ≤ c ∧ c ≤ 10 then 1 else 0)]) rfl ?_
    refine r_cs (cs2 := [(a, .inr (11, [.ref pa, .ref ta, .ref sa, .ref gs, .ref co, .ref fu, .ref la, .ref gy, .ref du, .ref re, .ref wm, .ref ac])), (co, .inr (1, [.ref co1, .ref co2, .ref co3, .int (nI nl)])), (co1, .inl (0, 20, .inl cn)), (co2, .inl (0, 20, .inl cu)), (co3, .inl (0, 20, .inl ag))]) rfl ?_
    refine r_if_eq (tgt := 20) d_Ip_makeCores_7 (by decide) (fun c_7 => ?_) (fun c_7 => ?_)
    · exact absurd hw.1 (z_b0 c_7)
    · refine r_iload_n d_Ip_makeCores_10 rfl 2 rfl ?_
      refine r_iconst d_Ip_makeCores_11 (v := 1) (by decide) ?_
      refine r_bipush d_Ip_makeCores_12 (v := 24) (by decide) ?_
      refine r_callS (As := [.int k, .int 1, .int 24]) (rest := []) (csC := []) (is := []) ln_Ip_203 w_st_Ip_isWithin ok_Ip_makeCores_Ip_isWithin d_Ip_makeCores_14 (C_Ip_isWithin g k 1 24) rfl rfl (Nat.le_of_ble_eq_true rfl) rfl (by decide) (by omega) (by omega) (fun E cs1 hx => ?_) (fun v cs1 hx => ?_)
      · exact absurd hx.1 (by simp)
      · obtain ⟨e1, rfl⟩ := hx
        cases e1
        refine ⟨rfl, ?_⟩
        refine r_st (st2 := [.int (if 1 ≤ k ∧ k ≤ 24 then 1 else 0)]) rfl ?_
        refine r_cs (cs2 := [(a, .inr (11, [.ref pa, .ref ta, .ref sa, .ref gs, .ref co, .ref fu, .ref la, .ref gy, .ref du, .ref re, .ref wm, .ref ac])), (co, .inr (1, [.ref co1, .ref co2, .ref co3, .int (nI nl)])), (co1, .inl (0, 20, .inl cn)), (co2, .inl (0, 20, .inl cu)), (co3, .inl (0, 20, .inl ag))]) rfl ?_
        refine r_if_ne (tgt := 30) d_Ip_makeCores_17 (by decide) (fun c_17 => ?_) (fun c_17 => ?_)
        · refine r_aload_n d_Ip_makeCores_30 rfl 0 rfl ?_
          refine r_get fs_Ip_36 d_Ip_makeCores_31 (q0 := 0) rfl rfl ?_
          refine r_callV (As := []) (rest := []) (csC := [(co, .inr (1, [.ref co1, .ref co2, .ref co3, .int (nI nl)])), (co1, .inl (0, 20, .inl cn)), (co2, .inl (0, 20, .inl cu)), (co3, .inl (0, 20, .inl ag))]) (is := [1, 2, 3, 4]) (q0 := 1) rfl rfl ln_Ip_238 w_im_CS_isFull w_se_CS_isFull ok_Ip_makeCores_CS_isFull d_Ip_makeCores_34 (C_CS_isFull g co co1 co2 co3 cn cu ag nl hnl) rfl rfl (Nat.le_of_ble_eq_true rfl) rfl (by decide) (by omega) (by omega) (fun E cs1 hx => ?_) (fun v cs1 hx => ?_)
          · exact absurd hx.1 (by simp)
          · obtain ⟨e1, rfl⟩ := hx
            cases e1
            refine ⟨rfl, ?_⟩
            refine r_st (st2 := [.int (if nl < 20 then 0 else 1)]) rfl ?_
            refine r_cs (cs2 := [(a, .inr (11, [.ref pa, .ref ta, .ref sa, .ref gs, .ref co, .ref fu, .ref la, .ref gy, .ref du, .ref re, .ref wm, .ref ac])), (co, .inr (1, [.ref co1, .ref co2, .ref co3, .int (nI nl)])), (co1, .inl (0, 20, .inl cn)), (co2, .inl (0, 20, .inl cu)), (co3, .inl (0, 20, .inl ag))]) rfl ?_
            refine r_if_eq (tgt := 50) d_Ip_makeCores_37 (by decide) (fun c_37 => ?_) (fun c_37 => ?_)
            · refine r_aload_n d_Ip_makeCores_50 rfl 0 rfl ?_
              refine r_get fs_Ip_36 d_Ip_makeCores_51 (q0 := 0) rfl rfl ?_
              refine r_iload_n d_Ip_makeCores_54 rfl 1 rfl ?_
              refine r_iload_n d_Ip_makeCores_55 rfl 2 rfl ?_
              refine r_callV (As := [.int c, .int k]) (rest := []) (csC := [(co, .inr (1, [.ref co1, .ref co2, .ref co3, .int (nI nl)])), (co1, .inl (0, 20, .inl cn)), (co2, .inl (0, 20, .inl cu)), (co3, .inl (0, 20, .inl ag))]) (is := [1, 2, 3, 4]) (q0 := 1) rfl rfl ln_Ip_247 w_im_CS_addLot w_se_CS_addLot ok_Ip_makeCores_CS_addLot d_Ip_makeCores_56 (C_CS_addLot g co co1 co2 co3 cn cu ag nl hnl hf c k) rfl rfl (Nat.le_of_ble_eq_true rfl) rfl (by decide) (by omega) (by omega) (fun E cs1 hx => ?_) (fun v cs1 hx => ?_)
              · exact absurd hx.1 (by simp)
              · obtain ⟨e1, rfl⟩ := hx
                cases e1
                refine ⟨rfl, ?_⟩
                refine r_st (st2 := []) rfl ?_
                refine r_cs (cs2 := [(a, .inr (11, [.ref pa, .ref ta, .ref sa, .ref gs, .ref co, .ref fu, .ref la, .ref gy, .ref du, .ref re, .ref wm, .ref ac])), (co, .inr (1, [.ref co1, .ref co2, .ref co3, .int (nI (nl + 1))])), (co1, .inl (0, 20, .inl (upd cn nl c))), (co2, .inl (0, 20, .inl (upd cu nl k))), (co3, .inl (0, 20, .inl (upd ag nl 0)))]) rfl ?_
                refine r_aload_n d_Ip_makeCores_59 rfl 0 rfl ?_
                refine r_get fs_Ip_36 d_Ip_makeCores_60 (q0 := 0) rfl rfl ?_
                refine r_callV (As := []) (rest := []) (csC := [(co, .inr (1, [.ref co1, .ref co2, .ref co3, .int (nI (nl + 1))])), (co1, .inl (0, 20, .inl (upd cn nl c))), (co2, .inl (0, 20, .inl (upd cu nl k))), (co3, .inl (0, 20, .inl (upd ag nl 0)))]) (is := [1, 2, 3, 4]) (q0 := 1) rfl rfl ln_Ip_250 w_im_CS_allCores w_se_CS_allCores ok_Ip_makeCores_CS_allCores d_Ip_makeCores_63 (C_CS_allCores g co co1 co2 co3 (upd cn nl c) (upd cu nl k) (upd ag nl 0) (nl + 1) hf) rfl rfl (Nat.le_of_ble_eq_true rfl) rfl (by decide) (by omega) (by omega) (fun E cs1 hx => ?_) (fun v cs1 hx => ?_)
                · exact absurd hx.1 (by simp)
                · obtain ⟨e1, rfl⟩ := hx
                  cases e1
                  refine ⟨rfl, ?_⟩
                  refine r_st (st2 := [.int (bx_sum (upd cn nl c) (nl + 1))]) rfl ?_
                  refine r_cs (cs2 := [(a, .inr (11, [.ref pa, .ref ta, .ref sa, .ref gs, .ref co, .ref fu, .ref la, .ref gy, .ref du, .ref re, .ref wm, .ref ac])), (co, .inr (1, [.ref co1, .ref co2, .ref co3, .int (nI (nl + 1))])), (co1, .inl (0, 20, .inl (upd cn nl c))), (co2, .inl (0, 20, .inl (upd cu nl k))), (co3, .inl (0, 20, .inl (upd ag nl 0)))]) rfl ?_
                  refine r_iret d_Ip_makeCores_66 rfl rfl ?_
                  exact ⟨rfl, rfl⟩
            · exact absurd (if_pos hf) c_37
        · exact absurd hw.2 (z_b0 c_17)
abbrev M_Ip_lastPlace : zM := (⟨"Ironpour", "lastPlace", "(I)I"⟩, prog_1_method_16_code, 3, (Option.some FieldType.int), 7, 136, [])
theorem d_Ip_lastPlace_0 : decode prog_1_method_16_code 0 = .ok (.iload_n 1, 1) := zo_27 (zd_b zq_prog_1_method_16_code_0 0 rfl rfl rfl)
theorem d_Ip_lastPlace_1 : decode prog_1_method_16_code 1 = .ok (.invokestatic 158, 3) := zo_184 (d := 0) (e := 158) (zd_b zq_prog_1_method_16_code_0 1 rfl rfl rfl) (zd_b zq_prog_1_method_16_code_0 2 rfl rfl rfl) (zd_b zq_prog_1_method_16_code_0 3 rfl rfl rfl)
theorem ok_Ip_lastPlace_Ip_checkHeat : z_ok M_Ip_lastPlace M_Ip_checkHeat 1 := ⟨z_mj4 (i := 94) rfl (by decide +kernel), rfl, ⟨by decide +kernel, by decide +kernel, by decide +kernel⟩, ⟨by decide, by decide⟩, z_mj1 (i := 1) rfl (by decide +kernel), rfl⟩
set_option maxHeartbeats 4000000 in
set_option maxRecDepth 100000 in
theorem C_Ip_lastPlaceE (g : zG) (a pa ta sa gs co fu la gy du re wm ac : Nat) (ta1 ta2 taz taz1 taz2 taz3 taz4 taz5 taz6 ta4 ta5 ta6 : Nat) (X : zTr) (h : Int32) (hh : ¬ (1200 ≤ h ∧ h ≤ 1500)) : CT g M_Ip_lastPlace [.ref a, .int h] [(a, .inr (11, [.ref pa, .ref ta, .ref sa, .ref gs, .ref co, .ref fu, .ref la, .ref gy, .ref du, .ref re, .ref wm, .ref ac])), (ta, .inr (10, [.ref ta1, .ref ta2, .ref taz, .ref ta4, .ref ta5, .ref ta6, .int X.1.2.2.1, .int X.1.2.2.2])), (ta1, .inl (1, 108, .inl X.1.1)), (ta2, .inl (0, 108, .inl X.1.2.1)), (taz, .inr (2, [.ref taz1, .ref taz2, .ref taz3, .ref taz4, .ref taz5, .ref taz6, .int X.2.1.1.1.2.2.2])), (taz1, .inl (0, 108, .inl X.2.1.1.1.1)), (taz2, .inl (0, 108, .inl X.2.1.1.2)), (taz3, .inl (0, 108, .inl X.2.1.1.1.2.1)), (taz4, .inl (0, 108, .inl X.2.1.1.1.2.2.1)), (taz5, .inl (0, 108, .inl X.2.1.2.1)), (taz6, .inl (0, 108, .inl X.2.1.2.2)), (ta4, .inl (2, 108, .inl X.2.2.1)), (ta5, .inl (2, 108, .inl X.2.2.2.1)), (ta6, .inl (0, 108, .inl (fun k => nI (X.2.2.2.2 k))))] (fun o cs1 => o = .inr "java/lang/IllegalArgumentException" ∧ cs1 = [(a, .inr (11, [.ref pa, .ref ta, .ref sa, .ref gs, .ref co, .ref fu, .ref la, .ref gy, .ref du, .ref re, .ref wm, .ref ac])), (ta, .inr (10, [.ref ta1, .ref ta2, .ref taz, .ref ta4, .ref ta5, .ref ta6, .int X.1.2.2.1, .int X.1.2.2.2])), (ta1, .inl (1, 108, .inl X.1.1)), (ta2, .inl (0, 108, .inl X.1.2.1)), (taz, .inr (2, [.ref taz1, .ref taz2, .ref taz3, .ref taz4, .ref taz5, .ref taz6, .int X.2.1.1.1.2.2.2])), (taz1, .inl (0, 108, .inl X.2.1.1.1.1)), (taz2, .inl (0, 108, .inl X.2.1.1.2)), (taz3, .inl (0, 108, .inl X.2.1.1.1.2.1)), (taz4, .inl (0, 108, .inl X.2.1.1.1.2.2.1)), (taz5, .inl (0, 108, .inl X.2.1.2.1)), (taz6, .inl (0, 108, .inl X.2.1.2.2)), (ta4, .inl (2, 108, .inl X.2.2.1)), (ta5, .inl (2, 108, .inl X.2.2.2.1)), (ta6, .inl (0, 108, .inl (fun k => nI (X.2.2.2.2 k))))]) 1 6 := by
  refine z_of (by decide) rfl (Nat.le_of_ble_eq_true rfl) (fun w0 => ?_)
  refine r_lvE (lv2 := [(0, .ref a), (1, .int h)]) rfl ?_
  refine r_iload_n d_Ip_lastPlace_0 rfl 1 rfl ?_
  refine r_callS (As := [.int h]) (rest := []) (csC := []) (is := []) ln_Ip_158 w_st_Ip_checkHeat ok_Ip_lastPlace_Ip_checkHeat d_Ip_lastPlace_1 (C_Ip_checkHeat g h) rfl rfl (Nat.le_of_ble_eq_true rfl) rfl (by decide) (by omega) (by omega) (fun E cs1 hx => ?_) (fun v cs1 hx => ?_)
  · simp only [if_neg hh] at hx
    obtain ⟨e1, rfl⟩ := hx
    cases e1
    exact ⟨rfl, rfl, rfl⟩
  · simp only [if_neg hh] at hx
    exact absurd hx.1 (by simp)
abbrev M_Ip_shrunkAnew : zM := (⟨"Ironpour", "shrunkAnew", "(I)I"⟩, prog_1_method_15_code, 2, (Option.some FieldType.int), 7, 136, [])
theorem d_Ip_shrunkAnew_0 : decode prog_1_method_15_code 0 = .ok (.iload_n 1, 1) := zo_27 (zd_b zq_prog_1_method_15_code_0 0 rfl rfl rfl)
theorem d_Ip_shrunkAnew_1 : decode prog_1_method_15_code 1 = .ok (.invokestatic 158, 3) := zo_184 (d := 0) (e := 158) (zd_b zq_prog_1_method_15_code_0 1 rfl rfl rfl) (zd_b zq_prog_1_method_15_code_0 2 rfl rfl rfl) (zd_b zq_prog_1_method_15_code_0 3 rfl rfl rfl)
theorem ok_Ip_shrunkAnew_Ip_checkHeat : z_ok M_Ip_shrunkAnew M_Ip_checkHeat 1 := ⟨z_mj4 (i := 94) rfl (by decide +kernel), rfl, ⟨by decide +kernel, by decide +kernel, by decide +kernel⟩, ⟨by decide, by decide⟩, z_mj1 (i := 1) rfl (by decide +kernel), rfl⟩
set_option maxHeartbeats 4000000 in
set_option maxRecDepth 100000 in
theorem C_Ip_shrunkAnewE (g : zG) (a pa ta sa gs co fu la gy du re wm ac : Nat) (ta1 ta2 taz taz1 taz2 taz3 taz4 taz5 taz6 ta4 ta5 ta6 : Nat) (X : zTr) (h : Int32) (hh : ¬ (1200 ≤ h ∧ h ≤ 1500)) : CT g M_Ip_shrunkAnew [.ref a, .int h] [(a, .inr (11, [.ref pa, .ref ta, .ref sa, .ref gs, .ref co, .ref fu, .ref la, .ref gy, .ref du, .ref re, .ref wm, .ref ac])), (ta, .inr (10, [.ref ta1, .ref ta2, .ref taz, .ref ta4, .ref ta5, .ref ta6, .int X.1.2.2.1, .int X.1.2.2.2])), (ta1, .inl (1, 108, .inl X.1.1)), (ta2, .inl (0, 108, .inl X.1.2.1)), (taz, .inr (2, [.ref taz1, .ref taz2, .ref taz3, .ref taz4, .ref taz5, .ref taz6, .int X.2.1.1.1.2.2.2])), (taz1, .inl (0, 108, .inl X.2.1.1.1.1)), (taz2, .inl (0, 108, .inl X.2.1.1.2)), (taz3, .inl (0, 108, .inl X.2.1.1.1.2.1)), (taz4, .inl (0, 108, .inl X.2.1.1.1.2.2.1)), (taz5, .inl (0, 108, .inl X.2.1.2.1)), (taz6, .inl (0, 108, .inl X.2.1.2.2)), (ta4, .inl (2, 108, .inl X.2.2.1)), (ta5, .inl (2, 108, .inl X.2.2.2.1)), (ta6, .inl (0, 108, .inl (fun k => nI (X.2.2.2.2 k))))] (fun o cs1 => o = .inr "java/lang/IllegalArgumentException" ∧ cs1 = [(a, .inr (11, [.ref pa, .ref ta, .ref sa, .ref gs, .ref co, .ref fu, .ref la, .ref gy, .ref du, .ref re, .ref wm, .ref ac])), (ta, .inr (10, [.ref ta1, .ref ta2, .ref taz, .ref ta4, .ref ta5, .ref ta6, .int X.1.2.2.1, .int X.1.2.2.2])), (ta1, .inl (1, 108, .inl X.1.1)), (ta2, .inl (0, 108, .inl X.1.2.1)), (taz, .inr (2, [.ref taz1, .ref taz2, .ref taz3, .ref taz4, .ref taz5, .ref taz6, .int X.2.1.1.1.2.2.2])), (taz1, .inl (0, 108, .inl X.2.1.1.1.1)), (taz2, .inl (0, 108, .inl X.2.1.1.2)), (taz3, .inl (0, 108, .inl X.2.1.1.1.2.1)), (taz4, .inl (0, 108, .inl X.2.1.1.1.2.2.1)), (taz5, .inl (0, 108, .inl X.2.1.2.1)), (taz6, .inl (0, 108, .inl X.2.1.2.2)), (ta4, .inl (2, 108, .inl X.2.2.1)), (ta5, .inl (2, 108, .inl X.2.2.2.1)), (ta6, .inl (0, 108, .inl (fun k => nI (X.2.2.2.2 k))))]) 1 6 := by
  refine z_of (by decide) rfl (Nat.le_of_ble_eq_true rfl) (fun w0 => ?_)
  refine r_lvE (lv2 := [(0, .ref a), (1, .int h)]) rfl ?_
  refine r_iload_n d_Ip_shrunkAnew_0 rfl 1 rfl ?_
  refine r_callS (As := [.int h]) (rest := []) (csC := []) (is := []) ln_Ip_158 w_st_Ip_checkHeat ok_Ip_shrunkAnew_Ip_checkHeat d_Ip_shrunkAnew_1 (C_Ip_checkHeat g h) rfl rfl (Nat.le_of_ble_eq_true rfl) rfl (by decide) (by omega) (by omega) (fun E cs1 hx => ?_) (fun v cs1 hx => ?_)
  · simp only [if_neg hh] at hx
    obtain ⟨e1, rfl⟩ := hx
    cases e1
    exact ⟨rfl, rfl, rfl⟩
  · simp only [if_neg hh] at hx
    exact absurd hx.1 (by simp)

