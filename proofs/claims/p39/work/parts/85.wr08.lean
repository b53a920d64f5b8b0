theorem d_Lw_poolHas_9 : decode method_28_code 9 = .ok (.lastore, 1) := zo_80 (zd_b zq_method_28_code_0 9 rfl rfl rfl)
theorem d_Lw_poolHas_10 : decode method_28_code 10 = .ok (.goto 11, 3) := zo_167 (d := 0) (e := 11) (zd_b zq_method_28_code_0 10 rfl rfl rfl) (zd_b zq_method_28_code_0 11 rfl rfl rfl) (zd_b zq_method_28_code_0 12 rfl rfl rfl) (by decide +kernel)
theorem d_Lw_poolHas_21 : decode method_28_code 21 = .ok (.iconst 0, 1) := zo_3 (zd_b zq_method_28_code_0 21 rfl rfl rfl)
theorem d_Lw_poolHas_22 : decode method_28_code 22 = .ok (.ireturn, 1) := zo_172 (zd_b zq_method_28_code_0 22 rfl rfl rfl)
set_option maxHeartbeats 4000000 in
set_option maxRecDepth 100000 in
theorem W_poolHas {g : zG} {ad : Nat → Nat} {t : zTT} {u : zNN} {w : zW} (hI : IVm g ad t u w) (k0 k : Int32) : zMB g M_Lw_poolHas [.ref (ad 0), .int k0, .int k, .ref (ad 69)] w (fun o w1 => MKx g ad t u.1 o w1) 10 300 := by
  obtain ⟨s, hI⟩ := hI
  obtain ⟨e_a, wf_a, k_a⟩ := hI.1.2 0 (by decide)
  obtain rfl := kd_0.mp k_a
  obtain ⟨e_o1, wf_o1, k_o1⟩ := hI.1.2 69 (by decide)
  obtain rfl := kd_69.mp k_o1
  refine y_ofH (by decide) (by decide) (Nat.le_of_ble_eq_true rfl) (y_base (cs := [((ad 0), .inr (11, [.ref (ad 1), .ref (ad 5), .ref (ad 18), .ref (ad 31), .ref (ad 32), .ref (ad 36), .ref (ad 42), .ref (ad 45), .ref (ad 47), .ref (ad 49), .ref (ad 50), .ref (ad 51)])), ((ad 69), .inl (3, 1, .inr (.inl (((mg t s).1 69).2.1))))]) (hI.1.I [0, 69] _ rfl (by decide) (by decide) (List.forall_mem_cons.mpr ⟨wf_a, (List.forall_mem_cons.mpr ⟨wf_o1, (fun _ h => nomatch h)⟩)⟩)) ?_)
  refine y_lvE (lv2 := [(0, .ref (ad 0)), (1, .int k0), (2, .int k), (3, .ref (ad 69))]) rfl ?_
  refine y_aload_n d_Lw_poolHas_0 rfl 3 rfl ?_
  refine y_iconst d_Lw_poolHas_1 (v := 0) (by decide) ?_
  refine y_aload_n d_Lw_poolHas_2 rfl 0 rfl ?_
  refine y_iload_n d_Lw_poolHas_3 rfl 1 rfl ?_
  refine y_iload_n d_Lw_poolHas_4 rfl 2 rfl ?_
  refine yw_callVH (As := [.int k0, .int k]) (rest := [.int 0, .ref (ad 69)]) (q0 := 0) rfl rfl ln_Lw_104 w_im_Ip_poolHas w_se_Ip_poolHas ok_Lw_poolHas_Ip_poolHas d_Lw_poolHas_5 (fun wA hA => K_Ip_poolHas ⟨_, (hI.gen (t2 := (mg t s)) (is := [0, 69]) (L2 := []) hA rfl ⟨kd_0.mpr rfl, kd_69.mpr rfl, trivial⟩ (by decide) (by decide) (fun _ h => nomatch h) (fun _ h => nomatch h) (fun _ _ _ => rfl) (fun h => h) rfl)⟩ k0 k) rfl rfl (Nat.le_of_ble_eq_true rfl) (by omega) (by omega) (fun wA5 hA5 E wB5 hx => ?_) (fun wA5 hA5 v wB5 hx => ?_)
  · obtain ⟨h1, u2, hu, hI2⟩ := hx
    rcases List.mem_cons.mp (zriE h1) with rfl | g2
    · refine ⟨"java/lang/IllegalArgumentException", [], [(0, 10, 17, 33)], (0, 10, 13, 13), rfl, (fun z hz => nomatch hz), by decide, by decide, lx_Lw_13, ce_13, fun qx => ?_⟩
      refine y_base (cs := []) (z_I.nil wB5) ?_
      refine y_astore (lv' := [(4, .ref qx), (0, .ref (ad 0)), (1, .int k0), (2, .int k), (3, .ref (ad 69))]) d_Lw_poolHas_13 (by decide) rfl ?_
      refine y_iconst d_Lw_poolHas_15 (v := 1) (by decide) ?_
      refine y_iret d_Lw_poolHas_16 rfl rfl ?_
      exact fun w1 h1 => ⟨⟨_, rfl⟩, u2, hu, (z_I.same (z_I.nil _) h1).symm ▸ hI2⟩
    · obtain rfl := List.mem_singleton.mp g2
      refine ⟨"java/util/NoSuchElementException", [(0, 10, 13, 13)], [], (0, 10, 17, 33), rfl, (fun z hz => by simp only [List.mem_cons, List.not_mem_nil, or_false] at hz; rcases hz with rfl; exact Or.inr ⟨by decide, _, lx_Lw_13, by decide⟩), by decide, by decide, lx_Lw_33, ce_33, fun qx => ?_⟩
      refine y_base (cs := []) (z_I.nil wB5) ?_
      refine y_astore (lv' := [(4, .ref qx), (0, .ref (ad 0)), (1, .int k0), (2, .int k), (3, .ref (ad 69))]) d_Lw_poolHas_17 (by decide) rfl ?_
      refine y_iconst d_Lw_poolHas_19 (v := 2) (by decide) ?_
      refine y_iret d_Lw_poolHas_20 rfl rfl ?_
      exact fun w1 h1 => ⟨⟨_, rfl⟩, u2, hu, (z_I.same (z_I.nil _) h1).symm ▸ hI2⟩
  · obtain ⟨h1, u2, hu, hI2⟩ := hx
    obtain ⟨v9, rfl⟩ := zriV h1
    refine yw_st (st2 := [.int v9, .int 0, .ref (ad 69)]) rfl ?_
    obtain ⟨s9, hI⟩ := hI2
    obtain ⟨e_o1, wf_o1, k_o1⟩ := hI.1.2 69 (by decide)
    obtain rfl := kd_69.mp k_o1
    refine y_base (cs := [((ad 69), .inl (3, 1, .inr (.inl (((mg t s9).1 69).2.1))))]) (hI.1.I [69] _ rfl (by decide) (by decide) (List.forall_mem_cons.mpr ⟨wf_o1, (fun _ h => nomatch h)⟩)) ?_
    refine y_i2l d_Lw_poolHas_8 (v := v9.toInt64) rfl ?_
    refine y_last d_Lw_poolHas_9 (q0 := 0) rfl (fun q => q.elim (by decide) (by decide)) (f' := vp_updL (((mg t s9).1 69).2.1) 0 v9.toInt64) rfl (cs' := [((ad 69), .inl (3, 1, .inr (.inl (vp_updL (((mg t s9).1 69).2.1) 0 v9.toInt64))))]) rfl ?_
    refine y_goto (tgt := 21) d_Lw_poolHas_10 (by decide) ?_
    refine y_iconst d_Lw_poolHas_21 (v := 0) (by decide) ?_
    refine y_iret d_Lw_poolHas_22 rfl rfl ?_
    exact fun w1 h1 => ⟨⟨_, rfl⟩, u2, hu, IVm.tz ((hI.gen (t2 := (zup (mg t s9).1 [(69, (((mg t s9).1 69).1, vp_updL (((mg t s9).1 69).2.1) 0 v9.toInt64, ((mg t s9).1 69).2.2))], (mg t s9).2)) (is := [69]) (L2 := []) h1 rfl ⟨kd_69.mpr rfl, trivial⟩ (by decide) (by decide) (fun _ h => nomatch h) (fun _ h => nomatch h) (fun i hi hn => zup_out (fun q => hn ((by decide : ∀ j ∈ ([69] : List Nat), j ∈ ([69] : List Nat)) i q))) (fun h => h) rfl)) (tx_all rfl)⟩
abbrev M_Lw_leastCost : zM := (⟨"IronpourLaw", "leastCost", "(LIronpour;IIIIII[J)I"⟩, method_29_code, 9, (Option.some FieldType.int), 7, 127, [((0 : Nat), (18 : Nat), (21 : Nat), (13 : Nat)), ((0 : Nat), (18 : Nat), (25 : Nat), (33 : Nat))])
theorem d_Lw_leastCost_0 : decode method_29_code 0 = .ok (.aload 7, 2) := zo_25 (d := 7) (zd_b zq_method_29_code_0 0 rfl rfl rfl) (zd_b zq_method_29_code_0 1 rfl rfl rfl)
theorem d_Lw_leastCost_2 : decode method_29_code 2 = .ok (.iconst 0, 1) := zo_3 (zd_b zq_method_29_code_0 2 rfl rfl rfl)
theorem d_Lw_leastCost_3 : decode method_29_code 3 = .ok (.aload_n 0, 1) := zo_42 (zd_b zq_method_29_code_0 3 rfl rfl rfl)
theorem d_Lw_leastCost_4 : decode method_29_code 4 = .ok (.iload_n 1, 1) := zo_27 (zd_b zq_method_29_code_0 4 rfl rfl rfl)
theorem d_Lw_leastCost_5 : decode method_29_code 5 = .ok (.iload_n 2, 1) := zo_28 (zd_b zq_method_29_code_0 5 rfl rfl rfl)
theorem d_Lw_leastCost_6 : decode method_29_code 6 = .ok (.iload_n 3, 1) := zo_29 (zd_b zq_method_29_code_0 6 rfl rfl rfl)
theorem d_Lw_leastCost_7 : decode method_29_code 7 = .ok (.iload 4, 2) := zo_21 (d := 4) (zd_b zq_method_29_code_0 7 rfl rfl rfl) (zd_b zq_method_29_code_0 8 rfl rfl rfl)
theorem d_Lw_leastCost_9 : decode method_29_code 9 = .ok (.iload 5, 2) := zo_21 (d := 5) (zd_b zq_method_29_code_0 9 rfl rfl rfl) (zd_b zq_method_29_code_0 10 rfl rfl rfl)
theorem d_Lw_leastCost_11 : decode method_29_code 11 = .ok (.iload 6, 2) := zo_21 (d := 6) (zd_b zq_method_29_code_0 11 rfl rfl rfl) (zd_b zq_method_29_code_0 12 rfl rfl rfl)
theorem d_Lw_leastCost_13 : decode method_29_code 13 = .ok (.invokevirtual 108, 3) := zo_182 (d := 0) (e := 108) (zd_b zq_method_29_code_0 13 rfl rfl rfl) (zd_b zq_method_29_code_0 14 rfl rfl rfl) (zd_b zq_method_29_code_0 15 rfl rfl rfl)
theorem ok_Lw_leastCost_Ip_leastCost : z_okH M_Lw_leastCost M_Ip_leastCost 6 := ⟨z_mj5 (i := 184) rfl (by decide +kernel), rfl, ⟨by decide +kernel, by decide +kernel, by decide +kernel⟩, ⟨by decide, by decide⟩, z_mj1 (i := 1) rfl (by decide +kernel)⟩
theorem ln_Lw_108 : Cond.methodLink "IronpourLaw" 108 M_Ip_leastCost.1 ∈ z_gw := z_mj5 (i := 181) rfl (by decide +kernel)
theorem w_im_Ip_leastCost : Cond.instanceMethod M_Ip_leastCost.1 ∈ z_gw := z_mj5 (i := 182) rfl (by decide +kernel)
theorem w_se_Ip_leastCost : Cond.selects M_Ip_leastCost.1.cls M_Ip_leastCost.1 M_Ip_leastCost.1 ∈ z_gw := z_mj5 (i := 183) rfl (by decide +kernel)
theorem d_Lw_leastCost_21 : decode method_29_code 21 = .ok (.astore 8, 2) := zo_58 (d := 8) (zd_b zq_method_29_code_0 21 rfl rfl rfl) (zd_b zq_method_29_code_0 22 rfl rfl rfl)
theorem d_Lw_leastCost_23 : decode method_29_code 23 = .ok (.iconst 1, 1) := zo_4 (zd_b zq_method_29_code_0 23 rfl rfl rfl)
theorem d_Lw_leastCost_24 : decode method_29_code 24 = .ok (.ireturn, 1) := zo_172 (zd_b zq_method_29_code_0 24 rfl rfl rfl)
theorem d_Lw_leastCost_25 : decode method_29_code 25 = .ok (.astore 8, 2) := zo_58 (d := 8) (zd_b zq_method_29_code_0 25 rfl rfl rfl) (zd_b zq_method_29_code_0 26 rfl rfl rfl)
theorem d_Lw_leastCost_27 : decode method_29_code 27 = .ok (.iconst 2, 1) := zo_5 (zd_b zq_method_29_code_0 27 rfl rfl rfl)
theorem d_Lw_leastCost_28 : decode method_29_code 28 = .ok (.ireturn, 1) := zo_172 (zd_b zq_method_29_code_0 28 rfl rfl rfl)
theorem d_Lw_leastCost_16 : decode method_29_code 16 = .ok (.i2l, 1) := zo_133 (zd_b zq_method_29_code_0 16 rfl rfl rfl)
theorem d_Lw_leastCost_17 : decode method_29_code 17 = .ok (.lastore, 1) := zo_80 (zd_b zq_method_29_code_0 17 rfl rfl rfl)
theorem d_Lw_leastCost_18 : decode method_29_code 18 = .ok (.goto 11, 3) := zo_167 (d := 0) (e := 11) (zd_b zq_method_29_code_0 18 rfl rfl rfl) (zd_b zq_method_29_code_0 19 rfl rfl rfl) (zd_b zq_method_29_code_0 20 rfl rfl rfl) (by decide +kernel)
theorem d_Lw_leastCost_29 : decode method_29_code 29 = .ok (.iconst 0, 1) := zo_3 (zd_b zq_method_29_code_0 29 rfl rfl rfl)
theorem d_Lw_leastCost_30 : decode method_29_code 30 = .ok (.ireturn, 1) := zo_172 (zd_b zq_method_29_code_0 30 rfl rfl rfl)
set_option maxHeartbeats 4000000 in
set_option maxRecDepth 100000 in
theorem W_leastCost {g : zG} {ad : Nat → Nat} {t : zTT} {u : zNN} {w : zW} (hI : IVm g ad t u w) (x1 x2 x3 x4 x5 x6 : Int32) : zMB g M_Lw_leastCost [.ref (ad 0), .int x1, .int x2, .int x3, .int x4, .int x5, .int x6, .ref (ad 69)] w (fun o w1 => MKx g ad (tK_Ip_leastCost x1 x2 x3 x4 x5 x6 t) u.1 o w1) 10 300 := by
  obtain ⟨s, hI⟩ := hI
  obtain ⟨e_a, wf_a, k_a⟩ := hI.1.2 0 (by decide)
  obtain rfl := kd_0.mp k_a
  obtain ⟨e_o1, wf_o1, k_o1⟩ := hI.1.2 69 (by decide)
  obtain rfl := kd_69.mp k_o1
  refine y_ofH (by decide) (by decide) (Nat.le_of_ble_eq_true rfl) (y_base (cs := [((ad 0), .inr (11, [.ref (ad 1), .ref (ad 5), .ref (ad 18), .ref (ad 31), .ref (ad 32), .ref (ad 36), .ref (ad 42), .ref (ad 45), .ref (ad 47), .ref (ad 49), .ref (ad 50), .ref (ad 51)])), ((ad 69), .inl (3, 1, .inr (.inl (((mg t s).1 69).2.1))))]) (hI.1.I [0, 69] _ rfl (by decide) (by decide) (List.forall_mem_cons.mpr ⟨wf_a, (List.forall_mem_cons.mpr ⟨wf_o1, (fun _ h => nomatch h)⟩)⟩)) ?_)
  refine y_lvE (lv2 := [(0, .ref (ad 0)), (1, .int x1), (2, .int x2), (3, .int x3), (4, .int x4), (5, .int x5), (6, .int x6), (7, .ref (ad 69))]) rfl ?_
  refine y_aload d_Lw_leastCost_0 7 rfl ?_
  refine y_iconst d_Lw_leastCost_2 (v := 0) (by decide) ?_
  refine y_aload_n d_Lw_leastCost_3 rfl 0 rfl ?_
  refine y_iload_n d_Lw_leastCost_4 rfl 1 rfl ?_
  refine y_iload_n d_Lw_leastCost_5 rfl 2 rfl ?_
  refine y_iload_n d_Lw_leastCost_6 rfl 3 rfl ?_
  refine y_iload d_Lw_leastCost_7 4 rfl ?_
  refine y_iload d_Lw_leastCost_9 5 rfl ?_
  refine y_iload d_Lw_leastCost_11 6 rfl ?_
  refine yw_callVH (As := [.int x1, .int x2, .int x3, .int x4, .int x5, .int x6]) (rest := [.int 0, .ref (ad 69)]) (q0 := 0) rfl rfl ln_Lw_108 w_im_Ip_leastCost w_se_Ip_leastCost ok_Lw_leastCost_Ip_leastCost d_Lw_leastCost_13 (fun wA hA => K_Ip_leastCost ⟨_, (hI.gen (t2 := (mg t s)) (is := [0, 69]) (L2 := []) hA rfl ⟨kd_0.mpr rfl, kd_69.mpr rfl, trivial⟩ (by decide) (by decide) (fun _ h => nomatch h) (fun _ h => nomatch h) (fun _ _ _ => rfl) (fun h => h) rfl)⟩ x1 x2 x3 x4 x5 x6) rfl rfl (Nat.le_of_ble_eq_true rfl) (by omega) (by omega) (fun wA13 hA13 E wB13 hx => ?_) (fun wA13 hA13 v wB13 hx => ?_)
  · obtain ⟨h1, u2, hu, hI2⟩ := hx
    rcases List.mem_cons.mp (zriE h1) with rfl | g2
    · refine ⟨"java/lang/IllegalArgumentException", [], [(0, 18, 25, 33)], (0, 18, 21, 13), rfl, (fun z hz => nomatch hz), by decide, by decide, lx_Lw_13, ce_13, fun qx => ?_⟩
      refine y_base (cs := []) (z_I.nil wB13) ?_
      refine y_astore (lv' := [(8, .ref qx), (0, .ref (ad 0)), (1, .int x1), (2, .int x2), (3, .int x3), (4, .int x4), (5, .int x5), (6, .int x6), (7, .ref (ad 69))]) d_Lw_leastCost_21 (by decide) rfl ?_
      refine y_iconst d_Lw_leastCost_23 (v := 1) (by decide) ?_
      refine y_iret d_Lw_leastCost_24 rfl rfl ?_
      exact fun w1 h1 => ⟨⟨_, rfl⟩, u2, hu, (z_I.same (z_I.nil _) h1).symm ▸ hI2⟩
    · obtain rfl := List.mem_singleton.mp g2
      refine ⟨"java/util/NoSuchElementException", [(0, 18, 21, 13)], [], (0, 18, 25, 33), rfl, (fun z hz => by simp only [List.mem_cons, List.not_mem_nil, or_false] at hz; rcases hz with rfl; exact Or.inr ⟨by decide, _, lx_Lw_13, by decide⟩), by decide, by decide, lx_Lw_33, ce_33, fun qx => ?_⟩
      refine y_base (cs := []) (z_I.nil wB13) ?_
      refine y_astore (lv' := [(8, .ref qx), (0, .ref (ad 0)), (1, .int x1), (2, .int x2), (3, .int x3), (4, .int x4), (5, .int x5), (6, .int x6), (7, .ref (ad 69))]) d_Lw_leastCost_25 (by decide) rfl ?_
      refine y_iconst d_Lw_leastCost_27 (v := 2) (by decide) ?_
      refine y_iret d_Lw_leastCost_28 rfl rfl ?_
      exact fun w1 h1 => ⟨⟨_, rfl⟩, u2, hu, (z_I.same (z_I.nil _) h1).symm ▸ hI2⟩
  · obtain ⟨h1, u2, hu, hI2⟩ := hx
    obtain ⟨v9, rfl⟩ := zriV h1
    refine yw_st (st2 := [.int v9, .int 0, .ref (ad 69)]) rfl ?_
    obtain ⟨s9, hI⟩ := hI2
    obtain ⟨e_o1, wf_o1, k_o1⟩ := hI.1.2 69 (by decide)
    obtain rfl := kd_69.mp k_o1
    refine y_base (cs := [((ad 69), .inl (3, 1, .inr (.inl (((mg (tK_Ip_leastCost x1 x2 x3 x4 x5 x6 t) s9).1 69).2.1))))]) (hI.1.I [69] _ rfl (by decide) (by decide) (List.forall_mem_cons.mpr ⟨wf_o1, (fun _ h => nomatch h)⟩)) ?_
    refine y_i2l d_Lw_leastCost_16 (v := v9.toInt64) rfl ?_
    refine y_last d_Lw_leastCost_17 (q0 := 0) rfl (fun q => q.elim (by decide) (by decide)) (f' := vp_updL (((mg (tK_Ip_leastCost x1 x2 x3 x4 x5 x6 t) s9).1 69).2.1) 0 v9.toInt64) rfl (cs' := [((ad 69), .inl (3, 1, .inr (.inl (vp_updL (((mg (tK_Ip_leastCost x1 x2 x3 x4 x5 x6 t) s9).1 69).2.1) 0 v9.toInt64))))]) rfl ?_
    refine y_goto (tgt := 29) d_Lw_leastCost_18 (by decide) ?_
    refine y_iconst d_Lw_leastCost_29 (v := 0) (by decide) ?_
    refine y_iret d_Lw_leastCost_30 rfl rfl ?_
    exact fun w1 h1 => ⟨⟨_, rfl⟩, u2, hu, IVm.tz ((hI.gen (t2 := (zup (mg (tK_Ip_leastCost x1 x2 x3 x4 x5 x6 t) s9).1 [(69, (((mg (tK_Ip_leastCost x1 x2 x3 x4 x5 x6 t) s9).1 69).1, vp_updL (((mg (tK_Ip_leastCost x1 x2 x3 x4 x5 x6 t) s9).1 69).2.1) 0 v9.toInt64, ((mg (tK_Ip_leastCost x1 x2 x3 x4 x5 x6 t) s9).1 69).2.2))], (mg (tK_Ip_leastCost x1 x2 x3 x4 x5 x6 t) s9).2)) (is := [69]) (L2 := []) h1 rfl ⟨kd_69.mpr rfl, trivial⟩ (by decide) (by decide) (fun _ h => nomatch h) (fun _ h => nomatch h) (fun i hi hn => zup_out (fun q => hn ((by decide : ∀ j ∈ ([69] : List Nat), j ∈ ([69] : List Nat)) i q))) (fun h => h) rfl)) (tx_all rfl)⟩
abbrev M_Lw_cheapest : zM := (⟨"IronpourLaw", "cheapest", "(LIronpour;C[J)I"⟩, method_30_code, 4, (Option.some FieldType.int), 9, 200, [((0 : Nat), (9 : Nat), (12 : Nat), (13 : Nat)), ((0 : Nat), (9 : Nat), (15 : Nat), (69 : Nat))])
theorem d_Lw_cheapest_0 : decode method_30_code 0 = .ok (.aload_n 2, 1) := zo_44 (zd_b zq_method_30_code_0 0 rfl rfl rfl)
theorem d_Lw_cheapest_1 : decode method_30_code 1 = .ok (.iconst 0, 1) := zo_3 (zd_b zq_method_30_code_0 1 rfl rfl rfl)
theorem d_Lw_cheapest_2 : decode method_30_code 2 = .ok (.aload_n 0, 1) := zo_42 (zd_b zq_method_30_code_0 2 rfl rfl rfl)
theorem d_Lw_cheapest_3 : decode method_30_code 3 = .ok (.iload_n 1, 1) := zo_27 (zd_b zq_method_30_code_0 3 rfl rfl rfl)
theorem d_Lw_cheapest_4 : decode method_30_code 4 = .ok (.invokevirtual 112, 3) := zo_182 (d := 0) (e := 112) (zd_b zq_method_30_code_0 4 rfl rfl rfl) (zd_b zq_method_30_code_0 5 rfl rfl rfl) (zd_b zq_method_30_code_0 6 rfl rfl rfl)
theorem ok_Lw_cheapest_Ip_cheapest : z_okH M_Lw_cheapest M_Ip_cheapest 1 := ⟨z_mj5 (i := 204) rfl (by decide +kernel), rfl, ⟨by decide +kernel, by decide +kernel, by decide +kernel⟩, ⟨by decide, by decide⟩, z_mj1 (i := 1) rfl (by decide +kernel)⟩
theorem ln_Lw_112 : Cond.methodLink "IronpourLaw" 112 M_Ip_cheapest.1 ∈ z_gw := z_mj5 (i := 201) rfl (by decide +kernel)
theorem w_im_Ip_cheapest : Cond.instanceMethod M_Ip_cheapest.1 ∈ z_gw := z_mj5 (i := 202) rfl (by decide +kernel)
theorem w_se_Ip_cheapest : Cond.selects M_Ip_cheapest.1.cls M_Ip_cheapest.1 M_Ip_cheapest.1 ∈ z_gw := z_mj5 (i := 203) rfl (by decide +kernel)
theorem d_Lw_cheapest_12 : decode method_30_code 12 = .ok (.astore_n 3, 1) := zo_78 (zd_b zq_method_30_code_0 12 rfl rfl rfl)
theorem d_Lw_cheapest_13 : decode method_30_code 13 = .ok (.iconst 1, 1) := zo_4 (zd_b zq_method_30_code_0 13 rfl rfl rfl)
theorem d_Lw_cheapest_14 : decode method_30_code 14 = .ok (.ireturn, 1) := zo_172 (zd_b zq_method_30_code_0 14 rfl rfl rfl)
theorem d_Lw_cheapest_15 : decode method_30_code 15 = .ok (.astore_n 3, 1) := zo_78 (zd_b zq_method_30_code_0 15 rfl rfl rfl)
theorem d_Lw_cheapest_16 : decode method_30_code 16 = .ok (.iconst 2, 1) := zo_5 (zd_b zq_method_30_code_0 16 rfl rfl rfl)
theorem d_Lw_cheapest_17 : decode method_30_code 17 = .ok (.ireturn, 1) := zo_172 (zd_b zq_method_30_code_0 17 rfl rfl rfl)
theorem d_Lw_cheapest_7 : decode method_30_code 7 = .ok (.i2l, 1) := zo_133 (zd_b zq_method_30_code_0 7 rfl rfl rfl)
theorem d_Lw_cheapest_8 : decode method_30_code 8 = .ok (.lastore, 1) := zo_80 (zd_b zq_method_30_code_0 8 rfl rfl rfl)
theorem d_Lw_cheapest_9 : decode method_30_code 9 = .ok (.goto 9, 3) := zo_167 (d := 0) (e := 9) (zd_b zq_method_30_code_0 9 rfl rfl rfl) (zd_b zq_method_30_code_0 10 rfl rfl rfl) (zd_b zq_method_30_code_0 11 rfl rfl rfl) (by decide +kernel)
theorem d_Lw_cheapest_18 : decode method_30_code 18 = .ok (.iconst 0, 1) := zo_3 (zd_b zq_method_30_code_0 18 rfl rfl rfl)
theorem d_Lw_cheapest_19 : decode method_30_code 19 = .ok (.ireturn, 1) := zo_172 (zd_b zq_method_30_code_0 19 rfl rfl rfl)
set_option maxHeartbeats 4000000 in
set_option maxRecDepth 100000 in
theorem W_cheapest {g : zG} {ad : Nat → Nat} {t : zTT} {u : zNN} {w : zW} (hI : IVm g ad t u w) (c : Int32) : zMB g M_Lw_cheapest [.ref (ad 0), .int c, .ref (ad 69)] w (fun o w1 => MKx g ad t u.1 o w1) 10 300 := by
  obtain ⟨s, hI⟩ := hI
  obtain ⟨e_a, wf_a, k_a⟩ := hI.1.2 0 (by decide)
  obtain rfl := kd_0.mp k_a
  obtain ⟨e_o1, wf_o1, k_o1⟩ := hI.1.2 69 (by decide)
  obtain rfl := kd_69.mp k_o1
  refine y_ofH (by decide) (by decide) (Nat.le_of_ble_eq_true rfl) (y_base (cs := [((ad 0), .inr (11, [.ref (ad 1), .ref (ad 5), .ref (ad 18), .ref (ad 31), .ref (ad 32), .ref (ad 36), .ref (ad 42), .ref (ad 45), .ref (ad 47), .ref (ad 49), .ref (ad 50), .ref (ad 51)])), ((ad 69), .inl (3, 1, .inr (.inl (((mg t s).1 69).2.1))))]) (hI.1.I [0, 69] _ rfl (by decide) (by decide) (List.forall_mem_cons.mpr ⟨wf_a, (List.forall_mem_cons.mpr ⟨wf_o1, (fun _ h => nomatch h)⟩)⟩)) ?_)
  refine y_lvE (lv2 := [(0, .ref (ad 0)), (1, .int c), (2, .ref (ad 69))]) rfl ?_
  refine y_aload_n d_Lw_cheapest_0 rfl 2 rfl ?_
  refine y_iconst d_Lw_cheapest_1 (v := 0) (by decide) ?_
  refine y_aload_n d_Lw_cheapest_2 rfl 0 rfl ?_
  refine y_iload_n d_Lw_cheapest_3 rfl 1 rfl ?_
  refine yw_callVH (As := [.int c]) (rest := [.int 0, .ref (ad 69)]) (q0 := 0) rfl rfl ln_Lw_112 w_im_Ip_cheapest w_se_Ip_cheapest ok_Lw_cheapest_Ip_cheapest d_Lw_cheapest_4 (fun wA hA => K_Ip_cheapest ⟨_, (hI.gen (t2 := (mg t s)) (is := [0, 69]) (L2 := []) hA rfl ⟨kd_0.mpr rfl, kd_69.mpr rfl, trivial⟩ (by decide) (by decide) (fun _ h => nomatch h) (fun _ h => nomatch h) (fun _ _ _ => rfl) (fun h => h) rfl)⟩ c) rfl rfl (Nat.le_of_ble_eq_true rfl) (by omega) (by omega) (fun wA4 hA4 E wB4 hx => ?_) (fun wA4 hA4 v wB4 hx => ?_)
  · obtain ⟨h1, u2, hu, hI2⟩ := hx
    rcases List.mem_cons.mp (zriE h1) with rfl | g2
    · refine ⟨"java/lang/IllegalArgumentException", [], [(0, 9, 15, 69)], (0, 9, 12, 13), rfl, (fun z hz => nomatch hz), by decide, by decide, lx_Lw_13, ce_13, fun qx => ?_⟩
      refine y_base (cs := []) (z_I.nil wB4) ?_
      refine y_astore_n (lv' := [(3, .ref qx), (0, .ref (ad 0)), (1, .int c), (2, .ref (ad 69))]) d_Lw_cheapest_12 rfl (by decide) rfl ?_
      refine y_iconst d_Lw_cheapest_13 (v := 1) (by decide) ?_
      refine y_iret d_Lw_cheapest_14 rfl rfl ?_
      exact fun w1 h1 => ⟨⟨_, rfl⟩, u2, hu, (z_I.same (z_I.nil _) h1).symm ▸ hI2⟩
    · obtain rfl := List.mem_singleton.mp g2
      refine ⟨"java/lang/IllegalStateException", [(0, 9, 12, 13)], [], (0, 9, 15, 69), rfl, (fun z hz => by simp only [List.mem_cons, List.not_mem_nil, or_false] at hz; rcases hz with rfl; exact Or.inr ⟨by decide, _, lx_Lw_13, by decide⟩), by decide, by decide, lx_Lw_69, ce_69, fun qx => ?_⟩
      refine y_base (cs := []) (z_I.nil wB4) ?_
      refine y_astore_n (lv' := [(3, .ref qx), (0, .ref (ad 0)), (1, .int c), (2, .ref (ad 69))]) d_Lw_cheapest_15 rfl (by decide) rfl ?_
      refine y_iconst d_Lw_cheapest_16 (v := 2) (by decide) ?_
      refine y_iret d_Lw_cheapest_17 rfl rfl ?_
      exact fun w1 h1 => ⟨⟨_, rfl⟩, u2, hu, (z_I.same (z_I.nil _) h1).symm ▸ hI2⟩
  · obtain ⟨h1, u2, hu, hI2⟩ := hx
    obtain ⟨v9, rfl⟩ := zriV h1
    refine yw_st (st2 := [.int v9, .int 0, .ref (ad 69)]) rfl ?_
    obtain ⟨s9, hI⟩ := hI2
    obtain ⟨e_o1, wf_o1, k_o1⟩ := hI.1.2 69 (by decide)
    obtain rfl := kd_69.mp k_o1
    refine y_base (cs := [((ad 69), .inl (3, 1, .inr (.inl (((mg t s9).1 69).2.1))))]) (hI.1.I [69] _ rfl (by decide) (by decide) (List.forall_mem_cons.mpr ⟨wf_o1, (fun _ h => nomatch h)⟩)) ?_
    refine y_i2l d_Lw_cheapest_7 (v := v9.toInt64) rfl ?_
    refine y_last d_Lw_cheapest_8 (q0 := 0) rfl (fun q => q.elim (by decide) (by decide)) (f' := vp_updL (((mg t s9).1 69).2.1) 0 v9.toInt64) rfl (cs' := [((ad 69), .inl (3, 1, .inr (.inl (vp_updL (((mg t s9).1 69).2.1) 0 v9.toInt64))))]) rfl ?_
    refine y_goto (tgt := 18) d_Lw_cheapest_9 (by decide) ?_
    refine y_iconst d_Lw_cheapest_18 (v := 0) (by decide) ?_
    refine y_iret d_Lw_cheapest_19 rfl rfl ?_
    exact fun w1 h1 => ⟨⟨_, rfl⟩, u2, hu, IVm.tz ((hI.gen (t2 := (zup (mg t s9).1 [(69, (((mg t s9).1 69).1, vp_updL (((mg t s9).1 69).2.1) 0 v9.toInt64, ((mg t s9).1 69).2.2))], (mg t s9).2)) (is := [69]) (L2 := []) h1 rfl ⟨kd_69.mpr rfl, trivial⟩ (by decide) (by decide) (fun _ h => nomatch h) (fun _ h => nomatch h) (fun i hi hn => zup_out (fun q => hn ((by decide : ∀ j ∈ ([69] : List Nat), j ∈ ([69] : List Nat)) i q))) (fun h => h) rfl)) (tx_all rfl)⟩
abbrev M_Lw_mould : zM := (⟨"IronpourLaw", "mould", "(LIronpour;[J)I"⟩, method_31_code, 3, (Option.some FieldType.int), 9, 252, [((0 : Nat), (8 : Nat), (11 : Nat), (33 : Nat)), ((0 : Nat), (8 : Nat), (14 : Nat), (78 : Nat)), ((0 : Nat), (8 : Nat), (17 : Nat), (69 : Nat))])
theorem d_Lw_mould_0 : decode method_31_code 0 = .ok (.aload_n 1, 1) := zo_43 (zd_b zq_method_31_code_0 0 rfl rfl rfl)
theorem d_Lw_mould_1 : decode method_31_code 1 = .ok (.iconst 0, 1) := zo_3 (zd_b zq_method_31_code_0 1 rfl rfl rfl)
theorem d_Lw_mould_2 : decode method_31_code 2 = .ok (.aload_n 0, 1) := zo_42 (zd_b zq_method_31_code_0 2 rfl rfl rfl)
theorem d_Lw_mould_3 : decode method_31_code 3 = .ok (.invokevirtual 115, 3) := zo_182 (d := 0) (e := 115) (zd_b zq_method_31_code_0 3 rfl rfl rfl) (zd_b zq_method_31_code_0 4 rfl rfl rfl) (zd_b zq_method_31_code_0 5 rfl rfl rfl)
theorem ok_Lw_mould_Ip_mould : z_okH M_Lw_mould M_Ip_mould 0 := ⟨z_mj5 (i := 218) rfl (by decide +kernel), rfl, ⟨by decide +kernel, by decide +kernel, by decide +kernel⟩, ⟨by decide, by decide⟩, z_mj1 (i := 1) rfl (by decide +kernel)⟩
theorem ln_Lw_115 : Cond.methodLink "IronpourLaw" 115 M_Ip_mould.1 ∈ z_gw := z_mj5 (i := 215) rfl (by decide +kernel)
theorem w_im_Ip_mould : Cond.instanceMethod M_Ip_mould.1 ∈ z_gw := z_mj5 (i := 216) rfl (by decide +kernel)
theorem w_se_Ip_mould : Cond.selects M_Ip_mould.1.cls M_Ip_mould.1 M_Ip_mould.1 ∈ z_gw := z_mj5 (i := 217) rfl (by decide +kernel)
theorem d_Lw_mould_11 : decode method_31_code 11 = .ok (.astore_n 2, 1) := zo_77 (zd_b zq_method_31_code_0 11 rfl rfl rfl)
theorem d_Lw_mould_12 : decode method_31_code 12 = .ok (.iconst 1, 1) := zo_4 (zd_b zq_method_31_code_0 12 rfl rfl rfl)
theorem d_Lw_mould_13 : decode method_31_code 13 = .ok (.ireturn, 1) := zo_172 (zd_b zq_method_31_code_0 13 rfl rfl rfl)
theorem d_Lw_mould_14 : decode method_31_code 14 = .ok (.astore_n 2, 1) := zo_77 (zd_b zq_method_31_code_0 14 rfl rfl rfl)
theorem d_Lw_mould_15 : decode method_31_code 15 = .ok (.iconst 2, 1) := zo_5 (zd_b zq_method_31_code_0 15 rfl rfl rfl)
theorem d_Lw_mould_16 : decode method_31_code 16 = .ok (.ireturn, 1) := zo_172 (zd_b zq_method_31_code_0 16 rfl rfl rfl)
theorem d_Lw_mould_17 : decode method_31_code 17 = .ok (.astore_n 2, 1) := zo_77 (zd_b zq_method_31_code_0 17 rfl rfl rfl)
theorem d_Lw_mould_18 : decode method_31_code 18 = .ok (.iconst 3, 1) := zo_6 (zd_b zq_method_31_code_0 18 rfl rfl rfl)
theorem d_Lw_mould_19 : decode method_31_code 19 = .ok (.ireturn, 1) := zo_172 (zd_b zq_method_31_code_0 19 rfl rfl rfl)
theorem d_Lw_mould_6 : decode method_31_code 6 = .ok (.i2l, 1) := zo_133 (zd_b zq_method_31_code_0 6 rfl rfl rfl)
theorem d_Lw_mould_7 : decode method_31_code 7 = .ok (.lastore, 1) := zo_80 (zd_b zq_method_31_code_0 7 rfl rfl rfl)
