set_option maxHeartbeats 4000000 in
set_option maxRecDepth 100000 in
theorem W_hours {g : zG} {ad : Nat → Nat} {t : zTT} {u : zNN} {w : zW} (hI : IVm g ad t u w) (h : Int32) : zMB g M_Lw_hours [.ref (ad 0), .int h, .ref (ad 69)] w (fun o w1 => MKx g ad (tK_Ip_hours h t) u.1 o w1) 10 300 := by
  obtain ⟨s, hI⟩ := hI
  obtain ⟨e_a, wf_a, k_a⟩ := hI.1.2 0 (by decide)
  obtain rfl := kd_0.mp k_a
  obtain ⟨e_o1, wf_o1, k_o1⟩ := hI.1.2 69 (by decide)
  obtain rfl := kd_69.mp k_o1
  refine y_ofH (by decide) (by decide) (Nat.le_of_ble_eq_true rfl) (y_base (cs := [((ad 0), .inr (11, [.ref (ad 1), .ref (ad 5), .ref (ad 18), .ref (ad 31), .ref (ad 32), .ref (ad 36), .ref (ad 42), .ref (ad 45), .ref (ad 47), .ref (ad 49), .ref (ad 50), .ref (ad 51)])), ((ad 69), .inl (3, 1, .inr (.inl (((mg t s).1 69).2.1))))]) (hI.1.I [0, 69] _ rfl (by decide) (by decide) (List.forall_mem_cons.mpr ⟨wf_a, (List.forall_mem_cons.mpr ⟨wf_o1, (fun _ h => nomatch h)⟩)⟩)) ?_)
  refine y_lvE (lv2 := [(0, .ref (ad 0)), (1, .int h), (2, .ref (ad 69))]) rfl ?_
  refine y_aload_n d_Lw_hours_0 rfl 2 rfl ?_
  refine y_iconst d_Lw_hours_1 (v := 0) (by decide) ?_
  refine y_aload_n d_Lw_hours_2 rfl 0 rfl ?_
  refine y_iload_n d_Lw_hours_3 rfl 1 rfl ?_
  refine yw_callVH (As := [.int h]) (rest := [.int 0, .ref (ad 69)]) (q0 := 0) rfl rfl ln_Lw_71 w_im_Ip_hours w_se_Ip_hours ok_Lw_hours_Ip_hours d_Lw_hours_4 (fun wA hA => K_Ip_hours ⟨_, (hI.gen (t2 := (mg t s)) (is := [0, 69]) (L2 := []) hA rfl ⟨kd_0.mpr rfl, kd_69.mpr rfl, trivial⟩ (by decide) (by decide) (fun _ h => nomatch h) (fun _ h => nomatch h) (fun _ _ _ => rfl) (fun h => h) rfl)⟩ h) rfl rfl (Nat.le_of_ble_eq_true rfl) (by omega) (by omega) (fun wA4 hA4 E wB4 hx => ?_) (fun wA4 hA4 v wB4 hx => ?_)
  · obtain ⟨h1, u2, hu, hI2⟩ := hx
    obtain rfl := List.mem_singleton.mp (zriE h1)
    refine ⟨"java/lang/IllegalArgumentException", [], [], (0, 9, 12, 13), rfl, (fun z hz => nomatch hz), by decide, by decide, lx_Lw_13, ce_13, fun qx => ?_⟩
    refine y_base (cs := []) (z_I.nil wB4) ?_
    refine y_astore_n (lv' := [(3, .ref qx), (0, .ref (ad 0)), (1, .int h), (2, .ref (ad 69))]) d_Lw_hours_12 rfl (by decide) rfl ?_
    refine y_iconst d_Lw_hours_13 (v := 1) (by decide) ?_
    refine y_iret d_Lw_hours_14 rfl rfl ?_
    exact fun w1 h1 => ⟨⟨_, rfl⟩, u2, hu, (z_I.same (z_I.nil _) h1).symm ▸ hI2⟩
  · obtain ⟨h1, u2, hu, hI2⟩ := hx
    obtain ⟨v9, rfl⟩ := zriV h1
    refine yw_st (st2 := [.int v9, .int 0, .ref (ad 69)]) rfl ?_
    obtain ⟨s9, hI⟩ := hI2
    obtain ⟨e_o1, wf_o1, k_o1⟩ := hI.1.2 69 (by decide)
    obtain rfl := kd_69.mp k_o1
    refine y_base (cs := [((ad 69), .inl (3, 1, .inr (.inl (((mg (tK_Ip_hours h t) s9).1 69).2.1))))]) (hI.1.I [69] _ rfl (by decide) (by decide) (List.forall_mem_cons.mpr ⟨wf_o1, (fun _ h => nomatch h)⟩)) ?_
    refine y_i2l d_Lw_hours_7 (v := v9.toInt64) rfl ?_
    refine y_last d_Lw_hours_8 (q0 := 0) rfl (fun q => q.elim (by decide) (by decide)) (f' := vp_updL (((mg (tK_Ip_hours h t) s9).1 69).2.1) 0 v9.toInt64) rfl (cs' := [((ad 69), .inl (3, 1, .inr (.inl (vp_updL (((mg (tK_Ip_hours h t) s9).1 69).2.1) 0 v9.toInt64))))]) rfl ?_
    refine y_goto (tgt := 15) d_Lw_hours_9 (by decide) ?_
    refine y_iconst d_Lw_hours_15 (v := 0) (by decide) ?_
    refine y_iret d_Lw_hours_16 rfl rfl ?_
    exact fun w1 h1 => ⟨⟨_, rfl⟩, u2, hu, IVm.tz ((hI.gen (t2 := (zup (mg (tK_Ip_hours h t) s9).1 [(69, (((mg (tK_Ip_hours h t) s9).1 69).1, vp_updL (((mg (tK_Ip_hours h t) s9).1 69).2.1) 0 v9.toInt64, ((mg (tK_Ip_hours h t) s9).1 69).2.2))], (mg (tK_Ip_hours h t) s9).2)) (is := [69]) (L2 := []) h1 rfl ⟨kd_69.mpr rfl, trivial⟩ (by decide) (by decide) (fun _ h => nomatch h) (fun _ h => nomatch h) (fun i hi hn => zup_out (fun q => hn ((by decide : ∀ j ∈ ([69] : List Nat), j ∈ ([69] : List Nat)) i q))) (fun h => h) rfl)) (tx_all rfl)⟩
abbrev M_Lw_charge : zM := (⟨"IronpourLaw", "charge", "(LIronpour;CI[J)I"⟩, method_19_code, 5, (Option.some FieldType.int), 9, 203, [((0 : Nat), (10 : Nat), (13 : Nat), (13 : Nat)), ((0 : Nat), (10 : Nat), (17 : Nat), (78 : Nat)), ((0 : Nat), (10 : Nat), (21 : Nat), (69 : Nat))])
theorem d_Lw_charge_0 : decode method_19_code 0 = .ok (.aload_n 3, 1) := zo_45 (zd_b zq_method_19_code_0 0 rfl rfl rfl)
theorem d_Lw_charge_1 : decode method_19_code 1 = .ok (.iconst 0, 1) := zo_3 (zd_b zq_method_19_code_0 1 rfl rfl rfl)
theorem d_Lw_charge_2 : decode method_19_code 2 = .ok (.aload_n 0, 1) := zo_42 (zd_b zq_method_19_code_0 2 rfl rfl rfl)
theorem d_Lw_charge_3 : decode method_19_code 3 = .ok (.iload_n 1, 1) := zo_27 (zd_b zq_method_19_code_0 3 rfl rfl rfl)
theorem d_Lw_charge_4 : decode method_19_code 4 = .ok (.iload_n 2, 1) := zo_28 (zd_b zq_method_19_code_0 4 rfl rfl rfl)
theorem d_Lw_charge_5 : decode method_19_code 5 = .ok (.invokevirtual 74, 3) := zo_182 (d := 0) (e := 74) (zd_b zq_method_19_code_0 5 rfl rfl rfl) (zd_b zq_method_19_code_0 6 rfl rfl rfl) (zd_b zq_method_19_code_0 7 rfl rfl rfl)
theorem ok_Lw_charge_Ip_charge : z_okH M_Lw_charge M_Ip_charge 2 := ⟨z_mj5 (i := 21) rfl (by decide +kernel), rfl, ⟨by decide +kernel, by decide +kernel, by decide +kernel⟩, ⟨by decide, by decide⟩, z_mj1 (i := 1) rfl (by decide +kernel)⟩
theorem ln_Lw_74 : Cond.methodLink "IronpourLaw" 74 M_Ip_charge.1 ∈ z_gw := z_mj5 (i := 18) rfl (by decide +kernel)
theorem w_im_Ip_charge : Cond.instanceMethod M_Ip_charge.1 ∈ z_gw := z_mj5 (i := 19) rfl (by decide +kernel)
theorem w_se_Ip_charge : Cond.selects M_Ip_charge.1.cls M_Ip_charge.1 M_Ip_charge.1 ∈ z_gw := z_mj5 (i := 20) rfl (by decide +kernel)
theorem d_Lw_charge_13 : decode method_19_code 13 = .ok (.astore 4, 2) := zo_58 (d := 4) (zd_b zq_method_19_code_0 13 rfl rfl rfl) (zd_b zq_method_19_code_0 14 rfl rfl rfl)
theorem d_Lw_charge_15 : decode method_19_code 15 = .ok (.iconst 1, 1) := zo_4 (zd_b zq_method_19_code_0 15 rfl rfl rfl)
theorem d_Lw_charge_16 : decode method_19_code 16 = .ok (.ireturn, 1) := zo_172 (zd_b zq_method_19_code_0 16 rfl rfl rfl)
theorem ce_78 : Cond.castable "java/lang/UnsupportedOperationException" "java/lang/UnsupportedOperationException" ∈ z_nw := z_mk5 (i := 30) rfl (by decide +kernel)
theorem lx_Lw_78 : Cond.classLink "IronpourLaw" 78 "java/lang/UnsupportedOperationException" ∈ z_gw := z_mj5 (i := 17) rfl (by decide +kernel)
theorem d_Lw_charge_17 : decode method_19_code 17 = .ok (.astore 4, 2) := zo_58 (d := 4) (zd_b zq_method_19_code_0 17 rfl rfl rfl) (zd_b zq_method_19_code_0 18 rfl rfl rfl)
theorem d_Lw_charge_19 : decode method_19_code 19 = .ok (.iconst 2, 1) := zo_5 (zd_b zq_method_19_code_0 19 rfl rfl rfl)
theorem d_Lw_charge_20 : decode method_19_code 20 = .ok (.ireturn, 1) := zo_172 (zd_b zq_method_19_code_0 20 rfl rfl rfl)
theorem d_Lw_charge_21 : decode method_19_code 21 = .ok (.astore 4, 2) := zo_58 (d := 4) (zd_b zq_method_19_code_0 21 rfl rfl rfl) (zd_b zq_method_19_code_0 22 rfl rfl rfl)
theorem d_Lw_charge_23 : decode method_19_code 23 = .ok (.iconst 3, 1) := zo_6 (zd_b zq_method_19_code_0 23 rfl rfl rfl)
theorem d_Lw_charge_24 : decode method_19_code 24 = .ok (.ireturn, 1) := zo_172 (zd_b zq_method_19_code_0 24 rfl rfl rfl)
theorem d_Lw_charge_8 : decode method_19_code 8 = .ok (.i2l, 1) := zo_133 (zd_b zq_method_19_code_0 8 rfl rfl rfl)
theorem d_Lw_charge_9 : decode method_19_code 9 = .ok (.lastore, 1) := zo_80 (zd_b zq_method_19_code_0 9 rfl rfl rfl)
theorem d_Lw_charge_10 : decode method_19_code 10 = .ok (.goto 15, 3) := zo_167 (d := 0) (e := 15) (zd_b zq_method_19_code_0 10 rfl rfl rfl) (zd_b zq_method_19_code_0 11 rfl rfl rfl) (zd_b zq_method_19_code_0 12 rfl rfl rfl) (by decide +kernel)
theorem d_Lw_charge_25 : decode method_19_code 25 = .ok (.iconst 0, 1) := zo_3 (zd_b zq_method_19_code_0 25 rfl rfl rfl)
theorem d_Lw_charge_26 : decode method_19_code 26 = .ok (.ireturn, 1) := zo_172 (zd_b zq_method_19_code_0 26 rfl rfl rfl)
set_option maxHeartbeats 4000000 in
set_option maxRecDepth 100000 in
theorem W_charge {g : zG} {ad : Nat → Nat} {t : zTT} {u : zNN} {w : zW} (hI : IVm g ad t u w) (k m : Int32) : zMB g M_Lw_charge [.ref (ad 0), .int k, .int m, .ref (ad 69)] w (fun o w1 => MKx g ad (tK_Ip_charge k m t) u.1 o w1) 10 300 := by
  obtain ⟨s, hI⟩ := hI
  obtain ⟨e_a, wf_a, k_a⟩ := hI.1.2 0 (by decide)
  obtain rfl := kd_0.mp k_a
  obtain ⟨e_o1, wf_o1, k_o1⟩ := hI.1.2 69 (by decide)
  obtain rfl := kd_69.mp k_o1
  refine y_ofH (by decide) (by decide) (Nat.le_of_ble_eq_true rfl) (y_base (cs := [((ad 0), .inr (11, [.ref (ad 1), .ref (ad 5), .ref (ad 18), .ref (ad 31), .ref (ad 32), .ref (ad 36), .ref (ad 42), .ref (ad 45), .ref (ad 47), .ref (ad 49), .ref (ad 50), .ref (ad 51)])), ((ad 69), .inl (3, 1, .inr (.inl (((mg t s).1 69).2.1))))]) (hI.1.I [0, 69] _ rfl (by decide) (by decide) (List.forall_mem_cons.mpr ⟨wf_a, (List.forall_mem_cons.mpr ⟨wf_o1, (fun _ h => nomatch h)⟩)⟩)) ?_)
  refine y_lvE (lv2 := [(0, .ref (ad 0)), (1, .int k), (2, .int m), (3, .ref (ad 69))]) rfl ?_
  refine y_aload_n d_Lw_charge_0 rfl 3 rfl ?_
  refine y_iconst d_Lw_charge_1 (v := 0) (by decide) ?_
  refine y_aload_n d_Lw_charge_2 rfl 0 rfl ?_
  refine y_iload_n d_Lw_charge_3 rfl 1 rfl ?_
  refine y_iload_n d_Lw_charge_4 rfl 2 rfl ?_
  refine yw_callVH (As := [.int k, .int m]) (rest := [.int 0, .ref (ad 69)]) (q0 := 0) rfl rfl ln_Lw_74 w_im_Ip_charge w_se_Ip_charge ok_Lw_charge_Ip_charge d_Lw_charge_5 (fun wA hA => K_Ip_charge ⟨_, (hI.gen (t2 := (mg t s)) (is := [0, 69]) (L2 := []) hA rfl ⟨kd_0.mpr rfl, kd_69.mpr rfl, trivial⟩ (by decide) (by decide) (fun _ h => nomatch h) (fun _ h => nomatch h) (fun _ _ _ => rfl) (fun h => h) rfl)⟩ k m) rfl rfl (Nat.le_of_ble_eq_true rfl) (by omega) (by omega) (fun wA5 hA5 E wB5 hx => ?_) (fun wA5 hA5 v wB5 hx => ?_)
  · obtain ⟨h1, u2, hu, hI2⟩ := hx
    rcases List.mem_cons.mp (zriE h1) with rfl | g3
    · refine ⟨"java/lang/IllegalArgumentException", [], [(0, 10, 17, 78), (0, 10, 21, 69)], (0, 10, 13, 13), rfl, (fun z hz => nomatch hz), by decide, by decide, lx_Lw_13, ce_13, fun qx => ?_⟩
      refine y_base (cs := []) (z_I.nil wB5) ?_
      refine y_astore (lv' := [(4, .ref qx), (0, .ref (ad 0)), (1, .int k), (2, .int m), (3, .ref (ad 69))]) d_Lw_charge_13 (by decide) rfl ?_
      refine y_iconst d_Lw_charge_15 (v := 1) (by decide) ?_
      refine y_iret d_Lw_charge_16 rfl rfl ?_
      exact fun w1 h1 => ⟨⟨_, rfl⟩, u2, hu, (z_I.same (z_I.nil _) h1).symm ▸ hI2⟩
    · rcases List.mem_cons.mp g3 with rfl | g2
      · refine ⟨"java/lang/UnsupportedOperationException", [(0, 10, 13, 13)], [(0, 10, 21, 69)], (0, 10, 17, 78), rfl, (fun z hz => by simp only [List.mem_cons, List.not_mem_nil, or_false] at hz; rcases hz with rfl; exact Or.inr ⟨by decide, _, lx_Lw_13, by decide⟩), by decide, by decide, lx_Lw_78, ce_78, fun qx => ?_⟩
        refine y_base (cs := []) (z_I.nil wB5) ?_
        refine y_astore (lv' := [(4, .ref qx), (0, .ref (ad 0)), (1, .int k), (2, .int m), (3, .ref (ad 69))]) d_Lw_charge_17 (by decide) rfl ?_
        refine y_iconst d_Lw_charge_19 (v := 2) (by decide) ?_
        refine y_iret d_Lw_charge_20 rfl rfl ?_
        exact fun w1 h1 => ⟨⟨_, rfl⟩, u2, hu, (z_I.same (z_I.nil _) h1).symm ▸ hI2⟩
      · obtain rfl := List.mem_singleton.mp g2
        refine ⟨"java/lang/IllegalStateException", [(0, 10, 13, 13), (0, 10, 17, 78)], [], (0, 10, 21, 69), rfl, (fun z hz => by simp only [List.mem_cons, List.not_mem_nil, or_false] at hz; rcases hz with rfl | rfl <;> first | exact Or.inr ⟨by decide, _, lx_Lw_13, by decide⟩ | exact Or.inr ⟨by decide, _, lx_Lw_78, by decide⟩), by decide, by decide, lx_Lw_69, ce_69, fun qx => ?_⟩
        refine y_base (cs := []) (z_I.nil wB5) ?_
        refine y_astore (lv' := [(4, .ref qx), (0, .ref (ad 0)), (1, .int k), (2, .int m), (3, .ref (ad 69))]) d_Lw_charge_21 (by decide) rfl ?_
        refine y_iconst d_Lw_charge_23 (v := 3) (by decide) ?_
        refine y_iret d_Lw_charge_24 rfl rfl ?_
        exact fun w1 h1 => ⟨⟨_, rfl⟩, u2, hu, (z_I.same (z_I.nil _) h1).symm ▸ hI2⟩
  · obtain ⟨h1, u2, hu, hI2⟩ := hx
    obtain ⟨v9, rfl⟩ := zriV h1
    refine yw_st (st2 := [.int v9, .int 0, .ref (ad 69)]) rfl ?_
    obtain ⟨s9, hI⟩ := hI2
    obtain ⟨e_o1, wf_o1, k_o1⟩ := hI.1.2 69 (by decide)
    obtain rfl := kd_69.mp k_o1
    refine y_base (cs := [((ad 69), .inl (3, 1, .inr (.inl (((mg (tK_Ip_charge k m t) s9).1 69).2.1))))]) (hI.1.I [69] _ rfl (by decide) (by decide) (List.forall_mem_cons.mpr ⟨wf_o1, (fun _ h => nomatch h)⟩)) ?_
    refine y_i2l d_Lw_charge_8 (v := v9.toInt64) rfl ?_
    refine y_last d_Lw_charge_9 (q0 := 0) rfl (fun q => q.elim (by decide) (by decide)) (f' := vp_updL (((mg (tK_Ip_charge k m t) s9).1 69).2.1) 0 v9.toInt64) rfl (cs' := [((ad 69), .inl (3, 1, .inr (.inl (vp_updL (((mg (tK_Ip_charge k m t) s9).1 69).2.1) 0 v9.toInt64))))]) rfl ?_
    refine y_goto (tgt := 25) d_Lw_charge_10 (by decide) ?_
    refine y_iconst d_Lw_charge_25 (v := 0) (by decide) ?_
    refine y_iret d_Lw_charge_26 rfl rfl ?_
    exact fun w1 h1 => ⟨⟨_, rfl⟩, u2, hu, IVm.tz ((hI.gen (t2 := (zup (mg (tK_Ip_charge k m t) s9).1 [(69, (((mg (tK_Ip_charge k m t) s9).1 69).1, vp_updL (((mg (tK_Ip_charge k m t) s9).1 69).2.1) 0 v9.toInt64, ((mg (tK_Ip_charge k m t) s9).1 69).2.2))], (mg (tK_Ip_charge k m t) s9).2)) (is := [69]) (L2 := []) h1 rfl ⟨kd_69.mpr rfl, trivial⟩ (by decide) (by decide) (fun _ h => nomatch h) (fun _ h => nomatch h) (fun i hi hn => zup_out (fun q => hn ((by decide : ∀ j ∈ ([69] : List Nat), j ∈ ([69] : List Nat)) i q))) (fun h => h) rfl)) (tx_all rfl)⟩
abbrev M_Lw_furnace : zM := (⟨"IronpourLaw", "furnace", "(LIronpour;C[J)I"⟩, method_20_code, 4, (Option.some FieldType.int), 10, 222, [((0 : Nat), (9 : Nat), (12 : Nat), (13 : Nat)), ((0 : Nat), (9 : Nat), (15 : Nat), (33 : Nat))])
theorem d_Lw_furnace_0 : decode method_20_code 0 = .ok (.aload_n 2, 1) := zo_44 (zd_b zq_method_20_code_0 0 rfl rfl rfl)
theorem d_Lw_furnace_1 : decode method_20_code 1 = .ok (.iconst 0, 1) := zo_3 (zd_b zq_method_20_code_0 1 rfl rfl rfl)
theorem d_Lw_furnace_2 : decode method_20_code 2 = .ok (.aload_n 0, 1) := zo_42 (zd_b zq_method_20_code_0 2 rfl rfl rfl)
theorem d_Lw_furnace_3 : decode method_20_code 3 = .ok (.iload_n 1, 1) := zo_27 (zd_b zq_method_20_code_0 3 rfl rfl rfl)
theorem d_Lw_furnace_4 : decode method_20_code 4 = .ok (.invokevirtual 80, 3) := zo_182 (d := 0) (e := 80) (zd_b zq_method_20_code_0 4 rfl rfl rfl) (zd_b zq_method_20_code_0 5 rfl rfl rfl) (zd_b zq_method_20_code_0 6 rfl rfl rfl)
theorem ok_Lw_furnace_Ip_furnace : z_okH M_Lw_furnace M_Ip_furnace 1 := ⟨z_mj5 (i := 71) rfl (by decide +kernel), rfl, ⟨by decide +kernel, by decide +kernel, by decide +kernel⟩, ⟨by decide, by decide⟩, z_mj1 (i := 1) rfl (by decide +kernel)⟩
theorem ln_Lw_80 : Cond.methodLink "IronpourLaw" 80 M_Ip_furnace.1 ∈ z_gw := z_mj5 (i := 68) rfl (by decide +kernel)
theorem w_im_Ip_furnace : Cond.instanceMethod M_Ip_furnace.1 ∈ z_gw := z_mj5 (i := 69) rfl (by decide +kernel)
theorem w_se_Ip_furnace : Cond.selects M_Ip_furnace.1.cls M_Ip_furnace.1 M_Ip_furnace.1 ∈ z_gw := z_mj5 (i := 70) rfl (by decide +kernel)
theorem d_Lw_furnace_12 : decode method_20_code 12 = .ok (.astore_n 3, 1) := zo_78 (zd_b zq_method_20_code_0 12 rfl rfl rfl)
theorem d_Lw_furnace_13 : decode method_20_code 13 = .ok (.iconst 1, 1) := zo_4 (zd_b zq_method_20_code_0 13 rfl rfl rfl)
theorem d_Lw_furnace_14 : decode method_20_code 14 = .ok (.ireturn, 1) := zo_172 (zd_b zq_method_20_code_0 14 rfl rfl rfl)
theorem d_Lw_furnace_15 : decode method_20_code 15 = .ok (.astore_n 3, 1) := zo_78 (zd_b zq_method_20_code_0 15 rfl rfl rfl)
theorem d_Lw_furnace_16 : decode method_20_code 16 = .ok (.iconst 2, 1) := zo_5 (zd_b zq_method_20_code_0 16 rfl rfl rfl)
theorem d_Lw_furnace_17 : decode method_20_code 17 = .ok (.ireturn, 1) := zo_172 (zd_b zq_method_20_code_0 17 rfl rfl rfl)
theorem d_Lw_furnace_7 : decode method_20_code 7 = .ok (.i2l, 1) := zo_133 (zd_b zq_method_20_code_0 7 rfl rfl rfl)
theorem d_Lw_furnace_8 : decode method_20_code 8 = .ok (.lastore, 1) := zo_80 (zd_b zq_method_20_code_0 8 rfl rfl rfl)
theorem d_Lw_furnace_9 : decode method_20_code 9 = .ok (.goto 9, 3) := zo_167 (d := 0) (e := 9) (zd_b zq_method_20_code_0 9 rfl rfl rfl) (zd_b zq_method_20_code_0 10 rfl rfl rfl) (zd_b zq_method_20_code_0 11 rfl rfl rfl) (by decide +kernel)
theorem d_Lw_furnace_18 : decode method_20_code 18 = .ok (.iconst 0, 1) := zo_3 (zd_b zq_method_20_code_0 18 rfl rfl rfl)
theorem d_Lw_furnace_19 : decode method_20_code 19 = .ok (.ireturn, 1) := zo_172 (zd_b zq_method_20_code_0 19 rfl rfl rfl)
set_option maxHeartbeats 4000000 in
set_option maxRecDepth 100000 in
theorem W_furnace {g : zG} {ad : Nat → Nat} {t : zTT} {u : zNN} {w : zW} (hI : IVm g ad t u w) (k : Int32) : zMB g M_Lw_furnace [.ref (ad 0), .int k, .ref (ad 69)] w (fun o w1 => MKx g ad t u.1 o w1) 10 300 := by
  obtain ⟨s, hI⟩ := hI
  obtain ⟨e_a, wf_a, k_a⟩ := hI.1.2 0 (by decide)
  obtain rfl := kd_0.mp k_a
  obtain ⟨e_o1, wf_o1, k_o1⟩ := hI.1.2 69 (by decide)
  obtain rfl := kd_69.mp k_o1
  refine y_ofH (by decide) (by decide) (Nat.le_of_ble_eq_true rfl) (y_base (cs := [((ad 0), .inr (11, [.ref (ad 1), .ref (ad 5), .ref (ad 18), .ref (ad 31), .ref (ad 32), .ref (ad 36), .ref (ad 42), .ref (ad 45), .ref (ad 47), .ref (ad 49), .ref (ad 50), .ref (ad 51)])), ((ad 69), .inl (3, 1, .inr (.inl (((mg t s).1 69).2.1))))]) (hI.1.I [0, 69] _ rfl (by decide) (by decide) (List.forall_mem_cons.mpr ⟨wf_a, (List.forall_mem_cons.mpr ⟨wf_o1, (fun _ h => nomatch h)⟩)⟩)) ?_)
  refine y_lvE (lv2 := [(0, .ref (ad 0)), (1, .int k), (2, .ref (ad 69))]) rfl ?_
  refine y_aload_n d_Lw_furnace_0 rfl 2 rfl ?_
  refine y_iconst d_Lw_furnace_1 (v := 0) (by decide) ?_
  refine y_aload_n d_Lw_furnace_2 rfl 0 rfl ?_
  refine y_iload_n d_Lw_furnace_3 rfl 1 rfl ?_
  refine yw_callVH (As := [.int k]) (rest := [.int 0, .ref (ad 69)]) (q0 := 0) rfl rfl ln_Lw_80 w_im_Ip_furnace w_se_Ip_furnace ok_Lw_furnace_Ip_furnace d_Lw_furnace_4 (fun wA hA => K_Ip_furnace ⟨_, (hI.gen (t2 := (mg t s)) (is := [0, 69]) (L2 := []) hA rfl ⟨kd_0.mpr rfl, kd_69.mpr rfl, trivial⟩ (by decide) (by decide) (fun _ h => nomatch h) (fun _ h => nomatch h) (fun _ _ _ => rfl) (fun h => h) rfl)⟩ k) rfl rfl (Nat.le_of_ble_eq_true rfl) (by omega) (by omega) (fun wA4 hA4 E wB4 hx => ?_) (fun wA4 hA4 v wB4 hx => ?_)
  · obtain ⟨h1, u2, hu, hI2⟩ := hx
    rcases List.mem_cons.mp (zriE h1) with rfl | g2
    · refine ⟨"java/lang/IllegalArgumentException", [], [(0, 9, 15, 33)], (0, 9, 12, 13), rfl, (fun z hz => nomatch hz), by decide, by decide, lx_Lw_13, ce_13, fun qx => ?_⟩
      refine y_base (cs := []) (z_I.nil wB4) ?_
      refine y_astore_n (lv' := [(3, .ref qx), (0, .ref (ad 0)), (1, .int k), (2, .ref (ad 69))]) d_Lw_furnace_12 rfl (by decide) rfl ?_
      refine y_iconst d_Lw_furnace_13 (v := 1) (by decide) ?_
      refine y_iret d_Lw_furnace_14 rfl rfl ?_
      exact fun w1 h1 => ⟨⟨_, rfl⟩, u2, hu, (z_I.same (z_I.nil _) h1).symm ▸ hI2⟩
    · obtain rfl := List.mem_singleton.mp g2
      refine ⟨"java/util/NoSuchElementException", [(0, 9, 12, 13)], [], (0, 9, 15, 33), rfl, (fun z hz => by simp only [List.mem_cons, List.not_mem_nil, or_false] at hz; rcases hz with rfl; exact Or.inr ⟨by decide, _, lx_Lw_13, by decide⟩), by decide, by decide, lx_Lw_33, ce_33, fun qx => ?_⟩
      refine y_base (cs := []) (z_I.nil wB4) ?_
      refine y_astore_n (lv' := [(3, .ref qx), (0, .ref (ad 0)), (1, .int k), (2, .ref (ad 69))]) d_Lw_furnace_15 rfl (by decide) rfl ?_
      refine y_iconst d_Lw_furnace_16 (v := 2) (by decide) ?_
      refine y_iret d_Lw_furnace_17 rfl rfl ?_
      exact fun w1 h1 => ⟨⟨_, rfl⟩, u2, hu, (z_I.same (z_I.nil _) h1).symm ▸ hI2⟩
  · obtain ⟨h1, u2, hu, hI2⟩ := hx
    obtain ⟨v9, rfl⟩ := zriV h1
    refine yw_st (st2 := [.int v9, .int 0, .ref (ad 69)]) rfl ?_
    obtain ⟨s9, hI⟩ := hI2
    obtain ⟨e_o1, wf_o1, k_o1⟩ := hI.1.2 69 (by decide)
    obtain rfl := kd_69.mp k_o1
    refine y_base (cs := [((ad 69), .inl (3, 1, .inr (.inl (((mg t s9).1 69).2.1))))]) (hI.1.I [69] _ rfl (by decide) (by decide) (List.forall_mem_cons.mpr ⟨wf_o1, (fun _ h => nomatch h)⟩)) ?_
    refine y_i2l d_Lw_furnace_7 (v := v9.toInt64) rfl ?_
    refine y_last d_Lw_furnace_8 (q0 := 0) rfl (fun q => q.elim (by decide) (by decide)) (f' := vp_updL (((mg t s9).1 69).2.1) 0 v9.toInt64) rfl (cs' := [((ad 69), .inl (3, 1, .inr (.inl (vp_updL (((mg t s9).1 69).2.1) 0 v9.toInt64))))]) rfl ?_
    refine y_goto (tgt := 18) d_Lw_furnace_9 (by decide) ?_
    refine y_iconst d_Lw_furnace_18 (v := 0) (by decide) ?_
    refine y_iret d_Lw_furnace_19 rfl rfl ?_
    exact fun w1 h1 => ⟨⟨_, rfl⟩, u2, hu, IVm.tz ((hI.gen (t2 := (zup (mg t s9).1 [(69, (((mg t s9).1 69).1, vp_updL (((mg t s9).1 69).2.1) 0 v9.toInt64, ((mg t s9).1 69).2.2))], (mg t s9).2)) (is := [69]) (L2 := []) h1 rfl ⟨kd_69.mpr rfl, trivial⟩ (by decide) (by decide) (fun _ h => nomatch h) (fun _ h => nomatch h) (fun i hi hn => zup_out (fun q => hn ((by decide : ∀ j ∈ ([69] : List Nat), j ∈ ([69] : List Nat)) i q))) (fun h => h) rfl)) (tx_all rfl)⟩
abbrev M_Lw_hold : zM := (⟨"IronpourLaw", "hold", "(LIronpour;I[J)I"⟩, method_21_code, 4, (Option.some FieldType.int), 7, 121, [((0 : Nat), (9 : Nat), (12 : Nat), (13 : Nat))])
theorem d_Lw_hold_0 : decode method_21_code 0 = .ok (.aload_n 2, 1) := zo_44 (zd_b zq_method_21_code_0 0 rfl rfl rfl)
theorem d_Lw_hold_1 : decode method_21_code 1 = .ok (.iconst 0, 1) := zo_3 (zd_b zq_method_21_code_0 1 rfl rfl rfl)
theorem d_Lw_hold_2 : decode method_21_code 2 = .ok (.aload_n 0, 1) := zo_42 (zd_b zq_method_21_code_0 2 rfl rfl rfl)
theorem d_Lw_hold_3 : decode method_21_code 3 = .ok (.iload_n 1, 1) := zo_27 (zd_b zq_method_21_code_0 3 rfl rfl rfl)
theorem d_Lw_hold_4 : decode method_21_code 4 = .ok (.invokevirtual 83, 3) := zo_182 (d := 0) (e := 83) (zd_b zq_method_21_code_0 4 rfl rfl rfl) (zd_b zq_method_21_code_0 5 rfl rfl rfl) (zd_b zq_method_21_code_0 6 rfl rfl rfl)
theorem ok_Lw_hold_Ip_hold : z_okH M_Lw_hold M_Ip_hold 1 := ⟨z_mj5 (i := 89) rfl (by decide +kernel), rfl, ⟨by decide +kernel, by decide +kernel, by decide +kernel⟩, ⟨by decide, by decide⟩, z_mj1 (i := 1) rfl (by decide +kernel)⟩
theorem ln_Lw_83 : Cond.methodLink "IronpourLaw" 83 M_Ip_hold.1 ∈ z_gw := z_mj5 (i := 86) rfl (by decide +kernel)
theorem w_im_Ip_hold : Cond.instanceMethod M_Ip_hold.1 ∈ z_gw := z_mj5 (i := 87) rfl (by decide +kernel)
theorem w_se_Ip_hold : Cond.selects M_Ip_hold.1.cls M_Ip_hold.1 M_Ip_hold.1 ∈ z_gw := z_mj5 (i := 88) rfl (by decide +kernel)
theorem d_Lw_hold_12 : decode method_21_code 12 = .ok (.astore_n 3, 1) := zo_78 (zd_b zq_method_21_code_0 12 rfl rfl rfl)
theorem d_Lw_hold_13 : decode method_21_code 13 = .ok (.iconst 1, 1) := zo_4 (zd_b zq_method_21_code_0 13 rfl rfl rfl)
theorem d_Lw_hold_14 : decode method_21_code 14 = .ok (.ireturn, 1) := zo_172 (zd_b zq_method_21_code_0 14 rfl rfl rfl)
theorem d_Lw_hold_7 : decode method_21_code 7 = .ok (.i2l, 1) := zo_133 (zd_b zq_method_21_code_0 7 rfl rfl rfl)
theorem d_Lw_hold_8 : decode method_21_code 8 = .ok (.lastore, 1) := zo_80 (zd_b zq_method_21_code_0 8 rfl rfl rfl)
theorem d_Lw_hold_9 : decode method_21_code 9 = .ok (.goto 6, 3) := zo_167 (d := 0) (e := 6) (zd_b zq_method_21_code_0 9 rfl rfl rfl) (zd_b zq_method_21_code_0 10 rfl rfl rfl) (zd_b zq_method_21_code_0 11 rfl rfl rfl) (by decide +kernel)
theorem d_Lw_hold_15 : decode method_21_code 15 = .ok (.iconst 0, 1) := zo_3 (zd_b zq_method_21_code_0 15 rfl rfl rfl)
theorem d_Lw_hold_16 : decode method_21_code 16 = .ok (.ireturn, 1) := zo_172 (zd_b zq_method_21_code_0 16 rfl rfl rfl)
