set_option maxHeartbeats 4000000 in
set_option maxRecDepth 100000 in
theorem W_shrunkAnew {g : zG} {ad : Nat → Nat} {t : zTT} {u : zNN} {w : zW} (hI : IVm g ad t u w) (h : Int32) : zMB g M_Lw_shrunkAnew [.ref (ad 0), .int h, .ref (ad 69)] w (fun o w1 => MKx g ad t u.1 o w1) 10 300 := by
  obtain ⟨s, hI⟩ := hI
  obtain ⟨e_a, wf_a, k_a⟩ := hI.1.2 0 (by decide)
  obtain rfl := kd_0.mp k_a
  obtain ⟨e_o1, wf_o1, k_o1⟩ := hI.1.2 69 (by decide)
  obtain rfl := kd_69.mp k_o1
  refine y_ofH (by decide) (by decide) (Nat.le_of_ble_eq_true rfl) (y_base (cs := [((ad 0), .inr (11, [.ref (ad 1), .ref (ad 5), .ref (ad 18), .ref (ad 31), .ref (ad 32), .ref (ad 36), .ref (ad 42), .ref (ad 45), .ref (ad 47), .ref (ad 49), .ref (ad 50), .ref (ad 51)])), ((ad 69), .inl (3, 1, .inr (.inl (((mg t s).1 69).2.1))))]) (hI.1.I [0, 69] _ rfl (by decide) (by decide) (List.forall_mem_cons.mpr ⟨wf_a, (List.forall_mem_cons.mpr ⟨wf_o1, (fun _ h => nomatch h)⟩)⟩)) ?_)
  refine y_lvE (lv2 := [(0, .ref (ad 0)), (1, .int h), (2, .ref (ad 69))]) rfl ?_
  refine y_aload_n d_Lw_shrunkAnew_0 rfl 2 rfl ?_
  refine y_iconst d_Lw_shrunkAnew_1 (v := 0) (by decide) ?_
  refine y_aload_n d_Lw_shrunkAnew_2 rfl 0 rfl ?_
  refine y_iload_n d_Lw_shrunkAnew_3 rfl 1 rfl ?_
  refine yw_callVH (As := [.int h]) (rest := [.int 0, .ref (ad 69)]) (q0 := 0) rfl rfl ln_Lw_50 w_im_Ip_shrunkAnew w_se_Ip_shrunkAnew ok_Lw_shrunkAnew_Ip_shrunkAnew d_Lw_shrunkAnew_4 (fun wA hA => K_Ip_shrunkAnew ⟨_, (hI.gen (t2 := (mg t s)) (is := [0, 69]) (L2 := []) hA rfl ⟨kd_0.mpr rfl, kd_69.mpr rfl, trivial⟩ (by decide) (by decide) (fun _ h => nomatch h) (fun _ h => nomatch h) (fun _ _ _ => rfl) (fun h => h) rfl)⟩ h) rfl rfl (Nat.le_of_ble_eq_true rfl) (by omega) (by omega) (fun wA4 hA4 E wB4 hx => ?_) (fun wA4 hA4 v wB4 hx => ?_)
  · obtain ⟨h1, u2, hu, hI2⟩ := hx
    obtain rfl := List.mem_singleton.mp (zriE h1)
    refine ⟨"java/lang/IllegalArgumentException", [], [], (0, 9, 12, 13), rfl, (fun z hz => nomatch hz), by decide, by decide, lx_Lw_13, ce_13, fun qx => ?_⟩
    refine y_base (cs := []) (z_I.nil wB4) ?_
    refine y_astore_n (lv' := [(3, .ref qx), (0, .ref (ad 0)), (1, .int h), (2, .ref (ad 69))]) d_Lw_shrunkAnew_12 rfl (by decide) rfl ?_
    refine y_iconst d_Lw_shrunkAnew_13 (v := 1) (by decide) ?_
    refine y_iret d_Lw_shrunkAnew_14 rfl rfl ?_
    exact fun w1 h1 => ⟨⟨_, rfl⟩, u2, hu, (z_I.same (z_I.nil _) h1).symm ▸ hI2⟩
  · obtain ⟨h1, u2, hu, hI2⟩ := hx
    obtain ⟨v9, rfl⟩ := zriV h1
    refine yw_st (st2 := [.int v9, .int 0, .ref (ad 69)]) rfl ?_
    obtain ⟨s9, hI⟩ := hI2
    obtain ⟨e_o1, wf_o1, k_o1⟩ := hI.1.2 69 (by decide)
    obtain rfl := kd_69.mp k_o1
    refine y_base (cs := [((ad 69), .inl (3, 1, .inr (.inl (((mg t s9).1 69).2.1))))]) (hI.1.I [69] _ rfl (by decide) (by decide) (List.forall_mem_cons.mpr ⟨wf_o1, (fun _ h => nomatch h)⟩)) ?_
    refine y_i2l d_Lw_shrunkAnew_7 (v := v9.toInt64) rfl ?_
    refine y_last d_Lw_shrunkAnew_8 (q0 := 0) rfl (fun q => q.elim (by decide) (by decide)) (f' := vp_updL (((mg t s9).1 69).2.1) 0 v9.toInt64) rfl (cs' := [((ad 69), .inl (3, 1, .inr (.inl (vp_updL (((mg t s9).1 69).2.1) 0 v9.toInt64))))]) rfl ?_
    refine y_goto (tgt := 15) d_Lw_shrunkAnew_9 (by decide) ?_
    refine y_iconst d_Lw_shrunkAnew_15 (v := 0) (by decide) ?_
    refine y_iret d_Lw_shrunkAnew_16 rfl rfl ?_
    exact fun w1 h1 => ⟨⟨_, rfl⟩, u2, hu, IVm.tz ((hI.gen (t2 := (zup (mg t s9).1 [(69, (((mg t s9).1 69).1, vp_updL (((mg t s9).1 69).2.1) 0 v9.toInt64, ((mg t s9).1 69).2.2))], (mg t s9).2)) (is := [69]) (L2 := []) h1 rfl ⟨kd_69.mpr rfl, trivial⟩ (by decide) (by decide) (fun _ h => nomatch h) (fun _ h => nomatch h) (fun i hi hn => zup_out (fun q => hn ((by decide : ∀ j ∈ ([69] : List Nat), j ∈ ([69] : List Nat)) i q))) (fun h => h) rfl)) (tx_all rfl)⟩
abbrev M_Lw_lastPlace : zM := (⟨"IronpourLaw", "lastPlace", "(LIronpour;I[J)I"⟩, method_13_code, 4, (Option.some FieldType.int), 8, 158, [((0 : Nat), (9 : Nat), (12 : Nat), (13 : Nat)), ((0 : Nat), (9 : Nat), (15 : Nat), (33 : Nat))])
theorem d_Lw_lastPlace_0 : decode method_13_code 0 = .ok (.aload_n 2, 1) := zo_44 (zd_b zq_method_13_code_0 0 rfl rfl rfl)
theorem d_Lw_lastPlace_1 : decode method_13_code 1 = .ok (.iconst 0, 1) := zo_3 (zd_b zq_method_13_code_0 1 rfl rfl rfl)
theorem d_Lw_lastPlace_2 : decode method_13_code 2 = .ok (.aload_n 0, 1) := zo_42 (zd_b zq_method_13_code_0 2 rfl rfl rfl)
theorem d_Lw_lastPlace_3 : decode method_13_code 3 = .ok (.iload_n 1, 1) := zo_27 (zd_b zq_method_13_code_0 3 rfl rfl rfl)
theorem d_Lw_lastPlace_4 : decode method_13_code 4 = .ok (.invokevirtual 53, 3) := zo_182 (d := 0) (e := 53) (zd_b zq_method_13_code_0 4 rfl rfl rfl) (zd_b zq_method_13_code_0 5 rfl rfl rfl) (zd_b zq_method_13_code_0 6 rfl rfl rfl)
theorem ok_Lw_lastPlace_Ip_lastPlace : z_okH M_Lw_lastPlace M_Ip_lastPlace 1 := ⟨z_mj4 (i := 146) rfl (by decide +kernel), rfl, ⟨by decide +kernel, by decide +kernel, by decide +kernel⟩, ⟨by decide, by decide⟩, z_mj1 (i := 1) rfl (by decide +kernel)⟩
theorem ln_Lw_53 : Cond.methodLink "IronpourLaw" 53 M_Ip_lastPlace.1 ∈ z_gw := z_mj4 (i := 143) rfl (by decide +kernel)
theorem w_im_Ip_lastPlace : Cond.instanceMethod M_Ip_lastPlace.1 ∈ z_gw := z_mj4 (i := 144) rfl (by decide +kernel)
theorem w_se_Ip_lastPlace : Cond.selects M_Ip_lastPlace.1.cls M_Ip_lastPlace.1 M_Ip_lastPlace.1 ∈ z_gw := z_mj4 (i := 145) rfl (by decide +kernel)
theorem d_Lw_lastPlace_12 : decode method_13_code 12 = .ok (.astore_n 3, 1) := zo_78 (zd_b zq_method_13_code_0 12 rfl rfl rfl)
theorem d_Lw_lastPlace_13 : decode method_13_code 13 = .ok (.iconst 1, 1) := zo_4 (zd_b zq_method_13_code_0 13 rfl rfl rfl)
theorem d_Lw_lastPlace_14 : decode method_13_code 14 = .ok (.ireturn, 1) := zo_172 (zd_b zq_method_13_code_0 14 rfl rfl rfl)
theorem d_Lw_lastPlace_15 : decode method_13_code 15 = .ok (.astore_n 3, 1) := zo_78 (zd_b zq_method_13_code_0 15 rfl rfl rfl)
theorem d_Lw_lastPlace_16 : decode method_13_code 16 = .ok (.iconst 2, 1) := zo_5 (zd_b zq_method_13_code_0 16 rfl rfl rfl)
theorem d_Lw_lastPlace_17 : decode method_13_code 17 = .ok (.ireturn, 1) := zo_172 (zd_b zq_method_13_code_0 17 rfl rfl rfl)
theorem d_Lw_lastPlace_7 : decode method_13_code 7 = .ok (.i2l, 1) := zo_133 (zd_b zq_method_13_code_0 7 rfl rfl rfl)
theorem d_Lw_lastPlace_8 : decode method_13_code 8 = .ok (.lastore, 1) := zo_80 (zd_b zq_method_13_code_0 8 rfl rfl rfl)
theorem d_Lw_lastPlace_9 : decode method_13_code 9 = .ok (.goto 9, 3) := zo_167 (d := 0) (e := 9) (zd_b zq_method_13_code_0 9 rfl rfl rfl) (zd_b zq_method_13_code_0 10 rfl rfl rfl) (zd_b zq_method_13_code_0 11 rfl rfl rfl) (by decide +kernel)
theorem d_Lw_lastPlace_18 : decode method_13_code 18 = .ok (.iconst 0, 1) := zo_3 (zd_b zq_method_13_code_0 18 rfl rfl rfl)
theorem d_Lw_lastPlace_19 : decode method_13_code 19 = .ok (.ireturn, 1) := zo_172 (zd_b zq_method_13_code_0 19 rfl rfl rfl)
set_option maxHeartbeats 4000000 in
set_option maxRecDepth 100000 in
theorem W_lastPlace {g : zG} {ad : Nat → Nat} {t : zTT} {u : zNN} {w : zW} (hI : IVm g ad t u w) (h : Int32) : zMB g M_Lw_lastPlace [.ref (ad 0), .int h, .ref (ad 69)] w (fun o w1 => MKx g ad t u.1 o w1) 10 300 := by
  obtain ⟨s, hI⟩ := hI
  obtain ⟨e_a, wf_a, k_a⟩ := hI.1.2 0 (by decide)
  obtain rfl := kd_0.mp k_a
  obtain ⟨e_o1, wf_o1, k_o1⟩ := hI.1.2 69 (by decide)
  obtain rfl := kd_69.mp k_o1
  refine y_ofH (by decide) (by decide) (Nat.le_of_ble_eq_true rfl) (y_base (cs := [((ad 0), .inr (11, [.ref (ad 1), .ref (ad 5), .ref (ad 18), .ref (ad 31), .ref (ad 32), .ref (ad 36), .ref (ad 42), .ref (ad 45), .ref (ad 47), .ref (ad 49), .ref (ad 50), .ref (ad 51)])), ((ad 69), .inl (3, 1, .inr (.inl (((mg t s).1 69).2.1))))]) (hI.1.I [0, 69] _ rfl (by decide) (by decide) (List.forall_mem_cons.mpr ⟨wf_a, (List.forall_mem_cons.mpr ⟨wf_o1, (fun _ h => nomatch h)⟩)⟩)) ?_)
  refine y_lvE (lv2 := [(0, .ref (ad 0)), (1, .int h), (2, .ref (ad 69))]) rfl ?_
  refine y_aload_n d_Lw_lastPlace_0 rfl 2 rfl ?_
  refine y_iconst d_Lw_lastPlace_1 (v := 0) (by decide) ?_
  refine y_aload_n d_Lw_lastPlace_2 rfl 0 rfl ?_
  refine y_iload_n d_Lw_lastPlace_3 rfl 1 rfl ?_
  refine yw_callVH (As := [.int h]) (rest := [.int 0, .ref (ad 69)]) (q0 := 0) rfl rfl ln_Lw_53 w_im_Ip_lastPlace w_se_Ip_lastPlace ok_Lw_lastPlace_Ip_lastPlace d_Lw_lastPlace_4 (fun wA hA => K_Ip_lastPlace ⟨_, (hI.gen (t2 := (mg t s)) (is := [0, 69]) (L2 := []) hA rfl ⟨kd_0.mpr rfl, kd_69.mpr rfl, trivial⟩ (by decide) (by decide) (fun _ h => nomatch h) (fun _ h => nomatch h) (fun _ _ _ => rfl) (fun h => h) rfl)⟩ h) rfl rfl (Nat.le_of_ble_eq_true rfl) (by omega) (by omega) (fun wA4 hA4 E wB4 hx => ?_) (fun wA4 hA4 v wB4 hx => ?_)
  · obtain ⟨h1, u2, hu, hI2⟩ := hx
    rcases List.mem_cons.mp (zriE h1) with rfl | g2
    · refine ⟨"java/lang/IllegalArgumentException", [], [(0, 9, 15, 33)], (0, 9, 12, 13), rfl, (fun z hz => nomatch hz), by decide, by decide, lx_Lw_13, ce_13, fun qx => ?_⟩
      refine y_base (cs := []) (z_I.nil wB4) ?_
      refine y_astore_n (lv' := [(3, .ref qx), (0, .ref (ad 0)), (1, .int h), (2, .ref (ad 69))]) d_Lw_lastPlace_12 rfl (by decide) rfl ?_
      refine y_iconst d_Lw_lastPlace_13 (v := 1) (by decide) ?_
      refine y_iret d_Lw_lastPlace_14 rfl rfl ?_
      exact fun w1 h1 => ⟨⟨_, rfl⟩, u2, hu, (z_I.same (z_I.nil _) h1).symm ▸ hI2⟩
    · obtain rfl := List.mem_singleton.mp g2
      refine ⟨"java/util/NoSuchElementException", [(0, 9, 12, 13)], [], (0, 9, 15, 33), rfl, (fun z hz => by simp only [List.mem_cons, List.not_mem_nil, or_false] at hz; rcases hz with rfl; exact Or.inr ⟨by decide, _, lx_Lw_13, by decide⟩), by decide, by decide, lx_Lw_33, ce_33, fun qx => ?_⟩
      refine y_base (cs := []) (z_I.nil wB4) ?_
      refine y_astore_n (lv' := [(3, .ref qx), (0, .ref (ad 0)), (1, .int h), (2, .ref (ad 69))]) d_Lw_lastPlace_15 rfl (by decide) rfl ?_
      refine y_iconst d_Lw_lastPlace_16 (v := 2) (by decide) ?_
      refine y_iret d_Lw_lastPlace_17 rfl rfl ?_
      exact fun w1 h1 => ⟨⟨_, rfl⟩, u2, hu, (z_I.same (z_I.nil _) h1).symm ▸ hI2⟩
  · obtain ⟨h1, u2, hu, hI2⟩ := hx
    obtain ⟨v9, rfl⟩ := zriV h1
    refine yw_st (st2 := [.int v9, .int 0, .ref (ad 69)]) rfl ?_
    obtain ⟨s9, hI⟩ := hI2
    obtain ⟨e_o1, wf_o1, k_o1⟩ := hI.1.2 69 (by decide)
    obtain rfl := kd_69.mp k_o1
    refine y_base (cs := [((ad 69), .inl (3, 1, .inr (.inl (((mg t s9).1 69).2.1))))]) (hI.1.I [69] _ rfl (by decide) (by decide) (List.forall_mem_cons.mpr ⟨wf_o1, (fun _ h => nomatch h)⟩)) ?_
    refine y_i2l d_Lw_lastPlace_7 (v := v9.toInt64) rfl ?_
    refine y_last d_Lw_lastPlace_8 (q0 := 0) rfl (fun q => q.elim (by decide) (by decide)) (f' := vp_updL (((mg t s9).1 69).2.1) 0 v9.toInt64) rfl (cs' := [((ad 69), .inl (3, 1, .inr (.inl (vp_updL (((mg t s9).1 69).2.1) 0 v9.toInt64))))]) rfl ?_
    refine y_goto (tgt := 18) d_Lw_lastPlace_9 (by decide) ?_
    refine y_iconst d_Lw_lastPlace_18 (v := 0) (by decide) ?_
    refine y_iret d_Lw_lastPlace_19 rfl rfl ?_
    exact fun w1 h1 => ⟨⟨_, rfl⟩, u2, hu, IVm.tz ((hI.gen (t2 := (zup (mg t s9).1 [(69, (((mg t s9).1 69).1, vp_updL (((mg t s9).1 69).2.1) 0 v9.toInt64, ((mg t s9).1 69).2.2))], (mg t s9).2)) (is := [69]) (L2 := []) h1 rfl ⟨kd_69.mpr rfl, trivial⟩ (by decide) (by decide) (fun _ h => nomatch h) (fun _ h => nomatch h) (fun i hi hn => zup_out (fun q => hn ((by decide : ∀ j ∈ ([69] : List Nat), j ∈ ([69] : List Nat)) i q))) (fun h => h) rfl)) (tx_all rfl)⟩
abbrev M_Lw_bestFeeder : zM := (⟨"IronpourLaw", "bestFeeder", "(LIronpour;I[J)I"⟩, method_14_code, 4, (Option.some FieldType.int), 8, 184, [((0 : Nat), (9 : Nat), (12 : Nat), (13 : Nat)), ((0 : Nat), (9 : Nat), (15 : Nat), (33 : Nat))])
theorem d_Lw_bestFeeder_0 : decode method_14_code 0 = .ok (.aload_n 2, 1) := zo_44 (zd_b zq_method_14_code_0 0 rfl rfl rfl)
theorem d_Lw_bestFeeder_1 : decode method_14_code 1 = .ok (.iconst 0, 1) := zo_3 (zd_b zq_method_14_code_0 1 rfl rfl rfl)
theorem d_Lw_bestFeeder_2 : decode method_14_code 2 = .ok (.aload_n 0, 1) := zo_42 (zd_b zq_method_14_code_0 2 rfl rfl rfl)
theorem d_Lw_bestFeeder_3 : decode method_14_code 3 = .ok (.iload_n 1, 1) := zo_27 (zd_b zq_method_14_code_0 3 rfl rfl rfl)
theorem d_Lw_bestFeeder_4 : decode method_14_code 4 = .ok (.invokevirtual 56, 3) := zo_182 (d := 0) (e := 56) (zd_b zq_method_14_code_0 4 rfl rfl rfl) (zd_b zq_method_14_code_0 5 rfl rfl rfl) (zd_b zq_method_14_code_0 6 rfl rfl rfl)
theorem ok_Lw_bestFeeder_Ip_bestFeeder : z_okH M_Lw_bestFeeder M_Ip_bestFeeder 1 := ⟨z_mj4 (i := 158) rfl (by decide +kernel), rfl, ⟨by decide +kernel, by decide +kernel, by decide +kernel⟩, ⟨by decide, by decide⟩, z_mj1 (i := 1) rfl (by decide +kernel)⟩
theorem ln_Lw_56 : Cond.methodLink "IronpourLaw" 56 M_Ip_bestFeeder.1 ∈ z_gw := z_mj4 (i := 155) rfl (by decide +kernel)
theorem w_im_Ip_bestFeeder : Cond.instanceMethod M_Ip_bestFeeder.1 ∈ z_gw := z_mj4 (i := 156) rfl (by decide +kernel)
theorem w_se_Ip_bestFeeder : Cond.selects M_Ip_bestFeeder.1.cls M_Ip_bestFeeder.1 M_Ip_bestFeeder.1 ∈ z_gw := z_mj4 (i := 157) rfl (by decide +kernel)
theorem d_Lw_bestFeeder_12 : decode method_14_code 12 = .ok (.astore_n 3, 1) := zo_78 (zd_b zq_method_14_code_0 12 rfl rfl rfl)
theorem d_Lw_bestFeeder_13 : decode method_14_code 13 = .ok (.iconst 1, 1) := zo_4 (zd_b zq_method_14_code_0 13 rfl rfl rfl)
theorem d_Lw_bestFeeder_14 : decode method_14_code 14 = .ok (.ireturn, 1) := zo_172 (zd_b zq_method_14_code_0 14 rfl rfl rfl)
theorem d_Lw_bestFeeder_15 : decode method_14_code 15 = .ok (.astore_n 3, 1) := zo_78 (zd_b zq_method_14_code_0 15 rfl rfl rfl)
theorem d_Lw_bestFeeder_16 : decode method_14_code 16 = .ok (.iconst 2, 1) := zo_5 (zd_b zq_method_14_code_0 16 rfl rfl rfl)
theorem d_Lw_bestFeeder_17 : decode method_14_code 17 = .ok (.ireturn, 1) := zo_172 (zd_b zq_method_14_code_0 17 rfl rfl rfl)
theorem d_Lw_bestFeeder_7 : decode method_14_code 7 = .ok (.i2l, 1) := zo_133 (zd_b zq_method_14_code_0 7 rfl rfl rfl)
theorem d_Lw_bestFeeder_8 : decode method_14_code 8 = .ok (.lastore, 1) := zo_80 (zd_b zq_method_14_code_0 8 rfl rfl rfl)
theorem d_Lw_bestFeeder_9 : decode method_14_code 9 = .ok (.goto 9, 3) := zo_167 (d := 0) (e := 9) (zd_b zq_method_14_code_0 9 rfl rfl rfl) (zd_b zq_method_14_code_0 10 rfl rfl rfl) (zd_b zq_method_14_code_0 11 rfl rfl rfl) (by decide +kernel)
theorem d_Lw_bestFeeder_18 : decode method_14_code 18 = .ok (.iconst 0, 1) := zo_3 (zd_b zq_method_14_code_0 18 rfl rfl rfl)
theorem d_Lw_bestFeeder_19 : decode method_14_code 19 = .ok (.ireturn, 1) := zo_172 (zd_b zq_method_14_code_0 19 rfl rfl rfl)
set_option maxHeartbeats 4000000 in
set_option maxRecDepth 100000 in
theorem W_bestFeeder {g : zG} {ad : Nat → Nat} {t : zTT} {u : zNN} {w : zW} (hI : IVm g ad t u w) (h : Int32) : zMB g M_Lw_bestFeeder [.ref (ad 0), .int h, .ref (ad 69)] w (fun o w1 => MKx g ad t u.1 o w1) 10 300 := by
  obtain ⟨s, hI⟩ := hI
  obtain ⟨e_a, wf_a, k_a⟩ := hI.1.2 0 (by decide)
  obtain rfl := kd_0.mp k_a
  obtain ⟨e_o1, wf_o1, k_o1⟩ := hI.1.2 69 (by decide)
  obtain rfl := kd_69.mp k_o1
  refine y_ofH (by decide) (by decide) (Nat.le_of_ble_eq_true rfl) (y_base (cs := [((ad 0), .inr (11, [.ref (ad 1), .ref (ad 5), .ref (ad 18), .ref (ad 31), .ref (ad 32), .ref (ad 36), .ref (ad 42), .ref (ad 45), .ref (ad 47), .ref (ad 49), .ref (ad 50), .ref (ad 51)])), ((ad 69), .inl (3, 1, .inr (.inl (((mg t s).1 69).2.1))))]) (hI.1.I [0, 69] _ rfl (by decide) (by decide) (List.forall_mem_cons.mpr ⟨wf_a, (List.forall_mem_cons.mpr ⟨wf_o1, (fun _ h => nomatch h)⟩)⟩)) ?_)
  refine y_lvE (lv2 := [(0, .ref (ad 0)), (1, .int h), (2, .ref (ad 69))]) rfl ?_
  refine y_aload_n d_Lw_bestFeeder_0 rfl 2 rfl ?_
  refine y_iconst d_Lw_bestFeeder_1 (v := 0) (by decide) ?_
  refine y_aload_n d_Lw_bestFeeder_2 rfl 0 rfl ?_
  refine y_iload_n d_Lw_bestFeeder_3 rfl 1 rfl ?_
  refine yw_callVH (As := [.int h]) (rest := [.int 0, .ref (ad 69)]) (q0 := 0) rfl rfl ln_Lw_56 w_im_Ip_bestFeeder w_se_Ip_bestFeeder ok_Lw_bestFeeder_Ip_bestFeeder d_Lw_bestFeeder_4 (fun wA hA => K_Ip_bestFeeder ⟨_, (hI.gen (t2 := (mg t s)) (is := [0, 69]) (L2 := []) hA rfl ⟨kd_0.mpr rfl, kd_69.mpr rfl, trivial⟩ (by decide) (by decide) (fun _ h => nomatch h) (fun _ h => nomatch h) (fun _ _ _ => rfl) (fun h => h) rfl)⟩ h) rfl rfl (Nat.le_of_ble_eq_true rfl) (by omega) (by omega) (fun wA4 hA4 E wB4 hx => ?_) (fun wA4 hA4 v wB4 hx => ?_)
  · obtain ⟨h1, u2, hu, hI2⟩ := hx
    rcases List.mem_cons.mp (zriE h1) with rfl | g2
    · refine ⟨"java/lang/IllegalArgumentException", [], [(0, 9, 15, 33)], (0, 9, 12, 13), rfl, (fun z hz => nomatch hz), by decide, by decide, lx_Lw_13, ce_13, fun qx => ?_⟩
      refine y_base (cs := []) (z_I.nil wB4) ?_
      refine y_astore_n (lv' := [(3, .ref qx), (0, .ref (ad 0)), (1, .int h), (2, .ref (ad 69))]) d_Lw_bestFeeder_12 rfl (by decide) rfl ?_
      refine y_iconst d_Lw_bestFeeder_13 (v := 1) (by decide) ?_
      refine y_iret d_Lw_bestFeeder_14 rfl rfl ?_
      exact fun w1 h1 => ⟨⟨_, rfl⟩, u2, hu, (z_I.same (z_I.nil _) h1).symm ▸ hI2⟩
    · obtain rfl := List.mem_singleton.mp g2
      refine ⟨"java/util/NoSuchElementException", [(0, 9, 12, 13)], [], (0, 9, 15, 33), rfl, (fun z hz => by simp only [List.mem_cons, List.not_mem_nil, or_false] at hz; rcases hz with rfl; exact Or.inr ⟨by decide, _, lx_Lw_13, by decide⟩), by decide, by decide, lx_Lw_33, ce_33, fun qx => ?_⟩
      refine y_base (cs := []) (z_I.nil wB4) ?_
      refine y_astore_n (lv' := [(3, .ref qx), (0, .ref (ad 0)), (1, .int h), (2, .ref (ad 69))]) d_Lw_bestFeeder_15 rfl (by decide) rfl ?_
      refine y_iconst d_Lw_bestFeeder_16 (v := 2) (by decide) ?_
      refine y_iret d_Lw_bestFeeder_17 rfl rfl ?_
      exact fun w1 h1 => ⟨⟨_, rfl⟩, u2, hu, (z_I.same (z_I.nil _) h1).symm ▸ hI2⟩
  · obtain ⟨h1, u2, hu, hI2⟩ := hx
    obtain ⟨v9, rfl⟩ := zriV h1
    refine yw_st (st2 := [.int v9, .int 0, .ref (ad 69)]) rfl ?_
    obtain ⟨s9, hI⟩ := hI2
    obtain ⟨e_o1, wf_o1, k_o1⟩ := hI.1.2 69 (by decide)
    obtain rfl := kd_69.mp k_o1
    refine y_base (cs := [((ad 69), .inl (3, 1, .inr (.inl (((mg t s9).1 69).2.1))))]) (hI.1.I [69] _ rfl (by decide) (by decide) (List.forall_mem_cons.mpr ⟨wf_o1, (fun _ h => nomatch h)⟩)) ?_
    refine y_i2l d_Lw_bestFeeder_7 (v := v9.toInt64) rfl ?_
    refine y_last d_Lw_bestFeeder_8 (q0 := 0) rfl (fun q => q.elim (by decide) (by decide)) (f' := vp_updL (((mg t s9).1 69).2.1) 0 v9.toInt64) rfl (cs' := [((ad 69), .inl (3, 1, .inr (.inl (vp_updL (((mg t s9).1 69).2.1) 0 v9.toInt64))))]) rfl ?_
    refine y_goto (tgt := 18) d_Lw_bestFeeder_9 (by decide) ?_
    refine y_iconst d_Lw_bestFeeder_18 (v := 0) (by decide) ?_
    refine y_iret d_Lw_bestFeeder_19 rfl rfl ?_
    exact fun w1 h1 => ⟨⟨_, rfl⟩, u2, hu, IVm.tz ((hI.gen (t2 := (zup (mg t s9).1 [(69, (((mg t s9).1 69).1, vp_updL (((mg t s9).1 69).2.1) 0 v9.toInt64, ((mg t s9).1 69).2.2))], (mg t s9).2)) (is := [69]) (L2 := []) h1 rfl ⟨kd_69.mpr rfl, trivial⟩ (by decide) (by decide) (fun _ h => nomatch h) (fun _ h => nomatch h) (fun i hi hn => zup_out (fun q => hn ((by decide : ∀ j ∈ ([69] : List Nat), j ∈ ([69] : List Nat)) i q))) (fun h => h) rfl)) (tx_all rfl)⟩
abbrev M_Lw_mill : zM := (⟨"IronpourLaw", "mill", "(LIronpour;IIII[J)I"⟩, method_15_code, 7, (Option.some FieldType.int), 7, 124, [((0 : Nat), (14 : Nat), (17 : Nat), (13 : Nat))])
theorem d_Lw_mill_0 : decode method_15_code 0 = .ok (.aload 5, 2) := zo_25 (d := 5) (zd_b zq_method_15_code_0 0 rfl rfl rfl) (zd_b zq_method_15_code_0 1 rfl rfl rfl)
theorem d_Lw_mill_2 : decode method_15_code 2 = .ok (.iconst 0, 1) := zo_3 (zd_b zq_method_15_code_0 2 rfl rfl rfl)
theorem d_Lw_mill_3 : decode method_15_code 3 = .ok (.aload_n 0, 1) := zo_42 (zd_b zq_method_15_code_0 3 rfl rfl rfl)
theorem d_Lw_mill_4 : decode method_15_code 4 = .ok (.iload_n 1, 1) := zo_27 (zd_b zq_method_15_code_0 4 rfl rfl rfl)
theorem d_Lw_mill_5 : decode method_15_code 5 = .ok (.iload_n 2, 1) := zo_28 (zd_b zq_method_15_code_0 5 rfl rfl rfl)
theorem d_Lw_mill_6 : decode method_15_code 6 = .ok (.iload_n 3, 1) := zo_29 (zd_b zq_method_15_code_0 6 rfl rfl rfl)
theorem d_Lw_mill_7 : decode method_15_code 7 = .ok (.iload 4, 2) := zo_21 (d := 4) (zd_b zq_method_15_code_0 7 rfl rfl rfl) (zd_b zq_method_15_code_0 8 rfl rfl rfl)
theorem d_Lw_mill_9 : decode method_15_code 9 = .ok (.invokevirtual 59, 3) := zo_182 (d := 0) (e := 59) (zd_b zq_method_15_code_0 9 rfl rfl rfl) (zd_b zq_method_15_code_0 10 rfl rfl rfl) (zd_b zq_method_15_code_0 11 rfl rfl rfl)
theorem ok_Lw_mill_Ip_mill : z_okH M_Lw_mill M_Ip_mill 4 := ⟨z_mj4 (i := 174) rfl (by decide +kernel), rfl, ⟨by decide +kernel, by decide +kernel, by decide +kernel⟩, ⟨by decide, by decide⟩, z_mj1 (i := 1) rfl (by decide +kernel)⟩
theorem ln_Lw_59 : Cond.methodLink "IronpourLaw" 59 M_Ip_mill.1 ∈ z_gw := z_mj4 (i := 171) rfl (by decide +kernel)
theorem w_im_Ip_mill : Cond.instanceMethod M_Ip_mill.1 ∈ z_gw := z_mj4 (i := 172) rfl (by decide +kernel)
theorem w_se_Ip_mill : Cond.selects M_Ip_mill.1.cls M_Ip_mill.1 M_Ip_mill.1 ∈ z_gw := z_mj4 (i := 173) rfl (by decide +kernel)
theorem d_Lw_mill_17 : decode method_15_code 17 = .ok (.astore 6, 2) := zo_58 (d := 6) (zd_b zq_method_15_code_0 17 rfl rfl rfl) (zd_b zq_method_15_code_0 18 rfl rfl rfl)
theorem d_Lw_mill_19 : decode method_15_code 19 = .ok (.iconst 1, 1) := zo_4 (zd_b zq_method_15_code_0 19 rfl rfl rfl)
theorem d_Lw_mill_20 : decode method_15_code 20 = .ok (.ireturn, 1) := zo_172 (zd_b zq_method_15_code_0 20 rfl rfl rfl)
theorem d_Lw_mill_12 : decode method_15_code 12 = .ok (.i2l, 1) := zo_133 (zd_b zq_method_15_code_0 12 rfl rfl rfl)
theorem d_Lw_mill_13 : decode method_15_code 13 = .ok (.lastore, 1) := zo_80 (zd_b zq_method_15_code_0 13 rfl rfl rfl)
theorem d_Lw_mill_14 : decode method_15_code 14 = .ok (.goto 7, 3) := zo_167 (d := 0) (e := 7) (zd_b zq_method_15_code_0 14 rfl rfl rfl) (zd_b zq_method_15_code_0 15 rfl rfl rfl) (zd_b zq_method_15_code_0 16 rfl rfl rfl) (by decide +kernel)
theorem d_Lw_mill_21 : decode method_15_code 21 = .ok (.iconst 0, 1) := zo_3 (zd_b zq_method_15_code_0 21 rfl rfl rfl)
theorem d_Lw_mill_22 : decode method_15_code 22 = .ok (.ireturn, 1) := zo_172 (zd_b zq_method_15_code_0 22 rfl rfl rfl)
