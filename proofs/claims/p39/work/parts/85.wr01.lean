set_option maxHeartbeats 4000000 in
set_option maxRecDepth 100000 in
theorem W_filledIn {g : zG} {ad : Nat → Nat} {t : zTT} {u : zNN} {w : zW} (hI : IVm g ad t u w) (x y : Int32) : zMB g M_Lw_filledIn [.ref (ad 0), .int x, .int y, .ref (ad 69)] w (fun o w1 => MKx g ad t u.1 o w1) 10 300 := by
  obtain ⟨s, hI⟩ := hI
  obtain ⟨e_a, wf_a, k_a⟩ := hI.1.2 0 (by decide)
  obtain rfl := kd_0.mp k_a
  obtain ⟨e_o1, wf_o1, k_o1⟩ := hI.1.2 69 (by decide)
  obtain rfl := kd_69.mp k_o1
  refine y_ofH (by decide) (by decide) (Nat.le_of_ble_eq_true rfl) (y_base (cs := [((ad 0), .inr (11, [.ref (ad 1), .ref (ad 5), .ref (ad 18), .ref (ad 31), .ref (ad 32), .ref (ad 36), .ref (ad 42), .ref (ad 45), .ref (ad 47), .ref (ad 49), .ref (ad 50), .ref (ad 51)])), ((ad 69), .inl (3, 1, .inr (.inl (((mg t s).1 69).2.1))))]) (hI.1.I [0, 69] _ rfl (by decide) (by decide) (List.forall_mem_cons.mpr ⟨wf_a, (List.forall_mem_cons.mpr ⟨wf_o1, (fun _ h => nomatch h)⟩)⟩)) ?_)
  refine y_lvE (lv2 := [(0, .ref (ad 0)), (1, .int x), (2, .int y), (3, .ref (ad 69))]) rfl ?_
  refine y_aload_n d_Lw_filledIn_0 rfl 3 rfl ?_
  refine y_iconst d_Lw_filledIn_1 (v := 0) (by decide) ?_
  refine y_aload_n d_Lw_filledIn_2 rfl 0 rfl ?_
  refine y_iload_n d_Lw_filledIn_3 rfl 1 rfl ?_
  refine y_iload_n d_Lw_filledIn_4 rfl 2 rfl ?_
  refine yw_callVH (As := [.int x, .int y]) (rest := [.int 0, .ref (ad 69)]) (q0 := 0) rfl rfl ln_Lw_25 w_im_Ip_filledIn w_se_Ip_filledIn ok_Lw_filledIn_Ip_filledIn d_Lw_filledIn_5 (fun wA hA => K_Ip_filledIn ⟨_, (hI.gen (t2 := (mg t s)) (is := [0, 69]) (L2 := []) hA rfl ⟨kd_0.mpr rfl, kd_69.mpr rfl, trivial⟩ (by decide) (by decide) (fun _ h => nomatch h) (fun _ h => nomatch h) (fun _ _ _ => rfl) (fun h => h) rfl)⟩ x y) rfl rfl (Nat.le_of_ble_eq_true rfl) (by omega) (by omega) (fun wA5 hA5 E wB5 hx => ?_) (fun wA5 hA5 v wB5 hx => ?_)
  · obtain ⟨h1, u2, hu, hI2⟩ := hx
    obtain rfl := List.mem_singleton.mp (zriE h1)
    refine ⟨"java/lang/IndexOutOfBoundsException", [], [], (0, 10, 13, 19), rfl, (fun z hz => nomatch hz), by decide, by decide, lx_Lw_19, ce_19, fun qx => ?_⟩
    refine y_base (cs := []) (z_I.nil wB5) ?_
    refine y_astore (lv' := [(4, .ref qx), (0, .ref (ad 0)), (1, .int x), (2, .int y), (3, .ref (ad 69))]) d_Lw_filledIn_13 (by decide) rfl ?_
    refine y_iconst d_Lw_filledIn_15 (v := 1) (by decide) ?_
    refine y_iret d_Lw_filledIn_16 rfl rfl ?_
    exact fun w1 h1 => ⟨⟨_, rfl⟩, u2, hu, (z_I.same (z_I.nil _) h1).symm ▸ hI2⟩
  · obtain ⟨h1, u2, hu, hI2⟩ := hx
    obtain ⟨v9, rfl⟩ := zriV h1
    refine yw_st (st2 := [.int v9, .int 0, .ref (ad 69)]) rfl ?_
    obtain ⟨s9, hI⟩ := hI2
    obtain ⟨e_o1, wf_o1, k_o1⟩ := hI.1.2 69 (by decide)
    obtain rfl := kd_69.mp k_o1
    refine y_base (cs := [((ad 69), .inl (3, 1, .inr (.inl (((mg t s9).1 69).2.1))))]) (hI.1.I [69] _ rfl (by decide) (by decide) (List.forall_mem_cons.mpr ⟨wf_o1, (fun _ h => nomatch h)⟩)) ?_
    refine y_i2l d_Lw_filledIn_8 (v := v9.toInt64) rfl ?_
    refine y_last d_Lw_filledIn_9 (q0 := 0) rfl (fun q => q.elim (by decide) (by decide)) (f' := vp_updL (((mg t s9).1 69).2.1) 0 v9.toInt64) rfl (cs' := [((ad 69), .inl (3, 1, .inr (.inl (vp_updL (((mg t s9).1 69).2.1) 0 v9.toInt64))))]) rfl ?_
    refine y_goto (tgt := 17) d_Lw_filledIn_10 (by decide) ?_
    refine y_iconst d_Lw_filledIn_17 (v := 0) (by decide) ?_
    refine y_iret d_Lw_filledIn_18 rfl rfl ?_
    exact fun w1 h1 => ⟨⟨_, rfl⟩, u2, hu, IVm.tz ((hI.gen (t2 := (zup (mg t s9).1 [(69, (((mg t s9).1 69).1, vp_updL (((mg t s9).1 69).2.1) 0 v9.toInt64, ((mg t s9).1 69).2.2))], (mg t s9).2)) (is := [69]) (L2 := []) h1 rfl ⟨kd_69.mpr rfl, trivial⟩ (by decide) (by decide) (fun _ h => nomatch h) (fun _ h => nomatch h) (fun i hi hn => zup_out (fun q => hn ((by decide : ∀ j ∈ ([69] : List Nat), j ∈ ([69] : List Nat)) i q))) (fun h => h) rfl)) (tx_all rfl)⟩
abbrev M_Lw_speed : zM := (⟨"IronpourLaw", "speed", "(LIronpour;[J)I"⟩, method_7_code, 3, (Option.some FieldType.int), 7, 120, [((0 : Nat), (8 : Nat), (11 : Nat), (33 : Nat))])
theorem d_Lw_speed_0 : decode method_7_code 0 = .ok (.aload_n 1, 1) := zo_43 (zd_b zq_method_7_code_0 0 rfl rfl rfl)
theorem d_Lw_speed_1 : decode method_7_code 1 = .ok (.iconst 0, 1) := zo_3 (zd_b zq_method_7_code_0 1 rfl rfl rfl)
theorem d_Lw_speed_2 : decode method_7_code 2 = .ok (.aload_n 0, 1) := zo_42 (zd_b zq_method_7_code_0 2 rfl rfl rfl)
theorem d_Lw_speed_3 : decode method_7_code 3 = .ok (.invokevirtual 29, 3) := zo_182 (d := 0) (e := 29) (zd_b zq_method_7_code_0 3 rfl rfl rfl) (zd_b zq_method_7_code_0 4 rfl rfl rfl) (zd_b zq_method_7_code_0 5 rfl rfl rfl)
theorem ok_Lw_speed_Ip_speed : z_okH M_Lw_speed M_Ip_speed 0 := ⟨z_mj4 (i := 59) rfl (by decide +kernel), rfl, ⟨by decide +kernel, by decide +kernel, by decide +kernel⟩, ⟨by decide, by decide⟩, z_mj1 (i := 1) rfl (by decide +kernel)⟩
theorem ln_Lw_29 : Cond.methodLink "IronpourLaw" 29 M_Ip_speed.1 ∈ z_gw := z_mj4 (i := 56) rfl (by decide +kernel)
theorem w_im_Ip_speed : Cond.instanceMethod M_Ip_speed.1 ∈ z_gw := z_mj4 (i := 57) rfl (by decide +kernel)
theorem w_se_Ip_speed : Cond.selects M_Ip_speed.1.cls M_Ip_speed.1 M_Ip_speed.1 ∈ z_gw := z_mj4 (i := 58) rfl (by decide +kernel)
theorem ce_33 : Cond.castable "java/util/NoSuchElementException" "java/util/NoSuchElementException" ∈ z_nw := z_mk4 (i := 66) rfl (by decide +kernel)
theorem lx_Lw_33 : Cond.classLink "IronpourLaw" 33 "java/util/NoSuchElementException" ∈ z_gw := z_mj4 (i := 55) rfl (by decide +kernel)
theorem d_Lw_speed_11 : decode method_7_code 11 = .ok (.astore_n 2, 1) := zo_77 (zd_b zq_method_7_code_0 11 rfl rfl rfl)
theorem d_Lw_speed_12 : decode method_7_code 12 = .ok (.iconst 1, 1) := zo_4 (zd_b zq_method_7_code_0 12 rfl rfl rfl)
theorem d_Lw_speed_13 : decode method_7_code 13 = .ok (.ireturn, 1) := zo_172 (zd_b zq_method_7_code_0 13 rfl rfl rfl)
theorem d_Lw_speed_6 : decode method_7_code 6 = .ok (.i2l, 1) := zo_133 (zd_b zq_method_7_code_0 6 rfl rfl rfl)
theorem d_Lw_speed_7 : decode method_7_code 7 = .ok (.lastore, 1) := zo_80 (zd_b zq_method_7_code_0 7 rfl rfl rfl)
theorem d_Lw_speed_8 : decode method_7_code 8 = .ok (.goto 6, 3) := zo_167 (d := 0) (e := 6) (zd_b zq_method_7_code_0 8 rfl rfl rfl) (zd_b zq_method_7_code_0 9 rfl rfl rfl) (zd_b zq_method_7_code_0 10 rfl rfl rfl) (by decide +kernel)
theorem d_Lw_speed_14 : decode method_7_code 14 = .ok (.iconst 0, 1) := zo_3 (zd_b zq_method_7_code_0 14 rfl rfl rfl)
theorem d_Lw_speed_15 : decode method_7_code 15 = .ok (.ireturn, 1) := zo_172 (zd_b zq_method_7_code_0 15 rfl rfl rfl)
set_option maxHeartbeats 4000000 in
set_option maxRecDepth 100000 in
theorem W_speed {g : zG} {ad : Nat → Nat} {t : zTT} {u : zNN} {w : zW} (hI : IVm g ad t u w) : zMB g M_Lw_speed [.ref (ad 0), .ref (ad 69)] w (fun o w1 => MKx g ad t u.1 o w1) 10 300 := by
  obtain ⟨s, hI⟩ := hI
  obtain ⟨e_a, wf_a, k_a⟩ := hI.1.2 0 (by decide)
  obtain rfl := kd_0.mp k_a
  obtain ⟨e_o1, wf_o1, k_o1⟩ := hI.1.2 69 (by decide)
  obtain rfl := kd_69.mp k_o1
  refine y_ofH (by decide) (by decide) (Nat.le_of_ble_eq_true rfl) (y_base (cs := [((ad 0), .inr (11, [.ref (ad 1), .ref (ad 5), .ref (ad 18), .ref (ad 31), .ref (ad 32), .ref (ad 36), .ref (ad 42), .ref (ad 45), .ref (ad 47), .ref (ad 49), .ref (ad 50), .ref (ad 51)])), ((ad 69), .inl (3, 1, .inr (.inl (((mg t s).1 69).2.1))))]) (hI.1.I [0, 69] _ rfl (by decide) (by decide) (List.forall_mem_cons.mpr ⟨wf_a, (List.forall_mem_cons.mpr ⟨wf_o1, (fun _ h => nomatch h)⟩)⟩)) ?_)
  refine y_lvE (lv2 := [(0, .ref (ad 0)), (1, .ref (ad 69))]) rfl ?_
  refine y_aload_n d_Lw_speed_0 rfl 1 rfl ?_
  refine y_iconst d_Lw_speed_1 (v := 0) (by decide) ?_
  refine y_aload_n d_Lw_speed_2 rfl 0 rfl ?_
  refine yw_callVH (As := []) (rest := [.int 0, .ref (ad 69)]) (q0 := 0) rfl rfl ln_Lw_29 w_im_Ip_speed w_se_Ip_speed ok_Lw_speed_Ip_speed d_Lw_speed_3 (fun wA hA => K_Ip_speed ⟨_, (hI.gen (t2 := (mg t s)) (is := [0, 69]) (L2 := []) hA rfl ⟨kd_0.mpr rfl, kd_69.mpr rfl, trivial⟩ (by decide) (by decide) (fun _ h => nomatch h) (fun _ h => nomatch h) (fun _ _ _ => rfl) (fun h => h) rfl)⟩) rfl rfl (Nat.le_of_ble_eq_true rfl) (by omega) (by omega) (fun wA3 hA3 E wB3 hx => ?_) (fun wA3 hA3 v wB3 hx => ?_)
  · obtain ⟨h1, u2, hu, hI2⟩ := hx
    obtain rfl := List.mem_singleton.mp (zriE h1)
    refine ⟨"java/util/NoSuchElementException", [], [], (0, 8, 11, 33), rfl, (fun z hz => nomatch hz), by decide, by decide, lx_Lw_33, ce_33, fun qx => ?_⟩
    refine y_base (cs := []) (z_I.nil wB3) ?_
    refine y_astore_n (lv' := [(2, .ref qx), (0, .ref (ad 0)), (1, .ref (ad 69))]) d_Lw_speed_11 rfl (by decide) rfl ?_
    refine y_iconst d_Lw_speed_12 (v := 1) (by decide) ?_
    refine y_iret d_Lw_speed_13 rfl rfl ?_
    exact fun w1 h1 => ⟨⟨_, rfl⟩, u2, hu, (z_I.same (z_I.nil _) h1).symm ▸ hI2⟩
  · obtain ⟨h1, u2, hu, hI2⟩ := hx
    obtain ⟨v9, rfl⟩ := zriV h1
    refine yw_st (st2 := [.int v9, .int 0, .ref (ad 69)]) rfl ?_
    obtain ⟨s9, hI⟩ := hI2
    obtain ⟨e_o1, wf_o1, k_o1⟩ := hI.1.2 69 (by decide)
    obtain rfl := kd_69.mp k_o1
    refine y_base (cs := [((ad 69), .inl (3, 1, .inr (.inl (((mg t s9).1 69).2.1))))]) (hI.1.I [69] _ rfl (by decide) (by decide) (List.forall_mem_cons.mpr ⟨wf_o1, (fun _ h => nomatch h)⟩)) ?_
    refine y_i2l d_Lw_speed_6 (v := v9.toInt64) rfl ?_
    refine y_last d_Lw_speed_7 (q0 := 0) rfl (fun q => q.elim (by decide) (by decide)) (f' := vp_updL (((mg t s9).1 69).2.1) 0 v9.toInt64) rfl (cs' := [((ad 69), .inl (3, 1, .inr (.inl (vp_updL (((mg t s9).1 69).2.1) 0 v9.toInt64))))]) rfl ?_
    refine y_goto (tgt := 14) d_Lw_speed_8 (by decide) ?_
    refine y_iconst d_Lw_speed_14 (v := 0) (by decide) ?_
    refine y_iret d_Lw_speed_15 rfl rfl ?_
    exact fun w1 h1 => ⟨⟨_, rfl⟩, u2, hu, IVm.tz ((hI.gen (t2 := (zup (mg t s9).1 [(69, (((mg t s9).1 69).1, vp_updL (((mg t s9).1 69).2.1) 0 v9.toInt64, ((mg t s9).1 69).2.2))], (mg t s9).2)) (is := [69]) (L2 := []) h1 rfl ⟨kd_69.mpr rfl, trivial⟩ (by decide) (by decide) (fun _ h => nomatch h) (fun _ h => nomatch h) (fun i hi hn => zup_out (fun q => hn ((by decide : ∀ j ∈ ([69] : List Nat), j ∈ ([69] : List Nat)) i q))) (fun h => h) rfl)) (tx_all rfl)⟩
abbrev M_Lw_frozenIn : zM := (⟨"IronpourLaw", "frozenIn", "(LIronpour;III[J)I"⟩, method_8_code, 6, (Option.some FieldType.int), 8, 160, [((0 : Nat), (12 : Nat), (15 : Nat), (19 : Nat)), ((0 : Nat), (12 : Nat), (19 : Nat), (13 : Nat))])
theorem d_Lw_frozenIn_0 : decode method_8_code 0 = .ok (.aload 4, 2) := zo_25 (d := 4) (zd_b zq_method_8_code_0 0 rfl rfl rfl) (zd_b zq_method_8_code_0 1 rfl rfl rfl)
theorem d_Lw_frozenIn_2 : decode method_8_code 2 = .ok (.iconst 0, 1) := zo_3 (zd_b zq_method_8_code_0 2 rfl rfl rfl)
theorem d_Lw_frozenIn_3 : decode method_8_code 3 = .ok (.aload_n 0, 1) := zo_42 (zd_b zq_method_8_code_0 3 rfl rfl rfl)
theorem d_Lw_frozenIn_4 : decode method_8_code 4 = .ok (.iload_n 1, 1) := zo_27 (zd_b zq_method_8_code_0 4 rfl rfl rfl)
theorem d_Lw_frozenIn_5 : decode method_8_code 5 = .ok (.iload_n 2, 1) := zo_28 (zd_b zq_method_8_code_0 5 rfl rfl rfl)
theorem d_Lw_frozenIn_6 : decode method_8_code 6 = .ok (.iload_n 3, 1) := zo_29 (zd_b zq_method_8_code_0 6 rfl rfl rfl)
theorem d_Lw_frozenIn_7 : decode method_8_code 7 = .ok (.invokevirtual 35, 3) := zo_182 (d := 0) (e := 35) (zd_b zq_method_8_code_0 7 rfl rfl rfl) (zd_b zq_method_8_code_0 8 rfl rfl rfl) (zd_b zq_method_8_code_0 9 rfl rfl rfl)
theorem ok_Lw_frozenIn_Ip_frozenIn : z_okH M_Lw_frozenIn M_Ip_frozenIn 3 := ⟨z_mj4 (i := 91) rfl (by decide +kernel), rfl, ⟨by decide +kernel, by decide +kernel, by decide +kernel⟩, ⟨by decide, by decide⟩, z_mj1 (i := 1) rfl (by decide +kernel)⟩
theorem ln_Lw_35 : Cond.methodLink "IronpourLaw" 35 M_Ip_frozenIn.1 ∈ z_gw := z_mj4 (i := 88) rfl (by decide +kernel)
theorem w_im_Ip_frozenIn : Cond.instanceMethod M_Ip_frozenIn.1 ∈ z_gw := z_mj4 (i := 89) rfl (by decide +kernel)
theorem w_se_Ip_frozenIn : Cond.selects M_Ip_frozenIn.1.cls M_Ip_frozenIn.1 M_Ip_frozenIn.1 ∈ z_gw := z_mj4 (i := 90) rfl (by decide +kernel)
theorem d_Lw_frozenIn_15 : decode method_8_code 15 = .ok (.astore 5, 2) := zo_58 (d := 5) (zd_b zq_method_8_code_0 15 rfl rfl rfl) (zd_b zq_method_8_code_0 16 rfl rfl rfl)
theorem d_Lw_frozenIn_17 : decode method_8_code 17 = .ok (.iconst 1, 1) := zo_4 (zd_b zq_method_8_code_0 17 rfl rfl rfl)
theorem d_Lw_frozenIn_18 : decode method_8_code 18 = .ok (.ireturn, 1) := zo_172 (zd_b zq_method_8_code_0 18 rfl rfl rfl)
theorem d_Lw_frozenIn_19 : decode method_8_code 19 = .ok (.astore 5, 2) := zo_58 (d := 5) (zd_b zq_method_8_code_0 19 rfl rfl rfl) (zd_b zq_method_8_code_0 20 rfl rfl rfl)
theorem d_Lw_frozenIn_21 : decode method_8_code 21 = .ok (.iconst 2, 1) := zo_5 (zd_b zq_method_8_code_0 21 rfl rfl rfl)
theorem d_Lw_frozenIn_22 : decode method_8_code 22 = .ok (.ireturn, 1) := zo_172 (zd_b zq_method_8_code_0 22 rfl rfl rfl)
theorem d_Lw_frozenIn_10 : decode method_8_code 10 = .ok (.i2l, 1) := zo_133 (zd_b zq_method_8_code_0 10 rfl rfl rfl)
theorem d_Lw_frozenIn_11 : decode method_8_code 11 = .ok (.lastore, 1) := zo_80 (zd_b zq_method_8_code_0 11 rfl rfl rfl)
theorem d_Lw_frozenIn_12 : decode method_8_code 12 = .ok (.goto 11, 3) := zo_167 (d := 0) (e := 11) (zd_b zq_method_8_code_0 12 rfl rfl rfl) (zd_b zq_method_8_code_0 13 rfl rfl rfl) (zd_b zq_method_8_code_0 14 rfl rfl rfl) (by decide +kernel)
theorem d_Lw_frozenIn_23 : decode method_8_code 23 = .ok (.iconst 0, 1) := zo_3 (zd_b zq_method_8_code_0 23 rfl rfl rfl)
theorem d_Lw_frozenIn_24 : decode method_8_code 24 = .ok (.ireturn, 1) := zo_172 (zd_b zq_method_8_code_0 24 rfl rfl rfl)
set_option maxHeartbeats 4000000 in
set_option maxRecDepth 100000 in
theorem W_frozenIn {g : zG} {ad : Nat → Nat} {t : zTT} {u : zNN} {w : zW} (hI : IVm g ad t u w) (x y h : Int32) : zMB g M_Lw_frozenIn [.ref (ad 0), .int x, .int y, .int h, .ref (ad 69)] w (fun o w1 => MKx g ad t u.1 o w1) 10 300 := by
  obtain ⟨s, hI⟩ := hI
  obtain ⟨e_a, wf_a, k_a⟩ := hI.1.2 0 (by decide)
  obtain rfl := kd_0.mp k_a
  obtain ⟨e_o1, wf_o1, k_o1⟩ := hI.1.2 69 (by decide)
  obtain rfl := kd_69.mp k_o1
  refine y_ofH (by decide) (by decide) (Nat.le_of_ble_eq_true rfl) (y_base (cs := [((ad 0), .inr (11, [.ref (ad 1), .ref (ad 5), .ref (ad 18), .ref (ad 31), .ref (ad 32), .ref (ad 36), .ref (ad 42), .ref (ad 45), .ref (ad 47), .ref (ad 49), .ref (ad 50), .ref (ad 51)])), ((ad 69), .inl (3, 1, .inr (.inl (((mg t s).1 69).2.1))))]) (hI.1.I [0, 69] _ rfl (by decide) (by decide) (List.forall_mem_cons.mpr ⟨wf_a, (List.forall_mem_cons.mpr ⟨wf_o1, (fun _ h => nomatch h)⟩)⟩)) ?_)
  refine y_lvE (lv2 := [(0, .ref (ad 0)), (1, .int x), (2, .int y), (3, .int h), (4, .ref (ad 69))]) rfl ?_
  refine y_aload d_Lw_frozenIn_0 4 rfl ?_
  refine y_iconst d_Lw_frozenIn_2 (v := 0) (by decide) ?_
  refine y_aload_n d_Lw_frozenIn_3 rfl 0 rfl ?_
  refine y_iload_n d_Lw_frozenIn_4 rfl 1 rfl ?_
  refine y_iload_n d_Lw_frozenIn_5 rfl 2 rfl ?_
  refine y_iload_n d_Lw_frozenIn_6 rfl 3 rfl ?_
  refine yw_callVH (As := [.int x, .int y, .int h]) (rest := [.int 0, .ref (ad 69)]) (q0 := 0) rfl rfl ln_Lw_35 w_im_Ip_frozenIn w_se_Ip_frozenIn ok_Lw_frozenIn_Ip_frozenIn d_Lw_frozenIn_7 (fun wA hA => K_Ip_frozenIn ⟨_, (hI.gen (t2 := (mg t s)) (is := [0, 69]) (L2 := []) hA rfl ⟨kd_0.mpr rfl, kd_69.mpr rfl, trivial⟩ (by decide) (by decide) (fun _ h => nomatch h) (fun _ h => nomatch h) (fun _ _ _ => rfl) (fun h => h) rfl)⟩ x y h) rfl rfl (Nat.le_of_ble_eq_true rfl) (by omega) (by omega) (fun wA7 hA7 E wB7 hx => ?_) (fun wA7 hA7 v wB7 hx => ?_)
  · obtain ⟨h1, u2, hu, hI2⟩ := hx
    rcases List.mem_cons.mp (zriE h1) with rfl | g2
    · refine ⟨"java/lang/IndexOutOfBoundsException", [], [(0, 12, 19, 13)], (0, 12, 15, 19), rfl, (fun z hz => nomatch hz), by decide, by decide, lx_Lw_19, ce_19, fun qx => ?_⟩
      refine y_base (cs := []) (z_I.nil wB7) ?_
      refine y_astore (lv' := [(5, .ref qx), (0, .ref (ad 0)), (1, .int x), (2, .int y), (3, .int h), (4, .ref (ad 69))]) d_Lw_frozenIn_15 (by decide) rfl ?_
      refine y_iconst d_Lw_frozenIn_17 (v := 1) (by decide) ?_
      refine y_iret d_Lw_frozenIn_18 rfl rfl ?_
      exact fun w1 h1 => ⟨⟨_, rfl⟩, u2, hu, (z_I.same (z_I.nil _) h1).symm ▸ hI2⟩
    · obtain rfl := List.mem_singleton.mp g2
      refine ⟨"java/lang/IllegalArgumentException", [(0, 12, 15, 19)], [], (0, 12, 19, 13), rfl, (fun z hz => by simp only [List.mem_cons, List.not_mem_nil, or_false] at hz; rcases hz with rfl; exact Or.inr ⟨by decide, _, lx_Lw_19, by decide⟩), by decide, by decide, lx_Lw_13, ce_13, fun qx => ?_⟩
      refine y_base (cs := []) (z_I.nil wB7) ?_
      refine y_astore (lv' := [(5, .ref qx), (0, .ref (ad 0)), (1, .int x), (2, .int y), (3, .int h), (4, .ref (ad 69))]) d_Lw_frozenIn_19 (by decide) rfl ?_
      refine y_iconst d_Lw_frozenIn_21 (v := 2) (by decide) ?_
      refine y_iret d_Lw_frozenIn_22 rfl rfl ?_
      exact fun w1 h1 => ⟨⟨_, rfl⟩, u2, hu, (z_I.same (z_I.nil _) h1).symm ▸ hI2⟩
  · obtain ⟨h1, u2, hu, hI2⟩ := hx
    obtain ⟨v9, rfl⟩ := zriV h1
    refine yw_st (st2 := [.int v9, .int 0, .ref (ad 69)]) rfl ?_
    obtain ⟨s9, hI⟩ := hI2
    obtain ⟨e_o1, wf_o1, k_o1⟩ := hI.1.2 69 (by decide)
    obtain rfl := kd_69.mp k_o1
    refine y_base (cs := [((ad 69), .inl (3, 1, .inr (.inl (((mg t s9).1 69).2.1))))]) (hI.1.I [69] _ rfl (by decide) (by decide) (List.forall_mem_cons.mpr ⟨wf_o1, (fun _ h => nomatch h)⟩)) ?_
    refine y_i2l d_Lw_frozenIn_10 (v := v9.toInt64) rfl ?_
    refine y_last d_Lw_frozenIn_11 (q0 := 0) rfl (fun q => q.elim (by decide) (by decide)) (f' := vp_updL (((mg t s9).1 69).2.1) 0 v9.toInt64) rfl (cs' := [((ad 69), .inl (3, 1, .inr (.inl (vp_updL (((mg t s9).1 69).2.1) 0 v9.toInt64))))]) rfl ?_
    refine y_goto (tgt := 23) d_Lw_frozenIn_12 (by decide) ?_
    refine y_iconst d_Lw_frozenIn_23 (v := 0) (by decide) ?_
    refine y_iret d_Lw_frozenIn_24 rfl rfl ?_
    exact fun w1 h1 => ⟨⟨_, rfl⟩, u2, hu, IVm.tz ((hI.gen (t2 := (zup (mg t s9).1 [(69, (((mg t s9).1 69).1, vp_updL (((mg t s9).1 69).2.1) 0 v9.toInt64, ((mg t s9).1 69).2.2))], (mg t s9).2)) (is := [69]) (L2 := []) h1 rfl ⟨kd_69.mpr rfl, trivial⟩ (by decide) (by decide) (fun _ h => nomatch h) (fun _ h => nomatch h) (fun i hi hn => zup_out (fun q => hn ((by decide : ∀ j ∈ ([69] : List Nat), j ∈ ([69] : List Nat)) i q))) (fun h => h) rfl)) (tx_all rfl)⟩
abbrev M_Lw_isFed : zM := (⟨"IronpourLaw", "isFed", "(LIronpour;III[J)I"⟩, method_10_code, 6, (Option.some FieldType.int), 8, 160, [((0 : Nat), (19 : Nat), (22 : Nat), (19 : Nat)), ((0 : Nat), (19 : Nat), (26 : Nat), (13 : Nat))])
theorem d_Lw_isFed_0 : decode method_10_code 0 = .ok (.aload 4, 2) := zo_25 (d := 4) (zd_b zq_method_10_code_0 0 rfl rfl rfl) (zd_b zq_method_10_code_0 1 rfl rfl rfl)
theorem d_Lw_isFed_2 : decode method_10_code 2 = .ok (.iconst 0, 1) := zo_3 (zd_b zq_method_10_code_0 2 rfl rfl rfl)
theorem d_Lw_isFed_3 : decode method_10_code 3 = .ok (.aload_n 0, 1) := zo_42 (zd_b zq_method_10_code_0 3 rfl rfl rfl)
theorem d_Lw_isFed_4 : decode method_10_code 4 = .ok (.iload_n 1, 1) := zo_27 (zd_b zq_method_10_code_0 4 rfl rfl rfl)
theorem d_Lw_isFed_5 : decode method_10_code 5 = .ok (.iload_n 2, 1) := zo_28 (zd_b zq_method_10_code_0 5 rfl rfl rfl)
theorem d_Lw_isFed_6 : decode method_10_code 6 = .ok (.iload_n 3, 1) := zo_29 (zd_b zq_method_10_code_0 6 rfl rfl rfl)
theorem d_Lw_isFed_7 : decode method_10_code 7 = .ok (.invokevirtual 43, 3) := zo_182 (d := 0) (e := 43) (zd_b zq_method_10_code_0 7 rfl rfl rfl) (zd_b zq_method_10_code_0 8 rfl rfl rfl) (zd_b zq_method_10_code_0 9 rfl rfl rfl)
theorem ok_Lw_isFed_Ip_isFed : z_okH M_Lw_isFed M_Ip_isFed 3 := ⟨z_mj4 (i := 117) rfl (by decide +kernel), rfl, ⟨by decide +kernel, by decide +kernel, by decide +kernel⟩, ⟨by decide, by decide⟩, z_mj1 (i := 1) rfl (by decide +kernel)⟩
theorem ln_Lw_43 : Cond.methodLink "IronpourLaw" 43 M_Ip_isFed.1 ∈ z_gw := z_mj4 (i := 114) rfl (by decide +kernel)
theorem w_im_Ip_isFed : Cond.instanceMethod M_Ip_isFed.1 ∈ z_gw := z_mj4 (i := 115) rfl (by decide +kernel)
theorem w_se_Ip_isFed : Cond.selects M_Ip_isFed.1.cls M_Ip_isFed.1 M_Ip_isFed.1 ∈ z_gw := z_mj4 (i := 116) rfl (by decide +kernel)
theorem d_Lw_isFed_22 : decode method_10_code 22 = .ok (.astore 5, 2) := zo_58 (d := 5) (zd_b zq_method_10_code_0 22 rfl rfl rfl) (zd_b zq_method_10_code_0 23 rfl rfl rfl)
theorem d_Lw_isFed_24 : decode method_10_code 24 = .ok (.iconst 1, 1) := zo_4 (zd_b zq_method_10_code_0 24 rfl rfl rfl)
theorem d_Lw_isFed_25 : decode method_10_code 25 = .ok (.ireturn, 1) := zo_172 (zd_b zq_method_10_code_0 25 rfl rfl rfl)
theorem d_Lw_isFed_26 : decode method_10_code 26 = .ok (.astore 5, 2) := zo_58 (d := 5) (zd_b zq_method_10_code_0 26 rfl rfl rfl) (zd_b zq_method_10_code_0 27 rfl rfl rfl)
theorem d_Lw_isFed_28 : decode method_10_code 28 = .ok (.iconst 2, 1) := zo_5 (zd_b zq_method_10_code_0 28 rfl rfl rfl)
theorem d_Lw_isFed_29 : decode method_10_code 29 = .ok (.ireturn, 1) := zo_172 (zd_b zq_method_10_code_0 29 rfl rfl rfl)
theorem d_Lw_isFed_10 : decode method_10_code 10 = .ok (.ifCond .eq 7, 3) := zo_153 (d := 0) (e := 7) (zd_b zq_method_10_code_0 10 rfl rfl rfl) (zd_b zq_method_10_code_0 11 rfl rfl rfl) (zd_b zq_method_10_code_0 12 rfl rfl rfl) (by decide +kernel)
theorem d_Lw_isFed_17 : decode method_10_code 17 = .ok (.lconst 0, 1) := zo_9 (zd_b zq_method_10_code_0 17 rfl rfl rfl)
theorem d_Lw_isFed_18 : decode method_10_code 18 = .ok (.lastore, 1) := zo_80 (zd_b zq_method_10_code_0 18 rfl rfl rfl)
theorem d_Lw_isFed_19 : decode method_10_code 19 = .ok (.goto 11, 3) := zo_167 (d := 0) (e := 11) (zd_b zq_method_10_code_0 19 rfl rfl rfl) (zd_b zq_method_10_code_0 20 rfl rfl rfl) (zd_b zq_method_10_code_0 21 rfl rfl rfl) (by decide +kernel)
theorem d_Lw_isFed_30 : decode method_10_code 30 = .ok (.iconst 0, 1) := zo_3 (zd_b zq_method_10_code_0 30 rfl rfl rfl)
theorem d_Lw_isFed_31 : decode method_10_code 31 = .ok (.ireturn, 1) := zo_172 (zd_b zq_method_10_code_0 31 rfl rfl rfl)
theorem d_Lw_isFed_13 : decode method_10_code 13 = .ok (.lconst 1, 1) := zo_10 (zd_b zq_method_10_code_0 13 rfl rfl rfl)
theorem d_Lw_isFed_14 : decode method_10_code 14 = .ok (.goto 4, 3) := zo_167 (d := 0) (e := 4) (zd_b zq_method_10_code_0 14 rfl rfl rfl) (zd_b zq_method_10_code_0 15 rfl rfl rfl) (zd_b zq_method_10_code_0 16 rfl rfl rfl) (by decide +kernel)
