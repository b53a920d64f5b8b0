set_option maxHeartbeats 4000000 in
set_option maxRecDepth 100000 in
theorem W_hold {g : zG} {ad : Nat → Nat} {t : zTT} {u : zNN} {w : zW} (hI : IVm g ad t u w) (x : Int32) : zMB g M_Lw_hold [.ref (ad 0), .int x, .ref (ad 69)] w (fun o w1 => MKx g ad (tK_Ip_hold x t) u.1 o w1) 10 300 := by
  obtain ⟨s, hI⟩ := hI
  obtain ⟨e_a, wf_a, k_a⟩ := hI.1.2 0 (by decide)
  obtain rfl := kd_0.mp k_a
  obtain ⟨e_o1, wf_o1, k_o1⟩ := hI.1.2 69 (by decide)
  obtain rfl := kd_69.mp k_o1
  refine y_ofH (by decide) (by decide) (Nat.le_of_ble_eq_true rfl) (y_base (cs := [((ad 0), .inr (11, [.ref (ad 1), .ref (ad 5), .ref (ad 18), .ref (ad 31), .ref (ad 32), .ref (ad 36), .ref (ad 42), .ref (ad 45), .ref (ad 47), .ref (ad 49), .ref (ad 50), .ref (ad 51)])), ((ad 69), .inl (3, 1, .inr (.inl (((mg t s).1 69).2.1))))]) (hI.1.I [0, 69] _ rfl (by decide) (by decide) (List.forall_mem_cons.mpr ⟨wf_a, (List.forall_mem_cons.mpr ⟨wf_o1, (fun _ h => nomatch h)⟩)⟩)) ?_)
  refine y_lvE (lv2 := [(0, .ref (ad 0)), (1, .int x), (2, .ref (ad 69))]) rfl ?_
  refine y_aload_n d_Lw_hold_0 rfl 2 rfl ?_
  refine y_iconst d_Lw_hold_1 (v := 0) (by decide) ?_
  refine y_aload_n d_Lw_hold_2 rfl 0 rfl ?_
  refine y_iload_n d_Lw_hold_3 rfl 1 rfl ?_
  refine yw_callVH (As := [.int x]) (rest := [.int 0, .ref (ad 69)]) (q0 := 0) rfl rfl ln_Lw_83 w_im_Ip_hold w_se_Ip_hold ok_Lw_hold_Ip_hold d_Lw_hold_4 (fun wA hA => K_Ip_hold ⟨_, (hI.gen (t2 := (mg t s)) (is := [0, 69]) (L2 := []) hA rfl ⟨kd_0.mpr rfl, kd_69.mpr rfl, trivial⟩ (by decide) (by decide) (fun _ h => nomatch h) (fun _ h => nomatch h) (fun _ _ _ => rfl) (fun h => h) rfl)⟩ x) rfl rfl (Nat.le_of_ble_eq_true rfl) (by omega) (by omega) (fun wA4 hA4 E wB4 hx => ?_) (fun wA4 hA4 v wB4 hx => ?_)
  · obtain ⟨h1, u2, hu, hI2⟩ := hx
    obtain rfl := List.mem_singleton.mp (zriE h1)
    refine ⟨"java/lang/IllegalArgumentException", [], [], (0, 9, 12, 13), rfl, (fun z hz => nomatch hz), by decide, by decide, lx_Lw_13, ce_13, fun qx => ?_⟩
    refine y_base (cs := []) (z_I.nil wB4) ?_
    refine y_astore_n (lv' := [(3, .ref qx), (0, .ref (ad 0)), (1, .int x), (2, .ref (ad 69))]) d_Lw_hold_12 rfl (by decide) rfl ?_
    refine y_iconst d_Lw_hold_13 (v := 1) (by decide) ?_
    refine y_iret d_Lw_hold_14 rfl rfl ?_
    exact fun w1 h1 => ⟨⟨_, rfl⟩, u2, hu, (z_I.same (z_I.nil _) h1).symm ▸ hI2⟩
  · obtain ⟨h1, u2, hu, hI2⟩ := hx
    obtain ⟨v9, rfl⟩ := zriV h1
    refine yw_st (st2 := [.int v9, .int 0, .ref (ad 69)]) rfl ?_
    obtain ⟨s9, hI⟩ := hI2
    obtain ⟨e_o1, wf_o1, k_o1⟩ := hI.1.2 69 (by decide)
    obtain rfl := kd_69.mp k_o1
    refine y_base (cs := [((ad 69), .inl (3, 1, .inr (.inl (((mg (tK_Ip_hold x t) s9).1 69).2.1))))]) (hI.1.I [69] _ rfl (by decide) (by decide) (List.forall_mem_cons.mpr ⟨wf_o1, (fun _ h => nomatch h)⟩)) ?_
    refine y_i2l d_Lw_hold_7 (v := v9.toInt64) rfl ?_
    refine y_last d_Lw_hold_8 (q0 := 0) rfl (fun q => q.elim (by decide) (by decide)) (f' := vp_updL (((mg (tK_Ip_hold x t) s9).1 69).2.1) 0 v9.toInt64) rfl (cs' := [((ad 69), .inl (3, 1, .inr (.inl (vp_updL (((mg (tK_Ip_hold x t) s9).1 69).2.1) 0 v9.toInt64))))]) rfl ?_
    refine y_goto (tgt := 15) d_Lw_hold_9 (by decide) ?_
    refine y_iconst d_Lw_hold_15 (v := 0) (by decide) ?_
    refine y_iret d_Lw_hold_16 rfl rfl ?_
    exact fun w1 h1 => ⟨⟨_, rfl⟩, u2, hu, IVm.tz ((hI.gen (t2 := (zup (mg (tK_Ip_hold x t) s9).1 [(69, (((mg (tK_Ip_hold x t) s9).1 69).1, vp_updL (((mg (tK_Ip_hold x t) s9).1 69).2.1) 0 v9.toInt64, ((mg (tK_Ip_hold x t) s9).1 69).2.2))], (mg (tK_Ip_hold x t) s9).2)) (is := [69]) (L2 := []) h1 rfl ⟨kd_69.mpr rfl, trivial⟩ (by decide) (by decide) (fun _ h => nomatch h) (fun _ h => nomatch h) (fun i hi hn => zup_out (fun q => hn ((by decide : ∀ j ∈ ([69] : List Nat), j ∈ ([69] : List Nat)) i q))) (fun h => h) rfl)) (tx_all rfl)⟩
abbrev M_Lw_tap : zM := (⟨"IronpourLaw", "tap", "(LIronpour;I[J)I"⟩, method_22_code, 4, (Option.some FieldType.int), 7, 121, [((0 : Nat), (9 : Nat), (12 : Nat), (13 : Nat)), ((0 : Nat), (9 : Nat), (15 : Nat), (69 : Nat)), ((0 : Nat), (9 : Nat), (18 : Nat), (78 : Nat))])
theorem d_Lw_tap_0 : decode method_22_code 0 = .ok (.aload_n 2, 1) := zo_44 (zd_b zq_method_22_code_0 0 rfl rfl rfl)
theorem d_Lw_tap_1 : decode method_22_code 1 = .ok (.iconst 0, 1) := zo_3 (zd_b zq_method_22_code_0 1 rfl rfl rfl)
theorem d_Lw_tap_2 : decode method_22_code 2 = .ok (.aload_n 0, 1) := zo_42 (zd_b zq_method_22_code_0 2 rfl rfl rfl)
theorem d_Lw_tap_3 : decode method_22_code 3 = .ok (.iload_n 1, 1) := zo_27 (zd_b zq_method_22_code_0 3 rfl rfl rfl)
theorem d_Lw_tap_4 : decode method_22_code 4 = .ok (.invokevirtual 86, 3) := zo_182 (d := 0) (e := 86) (zd_b zq_method_22_code_0 4 rfl rfl rfl) (zd_b zq_method_22_code_0 5 rfl rfl rfl) (zd_b zq_method_22_code_0 6 rfl rfl rfl)
theorem ok_Lw_tap_Ip_tap : z_okH M_Lw_tap M_Ip_tap 1 := ⟨z_mj5 (i := 105) rfl (by decide +kernel), rfl, ⟨by decide +kernel, by decide +kernel, by decide +kernel⟩, ⟨by decide, by decide⟩, z_mj1 (i := 1) rfl (by decide +kernel)⟩
theorem ln_Lw_86 : Cond.methodLink "IronpourLaw" 86 M_Ip_tap.1 ∈ z_gw := z_mj5 (i := 102) rfl (by decide +kernel)
theorem w_im_Ip_tap : Cond.instanceMethod M_Ip_tap.1 ∈ z_gw := z_mj5 (i := 103) rfl (by decide +kernel)
theorem w_se_Ip_tap : Cond.selects M_Ip_tap.1.cls M_Ip_tap.1 M_Ip_tap.1 ∈ z_gw := z_mj5 (i := 104) rfl (by decide +kernel)
theorem d_Lw_tap_12 : decode method_22_code 12 = .ok (.astore_n 3, 1) := zo_78 (zd_b zq_method_22_code_0 12 rfl rfl rfl)
theorem d_Lw_tap_13 : decode method_22_code 13 = .ok (.iconst 1, 1) := zo_4 (zd_b zq_method_22_code_0 13 rfl rfl rfl)
theorem d_Lw_tap_14 : decode method_22_code 14 = .ok (.ireturn, 1) := zo_172 (zd_b zq_method_22_code_0 14 rfl rfl rfl)
theorem d_Lw_tap_15 : decode method_22_code 15 = .ok (.astore_n 3, 1) := zo_78 (zd_b zq_method_22_code_0 15 rfl rfl rfl)
theorem d_Lw_tap_16 : decode method_22_code 16 = .ok (.iconst 2, 1) := zo_5 (zd_b zq_method_22_code_0 16 rfl rfl rfl)
theorem d_Lw_tap_17 : decode method_22_code 17 = .ok (.ireturn, 1) := zo_172 (zd_b zq_method_22_code_0 17 rfl rfl rfl)
theorem d_Lw_tap_18 : decode method_22_code 18 = .ok (.astore_n 3, 1) := zo_78 (zd_b zq_method_22_code_0 18 rfl rfl rfl)
theorem d_Lw_tap_19 : decode method_22_code 19 = .ok (.iconst 3, 1) := zo_6 (zd_b zq_method_22_code_0 19 rfl rfl rfl)
theorem d_Lw_tap_20 : decode method_22_code 20 = .ok (.ireturn, 1) := zo_172 (zd_b zq_method_22_code_0 20 rfl rfl rfl)
theorem d_Lw_tap_7 : decode method_22_code 7 = .ok (.i2l, 1) := zo_133 (zd_b zq_method_22_code_0 7 rfl rfl rfl)
theorem d_Lw_tap_8 : decode method_22_code 8 = .ok (.lastore, 1) := zo_80 (zd_b zq_method_22_code_0 8 rfl rfl rfl)
theorem d_Lw_tap_9 : decode method_22_code 9 = .ok (.goto 12, 3) := zo_167 (d := 0) (e := 12) (zd_b zq_method_22_code_0 9 rfl rfl rfl) (zd_b zq_method_22_code_0 10 rfl rfl rfl) (zd_b zq_method_22_code_0 11 rfl rfl rfl) (by decide +kernel)
theorem d_Lw_tap_21 : decode method_22_code 21 = .ok (.iconst 0, 1) := zo_3 (zd_b zq_method_22_code_0 21 rfl rfl rfl)
theorem d_Lw_tap_22 : decode method_22_code 22 = .ok (.ireturn, 1) := zo_172 (zd_b zq_method_22_code_0 22 rfl rfl rfl)
set_option maxHeartbeats 4000000 in
set_option maxRecDepth 100000 in
theorem W_tap {g : zG} {ad : Nat → Nat} {t : zTT} {u : zNN} {w : zW} (hI : IVm g ad t u w) (m : Int32) : zMB g M_Lw_tap [.ref (ad 0), .int m, .ref (ad 69)] w (fun o w1 => MKx g ad (tK_Ip_tap m t) u.1 o w1) 10 300 := by
  obtain ⟨s, hI⟩ := hI
  obtain ⟨e_a, wf_a, k_a⟩ := hI.1.2 0 (by decide)
  obtain rfl := kd_0.mp k_a
  obtain ⟨e_o1, wf_o1, k_o1⟩ := hI.1.2 69 (by decide)
  obtain rfl := kd_69.mp k_o1
  refine y_ofH (by decide) (by decide) (Nat.le_of_ble_eq_true rfl) (y_base (cs := [((ad 0), .inr (11, [.ref (ad 1), .ref (ad 5), .ref (ad 18), .ref (ad 31), .ref (ad 32), .ref (ad 36), .ref (ad 42), .ref (ad 45), .ref (ad 47), .ref (ad 49), .ref (ad 50), .ref (ad 51)])), ((ad 69), .inl (3, 1, .inr (.inl (((mg t s).1 69).2.1))))]) (hI.1.I [0, 69] _ rfl (by decide) (by decide) (List.forall_mem_cons.mpr ⟨wf_a, (List.forall_mem_cons.mpr ⟨wf_o1, (fun _ h => nomatch h)⟩)⟩)) ?_)
  refine y_lvE (lv2 := [(0, .ref (ad 0)), (1, .int m), (2, .ref (ad 69))]) rfl ?_
  refine y_aload_n d_Lw_tap_0 rfl 2 rfl ?_
  refine y_iconst d_Lw_tap_1 (v := 0) (by decide) ?_
  refine y_aload_n d_Lw_tap_2 rfl 0 rfl ?_
  refine y_iload_n d_Lw_tap_3 rfl 1 rfl ?_
  refine yw_callVH (As := [.int m]) (rest := [.int 0, .ref (ad 69)]) (q0 := 0) rfl rfl ln_Lw_86 w_im_Ip_tap w_se_Ip_tap ok_Lw_tap_Ip_tap d_Lw_tap_4 (fun wA hA => K_Ip_tap ⟨_, (hI.gen (t2 := (mg t s)) (is := [0, 69]) (L2 := []) hA rfl ⟨kd_0.mpr rfl, kd_69.mpr rfl, trivial⟩ (by decide) (by decide) (fun _ h => nomatch h) (fun _ h => nomatch h) (fun _ _ _ => rfl) (fun h => h) rfl)⟩ m) rfl rfl (Nat.le_of_ble_eq_true rfl) (by omega) (by omega) (fun wA4 hA4 E wB4 hx => ?_) (fun wA4 hA4 v wB4 hx => ?_)
  · obtain ⟨h1, u2, hu, hI2⟩ := hx
    rcases List.mem_cons.mp (zriE h1) with rfl | g3
    · refine ⟨"java/lang/IllegalArgumentException", [], [(0, 9, 15, 69), (0, 9, 18, 78)], (0, 9, 12, 13), rfl, (fun z hz => nomatch hz), by decide, by decide, lx_Lw_13, ce_13, fun qx => ?_⟩
      refine y_base (cs := []) (z_I.nil wB4) ?_
      refine y_astore_n (lv' := [(3, .ref qx), (0, .ref (ad 0)), (1, .int m), (2, .ref (ad 69))]) d_Lw_tap_12 rfl (by decide) rfl ?_
      refine y_iconst d_Lw_tap_13 (v := 1) (by decide) ?_
      refine y_iret d_Lw_tap_14 rfl rfl ?_
      exact fun w1 h1 => ⟨⟨_, rfl⟩, u2, hu, (z_I.same (z_I.nil _) h1).symm ▸ hI2⟩
    · rcases List.mem_cons.mp g3 with rfl | g2
      · refine ⟨"java/lang/IllegalStateException", [(0, 9, 12, 13)], [(0, 9, 18, 78)], (0, 9, 15, 69), rfl, (fun z hz => by simp only [List.mem_cons, List.not_mem_nil, or_false] at hz; rcases hz with rfl; exact Or.inr ⟨by decide, _, lx_Lw_13, by decide⟩), by decide, by decide, lx_Lw_69, ce_69, fun qx => ?_⟩
        refine y_base (cs := []) (z_I.nil wB4) ?_
        refine y_astore_n (lv' := [(3, .ref qx), (0, .ref (ad 0)), (1, .int m), (2, .ref (ad 69))]) d_Lw_tap_15 rfl (by decide) rfl ?_
        refine y_iconst d_Lw_tap_16 (v := 2) (by decide) ?_
        refine y_iret d_Lw_tap_17 rfl rfl ?_
        exact fun w1 h1 => ⟨⟨_, rfl⟩, u2, hu, (z_I.same (z_I.nil _) h1).symm ▸ hI2⟩
      · obtain rfl := List.mem_singleton.mp g2
        refine ⟨"java/lang/UnsupportedOperationException", [(0, 9, 12, 13), (0, 9, 15, 69)], [], (0, 9, 18, 78), rfl, (fun z hz => by simp only [List.mem_cons, List.not_mem_nil, or_false] at hz; rcases hz with rfl | rfl <;> first | exact Or.inr ⟨by decide, _, lx_Lw_13, by decide⟩ | exact Or.inr ⟨by decide, _, lx_Lw_69, by decide⟩), by decide, by decide, lx_Lw_78, ce_78, fun qx => ?_⟩
        refine y_base (cs := []) (z_I.nil wB4) ?_
        refine y_astore_n (lv' := [(3, .ref qx), (0, .ref (ad 0)), (1, .int m), (2, .ref (ad 69))]) d_Lw_tap_18 rfl (by decide) rfl ?_
        refine y_iconst d_Lw_tap_19 (v := 3) (by decide) ?_
        refine y_iret d_Lw_tap_20 rfl rfl ?_
        exact fun w1 h1 => ⟨⟨_, rfl⟩, u2, hu, (z_I.same (z_I.nil _) h1).symm ▸ hI2⟩
  · obtain ⟨h1, u2, hu, hI2⟩ := hx
    obtain ⟨v9, rfl⟩ := zriV h1
    refine yw_st (st2 := [.int v9, .int 0, .ref (ad 69)]) rfl ?_
    obtain ⟨s9, hI⟩ := hI2
    obtain ⟨e_o1, wf_o1, k_o1⟩ := hI.1.2 69 (by decide)
    obtain rfl := kd_69.mp k_o1
    refine y_base (cs := [((ad 69), .inl (3, 1, .inr (.inl (((mg (tK_Ip_tap m t) s9).1 69).2.1))))]) (hI.1.I [69] _ rfl (by decide) (by decide) (List.forall_mem_cons.mpr ⟨wf_o1, (fun _ h => nomatch h)⟩)) ?_
    refine y_i2l d_Lw_tap_7 (v := v9.toInt64) rfl ?_
    refine y_last d_Lw_tap_8 (q0 := 0) rfl (fun q => q.elim (by decide) (by decide)) (f' := vp_updL (((mg (tK_Ip_tap m t) s9).1 69).2.1) 0 v9.toInt64) rfl (cs' := [((ad 69), .inl (3, 1, .inr (.inl (vp_updL (((mg (tK_Ip_tap m t) s9).1 69).2.1) 0 v9.toInt64))))]) rfl ?_
    refine y_goto (tgt := 21) d_Lw_tap_9 (by decide) ?_
    refine y_iconst d_Lw_tap_21 (v := 0) (by decide) ?_
    refine y_iret d_Lw_tap_22 rfl rfl ?_
    exact fun w1 h1 => ⟨⟨_, rfl⟩, u2, hu, IVm.tz ((hI.gen (t2 := (zup (mg (tK_Ip_tap m t) s9).1 [(69, (((mg (tK_Ip_tap m t) s9).1 69).1, vp_updL (((mg (tK_Ip_tap m t) s9).1 69).2.1) 0 v9.toInt64, ((mg (tK_Ip_tap m t) s9).1 69).2.2))], (mg (tK_Ip_tap m t) s9).2)) (is := [69]) (L2 := []) h1 rfl ⟨kd_69.mpr rfl, trivial⟩ (by decide) (by decide) (fun _ h => nomatch h) (fun _ h => nomatch h) (fun i hi hn => zup_out (fun q => hn ((by decide : ∀ j ∈ ([69] : List Nat), j ∈ ([69] : List Nat)) i q))) (fun h => h) rfl)) (tx_all rfl)⟩
abbrev M_Lw_treat : zM := (⟨"IronpourLaw", "treat", "(LIronpour;I[J)I"⟩, method_23_code, 4, (Option.some FieldType.int), 7, 121, [((0 : Nat), (9 : Nat), (12 : Nat), (13 : Nat)), ((0 : Nat), (9 : Nat), (15 : Nat), (69 : Nat)), ((0 : Nat), (9 : Nat), (18 : Nat), (78 : Nat))])
theorem d_Lw_treat_0 : decode method_23_code 0 = .ok (.aload_n 2, 1) := zo_44 (zd_b zq_method_23_code_0 0 rfl rfl rfl)
theorem d_Lw_treat_1 : decode method_23_code 1 = .ok (.iconst 0, 1) := zo_3 (zd_b zq_method_23_code_0 1 rfl rfl rfl)
theorem d_Lw_treat_2 : decode method_23_code 2 = .ok (.aload_n 0, 1) := zo_42 (zd_b zq_method_23_code_0 2 rfl rfl rfl)
theorem d_Lw_treat_3 : decode method_23_code 3 = .ok (.iload_n 1, 1) := zo_27 (zd_b zq_method_23_code_0 3 rfl rfl rfl)
theorem d_Lw_treat_4 : decode method_23_code 4 = .ok (.invokevirtual 89, 3) := zo_182 (d := 0) (e := 89) (zd_b zq_method_23_code_0 4 rfl rfl rfl) (zd_b zq_method_23_code_0 5 rfl rfl rfl) (zd_b zq_method_23_code_0 6 rfl rfl rfl)
theorem ok_Lw_treat_Ip_treat : z_okH M_Lw_treat M_Ip_treat 1 := ⟨z_mj5 (i := 124) rfl (by decide +kernel), rfl, ⟨by decide +kernel, by decide +kernel, by decide +kernel⟩, ⟨by decide, by decide⟩, z_mj1 (i := 1) rfl (by decide +kernel)⟩
theorem ln_Lw_89 : Cond.methodLink "IronpourLaw" 89 M_Ip_treat.1 ∈ z_gw := z_mj5 (i := 121) rfl (by decide +kernel)
theorem w_im_Ip_treat : Cond.instanceMethod M_Ip_treat.1 ∈ z_gw := z_mj5 (i := 122) rfl (by decide +kernel)
theorem w_se_Ip_treat : Cond.selects M_Ip_treat.1.cls M_Ip_treat.1 M_Ip_treat.1 ∈ z_gw := z_mj5 (i := 123) rfl (by decide +kernel)
theorem d_Lw_treat_12 : decode method_23_code 12 = .ok (.astore_n 3, 1) := zo_78 (zd_b zq_method_23_code_0 12 rfl rfl rfl)
theorem d_Lw_treat_13 : decode method_23_code 13 = .ok (.iconst 1, 1) := zo_4 (zd_b zq_method_23_code_0 13 rfl rfl rfl)
theorem d_Lw_treat_14 : decode method_23_code 14 = .ok (.ireturn, 1) := zo_172 (zd_b zq_method_23_code_0 14 rfl rfl rfl)
theorem d_Lw_treat_15 : decode method_23_code 15 = .ok (.astore_n 3, 1) := zo_78 (zd_b zq_method_23_code_0 15 rfl rfl rfl)
theorem d_Lw_treat_16 : decode method_23_code 16 = .ok (.iconst 2, 1) := zo_5 (zd_b zq_method_23_code_0 16 rfl rfl rfl)
theorem d_Lw_treat_17 : decode method_23_code 17 = .ok (.ireturn, 1) := zo_172 (zd_b zq_method_23_code_0 17 rfl rfl rfl)
theorem d_Lw_treat_18 : decode method_23_code 18 = .ok (.astore_n 3, 1) := zo_78 (zd_b zq_method_23_code_0 18 rfl rfl rfl)
theorem d_Lw_treat_19 : decode method_23_code 19 = .ok (.iconst 3, 1) := zo_6 (zd_b zq_method_23_code_0 19 rfl rfl rfl)
theorem d_Lw_treat_20 : decode method_23_code 20 = .ok (.ireturn, 1) := zo_172 (zd_b zq_method_23_code_0 20 rfl rfl rfl)
theorem d_Lw_treat_7 : decode method_23_code 7 = .ok (.i2l, 1) := zo_133 (zd_b zq_method_23_code_0 7 rfl rfl rfl)
theorem d_Lw_treat_8 : decode method_23_code 8 = .ok (.lastore, 1) := zo_80 (zd_b zq_method_23_code_0 8 rfl rfl rfl)
theorem d_Lw_treat_9 : decode method_23_code 9 = .ok (.goto 12, 3) := zo_167 (d := 0) (e := 12) (zd_b zq_method_23_code_0 9 rfl rfl rfl) (zd_b zq_method_23_code_0 10 rfl rfl rfl) (zd_b zq_method_23_code_0 11 rfl rfl rfl) (by decide +kernel)
theorem d_Lw_treat_21 : decode method_23_code 21 = .ok (.iconst 0, 1) := zo_3 (zd_b zq_method_23_code_0 21 rfl rfl rfl)
theorem d_Lw_treat_22 : decode method_23_code 22 = .ok (.ireturn, 1) := zo_172 (zd_b zq_method_23_code_0 22 rfl rfl rfl)
set_option maxHeartbeats 4000000 in
set_option maxRecDepth 100000 in
theorem W_treat {g : zG} {ad : Nat → Nat} {t : zTT} {u : zNN} {w : zW} (hI : IVm g ad t u w) (m : Int32) : zMB g M_Lw_treat [.ref (ad 0), .int m, .ref (ad 69)] w (fun o w1 => MKx g ad (tK_Ip_treat m t) u.1 o w1) 10 300 := by
  obtain ⟨s, hI⟩ := hI
  obtain ⟨e_a, wf_a, k_a⟩ := hI.1.2 0 (by decide)
  obtain rfl := kd_0.mp k_a
  obtain ⟨e_o1, wf_o1, k_o1⟩ := hI.1.2 69 (by decide)
  obtain rfl := kd_69.mp k_o1
  refine y_ofH (by decide) (by decide) (Nat.le_of_ble_eq_true rfl) (y_base (cs := [((ad 0), .inr (11, [.ref (ad 1), .ref (ad 5), .ref (ad 18), .ref (ad 31), .ref (ad 32), .ref (ad 36), .ref (ad 42), .ref (ad 45), .ref (ad 47), .ref (ad 49), .ref (ad 50), .ref (ad 51)])), ((ad 69), .inl (3, 1, .inr (.inl (((mg t s).1 69).2.1))))]) (hI.1.I [0, 69] _ rfl (by decide) (by decide) (List.forall_mem_cons.mpr ⟨wf_a, (List.forall_mem_cons.mpr ⟨wf_o1, (fun _ h => nomatch h)⟩)⟩)) ?_)
  refine y_lvE (lv2 := [(0, .ref (ad 0)), (1, .int m), (2, .ref (ad 69))]) rfl ?_
  refine y_aload_n d_Lw_treat_0 rfl 2 rfl ?_
  refine y_iconst d_Lw_treat_1 (v := 0) (by decide) ?_
  refine y_aload_n d_Lw_treat_2 rfl 0 rfl ?_
  refine y_iload_n d_Lw_treat_3 rfl 1 rfl ?_
  refine yw_callVH (As := [.int m]) (rest := [.int 0, .ref (ad 69)]) (q0 := 0) rfl rfl ln_Lw_89 w_im_Ip_treat w_se_Ip_treat ok_Lw_treat_Ip_treat d_Lw_treat_4 (fun wA hA => K_Ip_treat ⟨_, (hI.gen (t2 := (mg t s)) (is := [0, 69]) (L2 := []) hA rfl ⟨kd_0.mpr rfl, kd_69.mpr rfl, trivial⟩ (by decide) (by decide) (fun _ h => nomatch h) (fun _ h => nomatch h) (fun _ _ _ => rfl) (fun h => h) rfl)⟩ m) rfl rfl (Nat.le_of_ble_eq_true rfl) (by omega) (by omega) (fun wA4 hA4 E wB4 hx => ?_) (fun wA4 hA4 v wB4 hx => ?_)
  · obtain ⟨h1, u2, hu, hI2⟩ := hx
    rcases List.mem_cons.mp (zriE h1) with rfl | g3
    · refine ⟨"java/lang/IllegalArgumentException", [], [(0, 9, 15, 69), (0, 9, 18, 78)], (0, 9, 12, 13), rfl, (fun z hz => nomatch hz), by decide, by decide, lx_Lw_13, ce_13, fun qx => ?_⟩
      refine y_base (cs := []) (z_I.nil wB4) ?_
      refine y_astore_n (lv' := [(3, .ref qx), (0, .ref (ad 0)), (1, .int m), (2, .ref (ad 69))]) d_Lw_treat_12 rfl (by decide) rfl ?_
      refine y_iconst d_Lw_treat_13 (v := 1) (by decide) ?_
      refine y_iret d_Lw_treat_14 rfl rfl ?_
      exact fun w1 h1 => ⟨⟨_, rfl⟩, u2, hu, (z_I.same (z_I.nil _) h1).symm ▸ hI2⟩
    · rcases List.mem_cons.mp g3 with rfl | g2
      · refine ⟨"java/lang/IllegalStateException", [(0, 9, 12, 13)], [(0, 9, 18, 78)], (0, 9, 15, 69), rfl, (fun z hz => by simp only [List.mem_cons, List.not_mem_nil, or_false] at hz; rcases hz with rfl; exact Or.inr ⟨by decide, _, lx_Lw_13, by decide⟩), by decide, by decide, lx_Lw_69, ce_69, fun qx => ?_⟩
        refine y_base (cs := []) (z_I.nil wB4) ?_
        refine y_astore_n (lv' := [(3, .ref qx), (0, .ref (ad 0)), (1, .int m), (2, .ref (ad 69))]) d_Lw_treat_15 rfl (by decide) rfl ?_
        refine y_iconst d_Lw_treat_16 (v := 2) (by decide) ?_
        refine y_iret d_Lw_treat_17 rfl rfl ?_
        exact fun w1 h1 => ⟨⟨_, rfl⟩, u2, hu, (z_I.same (z_I.nil _) h1).symm ▸ hI2⟩
      · obtain rfl := List.mem_singleton.mp g2
        refine ⟨"java/lang/UnsupportedOperationException", [(0, 9, 12, 13), (0, 9, 15, 69)], [], (0, 9, 18, 78), rfl, (fun z hz => by simp only [List.mem_cons, List.not_mem_nil, or_false] at hz; rcases hz with rfl | rfl <;> first | exact Or.inr ⟨by decide, _, lx_Lw_13, by decide⟩ | exact Or.inr ⟨by decide, _, lx_Lw_69, by decide⟩), by decide, by decide, lx_Lw_78, ce_78, fun qx => ?_⟩
        refine y_base (cs := []) (z_I.nil wB4) ?_
        refine y_astore_n (lv' := [(3, .ref qx), (0, .ref (ad 0)), (1, .int m), (2, .ref (ad 69))]) d_Lw_treat_18 rfl (by decide) rfl ?_
        refine y_iconst d_Lw_treat_19 (v := 3) (by decide) ?_
        refine y_iret d_Lw_treat_20 rfl rfl ?_
        exact fun w1 h1 => ⟨⟨_, rfl⟩, u2, hu, (z_I.same (z_I.nil _) h1).symm ▸ hI2⟩
  · obtain ⟨h1, u2, hu, hI2⟩ := hx
    obtain ⟨v9, rfl⟩ := zriV h1
    refine yw_st (st2 := [.int v9, .int 0, .ref (ad 69)]) rfl ?_
    obtain ⟨s9, hI⟩ := hI2
    obtain ⟨e_o1, wf_o1, k_o1⟩ := hI.1.2 69 (by decide)
    obtain rfl := kd_69.mp k_o1
    refine y_base (cs := [((ad 69), .inl (3, 1, .inr (.inl (((mg (tK_Ip_treat m t) s9).1 69).2.1))))]) (hI.1.I [69] _ rfl (by decide) (by decide) (List.forall_mem_cons.mpr ⟨wf_o1, (fun _ h => nomatch h)⟩)) ?_
    refine y_i2l d_Lw_treat_7 (v := v9.toInt64) rfl ?_
    refine y_last d_Lw_treat_8 (q0 := 0) rfl (fun q => q.elim (by decide) (by decide)) (f' := vp_updL (((mg (tK_Ip_treat m t) s9).1 69).2.1) 0 v9.toInt64) rfl (cs' := [((ad 69), .inl (3, 1, .inr (.inl (vp_updL (((mg (tK_Ip_treat m t) s9).1 69).2.1) 0 v9.toInt64))))]) rfl ?_
    refine y_goto (tgt := 21) d_Lw_treat_9 (by decide) ?_
    refine y_iconst d_Lw_treat_21 (v := 0) (by decide) ?_
    refine y_iret d_Lw_treat_22 rfl rfl ?_
    exact fun w1 h1 => ⟨⟨_, rfl⟩, u2, hu, IVm.tz ((hI.gen (t2 := (zup (mg (tK_Ip_treat m t) s9).1 [(69, (((mg (tK_Ip_treat m t) s9).1 69).1, vp_updL (((mg (tK_Ip_treat m t) s9).1 69).2.1) 0 v9.toInt64, ((mg (tK_Ip_treat m t) s9).1 69).2.2))], (mg (tK_Ip_treat m t) s9).2)) (is := [69]) (L2 := []) h1 rfl ⟨kd_69.mpr rfl, trivial⟩ (by decide) (by decide) (fun _ h => nomatch h) (fun _ h => nomatch h) (fun i hi hn => zup_out (fun q => hn ((by decide : ∀ j ∈ ([69] : List Nat), j ∈ ([69] : List Nat)) i q))) (fun h => h) rfl)) (tx_all rfl)⟩
abbrev M_Lw_minutes : zM := (⟨"IronpourLaw", "minutes", "(LIronpour;I[J)I"⟩, method_24_code, 4, (Option.some FieldType.int), 7, 122, [((0 : Nat), (9 : Nat), (12 : Nat), (13 : Nat))])
theorem d_Lw_minutes_0 : decode method_24_code 0 = .ok (.aload_n 2, 1) := zo_44 (zd_b zq_method_24_code_0 0 rfl rfl rfl)
theorem d_Lw_minutes_1 : decode method_24_code 1 = .ok (.iconst 0, 1) := zo_3 (zd_b zq_method_24_code_0 1 rfl rfl rfl)
theorem d_Lw_minutes_2 : decode method_24_code 2 = .ok (.aload_n 0, 1) := zo_42 (zd_b zq_method_24_code_0 2 rfl rfl rfl)
theorem d_Lw_minutes_3 : decode method_24_code 3 = .ok (.iload_n 1, 1) := zo_27 (zd_b zq_method_24_code_0 3 rfl rfl rfl)
theorem d_Lw_minutes_4 : decode method_24_code 4 = .ok (.invokevirtual 92, 3) := zo_182 (d := 0) (e := 92) (zd_b zq_method_24_code_0 4 rfl rfl rfl) (zd_b zq_method_24_code_0 5 rfl rfl rfl) (zd_b zq_method_24_code_0 6 rfl rfl rfl)
theorem ok_Lw_minutes_Ip_minutes : z_okH M_Lw_minutes M_Ip_minutes 1 := ⟨z_mj5 (i := 138) rfl (by decide +kernel), rfl, ⟨by decide +kernel, by decide +kernel, by decide +kernel⟩, ⟨by decide, by decide⟩, z_mj1 (i := 1) rfl (by decide +kernel)⟩
theorem ln_Lw_92 : Cond.methodLink "IronpourLaw" 92 M_Ip_minutes.1 ∈ z_gw := z_mj5 (i := 135) rfl (by decide +kernel)
theorem w_im_Ip_minutes : Cond.instanceMethod M_Ip_minutes.1 ∈ z_gw := z_mj5 (i := 136) rfl (by decide +kernel)
theorem w_se_Ip_minutes : Cond.selects M_Ip_minutes.1.cls M_Ip_minutes.1 M_Ip_minutes.1 ∈ z_gw := z_mj5 (i := 137) rfl (by decide +kernel)
theorem d_Lw_minutes_12 : decode method_24_code 12 = .ok (.astore_n 3, 1) := zo_78 (zd_b zq_method_24_code_0 12 rfl rfl rfl)
theorem d_Lw_minutes_13 : decode method_24_code 13 = .ok (.iconst 1, 1) := zo_4 (zd_b zq_method_24_code_0 13 rfl rfl rfl)
theorem d_Lw_minutes_14 : decode method_24_code 14 = .ok (.ireturn, 1) := zo_172 (zd_b zq_method_24_code_0 14 rfl rfl rfl)
theorem d_Lw_minutes_7 : decode method_24_code 7 = .ok (.i2l, 1) := zo_133 (zd_b zq_method_24_code_0 7 rfl rfl rfl)
theorem d_Lw_minutes_8 : decode method_24_code 8 = .ok (.lastore, 1) := zo_80 (zd_b zq_method_24_code_0 8 rfl rfl rfl)
theorem d_Lw_minutes_9 : decode method_24_code 9 = .ok (.goto 6, 3) := zo_167 (d := 0) (e := 6) (zd_b zq_method_24_code_0 9 rfl rfl rfl) (zd_b zq_method_24_code_0 10 rfl rfl rfl) (zd_b zq_method_24_code_0 11 rfl rfl rfl) (by decide +kernel)
theorem d_Lw_minutes_15 : decode method_24_code 15 = .ok (.iconst 0, 1) := zo_3 (zd_b zq_method_24_code_0 15 rfl rfl rfl)
theorem d_Lw_minutes_16 : decode method_24_code 16 = .ok (.ireturn, 1) := zo_172 (zd_b zq_method_24_code_0 16 rfl rfl rfl)
