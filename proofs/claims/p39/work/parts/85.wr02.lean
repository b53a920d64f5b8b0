set_option maxHeartbeats 4000000 in
set_option maxRecDepth 100000 in
theorem W_isFed {g : zG} {ad : Nat → Nat} {t : zTT} {u : zNN} {w : zW} (hI : IVm g ad t u w) (x y h : Int32) : zMB g M_Lw_isFed [.ref (ad 0), .int x, .int y, .int h, .ref (ad 69)] w (fun o w1 => MKx g ad t u.1 o w1) 10 300 := by
  obtain ⟨s, hI⟩ := hI
  obtain ⟨e_a, wf_a, k_a⟩ := hI.1.2 0 (by decide)
  obtain rfl := kd_0.mp k_a
  obtain ⟨e_o1, wf_o1, k_o1⟩ := hI.1.2 69 (by decide)
  obtain rfl := kd_69.mp k_o1
  refine y_ofH (by decide) (by decide) (Nat.le_of_ble_eq_true rfl) (y_base (cs := [((ad 0), .inr (11, [.ref (ad 1), .ref (ad 5), .ref (ad 18), .ref (ad 31), .ref (ad 32), .ref (ad 36), .ref (ad 42), .ref (ad 45), .ref (ad 47), .ref (ad 49), .ref (ad 50), .ref (ad 51)])), ((ad 69), .inl (3, 1, .inr (.inl (((mg t s).1 69).2.1))))]) (hI.1.I [0, 69] _ rfl (by decide) (by decide) (List.forall_mem_cons.mpr ⟨wf_a, (List.forall_mem_cons.mpr ⟨wf_o1, (fun _ h => nomatch h)⟩)⟩)) ?_)
  refine y_lvE (lv2 := [(0, .ref (ad 0)), (1, .int x), (2, .int y), (3, .int h), (4, .ref (ad 69))]) rfl ?_
  refine y_aload d_Lw_isFed_0 4 rfl ?_
  refine y_iconst d_Lw_isFed_2 (v := 0) (by decide) ?_
  refine y_aload_n d_Lw_isFed_3 rfl 0 rfl ?_
  refine y_iload_n d_Lw_isFed_4 rfl 1 rfl ?_
  refine y_iload_n d_Lw_isFed_5 rfl 2 rfl ?_
  refine y_iload_n d_Lw_isFed_6 rfl 3 rfl ?_
  refine yw_callVH (As := [.int x, .int y, .int h]) (rest := [.int 0, .ref (ad 69)]) (q0 := 0) rfl rfl ln_Lw_43 w_im_Ip_isFed w_se_Ip_isFed ok_Lw_isFed_Ip_isFed d_Lw_isFed_7 (fun wA hA => K_Ip_isFed ⟨_, (hI.gen (t2 := (mg t s)) (is := [0, 69]) (L2 := []) hA rfl ⟨kd_0.mpr rfl, kd_69.mpr rfl, trivial⟩ (by decide) (by decide) (fun _ h => nomatch h) (fun _ h => nomatch h) (fun _ _ _ => rfl) (fun h => h) rfl)⟩ x y h) rfl rfl (Nat.le_of_ble_eq_true rfl) (by omega) (by omega) (fun wA7 hA7 E wB7 hx => ?_) (fun wA7 hA7 v wB7 hx => ?_)
  · obtain ⟨h1, u2, hu, hI2⟩ := hx
    rcases List.mem_cons.mp (zriE h1) with rfl | g2
    · refine ⟨"java/lang/IndexOutOfBoundsException", [], [(0, 19, 26, 13)], (0, 19, 22, 19), rfl, (fun z hz => nomatch hz), by decide, by decide, lx_Lw_19, ce_19, fun qx => ?_⟩
      refine y_base (cs := []) (z_I.nil wB7) ?_
      refine y_astore (lv' := [(5, .ref qx), (0, .ref (ad 0)), (1, .int x), (2, .int y), (3, .int h), (4, .ref (ad 69))]) d_Lw_isFed_22 (by decide) rfl ?_
      refine y_iconst d_Lw_isFed_24 (v := 1) (by decide) ?_
      refine y_iret d_Lw_isFed_25 rfl rfl ?_
      exact fun w1 h1 => ⟨⟨_, rfl⟩, u2, hu, (z_I.same (z_I.nil _) h1).symm ▸ hI2⟩
    · obtain rfl := List.mem_singleton.mp g2
      refine ⟨"java/lang/IllegalArgumentException", [(0, 19, 22, 19)], [], (0, 19, 26, 13), rfl, (fun z hz => by simp only [List.mem_cons, List.not_mem_nil, or_false] at hz; rcases hz with rfl; exact Or.inr ⟨by decide, _, lx_Lw_19, by decide⟩), by decide, by decide, lx_Lw_13, ce_13, fun qx => ?_⟩
      refine y_base (cs := []) (z_I.nil wB7) ?_
      refine y_astore (lv' := [(5, .ref qx), (0, .ref (ad 0)), (1, .int x), (2, .int y), (3, .int h), (4, .ref (ad 69))]) d_Lw_isFed_26 (by decide) rfl ?_
      refine y_iconst d_Lw_isFed_28 (v := 2) (by decide) ?_
      refine y_iret d_Lw_isFed_29 rfl rfl ?_
      exact fun w1 h1 => ⟨⟨_, rfl⟩, u2, hu, (z_I.same (z_I.nil _) h1).symm ▸ hI2⟩
  · obtain ⟨h1, u2, hu, hI2⟩ := hx
    obtain ⟨v9, rfl⟩ := zriV h1
    refine yw_st (st2 := [.int v9, .int 0, .ref (ad 69)]) rfl ?_
    obtain ⟨s9, hI⟩ := hI2
    obtain ⟨e_o1, wf_o1, k_o1⟩ := hI.1.2 69 (by decide)
    obtain rfl := kd_69.mp k_o1
    refine y_base (cs := [((ad 69), .inl (3, 1, .inr (.inl (((mg t s9).1 69).2.1))))]) (hI.1.I [69] _ rfl (by decide) (by decide) (List.forall_mem_cons.mpr ⟨wf_o1, (fun _ h => nomatch h)⟩)) ?_
    refine y_if_eq (tgt := 17) d_Lw_isFed_10 (by decide) (fun c_10 => ?_) (fun c_10 => ?_)
    · refine y_lconst d_Lw_isFed_17 (v := 0) (by decide) ?_
      refine y_last d_Lw_isFed_18 (q0 := 0) rfl (fun q => q.elim (by decide) (by decide)) (f' := vp_updL (((mg t s9).1 69).2.1) 0 0) rfl (cs' := [((ad 69), .inl (3, 1, .inr (.inl (vp_updL (((mg t s9).1 69).2.1) 0 0))))]) rfl ?_
      refine y_goto (tgt := 30) d_Lw_isFed_19 (by decide) ?_
      refine y_iconst d_Lw_isFed_30 (v := 0) (by decide) ?_
      refine y_iret d_Lw_isFed_31 rfl rfl ?_
      exact fun w1 h1 => ⟨⟨_, rfl⟩, u2, hu, IVm.tz ((hI.gen (t2 := (zup (mg t s9).1 [(69, (((mg t s9).1 69).1, vp_updL (((mg t s9).1 69).2.1) 0 0, ((mg t s9).1 69).2.2))], (mg t s9).2)) (is := [69]) (L2 := []) h1 rfl ⟨kd_69.mpr rfl, trivial⟩ (by decide) (by decide) (fun _ h => nomatch h) (fun _ h => nomatch h) (fun i hi hn => zup_out (fun q => hn ((by decide : ∀ j ∈ ([69] : List Nat), j ∈ ([69] : List Nat)) i q))) (fun h => h) rfl)) (tx_all rfl)⟩
    · refine y_lconst d_Lw_isFed_13 (v := 1) (by decide) ?_
      refine y_goto (tgt := 18) d_Lw_isFed_14 (by decide) ?_
      refine y_last d_Lw_isFed_18 (q0 := 0) rfl (fun q => q.elim (by decide) (by decide)) (f' := vp_updL (((mg t s9).1 69).2.1) 0 1) rfl (cs' := [((ad 69), .inl (3, 1, .inr (.inl (vp_updL (((mg t s9).1 69).2.1) 0 1))))]) rfl ?_
      refine y_goto (tgt := 30) d_Lw_isFed_19 (by decide) ?_
      refine y_iconst d_Lw_isFed_30 (v := 0) (by decide) ?_
      refine y_iret d_Lw_isFed_31 rfl rfl ?_
      exact fun w1 h1 => ⟨⟨_, rfl⟩, u2, hu, IVm.tz ((hI.gen (t2 := (zup (mg t s9).1 [(69, (((mg t s9).1 69).1, vp_updL (((mg t s9).1 69).2.1) 0 1, ((mg t s9).1 69).2.2))], (mg t s9).2)) (is := [69]) (L2 := []) h1 rfl ⟨kd_69.mpr rfl, trivial⟩ (by decide) (by decide) (fun _ h => nomatch h) (fun _ h => nomatch h) (fun i hi hn => zup_out (fun q => hn ((by decide : ∀ j ∈ ([69] : List Nat), j ∈ ([69] : List Nat)) i q))) (fun h => h) rfl)) (tx_all rfl)⟩
abbrev M_Lw_heatAt : zM := (⟨"IronpourLaw", "heatAt", "(LIronpour;IIII[J)I"⟩, method_9_code, 7, (Option.some FieldType.int), 8, 162, [((0 : Nat), (14 : Nat), (17 : Nat), (19 : Nat)), ((0 : Nat), (14 : Nat), (21 : Nat), (13 : Nat))])
theorem d_Lw_heatAt_0 : decode method_9_code 0 = .ok (.aload 5, 2) := zo_25 (d := 5) (zd_b zq_method_9_code_0 0 rfl rfl rfl) (zd_b zq_method_9_code_0 1 rfl rfl rfl)
theorem d_Lw_heatAt_2 : decode method_9_code 2 = .ok (.iconst 0, 1) := zo_3 (zd_b zq_method_9_code_0 2 rfl rfl rfl)
theorem d_Lw_heatAt_3 : decode method_9_code 3 = .ok (.aload_n 0, 1) := zo_42 (zd_b zq_method_9_code_0 3 rfl rfl rfl)
theorem d_Lw_heatAt_4 : decode method_9_code 4 = .ok (.iload_n 1, 1) := zo_27 (zd_b zq_method_9_code_0 4 rfl rfl rfl)
theorem d_Lw_heatAt_5 : decode method_9_code 5 = .ok (.iload_n 2, 1) := zo_28 (zd_b zq_method_9_code_0 5 rfl rfl rfl)
theorem d_Lw_heatAt_6 : decode method_9_code 6 = .ok (.iload_n 3, 1) := zo_29 (zd_b zq_method_9_code_0 6 rfl rfl rfl)
theorem d_Lw_heatAt_7 : decode method_9_code 7 = .ok (.iload 4, 2) := zo_21 (d := 4) (zd_b zq_method_9_code_0 7 rfl rfl rfl) (zd_b zq_method_9_code_0 8 rfl rfl rfl)
theorem d_Lw_heatAt_9 : decode method_9_code 9 = .ok (.invokevirtual 39, 3) := zo_182 (d := 0) (e := 39) (zd_b zq_method_9_code_0 9 rfl rfl rfl) (zd_b zq_method_9_code_0 10 rfl rfl rfl) (zd_b zq_method_9_code_0 11 rfl rfl rfl)
theorem ok_Lw_heatAt_Ip_heatAt : z_okH M_Lw_heatAt M_Ip_heatAt 4 := ⟨z_mj4 (i := 105) rfl (by decide +kernel), rfl, ⟨by decide +kernel, by decide +kernel, by decide +kernel⟩, ⟨by decide, by decide⟩, z_mj1 (i := 1) rfl (by decide +kernel)⟩
theorem ln_Lw_39 : Cond.methodLink "IronpourLaw" 39 M_Ip_heatAt.1 ∈ z_gw := z_mj4 (i := 102) rfl (by decide +kernel)
theorem w_im_Ip_heatAt : Cond.instanceMethod M_Ip_heatAt.1 ∈ z_gw := z_mj4 (i := 103) rfl (by decide +kernel)
theorem w_se_Ip_heatAt : Cond.selects M_Ip_heatAt.1.cls M_Ip_heatAt.1 M_Ip_heatAt.1 ∈ z_gw := z_mj4 (i := 104) rfl (by decide +kernel)
theorem d_Lw_heatAt_17 : decode method_9_code 17 = .ok (.astore 6, 2) := zo_58 (d := 6) (zd_b zq_method_9_code_0 17 rfl rfl rfl) (zd_b zq_method_9_code_0 18 rfl rfl rfl)
theorem d_Lw_heatAt_19 : decode method_9_code 19 = .ok (.iconst 1, 1) := zo_4 (zd_b zq_method_9_code_0 19 rfl rfl rfl)
theorem d_Lw_heatAt_20 : decode method_9_code 20 = .ok (.ireturn, 1) := zo_172 (zd_b zq_method_9_code_0 20 rfl rfl rfl)
theorem d_Lw_heatAt_21 : decode method_9_code 21 = .ok (.astore 6, 2) := zo_58 (d := 6) (zd_b zq_method_9_code_0 21 rfl rfl rfl) (zd_b zq_method_9_code_0 22 rfl rfl rfl)
theorem d_Lw_heatAt_23 : decode method_9_code 23 = .ok (.iconst 2, 1) := zo_5 (zd_b zq_method_9_code_0 23 rfl rfl rfl)
theorem d_Lw_heatAt_24 : decode method_9_code 24 = .ok (.ireturn, 1) := zo_172 (zd_b zq_method_9_code_0 24 rfl rfl rfl)
theorem d_Lw_heatAt_12 : decode method_9_code 12 = .ok (.i2l, 1) := zo_133 (zd_b zq_method_9_code_0 12 rfl rfl rfl)
theorem d_Lw_heatAt_13 : decode method_9_code 13 = .ok (.lastore, 1) := zo_80 (zd_b zq_method_9_code_0 13 rfl rfl rfl)
theorem d_Lw_heatAt_14 : decode method_9_code 14 = .ok (.goto 11, 3) := zo_167 (d := 0) (e := 11) (zd_b zq_method_9_code_0 14 rfl rfl rfl) (zd_b zq_method_9_code_0 15 rfl rfl rfl) (zd_b zq_method_9_code_0 16 rfl rfl rfl) (by decide +kernel)
theorem d_Lw_heatAt_25 : decode method_9_code 25 = .ok (.iconst 0, 1) := zo_3 (zd_b zq_method_9_code_0 25 rfl rfl rfl)
theorem d_Lw_heatAt_26 : decode method_9_code 26 = .ok (.ireturn, 1) := zo_172 (zd_b zq_method_9_code_0 26 rfl rfl rfl)
set_option maxHeartbeats 4000000 in
set_option maxRecDepth 100000 in
theorem W_heatAt {g : zG} {ad : Nat → Nat} {t : zTT} {u : zNN} {w : zW} (hI : IVm g ad t u w) (x y h st : Int32) : zMB g M_Lw_heatAt [.ref (ad 0), .int x, .int y, .int h, .int st, .ref (ad 69)] w (fun o w1 => MKx g ad t u.1 o w1) 10 300 := by
  obtain ⟨s, hI⟩ := hI
  obtain ⟨e_a, wf_a, k_a⟩ := hI.1.2 0 (by decide)
  obtain rfl := kd_0.mp k_a
  obtain ⟨e_o1, wf_o1, k_o1⟩ := hI.1.2 69 (by decide)
  obtain rfl := kd_69.mp k_o1
  refine y_ofH (by decide) (by decide) (Nat.le_of_ble_eq_true rfl) (y_base (cs := [((ad 0), .inr (11, [.ref (ad 1), .ref (ad 5), .ref (ad 18), .ref (ad 31), .ref (ad 32), .ref (ad 36), .ref (ad 42), .ref (ad 45), .ref (ad 47), .ref (ad 49), .ref (ad 50), .ref (ad 51)])), ((ad 69), .inl (3, 1, .inr (.inl (((mg t s).1 69).2.1))))]) (hI.1.I [0, 69] _ rfl (by decide) (by decide) (List.forall_mem_cons.mpr ⟨wf_a, (List.forall_mem_cons.mpr ⟨wf_o1, (fun _ h => nomatch h)⟩)⟩)) ?_)
  refine y_lvE (lv2 := [(0, .ref (ad 0)), (1, .int x), (2, .int y), (3, .int h), (4, .int st), (5, .ref (ad 69))]) rfl ?_
  refine y_aload d_Lw_heatAt_0 5 rfl ?_
  refine y_iconst d_Lw_heatAt_2 (v := 0) (by decide) ?_
  refine y_aload_n d_Lw_heatAt_3 rfl 0 rfl ?_
  refine y_iload_n d_Lw_heatAt_4 rfl 1 rfl ?_
  refine y_iload_n d_Lw_heatAt_5 rfl 2 rfl ?_
  refine y_iload_n d_Lw_heatAt_6 rfl 3 rfl ?_
  refine y_iload d_Lw_heatAt_7 4 rfl ?_
  refine yw_callVH (As := [.int x, .int y, .int h, .int st]) (rest := [.int 0, .ref (ad 69)]) (q0 := 0) rfl rfl ln_Lw_39 w_im_Ip_heatAt w_se_Ip_heatAt ok_Lw_heatAt_Ip_heatAt d_Lw_heatAt_9 (fun wA hA => K_Ip_heatAt ⟨_, (hI.gen (t2 := (mg t s)) (is := [0, 69]) (L2 := []) hA rfl ⟨kd_0.mpr rfl, kd_69.mpr rfl, trivial⟩ (by decide) (by decide) (fun _ h => nomatch h) (fun _ h => nomatch h) (fun _ _ _ => rfl) (fun h => h) rfl)⟩ x y h st) rfl rfl (Nat.le_of_ble_eq_true rfl) (by omega) (by omega) (fun wA9 hA9 E wB9 hx => ?_) (fun wA9 hA9 v wB9 hx => ?_)
  · obtain ⟨h1, u2, hu, hI2⟩ := hx
    rcases List.mem_cons.mp (zriE h1) with rfl | g2
    · refine ⟨"java/lang/IndexOutOfBoundsException", [], [(0, 14, 21, 13)], (0, 14, 17, 19), rfl, (fun z hz => nomatch hz), by decide, by decide, lx_Lw_19, ce_19, fun qx => ?_⟩
      refine y_base (cs := []) (z_I.nil wB9) ?_
      refine y_astore (lv' := [(6, .ref qx), (0, .ref (ad 0)), (1, .int x), (2, .int y), (3, .int h), (4, .int st), (5, .ref (ad 69))]) d_Lw_heatAt_17 (by decide) rfl ?_
      refine y_iconst d_Lw_heatAt_19 (v := 1) (by decide) ?_
      refine y_iret d_Lw_heatAt_20 rfl rfl ?_
      exact fun w1 h1 => ⟨⟨_, rfl⟩, u2, hu, (z_I.same (z_I.nil _) h1).symm ▸ hI2⟩
    · obtain rfl := List.mem_singleton.mp g2
      refine ⟨"java/lang/IllegalArgumentException", [(0, 14, 17, 19)], [], (0, 14, 21, 13), rfl, (fun z hz => by simp only [List.mem_cons, List.not_mem_nil, or_false] at hz; rcases hz with rfl; exact Or.inr ⟨by decide, _, lx_Lw_19, by decide⟩), by decide, by decide, lx_Lw_13, ce_13, fun qx => ?_⟩
      refine y_base (cs := []) (z_I.nil wB9) ?_
      refine y_astore (lv' := [(6, .ref qx), (0, .ref (ad 0)), (1, .int x), (2, .int y), (3, .int h), (4, .int st), (5, .ref (ad 69))]) d_Lw_heatAt_21 (by decide) rfl ?_
      refine y_iconst d_Lw_heatAt_23 (v := 2) (by decide) ?_
      refine y_iret d_Lw_heatAt_24 rfl rfl ?_
      exact fun w1 h1 => ⟨⟨_, rfl⟩, u2, hu, (z_I.same (z_I.nil _) h1).symm ▸ hI2⟩
  · obtain ⟨h1, u2, hu, hI2⟩ := hx
    obtain ⟨v9, rfl⟩ := zriV h1
    refine yw_st (st2 := [.int v9, .int 0, .ref (ad 69)]) rfl ?_
    obtain ⟨s9, hI⟩ := hI2
    obtain ⟨e_o1, wf_o1, k_o1⟩ := hI.1.2 69 (by decide)
    obtain rfl := kd_69.mp k_o1
    refine y_base (cs := [((ad 69), .inl (3, 1, .inr (.inl (((mg t s9).1 69).2.1))))]) (hI.1.I [69] _ rfl (by decide) (by decide) (List.forall_mem_cons.mpr ⟨wf_o1, (fun _ h => nomatch h)⟩)) ?_
    refine y_i2l d_Lw_heatAt_12 (v := v9.toInt64) rfl ?_
    refine y_last d_Lw_heatAt_13 (q0 := 0) rfl (fun q => q.elim (by decide) (by decide)) (f' := vp_updL (((mg t s9).1 69).2.1) 0 v9.toInt64) rfl (cs' := [((ad 69), .inl (3, 1, .inr (.inl (vp_updL (((mg t s9).1 69).2.1) 0 v9.toInt64))))]) rfl ?_
    refine y_goto (tgt := 25) d_Lw_heatAt_14 (by decide) ?_
    refine y_iconst d_Lw_heatAt_25 (v := 0) (by decide) ?_
    refine y_iret d_Lw_heatAt_26 rfl rfl ?_
    exact fun w1 h1 => ⟨⟨_, rfl⟩, u2, hu, IVm.tz ((hI.gen (t2 := (zup (mg t s9).1 [(69, (((mg t s9).1 69).1, vp_updL (((mg t s9).1 69).2.1) 0 v9.toInt64, ((mg t s9).1 69).2.2))], (mg t s9).2)) (is := [69]) (L2 := []) h1 rfl ⟨kd_69.mpr rfl, trivial⟩ (by decide) (by decide) (fun _ h => nomatch h) (fun _ h => nomatch h) (fun i hi hn => zup_out (fun q => hn ((by decide : ∀ j ∈ ([69] : List Nat), j ∈ ([69] : List Nat)) i q))) (fun h => h) rfl)) (tx_all rfl)⟩
abbrev M_Lw_shrunk : zM := (⟨"IronpourLaw", "shrunk", "(LIronpour;I[J)I"⟩, method_11_code, 4, (Option.some FieldType.int), 8, 157, [((0 : Nat), (9 : Nat), (12 : Nat), (13 : Nat))])
theorem d_Lw_shrunk_0 : decode method_11_code 0 = .ok (.aload_n 2, 1) := zo_44 (zd_b zq_method_11_code_0 0 rfl rfl rfl)
theorem d_Lw_shrunk_1 : decode method_11_code 1 = .ok (.iconst 0, 1) := zo_3 (zd_b zq_method_11_code_0 1 rfl rfl rfl)
theorem d_Lw_shrunk_2 : decode method_11_code 2 = .ok (.aload_n 0, 1) := zo_42 (zd_b zq_method_11_code_0 2 rfl rfl rfl)
theorem d_Lw_shrunk_3 : decode method_11_code 3 = .ok (.iload_n 1, 1) := zo_27 (zd_b zq_method_11_code_0 3 rfl rfl rfl)
theorem d_Lw_shrunk_4 : decode method_11_code 4 = .ok (.invokevirtual 47, 3) := zo_182 (d := 0) (e := 47) (zd_b zq_method_11_code_0 4 rfl rfl rfl) (zd_b zq_method_11_code_0 5 rfl rfl rfl) (zd_b zq_method_11_code_0 6 rfl rfl rfl)
theorem ok_Lw_shrunk_Ip_shrunk : z_okH M_Lw_shrunk M_Ip_shrunk 1 := ⟨z_mj4 (i := 124) rfl (by decide +kernel), rfl, ⟨by decide +kernel, by decide +kernel, by decide +kernel⟩, ⟨by decide, by decide⟩, z_mj1 (i := 1) rfl (by decide +kernel)⟩
theorem ln_Lw_47 : Cond.methodLink "IronpourLaw" 47 M_Ip_shrunk.1 ∈ z_gw := z_mj4 (i := 121) rfl (by decide +kernel)
theorem w_im_Ip_shrunk : Cond.instanceMethod M_Ip_shrunk.1 ∈ z_gw := z_mj4 (i := 122) rfl (by decide +kernel)
theorem w_se_Ip_shrunk : Cond.selects M_Ip_shrunk.1.cls M_Ip_shrunk.1 M_Ip_shrunk.1 ∈ z_gw := z_mj4 (i := 123) rfl (by decide +kernel)
theorem d_Lw_shrunk_12 : decode method_11_code 12 = .ok (.astore_n 3, 1) := zo_78 (zd_b zq_method_11_code_0 12 rfl rfl rfl)
theorem d_Lw_shrunk_13 : decode method_11_code 13 = .ok (.iconst 1, 1) := zo_4 (zd_b zq_method_11_code_0 13 rfl rfl rfl)
theorem d_Lw_shrunk_14 : decode method_11_code 14 = .ok (.ireturn, 1) := zo_172 (zd_b zq_method_11_code_0 14 rfl rfl rfl)
theorem d_Lw_shrunk_7 : decode method_11_code 7 = .ok (.i2l, 1) := zo_133 (zd_b zq_method_11_code_0 7 rfl rfl rfl)
theorem d_Lw_shrunk_8 : decode method_11_code 8 = .ok (.lastore, 1) := zo_80 (zd_b zq_method_11_code_0 8 rfl rfl rfl)
theorem d_Lw_shrunk_9 : decode method_11_code 9 = .ok (.goto 6, 3) := zo_167 (d := 0) (e := 6) (zd_b zq_method_11_code_0 9 rfl rfl rfl) (zd_b zq_method_11_code_0 10 rfl rfl rfl) (zd_b zq_method_11_code_0 11 rfl rfl rfl) (by decide +kernel)
theorem d_Lw_shrunk_15 : decode method_11_code 15 = .ok (.iconst 0, 1) := zo_3 (zd_b zq_method_11_code_0 15 rfl rfl rfl)
theorem d_Lw_shrunk_16 : decode method_11_code 16 = .ok (.ireturn, 1) := zo_172 (zd_b zq_method_11_code_0 16 rfl rfl rfl)
set_option maxHeartbeats 4000000 in
set_option maxRecDepth 100000 in
theorem W_shrunk {g : zG} {ad : Nat → Nat} {t : zTT} {u : zNN} {w : zW} (hI : IVm g ad t u w) (h : Int32) : zMB g M_Lw_shrunk [.ref (ad 0), .int h, .ref (ad 69)] w (fun o w1 => MKx g ad t u.1 o w1) 10 300 := by
  obtain ⟨s, hI⟩ := hI
  obtain ⟨e_a, wf_a, k_a⟩ := hI.1.2 0 (by decide)
  obtain rfl := kd_0.mp k_a
  obtain ⟨e_o1, wf_o1, k_o1⟩ := hI.1.2 69 (by decide)
  obtain rfl := kd_69.mp k_o1
  refine y_ofH (by decide) (by decide) (Nat.le_of_ble_eq_true rfl) (y_base (cs := [((ad 0), .inr (11, [.ref (ad 1), .ref (ad 5), .ref (ad 18), .ref (ad 31), .ref (ad 32), .ref (ad 36), .ref (ad 42), .ref (ad 45), .ref (ad 47), .ref (ad 49), .ref (ad 50), .ref (ad 51)])), ((ad 69), .inl (3, 1, .inr (.inl (((mg t s).1 69).2.1))))]) (hI.1.I [0, 69] _ rfl (by decide) (by decide) (List.forall_mem_cons.mpr ⟨wf_a, (List.forall_mem_cons.mpr ⟨wf_o1, (fun _ h => nomatch h)⟩)⟩)) ?_)
  refine y_lvE (lv2 := [(0, .ref (ad 0)), (1, .int h), (2, .ref (ad 69))]) rfl ?_
  refine y_aload_n d_Lw_shrunk_0 rfl 2 rfl ?_
  refine y_iconst d_Lw_shrunk_1 (v := 0) (by decide) ?_
  refine y_aload_n d_Lw_shrunk_2 rfl 0 rfl ?_
  refine y_iload_n d_Lw_shrunk_3 rfl 1 rfl ?_
  refine yw_callVH (As := [.int h]) (rest := [.int 0, .ref (ad 69)]) (q0 := 0) rfl rfl ln_Lw_47 w_im_Ip_shrunk w_se_Ip_shrunk ok_Lw_shrunk_Ip_shrunk d_Lw_shrunk_4 (fun wA hA => K_Ip_shrunk ⟨_, (hI.gen (t2 := (mg t s)) (is := [0, 69]) (L2 := []) hA rfl ⟨kd_0.mpr rfl, kd_69.mpr rfl, trivial⟩ (by decide) (by decide) (fun _ h => nomatch h) (fun _ h => nomatch h) (fun _ _ _ => rfl) (fun h => h) rfl)⟩ h) rfl rfl (Nat.le_of_ble_eq_true rfl) (by omega) (by omega) (fun wA4 hA4 E wB4 hx => ?_) (fun wA4 hA4 v wB4 hx => ?_)
  · obtain ⟨h1, u2, hu, hI2⟩ := hx
    obtain rfl := List.mem_singleton.mp (zriE h1)
    refine ⟨"java/lang/IllegalArgumentException", [], [], (0, 9, 12, 13), rfl, (fun z hz => nomatch hz), by decide, by decide, lx_Lw_13, ce_13, fun qx => ?_⟩
    refine y_base (cs := []) (z_I.nil wB4) ?_
    refine y_astore_n (lv' := [(3, .ref qx), (0, .ref (ad 0)), (1, .int h), (2, .ref (ad 69))]) d_Lw_shrunk_12 rfl (by decide) rfl ?_
    refine y_iconst d_Lw_shrunk_13 (v := 1) (by decide) ?_
    refine y_iret d_Lw_shrunk_14 rfl rfl ?_
    exact fun w1 h1 => ⟨⟨_, rfl⟩, u2, hu, (z_I.same (z_I.nil _) h1).symm ▸ hI2⟩
  · obtain ⟨h1, u2, hu, hI2⟩ := hx
    obtain ⟨v9, rfl⟩ := zriV h1
    refine yw_st (st2 := [.int v9, .int 0, .ref (ad 69)]) rfl ?_
    obtain ⟨s9, hI⟩ := hI2
    obtain ⟨e_o1, wf_o1, k_o1⟩ := hI.1.2 69 (by decide)
    obtain rfl := kd_69.mp k_o1
    refine y_base (cs := [((ad 69), .inl (3, 1, .inr (.inl (((mg t s9).1 69).2.1))))]) (hI.1.I [69] _ rfl (by decide) (by decide) (List.forall_mem_cons.mpr ⟨wf_o1, (fun _ h => nomatch h)⟩)) ?_
    refine y_i2l d_Lw_shrunk_7 (v := v9.toInt64) rfl ?_
    refine y_last d_Lw_shrunk_8 (q0 := 0) rfl (fun q => q.elim (by decide) (by decide)) (f' := vp_updL (((mg t s9).1 69).2.1) 0 v9.toInt64) rfl (cs' := [((ad 69), .inl (3, 1, .inr (.inl (vp_updL (((mg t s9).1 69).2.1) 0 v9.toInt64))))]) rfl ?_
    refine y_goto (tgt := 15) d_Lw_shrunk_9 (by decide) ?_
    refine y_iconst d_Lw_shrunk_15 (v := 0) (by decide) ?_
    refine y_iret d_Lw_shrunk_16 rfl rfl ?_
    exact fun w1 h1 => ⟨⟨_, rfl⟩, u2, hu, IVm.tz ((hI.gen (t2 := (zup (mg t s9).1 [(69, (((mg t s9).1 69).1, vp_updL (((mg t s9).1 69).2.1) 0 v9.toInt64, ((mg t s9).1 69).2.2))], (mg t s9).2)) (is := [69]) (L2 := []) h1 rfl ⟨kd_69.mpr rfl, trivial⟩ (by decide) (by decide) (fun _ h => nomatch h) (fun _ h => nomatch h) (fun i hi hn => zup_out (fun q => hn ((by decide : ∀ j ∈ ([69] : List Nat), j ∈ ([69] : List Nat)) i q))) (fun h => h) rfl)) (tx_all rfl)⟩
abbrev M_Lw_shrunkAnew : zM := (⟨"IronpourLaw", "shrunkAnew", "(LIronpour;I[J)I"⟩, method_12_code, 4, (Option.some FieldType.int), 8, 157, [((0 : Nat), (9 : Nat), (12 : Nat), (13 : Nat))])
theorem d_Lw_shrunkAnew_0 : decode method_12_code 0 = .ok (.aload_n 2, 1) := zo_44 (zd_b zq_method_12_code_0 0 rfl rfl rfl)
theorem d_Lw_shrunkAnew_1 : decode method_12_code 1 = .ok (.iconst 0, 1) := zo_3 (zd_b zq_method_12_code_0 1 rfl rfl rfl)
theorem d_Lw_shrunkAnew_2 : decode method_12_code 2 = .ok (.aload_n 0, 1) := zo_42 (zd_b zq_method_12_code_0 2 rfl rfl rfl)
theorem d_Lw_shrunkAnew_3 : decode method_12_code 3 = .ok (.iload_n 1, 1) := zo_27 (zd_b zq_method_12_code_0 3 rfl rfl rfl)
theorem d_Lw_shrunkAnew_4 : decode method_12_code 4 = .ok (.invokevirtual 50, 3) := zo_182 (d := 0) (e := 50) (zd_b zq_method_12_code_0 4 rfl rfl rfl) (zd_b zq_method_12_code_0 5 rfl rfl rfl) (zd_b zq_method_12_code_0 6 rfl rfl rfl)
theorem ok_Lw_shrunkAnew_Ip_shrunkAnew : z_okH M_Lw_shrunkAnew M_Ip_shrunkAnew 1 := ⟨z_mj4 (i := 135) rfl (by decide +kernel), rfl, ⟨by decide +kernel, by decide +kernel, by decide +kernel⟩, ⟨by decide, by decide⟩, z_mj1 (i := 1) rfl (by decide +kernel)⟩
theorem ln_Lw_50 : Cond.methodLink "IronpourLaw" 50 M_Ip_shrunkAnew.1 ∈ z_gw := z_mj4 (i := 132) rfl (by decide +kernel)
theorem w_im_Ip_shrunkAnew : Cond.instanceMethod M_Ip_shrunkAnew.1 ∈ z_gw := z_mj4 (i := 133) rfl (by decide +kernel)
theorem w_se_Ip_shrunkAnew : Cond.selects M_Ip_shrunkAnew.1.cls M_Ip_shrunkAnew.1 M_Ip_shrunkAnew.1 ∈ z_gw := z_mj4 (i := 134) rfl (by decide +kernel)
theorem d_Lw_shrunkAnew_12 : decode method_12_code 12 = .ok (.astore_n 3, 1) := zo_78 (zd_b zq_method_12_code_0 12 rfl rfl rfl)
theorem d_Lw_shrunkAnew_13 : decode method_12_code 13 = .ok (.iconst 1, 1) := zo_4 (zd_b zq_method_12_code_0 13 rfl rfl rfl)
theorem d_Lw_shrunkAnew_14 : decode method_12_code 14 = .ok (.ireturn, 1) := zo_172 (zd_b zq_method_12_code_0 14 rfl rfl rfl)
theorem d_Lw_shrunkAnew_7 : decode method_12_code 7 = .ok (.i2l, 1) := zo_133 (zd_b zq_method_12_code_0 7 rfl rfl rfl)
theorem d_Lw_shrunkAnew_8 : decode method_12_code 8 = .ok (.lastore, 1) := zo_80 (zd_b zq_method_12_code_0 8 rfl rfl rfl)
theorem d_Lw_shrunkAnew_9 : decode method_12_code 9 = .ok (.goto 6, 3) := zo_167 (d := 0) (e := 6) (zd_b zq_method_12_code_0 9 rfl rfl rfl) (zd_b zq_method_12_code_0 10 rfl rfl rfl) (zd_b zq_method_12_code_0 11 rfl rfl rfl) (by decide +kernel)
theorem d_Lw_shrunkAnew_15 : decode method_12_code 15 = .ok (.iconst 0, 1) := zo_3 (zd_b zq_method_12_code_0 15 rfl rfl rfl)
theorem d_Lw_shrunkAnew_16 : decode method_12_code 16 = .ok (.ireturn, 1) := zo_172 (zd_b zq_method_12_code_0 16 rfl rfl rfl)
