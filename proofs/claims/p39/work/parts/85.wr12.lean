set_option maxHeartbeats 4000000 in
set_option maxRecDepth 100000 in
theorem W_breakUp {g : zG} {ad : Nat → Nat} {t : zTT} {u : zNN} {w : zW} (hI : IVm g ad t u w) (x : Int32) : zMB g M_Lw_breakUp [.ref (ad 0), .int x, .ref (ad 69)] w (fun o w1 => MKx g ad (tK_Ip_breakUp x t u.1) u.1 o w1) 10 300 := by
  obtain ⟨s, hI⟩ := hI
  obtain ⟨e_a, wf_a, k_a⟩ := hI.1.2 0 (by decide)
  obtain rfl := kd_0.mp k_a
  obtain ⟨e_o1, wf_o1, k_o1⟩ := hI.1.2 69 (by decide)
  obtain rfl := kd_69.mp k_o1
  refine y_ofH (by decide) (by decide) (Nat.le_of_ble_eq_true rfl) (y_base (cs := [((ad 0), .inr (11, [.ref (ad 1), .ref (ad 5), .ref (ad 18), .ref (ad 31), .ref (ad 32), .ref (ad 36), .ref (ad 42), .ref (ad 45), .ref (ad 47), .ref (ad 49), .ref (ad 50), .ref (ad 51)])), ((ad 69), .inl (3, 1, .inr (.inl (((mg t s).1 69).2.1))))]) (hI.1.I [0, 69] _ rfl (by decide) (by decide) (List.forall_mem_cons.mpr ⟨wf_a, (List.forall_mem_cons.mpr ⟨wf_o1, (fun _ h => nomatch h)⟩)⟩)) ?_)
  refine y_lvE (lv2 := [(0, .ref (ad 0)), (1, .int x), (2, .ref (ad 69))]) rfl ?_
  refine y_aload_n d_Lw_breakUp_0 rfl 2 rfl ?_
  refine y_iconst d_Lw_breakUp_1 (v := 0) (by decide) ?_
  refine y_aload_n d_Lw_breakUp_2 rfl 0 rfl ?_
  refine y_iload_n d_Lw_breakUp_3 rfl 1 rfl ?_
  refine yw_callVH (As := [.int x]) (rest := [.int 0, .ref (ad 69)]) (q0 := 0) rfl rfl ln_Lw_148 w_im_Ip_breakUp w_se_Ip_breakUp ok_Lw_breakUp_Ip_breakUp d_Lw_breakUp_4 (fun wA hA => K_Ip_breakUp ⟨_, (hI.gen (t2 := (mg t s)) (is := [0, 69]) (L2 := []) hA rfl ⟨kd_0.mpr rfl, kd_69.mpr rfl, trivial⟩ (by decide) (by decide) (fun _ h => nomatch h) (fun _ h => nomatch h) (fun _ _ _ => rfl) (fun h => h) rfl)⟩ x) rfl rfl (Nat.le_of_ble_eq_true rfl) (by omega) (by omega) (fun wA4 hA4 E wB4 hx => ?_) (fun wA4 hA4 v wB4 hx => ?_)
  · obtain ⟨h1, u2, hu, hI2⟩ := hx
    rcases List.mem_cons.mp (zriE h1) with rfl | g2
    · refine ⟨"java/lang/IndexOutOfBoundsException", [], [(0, 9, 15, 69)], (0, 9, 12, 19), rfl, (fun z hz => nomatch hz), by decide, by decide, lx_Lw_19, ce_19, fun qx => ?_⟩
      refine y_base (cs := []) (z_I.nil wB4) ?_
      refine y_astore_n (lv' := [(3, .ref qx), (0, .ref (ad 0)), (1, .int x), (2, .ref (ad 69))]) d_Lw_breakUp_12 rfl (by decide) rfl ?_
      refine y_iconst d_Lw_breakUp_13 (v := 1) (by decide) ?_
      refine y_iret d_Lw_breakUp_14 rfl rfl ?_
      exact fun w1 h1 => ⟨⟨_, rfl⟩, u2, hu, (z_I.same (z_I.nil _) h1).symm ▸ hI2⟩
    · obtain rfl := List.mem_singleton.mp g2
      refine ⟨"java/lang/IllegalStateException", [(0, 9, 12, 19)], [], (0, 9, 15, 69), rfl, (fun z hz => by simp only [List.mem_cons, List.not_mem_nil, or_false] at hz; rcases hz with rfl; exact Or.inr ⟨by decide, _, lx_Lw_19, by decide⟩), by decide, by decide, lx_Lw_69, ce_69, fun qx => ?_⟩
      refine y_base (cs := []) (z_I.nil wB4) ?_
      refine y_astore_n (lv' := [(3, .ref qx), (0, .ref (ad 0)), (1, .int x), (2, .ref (ad 69))]) d_Lw_breakUp_15 rfl (by decide) rfl ?_
      refine y_iconst d_Lw_breakUp_16 (v := 2) (by decide) ?_
      refine y_iret d_Lw_breakUp_17 rfl rfl ?_
      exact fun w1 h1 => ⟨⟨_, rfl⟩, u2, hu, (z_I.same (z_I.nil _) h1).symm ▸ hI2⟩
  · obtain ⟨h1, u2, hu, hI2⟩ := hx
    obtain ⟨v9, rfl⟩ := zriV h1
    refine yw_st (st2 := [.int v9, .int 0, .ref (ad 69)]) rfl ?_
    obtain ⟨s9, hI⟩ := hI2
    obtain ⟨e_o1, wf_o1, k_o1⟩ := hI.1.2 69 (by decide)
    obtain rfl := kd_69.mp k_o1
    refine y_base (cs := [((ad 69), .inl (3, 1, .inr (.inl (((mg (tK_Ip_breakUp x t u.1) s9).1 69).2.1))))]) (hI.1.I [69] _ rfl (by decide) (by decide) (List.forall_mem_cons.mpr ⟨wf_o1, (fun _ h => nomatch h)⟩)) ?_
    refine y_i2l d_Lw_breakUp_7 (v := v9.toInt64) rfl ?_
    refine y_last d_Lw_breakUp_8 (q0 := 0) rfl (fun q => q.elim (by decide) (by decide)) (f' := vp_updL (((mg (tK_Ip_breakUp x t u.1) s9).1 69).2.1) 0 v9.toInt64) rfl (cs' := [((ad 69), .inl (3, 1, .inr (.inl (vp_updL (((mg (tK_Ip_breakUp x t u.1) s9).1 69).2.1) 0 v9.toInt64))))]) rfl ?_
    refine y_goto (tgt := 18) d_Lw_breakUp_9 (by decide) ?_
    refine y_iconst d_Lw_breakUp_18 (v := 0) (by decide) ?_
    refine y_iret d_Lw_breakUp_19 rfl rfl ?_
    exact fun w1 h1 => ⟨⟨_, rfl⟩, u2, hu, IVm.tz ((hI.gen (t2 := (zup (mg (tK_Ip_breakUp x t u.1) s9).1 [(69, (((mg (tK_Ip_breakUp x t u.1) s9).1 69).1, vp_updL (((mg (tK_Ip_breakUp x t u.1) s9).1 69).2.1) 0 v9.toInt64, ((mg (tK_Ip_breakUp x t u.1) s9).1 69).2.2))], (mg (tK_Ip_breakUp x t u.1) s9).2)) (is := [69]) (L2 := []) h1 rfl ⟨kd_69.mpr rfl, trivial⟩ (by decide) (by decide) (fun _ h => nomatch h) (fun _ h => nomatch h) (fun i hi hn => zup_out (fun q => hn ((by decide : ∀ j ∈ ([69] : List Nat), j ∈ ([69] : List Nat)) i q))) (fun h => h) rfl)) (tx_all rfl)⟩
abbrev M_Lw_worst : zM := (⟨"IronpourLaw", "worst", "(LIronpour;[J)I"⟩, method_42_code, 3, (Option.some FieldType.int), 7, 132, [((0 : Nat), (8 : Nat), (11 : Nat), (33 : Nat))])
theorem d_Lw_worst_0 : decode method_42_code 0 = .ok (.aload_n 1, 1) := zo_43 (zd_b zq_method_42_code_0 0 rfl rfl rfl)
theorem d_Lw_worst_1 : decode method_42_code 1 = .ok (.iconst 0, 1) := zo_3 (zd_b zq_method_42_code_0 1 rfl rfl rfl)
theorem d_Lw_worst_2 : decode method_42_code 2 = .ok (.aload_n 0, 1) := zo_42 (zd_b zq_method_42_code_0 2 rfl rfl rfl)
theorem d_Lw_worst_3 : decode method_42_code 3 = .ok (.invokevirtual 151, 3) := zo_182 (d := 0) (e := 151) (zd_b zq_method_42_code_0 3 rfl rfl rfl) (zd_b zq_method_42_code_0 4 rfl rfl rfl) (zd_b zq_method_42_code_0 5 rfl rfl rfl)
theorem ok_Lw_worst_Ip_worst : z_okH M_Lw_worst M_Ip_worst 0 := ⟨z_mj7 (i := 35) rfl (by decide +kernel), rfl, ⟨by decide +kernel, by decide +kernel, by decide +kernel⟩, ⟨by decide, by decide⟩, z_mj1 (i := 1) rfl (by decide +kernel)⟩
theorem ln_Lw_151 : Cond.methodLink "IronpourLaw" 151 M_Ip_worst.1 ∈ z_gw := z_mj7 (i := 32) rfl (by decide +kernel)
theorem w_im_Ip_worst : Cond.instanceMethod M_Ip_worst.1 ∈ z_gw := z_mj7 (i := 33) rfl (by decide +kernel)
theorem w_se_Ip_worst : Cond.selects M_Ip_worst.1.cls M_Ip_worst.1 M_Ip_worst.1 ∈ z_gw := z_mj7 (i := 34) rfl (by decide +kernel)
theorem d_Lw_worst_11 : decode method_42_code 11 = .ok (.astore_n 2, 1) := zo_77 (zd_b zq_method_42_code_0 11 rfl rfl rfl)
theorem d_Lw_worst_12 : decode method_42_code 12 = .ok (.iconst 1, 1) := zo_4 (zd_b zq_method_42_code_0 12 rfl rfl rfl)
theorem d_Lw_worst_13 : decode method_42_code 13 = .ok (.ireturn, 1) := zo_172 (zd_b zq_method_42_code_0 13 rfl rfl rfl)
theorem d_Lw_worst_6 : decode method_42_code 6 = .ok (.i2l, 1) := zo_133 (zd_b zq_method_42_code_0 6 rfl rfl rfl)
theorem d_Lw_worst_7 : decode method_42_code 7 = .ok (.lastore, 1) := zo_80 (zd_b zq_method_42_code_0 7 rfl rfl rfl)
theorem d_Lw_worst_8 : decode method_42_code 8 = .ok (.goto 6, 3) := zo_167 (d := 0) (e := 6) (zd_b zq_method_42_code_0 8 rfl rfl rfl) (zd_b zq_method_42_code_0 9 rfl rfl rfl) (zd_b zq_method_42_code_0 10 rfl rfl rfl) (by decide +kernel)
theorem d_Lw_worst_14 : decode method_42_code 14 = .ok (.iconst 0, 1) := zo_3 (zd_b zq_method_42_code_0 14 rfl rfl rfl)
theorem d_Lw_worst_15 : decode method_42_code 15 = .ok (.ireturn, 1) := zo_172 (zd_b zq_method_42_code_0 15 rfl rfl rfl)
set_option maxHeartbeats 4000000 in
set_option maxRecDepth 100000 in
theorem W_worst {g : zG} {ad : Nat → Nat} {t : zTT} {u : zNN} {w : zW} (hI : IVm g ad t u w) : zMB g M_Lw_worst [.ref (ad 0), .ref (ad 69)] w (fun o w1 => MKx g ad t u.1 o w1) 10 300 := by
  obtain ⟨s, hI⟩ := hI
  obtain ⟨e_a, wf_a, k_a⟩ := hI.1.2 0 (by decide)
  obtain rfl := kd_0.mp k_a
  obtain ⟨e_o1, wf_o1, k_o1⟩ := hI.1.2 69 (by decide)
  obtain rfl := kd_69.mp k_o1
  refine y_ofH (by decide) (by decide) (Nat.le_of_ble_eq_true rfl) (y_base (cs := [((ad 0), .inr (11, [.ref (ad 1), .ref (ad 5), .ref (ad 18), .ref (ad 31), .ref (ad 32), .ref (ad 36), .ref (ad 42), .ref (ad 45), .ref (ad 47), .ref (ad 49), .ref (ad 50), .ref (ad 51)])), ((ad 69), .inl (3, 1, .inr (.inl (((mg t s).1 69).2.1))))]) (hI.1.I [0, 69] _ rfl (by decide) (by decide) (List.forall_mem_cons.mpr ⟨wf_a, (List.forall_mem_cons.mpr ⟨wf_o1, (fun _ h => nomatch h)⟩)⟩)) ?_)
  refine y_lvE (lv2 := [(0, .ref (ad 0)), (1, .ref (ad 69))]) rfl ?_
  refine y_aload_n d_Lw_worst_0 rfl 1 rfl ?_
  refine y_iconst d_Lw_worst_1 (v := 0) (by decide) ?_
  refine y_aload_n d_Lw_worst_2 rfl 0 rfl ?_
  refine yw_callVH (As := []) (rest := [.int 0, .ref (ad 69)]) (q0 := 0) rfl rfl ln_Lw_151 w_im_Ip_worst w_se_Ip_worst ok_Lw_worst_Ip_worst d_Lw_worst_3 (fun wA hA => K_Ip_worst ⟨_, (hI.gen (t2 := (mg t s)) (is := [0, 69]) (L2 := []) hA rfl ⟨kd_0.mpr rfl, kd_69.mpr rfl, trivial⟩ (by decide) (by decide) (fun _ h => nomatch h) (fun _ h => nomatch h) (fun _ _ _ => rfl) (fun h => h) rfl)⟩) rfl rfl (Nat.le_of_ble_eq_true rfl) (by omega) (by omega) (fun wA3 hA3 E wB3 hx => ?_) (fun wA3 hA3 v wB3 hx => ?_)
  · obtain ⟨h1, u2, hu, hI2⟩ := hx
    obtain rfl := List.mem_singleton.mp (zriE h1)
    refine ⟨"java/util/NoSuchElementException", [], [], (0, 8, 11, 33), rfl, (fun z hz => nomatch hz), by decide, by decide, lx_Lw_33, ce_33, fun qx => ?_⟩
    refine y_base (cs := []) (z_I.nil wB3) ?_
    refine y_astore_n (lv' := [(2, .ref qx), (0, .ref (ad 0)), (1, .ref (ad 69))]) d_Lw_worst_11 rfl (by decide) rfl ?_
    refine y_iconst d_Lw_worst_12 (v := 1) (by decide) ?_
    refine y_iret d_Lw_worst_13 rfl rfl ?_
    exact fun w1 h1 => ⟨⟨_, rfl⟩, u2, hu, (z_I.same (z_I.nil _) h1).symm ▸ hI2⟩
  · obtain ⟨h1, u2, hu, hI2⟩ := hx
    obtain ⟨v9, rfl⟩ := zriV h1
    refine yw_st (st2 := [.int v9, .int 0, .ref (ad 69)]) rfl ?_
    obtain ⟨s9, hI⟩ := hI2
    obtain ⟨e_o1, wf_o1, k_o1⟩ := hI.1.2 69 (by decide)
    obtain rfl := kd_69.mp k_o1
    refine y_base (cs := [((ad 69), .inl (3, 1, .inr (.inl (((mg t s9).1 69).2.1))))]) (hI.1.I [69] _ rfl (by decide) (by decide) (List.forall_mem_cons.mpr ⟨wf_o1, (fun _ h => nomatch h)⟩)) ?_
    refine y_i2l d_Lw_worst_6 (v := v9.toInt64) rfl ?_
    refine y_last d_Lw_worst_7 (q0 := 0) rfl (fun q => q.elim (by decide) (by decide)) (f' := vp_updL (((mg t s9).1 69).2.1) 0 v9.toInt64) rfl (cs' := [((ad 69), .inl (3, 1, .inr (.inl (vp_updL (((mg t s9).1 69).2.1) 0 v9.toInt64))))]) rfl ?_
    refine y_goto (tgt := 14) d_Lw_worst_8 (by decide) ?_
    refine y_iconst d_Lw_worst_14 (v := 0) (by decide) ?_
    refine y_iret d_Lw_worst_15 rfl rfl ?_
    exact fun w1 h1 => ⟨⟨_, rfl⟩, u2, hu, IVm.tz ((hI.gen (t2 := (zup (mg t s9).1 [(69, (((mg t s9).1 69).1, vp_updL (((mg t s9).1 69).2.1) 0 v9.toInt64, ((mg t s9).1 69).2.2))], (mg t s9).2)) (is := [69]) (L2 := []) h1 rfl ⟨kd_69.mpr rfl, trivial⟩ (by decide) (by decide) (fun _ h => nomatch h) (fun _ h => nomatch h) (fun i hi hn => zup_out (fun q => hn ((by decide : ∀ j ∈ ([69] : List Nat), j ∈ ([69] : List Nat)) i q))) (fun h => h) rfl)) (tx_all rfl)⟩
abbrev M_Lw_goodShare : zM := (⟨"IronpourLaw", "goodShare", "(LIronpour;[D)I"⟩, method_43_code, 3, (Option.some FieldType.int), 7, 131, [((0 : Nat), (8 : Nat), (11 : Nat), (159 : Nat))])
theorem d_Lw_goodShare_0 : decode method_43_code 0 = .ok (.aload_n 1, 1) := zo_43 (zd_b zq_method_43_code_0 0 rfl rfl rfl)
theorem d_Lw_goodShare_1 : decode method_43_code 1 = .ok (.iconst 0, 1) := zo_3 (zd_b zq_method_43_code_0 1 rfl rfl rfl)
theorem d_Lw_goodShare_2 : decode method_43_code 2 = .ok (.aload_n 0, 1) := zo_42 (zd_b zq_method_43_code_0 2 rfl rfl rfl)
theorem d_Lw_goodShare_3 : decode method_43_code 3 = .ok (.invokevirtual 155, 3) := zo_182 (d := 0) (e := 155) (zd_b zq_method_43_code_0 3 rfl rfl rfl) (zd_b zq_method_43_code_0 4 rfl rfl rfl) (zd_b zq_method_43_code_0 5 rfl rfl rfl)
theorem ok_Lw_goodShare_Ip_goodShare : z_okH M_Lw_goodShare M_Ip_goodShare 0 := ⟨z_mj7 (i := 62) rfl (by decide +kernel), rfl, ⟨by decide +kernel, by decide +kernel, by decide +kernel⟩, ⟨by decide, by decide⟩, z_mj1 (i := 1) rfl (by decide +kernel)⟩
theorem ln_Lw_155 : Cond.methodLink "IronpourLaw" 155 M_Ip_goodShare.1 ∈ z_gw := z_mj7 (i := 59) rfl (by decide +kernel)
theorem w_im_Ip_goodShare : Cond.instanceMethod M_Ip_goodShare.1 ∈ z_gw := z_mj7 (i := 60) rfl (by decide +kernel)
theorem w_se_Ip_goodShare : Cond.selects M_Ip_goodShare.1.cls M_Ip_goodShare.1 M_Ip_goodShare.1 ∈ z_gw := z_mj7 (i := 61) rfl (by decide +kernel)
theorem ce_159 : Cond.castable "java/lang/ArithmeticException" "java/lang/ArithmeticException" ∈ z_nw := z_mk7 (i := 57) rfl (by decide +kernel)
theorem lx_Lw_159 : Cond.classLink "IronpourLaw" 159 "java/lang/ArithmeticException" ∈ z_gw := z_mj7 (i := 45) rfl (by decide +kernel)
theorem d_Lw_goodShare_11 : decode method_43_code 11 = .ok (.astore_n 2, 1) := zo_77 (zd_b zq_method_43_code_0 11 rfl rfl rfl)
theorem d_Lw_goodShare_12 : decode method_43_code 12 = .ok (.iconst 1, 1) := zo_4 (zd_b zq_method_43_code_0 12 rfl rfl rfl)
theorem d_Lw_goodShare_13 : decode method_43_code 13 = .ok (.ireturn, 1) := zo_172 (zd_b zq_method_43_code_0 13 rfl rfl rfl)
theorem d_Lw_goodShare_6 : decode method_43_code 6 = .ok (.f2d, 1) := zo_141 (zd_b zq_method_43_code_0 6 rfl rfl rfl)
theorem d_Lw_goodShare_7 : decode method_43_code 7 = .ok (.dastore, 1) := zo_82 (zd_b zq_method_43_code_0 7 rfl rfl rfl)
theorem d_Lw_goodShare_8 : decode method_43_code 8 = .ok (.goto 6, 3) := zo_167 (d := 0) (e := 6) (zd_b zq_method_43_code_0 8 rfl rfl rfl) (zd_b zq_method_43_code_0 9 rfl rfl rfl) (zd_b zq_method_43_code_0 10 rfl rfl rfl) (by decide +kernel)
theorem d_Lw_goodShare_14 : decode method_43_code 14 = .ok (.iconst 0, 1) := zo_3 (zd_b zq_method_43_code_0 14 rfl rfl rfl)
theorem d_Lw_goodShare_15 : decode method_43_code 15 = .ok (.ireturn, 1) := zo_172 (zd_b zq_method_43_code_0 15 rfl rfl rfl)
set_option maxHeartbeats 4000000 in
set_option maxRecDepth 100000 in
theorem W_goodShare {g : zG} {ad : Nat → Nat} {t : zTT} {u : zNN} {w : zW} (hI : IVm g ad t u w) : zMB g M_Lw_goodShare [.ref (ad 0), .ref (ad 70)] w (fun o w1 => (∃ v : Int32, o = .inl (some (.int v))) ∧ IVm g ad t u w1) 10 300 := by
  obtain ⟨s, hI⟩ := hI
  obtain ⟨e_a, wf_a, k_a⟩ := hI.1.2 0 (by decide)
  obtain rfl := kd_0.mp k_a
  obtain ⟨e_o2, wf_o2, k_o2⟩ := hI.1.2 70 (by decide)
  obtain ⟨v_o2_f, rfl⟩ := kd_70.mp k_o2
  refine y_ofH (by decide) (by decide) (Nat.le_of_ble_eq_true rfl) (y_base (cs := [((ad 0), .inr (11, [.ref (ad 1), .ref (ad 5), .ref (ad 18), .ref (ad 31), .ref (ad 32), .ref (ad 36), .ref (ad 42), .ref (ad 45), .ref (ad 47), .ref (ad 49), .ref (ad 50), .ref (ad 51)])), ((ad 70), .inl (4, 1, .inr (.inr (.inr (.inl v_o2_f)))))]) (hI.1.I [0, 70] _ rfl (by decide) (by decide) (List.forall_mem_cons.mpr ⟨wf_a, (List.forall_mem_cons.mpr ⟨wf_o2, (fun _ h => nomatch h)⟩)⟩)) ?_)
  refine y_lvE (lv2 := [(0, .ref (ad 0)), (1, .ref (ad 70))]) rfl ?_
  refine y_aload_n d_Lw_goodShare_0 rfl 1 rfl ?_
  refine y_iconst d_Lw_goodShare_1 (v := 0) (by decide) ?_
  refine y_aload_n d_Lw_goodShare_2 rfl 0 rfl ?_
  refine yw_callVH (As := []) (rest := [.int 0, .ref (ad 70)]) (q0 := 0) rfl rfl ln_Lw_155 w_im_Ip_goodShare w_se_Ip_goodShare ok_Lw_goodShare_Ip_goodShare d_Lw_goodShare_3 (fun wA hA => Q_Ip_goodShare (hI.gen (t2 := (mg t s)) (is := [0, 70]) (L2 := []) hA rfl ⟨kd_0.mpr rfl, kd_70.mpr ⟨_, rfl⟩, trivial⟩ (by decide) (by decide) (fun _ h => nomatch h) (fun _ h => nomatch h) (fun _ _ _ => rfl) (fun h => h) rfl)) rfl rfl (Nat.le_of_ble_eq_true rfl) (by omega) (by omega) (fun wA3 hA3 E wB3 hx => ?_) (fun wA3 hA3 v wB3 hx => ?_)
  · obtain ⟨h1, hI2⟩ := hx
    obtain rfl : E = "java/lang/ArithmeticException" := by
      rcases h1 with ⟨v, e9, -⟩ | e9
      · cases e9
      · cases e9; rfl
    refine ⟨"java/lang/ArithmeticException", [], [], (0, 8, 11, 159), rfl, (fun z hz => nomatch hz), by decide, by decide, lx_Lw_159, ce_159, fun qx => ?_⟩
    refine y_base (cs := []) (z_I.nil wB3) ?_
    refine y_astore_n (lv' := [(2, .ref qx), (0, .ref (ad 0)), (1, .ref (ad 70))]) d_Lw_goodShare_11 rfl (by decide) rfl ?_
    refine y_iconst d_Lw_goodShare_12 (v := 1) (by decide) ?_
    refine y_iret d_Lw_goodShare_13 rfl rfl ?_
    exact fun w1 h1 => ⟨⟨_, rfl⟩, ⟨s, (z_I.same (z_I.nil _) h1).symm ▸ hI2⟩⟩
  · obtain ⟨h1, hI2⟩ := hx
    obtain ⟨v9, rfl, hn9⟩ : ∃ v9 : UInt32, v = some (.float v9) ∧ Jvm.FP.Core.fIsNaN v9 = false := by
      rcases h1 with ⟨v9, e9, h9⟩ | e9
      · cases e9; exact ⟨v9, rfl, h9⟩
      · cases e9
    refine yw_st (st2 := [.float v9, .int 0, .ref (ad 70)]) rfl ?_
    have hI := hI2
    obtain ⟨e_o2, wf_o2, k_o2⟩ := hI.1.2 70 (by decide)
    obtain ⟨v_o2_f, rfl⟩ := kd_70.mp k_o2
    refine y_base (cs := [((ad 70), .inl (4, 1, .inr (.inr (.inr (.inl v_o2_f)))))]) (hI.1.I [70] _ rfl (by decide) (by decide) (List.forall_mem_cons.mpr ⟨wf_o2, (fun _ h => nomatch h)⟩)) ?_
    refine y_f2d d_Lw_goodShare_6 (vf_f2d hn9) ?_
    refine y_dast d_Lw_goodShare_7 (q0 := 0) rfl (fun q => q.elim (by decide) (by decide)) (f' := vf_upd v_o2_f 0 (FP.f2d v9)) rfl (cs' := [((ad 70), .inl (4, 1, .inr (.inr (.inr (.inl (vf_upd v_o2_f 0 (FP.f2d v9)))))))]) rfl ?_
    refine y_goto (tgt := 14) d_Lw_goodShare_8 (by decide) ?_
    refine y_iconst d_Lw_goodShare_14 (v := 0) (by decide) ?_
    refine y_iret d_Lw_goodShare_15 rfl rfl ?_
    exact fun w1 h1 => ⟨⟨_, rfl⟩, ⟨_, (hI.gen (t2 := (mg t s)) (is := [70]) (L2 := []) h1 rfl ⟨kd_70.mpr ⟨_, rfl⟩, trivial⟩ (by decide) (by decide) (fun _ h => nomatch h) (fun _ h => nomatch h) (fun _ _ _ => rfl) (fun h => h) rfl)⟩⟩
abbrev M_Lw_meanBar : zM := (⟨"IronpourLaw", "meanBar", "(LIronpour;[D)I"⟩, method_44_code, 3, (Option.some FieldType.int), 7, 124, [((0 : Nat), (7 : Nat), (10 : Nat), (159 : Nat))])
theorem d_Lw_meanBar_0 : decode method_44_code 0 = .ok (.aload_n 1, 1) := zo_43 (zd_b zq_method_44_code_0 0 rfl rfl rfl)
theorem d_Lw_meanBar_1 : decode method_44_code 1 = .ok (.iconst 0, 1) := zo_3 (zd_b zq_method_44_code_0 1 rfl rfl rfl)
theorem d_Lw_meanBar_2 : decode method_44_code 2 = .ok (.aload_n 0, 1) := zo_42 (zd_b zq_method_44_code_0 2 rfl rfl rfl)
theorem d_Lw_meanBar_3 : decode method_44_code 3 = .ok (.invokevirtual 161, 3) := zo_182 (d := 0) (e := 161) (zd_b zq_method_44_code_0 3 rfl rfl rfl) (zd_b zq_method_44_code_0 4 rfl rfl rfl) (zd_b zq_method_44_code_0 5 rfl rfl rfl)
theorem ok_Lw_meanBar_Ip_meanBar : z_okH M_Lw_meanBar M_Ip_meanBar 0 := ⟨z_mj7 (i := 73) rfl (by decide +kernel), rfl, ⟨by decide +kernel, by decide +kernel, by decide +kernel⟩, ⟨by decide, by decide⟩, z_mj1 (i := 1) rfl (by decide +kernel)⟩
theorem ln_Lw_161 : Cond.methodLink "IronpourLaw" 161 M_Ip_meanBar.1 ∈ z_gw := z_mj7 (i := 70) rfl (by decide +kernel)
theorem w_im_Ip_meanBar : Cond.instanceMethod M_Ip_meanBar.1 ∈ z_gw := z_mj7 (i := 71) rfl (by decide +kernel)
theorem w_se_Ip_meanBar : Cond.selects M_Ip_meanBar.1.cls M_Ip_meanBar.1 M_Ip_meanBar.1 ∈ z_gw := z_mj7 (i := 72) rfl (by decide +kernel)
theorem d_Lw_meanBar_10 : decode method_44_code 10 = .ok (.astore_n 2, 1) := zo_77 (zd_b zq_method_44_code_0 10 rfl rfl rfl)
theorem d_Lw_meanBar_11 : decode method_44_code 11 = .ok (.iconst 1, 1) := zo_4 (zd_b zq_method_44_code_0 11 rfl rfl rfl)
theorem d_Lw_meanBar_12 : decode method_44_code 12 = .ok (.ireturn, 1) := zo_172 (zd_b zq_method_44_code_0 12 rfl rfl rfl)
theorem d_Lw_meanBar_6 : decode method_44_code 6 = .ok (.dastore, 1) := zo_82 (zd_b zq_method_44_code_0 6 rfl rfl rfl)
theorem d_Lw_meanBar_7 : decode method_44_code 7 = .ok (.goto 6, 3) := zo_167 (d := 0) (e := 6) (zd_b zq_method_44_code_0 7 rfl rfl rfl) (zd_b zq_method_44_code_0 8 rfl rfl rfl) (zd_b zq_method_44_code_0 9 rfl rfl rfl) (by decide +kernel)
theorem d_Lw_meanBar_13 : decode method_44_code 13 = .ok (.iconst 0, 1) := zo_3 (zd_b zq_method_44_code_0 13 rfl rfl rfl)
theorem d_Lw_meanBar_14 : decode method_44_code 14 = .ok (.ireturn, 1) := zo_172 (zd_b zq_method_44_code_0 14 rfl rfl rfl)
set_option maxHeartbeats 4000000 in
set_option maxRecDepth 100000 in
theorem W_meanBar {g : zG} {ad : Nat → Nat} {t : zTT} {u : zNN} {w : zW} (hI : IVm g ad t u w) : zMB g M_Lw_meanBar [.ref (ad 0), .ref (ad 70)] w (fun o w1 => (∃ v : Int32, o = .inl (some (.int v))) ∧ IVm g ad t u w1) 10 300 := by
  obtain ⟨s, hI⟩ := hI
  obtain ⟨e_a, wf_a, k_a⟩ := hI.1.2 0 (by decide)
  obtain rfl := kd_0.mp k_a
  obtain ⟨e_o2, wf_o2, k_o2⟩ := hI.1.2 70 (by decide)
  obtain ⟨v_o2_f, rfl⟩ := kd_70.mp k_o2
  refine y_ofH (by decide) (by decide) (Nat.le_of_ble_eq_true rfl) (y_base (cs := [((ad 0), .inr (11, [.ref (ad 1), .ref (ad 5), .ref (ad 18), .ref (ad 31), .ref (ad 32), .ref (ad 36), .ref (ad 42), .ref (ad 45), .ref (ad 47), .ref (ad 49), .ref (ad 50), .ref (ad 51)])), ((ad 70), .inl (4, 1, .inr (.inr (.inr (.inl v_o2_f)))))]) (hI.1.I [0, 70] _ rfl (by decide) (by decide) (List.forall_mem_cons.mpr ⟨wf_a, (List.forall_mem_cons.mpr ⟨wf_o2, (fun _ h => nomatch h)⟩)⟩)) ?_)
  refine y_lvE (lv2 := [(0, .ref (ad 0)), (1, .ref (ad 70))]) rfl ?_
  refine y_aload_n d_Lw_meanBar_0 rfl 1 rfl ?_
  refine y_iconst d_Lw_meanBar_1 (v := 0) (by decide) ?_
  refine y_aload_n d_Lw_meanBar_2 rfl 0 rfl ?_
  refine yw_callVH (As := []) (rest := [.int 0, .ref (ad 70)]) (q0 := 0) rfl rfl ln_Lw_161 w_im_Ip_meanBar w_se_Ip_meanBar ok_Lw_meanBar_Ip_meanBar d_Lw_meanBar_3 (fun wA hA => Q_Ip_meanBar (hI.gen (t2 := (mg t s)) (is := [0, 70]) (L2 := []) hA rfl ⟨kd_0.mpr rfl, kd_70.mpr ⟨_, rfl⟩, trivial⟩ (by decide) (by decide) (fun _ h => nomatch h) (fun _ h => nomatch h) (fun _ _ _ => rfl) (fun h => h) rfl)) rfl rfl (Nat.le_of_ble_eq_true rfl) (by omega) (by omega) (fun wA3 hA3 E wB3 hx => ?_) (fun wA3 hA3 v wB3 hx => ?_)
  · obtain ⟨h1, hI2⟩ := hx
    obtain rfl : E = "java/lang/ArithmeticException" := by
      rcases h1 with ⟨v, e9⟩ | e9
      · cases e9
      · cases e9; rfl
    refine ⟨"java/lang/ArithmeticException", [], [], (0, 7, 10, 159), rfl, (fun z hz => nomatch hz), by decide, by decide, lx_Lw_159, ce_159, fun qx => ?_⟩
    refine y_base (cs := []) (z_I.nil wB3) ?_
    refine y_astore_n (lv' := [(2, .ref qx), (0, .ref (ad 0)), (1, .ref (ad 70))]) d_Lw_meanBar_10 rfl (by decide) rfl ?_
    refine y_iconst d_Lw_meanBar_11 (v := 1) (by decide) ?_
    refine y_iret d_Lw_meanBar_12 rfl rfl ?_
    exact fun w1 h1 => ⟨⟨_, rfl⟩, ⟨s, (z_I.same (z_I.nil _) h1).symm ▸ hI2⟩⟩
  · obtain ⟨h1, hI2⟩ := hx
    obtain ⟨v9, rfl⟩ : ∃ v9 : UInt64, v = some (.double v9) := by
      rcases h1 with ⟨v9, e9⟩ | e9
      · cases e9; exact ⟨v9, rfl⟩
      · cases e9
    refine yw_st (st2 := [.double v9, .int 0, .ref (ad 70)]) rfl ?_
    have hI := hI2
    obtain ⟨e_o2, wf_o2, k_o2⟩ := hI.1.2 70 (by decide)
    obtain ⟨v_o2_f, rfl⟩ := kd_70.mp k_o2
    refine y_base (cs := [((ad 70), .inl (4, 1, .inr (.inr (.inr (.inl v_o2_f)))))]) (hI.1.I [70] _ rfl (by decide) (by decide) (List.forall_mem_cons.mpr ⟨wf_o2, (fun _ h => nomatch h)⟩)) ?_
    refine y_dast d_Lw_meanBar_6 (q0 := 0) rfl (fun q => q.elim (by decide) (by decide)) (f' := vf_upd v_o2_f 0 v9) rfl (cs' := [((ad 70), .inl (4, 1, .inr (.inr (.inr (.inl (vf_upd v_o2_f 0 v9))))))]) rfl ?_
    refine y_goto (tgt := 13) d_Lw_meanBar_7 (by decide) ?_
    refine y_iconst d_Lw_meanBar_13 (v := 0) (by decide) ?_
    refine y_iret d_Lw_meanBar_14 rfl rfl ?_
    exact fun w1 h1 => ⟨⟨_, rfl⟩, ⟨_, (hI.gen (t2 := (mg t s)) (is := [70]) (L2 := []) h1 rfl ⟨kd_70.mpr ⟨_, rfl⟩, trivial⟩ (by decide) (by decide) (fun _ h => nomatch h) (fun _ h => nomatch h) (fun _ _ _ => rfl) (fun h => h) rfl)⟩⟩

