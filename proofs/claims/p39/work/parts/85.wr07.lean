set_option maxHeartbeats 4000000 in
set_option maxRecDepth 100000 in
theorem W_minutes {g : zG} {ad : Nat → Nat} {t : zTT} {u : zNN} {w : zW} (hI : IVm g ad t u w) (x : Int32) : zMB g M_Lw_minutes [.ref (ad 0), .int x, .ref (ad 69)] w (fun o w1 => MKx g ad (tK_Ip_minutes x t u.1) u.1 o w1) 10 300 := by
  obtain ⟨s, hI⟩ := hI
  obtain ⟨e_a, wf_a, k_a⟩ := hI.1.2 0 (by decide)
  obtain rfl := kd_0.mp k_a
  obtain ⟨e_o1, wf_o1, k_o1⟩ := hI.1.2 69 (by decide)
  obtain rfl := kd_69.mp k_o1
  refine y_ofH (by decide) (by decide) (Nat.le_of_ble_eq_true rfl) (y_base (cs := [((ad 0), .inr (11, [.ref (ad 1), .ref (ad 5), .ref (ad 18), .ref (ad 31), .ref (ad 32), .ref (ad 36), .ref (ad 42), .ref (ad 45), .ref (ad 47), .ref (ad 49), .ref (ad 50), .ref (ad 51)])), ((ad 69), .inl (3, 1, .inr (.inl (((mg t s).1 69).2.1))))]) (hI.1.I [0, 69] _ rfl (by decide) (by decide) (List.forall_mem_cons.mpr ⟨wf_a, (List.forall_mem_cons.mpr ⟨wf_o1, (fun _ h => nomatch h)⟩)⟩)) ?_)
  refine y_lvE (lv2 := [(0, .ref (ad 0)), (1, .int x), (2, .ref (ad 69))]) rfl ?_
  refine y_aload_n d_Lw_minutes_0 rfl 2 rfl ?_
  refine y_iconst d_Lw_minutes_1 (v := 0) (by decide) ?_
  refine y_aload_n d_Lw_minutes_2 rfl 0 rfl ?_
  refine y_iload_n d_Lw_minutes_3 rfl 1 rfl ?_
  refine yw_callVH (As := [.int x]) (rest := [.int 0, .ref (ad 69)]) (q0 := 0) rfl rfl ln_Lw_92 w_im_Ip_minutes w_se_Ip_minutes ok_Lw_minutes_Ip_minutes d_Lw_minutes_4 (fun wA hA => K_Ip_minutes ⟨_, (hI.gen (t2 := (mg t s)) (is := [0, 69]) (L2 := []) hA rfl ⟨kd_0.mpr rfl, kd_69.mpr rfl, trivial⟩ (by decide) (by decide) (fun _ h => nomatch h) (fun _ h => nomatch h) (fun _ _ _ => rfl) (fun h => h) rfl)⟩ x) rfl rfl (Nat.le_of_ble_eq_true rfl) (by omega) (by omega) (fun wA4 hA4 E wB4 hx => ?_) (fun wA4 hA4 v wB4 hx => ?_)
  · obtain ⟨h1, u2, hu, hI2⟩ := hx
    obtain rfl := List.mem_singleton.mp (zriE h1)
    refine ⟨"java/lang/IllegalArgumentException", [], [], (0, 9, 12, 13), rfl, (fun z hz => nomatch hz), by decide, by decide, lx_Lw_13, ce_13, fun qx => ?_⟩
    refine y_base (cs := []) (z_I.nil wB4) ?_
    refine y_astore_n (lv' := [(3, .ref qx), (0, .ref (ad 0)), (1, .int x), (2, .ref (ad 69))]) d_Lw_minutes_12 rfl (by decide) rfl ?_
    refine y_iconst d_Lw_minutes_13 (v := 1) (by decide) ?_
    refine y_iret d_Lw_minutes_14 rfl rfl ?_
    exact fun w1 h1 => ⟨⟨_, rfl⟩, u2, hu, (z_I.same (z_I.nil _) h1).symm ▸ hI2⟩
  · obtain ⟨h1, u2, hu, hI2⟩ := hx
    obtain ⟨v9, rfl⟩ := zriV h1
    refine yw_st (st2 := [.int v9, .int 0, .ref (ad 69)]) rfl ?_
    obtain ⟨s9, hI⟩ := hI2
    obtain ⟨e_o1, wf_o1, k_o1⟩ := hI.1.2 69 (by decide)
    obtain rfl := kd_69.mp k_o1
    refine y_base (cs := [((ad 69), .inl (3, 1, .inr (.inl (((mg (tK_Ip_minutes x t u.1) s9).1 69).2.1))))]) (hI.1.I [69] _ rfl (by decide) (by decide) (List.forall_mem_cons.mpr ⟨wf_o1, (fun _ h => nomatch h)⟩)) ?_
    refine y_i2l d_Lw_minutes_7 (v := v9.toInt64) rfl ?_
    refine y_last d_Lw_minutes_8 (q0 := 0) rfl (fun q => q.elim (by decide) (by decide)) (f' := vp_updL (((mg (tK_Ip_minutes x t u.1) s9).1 69).2.1) 0 v9.toInt64) rfl (cs' := [((ad 69), .inl (3, 1, .inr (.inl (vp_updL (((mg (tK_Ip_minutes x t u.1) s9).1 69).2.1) 0 v9.toInt64))))]) rfl ?_
    refine y_goto (tgt := 15) d_Lw_minutes_9 (by decide) ?_
    refine y_iconst d_Lw_minutes_15 (v := 0) (by decide) ?_
    refine y_iret d_Lw_minutes_16 rfl rfl ?_
    exact fun w1 h1 => ⟨⟨_, rfl⟩, u2, hu, IVm.tz ((hI.gen (t2 := (zup (mg (tK_Ip_minutes x t u.1) s9).1 [(69, (((mg (tK_Ip_minutes x t u.1) s9).1 69).1, vp_updL (((mg (tK_Ip_minutes x t u.1) s9).1 69).2.1) 0 v9.toInt64, ((mg (tK_Ip_minutes x t u.1) s9).1 69).2.2))], (mg (tK_Ip_minutes x t u.1) s9).2)) (is := [69]) (L2 := []) h1 rfl ⟨kd_69.mpr rfl, trivial⟩ (by decide) (by decide) (fun _ h => nomatch h) (fun _ h => nomatch h) (fun i hi hn => zup_out (fun q => hn ((by decide : ∀ j ∈ ([69] : List Nat), j ∈ ([69] : List Nat)) i q))) (fun h => h) rfl)) (tx_all rfl)⟩
abbrev M_Lw_ladle : zM := (⟨"IronpourLaw", "ladle", "(LIronpour;C[J)I"⟩, method_25_code, 4, (Option.some FieldType.int), 9, 200, [((0 : Nat), (9 : Nat), (12 : Nat), (13 : Nat))])
theorem d_Lw_ladle_0 : decode method_25_code 0 = .ok (.aload_n 2, 1) := zo_44 (zd_b zq_method_25_code_0 0 rfl rfl rfl)
theorem d_Lw_ladle_1 : decode method_25_code 1 = .ok (.iconst 0, 1) := zo_3 (zd_b zq_method_25_code_0 1 rfl rfl rfl)
theorem d_Lw_ladle_2 : decode method_25_code 2 = .ok (.aload_n 0, 1) := zo_42 (zd_b zq_method_25_code_0 2 rfl rfl rfl)
theorem d_Lw_ladle_3 : decode method_25_code 3 = .ok (.iload_n 1, 1) := zo_27 (zd_b zq_method_25_code_0 3 rfl rfl rfl)
theorem d_Lw_ladle_4 : decode method_25_code 4 = .ok (.invokevirtual 95, 3) := zo_182 (d := 0) (e := 95) (zd_b zq_method_25_code_0 4 rfl rfl rfl) (zd_b zq_method_25_code_0 5 rfl rfl rfl) (zd_b zq_method_25_code_0 6 rfl rfl rfl)
theorem ok_Lw_ladle_Ip_ladle : z_okH M_Lw_ladle M_Ip_ladle 1 := ⟨z_mj5 (i := 152) rfl (by decide +kernel), rfl, ⟨by decide +kernel, by decide +kernel, by decide +kernel⟩, ⟨by decide, by decide⟩, z_mj1 (i := 1) rfl (by decide +kernel)⟩
theorem ln_Lw_95 : Cond.methodLink "IronpourLaw" 95 M_Ip_ladle.1 ∈ z_gw := z_mj5 (i := 149) rfl (by decide +kernel)
theorem w_im_Ip_ladle : Cond.instanceMethod M_Ip_ladle.1 ∈ z_gw := z_mj5 (i := 150) rfl (by decide +kernel)
theorem w_se_Ip_ladle : Cond.selects M_Ip_ladle.1.cls M_Ip_ladle.1 M_Ip_ladle.1 ∈ z_gw := z_mj5 (i := 151) rfl (by decide +kernel)
theorem d_Lw_ladle_12 : decode method_25_code 12 = .ok (.astore_n 3, 1) := zo_78 (zd_b zq_method_25_code_0 12 rfl rfl rfl)
theorem d_Lw_ladle_13 : decode method_25_code 13 = .ok (.iconst 1, 1) := zo_4 (zd_b zq_method_25_code_0 13 rfl rfl rfl)
theorem d_Lw_ladle_14 : decode method_25_code 14 = .ok (.ireturn, 1) := zo_172 (zd_b zq_method_25_code_0 14 rfl rfl rfl)
theorem d_Lw_ladle_7 : decode method_25_code 7 = .ok (.i2l, 1) := zo_133 (zd_b zq_method_25_code_0 7 rfl rfl rfl)
theorem d_Lw_ladle_8 : decode method_25_code 8 = .ok (.lastore, 1) := zo_80 (zd_b zq_method_25_code_0 8 rfl rfl rfl)
theorem d_Lw_ladle_9 : decode method_25_code 9 = .ok (.goto 6, 3) := zo_167 (d := 0) (e := 6) (zd_b zq_method_25_code_0 9 rfl rfl rfl) (zd_b zq_method_25_code_0 10 rfl rfl rfl) (zd_b zq_method_25_code_0 11 rfl rfl rfl) (by decide +kernel)
theorem d_Lw_ladle_15 : decode method_25_code 15 = .ok (.iconst 0, 1) := zo_3 (zd_b zq_method_25_code_0 15 rfl rfl rfl)
theorem d_Lw_ladle_16 : decode method_25_code 16 = .ok (.ireturn, 1) := zo_172 (zd_b zq_method_25_code_0 16 rfl rfl rfl)
set_option maxHeartbeats 4000000 in
set_option maxRecDepth 100000 in
theorem W_ladle {g : zG} {ad : Nat → Nat} {t : zTT} {u : zNN} {w : zW} (hI : IVm g ad t u w) (c : Int32) : zMB g M_Lw_ladle [.ref (ad 0), .int c, .ref (ad 69)] w (fun o w1 => MKx g ad t u.1 o w1) 10 300 := by
  obtain ⟨s, hI⟩ := hI
  obtain ⟨e_a, wf_a, k_a⟩ := hI.1.2 0 (by decide)
  obtain rfl := kd_0.mp k_a
  obtain ⟨e_o1, wf_o1, k_o1⟩ := hI.1.2 69 (by decide)
  obtain rfl := kd_69.mp k_o1
  refine y_ofH (by decide) (by decide) (Nat.le_of_ble_eq_true rfl) (y_base (cs := [((ad 0), .inr (11, [.ref (ad 1), .ref (ad 5), .ref (ad 18), .ref (ad 31), .ref (ad 32), .ref (ad 36), .ref (ad 42), .ref (ad 45), .ref (ad 47), .ref (ad 49), .ref (ad 50), .ref (ad 51)])), ((ad 69), .inl (3, 1, .inr (.inl (((mg t s).1 69).2.1))))]) (hI.1.I [0, 69] _ rfl (by decide) (by decide) (List.forall_mem_cons.mpr ⟨wf_a, (List.forall_mem_cons.mpr ⟨wf_o1, (fun _ h => nomatch h)⟩)⟩)) ?_)
  refine y_lvE (lv2 := [(0, .ref (ad 0)), (1, .int c), (2, .ref (ad 69))]) rfl ?_
  refine y_aload_n d_Lw_ladle_0 rfl 2 rfl ?_
  refine y_iconst d_Lw_ladle_1 (v := 0) (by decide) ?_
  refine y_aload_n d_Lw_ladle_2 rfl 0 rfl ?_
  refine y_iload_n d_Lw_ladle_3 rfl 1 rfl ?_
  refine yw_callVH (As := [.int c]) (rest := [.int 0, .ref (ad 69)]) (q0 := 0) rfl rfl ln_Lw_95 w_im_Ip_ladle w_se_Ip_ladle ok_Lw_ladle_Ip_ladle d_Lw_ladle_4 (fun wA hA => K_Ip_ladle ⟨_, (hI.gen (t2 := (mg t s)) (is := [0, 69]) (L2 := []) hA rfl ⟨kd_0.mpr rfl, kd_69.mpr rfl, trivial⟩ (by decide) (by decide) (fun _ h => nomatch h) (fun _ h => nomatch h) (fun _ _ _ => rfl) (fun h => h) rfl)⟩ c) rfl rfl (Nat.le_of_ble_eq_true rfl) (by omega) (by omega) (fun wA4 hA4 E wB4 hx => ?_) (fun wA4 hA4 v wB4 hx => ?_)
  · obtain ⟨h1, u2, hu, hI2⟩ := hx
    obtain rfl := List.mem_singleton.mp (zriE h1)
    refine ⟨"java/lang/IllegalArgumentException", [], [], (0, 9, 12, 13), rfl, (fun z hz => nomatch hz), by decide, by decide, lx_Lw_13, ce_13, fun qx => ?_⟩
    refine y_base (cs := []) (z_I.nil wB4) ?_
    refine y_astore_n (lv' := [(3, .ref qx), (0, .ref (ad 0)), (1, .int c), (2, .ref (ad 69))]) d_Lw_ladle_12 rfl (by decide) rfl ?_
    refine y_iconst d_Lw_ladle_13 (v := 1) (by decide) ?_
    refine y_iret d_Lw_ladle_14 rfl rfl ?_
    exact fun w1 h1 => ⟨⟨_, rfl⟩, u2, hu, (z_I.same (z_I.nil _) h1).symm ▸ hI2⟩
  · obtain ⟨h1, u2, hu, hI2⟩ := hx
    obtain ⟨v9, rfl⟩ := zriV h1
    refine yw_st (st2 := [.int v9, .int 0, .ref (ad 69)]) rfl ?_
    obtain ⟨s9, hI⟩ := hI2
    obtain ⟨e_o1, wf_o1, k_o1⟩ := hI.1.2 69 (by decide)
    obtain rfl := kd_69.mp k_o1
    refine y_base (cs := [((ad 69), .inl (3, 1, .inr (.inl (((mg t s9).1 69).2.1))))]) (hI.1.I [69] _ rfl (by decide) (by decide) (List.forall_mem_cons.mpr ⟨wf_o1, (fun _ h => nomatch h)⟩)) ?_
    refine y_i2l d_Lw_ladle_7 (v := v9.toInt64) rfl ?_
    refine y_last d_Lw_ladle_8 (q0 := 0) rfl (fun q => q.elim (by decide) (by decide)) (f' := vp_updL (((mg t s9).1 69).2.1) 0 v9.toInt64) rfl (cs' := [((ad 69), .inl (3, 1, .inr (.inl (vp_updL (((mg t s9).1 69).2.1) 0 v9.toInt64))))]) rfl ?_
    refine y_goto (tgt := 15) d_Lw_ladle_9 (by decide) ?_
    refine y_iconst d_Lw_ladle_15 (v := 0) (by decide) ?_
    refine y_iret d_Lw_ladle_16 rfl rfl ?_
    exact fun w1 h1 => ⟨⟨_, rfl⟩, u2, hu, IVm.tz ((hI.gen (t2 := (zup (mg t s9).1 [(69, (((mg t s9).1 69).1, vp_updL (((mg t s9).1 69).2.1) 0 v9.toInt64, ((mg t s9).1 69).2.2))], (mg t s9).2)) (is := [69]) (L2 := []) h1 rfl ⟨kd_69.mpr rfl, trivial⟩ (by decide) (by decide) (fun _ h => nomatch h) (fun _ h => nomatch h) (fun i hi hn => zup_out (fun q => hn ((by decide : ∀ j ∈ ([69] : List Nat), j ∈ ([69] : List Nat)) i q))) (fun h => h) rfl)) (tx_all rfl)⟩
abbrev M_Lw_pig : zM := (⟨"IronpourLaw", "pig", "(LIronpour;[J)I"⟩, method_26_code, 3, (Option.some FieldType.int), 7, 121, [((0 : Nat), (8 : Nat), (11 : Nat), (69 : Nat))])
theorem d_Lw_pig_0 : decode method_26_code 0 = .ok (.aload_n 1, 1) := zo_43 (zd_b zq_method_26_code_0 0 rfl rfl rfl)
theorem d_Lw_pig_1 : decode method_26_code 1 = .ok (.iconst 0, 1) := zo_3 (zd_b zq_method_26_code_0 1 rfl rfl rfl)
theorem d_Lw_pig_2 : decode method_26_code 2 = .ok (.aload_n 0, 1) := zo_42 (zd_b zq_method_26_code_0 2 rfl rfl rfl)
theorem d_Lw_pig_3 : decode method_26_code 3 = .ok (.invokevirtual 98, 3) := zo_182 (d := 0) (e := 98) (zd_b zq_method_26_code_0 3 rfl rfl rfl) (zd_b zq_method_26_code_0 4 rfl rfl rfl) (zd_b zq_method_26_code_0 5 rfl rfl rfl)
theorem ok_Lw_pig_Ip_pig : z_okH M_Lw_pig M_Ip_pig 0 := ⟨z_mj5 (i := 161) rfl (by decide +kernel), rfl, ⟨by decide +kernel, by decide +kernel, by decide +kernel⟩, ⟨by decide, by decide⟩, z_mj1 (i := 1) rfl (by decide +kernel)⟩
theorem ln_Lw_98 : Cond.methodLink "IronpourLaw" 98 M_Ip_pig.1 ∈ z_gw := z_mj5 (i := 158) rfl (by decide +kernel)
theorem w_im_Ip_pig : Cond.instanceMethod M_Ip_pig.1 ∈ z_gw := z_mj5 (i := 159) rfl (by decide +kernel)
theorem w_se_Ip_pig : Cond.selects M_Ip_pig.1.cls M_Ip_pig.1 M_Ip_pig.1 ∈ z_gw := z_mj5 (i := 160) rfl (by decide +kernel)
theorem d_Lw_pig_11 : decode method_26_code 11 = .ok (.astore_n 2, 1) := zo_77 (zd_b zq_method_26_code_0 11 rfl rfl rfl)
theorem d_Lw_pig_12 : decode method_26_code 12 = .ok (.iconst 1, 1) := zo_4 (zd_b zq_method_26_code_0 12 rfl rfl rfl)
theorem d_Lw_pig_13 : decode method_26_code 13 = .ok (.ireturn, 1) := zo_172 (zd_b zq_method_26_code_0 13 rfl rfl rfl)
theorem d_Lw_pig_6 : decode method_26_code 6 = .ok (.i2l, 1) := zo_133 (zd_b zq_method_26_code_0 6 rfl rfl rfl)
theorem d_Lw_pig_7 : decode method_26_code 7 = .ok (.lastore, 1) := zo_80 (zd_b zq_method_26_code_0 7 rfl rfl rfl)
theorem d_Lw_pig_8 : decode method_26_code 8 = .ok (.goto 6, 3) := zo_167 (d := 0) (e := 6) (zd_b zq_method_26_code_0 8 rfl rfl rfl) (zd_b zq_method_26_code_0 9 rfl rfl rfl) (zd_b zq_method_26_code_0 10 rfl rfl rfl) (by decide +kernel)
theorem d_Lw_pig_14 : decode method_26_code 14 = .ok (.iconst 0, 1) := zo_3 (zd_b zq_method_26_code_0 14 rfl rfl rfl)
theorem d_Lw_pig_15 : decode method_26_code 15 = .ok (.ireturn, 1) := zo_172 (zd_b zq_method_26_code_0 15 rfl rfl rfl)
set_option maxHeartbeats 4000000 in
set_option maxRecDepth 100000 in
theorem W_pig {g : zG} {ad : Nat → Nat} {t : zTT} {u : zNN} {w : zW} (hI : IVm g ad t u w) : zMB g M_Lw_pig [.ref (ad 0), .ref (ad 69)] w (fun o w1 => MKx g ad (tK_Ip_pig t) u.1 o w1) 10 300 := by
  obtain ⟨s, hI⟩ := hI
  obtain ⟨e_a, wf_a, k_a⟩ := hI.1.2 0 (by decide)
  obtain rfl := kd_0.mp k_a
  obtain ⟨e_o1, wf_o1, k_o1⟩ := hI.1.2 69 (by decide)
  obtain rfl := kd_69.mp k_o1
  refine y_ofH (by decide) (by decide) (Nat.le_of_ble_eq_true rfl) (y_base (cs := [((ad 0), .inr (11, [.ref (ad 1), .ref (ad 5), .ref (ad 18), .ref (ad 31), .ref (ad 32), .ref (ad 36), .ref (ad 42), .ref (ad 45), .ref (ad 47), .ref (ad 49), .ref (ad 50), .ref (ad 51)])), ((ad 69), .inl (3, 1, .inr (.inl (((mg t s).1 69).2.1))))]) (hI.1.I [0, 69] _ rfl (by decide) (by decide) (List.forall_mem_cons.mpr ⟨wf_a, (List.forall_mem_cons.mpr ⟨wf_o1, (fun _ h => nomatch h)⟩)⟩)) ?_)
  refine y_lvE (lv2 := [(0, .ref (ad 0)), (1, .ref (ad 69))]) rfl ?_
  refine y_aload_n d_Lw_pig_0 rfl 1 rfl ?_
  refine y_iconst d_Lw_pig_1 (v := 0) (by decide) ?_
  refine y_aload_n d_Lw_pig_2 rfl 0 rfl ?_
  refine yw_callVH (As := []) (rest := [.int 0, .ref (ad 69)]) (q0 := 0) rfl rfl ln_Lw_98 w_im_Ip_pig w_se_Ip_pig ok_Lw_pig_Ip_pig d_Lw_pig_3 (fun wA hA => K_Ip_pig ⟨_, (hI.gen (t2 := (mg t s)) (is := [0, 69]) (L2 := []) hA rfl ⟨kd_0.mpr rfl, kd_69.mpr rfl, trivial⟩ (by decide) (by decide) (fun _ h => nomatch h) (fun _ h => nomatch h) (fun _ _ _ => rfl) (fun h => h) rfl)⟩) rfl rfl (Nat.le_of_ble_eq_true rfl) (by omega) (by omega) (fun wA3 hA3 E wB3 hx => ?_) (fun wA3 hA3 v wB3 hx => ?_)
  · obtain ⟨h1, u2, hu, hI2⟩ := hx
    obtain rfl := List.mem_singleton.mp (zriE h1)
    refine ⟨"java/lang/IllegalStateException", [], [], (0, 8, 11, 69), rfl, (fun z hz => nomatch hz), by decide, by decide, lx_Lw_69, ce_69, fun qx => ?_⟩
    refine y_base (cs := []) (z_I.nil wB3) ?_
    refine y_astore_n (lv' := [(2, .ref qx), (0, .ref (ad 0)), (1, .ref (ad 69))]) d_Lw_pig_11 rfl (by decide) rfl ?_
    refine y_iconst d_Lw_pig_12 (v := 1) (by decide) ?_
    refine y_iret d_Lw_pig_13 rfl rfl ?_
    exact fun w1 h1 => ⟨⟨_, rfl⟩, u2, hu, (z_I.same (z_I.nil _) h1).symm ▸ hI2⟩
  · obtain ⟨h1, u2, hu, hI2⟩ := hx
    obtain ⟨v9, rfl⟩ := zriV h1
    refine yw_st (st2 := [.int v9, .int 0, .ref (ad 69)]) rfl ?_
    obtain ⟨s9, hI⟩ := hI2
    obtain ⟨e_o1, wf_o1, k_o1⟩ := hI.1.2 69 (by decide)
    obtain rfl := kd_69.mp k_o1
    refine y_base (cs := [((ad 69), .inl (3, 1, .inr (.inl (((mg (tK_Ip_pig t) s9).1 69).2.1))))]) (hI.1.I [69] _ rfl (by decide) (by decide) (List.forall_mem_cons.mpr ⟨wf_o1, (fun _ h => nomatch h)⟩)) ?_
    refine y_i2l d_Lw_pig_6 (v := v9.toInt64) rfl ?_
    refine y_last d_Lw_pig_7 (q0 := 0) rfl (fun q => q.elim (by decide) (by decide)) (f' := vp_updL (((mg (tK_Ip_pig t) s9).1 69).2.1) 0 v9.toInt64) rfl (cs' := [((ad 69), .inl (3, 1, .inr (.inl (vp_updL (((mg (tK_Ip_pig t) s9).1 69).2.1) 0 v9.toInt64))))]) rfl ?_
    refine y_goto (tgt := 14) d_Lw_pig_8 (by decide) ?_
    refine y_iconst d_Lw_pig_14 (v := 0) (by decide) ?_
    refine y_iret d_Lw_pig_15 rfl rfl ?_
    exact fun w1 h1 => ⟨⟨_, rfl⟩, u2, hu, IVm.tz ((hI.gen (t2 := (zup (mg (tK_Ip_pig t) s9).1 [(69, (((mg (tK_Ip_pig t) s9).1 69).1, vp_updL (((mg (tK_Ip_pig t) s9).1 69).2.1) 0 v9.toInt64, ((mg (tK_Ip_pig t) s9).1 69).2.2))], (mg (tK_Ip_pig t) s9).2)) (is := [69]) (L2 := []) h1 rfl ⟨kd_69.mpr rfl, trivial⟩ (by decide) (by decide) (fun _ h => nomatch h) (fun _ h => nomatch h) (fun i hi hn => zup_out (fun q => hn ((by decide : ∀ j ∈ ([69] : List Nat), j ∈ ([69] : List Nat)) i q))) (fun h => h) rfl)) (tx_all rfl)⟩
abbrev M_Lw_pool : zM := (⟨"IronpourLaw", "pool", "(LIronpour;C[J)I"⟩, method_27_code, 4, (Option.some FieldType.int), 7, 122, [((0 : Nat), (9 : Nat), (12 : Nat), (13 : Nat))])
theorem d_Lw_pool_0 : decode method_27_code 0 = .ok (.aload_n 2, 1) := zo_44 (zd_b zq_method_27_code_0 0 rfl rfl rfl)
theorem d_Lw_pool_1 : decode method_27_code 1 = .ok (.iconst 0, 1) := zo_3 (zd_b zq_method_27_code_0 1 rfl rfl rfl)
theorem d_Lw_pool_2 : decode method_27_code 2 = .ok (.aload_n 0, 1) := zo_42 (zd_b zq_method_27_code_0 2 rfl rfl rfl)
theorem d_Lw_pool_3 : decode method_27_code 3 = .ok (.iload_n 1, 1) := zo_27 (zd_b zq_method_27_code_0 3 rfl rfl rfl)
theorem d_Lw_pool_4 : decode method_27_code 4 = .ok (.invokevirtual 101, 3) := zo_182 (d := 0) (e := 101) (zd_b zq_method_27_code_0 4 rfl rfl rfl) (zd_b zq_method_27_code_0 5 rfl rfl rfl) (zd_b zq_method_27_code_0 6 rfl rfl rfl)
theorem ok_Lw_pool_Ip_pool : z_okH M_Lw_pool M_Ip_pool 1 := ⟨z_mj5 (i := 168) rfl (by decide +kernel), rfl, ⟨by decide +kernel, by decide +kernel, by decide +kernel⟩, ⟨by decide, by decide⟩, z_mj1 (i := 1) rfl (by decide +kernel)⟩
theorem ln_Lw_101 : Cond.methodLink "IronpourLaw" 101 M_Ip_pool.1 ∈ z_gw := z_mj5 (i := 165) rfl (by decide +kernel)
theorem w_im_Ip_pool : Cond.instanceMethod M_Ip_pool.1 ∈ z_gw := z_mj5 (i := 166) rfl (by decide +kernel)
theorem w_se_Ip_pool : Cond.selects M_Ip_pool.1.cls M_Ip_pool.1 M_Ip_pool.1 ∈ z_gw := z_mj5 (i := 167) rfl (by decide +kernel)
theorem d_Lw_pool_12 : decode method_27_code 12 = .ok (.astore_n 3, 1) := zo_78 (zd_b zq_method_27_code_0 12 rfl rfl rfl)
theorem d_Lw_pool_13 : decode method_27_code 13 = .ok (.iconst 1, 1) := zo_4 (zd_b zq_method_27_code_0 13 rfl rfl rfl)
theorem d_Lw_pool_14 : decode method_27_code 14 = .ok (.ireturn, 1) := zo_172 (zd_b zq_method_27_code_0 14 rfl rfl rfl)
theorem d_Lw_pool_7 : decode method_27_code 7 = .ok (.i2l, 1) := zo_133 (zd_b zq_method_27_code_0 7 rfl rfl rfl)
theorem d_Lw_pool_8 : decode method_27_code 8 = .ok (.lastore, 1) := zo_80 (zd_b zq_method_27_code_0 8 rfl rfl rfl)
theorem d_Lw_pool_9 : decode method_27_code 9 = .ok (.goto 6, 3) := zo_167 (d := 0) (e := 6) (zd_b zq_method_27_code_0 9 rfl rfl rfl) (zd_b zq_method_27_code_0 10 rfl rfl rfl) (zd_b zq_method_27_code_0 11 rfl rfl rfl) (by decide +kernel)
theorem d_Lw_pool_15 : decode method_27_code 15 = .ok (.iconst 0, 1) := zo_3 (zd_b zq_method_27_code_0 15 rfl rfl rfl)
theorem d_Lw_pool_16 : decode method_27_code 16 = .ok (.ireturn, 1) := zo_172 (zd_b zq_method_27_code_0 16 rfl rfl rfl)
set_option maxHeartbeats 4000000 in
set_option maxRecDepth 100000 in
theorem W_pool {g : zG} {ad : Nat → Nat} {t : zTT} {u : zNN} {w : zW} (hI : IVm g ad t u w) (k : Int32) : zMB g M_Lw_pool [.ref (ad 0), .int k, .ref (ad 69)] w (fun o w1 => MKx g ad t u.1 o w1) 10 300 := by
  obtain ⟨s, hI⟩ := hI
  obtain ⟨e_a, wf_a, k_a⟩ := hI.1.2 0 (by decide)
  obtain rfl := kd_0.mp k_a
  obtain ⟨e_o1, wf_o1, k_o1⟩ := hI.1.2 69 (by decide)
  obtain rfl := kd_69.mp k_o1
  refine y_ofH (by decide) (by decide) (Nat.le_of_ble_eq_true rfl) (y_base (cs := [((ad 0), .inr (11, [.ref (ad 1), .ref (ad 5), .ref (ad 18), .ref (ad 31), .ref (ad 32), .ref (ad 36), .ref (ad 42), .ref (ad 45), .ref (ad 47), .ref (ad 49), .ref (ad 50), .ref (ad 51)])), ((ad 69), .inl (3, 1, .inr (.inl (((mg t s).1 69).2.1))))]) (hI.1.I [0, 69] _ rfl (by decide) (by decide) (List.forall_mem_cons.mpr ⟨wf_a, (List.forall_mem_cons.mpr ⟨wf_o1, (fun _ h => nomatch h)⟩)⟩)) ?_)
  refine y_lvE (lv2 := [(0, .ref (ad 0)), (1, .int k), (2, .ref (ad 69))]) rfl ?_
  refine y_aload_n d_Lw_pool_0 rfl 2 rfl ?_
  refine y_iconst d_Lw_pool_1 (v := 0) (by decide) ?_
  refine y_aload_n d_Lw_pool_2 rfl 0 rfl ?_
  refine y_iload_n d_Lw_pool_3 rfl 1 rfl ?_
  refine yw_callVH (As := [.int k]) (rest := [.int 0, .ref (ad 69)]) (q0 := 0) rfl rfl ln_Lw_101 w_im_Ip_pool w_se_Ip_pool ok_Lw_pool_Ip_pool d_Lw_pool_4 (fun wA hA => K_Ip_pool ⟨_, (hI.gen (t2 := (mg t s)) (is := [0, 69]) (L2 := []) hA rfl ⟨kd_0.mpr rfl, kd_69.mpr rfl, trivial⟩ (by decide) (by decide) (fun _ h => nomatch h) (fun _ h => nomatch h) (fun _ _ _ => rfl) (fun h => h) rfl)⟩ k) rfl rfl (Nat.le_of_ble_eq_true rfl) (by omega) (by omega) (fun wA4 hA4 E wB4 hx => ?_) (fun wA4 hA4 v wB4 hx => ?_)
  · obtain ⟨h1, u2, hu, hI2⟩ := hx
    obtain rfl := List.mem_singleton.mp (zriE h1)
    refine ⟨"java/lang/IllegalArgumentException", [], [], (0, 9, 12, 13), rfl, (fun z hz => nomatch hz), by decide, by decide, lx_Lw_13, ce_13, fun qx => ?_⟩
    refine y_base (cs := []) (z_I.nil wB4) ?_
    refine y_astore_n (lv' := [(3, .ref qx), (0, .ref (ad 0)), (1, .int k), (2, .ref (ad 69))]) d_Lw_pool_12 rfl (by decide) rfl ?_
    refine y_iconst d_Lw_pool_13 (v := 1) (by decide) ?_
    refine y_iret d_Lw_pool_14 rfl rfl ?_
    exact fun w1 h1 => ⟨⟨_, rfl⟩, u2, hu, (z_I.same (z_I.nil _) h1).symm ▸ hI2⟩
  · obtain ⟨h1, u2, hu, hI2⟩ := hx
    obtain ⟨v9, rfl⟩ := zriV h1
    refine yw_st (st2 := [.int v9, .int 0, .ref (ad 69)]) rfl ?_
    obtain ⟨s9, hI⟩ := hI2
    obtain ⟨e_o1, wf_o1, k_o1⟩ := hI.1.2 69 (by decide)
    obtain rfl := kd_69.mp k_o1
    refine y_base (cs := [((ad 69), .inl (3, 1, .inr (.inl (((mg t s9).1 69).2.1))))]) (hI.1.I [69] _ rfl (by decide) (by decide) (List.forall_mem_cons.mpr ⟨wf_o1, (fun _ h => nomatch h)⟩)) ?_
    refine y_i2l d_Lw_pool_7 (v := v9.toInt64) rfl ?_
    refine y_last d_Lw_pool_8 (q0 := 0) rfl (fun q => q.elim (by decide) (by decide)) (f' := vp_updL (((mg t s9).1 69).2.1) 0 v9.toInt64) rfl (cs' := [((ad 69), .inl (3, 1, .inr (.inl (vp_updL (((mg t s9).1 69).2.1) 0 v9.toInt64))))]) rfl ?_
    refine y_goto (tgt := 15) d_Lw_pool_9 (by decide) ?_
    refine y_iconst d_Lw_pool_15 (v := 0) (by decide) ?_
    refine y_iret d_Lw_pool_16 rfl rfl ?_
    exact fun w1 h1 => ⟨⟨_, rfl⟩, u2, hu, IVm.tz ((hI.gen (t2 := (zup (mg t s9).1 [(69, (((mg t s9).1 69).1, vp_updL (((mg t s9).1 69).2.1) 0 v9.toInt64, ((mg t s9).1 69).2.2))], (mg t s9).2)) (is := [69]) (L2 := []) h1 rfl ⟨kd_69.mpr rfl, trivial⟩ (by decide) (by decide) (fun _ h => nomatch h) (fun _ h => nomatch h) (fun i hi hn => zup_out (fun q => hn ((by decide : ∀ j ∈ ([69] : List Nat), j ∈ ([69] : List Nat)) i q))) (fun h => h) rfl)) (tx_all rfl)⟩
abbrev M_Lw_poolHas : zM := (⟨"IronpourLaw", "poolHas", "(LIronpour;CC[J)I"⟩, method_28_code, 5, (Option.some FieldType.int), 10, 224, [((0 : Nat), (10 : Nat), (13 : Nat), (13 : Nat)), ((0 : Nat), (10 : Nat), (17 : Nat), (33 : Nat))])
theorem d_Lw_poolHas_0 : decode method_28_code 0 = .ok (.aload_n 3, 1) := zo_45 (zd_b zq_method_28_code_0 0 rfl rfl rfl)
theorem d_Lw_poolHas_1 : decode method_28_code 1 = .ok (.iconst 0, 1) := zo_3 (zd_b zq_method_28_code_0 1 rfl rfl rfl)
theorem d_Lw_poolHas_2 : decode method_28_code 2 = .ok (.aload_n 0, 1) := zo_42 (zd_b zq_method_28_code_0 2 rfl rfl rfl)
theorem d_Lw_poolHas_3 : decode method_28_code 3 = .ok (.iload_n 1, 1) := zo_27 (zd_b zq_method_28_code_0 3 rfl rfl rfl)
theorem d_Lw_poolHas_4 : decode method_28_code 4 = .ok (.iload_n 2, 1) := zo_28 (zd_b zq_method_28_code_0 4 rfl rfl rfl)
theorem d_Lw_poolHas_5 : decode method_28_code 5 = .ok (.invokevirtual 104, 3) := zo_182 (d := 0) (e := 104) (zd_b zq_method_28_code_0 5 rfl rfl rfl) (zd_b zq_method_28_code_0 6 rfl rfl rfl) (zd_b zq_method_28_code_0 7 rfl rfl rfl)
theorem ok_Lw_poolHas_Ip_poolHas : z_okH M_Lw_poolHas M_Ip_poolHas 2 := ⟨z_mj5 (i := 176) rfl (by decide +kernel), rfl, ⟨by decide +kernel, by decide +kernel, by decide +kernel⟩, ⟨by decide, by decide⟩, z_mj1 (i := 1) rfl (by decide +kernel)⟩
theorem ln_Lw_104 : Cond.methodLink "IronpourLaw" 104 M_Ip_poolHas.1 ∈ z_gw := z_mj5 (i := 173) rfl (by decide +kernel)
theorem w_im_Ip_poolHas : Cond.instanceMethod M_Ip_poolHas.1 ∈ z_gw := z_mj5 (i := 174) rfl (by decide +kernel)
theorem w_se_Ip_poolHas : Cond.selects M_Ip_poolHas.1.cls M_Ip_poolHas.1 M_Ip_poolHas.1 ∈ z_gw := z_mj5 (i := 175) rfl (by decide +kernel)
theorem d_Lw_poolHas_13 : decode method_28_code 13 = .ok (.astore 4, 2) := zo_58 (d := 4) (zd_b zq_method_28_code_0 13 rfl rfl rfl) (zd_b zq_method_28_code_0 14 rfl rfl rfl)
theorem d_Lw_poolHas_15 : decode method_28_code 15 = .ok (.iconst 1, 1) := zo_4 (zd_b zq_method_28_code_0 15 rfl rfl rfl)
theorem d_Lw_poolHas_16 : decode method_28_code 16 = .ok (.ireturn, 1) := zo_172 (zd_b zq_method_28_code_0 16 rfl rfl rfl)
theorem d_Lw_poolHas_17 : decode method_28_code 17 = .ok (.astore 4, 2) := zo_58 (d := 4) (zd_b zq_method_28_code_0 17 rfl rfl rfl) (zd_b zq_method_28_code_0 18 rfl rfl rfl)
theorem d_Lw_poolHas_19 : decode method_28_code 19 = .ok (.iconst 2, 1) := zo_5 (zd_b zq_method_28_code_0 19 rfl rfl rfl)
theorem d_Lw_poolHas_20 : decode method_28_code 20 = .ok (.ireturn, 1) := zo_172 (zd_b zq_method_28_code_0 20 rfl rfl rfl)
theorem d_Lw_poolHas_8 : decode method_28_code 8 = .ok (.i2l, 1) := zo_133 (zd_b zq_method_28_code_0 8 rfl rfl rfl)
