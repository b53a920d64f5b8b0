set_option maxHeartbeats 4000000 in
set_option maxRecDepth 100000 in
theorem W_mill {g : zG} {ad : Nat → Nat} {t : zTT} {u : zNN} {w : zW} (hI : IVm g ad t u w) (m1 m2 m3 m4 : Int32) : zMB g M_Lw_mill [.ref (ad 0), .int m1, .int m2, .int m3, .int m4, .ref (ad 69)] w (fun o w1 => MKx g ad (tK_Ip_mill m1 m2 m3 m4 t) u.1 o w1) 10 300 := by
  obtain ⟨s, hI⟩ := hI
  obtain ⟨e_a, wf_a, k_a⟩ := hI.1.2 0 (by decide)
  obtain rfl := kd_0.mp k_a
  obtain ⟨e_o1, wf_o1, k_o1⟩ := hI.1.2 69 (by decide)
  obtain rfl := kd_69.mp k_o1
  refine y_ofH (by decide) (by decide) (Nat.le_of_ble_eq_true rfl) (y_base (cs := [((ad 0), .inr (11, [.ref (ad 1), .ref (ad 5), .ref (ad 18), .ref (ad 31), .ref (ad 32), .ref (ad 36), .ref (ad 42), .ref (ad 45), .ref (ad 47), .ref (ad 49), .ref (ad 50), .ref (ad 51)])), ((ad 69), .inl (3, 1, .inr (.inl (((mg t s).1 69).2.1))))]) (hI.1.I [0, 69] _ rfl (by decide) (by decide) (List.forall_mem_cons.mpr ⟨wf_a, (List.forall_mem_cons.mpr ⟨wf_o1, (fun _ h => nomatch h)⟩)⟩)) ?_)
  refine y_lvE (lv2 := [(0, .ref (ad 0)), (1, .int m1), (2, .int m2), (3, .int m3), (4, .int m4), (5, .ref (ad 69))]) rfl ?_
  refine y_aload d_Lw_mill_0 5 rfl ?_
  refine y_iconst d_Lw_mill_2 (v := 0) (by decide) ?_
  refine y_aload_n d_Lw_mill_3 rfl 0 rfl ?_
  refine y_iload_n d_Lw_mill_4 rfl 1 rfl ?_
  refine y_iload_n d_Lw_mill_5 rfl 2 rfl ?_
  refine y_iload_n d_Lw_mill_6 rfl 3 rfl ?_
  refine y_iload d_Lw_mill_7 4 rfl ?_
  refine yw_callVH (As := [.int m1, .int m2, .int m3, .int m4]) (rest := [.int 0, .ref (ad 69)]) (q0 := 0) rfl rfl ln_Lw_59 w_im_Ip_mill w_se_Ip_mill ok_Lw_mill_Ip_mill d_Lw_mill_9 (fun wA hA => K_Ip_mill ⟨_, (hI.gen (t2 := (mg t s)) (is := [0, 69]) (L2 := []) hA rfl ⟨kd_0.mpr rfl, kd_69.mpr rfl, trivial⟩ (by decide) (by decide) (fun _ h => nomatch h) (fun _ h => nomatch h) (fun _ _ _ => rfl) (fun h => h) rfl)⟩ m1 m2 m3 m4) rfl rfl (Nat.le_of_ble_eq_true rfl) (by omega) (by omega) (fun wA9 hA9 E wB9 hx => ?_) (fun wA9 hA9 v wB9 hx => ?_)
  · obtain ⟨h1, u2, hu, hI2⟩ := hx
    obtain rfl := List.mem_singleton.mp (zriE h1)
    refine ⟨"java/lang/IllegalArgumentException", [], [], (0, 14, 17, 13), rfl, (fun z hz => nomatch hz), by decide, by decide, lx_Lw_13, ce_13, fun qx => ?_⟩
    refine y_base (cs := []) (z_I.nil wB9) ?_
    refine y_astore (lv' := [(6, .ref qx), (0, .ref (ad 0)), (1, .int m1), (2, .int m2), (3, .int m3), (4, .int m4), (5, .ref (ad 69))]) d_Lw_mill_17 (by decide) rfl ?_
    refine y_iconst d_Lw_mill_19 (v := 1) (by decide) ?_
    refine y_iret d_Lw_mill_20 rfl rfl ?_
    exact fun w1 h1 => ⟨⟨_, rfl⟩, u2, hu, (z_I.same (z_I.nil _) h1).symm ▸ hI2⟩
  · obtain ⟨h1, u2, hu, hI2⟩ := hx
    obtain ⟨v9, rfl⟩ := zriV h1
    refine yw_st (st2 := [.int v9, .int 0, .ref (ad 69)]) rfl ?_
    obtain ⟨s9, hI⟩ := hI2
    obtain ⟨e_o1, wf_o1, k_o1⟩ := hI.1.2 69 (by decide)
    obtain rfl := kd_69.mp k_o1
    refine y_base (cs := [((ad 69), .inl (3, 1, .inr (.inl (((mg (tK_Ip_mill m1 m2 m3 m4 t) s9).1 69).2.1))))]) (hI.1.I [69] _ rfl (by decide) (by decide) (List.forall_mem_cons.mpr ⟨wf_o1, (fun _ h => nomatch h)⟩)) ?_
    refine y_i2l d_Lw_mill_12 (v := v9.toInt64) rfl ?_
    refine y_last d_Lw_mill_13 (q0 := 0) rfl (fun q => q.elim (by decide) (by decide)) (f' := vp_updL (((mg (tK_Ip_mill m1 m2 m3 m4 t) s9).1 69).2.1) 0 v9.toInt64) rfl (cs' := [((ad 69), .inl (3, 1, .inr (.inl (vp_updL (((mg (tK_Ip_mill m1 m2 m3 m4 t) s9).1 69).2.1) 0 v9.toInt64))))]) rfl ?_
    refine y_goto (tgt := 21) d_Lw_mill_14 (by decide) ?_
    refine y_iconst d_Lw_mill_21 (v := 0) (by decide) ?_
    refine y_iret d_Lw_mill_22 rfl rfl ?_
    exact fun w1 h1 => ⟨⟨_, rfl⟩, u2, hu, IVm.tz ((hI.gen (t2 := (zup (mg (tK_Ip_mill m1 m2 m3 m4 t) s9).1 [(69, (((mg (tK_Ip_mill m1 m2 m3 m4 t) s9).1 69).1, vp_updL (((mg (tK_Ip_mill m1 m2 m3 m4 t) s9).1 69).2.1) 0 v9.toInt64, ((mg (tK_Ip_mill m1 m2 m3 m4 t) s9).1 69).2.2))], (mg (tK_Ip_mill m1 m2 m3 m4 t) s9).2)) (is := [69]) (L2 := []) h1 rfl ⟨kd_69.mpr rfl, trivial⟩ (by decide) (by decide) (fun _ h => nomatch h) (fun _ h => nomatch h) (fun i hi hn => zup_out (fun q => hn ((by decide : ∀ j ∈ ([69] : List Nat), j ∈ ([69] : List Nat)) i q))) (fun h => h) rfl)) (tx_all rfl)⟩
abbrev M_Lw_sand : zM := (⟨"IronpourLaw", "sand", "(LIronpour;C[J)I"⟩, method_16_code, 4, (Option.some FieldType.int), 7, 121, [((0 : Nat), (9 : Nat), (12 : Nat), (13 : Nat))])
theorem d_Lw_sand_0 : decode method_16_code 0 = .ok (.aload_n 2, 1) := zo_44 (zd_b zq_method_16_code_0 0 rfl rfl rfl)
theorem d_Lw_sand_1 : decode method_16_code 1 = .ok (.iconst 0, 1) := zo_3 (zd_b zq_method_16_code_0 1 rfl rfl rfl)
theorem d_Lw_sand_2 : decode method_16_code 2 = .ok (.aload_n 0, 1) := zo_42 (zd_b zq_method_16_code_0 2 rfl rfl rfl)
theorem d_Lw_sand_3 : decode method_16_code 3 = .ok (.iload_n 1, 1) := zo_27 (zd_b zq_method_16_code_0 3 rfl rfl rfl)
theorem d_Lw_sand_4 : decode method_16_code 4 = .ok (.invokevirtual 62, 3) := zo_182 (d := 0) (e := 62) (zd_b zq_method_16_code_0 4 rfl rfl rfl) (zd_b zq_method_16_code_0 5 rfl rfl rfl) (zd_b zq_method_16_code_0 6 rfl rfl rfl)
theorem ok_Lw_sand_Ip_sand : z_okH M_Lw_sand M_Ip_sand 1 := ⟨z_mj4 (i := 195) rfl (by decide +kernel), rfl, ⟨by decide +kernel, by decide +kernel, by decide +kernel⟩, ⟨by decide, by decide⟩, z_mj1 (i := 1) rfl (by decide +kernel)⟩
theorem ln_Lw_62 : Cond.methodLink "IronpourLaw" 62 M_Ip_sand.1 ∈ z_gw := z_mj4 (i := 192) rfl (by decide +kernel)
theorem w_im_Ip_sand : Cond.instanceMethod M_Ip_sand.1 ∈ z_gw := z_mj4 (i := 193) rfl (by decide +kernel)
theorem w_se_Ip_sand : Cond.selects M_Ip_sand.1.cls M_Ip_sand.1 M_Ip_sand.1 ∈ z_gw := z_mj4 (i := 194) rfl (by decide +kernel)
theorem d_Lw_sand_12 : decode method_16_code 12 = .ok (.astore_n 3, 1) := zo_78 (zd_b zq_method_16_code_0 12 rfl rfl rfl)
theorem d_Lw_sand_13 : decode method_16_code 13 = .ok (.iconst 1, 1) := zo_4 (zd_b zq_method_16_code_0 13 rfl rfl rfl)
theorem d_Lw_sand_14 : decode method_16_code 14 = .ok (.ireturn, 1) := zo_172 (zd_b zq_method_16_code_0 14 rfl rfl rfl)
theorem d_Lw_sand_7 : decode method_16_code 7 = .ok (.i2l, 1) := zo_133 (zd_b zq_method_16_code_0 7 rfl rfl rfl)
theorem d_Lw_sand_8 : decode method_16_code 8 = .ok (.lastore, 1) := zo_80 (zd_b zq_method_16_code_0 8 rfl rfl rfl)
theorem d_Lw_sand_9 : decode method_16_code 9 = .ok (.goto 6, 3) := zo_167 (d := 0) (e := 6) (zd_b zq_method_16_code_0 9 rfl rfl rfl) (zd_b zq_method_16_code_0 10 rfl rfl rfl) (zd_b zq_method_16_code_0 11 rfl rfl rfl) (by decide +kernel)
theorem d_Lw_sand_15 : decode method_16_code 15 = .ok (.iconst 0, 1) := zo_3 (zd_b zq_method_16_code_0 15 rfl rfl rfl)
theorem d_Lw_sand_16 : decode method_16_code 16 = .ok (.ireturn, 1) := zo_172 (zd_b zq_method_16_code_0 16 rfl rfl rfl)
set_option maxHeartbeats 4000000 in
set_option maxRecDepth 100000 in
theorem W_sand {g : zG} {ad : Nat → Nat} {t : zTT} {u : zNN} {w : zW} (hI : IVm g ad t u w) (w9 : Int32) : zMB g M_Lw_sand [.ref (ad 0), .int w9, .ref (ad 69)] w (fun o w1 => MKx g ad t u.1 o w1) 10 300 := by
  obtain ⟨s, hI⟩ := hI
  obtain ⟨e_a, wf_a, k_a⟩ := hI.1.2 0 (by decide)
  obtain rfl := kd_0.mp k_a
  obtain ⟨e_o1, wf_o1, k_o1⟩ := hI.1.2 69 (by decide)
  obtain rfl := kd_69.mp k_o1
  refine y_ofH (by decide) (by decide) (Nat.le_of_ble_eq_true rfl) (y_base (cs := [((ad 0), .inr (11, [.ref (ad 1), .ref (ad 5), .ref (ad 18), .ref (ad 31), .ref (ad 32), .ref (ad 36), .ref (ad 42), .ref (ad 45), .ref (ad 47), .ref (ad 49), .ref (ad 50), .ref (ad 51)])), ((ad 69), .inl (3, 1, .inr (.inl (((mg t s).1 69).2.1))))]) (hI.1.I [0, 69] _ rfl (by decide) (by decide) (List.forall_mem_cons.mpr ⟨wf_a, (List.forall_mem_cons.mpr ⟨wf_o1, (fun _ h => nomatch h)⟩)⟩)) ?_)
  refine y_lvE (lv2 := [(0, .ref (ad 0)), (1, .int w9), (2, .ref (ad 69))]) rfl ?_
  refine y_aload_n d_Lw_sand_0 rfl 2 rfl ?_
  refine y_iconst d_Lw_sand_1 (v := 0) (by decide) ?_
  refine y_aload_n d_Lw_sand_2 rfl 0 rfl ?_
  refine y_iload_n d_Lw_sand_3 rfl 1 rfl ?_
  refine yw_callVH (As := [.int w9]) (rest := [.int 0, .ref (ad 69)]) (q0 := 0) rfl rfl ln_Lw_62 w_im_Ip_sand w_se_Ip_sand ok_Lw_sand_Ip_sand d_Lw_sand_4 (fun wA hA => K_Ip_sand ⟨_, (hI.gen (t2 := (mg t s)) (is := [0, 69]) (L2 := []) hA rfl ⟨kd_0.mpr rfl, kd_69.mpr rfl, trivial⟩ (by decide) (by decide) (fun _ h => nomatch h) (fun _ h => nomatch h) (fun _ _ _ => rfl) (fun h => h) rfl)⟩ w9) rfl rfl (Nat.le_of_ble_eq_true rfl) (by omega) (by omega) (fun wA4 hA4 E wB4 hx => ?_) (fun wA4 hA4 v wB4 hx => ?_)
  · obtain ⟨h1, u2, hu, hI2⟩ := hx
    obtain rfl := List.mem_singleton.mp (zriE h1)
    refine ⟨"java/lang/IllegalArgumentException", [], [], (0, 9, 12, 13), rfl, (fun z hz => nomatch hz), by decide, by decide, lx_Lw_13, ce_13, fun qx => ?_⟩
    refine y_base (cs := []) (z_I.nil wB4) ?_
    refine y_astore_n (lv' := [(3, .ref qx), (0, .ref (ad 0)), (1, .int w9), (2, .ref (ad 69))]) d_Lw_sand_12 rfl (by decide) rfl ?_
    refine y_iconst d_Lw_sand_13 (v := 1) (by decide) ?_
    refine y_iret d_Lw_sand_14 rfl rfl ?_
    exact fun w1 h1 => ⟨⟨_, rfl⟩, u2, hu, (z_I.same (z_I.nil _) h1).symm ▸ hI2⟩
  · obtain ⟨h1, u2, hu, hI2⟩ := hx
    obtain ⟨v9, rfl⟩ := zriV h1
    refine yw_st (st2 := [.int v9, .int 0, .ref (ad 69)]) rfl ?_
    obtain ⟨s9, hI⟩ := hI2
    obtain ⟨e_o1, wf_o1, k_o1⟩ := hI.1.2 69 (by decide)
    obtain rfl := kd_69.mp k_o1
    refine y_base (cs := [((ad 69), .inl (3, 1, .inr (.inl (((mg t s9).1 69).2.1))))]) (hI.1.I [69] _ rfl (by decide) (by decide) (List.forall_mem_cons.mpr ⟨wf_o1, (fun _ h => nomatch h)⟩)) ?_
    refine y_i2l d_Lw_sand_7 (v := v9.toInt64) rfl ?_
    refine y_last d_Lw_sand_8 (q0 := 0) rfl (fun q => q.elim (by decide) (by decide)) (f' := vp_updL (((mg t s9).1 69).2.1) 0 v9.toInt64) rfl (cs' := [((ad 69), .inl (3, 1, .inr (.inl (vp_updL (((mg t s9).1 69).2.1) 0 v9.toInt64))))]) rfl ?_
    refine y_goto (tgt := 15) d_Lw_sand_9 (by decide) ?_
    refine y_iconst d_Lw_sand_15 (v := 0) (by decide) ?_
    refine y_iret d_Lw_sand_16 rfl rfl ?_
    exact fun w1 h1 => ⟨⟨_, rfl⟩, u2, hu, IVm.tz ((hI.gen (t2 := (zup (mg t s9).1 [(69, (((mg t s9).1 69).1, vp_updL (((mg t s9).1 69).2.1) 0 v9.toInt64, ((mg t s9).1 69).2.2))], (mg t s9).2)) (is := [69]) (L2 := []) h1 rfl ⟨kd_69.mpr rfl, trivial⟩ (by decide) (by decide) (fun _ h => nomatch h) (fun _ h => nomatch h) (fun i hi hn => zup_out (fun q => hn ((by decide : ∀ j ∈ ([69] : List Nat), j ∈ ([69] : List Nat)) i q))) (fun h => h) rfl)) (tx_all rfl)⟩
abbrev M_Lw_makeCores : zM := (⟨"IronpourLaw", "makeCores", "(LIronpour;II[J)I"⟩, method_17_code, 5, (Option.some FieldType.int), 7, 122, [((0 : Nat), (10 : Nat), (13 : Nat), (13 : Nat)), ((0 : Nat), (10 : Nat), (17 : Nat), (69 : Nat))])
theorem d_Lw_makeCores_0 : decode method_17_code 0 = .ok (.aload_n 3, 1) := zo_45 (zd_b zq_method_17_code_0 0 rfl rfl rfl)
theorem d_Lw_makeCores_1 : decode method_17_code 1 = .ok (.iconst 0, 1) := zo_3 (zd_b zq_method_17_code_0 1 rfl rfl rfl)
theorem d_Lw_makeCores_2 : decode method_17_code 2 = .ok (.aload_n 0, 1) := zo_42 (zd_b zq_method_17_code_0 2 rfl rfl rfl)
theorem d_Lw_makeCores_3 : decode method_17_code 3 = .ok (.iload_n 1, 1) := zo_27 (zd_b zq_method_17_code_0 3 rfl rfl rfl)
theorem d_Lw_makeCores_4 : decode method_17_code 4 = .ok (.iload_n 2, 1) := zo_28 (zd_b zq_method_17_code_0 4 rfl rfl rfl)
theorem d_Lw_makeCores_5 : decode method_17_code 5 = .ok (.invokevirtual 66, 3) := zo_182 (d := 0) (e := 66) (zd_b zq_method_17_code_0 5 rfl rfl rfl) (zd_b zq_method_17_code_0 6 rfl rfl rfl) (zd_b zq_method_17_code_0 7 rfl rfl rfl)
theorem ok_Lw_makeCores_Ip_makeCores : z_okH M_Lw_makeCores M_Ip_makeCores 2 := ⟨z_mj4 (i := 208) rfl (by decide +kernel), rfl, ⟨by decide +kernel, by decide +kernel, by decide +kernel⟩, ⟨by decide, by decide⟩, z_mj1 (i := 1) rfl (by decide +kernel)⟩
theorem ln_Lw_66 : Cond.methodLink "IronpourLaw" 66 M_Ip_makeCores.1 ∈ z_gw := z_mj4 (i := 205) rfl (by decide +kernel)
theorem w_im_Ip_makeCores : Cond.instanceMethod M_Ip_makeCores.1 ∈ z_gw := z_mj4 (i := 206) rfl (by decide +kernel)
theorem w_se_Ip_makeCores : Cond.selects M_Ip_makeCores.1.cls M_Ip_makeCores.1 M_Ip_makeCores.1 ∈ z_gw := z_mj4 (i := 207) rfl (by decide +kernel)
theorem d_Lw_makeCores_13 : decode method_17_code 13 = .ok (.astore 4, 2) := zo_58 (d := 4) (zd_b zq_method_17_code_0 13 rfl rfl rfl) (zd_b zq_method_17_code_0 14 rfl rfl rfl)
theorem d_Lw_makeCores_15 : decode method_17_code 15 = .ok (.iconst 1, 1) := zo_4 (zd_b zq_method_17_code_0 15 rfl rfl rfl)
theorem d_Lw_makeCores_16 : decode method_17_code 16 = .ok (.ireturn, 1) := zo_172 (zd_b zq_method_17_code_0 16 rfl rfl rfl)
theorem ce_69 : Cond.castable "java/lang/IllegalStateException" "java/lang/IllegalStateException" ∈ z_nw := z_mk4 (i := 216) rfl (by decide +kernel)
theorem lx_Lw_69 : Cond.classLink "IronpourLaw" 69 "java/lang/IllegalStateException" ∈ z_gw := z_mj4 (i := 204) rfl (by decide +kernel)
theorem d_Lw_makeCores_17 : decode method_17_code 17 = .ok (.astore 4, 2) := zo_58 (d := 4) (zd_b zq_method_17_code_0 17 rfl rfl rfl) (zd_b zq_method_17_code_0 18 rfl rfl rfl)
theorem d_Lw_makeCores_19 : decode method_17_code 19 = .ok (.iconst 2, 1) := zo_5 (zd_b zq_method_17_code_0 19 rfl rfl rfl)
theorem d_Lw_makeCores_20 : decode method_17_code 20 = .ok (.ireturn, 1) := zo_172 (zd_b zq_method_17_code_0 20 rfl rfl rfl)
theorem d_Lw_makeCores_8 : decode method_17_code 8 = .ok (.i2l, 1) := zo_133 (zd_b zq_method_17_code_0 8 rfl rfl rfl)
theorem d_Lw_makeCores_9 : decode method_17_code 9 = .ok (.lastore, 1) := zo_80 (zd_b zq_method_17_code_0 9 rfl rfl rfl)
theorem d_Lw_makeCores_10 : decode method_17_code 10 = .ok (.goto 11, 3) := zo_167 (d := 0) (e := 11) (zd_b zq_method_17_code_0 10 rfl rfl rfl) (zd_b zq_method_17_code_0 11 rfl rfl rfl) (zd_b zq_method_17_code_0 12 rfl rfl rfl) (by decide +kernel)
theorem d_Lw_makeCores_21 : decode method_17_code 21 = .ok (.iconst 0, 1) := zo_3 (zd_b zq_method_17_code_0 21 rfl rfl rfl)
theorem d_Lw_makeCores_22 : decode method_17_code 22 = .ok (.ireturn, 1) := zo_172 (zd_b zq_method_17_code_0 22 rfl rfl rfl)
set_option maxHeartbeats 4000000 in
set_option maxRecDepth 100000 in
theorem W_makeCores {g : zG} {ad : Nat → Nat} {t : zTT} {u : zNN} {w : zW} (hI : IVm g ad t u w) (c k : Int32) : zMB g M_Lw_makeCores [.ref (ad 0), .int c, .int k, .ref (ad 69)] w (fun o w1 => MKx g ad (tK_Ip_makeCores c k t) u.1 o w1) 10 300 := by
  obtain ⟨s, hI⟩ := hI
  obtain ⟨e_a, wf_a, k_a⟩ := hI.1.2 0 (by decide)
  obtain rfl := kd_0.mp k_a
  obtain ⟨e_o1, wf_o1, k_o1⟩ := hI.1.2 69 (by decide)
  obtain rfl := kd_69.mp k_o1
  refine y_ofH (by decide) (by decide) (Nat.le_of_ble_eq_true rfl) (y_base (cs := [((ad 0), .inr (11, [.ref (ad 1), .ref (ad 5), .ref (ad 18), .ref (ad 31), .ref (ad 32), .ref (ad 36), .ref (ad 42), .ref (ad 45), .ref (ad 47), .ref (ad 49), .ref (ad 50), .ref (ad 51)])), ((ad 69), .inl (3, 1, .inr (.inl (((mg t s).1 69).2.1))))]) (hI.1.I [0, 69] _ rfl (by decide) (by decide) (List.forall_mem_cons.mpr ⟨wf_a, (List.forall_mem_cons.mpr ⟨wf_o1, (fun _ h => nomatch h)⟩)⟩)) ?_)
  refine y_lvE (lv2 := [(0, .ref (ad 0)), (1, .int c), (2, .int k), (3, .ref (ad 69))]) rfl ?_
  refine y_aload_n d_Lw_makeCores_0 rfl 3 rfl ?_
  refine y_iconst d_Lw_makeCores_1 (v := 0) (by decide) ?_
  refine y_aload_n d_Lw_makeCores_2 rfl 0 rfl ?_
  refine y_iload_n d_Lw_makeCores_3 rfl 1 rfl ?_
  refine y_iload_n d_Lw_makeCores_4 rfl 2 rfl ?_
  refine yw_callVH (As := [.int c, .int k]) (rest := [.int 0, .ref (ad 69)]) (q0 := 0) rfl rfl ln_Lw_66 w_im_Ip_makeCores w_se_Ip_makeCores ok_Lw_makeCores_Ip_makeCores d_Lw_makeCores_5 (fun wA hA => K_Ip_makeCores ⟨_, (hI.gen (t2 := (mg t s)) (is := [0, 69]) (L2 := []) hA rfl ⟨kd_0.mpr rfl, kd_69.mpr rfl, trivial⟩ (by decide) (by decide) (fun _ h => nomatch h) (fun _ h => nomatch h) (fun _ _ _ => rfl) (fun h => h) rfl)⟩ c k) rfl rfl (Nat.le_of_ble_eq_true rfl) (by omega) (by omega) (fun wA5 hA5 E wB5 hx => ?_) (fun wA5 hA5 v wB5 hx => ?_)
  · obtain ⟨h1, u2, hu, hI2⟩ := hx
    rcases List.mem_cons.mp (zriE h1) with rfl | g2
    · refine ⟨"java/lang/IllegalArgumentException", [], [(0, 10, 17, 69)], (0, 10, 13, 13), rfl, (fun z hz => nomatch hz), by decide, by decide, lx_Lw_13, ce_13, fun qx => ?_⟩
      refine y_base (cs := []) (z_I.nil wB5) ?_
      refine y_astore (lv' := [(4, .ref qx), (0, .ref (ad 0)), (1, .int c), (2, .int k), (3, .ref (ad 69))]) d_Lw_makeCores_13 (by decide) rfl ?_
      refine y_iconst d_Lw_makeCores_15 (v := 1) (by decide) ?_
      refine y_iret d_Lw_makeCores_16 rfl rfl ?_
      exact fun w1 h1 => ⟨⟨_, rfl⟩, u2, hu, (z_I.same (z_I.nil _) h1).symm ▸ hI2⟩
    · obtain rfl := List.mem_singleton.mp g2
      refine ⟨"java/lang/IllegalStateException", [(0, 10, 13, 13)], [], (0, 10, 17, 69), rfl, (fun z hz => by simp only [List.mem_cons, List.not_mem_nil, or_false] at hz; rcases hz with rfl; exact Or.inr ⟨by decide, _, lx_Lw_13, by decide⟩), by decide, by decide, lx_Lw_69, ce_69, fun qx => ?_⟩
      refine y_base (cs := []) (z_I.nil wB5) ?_
      refine y_astore (lv' := [(4, .ref qx), (0, .ref (ad 0)), (1, .int c), (2, .int k), (3, .ref (ad 69))]) d_Lw_makeCores_17 (by decide) rfl ?_
      refine y_iconst d_Lw_makeCores_19 (v := 2) (by decide) ?_
      refine y_iret d_Lw_makeCores_20 rfl rfl ?_
      exact fun w1 h1 => ⟨⟨_, rfl⟩, u2, hu, (z_I.same (z_I.nil _) h1).symm ▸ hI2⟩
  · obtain ⟨h1, u2, hu, hI2⟩ := hx
    obtain ⟨v9, rfl⟩ := zriV h1
    refine yw_st (st2 := [.int v9, .int 0, .ref (ad 69)]) rfl ?_
    obtain ⟨s9, hI⟩ := hI2
    obtain ⟨e_o1, wf_o1, k_o1⟩ := hI.1.2 69 (by decide)
    obtain rfl := kd_69.mp k_o1
    refine y_base (cs := [((ad 69), .inl (3, 1, .inr (.inl (((mg (tK_Ip_makeCores c k t) s9).1 69).2.1))))]) (hI.1.I [69] _ rfl (by decide) (by decide) (List.forall_mem_cons.mpr ⟨wf_o1, (fun _ h => nomatch h)⟩)) ?_
    refine y_i2l d_Lw_makeCores_8 (v := v9.toInt64) rfl ?_
    refine y_last d_Lw_makeCores_9 (q0 := 0) rfl (fun q => q.elim (by decide) (by decide)) (f' := vp_updL (((mg (tK_Ip_makeCores c k t) s9).1 69).2.1) 0 v9.toInt64) rfl (cs' := [((ad 69), .inl (3, 1, .inr (.inl (vp_updL (((mg (tK_Ip_makeCores c k t) s9).1 69).2.1) 0 v9.toInt64))))]) rfl ?_
    refine y_goto (tgt := 21) d_Lw_makeCores_10 (by decide) ?_
    refine y_iconst d_Lw_makeCores_21 (v := 0) (by decide) ?_
    refine y_iret d_Lw_makeCores_22 rfl rfl ?_
    exact fun w1 h1 => ⟨⟨_, rfl⟩, u2, hu, IVm.tz ((hI.gen (t2 := (zup (mg (tK_Ip_makeCores c k t) s9).1 [(69, (((mg (tK_Ip_makeCores c k t) s9).1 69).1, vp_updL (((mg (tK_Ip_makeCores c k t) s9).1 69).2.1) 0 v9.toInt64, ((mg (tK_Ip_makeCores c k t) s9).1 69).2.2))], (mg (tK_Ip_makeCores c k t) s9).2)) (is := [69]) (L2 := []) h1 rfl ⟨kd_69.mpr rfl, trivial⟩ (by decide) (by decide) (fun _ h => nomatch h) (fun _ h => nomatch h) (fun i hi hn => zup_out (fun q => hn ((by decide : ∀ j ∈ ([69] : List Nat), j ∈ ([69] : List Nat)) i q))) (fun h => h) rfl)) (tx_all rfl)⟩
abbrev M_Lw_hours : zM := (⟨"IronpourLaw", "hours", "(LIronpour;I[J)I"⟩, method_18_code, 4, (Option.some FieldType.int), 7, 121, [((0 : Nat), (9 : Nat), (12 : Nat), (13 : Nat))])
theorem d_Lw_hours_0 : decode method_18_code 0 = .ok (.aload_n 2, 1) := zo_44 (zd_b zq_method_18_code_0 0 rfl rfl rfl)
theorem d_Lw_hours_1 : decode method_18_code 1 = .ok (.iconst 0, 1) := zo_3 (zd_b zq_method_18_code_0 1 rfl rfl rfl)
theorem d_Lw_hours_2 : decode method_18_code 2 = .ok (.aload_n 0, 1) := zo_42 (zd_b zq_method_18_code_0 2 rfl rfl rfl)
theorem d_Lw_hours_3 : decode method_18_code 3 = .ok (.iload_n 1, 1) := zo_27 (zd_b zq_method_18_code_0 3 rfl rfl rfl)
theorem d_Lw_hours_4 : decode method_18_code 4 = .ok (.invokevirtual 71, 3) := zo_182 (d := 0) (e := 71) (zd_b zq_method_18_code_0 4 rfl rfl rfl) (zd_b zq_method_18_code_0 5 rfl rfl rfl) (zd_b zq_method_18_code_0 6 rfl rfl rfl)
theorem ok_Lw_hours_Ip_hours : z_okH M_Lw_hours M_Ip_hours 1 := ⟨z_mj5 (i := 4) rfl (by decide +kernel), rfl, ⟨by decide +kernel, by decide +kernel, by decide +kernel⟩, ⟨by decide, by decide⟩, z_mj1 (i := 1) rfl (by decide +kernel)⟩
theorem ln_Lw_71 : Cond.methodLink "IronpourLaw" 71 M_Ip_hours.1 ∈ z_gw := z_mj5 (i := 1) rfl (by decide +kernel)
theorem w_im_Ip_hours : Cond.instanceMethod M_Ip_hours.1 ∈ z_gw := z_mj5 (i := 2) rfl (by decide +kernel)
theorem w_se_Ip_hours : Cond.selects M_Ip_hours.1.cls M_Ip_hours.1 M_Ip_hours.1 ∈ z_gw := z_mj5 (i := 3) rfl (by decide +kernel)
theorem d_Lw_hours_12 : decode method_18_code 12 = .ok (.astore_n 3, 1) := zo_78 (zd_b zq_method_18_code_0 12 rfl rfl rfl)
theorem d_Lw_hours_13 : decode method_18_code 13 = .ok (.iconst 1, 1) := zo_4 (zd_b zq_method_18_code_0 13 rfl rfl rfl)
theorem d_Lw_hours_14 : decode method_18_code 14 = .ok (.ireturn, 1) := zo_172 (zd_b zq_method_18_code_0 14 rfl rfl rfl)
theorem d_Lw_hours_7 : decode method_18_code 7 = .ok (.i2l, 1) := zo_133 (zd_b zq_method_18_code_0 7 rfl rfl rfl)
theorem d_Lw_hours_8 : decode method_18_code 8 = .ok (.lastore, 1) := zo_80 (zd_b zq_method_18_code_0 8 rfl rfl rfl)
theorem d_Lw_hours_9 : decode method_18_code 9 = .ok (.goto 6, 3) := zo_167 (d := 0) (e := 6) (zd_b zq_method_18_code_0 9 rfl rfl rfl) (zd_b zq_method_18_code_0 10 rfl rfl rfl) (zd_b zq_method_18_code_0 11 rfl rfl rfl) (by decide +kernel)
theorem d_Lw_hours_15 : decode method_18_code 15 = .ok (.iconst 0, 1) := zo_3 (zd_b zq_method_18_code_0 15 rfl rfl rfl)
theorem d_Lw_hours_16 : decode method_18_code 16 = .ok (.ireturn, 1) := zo_172 (zd_b zq_method_18_code_0 16 rfl rfl rfl)
