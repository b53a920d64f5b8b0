theorem IVm.nil {g : zG} {ad : Nat → Nat} {t : zTT} {u : zNN} {w w1 : zW} (h1 : z_I w w1 0 []) (hI : IVm g ad t u w) : IVm g ad t u w1 := (z_I.same (z_I.nil w) h1).symm ▸ hI
theorem IVm.ra {g : zG} {ad : Nat → Nat} {t : zTT} {u : zNN} {w : zW} (hI : IVm g ad t u w) : ∃ fs : List Value, w (ad 0) = some (.inr (11, fs)) := by
  obtain ⟨s, hI⟩ := hI
  obtain ⟨e_a, wf_a, k_a⟩ := hI.1.2 0 (by decide)
  obtain rfl := kd_0.mp k_a
  exact ⟨_, wf_a⟩
theorem IVm.rm {g : zG} {ad : Nat → Nat} {t : zTT} {u : zNN} {w : zW} (hI : IVm g ad t u w) : ∃ fs : List Value, w (ad 52) = some (.inr (12, fs)) := by
  obtain ⟨s, hI⟩ := hI
  obtain ⟨e_m, wf_m, k_m⟩ := hI.1.2 52 (by decide)
  obtain ⟨v_m_th, rfl⟩ := kd_52.mp k_m
  exact ⟨_, wf_m⟩
abbrev M_Lw_draw : zM := (⟨"IronpourLaw", "draw", "(LIronpour;CIIII[J)I"⟩, method_3_code, 8, (Option.some FieldType.int), 9, 205, [((0 : Nat), (16 : Nat), (19 : Nat), (13 : Nat))])
theorem d_Lw_draw_0 : decode method_3_code 0 = .ok (.aload 6, 2) := zo_25 (d := 6) (zd_b zq_method_3_code_0 0 rfl rfl rfl) (zd_b zq_method_3_code_0 1 rfl rfl rfl)
theorem d_Lw_draw_2 : decode method_3_code 2 = .ok (.iconst 0, 1) := zo_3 (zd_b zq_method_3_code_0 2 rfl rfl rfl)
theorem d_Lw_draw_3 : decode method_3_code 3 = .ok (.aload_n 0, 1) := zo_42 (zd_b zq_method_3_code_0 3 rfl rfl rfl)
theorem d_Lw_draw_4 : decode method_3_code 4 = .ok (.iload_n 1, 1) := zo_27 (zd_b zq_method_3_code_0 4 rfl rfl rfl)
theorem d_Lw_draw_5 : decode method_3_code 5 = .ok (.iload_n 2, 1) := zo_28 (zd_b zq_method_3_code_0 5 rfl rfl rfl)
theorem d_Lw_draw_6 : decode method_3_code 6 = .ok (.iload_n 3, 1) := zo_29 (zd_b zq_method_3_code_0 6 rfl rfl rfl)
theorem d_Lw_draw_7 : decode method_3_code 7 = .ok (.iload 4, 2) := zo_21 (d := 4) (zd_b zq_method_3_code_0 7 rfl rfl rfl) (zd_b zq_method_3_code_0 8 rfl rfl rfl)
theorem d_Lw_draw_9 : decode method_3_code 9 = .ok (.iload 5, 2) := zo_21 (d := 5) (zd_b zq_method_3_code_0 9 rfl rfl rfl) (zd_b zq_method_3_code_0 10 rfl rfl rfl)
theorem d_Lw_draw_11 : decode method_3_code 11 = .ok (.invokevirtual 7, 3) := zo_182 (d := 0) (e := 7) (zd_b zq_method_3_code_0 11 rfl rfl rfl) (zd_b zq_method_3_code_0 12 rfl rfl rfl) (zd_b zq_method_3_code_0 13 rfl rfl rfl)
theorem ok_Lw_draw_Ip_draw : z_okH M_Lw_draw M_Ip_draw 5 := ⟨z_mj3 (i := 53) rfl (by decide +kernel), rfl, ⟨by decide +kernel, by decide +kernel, by decide +kernel⟩, ⟨by decide, by decide⟩, z_mj1 (i := 1) rfl (by decide +kernel)⟩
theorem ln_Lw_7 : Cond.methodLink "IronpourLaw" 7 M_Ip_draw.1 ∈ z_gw := z_mj3 (i := 50) rfl (by decide +kernel)
theorem w_im_Ip_draw : Cond.instanceMethod M_Ip_draw.1 ∈ z_gw := z_mj3 (i := 51) rfl (by decide +kernel)
theorem w_se_Ip_draw : Cond.selects M_Ip_draw.1.cls M_Ip_draw.1 M_Ip_draw.1 ∈ z_gw := z_mj3 (i := 52) rfl (by decide +kernel)
theorem ce_13 : Cond.castable "java/lang/IllegalArgumentException" "java/lang/IllegalArgumentException" ∈ z_nw := z_mk3 (i := 143) rfl (by decide +kernel)
theorem lx_Lw_13 : Cond.classLink "IronpourLaw" 13 "java/lang/IllegalArgumentException" ∈ z_gw := z_mj3 (i := 49) rfl (by decide +kernel)
theorem d_Lw_draw_19 : decode method_3_code 19 = .ok (.astore 7, 2) := zo_58 (d := 7) (zd_b zq_method_3_code_0 19 rfl rfl rfl) (zd_b zq_method_3_code_0 20 rfl rfl rfl)
theorem d_Lw_draw_21 : decode method_3_code 21 = .ok (.iconst 1, 1) := zo_4 (zd_b zq_method_3_code_0 21 rfl rfl rfl)
theorem d_Lw_draw_22 : decode method_3_code 22 = .ok (.ireturn, 1) := zo_172 (zd_b zq_method_3_code_0 22 rfl rfl rfl)
theorem d_Lw_draw_14 : decode method_3_code 14 = .ok (.i2l, 1) := zo_133 (zd_b zq_method_3_code_0 14 rfl rfl rfl)
theorem d_Lw_draw_15 : decode method_3_code 15 = .ok (.lastore, 1) := zo_80 (zd_b zq_method_3_code_0 15 rfl rfl rfl)
theorem d_Lw_draw_16 : decode method_3_code 16 = .ok (.goto 7, 3) := zo_167 (d := 0) (e := 7) (zd_b zq_method_3_code_0 16 rfl rfl rfl) (zd_b zq_method_3_code_0 17 rfl rfl rfl) (zd_b zq_method_3_code_0 18 rfl rfl rfl) (by decide +kernel)
theorem d_Lw_draw_23 : decode method_3_code 23 = .ok (.iconst 0, 1) := zo_3 (zd_b zq_method_3_code_0 23 rfl rfl rfl)
theorem d_Lw_draw_24 : decode method_3_code 24 = .ok (.ireturn, 1) := zo_172 (zd_b zq_method_3_code_0 24 rfl rfl rfl)
set_option maxHeartbeats 4000000 in
set_option maxRecDepth 100000 in
theorem W_draw {g : zG} {ad : Nat → Nat} {t : zTT} {u : zNN} {w : zW} (hI : IVm g ad t u w) (k x y p q : Int32) : zMB g M_Lw_draw [.ref (ad 0), .int k, .int x, .int y, .int p, .int q, .ref (ad 69)] w (fun o w1 => MKx g ad (tK_Ip_draw k x y p q t) u.1 o w1) 10 300 := by
  obtain ⟨s, hI⟩ := hI
  obtain ⟨e_a, wf_a, k_a⟩ := hI.1.2 0 (by decide)
  obtain rfl := kd_0.mp k_a
  obtain ⟨e_o1, wf_o1, k_o1⟩ := hI.1.2 69 (by decide)
  obtain rfl := kd_69.mp k_o1
  refine y_ofH (by decide) (by decide) (Nat.le_of_ble_eq_true rfl) (y_base (cs := [((ad 0), .inr (11, [.ref (ad 1), .ref (ad 5), .ref (ad 18), .ref (ad 31), .ref (ad 32), .ref (ad 36), .ref (ad 42), .ref (ad 45), .ref (ad 47), .ref (ad 49), .ref (ad 50), .ref (ad 51)])), ((ad 69), .inl (3, 1, .inr (.inl (((mg t s).1 69).2.1))))]) (hI.1.I [0, 69] _ rfl (by decide) (by decide) (List.forall_mem_cons.mpr ⟨wf_a, (List.forall_mem_cons.mpr ⟨wf_o1, (fun _ h => nomatch h)⟩)⟩)) ?_)
  refine y_lvE (lv2 := [(0, .ref (ad 0)), (1, .int k), (2, .int x), (3, .int y), (4, .int p), (5, .int q), (6, .ref (ad 69))]) rfl ?_
  refine y_aload d_Lw_draw_0 6 rfl ?_
  refine y_iconst d_Lw_draw_2 (v := 0) (by decide) ?_
  refine y_aload_n d_Lw_draw_3 rfl 0 rfl ?_
  refine y_iload_n d_Lw_draw_4 rfl 1 rfl ?_
  refine y_iload_n d_Lw_draw_5 rfl 2 rfl ?_
  refine y_iload_n d_Lw_draw_6 rfl 3 rfl ?_
  refine y_iload d_Lw_draw_7 4 rfl ?_
  refine y_iload d_Lw_draw_9 5 rfl ?_
  refine yw_callVH (As := [.int k, .int x, .int y, .int p, .int q]) (rest := [.int 0, .ref (ad 69)]) (q0 := 0) rfl rfl ln_Lw_7 w_im_Ip_draw w_se_Ip_draw ok_Lw_draw_Ip_draw d_Lw_draw_11 (fun wA hA => K_Ip_draw ⟨_, (hI.gen (t2 := (mg t s)) (is := [0, 69]) (L2 := []) hA rfl ⟨kd_0.mpr rfl, kd_69.mpr rfl, trivial⟩ (by decide) (by decide) (fun _ h => nomatch h) (fun _ h => nomatch h) (fun _ _ _ => rfl) (fun h => h) rfl)⟩ k x y p q) rfl rfl (Nat.le_of_ble_eq_true rfl) (by omega) (by omega) (fun wA11 hA11 E wB11 hx => ?_) (fun wA11 hA11 v wB11 hx => ?_)
  · obtain ⟨h1, u2, hu, hI2⟩ := hx
    obtain rfl := List.mem_singleton.mp (zriE h1)
    refine ⟨"java/lang/IllegalArgumentException", [], [], (0, 16, 19, 13), rfl, (fun z hz => nomatch hz), by decide, by decide, lx_Lw_13, ce_13, fun qx => ?_⟩
    refine y_base (cs := []) (z_I.nil wB11) ?_
    refine y_astore (lv' := [(7, .ref qx), (0, .ref (ad 0)), (1, .int k), (2, .int x), (3, .int y), (4, .int p), (5, .int q), (6, .ref (ad 69))]) d_Lw_draw_19 (by decide) rfl ?_
    refine y_iconst d_Lw_draw_21 (v := 1) (by decide) ?_
    refine y_iret d_Lw_draw_22 rfl rfl ?_
    exact fun w1 h1 => ⟨⟨_, rfl⟩, u2, hu, (z_I.same (z_I.nil _) h1).symm ▸ hI2⟩
  · obtain ⟨h1, u2, hu, hI2⟩ := hx
    obtain ⟨v9, rfl⟩ := zriV h1
    refine yw_st (st2 := [.int v9, .int 0, .ref (ad 69)]) rfl ?_
    obtain ⟨s9, hI⟩ := hI2
    obtain ⟨e_o1, wf_o1, k_o1⟩ := hI.1.2 69 (by decide)
    obtain rfl := kd_69.mp k_o1
    refine y_base (cs := [((ad 69), .inl (3, 1, .inr (.inl (((mg (tK_Ip_draw k x y p q t) s9).1 69).2.1))))]) (hI.1.I [69] _ rfl (by decide) (by decide) (List.forall_mem_cons.mpr ⟨wf_o1, (fun _ h => nomatch h)⟩)) ?_
    refine y_i2l d_Lw_draw_14 (v := v9.toInt64) rfl ?_
    refine y_last d_Lw_draw_15 (q0 := 0) rfl (fun q => q.elim (by decide) (by decide)) (f' := vp_updL (((mg (tK_Ip_draw k x y p q t) s9).1 69).2.1) 0 v9.toInt64) rfl (cs' := [((ad 69), .inl (3, 1, .inr (.inl (vp_updL (((mg (tK_Ip_draw k x y p q t) s9).1 69).2.1) 0 v9.toInt64))))]) rfl ?_
    refine y_goto (tgt := 23) d_Lw_draw_16 (by decide) ?_
    refine y_iconst d_Lw_draw_23 (v := 0) (by decide) ?_
    refine y_iret d_Lw_draw_24 rfl rfl ?_
    exact fun w1 h1 => ⟨⟨_, rfl⟩, u2, hu, IVm.tz ((hI.gen (t2 := (zup (mg (tK_Ip_draw k x y p q t) s9).1 [(69, (((mg (tK_Ip_draw k x y p q t) s9).1 69).1, vp_updL (((mg (tK_Ip_draw k x y p q t) s9).1 69).2.1) 0 v9.toInt64, ((mg (tK_Ip_draw k x y p q t) s9).1 69).2.2))], (mg (tK_Ip_draw k x y p q t) s9).2)) (is := [69]) (L2 := []) h1 rfl ⟨kd_69.mpr rfl, trivial⟩ (by decide) (by decide) (fun _ h => nomatch h) (fun _ h => nomatch h) (fun i hi hn => zup_out (fun q => hn ((by decide : ∀ j ∈ ([69] : List Nat), j ∈ ([69] : List Nat)) i q))) (fun h => h) rfl)) (tx_all rfl)⟩
abbrev M_Lw_cell : zM := (⟨"IronpourLaw", "cell", "(LIronpour;II[J)I"⟩, method_4_code, 5, (Option.some FieldType.int), 8, 143, [((0 : Nat), (10 : Nat), (13 : Nat), (19 : Nat))])
theorem d_Lw_cell_0 : decode method_4_code 0 = .ok (.aload_n 3, 1) := zo_45 (zd_b zq_method_4_code_0 0 rfl rfl rfl)
theorem d_Lw_cell_1 : decode method_4_code 1 = .ok (.iconst 0, 1) := zo_3 (zd_b zq_method_4_code_0 1 rfl rfl rfl)
theorem d_Lw_cell_2 : decode method_4_code 2 = .ok (.aload_n 0, 1) := zo_42 (zd_b zq_method_4_code_0 2 rfl rfl rfl)
theorem d_Lw_cell_3 : decode method_4_code 3 = .ok (.iload_n 1, 1) := zo_27 (zd_b zq_method_4_code_0 3 rfl rfl rfl)
theorem d_Lw_cell_4 : decode method_4_code 4 = .ok (.iload_n 2, 1) := zo_28 (zd_b zq_method_4_code_0 4 rfl rfl rfl)
theorem d_Lw_cell_5 : decode method_4_code 5 = .ok (.invokevirtual 15, 3) := zo_182 (d := 0) (e := 15) (zd_b zq_method_4_code_0 5 rfl rfl rfl) (zd_b zq_method_4_code_0 6 rfl rfl rfl) (zd_b zq_method_4_code_0 7 rfl rfl rfl)
theorem ok_Lw_cell_Ip_cell : z_okH M_Lw_cell M_Ip_cell 2 := ⟨z_mj4 (i := 19) rfl (by decide +kernel), rfl, ⟨by decide +kernel, by decide +kernel, by decide +kernel⟩, ⟨by decide, by decide⟩, z_mj1 (i := 1) rfl (by decide +kernel)⟩
theorem ln_Lw_15 : Cond.methodLink "IronpourLaw" 15 M_Ip_cell.1 ∈ z_gw := z_mj4 (i := 16) rfl (by decide +kernel)
theorem w_im_Ip_cell : Cond.instanceMethod M_Ip_cell.1 ∈ z_gw := z_mj4 (i := 17) rfl (by decide +kernel)
theorem w_se_Ip_cell : Cond.selects M_Ip_cell.1.cls M_Ip_cell.1 M_Ip_cell.1 ∈ z_gw := z_mj4 (i := 18) rfl (by decide +kernel)
theorem ce_19 : Cond.castable "java/lang/IndexOutOfBoundsException" "java/lang/IndexOutOfBoundsException" ∈ z_nw := z_mk4 (i := 25) rfl (by decide +kernel)
theorem lx_Lw_19 : Cond.classLink "IronpourLaw" 19 "java/lang/IndexOutOfBoundsException" ∈ z_gw := z_mj3 (i := 232) rfl (by decide +kernel)
theorem d_Lw_cell_13 : decode method_4_code 13 = .ok (.astore 4, 2) := zo_58 (d := 4) (zd_b zq_method_4_code_0 13 rfl rfl rfl) (zd_b zq_method_4_code_0 14 rfl rfl rfl)
theorem d_Lw_cell_15 : decode method_4_code 15 = .ok (.iconst 1, 1) := zo_4 (zd_b zq_method_4_code_0 15 rfl rfl rfl)
theorem d_Lw_cell_16 : decode method_4_code 16 = .ok (.ireturn, 1) := zo_172 (zd_b zq_method_4_code_0 16 rfl rfl rfl)
theorem d_Lw_cell_8 : decode method_4_code 8 = .ok (.i2l, 1) := zo_133 (zd_b zq_method_4_code_0 8 rfl rfl rfl)
theorem d_Lw_cell_9 : decode method_4_code 9 = .ok (.lastore, 1) := zo_80 (zd_b zq_method_4_code_0 9 rfl rfl rfl)
theorem d_Lw_cell_10 : decode method_4_code 10 = .ok (.goto 7, 3) := zo_167 (d := 0) (e := 7) (zd_b zq_method_4_code_0 10 rfl rfl rfl) (zd_b zq_method_4_code_0 11 rfl rfl rfl) (zd_b zq_method_4_code_0 12 rfl rfl rfl) (by decide +kernel)
theorem d_Lw_cell_17 : decode method_4_code 17 = .ok (.iconst 0, 1) := zo_3 (zd_b zq_method_4_code_0 17 rfl rfl rfl)
theorem d_Lw_cell_18 : decode method_4_code 18 = .ok (.ireturn, 1) := zo_172 (zd_b zq_method_4_code_0 18 rfl rfl rfl)
set_option maxHeartbeats 4000000 in
set_option maxRecDepth 100000 in
theorem W_cell {g : zG} {ad : Nat → Nat} {t : zTT} {u : zNN} {w : zW} (hI : IVm g ad t u w) (x y : Int32) : zMB g M_Lw_cell [.ref (ad 0), .int x, .int y, .ref (ad 69)] w (fun o w1 => MKx g ad t u.1 o w1) 10 300 := by
  obtain ⟨s, hI⟩ := hI
  obtain ⟨e_a, wf_a, k_a⟩ := hI.1.2 0 (by decide)
  obtain rfl := kd_0.mp k_a
  obtain ⟨e_o1, wf_o1, k_o1⟩ := hI.1.2 69 (by decide)
  obtain rfl := kd_69.mp k_o1
  refine y_ofH (by decide) (by decide) (Nat.le_of_ble_eq_true rfl) (y_base (cs := [((ad 0), .inr (11, [.ref (ad 1), .ref (ad 5), .ref (ad 18), .ref (ad 31), .ref (ad 32), .ref (ad 36), .ref (ad 42), .ref (ad 45), .ref (ad 47), .ref (ad 49), .ref (ad 50), .ref (ad 51)])), ((ad 69), .inl (3, 1, .inr (.inl (((mg t s).1 69).2.1))))]) (hI.1.I [0, 69] _ rfl (by decide) (by decide) (List.forall_mem_cons.mpr ⟨wf_a, (List.forall_mem_cons.mpr ⟨wf_o1, (fun _ h => nomatch h)⟩)⟩)) ?_)
  refine y_lvE (lv2 := [(0, .ref (ad 0)), (1, .int x), (2, .int y), (3, .ref (ad 69))]) rfl ?_
  refine y_aload_n d_Lw_cell_0 rfl 3 rfl ?_
  refine y_iconst d_Lw_cell_1 (v := 0) (by decide) ?_
  refine y_aload_n d_Lw_cell_2 rfl 0 rfl ?_
  refine y_iload_n d_Lw_cell_3 rfl 1 rfl ?_
  refine y_iload_n d_Lw_cell_4 rfl 2 rfl ?_
  refine yw_callVH (As := [.int x, .int y]) (rest := [.int 0, .ref (ad 69)]) (q0 := 0) rfl rfl ln_Lw_15 w_im_Ip_cell w_se_Ip_cell ok_Lw_cell_Ip_cell d_Lw_cell_5 (fun wA hA => K_Ip_cell ⟨_, (hI.gen (t2 := (mg t s)) (is := [0, 69]) (L2 := []) hA rfl ⟨kd_0.mpr rfl, kd_69.mpr rfl, trivial⟩ (by decide) (by decide) (fun _ h => nomatch h) (fun _ h => nomatch h) (fun _ _ _ => rfl) (fun h => h) rfl)⟩ x y) rfl rfl (Nat.le_of_ble_eq_true rfl) (by omega) (by omega) (fun wA5 hA5 E wB5 hx => ?_) (fun wA5 hA5 v wB5 hx => ?_)
  · obtain ⟨h1, u2, hu, hI2⟩ := hx
    obtain rfl := List.mem_singleton.mp (zriE h1)
    refine ⟨"java/lang/IndexOutOfBoundsException", [], [], (0, 10, 13, 19), rfl, (fun z hz => nomatch hz), by decide, by decide, lx_Lw_19, ce_19, fun qx => ?_⟩
    refine y_base (cs := []) (z_I.nil wB5) ?_
    refine y_astore (lv' := [(4, .ref qx), (0, .ref (ad 0)), (1, .int x), (2, .int y), (3, .ref (ad 69))]) d_Lw_cell_13 (by decide) rfl ?_
    refine y_iconst d_Lw_cell_15 (v := 1) (by decide) ?_
    refine y_iret d_Lw_cell_16 rfl rfl ?_
    exact fun w1 h1 => ⟨⟨_, rfl⟩, u2, hu, (z_I.same (z_I.nil _) h1).symm ▸ hI2⟩
  · obtain ⟨h1, u2, hu, hI2⟩ := hx
    obtain ⟨v9, rfl⟩ := zriV h1
    refine yw_st (st2 := [.int v9, .int 0, .ref (ad 69)]) rfl ?_
    obtain ⟨s9, hI⟩ := hI2
    obtain ⟨e_o1, wf_o1, k_o1⟩ := hI.1.2 69 (by decide)
    obtain rfl := kd_69.mp k_o1
    refine y_base (cs := [((ad 69), .inl (3, 1, .inr (.inl (((mg t s9).1 69).2.1))))]) (hI.1.I [69] _ rfl (by decide) (by decide) (List.forall_mem_cons.mpr ⟨wf_o1, (fun _ h => nomatch h)⟩)) ?_
    refine y_i2l d_Lw_cell_8 (v := v9.toInt64) rfl ?_
    refine y_last d_Lw_cell_9 (q0 := 0) rfl (fun q => q.elim (by decide) (by decide)) (f' := vp_updL (((mg t s9).1 69).2.1) 0 v9.toInt64) rfl (cs' := [((ad 69), .inl (3, 1, .inr (.inl (vp_updL (((mg t s9).1 69).2.1) 0 v9.toInt64))))]) rfl ?_
    refine y_goto (tgt := 17) d_Lw_cell_10 (by decide) ?_
    refine y_iconst d_Lw_cell_17 (v := 0) (by decide) ?_
    refine y_iret d_Lw_cell_18 rfl rfl ?_
    exact fun w1 h1 => ⟨⟨_, rfl⟩, u2, hu, IVm.tz ((hI.gen (t2 := (zup (mg t s9).1 [(69, (((mg t s9).1 69).1, vp_updL (((mg t s9).1 69).2.1) 0 v9.toInt64, ((mg t s9).1 69).2.2))], (mg t s9).2)) (is := [69]) (L2 := []) h1 rfl ⟨kd_69.mpr rfl, trivial⟩ (by decide) (by decide) (fun _ h => nomatch h) (fun _ h => nomatch h) (fun i hi hn => zup_out (fun q => hn ((by decide : ∀ j ∈ ([69] : List Nat), j ∈ ([69] : List Nat)) i q))) (fun h => h) rfl)) (tx_all rfl)⟩
abbrev M_Lw_part : zM := (⟨"IronpourLaw", "part", "(LIronpour;I[J)I"⟩, method_5_code, 4, (Option.some FieldType.int), 7, 122, [((0 : Nat), (9 : Nat), (12 : Nat), (13 : Nat))])
theorem d_Lw_part_0 : decode method_5_code 0 = .ok (.aload_n 2, 1) := zo_44 (zd_b zq_method_5_code_0 0 rfl rfl rfl)
theorem d_Lw_part_1 : decode method_5_code 1 = .ok (.iconst 0, 1) := zo_3 (zd_b zq_method_5_code_0 1 rfl rfl rfl)
theorem d_Lw_part_2 : decode method_5_code 2 = .ok (.aload_n 0, 1) := zo_42 (zd_b zq_method_5_code_0 2 rfl rfl rfl)
theorem d_Lw_part_3 : decode method_5_code 3 = .ok (.iload_n 1, 1) := zo_27 (zd_b zq_method_5_code_0 3 rfl rfl rfl)
theorem d_Lw_part_4 : decode method_5_code 4 = .ok (.invokevirtual 21, 3) := zo_182 (d := 0) (e := 21) (zd_b zq_method_5_code_0 4 rfl rfl rfl) (zd_b zq_method_5_code_0 5 rfl rfl rfl) (zd_b zq_method_5_code_0 6 rfl rfl rfl)
theorem ok_Lw_part_Ip_part : z_okH M_Lw_part M_Ip_part 1 := ⟨z_mj4 (i := 42) rfl (by decide +kernel), rfl, ⟨by decide +kernel, by decide +kernel, by decide +kernel⟩, ⟨by decide, by decide⟩, z_mj1 (i := 1) rfl (by decide +kernel)⟩
theorem ln_Lw_21 : Cond.methodLink "IronpourLaw" 21 M_Ip_part.1 ∈ z_gw := z_mj4 (i := 39) rfl (by decide +kernel)
theorem w_im_Ip_part : Cond.instanceMethod M_Ip_part.1 ∈ z_gw := z_mj4 (i := 40) rfl (by decide +kernel)
theorem w_se_Ip_part : Cond.selects M_Ip_part.1.cls M_Ip_part.1 M_Ip_part.1 ∈ z_gw := z_mj4 (i := 41) rfl (by decide +kernel)
theorem d_Lw_part_12 : decode method_5_code 12 = .ok (.astore_n 3, 1) := zo_78 (zd_b zq_method_5_code_0 12 rfl rfl rfl)
theorem d_Lw_part_13 : decode method_5_code 13 = .ok (.iconst 1, 1) := zo_4 (zd_b zq_method_5_code_0 13 rfl rfl rfl)
theorem d_Lw_part_14 : decode method_5_code 14 = .ok (.ireturn, 1) := zo_172 (zd_b zq_method_5_code_0 14 rfl rfl rfl)
theorem d_Lw_part_7 : decode method_5_code 7 = .ok (.i2l, 1) := zo_133 (zd_b zq_method_5_code_0 7 rfl rfl rfl)
theorem d_Lw_part_8 : decode method_5_code 8 = .ok (.lastore, 1) := zo_80 (zd_b zq_method_5_code_0 8 rfl rfl rfl)
theorem d_Lw_part_9 : decode method_5_code 9 = .ok (.goto 6, 3) := zo_167 (d := 0) (e := 6) (zd_b zq_method_5_code_0 9 rfl rfl rfl) (zd_b zq_method_5_code_0 10 rfl rfl rfl) (zd_b zq_method_5_code_0 11 rfl rfl rfl) (by decide +kernel)
theorem d_Lw_part_15 : decode method_5_code 15 = .ok (.iconst 0, 1) := zo_3 (zd_b zq_method_5_code_0 15 rfl rfl rfl)
theorem d_Lw_part_16 : decode method_5_code 16 = .ok (.ireturn, 1) := zo_172 (zd_b zq_method_5_code_0 16 rfl rfl rfl)
set_option maxHeartbeats 4000000 in
set_option maxRecDepth 100000 in
theorem W_part {g : zG} {ad : Nat → Nat} {t : zTT} {u : zNN} {w : zW} (hI : IVm g ad t u w) (r : Int32) : zMB g M_Lw_part [.ref (ad 0), .int r, .ref (ad 69)] w (fun o w1 => MKx g ad (tK_Ip_part r t) u.1 o w1) 10 300 := by
  obtain ⟨s, hI⟩ := hI
  obtain ⟨e_a, wf_a, k_a⟩ := hI.1.2 0 (by decide)
  obtain rfl := kd_0.mp k_a
  obtain ⟨e_o1, wf_o1, k_o1⟩ := hI.1.2 69 (by decide)
  obtain rfl := kd_69.mp k_o1
  refine y_ofH (by decide) (by decide) (Nat.le_of_ble_eq_true rfl) (y_base (cs := [((ad 0), .inr (11, [.ref (ad 1), .ref (ad 5), .ref (ad 18), .ref (ad 31), .ref (ad 32), .ref (ad 36), .ref (ad 42), .ref (ad 45), .ref (ad 47), .ref (ad 49), .ref (ad 50), .ref (ad 51)])), ((ad 69), .inl (3, 1, .inr (.inl (((mg t s).1 69).2.1))))]) (hI.1.I [0, 69] _ rfl (by decide) (by decide) (List.forall_mem_cons.mpr ⟨wf_a, (List.forall_mem_cons.mpr ⟨wf_o1, (fun _ h => nomatch h)⟩)⟩)) ?_)
  refine y_lvE (lv2 := [(0, .ref (ad 0)), (1, .int r), (2, .ref (ad 69))]) rfl ?_
  refine y_aload_n d_Lw_part_0 rfl 2 rfl ?_
  refine y_iconst d_Lw_part_1 (v := 0) (by decide) ?_
  refine y_aload_n d_Lw_part_2 rfl 0 rfl ?_
  refine y_iload_n d_Lw_part_3 rfl 1 rfl ?_
  refine yw_callVH (As := [.int r]) (rest := [.int 0, .ref (ad 69)]) (q0 := 0) rfl rfl ln_Lw_21 w_im_Ip_part w_se_Ip_part ok_Lw_part_Ip_part d_Lw_part_4 (fun wA hA => K_Ip_part ⟨_, (hI.gen (t2 := (mg t s)) (is := [0, 69]) (L2 := []) hA rfl ⟨kd_0.mpr rfl, kd_69.mpr rfl, trivial⟩ (by decide) (by decide) (fun _ h => nomatch h) (fun _ h => nomatch h) (fun _ _ _ => rfl) (fun h => h) rfl)⟩ r) rfl rfl (Nat.le_of_ble_eq_true rfl) (by omega) (by omega) (fun wA4 hA4 E wB4 hx => ?_) (fun wA4 hA4 v wB4 hx => ?_)
  · obtain ⟨h1, u2, hu, hI2⟩ := hx
    obtain rfl := List.mem_singleton.mp (zriE h1)
    refine ⟨"java/lang/IllegalArgumentException", [], [], (0, 9, 12, 13), rfl, (fun z hz => nomatch hz), by decide, by decide, lx_Lw_13, ce_13, fun qx => ?_⟩
    refine y_base (cs := []) (z_I.nil wB4) ?_
    refine y_astore_n (lv' := [(3, .ref qx), (0, .ref (ad 0)), (1, .int r), (2, .ref (ad 69))]) d_Lw_part_12 rfl (by decide) rfl ?_
    refine y_iconst d_Lw_part_13 (v := 1) (by decide) ?_
    refine y_iret d_Lw_part_14 rfl rfl ?_
    exact fun w1 h1 => ⟨⟨_, rfl⟩, u2, hu, (z_I.same (z_I.nil _) h1).symm ▸ hI2⟩
  · obtain ⟨h1, u2, hu, hI2⟩ := hx
    obtain ⟨v9, rfl⟩ := zriV h1
    refine yw_st (st2 := [.int v9, .int 0, .ref (ad 69)]) rfl ?_
    obtain ⟨s9, hI⟩ := hI2
    obtain ⟨e_o1, wf_o1, k_o1⟩ := hI.1.2 69 (by decide)
    obtain rfl := kd_69.mp k_o1
    refine y_base (cs := [((ad 69), .inl (3, 1, .inr (.inl (((mg (tK_Ip_part r t) s9).1 69).2.1))))]) (hI.1.I [69] _ rfl (by decide) (by decide) (List.forall_mem_cons.mpr ⟨wf_o1, (fun _ h => nomatch h)⟩)) ?_
    refine y_i2l d_Lw_part_7 (v := v9.toInt64) rfl ?_
    refine y_last d_Lw_part_8 (q0 := 0) rfl (fun q => q.elim (by decide) (by decide)) (f' := vp_updL (((mg (tK_Ip_part r t) s9).1 69).2.1) 0 v9.toInt64) rfl (cs' := [((ad 69), .inl (3, 1, .inr (.inl (vp_updL (((mg (tK_Ip_part r t) s9).1 69).2.1) 0 v9.toInt64))))]) rfl ?_
    refine y_goto (tgt := 15) d_Lw_part_9 (by decide) ?_
    refine y_iconst d_Lw_part_15 (v := 0) (by decide) ?_
    refine y_iret d_Lw_part_16 rfl rfl ?_
    exact fun w1 h1 => ⟨⟨_, rfl⟩, u2, hu, IVm.tz ((hI.gen (t2 := (zup (mg (tK_Ip_part r t) s9).1 [(69, (((mg (tK_Ip_part r t) s9).1 69).1, vp_updL (((mg (tK_Ip_part r t) s9).1 69).2.1) 0 v9.toInt64, ((mg (tK_Ip_part r t) s9).1 69).2.2))], (mg (tK_Ip_part r t) s9).2)) (is := [69]) (L2 := []) h1 rfl ⟨kd_69.mpr rfl, trivial⟩ (by decide) (by decide) (fun _ h => nomatch h) (fun _ h => nomatch h) (fun i hi hn => zup_out (fun q => hn ((by decide : ∀ j ∈ ([69] : List Nat), j ∈ ([69] : List Nat)) i q))) (fun h => h) rfl)) (tx_all rfl)⟩
abbrev M_Lw_filledIn : zM := (⟨"IronpourLaw", "filledIn", "(LIronpour;II[J)I"⟩, method_6_code, 5, (Option.some FieldType.int), 8, 144, [((0 : Nat), (10 : Nat), (13 : Nat), (19 : Nat))])
theorem d_Lw_filledIn_0 : decode method_6_code 0 = .ok (.aload_n 3, 1) := zo_45 (zd_b zq_method_6_code_0 0 rfl rfl rfl)
theorem d_Lw_filledIn_1 : decode method_6_code 1 = .ok (.iconst 0, 1) := zo_3 (zd_b zq_method_6_code_0 1 rfl rfl rfl)
theorem d_Lw_filledIn_2 : decode method_6_code 2 = .ok (.aload_n 0, 1) := zo_42 (zd_b zq_method_6_code_0 2 rfl rfl rfl)
theorem d_Lw_filledIn_3 : decode method_6_code 3 = .ok (.iload_n 1, 1) := zo_27 (zd_b zq_method_6_code_0 3 rfl rfl rfl)
theorem d_Lw_filledIn_4 : decode method_6_code 4 = .ok (.iload_n 2, 1) := zo_28 (zd_b zq_method_6_code_0 4 rfl rfl rfl)
theorem d_Lw_filledIn_5 : decode method_6_code 5 = .ok (.invokevirtual 25, 3) := zo_182 (d := 0) (e := 25) (zd_b zq_method_6_code_0 5 rfl rfl rfl) (zd_b zq_method_6_code_0 6 rfl rfl rfl) (zd_b zq_method_6_code_0 7 rfl rfl rfl)
theorem ok_Lw_filledIn_Ip_filledIn : z_okH M_Lw_filledIn M_Ip_filledIn 2 := ⟨z_mj4 (i := 50) rfl (by decide +kernel), rfl, ⟨by decide +kernel, by decide +kernel, by decide +kernel⟩, ⟨by decide, by decide⟩, z_mj1 (i := 1) rfl (by decide +kernel)⟩
theorem ln_Lw_25 : Cond.methodLink "IronpourLaw" 25 M_Ip_filledIn.1 ∈ z_gw := z_mj4 (i := 47) rfl (by decide +kernel)
theorem w_im_Ip_filledIn : Cond.instanceMethod M_Ip_filledIn.1 ∈ z_gw := z_mj4 (i := 48) rfl (by decide +kernel)
theorem w_se_Ip_filledIn : Cond.selects M_Ip_filledIn.1.cls M_Ip_filledIn.1 M_Ip_filledIn.1 ∈ z_gw := z_mj4 (i := 49) rfl (by decide +kernel)
theorem d_Lw_filledIn_13 : decode method_6_code 13 = .ok (.astore 4, 2) := zo_58 (d := 4) (zd_b zq_method_6_code_0 13 rfl rfl rfl) (zd_b zq_method_6_code_0 14 rfl rfl rfl)
theorem d_Lw_filledIn_15 : decode method_6_code 15 = .ok (.iconst 1, 1) := zo_4 (zd_b zq_method_6_code_0 15 rfl rfl rfl)
theorem d_Lw_filledIn_16 : decode method_6_code 16 = .ok (.ireturn, 1) := zo_172 (zd_b zq_method_6_code_0 16 rfl rfl rfl)
theorem d_Lw_filledIn_8 : decode method_6_code 8 = .ok (.i2l, 1) := zo_133 (zd_b zq_method_6_code_0 8 rfl rfl rfl)
theorem d_Lw_filledIn_9 : decode method_6_code 9 = .ok (.lastore, 1) := zo_80 (zd_b zq_method_6_code_0 9 rfl rfl rfl)
theorem d_Lw_filledIn_10 : decode method_6_code 10 = .ok (.goto 7, 3) := zo_167 (d := 0) (e := 7) (zd_b zq_method_6_code_0 10 rfl rfl rfl) (zd_b zq_method_6_code_0 11 rfl rfl rfl) (zd_b zq_method_6_code_0 12 rfl rfl rfl) (by decide +kernel)
theorem d_Lw_filledIn_17 : decode method_6_code 17 = .ok (.iconst 0, 1) := zo_3 (zd_b zq_method_6_code_0 17 rfl rfl rfl)
theorem d_Lw_filledIn_18 : decode method_6_code 18 = .ok (.ireturn, 1) := zo_172 (zd_b zq_method_6_code_0 18 rfl rfl rfl)
set_option maxHeartbeats 4000000 in
set_option maxRecDepth 100000 in
theorem W_filledIn {g : zG} {ad : Nat → Nat} {t : zTT} {u : zNN} {w : zW} (hI : IVm g ad t u w) (x y : Int32) : zMB g M_Lw_filledIn [.ref (ad 0), .int x, .int y, .ref (ad 69)] w (fun o w1 => MKx g ad t u.1 o w1) 10 300 := by
  obtain ⟨s, hI⟩ := hI
  obtain ⟨e_a, wf_a, k_a⟩ := hI.1.2 0 (by decide)
  obtain rfl := kd_0.mp k_a
  obtain ⟨e_o1, wf_o1, k_o1⟩ := hI.1.2 69 (by decide)
  obtain rfl := kd_69.mp k_o1
  refine y_ofH (by decide) (by decide) (Nat.le_of_ble_eq_true rfl) (y_base (cs := [((ad 0), .inr (11, [.ref (ad 1), .ref (ad 5), .ref (ad 18), .ref (ad 31), .ref (ad 32), .ref (ad 36), .ref (ad 42), .ref (ad 45), .ref (ad 47), .ref (ad 49), .ref (ad 50), .ref (ad 51)])), ((ad 69), .inl (3, 1, .inr (.inl (((mg t s).1 69).2.1))))]) (hI.1.I [0, 69] _ rfl (by decide) (by decide) (List.forall_mem_cons.mpr ⟨wf_a, (List.forall_mem_cons.mpr ⟨wf_o1, (fun _ h => nomatch h)⟩)⟩)) ?_)
  refine y_lvE (lv2 := [(0, .ref (ad 0)), (1, .int x), (2, .int y), (3, .ref (ad 69))]) rfl ?_
  refine y_aload_n d_Lw_filledIn_0 rfl 3 rfl ?_
  refine y_iconst d_Lw_filledIn_1 (v := 0) (by decide) ?_
  refine y_aload_n d_Lw_filledIn_2 rfl 0 rfl ?_
  refine y_iload_n d_Lw_filledIn_3 rfl 1 rfl ?_
  refine y_iload_n d_Lw_filledIn_4 rfl 2 rfl ?_
  refine yw_callVH (As := [.int x, .int y]) (rest := [.int 0, .ref (ad 69)]) (q0 := 0) rfl rfl ln_Lw_25 w_im_Ip_filledIn w_se_Ip_filledIn ok_Lw_filledIn_Ip_filledIn d_Lw_filledIn_5 (fun wA hA => K_Ip_filledIn ⟨_, (hI.gen (t2 := (mg t s)) (is := [0, 69]) (L2 := []) hA rfl ⟨kd_0.mpr rfl, kd_69.mpr rfl, trivial⟩ (by decide) (by decide) (fun _ h => nomatch h) (fun _ h => nomatch h) (fun _ _ _ => rfl) (fun h => h) rfl)⟩ x y) rfl rfl (Nat.le_of_ble_eq_true rfl) (by omega) (by omega) (fun wA5 hA5 E wB5 hx => ?_) (fun wA5 hA5 v wB5 hx => ?_)
  · obtain ⟨h1, u2, hu, hI2⟩ := hx
    obtain rfl := List.mem_singleton.mp (zriE h1)
    refine ⟨"java/lang/IndexOutOfBoundsException", [], [], (0, 10, 13, 19), rfl, (fun z hz => nomatch hz), by decide, by decide, lx_Lw_19, ce_19, fun qx => ?_⟩
    refine y_base (cs := []) (z_I.nil wB5) ?_
    refine y_astore (lv' := [(4, .ref qx), (0, .ref (ad 0)), (1, .int x), (2, .int y), (3, .ref (ad 69))]) d_Lw_filledIn_13 (by decide) rfl ?_
    refine y_iconst d_Lw_filledIn_15 (v := 1) (by decide) ?_
    refine y_iret d_Lw_filledIn_16 rfl rfl ?_
    exact fun w1 h1 => ⟨⟨_, rfl⟩, u2, hu, (z_I.same (z_I.nil _) h1).symm ▸ hI2⟩
  · obtain ⟨h1, u2, hu, hI2⟩ := hx
    obtain ⟨v9, rfl⟩ := zriV h1
    refine yw_st (st2 := [.int v9, .int 0, .ref (ad 69)]) rfl ?_
    obtain ⟨s9, hI⟩ := hI2
    obtain ⟨e_o1, wf_o1, k_o1⟩ := hI.1.2 69 (by decide)
    obtain rfl := kd_69.mp k_o1
    refine y_base (cs := [((ad 69), .inl (3, 1, .inr (.inl (((mg t s9).1 69).2.1))))]) (hI.1.I [69] _ rfl (by decide) (by decide) (List.forall_mem_cons.mpr ⟨wf_o1, (fun _ h => nomatch h)⟩)) ?_
    refine y_i2l d_Lw_filledIn_8 (v := v9.toInt64) rfl ?_
    refine y_last d_Lw_filledIn_9 (q0 := 0) rfl (fun q => q.elim (by decide) (by decide)) (f' := vp_updL (((mg t s9).1 69).2.1) 0 v9.toInt64) rfl (cs' := [((ad 69), .inl (3, 1, .inr (.inl (vp_updL (((mg t s9).1 69).2.1) 0 v9.toInt64))))]) rfl ?_
    refine y_goto (tgt := 17) d_Lw_filledIn_10 (by decide) ?_
    refine y_iconst d_Lw_filledIn_17 (v := 0) (by decide) ?_
    refine y_iret d_Lw_filledIn_18 rfl rfl ?_
    exact fun w1 h1 => ⟨⟨_, rfl⟩, u2, hu, IVm.tz ((hI.gen (t2 := (zup (mg t s9).1 [(69, (((mg t s9).1 69).1, vp_updL (((mg t s9).1 69).2.1) 0 v9.toInt64, ((mg t s9).1 69).2.2))], (mg t s9).2)) (is := [69]) (L2 := []) h1 rfl ⟨kd_69.mpr rfl, trivial⟩ (by decide) (by decide) (fun _ h => nomatch h) (fun _ h => nomatch h) (fun i hi hn => zup_out (fun q => hn ((by decide : ∀ j ∈ ([69] : List Nat), j ∈ ([69] : List Nat)) i q))) (fun h => h) rfl)) (tx_all rfl)⟩
abbrev M_Lw_speed : zM := (⟨"IronpourLaw", "speed", "(LIronpour;[J)I"⟩, method_7_code, 3, (Option.some FieldType.int), 7, 120, [((0 : Nat), (8 : Nat), (11 : Nat), (33 : Nat))])
theorem d_Lw_speed_0 : decode method_7_code 0 = .ok (.aload_n 1, 1) := zo_43 (zd_b zq_method_7_code_0 0 rfl rfl rfl)
theorem d_Lw_speed_1 : decode method_7_code 1 = .ok (.iconst 0, 1) := zo_3 (zd_b zq_method_7_code_0 1 rfl rfl rfl)
theorem d_Lw_speed_2 : decode method_7_code 2 = .ok (.aload_n 0, 1) := zo_42 (zd_b zq_method_7_code_0 2 rfl rfl rfl)
theorem d_Lw_speed_3 : decode method_7_code 3 = .ok (.invokevirtual 29, 3) := zo_182 (d := 0) (e := 29) (zd_b zq_method_7_code_0 3 rfl rfl rfl) (zd_b zq_method_7_code_0 4 rfl rfl rfl) (zd_b zq_method_7_code_0 5 rfl rfl rfl)
theorem ok_Lw_speed_Ip_speed : z_okH M_Lw_speed M_Ip_speed 0 := ⟨z_mj4 (i := 59) rfl (by decide +kernel), rfl, ⟨by decide +kernel, by decide +kernel, by decide +kernel⟩, ⟨by decide, by decide⟩, z_mj1 (i := 1) rfl (by decide +kernel)⟩
theorem ln_Lw_29 : Cond.methodLink "IronpourLaw" 29 M_Ip_speed.1 ∈ z_gw := z_mj4 (i := 56) rfl (by decide +kernel)
theorem w_im_Ip_speed : Cond.instanceMethod M_Ip_speed.1 ∈ z_gw := z_mj4 (i := 57) rfl (by decide +kernel)
theorem w_se_Ip_speed : Cond.selects M_Ip_speed.1.cls M_Ip_speed.1 M_Ip_speed.1 ∈ z_gw := z_mj4 (i := 58) rfl (by decide +kernel)
theorem ce_33 : Cond.castable "java/util/NoSuchElementException" "java/util/NoSuchElementException" ∈ z_nw := z_mk4 (i := 66) rfl (by decide +kernel)
theorem lx_Lw_33 : Cond.classLink "IronpourLaw" 33 "java/util/NoSuchElementException" ∈ z_gw := z_mj4 (i := 55) rfl (by decide +kernel)
theorem d_Lw_speed_11 : decode method_7_code 11 = .ok (.astore_n 2, 1) := zo_77 (zd_b zq_method_7_code_0 11 rfl rfl rfl)
theorem d_Lw_speed_12 : decode method_7_code 12 = .ok (.iconst 1, 1) := zo_4 (zd_b zq_method_7_code_0 12 rfl rfl rfl)
theorem d_Lw_speed_13 : decode method_7_code 13 = .ok (.ireturn, 1) := zo_172 (zd_b zq_method_7_code_0 13 rfl rfl rfl)
theorem d_Lw_speed_6 : decode method_7_code 6 = .ok (.i2l, 1) := zo_133 (zd_b zq_method_7_code_0 6 rfl rfl rfl)
theorem d_Lw_speed_7 : decode method_7_code 7 = .ok (.lastore, 1) := zo_80 (zd_b zq_method_7_code_0 7 rfl rfl rfl)
theorem d_Lw_speed_8 : decode method_7_code 8 = .ok (.goto 6, 3) := zo_167 (d := 0) (e := 6) (zd_b zq_method_7_code_0 8 rfl rfl rfl) (zd_b zq_method_7_code_0 9 rfl rfl rfl) (zd_b zq_method_7_code_0 10 rfl rfl rfl) (by decide +kernel)
theorem d_Lw_speed_14 : decode method_7_code 14 = .ok (.iconst 0, 1) := zo_3 (zd_b zq_method_7_code_0 14 rfl rfl rfl)
theorem d_Lw_speed_15 : decode method_7_code 15 = .ok (.ireturn, 1) := zo_172 (zd_b zq_method_7_code_0 15 rfl rfl rfl)
set_option maxHeartbeats 4000000 in
set_option maxRecDepth 100000 in
theorem W_speed {g : zG} {ad : Nat → Nat} {t : zTT} {u : zNN} {w : zW} (hI : IVm g ad t u w) : zMB g M_Lw_speed [.ref (ad 0), .ref (ad 69)] w (fun o w1 => MKx g ad t u.1 o w1) 10 300 := by
  obtain ⟨s, hI⟩ := hI
  obtain ⟨e_a, wf_a, k_a⟩ := hI.1.2 0 (by decide)
  obtain rfl := kd_0.mp k_a
  obtain ⟨e_o1, wf_o1, k_o1⟩ := hI.1.2 69 (by decide)
  obtain rfl := kd_69.mp k_o1
  refine y_ofH (by decide) (by decide) (Nat.le_of_ble_eq_true rfl) (y_base (cs := [((ad 0), .inr (11, [.ref (ad 1), .ref (ad 5), .ref (ad 18), .ref (ad 31), .ref (ad 32), .ref (ad 36), .ref (ad 42), .ref (ad 45), .ref (ad 47), .ref (ad 49), .ref (ad 50), .ref (ad 51)])), ((ad 69), .inl (3, 1, .inr (.inl (((mg t s).1 69).2.1))))]) (hI.1.I [0, 69] _ rfl (by decide) (by decide) (List.forall_mem_cons.mpr ⟨wf_a, (List.forall_mem_cons.mpr ⟨wf_o1, (fun _ h => nomatch h)⟩)⟩)) ?_)
  refine y_lvE (lv2 := [(0, .ref (ad 0)), (1, .ref (ad 69))]) rfl ?_
  refine y_aload_n d_Lw_speed_0 rfl 1 rfl ?_
  refine y_iconst d_Lw_speed_1 (v := 0) (by decide) ?_
  refine y_aload_n d_Lw_speed_2 rfl 0 rfl ?_
  refine yw_callVH (As := []) (rest := [.int 0, .ref (ad 69)]) (q0 := 0) rfl rfl ln_Lw_29 w_im_Ip_speed w_se_Ip_speed ok_Lw_speed_Ip_speed d_Lw_speed_3 (fun wA hA => K_Ip_speed ⟨_, (hI.gen (t2 := (mg t s)) (is := [0, 69]) (L2 := []) hA rfl ⟨kd_0.mpr rfl, kd_69.mpr rfl, trivial⟩ (by decide) (by decide) (fun _ h => nomatch h) (fun _ h => nomatch h) (fun _ _ _ => rfl) (fun h => h) rfl)⟩) rfl rfl (Nat.le_of_ble_eq_true rfl) (by omega) (by omega) (fun wA3 hA3 E wB3 hx => ?_) (fun wA3 hA3 v wB3 hx => ?_)
  · obtain ⟨h1, u2, hu, hI2⟩ := hx
    obtain rfl := List.mem_singleton.mp (zriE h1)
    refine ⟨"java/util/NoSuchElementException", [], [], (0, 8, 11, 33), rfl, (fun z hz => nomatch hz), by decide, by decide, lx_Lw_33, ce_33, fun qx => ?_⟩
    refine y_base (cs := []) (z_I.nil wB3) ?_
    refine y_astore_n (lv' := [(2, .ref qx), (0, .ref (ad 0)), (1, .ref (ad 69))]) d_Lw_speed_11 rfl (by decide) rfl ?_
    refine y_iconst d_Lw_speed_12 (v := 1) (by decide) ?_
    refine y_iret d_Lw_speed_13 rfl rfl ?_
    exact fun w1 h1 => ⟨⟨_, rfl⟩, u2, hu, (z_I.same (z_I.nil _) h1).symm ▸ hI2⟩
  · obtain ⟨h1, u2, hu, hI2⟩ := hx
    obtain ⟨v9, rfl⟩ := zriV h1
    refine yw_st (st2 := [.int v9, .int 0, .ref (ad 69)]) rfl ?_
    obtain ⟨s9, hI⟩ := hI2
    obtain ⟨e_o1, wf_o1, k_o1⟩ := hI.1.2 69 (by decide)
    obtain rfl := kd_69.mp k_o1
    refine y_base (cs := [((ad 69), .inl (3, 1, .inr (.inl (((mg t s9).1 69).2.1))))]) (hI.1.I [69] _ rfl (by decide) (by decide) (List.forall_mem_cons.mpr ⟨wf_o1, (fun _ h => nomatch h)⟩)) ?_
    refine y_i2l d_Lw_speed_6 (v := v9.toInt64) rfl ?_
    refine y_last d_Lw_speed_7 (q0 := 0) rfl (fun q => q.elim (by decide) (by decide)) (f' := vp_updL (((mg t s9).1 69).2.1) 0 v9.toInt64) rfl (cs' := [((ad 69), .inl (3, 1, .inr (.inl (vp_updL (((mg t s9).1 69).2.1) 0 v9.toInt64))))]) rfl ?_
    refine y_goto (tgt := 14) d_Lw_speed_8 (by decide) ?_
    refine y_iconst d_Lw_speed_14 (v := 0) (by decide) ?_
    refine y_iret d_Lw_speed_15 rfl rfl ?_
    exact fun w1 h1 => ⟨⟨_, rfl⟩, u2, hu, IVm.tz ((hI.gen (t2 := (zup (mg t s9).1 [(69, (((mg t s9).1 69).1, vp_updL (((mg t s9).1 69).2.1) 0 v9.toInt64, ((mg t s9).1 69).2.2))], (mg t s9).2)) (is := [69]) (L2 := []) h1 rfl ⟨kd_69.mpr rfl, trivial⟩ (by decide) (by decide) (fun _ h => nomatch h) (fun _ h => nomatch h) (fun i hi hn => zup_out (fun q => hn ((by decide : ∀ j ∈ ([69] : List Nat), j ∈ ([69] : List Nat)) i q))) (fun h => h) rfl)) (tx_all rfl)⟩
abbrev M_Lw_frozenIn : zM := (⟨"IronpourLaw", "frozenIn", "(LIronpour;III[J)I"⟩, method_8_code, 6, (Option.some FieldType.int), 8, 160, [((0 : Nat), (12 : Nat), (15 : Nat), (19 : Nat)), ((0 : Nat), (12 : Nat), (19 : Nat), (13 : Nat))])
theorem d_Lw_frozenIn_0 : decode method_8_code 0 = .ok (.aload 4, 2) := zo_25 (d := 4) (zd_b zq_method_8_code_0 0 rfl rfl rfl) (zd_b zq_method_8_code_0 1 rfl rfl rfl)
theorem d_Lw_frozenIn_2 : decode method_8_code 2 = .ok (.iconst 0, 1) := zo_3 (zd_b zq_method_8_code_0 2 rfl rfl rfl)
theorem d_Lw_frozenIn_3 : decode method_8_code 3 = .ok (.aload_n 0, 1) := zo_42 (zd_b zq_method_8_code_0 3 rfl rfl rfl)
theorem d_Lw_frozenIn_4 : decode method_8_code 4 = .ok (.iload_n 1, 1) := zo_27 (zd_b zq_method_8_code_0 4 rfl rfl rfl)
theorem d_Lw_frozenIn_5 : decode method_8_code 5 = .ok (.iload_n 2, 1) := zo_28 (zd_b zq_method_8_code_0 5 rfl rfl rfl)
theorem d_Lw_frozenIn_6 : decode method_8_code 6 = .ok (.iload_n 3, 1) := zo_29 (zd_b zq_method_8_code_0 6 rfl rfl rfl)
theorem d_Lw_frozenIn_7 : decode method_8_code 7 = .ok (.invokevirtual 35, 3) := zo_182 (d := 0) (e := 35) (zd_b zq_method_8_code_0 7 rfl rfl rfl) (zd_b zq_method_8_code_0 8 rfl rfl rfl) (zd_b zq_method_8_code_0 9 rfl rfl rfl)
theorem ok_Lw_frozenIn_Ip_frozenIn : z_okH M_Lw_frozenIn M_Ip_frozenIn 3 := ⟨z_mj4 (i := 91) rfl (by decide +kernel), rfl, ⟨by decide +kernel, by decide +kernel, by decide +kernel⟩, ⟨by decide, by decide⟩, z_mj1 (i := 1) rfl (by decide +kernel)⟩
theorem ln_Lw_35 : Cond.methodLink "IronpourLaw" 35 M_Ip_frozenIn.1 ∈ z_gw := z_mj4 (i := 88) rfl (by decide +kernel)
theorem w_im_Ip_frozenIn : Cond.instanceMethod M_Ip_frozenIn.1 ∈ z_gw := z_mj4 (i := 89) rfl (by decide +kernel)
theorem w_se_Ip_frozenIn : Cond.selects M_Ip_frozenIn.1.cls M_Ip_frozenIn.1 M_Ip_frozenIn.1 ∈ z_gw := z_mj4 (i := 90) rfl (by decide +kernel)
theorem d_Lw_frozenIn_15 : decode method_8_code 15 = .ok (.astore 5, 2) := zo_58 (d := 5) (zd_b zq_method_8_code_0 15 rfl rfl rfl) (zd_b zq_method_8_code_0 16 rfl rfl rfl)
theorem d_Lw_frozenIn_17 : decode method_8_code 17 = .ok (.iconst 1, 1) := zo_4 (zd_b zq_method_8_code_0 17 rfl rfl rfl)
theorem d_Lw_frozenIn_18 : decode method_8_code 18 = .ok (.ireturn, 1) := zo_172 (zd_b zq_method_8_code_0 18 rfl rfl rfl)
theorem d_Lw_frozenIn_19 : decode method_8_code 19 = .ok (.astore 5, 2) := zo_58 (d := 5) (zd_b zq_method_8_code_0 19 rfl rfl rfl) (zd_b zq_method_8_code_0 20 rfl rfl rfl)
theorem d_Lw_frozenIn_21 : decode method_8_code 21 = .ok (.iconst 2, 1) := zo_5 (zd_b zq_method_8_code_0 21 rfl rfl rfl)
theorem d_Lw_frozenIn_22 : decode method_8_code 22 = .ok (.ireturn, 1) := zo_172 (zd_b zq_method_8_code_0 22 rfl rfl rfl)
theorem d_Lw_frozenIn_10 : decode method_8_code 10 = .ok (.i2l, 1) := zo_133 (zd_b zq_method_8_code_0 10 rfl rfl rfl)
theorem d_Lw_frozenIn_11 : decode method_8_code 11 = .ok (.lastore, 1) := zo_80 (zd_b zq_method_8_code_0 11 rfl rfl rfl)
theorem d_Lw_frozenIn_12 : decode method_8_code 12 = .ok (.goto 11, 3) := zo_167 (d := 0) (e := 11) (zd_b zq_method_8_code_0 12 rfl rfl rfl) (zd_b zq_method_8_code_0 13 rfl rfl rfl) (zd_b zq_method_8_code_0 14 rfl rfl rfl) (by decide +kernel)
theorem d_Lw_frozenIn_23 : decode method_8_code 23 = .ok (.iconst 0, 1) := zo_3 (zd_b zq_method_8_code_0 23 rfl rfl rfl)
theorem d_Lw_frozenIn_24 : decode method_8_code 24 = .ok (.ireturn, 1) := zo_172 (zd_b zq_method_8_code_0 24 rfl rfl rfl)
set_option maxHeartbeats 4000000 in
set_option maxRecDepth 100000 in
theorem W_frozenIn {g : zG} {ad : Nat → Nat} {t : zTT} {u : zNN} {w : zW} (hI : IVm g ad t u w) (x y h : Int32) : zMB g M_Lw_frozenIn [.ref (ad 0), .int x, .int y, .int h, .ref (ad 69)] w (fun o w1 => MKx g ad t u.1 o w1) 10 300 := by
  obtain ⟨s, hI⟩ := hI
  obtain ⟨e_a, wf_a, k_a⟩ := hI.1.2 0 (by decide)
  obtain rfl := kd_0.mp k_a
  obtain ⟨e_o1, wf_o1, k_o1⟩ := hI.1.2 69 (by decide)
  obtain rfl := kd_69.mp k_o1
  refine y_ofH (by decide) (by decide) (Nat.le_of_ble_eq_true rfl) (y_base (cs := [((ad 0), .inr (11, [.ref (ad 1), .ref (ad 5), .ref (ad 18), .ref (ad 31), .ref (ad 32), .ref (ad 36), .ref (ad 42), .ref (ad 45), .ref (ad 47), .ref (ad 49), .ref (ad 50), .ref (ad 51)])), ((ad 69), .inl (3, 1, .inr (.inl (((mg t s).1 69).2.1))))]) (hI.1.I [0, 69] _ rfl (by decide) (by decide) (List.forall_mem_cons.mpr ⟨wf_a, (List.forall_mem_cons.mpr ⟨wf_o1, (fun _ h => nomatch h)⟩)⟩)) ?_)
  refine y_lvE (lv2 := [(0, .ref (ad 0)), (1, .int x), (2, .int y), (3, .int h), (4, .ref (ad 69))]) rfl ?_
  refine y_aload d_Lw_frozenIn_0 4 rfl ?_
  refine y_iconst d_Lw_frozenIn_2 (v := 0) (by decide) ?_
  refine y_aload_n d_Lw_frozenIn_3 rfl 0 rfl ?_
  refine y_iload_n d_Lw_frozenIn_4 rfl 1 rfl ?_
  refine y_iload_n d_Lw_frozenIn_5 rfl 2 rfl ?_
  refine y_iload_n d_Lw_frozenIn_6 rfl 3 rfl ?_
  refine yw_callVH (As := [.int x, .int y, .int h]) (rest := [.int 0, .ref (ad 69)]) (q0 := 0) rfl rfl ln_Lw_35 w_im_Ip_frozenIn w_se_Ip_frozenIn ok_Lw_frozenIn_Ip_frozenIn d_Lw_frozenIn_7 (fun wA hA => K_Ip_frozenIn ⟨_, (hI.gen (t2 := (mg t s)) (is := [0, 69]) (L2 := []) hA rfl ⟨kd_0.mpr rfl, kd_69.mpr rfl, trivial⟩ (by decide) (by decide) (fun _ h => nomatch h) (fun _ h => nomatch h) (fun _ _ _ => rfl) (fun h => h) rfl)⟩ x y h) rfl rfl (Nat.le_of_ble_eq_true rfl) (by omega) (by omega) (fun wA7 hA7 E wB7 hx => ?_) (fun wA7 hA7 v wB7 hx => ?_)
  · obtain ⟨h1, u2, hu, hI2⟩ := hx
    rcases List.mem_cons.mp (zriE h1) with rfl | g2
    · refine ⟨"java/lang/IndexOutOfBoundsException", [], [(0, 12, 19, 13)], (0, 12, 15, 19), rfl, (fun z hz => nomatch hz), by decide, by decide, lx_Lw_19, ce_19, fun qx => ?_⟩
      refine y_base (cs := []) (z_I.nil wB7) ?_
      refine y_astore (lv' := [(5, .ref qx), (0, .ref (ad 0)), (1, .int x), (2, .int y), (3, .int h), (4, .ref (ad 69))]) d_Lw_frozenIn_15 (by decide) rfl ?_
      refine y_iconst d_Lw_frozenIn_17 (v := 1) (by decide) ?_
      refine y_iret d_Lw_frozenIn_18 rfl rfl ?_
      exact fun w1 h1 => ⟨⟨_, rfl⟩, u2, hu, (z_I.same (z_I.nil _) h1).symm ▸ hI2⟩
    · obtain rfl := List.mem_singleton.mp g2
      refine ⟨"java/lang/IllegalArgumentException", [(0, 12, 15, 19)], [], (0, 12, 19, 13), rfl, (fun z hz => by simp only [List.mem_cons, List.not_mem_nil, or_false] at hz; rcases hz with rfl; exact Or.inr ⟨by decide, _, lx_Lw_19, by decide⟩), by decide, by decide, lx_Lw_13, ce_13, fun qx => ?_⟩
      refine y_base (cs := []) (z_I.nil wB7) ?_
      refine y_astore (lv' := [(5, .ref qx), (0, .ref (ad 0)), (1, .int x), (2, .int y), (3, .int h), (4, .ref (ad 69))]) d_Lw_frozenIn_19 (by decide) rfl ?_
      refine y_iconst d_Lw_frozenIn_21 (v := 2) (by decide) ?_
      refine y_iret d_Lw_frozenIn_22 rfl rfl ?_
      exact fun w1 h1 => ⟨⟨_, rfl⟩, u2, hu, (z_I.same (z_I.nil _) h1).symm ▸ hI2⟩
  · obtain ⟨h1, u2, hu, hI2⟩ := hx
    obtain ⟨v9, rfl⟩ := zriV h1
    refine yw_st (st2 := [.int v9, .int 0, .ref (ad 69)]) rfl ?_
    obtain ⟨s9, hI⟩ := hI2
    obtain ⟨e_o1, wf_o1, k_o1⟩ := hI.1.2 69 (by decide)
    obtain rfl := kd_69.mp k_o1
    refine y_base (cs := [((ad 69), .inl (3, 1, .inr (.inl (((mg t s9).1 69).2.1))))]) (hI.1.I [69] _ rfl (by decide) (by decide) (List.forall_mem_cons.mpr ⟨wf_o1, (fun _ h => nomatch h)⟩)) ?_
    refine y_i2l d_Lw_frozenIn_10 (v := v9.toInt64) rfl ?_
    refine y_last d_Lw_frozenIn_11 (q0 := 0) rfl (fun q => q.elim (by decide) (by decide)) (f' := vp_updL (((mg t s9).1 69).2.1) 0 v9.toInt64) rfl (cs' := [((ad 69), .inl (3, 1, .inr (.inl (vp_updL (((mg t s9).1 69).2.1) 0 v9.toInt64))))]) rfl ?_
    refine y_goto (tgt := 23) d_Lw_frozenIn_12 (by decide) ?_
    refine y_iconst d_Lw_frozenIn_23 (v := 0) (by decide) ?_
    refine y_iret d_Lw_frozenIn_24 rfl rfl ?_
    exact fun w1 h1 => ⟨⟨_, rfl⟩, u2, hu, IVm.tz ((hI.gen (t2 := (zup (mg t s9).1 [(69, (((mg t s9).1 69).1, vp_updL (((mg t s9).1 69).2.1) 0 v9.toInt64, ((mg t s9).1 69).2.2))], (mg t s9).2)) (is := [69]) (L2 := []) h1 rfl ⟨kd_69.mpr rfl, trivial⟩ (by decide) (by decide) (fun _ h => nomatch h) (fun _ h => nomatch h) (fun i hi hn => zup_out (fun q => hn ((by decide : ∀ j ∈ ([69] : List Nat), j ∈ ([69] : List Nat)) i q))) (fun h => h) rfl)) (tx_all rfl)⟩
abbrev M_Lw_isFed : zM := (⟨"IronpourLaw", "isFed", "(LIronpour;III[J)I"⟩, method_10_code, 6, (Option.some FieldType.int), 8, 160, [((0 : Nat), (19 : Nat), (22 : Nat), (19 : Nat)), ((0 : Nat), (19 : Nat), (26 : Nat), (13 : Nat))])
theorem d_Lw_isFed_0 : decode method_10_code 0 = .ok (.aload 4, 2) := zo_25 (d := 4) (zd_b zq_method_10_code_0 0 rfl rfl rfl) (zd_b zq_method_10_code_0 1 rfl rfl rfl)
theorem d_Lw_isFed_2 : decode method_10_code 2 = .ok (.iconst 0, 1) := zo_3 (zd_b zq_method_10_code_0 2 rfl rfl rfl)
theorem d_Lw_isFed_3 : decode method_10_code 3 = .ok (.aload_n 0, 1) := zo_42 (zd_b zq_method_10_code_0 3 rfl rfl rfl)
theorem d_Lw_isFed_4 : decode method_10_code 4 = .ok (.iload_n 1, 1) := zo_27 (zd_b zq_method_10_code_0 4 rfl rfl rfl)
theorem d_Lw_isFed_5 : decode method_10_code 5 = .ok (.iload_n 2, 1) := zo_28 (zd_b zq_method_10_code_0 5 rfl rfl rfl)
theorem d_Lw_isFed_6 : decode method_10_code 6 = .ok (.iload_n 3, 1) := zo_29 (zd_b zq_method_10_code_0 6 rfl rfl rfl)
theorem d_Lw_isFed_7 : decode method_10_code 7 = .ok (.invokevirtual 43, 3) := zo_182 (d := 0) (e := 43) (zd_b zq_method_10_code_0 7 rfl rfl rfl) (zd_b zq_method_10_code_0 8 rfl rfl rfl) (zd_b zq_method_10_code_0 9 rfl rfl rfl)
theorem ok_Lw_isFed_Ip_isFed : z_okH M_Lw_isFed M_Ip_isFed 3 := ⟨z_mj4 (i := 117) rfl (by decide +kernel), rfl, ⟨by decide +kernel, by decide +kernel, by decide +kernel⟩, ⟨by decide, by decide⟩, z_mj1 (i := 1) rfl (by decide +kernel)⟩
theorem ln_Lw_43 : Cond.methodLink "IronpourLaw" 43 M_Ip_isFed.1 ∈ z_gw := z_mj4 (i := 114) rfl (by decide +kernel)
theorem w_im_Ip_isFed : Cond.instanceMethod M_Ip_isFed.1 ∈ z_gw := z_mj4 (i := 115) rfl (by decide +kernel)
theorem w_se_Ip_isFed : Cond.selects M_Ip_isFed.1.cls M_Ip_isFed.1 M_Ip_isFed.1 ∈ z_gw := z_mj4 (i := 116) rfl (by decide +kernel)
theorem d_Lw_isFed_22 : decode method_10_code 22 = .ok (.astore 5, 2) := zo_58 (d := 5) (zd_b zq_method_10_code_0 22 rfl rfl rfl) (zd_b zq_method_10_code_0 23 rfl rfl rfl)
theorem d_Lw_isFed_24 : decode method_10_code 24 = .ok (.iconst 1, 1) := zo_4 (zd_b zq_method_10_code_0 24 rfl rfl rfl)
theorem d_Lw_isFed_25 : decode method_10_code 25 = .ok (.ireturn, 1) := zo_172 (zd_b zq_method_10_code_0 25 rfl rfl rfl)
theorem d_Lw_isFed_26 : decode method_10_code 26 = .ok (.astore 5, 2) := zo_58 (d := 5) (zd_b zq_method_10_code_0 26 rfl rfl rfl) (zd_b zq_method_10_code_0 27 rfl rfl rfl)
theorem d_Lw_isFed_28 : decode method_10_code 28 = .ok (.iconst 2, 1) := zo_5 (zd_b zq_method_10_code_0 28 rfl rfl rfl)
theorem d_Lw_isFed_29 : decode method_10_code 29 = .ok (.ireturn, 1) := zo_172 (zd_b zq_method_10_code_0 29 rfl rfl rfl)
theorem d_Lw_isFed_10 : decode method_10_code 10 = .ok (.ifCond .eq 7, 3) := zo_153 (d := 0) (e := 7) (zd_b zq_method_10_code_0 10 rfl rfl rfl) (zd_b zq_method_10_code_0 11 rfl rfl rfl) (zd_b zq_method_10_code_0 12 rfl rfl rfl) (by decide +kernel)
theorem d_Lw_isFed_17 : decode method_10_code 17 = .ok (.lconst 0, 1) := zo_9 (zd_b zq_method_10_code_0 17 rfl rfl rfl)
theorem d_Lw_isFed_18 : decode method_10_code 18 = .ok (.lastore, 1) := zo_80 (zd_b zq_method_10_code_0 18 rfl rfl rfl)
theorem d_Lw_isFed_19 : decode method_10_code 19 = .ok (.goto 11, 3) := zo_167 (d := 0) (e := 11) (zd_b zq_method_10_code_0 19 rfl rfl rfl) (zd_b zq_method_10_code_0 20 rfl rfl rfl) (zd_b zq_method_10_code_0 21 rfl rfl rfl) (by decide +kernel)
theorem d_Lw_isFed_30 : decode method_10_code 30 = .ok (.iconst 0, 1) := zo_3 (zd_b zq_method_10_code_0 30 rfl rfl rfl)
theorem d_Lw_isFed_31 : decode method_10_code 31 = .ok (.ireturn, 1) := zo_172 (zd_b zq_method_10_code_0 31 rfl rfl rfl)
theorem d_Lw_isFed_13 : decode method_10_code 13 = .ok (.lconst 1, 1) := zo_10 (zd_b zq_method_10_code_0 13 rfl rfl rfl)
theorem d_Lw_isFed_14 : decode method_10_code 14 = .ok (.goto 4, 3) := zo_167 (d := 0) (e := 4) (zd_b zq_method_10_code_0 14 rfl rfl rfl) (zd_b zq_method_10_code_0 15 rfl rfl rfl) (zd_b zq_method_10_code_0 16 rfl rfl rfl) (by decide +kernel)
set_option maxHeartbeats 4000000 in
set_option maxRecDepth 100000 in
theorem W_isFed {g : zG} {ad : Nat → Nat} {t : zTT} {u : zNN} {w : zW} (hI : IVm g ad t u w) (x y h : Int32) : zMB g M_Lw_isFed [.ref (ad 0), .int x, .int y, .int h, .ref (ad 69)] w (fun o w1 => MKx g ad t u.1 o w1) 10 300 := by
  obtain ⟨s, hI⟩ := hI
  obtain ⟨e_a, wf_a, k_a⟩ := hI.1.2 0 (by decide)
  obtain rfl := kd_0.mp k_a
  obtain ⟨e_o1, wf_o1, k_o1⟩ := hI.1.2 69 (by decide)
  obtain rfl := kd_69.mp k_o1
  refine y_ofH (by decide) (by decide) (Nat.le_of_ble_eq_true rfl) (y_base (cs := [((ad 0), .inr (11, [.ref (ad 1), .ref (ad 5), .ref (ad 18), .ref (ad 31), .ref (ad 32), .ref (ad 36), .ref (ad 42), .ref (ad 45), .ref (ad 47), .ref (ad 49), .ref (ad 50), .ref (ad 51)])), ((ad 69), .inl (3, 1, .inr (.inl (((mg t s).1 69).2.1))))]) (hI.1.I [0, 69] _ rfl (by decide) (by decide) (List.forall_mem_cons.mpr ⟨wf_a, (List.forall_mem_cons.mpr ⟨wf_o1, (fun _ h => nomatch h)⟩)⟩)) ?_)
  refine y_lvE (lv2 := [(0, .ref (ad 0)), (1, .int x), (2, .int y), (3, .int h), (4, .ref (ad 69))]) rfl ?_
  refine y_aload d_Lw_isFed_0 4 rfl ?_
  refine y_iconst d_Lw_isFed_2 (v := 0) (by decide) ?_
  refine y_aload_n d_Lw_isFed_3 rfl 0 rfl ?_
  refine y_iload_n d_Lw_isFed_4 rfl 1 rfl ?_
  refine y_iload_n d_Lw_isFed_5 rfl 2 rfl ?_
  refine y_iload_n d_Lw_isFed_6 rfl 3 rfl ?_
  refine yw_callVH (As := [.int x, .int y, .int h]) (rest := [.int 0, .ref (ad 69)]) (q0 := 0) rfl rfl ln_Lw_43 w_im_Ip_isFed w_se_Ip_isFed ok_Lw_isFed_Ip_isFed d_Lw_isFed_7 (fun wA hA => K_Ip_isFed ⟨_, (hI.gen (t2 := (mg t s)) (is := [0, 69]) (L2 := []) hA rfl ⟨kd_0.mpr rfl, kd_69.mpr rfl, trivial⟩ (by decide) (by decide) (fun _ h => nomatch h) (fun _ h => nomatch h) (fun _ _ _ => rfl) (fun h => h) rfl)⟩ x y h) rfl rfl (Nat.le_of_ble_eq_true rfl) (by omega) (by omega) (fun wA7 hA7 E wB7 hx => ?_) (fun wA7 hA7 v wB7 hx => ?_)
  · obtain ⟨h1, u2, hu, hI2⟩ := hx
    rcases List.mem_cons.mp (zriE h1) with rfl | g2
    · refine ⟨"java/lang/IndexOutOfBoundsException", [], [(0, 19, 26, 13)], (0, 19, 22, 19), rfl, (fun z hz => nomatch hz), by decide, by decide, lx_Lw_19, ce_19, fun qx => ?_⟩
      refine y_base (cs := []) (z_I.nil wB7) ?_
      refine y_astore (lv' := [(5, .ref qx), (0, .ref (ad 0)), (1, .int x), (2, .int y), (3, .int h), (4, .ref (ad 69))]) d_Lw_isFed_22 (by decide) rfl ?_
      refine y_iconst d_Lw_isFed_24 (v := 1) (by decide) ?_
      refine y_iret d_Lw_isFed_25 rfl rfl ?_
      exact fun w1 h1 => ⟨⟨_, rfl⟩, u2, hu, (z_I.same (z_I.nil _) h1).symm ▸ hI2⟩
    · obtain rfl := List.mem_singleton.mp g2
      refine ⟨"java/lang/IllegalArgumentException", [(0, 19, 22, 19)], [], (0, 19, 26, 13), rfl, (fun z hz => by simp only [List.mem_cons, List.not_mem_nil, or_false] at hz; rcases hz with rfl; exact Or.inr ⟨by decide, _, lx_Lw_19, by decide⟩), by decide, by decide, lx_Lw_13, ce_13, fun qx => ?_⟩
      refine y_base (cs := []) (z_I.nil wB7) ?_
      refine y_astore (lv' := [(5, .ref qx), (0, .ref (ad 0)), (1, .int x), (2, .int y), (3, .int h), (4, .ref (ad 69))]) d_Lw_isFed_26 (by decide) rfl ?_
      refine y_iconst d_Lw_isFed_28 (v := 2) (by decide) ?_
      refine y_iret d_Lw_isFed_29 rfl rfl ?_
      exact fun w1 h1 => ⟨⟨_, rfl⟩, u2, hu, (z_I.same (z_I.nil _) h1).symm ▸ hI2⟩
  · obtain ⟨h1, u2, hu, hI2⟩ := hx
    obtain ⟨v9, rfl⟩ := zriV h1
    refine yw_st (st2 := [.int v9, .int 0, .ref (ad 69)]) rfl ?_
    obtain ⟨s9, hI⟩ := hI2
    obtain ⟨e_o1, wf_o1, k_o1⟩ := hI.1.2 69 (by decide)
    obtain rfl := kd_69.mp k_o1
    refine y_base (cs := [((ad 69), .inl (3, 1, .inr (.inl (((mg t s9).1 69).2.1))))]) (hI.1.I [69] _ rfl (by decide) (by decide) (List.forall_mem_cons.mpr ⟨wf_o1, (fun _ h => nomatch h)⟩)) ?_
    refine y_if_eq (tgt := 17) d_Lw_isFed_10 (by decide) (fun c_10 => ?_) (fun c_10 => ?_)
    · refine y_lconst d_Lw_isFed_17 (v := 0) (by decide) ?_
      refine y_last d_Lw_isFed_18 (q0 := 0) rfl (fun q => q.elim (by decide) (by decide)) (f' := vp_updL (((mg t s9).1 69).2.1) 0 0) rfl (cs' := [((ad 69), .inl (3, 1, .inr (.inl (vp_updL (((mg t s9).1 69).2.1) 0 0))))]) rfl ?_
      refine y_goto (tgt := 30) d_Lw_isFed_19 (by decide) ?_
      refine y_iconst d_Lw_isFed_30 (v := 0) (by decide) ?_
      refine y_iret d_Lw_isFed_31 rfl rfl ?_
      exact fun w1 h1 => ⟨⟨_, rfl⟩, u2, hu, IVm.tz ((hI.gen (t2 := (zup (mg t s9).1 [(69, (((mg t s9).1 69).1, vp_updL (((mg t s9).1 69).2.1) 0 0, ((mg t s9).1 69).2.2))], (mg t s9).2)) (is := [69]) (L2 := []) h1 rfl ⟨kd_69.mpr rfl, trivial⟩ (by decide) (by decide) (fun _ h => nomatch h) (fun _ h => nomatch h) (fun i hi hn => zup_out (fun q => hn ((by decide : ∀ j ∈ ([69] : List Nat), j ∈ ([69] : List Nat)) i q))) (fun h => h) rfl)) (tx_all rfl)⟩
    · refine y_lconst d_Lw_isFed_13 (v := 1) (by decide) ?_
      refine y_goto (tgt := 18) d_Lw_isFed_14 (by decide) ?_
      refine y_last d_Lw_isFed_18 (q0 := 0) rfl (fun q => q.elim (by decide) (by decide)) (f' := vp_updL (((mg t s9).1 69).2.1) 0 1) rfl (cs' := [((ad 69), .inl (3, 1, .inr (.inl (vp_updL (((mg t s9).1 69).2.1) 0 1))))]) rfl ?_
      refine y_goto (tgt := 30) d_Lw_isFed_19 (by decide) ?_
      refine y_iconst d_Lw_isFed_30 (v := 0) (by decide) ?_
      refine y_iret d_Lw_isFed_31 rfl rfl ?_
      exact fun w1 h1 => ⟨⟨_, rfl⟩, u2, hu, IVm.tz ((hI.gen (t2 := (zup (mg t s9).1 [(69, (((mg t s9).1 69).1, vp_updL (((mg t s9).1 69).2.1) 0 1, ((mg t s9).1 69).2.2))], (mg t s9).2)) (is := [69]) (L2 := []) h1 rfl ⟨kd_69.mpr rfl, trivial⟩ (by decide) (by decide) (fun _ h => nomatch h) (fun _ h => nomatch h) (fun i hi hn => zup_out (fun q => hn ((by decide : ∀ j ∈ ([69] : List Nat), j ∈ ([69] : List Nat)) i q))) (fun h => h) rfl)) (tx_all rfl)⟩
abbrev M_Lw_heatAt : zM := (⟨"IronpourLaw", "heatAt", "(LIronpour;IIII[J)I"⟩, method_9_code, 7, (Option.some FieldType.int), 8, 162, [((0 : Nat), (14 : Nat), (17 : Nat), (19 : Nat)), ((0 : Nat), (14 : Nat), (21 : Nat), (13 : Nat))])
theorem d_Lw_heatAt_0 : decode method_9_code 0 = .ok (.aload 5, 2) := zo_25 (d := 5) (zd_b zq_method_9_code_0 0 rfl rfl rfl) (zd_b zq_method_9_code_0 1 rfl rfl rfl)
theorem d_Lw_heatAt_2 : decode method_9_code 2 = .ok (.iconst 0, 1) := zo_3 (zd_b zq_method_9_code_0 2 rfl rfl rfl)
theorem d_Lw_heatAt_3 : decode method_9_code 3 = .ok (.aload_n 0, 1) := zo_42 (zd_b zq_method_9_code_0 3 rfl rfl rfl)
theorem d_Lw_heatAt_4 : decode method_9_code 4 = .ok (.iload_n 1, 1) := zo_27 (zd_b zq_method_9_code_0 4 rfl rfl rfl)
theorem d_Lw_heatAt_5 : decode method_9_code 5 = .ok (.iload_n 2, 1) := zo_28 (zd_b zq_method_9_code_0 5 rfl rfl rfl)
theorem d_Lw_heatAt_6 : decode method_9_code 6 = .ok (.iload_n 3, 1) := zo_29 (zd_b zq_method_9_code_0 6 rfl rfl rfl)
theorem d_Lw_heatAt_7 : decode method_9_code 7 = .ok (.iload 4, 2) := zo_21 (d := 4) (zd_b zq_method_9_code_0 7 rfl rfl rfl) (zd_b zq_method_9_code_0 8 rfl rfl rfl)
theorem d_Lw_heatAt_9 : decode method_9_code 9 = .ok (.invokevirtual 39, 3) := zo_182 (d := 0) (e := 39) (zd_b zq_method_9_code_0 9 rfl rfl rfl) (zd_b zq_method_9_code_0 10 rfl rfl rfl) (zd_b zq_method_9_code_0 11 rfl rfl rfl)
theorem ok_Lw_heatAt_Ip_heatAt : z_okH M_Lw_heatAt M_Ip_heatAt 4 := ⟨z_mj4 (i := 105) rfl (by decide +kernel), rfl, ⟨by decide +kernel, by decide +kernel, by decide +kernel⟩, ⟨by decide, by decide⟩, z_mj1 (i := 1) rfl (by decide +kernel)⟩
theorem ln_Lw_39 : Cond.methodLink "IronpourLaw" 39 M_Ip_heatAt.1 ∈ z_gw := z_mj4 (i := 102) rfl (by decide +kernel)
theorem w_im_Ip_heatAt : Cond.instanceMethod M_Ip_heatAt.1 ∈ z_gw := z_mj4 (i := 103) rfl (by decide +kernel)
theorem w_se_Ip_heatAt : Cond.selects M_Ip_heatAt.1.cls M_Ip_heatAt.1 M_Ip_heatAt.1 ∈ z_gw := z_mj4 (i := 104) rfl (by decide +kernel)
theorem d_Lw_heatAt_17 : decode method_9_code 17 = .ok (.astore 6, 2) := zo_58 (d := 6) (zd_b zq_method_9_code_0 17 rfl rfl rfl) (zd_b zq_method_9_code_0 18 rfl rfl rfl)
theorem d_Lw_heatAt_19 : decode method_9_code 19 = .ok (.iconst 1, 1) := zo_4 (zd_b zq_method_9_code_0 19 rfl rfl rfl)
theorem d_Lw_heatAt_20 : decode method_9_code 20 = .ok (.ireturn, 1) := zo_172 (zd_b zq_method_9_code_0 20 rfl rfl rfl)
theorem d_Lw_heatAt_21 : decode method_9_code 21 = .ok (.astore 6, 2) := zo_58 (d := 6) (zd_b zq_method_9_code_0 21 rfl rfl rfl) (zd_b zq_method_9_code_0 22 rfl rfl rfl)
theorem d_Lw_heatAt_23 : decode method_9_code 23 = .ok (.iconst 2, 1) := zo_5 (zd_b zq_method_9_code_0 23 rfl rfl rfl)
theorem d_Lw_heatAt_24 : decode method_9_code 24 = .ok (.ireturn, 1) := zo_172 (zd_b zq_method_9_code_0 24 rfl rfl rfl)
theorem d_Lw_heatAt_12 : decode method_9_code 12 = .ok (.i2l, 1) := zo_133 (zd_b zq_method_9_code_0 12 rfl rfl rfl)
theorem d_Lw_heatAt_13 : decode method_9_code 13 = .ok (.lastore, 1) := zo_80 (zd_b zq_method_9_code_0 13 rfl rfl rfl)
theorem d_Lw_heatAt_14 : decode method_9_code 14 = .ok (.goto 11, 3) := zo_167 (d := 0) (e := 11) (zd_b zq_method_9_code_0 14 rfl rfl rfl) (zd_b zq_method_9_code_0 15 rfl rfl rfl) (zd_b zq_method_9_code_0 16 rfl rfl rfl) (by decide +kernel)
theorem d_Lw_heatAt_25 : decode method_9_code 25 = .ok (.iconst 0, 1) := zo_3 (zd_b zq_method_9_code_0 25 rfl rfl rfl)
theorem d_Lw_heatAt_26 : decode method_9_code 26 = .ok (.ireturn, 1) := zo_172 (zd_b zq_method_9_code_0 26 rfl rfl rfl)
set_option maxHeartbeats 4000000 in
set_option maxRecDepth 100000 in
theorem W_heatAt {g : zG} {ad : Nat → Nat} {t : zTT} {u : zNN} {w : zW} (hI : IVm g ad t u w) (x y h st : Int32) : zMB g M_Lw_heatAt [.ref (ad 0), .int x, .int y, .int h, .int st, .ref (ad 69)] w (fun o w1 => MKx g ad t u.1 o w1) 10 300 := by
  obtain ⟨s, hI⟩ := hI
  obtain ⟨e_a, wf_a, k_a⟩ := hI.1.2 0 (by decide)
  obtain rfl := kd_0.mp k_a
  obtain ⟨e_o1, wf_o1, k_o1⟩ := hI.1.2 69 (by decide)
  obtain rfl := kd_69.mp k_o1
  refine y_ofH (by decide) (by decide) (Nat.le_of_ble_eq_true rfl) (y_base (cs := [((ad 0), .inr (11, [.ref (ad 1), .ref (ad 5), .ref (ad 18), .ref (ad 31), .ref (ad 32), .ref (ad 36), .ref (ad 42), .ref (ad 45), .ref (ad 47), .ref (ad 49), .ref (ad 50), .ref (ad 51)])), ((ad 69), .inl (3, 1, .inr (.inl (((mg t s).1 69).2.1))))]) (hI.1.I [0, 69] _ rfl (by decide) (by decide) (List.forall_mem_cons.mpr ⟨wf_a, (List.forall_mem_cons.mpr ⟨wf_o1, (fun _ h => nomatch h)⟩)⟩)) ?_)
  refine y_lvE (lv2 := [(0, .ref (ad 0)), (1, .int x), (2, .int y), (3, .int h), (4, .int st), (5, .ref (ad 69))]) rfl ?_
  refine y_aload d_Lw_heatAt_0 5 rfl ?_
  refine y_iconst d_Lw_heatAt_2 (v := 0) (by decide) ?_
  refine y_aload_n d_Lw_heatAt_3 rfl 0 rfl ?_
  refine y_iload_n d_Lw_heatAt_4 rfl 1 rfl ?_
  refine y_iload_n d_Lw_heatAt_5 rfl 2 rfl ?_
  refine y_iload_n d_Lw_heatAt_6 rfl 3 rfl ?_
  refine y_iload d_Lw_heatAt_7 4 rfl ?_
  refine yw_callVH (As := [.int x, .int y, .int h, .int st]) (rest := [.int 0, .ref (ad 69)]) (q0 := 0) rfl rfl ln_Lw_39 w_im_Ip_heatAt w_se_Ip_heatAt ok_Lw_heatAt_Ip_heatAt d_Lw_heatAt_9 (fun wA hA => K_Ip_heatAt ⟨_, (hI.gen (t2 := (mg t s)) (is := [0, 69]) (L2 := []) hA rfl ⟨kd_0.mpr rfl, kd_69.mpr rfl, trivial⟩ (by decide) (by decide) (fun _ h => nomatch h) (fun _ h => nomatch h) (fun _ _ _ => rfl) (fun h => h) rfl)⟩ x y h st) rfl rfl (Nat.le_of_ble_eq_true rfl) (by omega) (by omega) (fun wA9 hA9 E wB9 hx => ?_) (fun wA9 hA9 v wB9 hx => ?_)
  · obtain ⟨h1, u2, hu, hI2⟩ := hx
    rcases List.mem_cons.mp (zriE h1) with rfl | g2
    · refine ⟨"java/lang/IndexOutOfBoundsException", [], [(0, 14, 21, 13)], (0, 14, 17, 19), rfl, (fun z hz => nomatch hz), by decide, by decide, lx_Lw_19, ce_19, fun qx => ?_⟩
      refine y_base (cs := []) (z_I.nil wB9) ?_
      refine y_astore (lv' := [(6, .ref qx), (0, .ref (ad 0)), (1, .int x), (2, .int y), (3, .int h), (4, .int st), (5, .ref (ad 69))]) d_Lw_heatAt_17 (by decide) rfl ?_
      refine y_iconst d_Lw_heatAt_19 (v := 1) (by decide) ?_
      refine y_iret d_Lw_heatAt_20 rfl rfl ?_
      exact fun w1 h1 => ⟨⟨_, rfl⟩, u2, hu, (z_I.same (z_I.nil _) h1).symm ▸ hI2⟩
    · obtain rfl := List.mem_singleton.mp g2
      refine ⟨"java/lang/IllegalArgumentException", [(0, 14, 17, 19)], [], (0, 14, 21, 13), rfl, (fun z hz => by simp only [List.mem_cons, List.not_mem_nil, or_false] at hz; rcases hz with rfl; exact Or.inr ⟨by decide, _, lx_Lw_19, by decide⟩), by decide, by decide, lx_Lw_13, ce_13, fun qx => ?_⟩
      refine y_base (cs := []) (z_I.nil wB9) ?_
      refine y_astore (lv' := [(6, .ref qx), (0, .ref (ad 0)), (1, .int x), (2, .int y), (3, .int h), (4, .int st), (5, .ref (ad 69))]) d_Lw_heatAt_21 (by decide) rfl ?_
      refine y_iconst d_Lw_heatAt_23 (v := 2) (by decide) ?_
      refine y_iret d_Lw_heatAt_24 rfl rfl ?_
      exact fun w1 h1 => ⟨⟨_, rfl⟩, u2, hu, (z_I.same (z_I.nil _) h1).symm ▸ hI2⟩
  · obtain ⟨h1, u2, hu, hI2⟩ := hx
    obtain ⟨v9, rfl⟩ := zriV h1
    refine yw_st (st2 := [.int v9, .int 0, .ref (ad 69)]) rfl ?_
    obtain ⟨s9, hI⟩ := hI2
    obtain ⟨e_o1, wf_o1, k_o1⟩ := hI.1.2 69 (by decide)
    obtain rfl := kd_69.mp k_o1
    refine y_base (cs := [((ad 69), .inl (3, 1, .inr (.inl (((mg t s9).1 69).2.1))))]) (hI.1.I [69] _ rfl (by decide) (by decide) (List.forall_mem_cons.mpr ⟨wf_o1, (fun _ h => nomatch h)⟩)) ?_
    refine y_i2l d_Lw_heatAt_12 (v := v9.toInt64) rfl ?_
    refine y_last d_Lw_heatAt_13 (q0 := 0) rfl (fun q => q.elim (by decide) (by decide)) (f' := vp_updL (((mg t s9).1 69).2.1) 0 v9.toInt64) rfl (cs' := [((ad 69), .inl (3, 1, .inr (.inl (vp_updL (((mg t s9).1 69).2.1) 0 v9.toInt64))))]) rfl ?_
    refine y_goto (tgt := 25) d_Lw_heatAt_14 (by decide) ?_
    refine y_iconst d_Lw_heatAt_25 (v := 0) (by decide) ?_
    refine y_iret d_Lw_heatAt_26 rfl rfl ?_
    exact fun w1 h1 => ⟨⟨_, rfl⟩, u2, hu, IVm.tz ((hI.gen (t2 := (zup (mg t s9).1 [(69, (((mg t s9).1 69).1, vp_updL (((mg t s9).1 69).2.1) 0 v9.toInt64, ((mg t s9).1 69).2.2))], (mg t s9).2)) (is := [69]) (L2 := []) h1 rfl ⟨kd_69.mpr rfl, trivial⟩ (by decide) (by decide) (fun _ h => nomatch h) (fun _ h => nomatch h) (fun i hi hn => zup_out (fun q => hn ((by decide : ∀ j ∈ ([69] : List Nat), j ∈ ([69] : List Nat)) i q))) (fun h => h) rfl)) (tx_all rfl)⟩
abbrev M_Lw_shrunk : zM := (⟨"IronpourLaw", "shrunk", "(LIronpour;I[J)I"⟩, method_11_code, 4, (Option.some FieldType.int), 8, 157, [((0 : Nat), (9 : Nat), (12 : Nat), (13 : Nat))])
theorem d_Lw_shrunk_0 : decode method_11_code 0 = .ok (.aload_n 2, 1) := zo_44 (zd_b zq_method_11_code_0 0 rfl rfl rfl)
theorem d_Lw_shrunk_1 : decode method_11_code 1 = .ok (.iconst 0, 1) := zo_3 (zd_b zq_method_11_code_0 1 rfl rfl rfl)
theorem d_Lw_shrunk_2 : decode method_11_code 2 = .ok (.aload_n 0, 1) := zo_42 (zd_b zq_method_11_code_0 2 rfl rfl rfl)
theorem d_Lw_shrunk_3 : decode method_11_code 3 = .ok (.iload_n 1, 1) := zo_27 (zd_b zq_method_11_code_0 3 rfl rfl rfl)
theorem d_Lw_shrunk_4 : decode method_11_code 4 = .ok (.invokevirtual 47, 3) := zo_182 (d := 0) (e := 47) (zd_b zq_method_11_code_0 4 rfl rfl rfl) (zd_b zq_method_11_code_0 5 rfl rfl rfl) (zd_b zq_method_11_code_0 6 rfl rfl rfl)
theorem ok_Lw_shrunk_Ip_shrunk : z_okH M_Lw_shrunk M_Ip_shrunk 1 := ⟨z_mj4 (i := 124) rfl (by decide +kernel), rfl, ⟨by decide +kernel, by decide +kernel, by decide +kernel⟩, ⟨by decide, by decide⟩, z_mj1 (i := 1) rfl (by decide +kernel)⟩
theorem ln_Lw_47 : Cond.methodLink "IronpourLaw" 47 M_Ip_shrunk.1 ∈ z_gw := z_mj4 (i := 121) rfl (by decide +kernel)
theorem w_im_Ip_shrunk : Cond.instanceMethod M_Ip_shrunk.1 ∈ z_gw := z_mj4 (i := 122) rfl (by decide +kernel)
theorem w_se_Ip_shrunk : Cond.selects M_Ip_shrunk.1.cls M_Ip_shrunk.1 M_Ip_shrunk.1 ∈ z_gw := z_mj4 (i := 123) rfl (by decide +kernel)
theorem d_Lw_shrunk_12 : decode method_11_code 12 = .ok (.astore_n 3, 1) := zo_78 (zd_b zq_method_11_code_0 12 rfl rfl rfl)
theorem d_Lw_shrunk_13 : decode method_11_code 13 = .ok (.iconst 1, 1) := zo_4 (zd_b zq_method_11_code_0 13 rfl rfl rfl)
theorem d_Lw_shrunk_14 : decode method_11_code 14 = .ok (.ireturn, 1) := zo_172 (zd_b zq_method_11_code_0 14 rfl rfl rfl)
theorem d_Lw_shrunk_7 : decode method_11_code 7 = .ok (.i2l, 1) := zo_133 (zd_b zq_method_11_code_0 7 rfl rfl rfl)
theorem d_Lw_shrunk_8 : decode method_11_code 8 = .ok (.lastore, 1) := zo_80 (zd_b zq_method_11_code_0 8 rfl rfl rfl)
theorem d_Lw_shrunk_9 : decode method_11_code 9 = .ok (.goto 6, 3) := zo_167 (d := 0) (e := 6) (zd_b zq_method_11_code_0 9 rfl rfl rfl) (zd_b zq_method_11_code_0 10 rfl rfl rfl) (zd_b zq_method_11_code_0 11 rfl rfl rfl) (by decide +kernel)
theorem d_Lw_shrunk_15 : decode method_11_code 15 = .ok (.iconst 0, 1) := zo_3 (zd_b zq_method_11_code_0 15 rfl rfl rfl)
theorem d_Lw_shrunk_16 : decode method_11_code 16 = .ok (.ireturn, 1) := zo_172 (zd_b zq_method_11_code_0 16 rfl rfl rfl)
set_option maxHeartbeats 4000000 in
set_option maxRecDepth 100000 in
theorem W_shrunk {g : zG} {ad : Nat → Nat} {t : zTT} {u : zNN} {w : zW} (hI : IVm g ad t u w) (h : Int32) : zMB g M_Lw_shrunk [.ref (ad 0), .int h, .ref (ad 69)] w (fun o w1 => MKx g ad t u.1 o w1) 10 300 := by
  obtain ⟨s, hI⟩ := hI
  obtain ⟨e_a, wf_a, k_a⟩ := hI.1.2 0 (by decide)
  obtain rfl := kd_0.mp k_a
  obtain ⟨e_o1, wf_o1, k_o1⟩ := hI.1.2 69 (by decide)
  obtain rfl := kd_69.mp k_o1
  refine y_ofH (by decide) (by decide) (Nat.le_of_ble_eq_true rfl) (y_base (cs := [((ad 0), .inr (11, [.ref (ad 1), .ref (ad 5), .ref (ad 18), .ref (ad 31), .ref (ad 32), .ref (ad 36), .ref (ad 42), .ref (ad 45), .ref (ad 47), .ref (ad 49), .ref (ad 50), .ref (ad 51)])), ((ad 69), .inl (3, 1, .inr (.inl (((mg t s).1 69).2.1))))]) (hI.1.I [0, 69] _ rfl (by decide) (by decide) (List.forall_mem_cons.mpr ⟨wf_a, (List.forall_mem_cons.mpr ⟨wf_o1, (fun _ h => nomatch h)⟩)⟩)) ?_)
  refine y_lvE (lv2 := [(0, .ref (ad 0)), (1, .int h), (2, .ref (ad 69))]) rfl ?_
  refine y_aload_n d_Lw_shrunk_0 rfl 2 rfl ?_
  refine y_iconst d_Lw_shrunk_1 (v := 0) (by decide) ?_
  refine y_aload_n d_Lw_shrunk_2 rfl 0 rfl ?_
  refine y_iload_n d_Lw_shrunk_3 rfl 1 rfl ?_
  refine yw_callVH (As := [.int h]) (rest := [.int 0, .ref (ad 69)]) (q0 := 0) rfl rfl ln_Lw_47 w_im_Ip_shrunk w_se_Ip_shrunk ok_Lw_shrunk_Ip_shrunk d_Lw_shrunk_4 (fun wA hA => K_Ip_shrunk ⟨_, (hI.gen (t2 := (mg t s)) (is := [0, 69]) (L2 := []) hA rfl ⟨kd_0.mpr rfl, kd_69.mpr rfl, trivial⟩ (by decide) (by decide) (fun _ h => nomatch h) (fun _ h => nomatch h) (fun _ _ _ => rfl) (fun h => h) rfl)⟩ h) rfl rfl (Nat.le_of_ble_eq_true rfl) (by omega) (by omega) (fun wA4 hA4 E wB4 hx => ?_) (fun wA4 hA4 v wB4 hx => ?_)
  · obtain ⟨h1, u2, hu, hI2⟩ := hx
    obtain rfl := List.mem_singleton.mp (zriE h1)
    refine ⟨"java/lang/IllegalArgumentException", [], [], (0, 9, 12, 13), rfl, (fun z hz => nomatch hz), by decide, by decide, lx_Lw_13, ce_13, fun qx => ?_⟩
    refine y_base (cs := []) (z_I.nil wB4) ?_
    refine y_astore_n (lv' := [(3, .ref qx), (0, .ref (ad 0)), (1, .int h), (2, .ref (ad 69))]) d_Lw_shrunk_12 rfl (by decide) rfl ?_
    refine y_iconst d_Lw_shrunk_13 (v := 1) (by decide) ?_
    refine y_iret d_Lw_shrunk_14 rfl rfl ?_
    exact fun w1 h1 => ⟨⟨_, rfl⟩, u2, hu, (z_I.same (z_I.nil _) h1).symm ▸ hI2⟩
  · obtain ⟨h1, u2, hu, hI2⟩ := hx
    obtain ⟨v9, rfl⟩ := zriV h1
    refine yw_st (st2 := [.int v9, .int 0, .ref (ad 69)]) rfl ?_
    obtain ⟨s9, hI⟩ := hI2
    obtain ⟨e_o1, wf_o1, k_o1⟩ := hI.1.2 69 (by decide)
    obtain rfl := kd_69.mp k_o1
    refine y_base (cs := [((ad 69), .inl (3, 1, .inr (.inl (((mg t s9).1 69).2.1))))]) (hI.1.I [69] _ rfl (by decide) (by decide) (List.forall_mem_cons.mpr ⟨wf_o1, (fun _ h => nomatch h)⟩)) ?_
    refine y_i2l d_Lw_shrunk_7 (v := v9.toInt64) rfl ?_
    refine y_last d_Lw_shrunk_8 (q0 := 0) rfl (fun q => q.elim (by decide) (by decide)) (f' := vp_updL (((mg t s9).1 69).2.1) 0 v9.toInt64) rfl (cs' := [((ad 69), .inl (3, 1, .inr (.inl (vp_updL (((mg t s9).1 69).2.1) 0 v9.toInt64))))]) rfl ?_
    refine y_goto (tgt := 15) d_Lw_shrunk_9 (by decide) ?_
    refine y_iconst d_Lw_shrunk_15 (v := 0) (by decide) ?_
    refine y_iret d_Lw_shrunk_16 rfl rfl ?_
    exact fun w1 h1 => ⟨⟨_, rfl⟩, u2, hu, IVm.tz ((hI.gen (t2 := (zup (mg t s9).1 [(69, (((mg t s9).1 69).1, vp_updL (((mg t s9).1 69).2.1) 0 v9.toInt64, ((mg t s9).1 69).2.2))], (mg t s9).2)) (is := [69]) (L2 := []) h1 rfl ⟨kd_69.mpr rfl, trivial⟩ (by decide) (by decide) (fun _ h => nomatch h) (fun _ h => nomatch h) (fun i hi hn => zup_out (fun q => hn ((by decide : ∀ j ∈ ([69] : List Nat), j ∈ ([69] : List Nat)) i q))) (fun h => h) rfl)) (tx_all rfl)⟩
abbrev M_Lw_shrunkAnew : zM := (⟨"IronpourLaw", "shrunkAnew", "(LIronpour;I[J)I"⟩, method_12_code, 4, (Option.some FieldType.int), 8, 157, [((0 : Nat), (9 : Nat), (12 : Nat), (13 : Nat))])
theorem d_Lw_shrunkAnew_0 : decode method_12_code 0 = .ok (.aload_n 2, 1) := zo_44 (zd_b zq_method_12_code_0 0 rfl rfl rfl)
theorem d_Lw_shrunkAnew_1 : decode method_12_code 1 = .ok (.iconst 0, 1) := zo_3 (zd_b zq_method_12_code_0 1 rfl rfl rfl)
theorem d_Lw_shrunkAnew_2 : decode method_12_code 2 = .ok (.aload_n 0, 1) := zo_42 (zd_b zq_method_12_code_0 2 rfl rfl rfl)
theorem d_Lw_shrunkAnew_3 : decode method_12_code 3 = .ok (.iload_n 1, 1) := zo_27 (zd_b zq_method_12_code_0 3 rfl rfl rfl)
theorem d_Lw_shrunkAnew_4 : decode method_12_code 4 = .ok (.invokevirtual 50, 3) := zo_182 (d := 0) (e := 50) (zd_b zq_method_12_code_0 4 rfl rfl rfl) (zd_b zq_method_12_code_0 5 rfl rfl rfl) (zd_b zq_method_12_code_0 6 rfl rfl rfl)
theorem ok_Lw_shrunkAnew_Ip_shrunkAnew : z_okH M_Lw_shrunkAnew M_Ip_shrunkAnew 1 := ⟨z_mj4 (i := 135) rfl (by decide +kernel), rfl, ⟨by decide +kernel, by decide +kernel, by decide +kernel⟩, ⟨by decide, by decide⟩, z_mj1 (i := 1) rfl (by decide +kernel)⟩
theorem ln_Lw_50 : Cond.methodLink "IronpourLaw" 50 M_Ip_shrunkAnew.1 ∈ z_gw := z_mj4 (i := 132) rfl (by decide +kernel)
theorem w_im_Ip_shrunkAnew : Cond.instanceMethod M_Ip_shrunkAnew.1 ∈ z_gw := z_mj4 (i := 133) rfl (by decide +kernel)
theorem w_se_Ip_shrunkAnew : Cond.selects M_Ip_shrunkAnew.1.cls M_Ip_shrunkAnew.1 M_Ip_shrunkAnew.1 ∈ z_gw := z_mj4 (i := 134) rfl (by decide +kernel)
theorem d_Lw_shrunkAnew_12 : decode method_12_code 12 = .ok (.astore_n 3, 1) := zo_78 (zd_b zq_method_12_code_0 12 rfl rfl rfl)
theorem d_Lw_shrunkAnew_13 : decode method_12_code 13 = .ok (.iconst 1, 1) := zo_4 (zd_b zq_method_12_code_0 13 rfl rfl rfl)
theorem d_Lw_shrunkAnew_14 : decode method_12_code 14 = .ok (.ireturn, 1) := zo_172 (zd_b zq_method_12_code_0 14 rfl rfl rfl)
theorem d_Lw_shrunkAnew_7 : decode method_12_code 7 = .ok (.i2l, 1) := zo_133 (zd_b zq_method_12_code_0 7 rfl rfl rfl)
theorem d_Lw_shrunkAnew_8 : decode method_12_code 8 = .ok (.lastore, 1) := zo_80 (zd_b zq_method_12_code_0 8 rfl rfl rfl)
theorem d_Lw_shrunkAnew_9 : decode method_12_code 9 = .ok (.goto 6, 3) := zo_167 (d := 0) (e := 6) (zd_b zq_method_12_code_0 9 rfl rfl rfl) (zd_b zq_method_12_code_0 10 rfl rfl rfl) (zd_b zq_method_12_code_0 11 rfl rfl rfl) (by decide +kernel)
theorem d_Lw_shrunkAnew_15 : decode method_12_code 15 = .ok (.iconst 0, 1) := zo_3 (zd_b zq_method_12_code_0 15 rfl rfl rfl)
theorem d_Lw_shrunkAnew_16 : decode method_12_code 16 = .ok (.ireturn, 1) := zo_172 (zd_b zq_method_12_code_0 16 rfl rfl rfl)
set_option maxHeartbeats 4000000 in
set_option maxRecDepth 100000 in
theorem W_shrunkAnew {g : zG} {ad : Nat → Nat} {t : zTT} {u : zNN} {w : zW} (hI : IVm g ad t u w) (h : Int32) : zMB g M_Lw_shrunkAnew [.ref (ad 0), .int h, .ref (ad 69)] w (fun o w1 => MKx g ad t u.1 o w1) 10 300 := by
  obtain ⟨s, hI⟩ := hI
  obtain ⟨e_a, wf_a, k_a⟩ := hI.1.2 0 (by decide)
  obtain rfl := kd_0.mp k_a
  obtain ⟨e_o1, wf_o1, k_o1⟩ := hI.1.2 69 (by decide)
  obtain rfl := kd_69.mp k_o1
  refine y_ofH (by decide) (by decide) (Nat.le_of_ble_eq_true rfl) (y_base (cs := [((ad 0), .inr (11, [.ref (ad 1), .ref (ad 5), .ref (ad 18), .ref (ad 31), .ref (ad 32), .ref (ad 36), .ref (ad 42), .ref (ad 45), .ref (ad 47), .ref (ad 49), .ref (ad 50), .ref (ad 51)])), ((ad 69), .inl (3, 1, .inr (.inl (((mg t s).1 69).2.1))))]) (hI.1.I [0, 69] _ rfl (by decide) (by decide) (List.forall_mem_cons.mpr ⟨wf_a, (List.forall_mem_cons.mpr ⟨wf_o1, (fun _ h => nomatch h)⟩)⟩)) ?_)
  refine y_lvE (lv2 := [(0, .ref (ad 0)), (1, .int h), (2, .ref (ad 69))]) rfl ?_
  refine y_aload_n d_Lw_shrunkAnew_0 rfl 2 rfl ?_
  refine y_iconst d_Lw_shrunkAnew_1 (v := 0) (by decide) ?_
  refine y_aload_n d_Lw_shrunkAnew_2 rfl 0 rfl ?_
  refine y_iload_n d_Lw_shrunkAnew_3 rfl 1 rfl ?_
  refine yw_callVH (As := [.int h]) (rest := [.int 0, .ref (ad 69)]) (q0 := 0) rfl rfl ln_Lw_50 w_im_Ip_shrunkAnew w_se_Ip_shrunkAnew ok_Lw_shrunkAnew_Ip_shrunkAnew d_Lw_shrunkAnew_4 (fun wA hA => K_Ip_shrunkAnew ⟨_, (hI.gen (t2 := (mg t s)) (is := [0, 69]) (L2 := []) hA rfl ⟨kd_0.mpr rfl, kd_69.mpr rfl, trivial⟩ (by decide) (by decide) (fun _ h => nomatch h) (fun _ h => nomatch h) (fun _ _ _ => rfl) (fun h => h) rfl)⟩ h) rfl rfl (Nat.le_of_ble_eq_true rfl) (by omega) (by omega) (fun wA4 hA4 E wB4 hx => ?_) (fun wA4 hA4 v wB4 hx => ?_)
  · obtain ⟨h1, u2, hu, hI2⟩ := hx
    obtain rfl := List.mem_singleton.mp (zriE h1)
    refine ⟨"java/lang/IllegalArgumentException", [], [], (0, 9, 12, 13), rfl, (fun z hz => nomatch hz), by decide, by decide, lx_Lw_13, ce_13, fun qx => ?_⟩
    refine y_base (cs := []) (z_I.nil wB4) ?_
    refine y_astore_n (lv' := [(3, .ref qx), (0, .ref (ad 0)), (1, .int h), (2, .ref (ad 69))]) d_Lw_shrunkAnew_12 rfl (by decide) rfl ?_
    refine y_iconst d_Lw_shrunkAnew_13 (v := 1) (by decide) ?_
    refine y_iret d_Lw_shrunkAnew_14 rfl rfl ?_
    exact fun w1 h1 => ⟨⟨_, rfl⟩, u2, hu, (z_I.same (z_I.nil _) h1).symm ▸ hI2⟩
  · obtain ⟨h1, u2, hu, hI2⟩ := hx
    obtain ⟨v9, rfl⟩ := zriV h1
    refine yw_st (st2 := [.int v9, .int 0, .ref (ad 69)]) rfl ?_
    obtain ⟨s9, hI⟩ := hI2
    obtain ⟨e_o1, wf_o1, k_o1⟩ := hI.1.2 69 (by decide)
    obtain rfl := kd_69.mp k_o1
    refine y_base (cs := [((ad 69), .inl (3, 1, .inr (.inl (((mg t s9).1 69).2.1))))]) (hI.1.I [69] _ rfl (by decide) (by decide) (List.forall_mem_cons.mpr ⟨wf_o1, (fun _ h => nomatch h)⟩)) ?_
    refine y_i2l d_Lw_shrunkAnew_7 (v := v9.toInt64) rfl ?_
    refine y_last d_Lw_shrunkAnew_8 (q0 := 0) rfl (fun q => q.elim (by decide) (by decide)) (f' := vp_updL (((mg t s9).1 69).2.1) 0 v9.toInt64) rfl (cs' := [((ad 69), .inl (3, 1, .inr (.inl (vp_updL (((mg t s9).1 69).2.1) 0 v9.toInt64))))]) rfl ?_
    refine y_goto (tgt := 15) d_Lw_shrunkAnew_9 (by decide) ?_
    refine y_iconst d_Lw_shrunkAnew_15 (v := 0) (by decide) ?_
    refine y_iret d_Lw_shrunkAnew_16 rfl rfl ?_
    exact fun w1 h1 => ⟨⟨_, rfl⟩, u2, hu, IVm.tz ((hI.gen (t2 := (zup (mg t s9).1 [(69, (((mg t s9).1 69).1, vp_updL (((mg t s9).1 69).2.1) 0 v9.toInt64, ((mg t s9).1 69).2.2))], (mg t s9).2)) (is := [69]) (L2 := []) h1 rfl ⟨kd_69.mpr rfl, trivial⟩ (by decide) (by decide) (fun _ h => nomatch h) (fun _ h => nomatch h) (fun i hi hn => zup_out (fun q => hn ((by decide : ∀ j ∈ ([69] : List Nat), j ∈ ([69] : List Nat)) i q))) (fun h => h) rfl)) (tx_all rfl)⟩
abbrev M_Lw_lastPlace : zM := (⟨"IronpourLaw", "lastPlace", "(LIronpour;I[J)I"⟩, method_13_code, 4, (Option.some FieldType.int), 8, 158, [((0 : Nat), (9 : Nat), (12 : Nat), (13 : Nat)), ((0 : Nat), (9 : Nat), (15 : Nat), (33 : Nat))])
theorem d_Lw_lastPlace_0 : decode method_13_code 0 = .ok (.aload_n 2, 1) := zo_44 (zd_b zq_method_13_code_0 0 rfl rfl rfl)
theorem d_Lw_lastPlace_1 : decode method_13_code 1 = .ok (.iconst 0, 1) := zo_3 (zd_b zq_method_13_code_0 1 rfl rfl rfl)
theorem d_Lw_lastPlace_2 : decode method_13_code 2 = .ok (.aload_n 0, 1) := zo_42 (zd_b zq_method_13_code_0 2 rfl rfl rfl)
theorem d_Lw_lastPlace_3 : decode method_13_code 3 = .ok (.iload_n 1, 1) := zo_27 (zd_b zq_method_13_code_0 3 rfl rfl rfl)
theorem d_Lw_lastPlace_4 : decode method_13_code 4 = .ok (.invokevirtual 53, 3) := zo_182 (d := 0) (e := 53) (zd_b zq_method_13_code_0 4 rfl rfl rfl) (zd_b zq_method_13_code_0 5 rfl rfl rfl) (zd_b zq_method_13_code_0 6 rfl rfl rfl)
theorem ok_Lw_lastPlace_Ip_lastPlace : z_okH M_Lw_lastPlace M_Ip_lastPlace 1 := ⟨z_mj4 (i := 146) rfl (by decide +kernel), rfl, ⟨by decide +kernel, by decide +kernel, by decide +kernel⟩, ⟨by decide, by decide⟩, z_mj1 (i := 1) rfl (by decide +kernel)⟩
theorem ln_Lw_53 : Cond.methodLink "IronpourLaw" 53 M_Ip_lastPlace.1 ∈ z_gw := z_mj4 (i := 143) rfl (by decide +kernel)
theorem w_im_Ip_lastPlace : Cond.instanceMethod M_Ip_lastPlace.1 ∈ z_gw := z_mj4 (i := 144) rfl (by decide +kernel)
theorem w_se_Ip_lastPlace : Cond.selects M_Ip_lastPlace.1.cls M_Ip_lastPlace.1 M_Ip_lastPlace.1 ∈ z_gw := z_mj4 (i := 145) rfl (by decide +kernel)
theorem d_Lw_lastPlace_12 : decode method_13_code 12 = .ok (.astore_n 3, 1) := zo_78 (zd_b zq_method_13_code_0 12 rfl rfl rfl)
theorem d_Lw_lastPlace_13 : decode method_13_code 13 = .ok (.iconst 1, 1) := zo_4 (zd_b zq_method_13_code_0 13 rfl rfl rfl)
theorem d_Lw_lastPlace_14 : decode method_13_code 14 = .ok (.ireturn, 1) := zo_172 (zd_b zq_method_13_code_0 14 rfl rfl rfl)
theorem d_Lw_lastPlace_15 : decode method_13_code 15 = .ok (.astore_n 3, 1) := zo_78 (zd_b zq_method_13_code_0 15 rfl rfl rfl)
theorem d_Lw_lastPlace_16 : decode method_13_code 16 = .ok (.iconst 2, 1) := zo_5 (zd_b zq_method_13_code_0 16 rfl rfl rfl)
theorem d_Lw_lastPlace_17 : decode method_13_code 17 = .ok (.ireturn, 1) := zo_172 (zd_b zq_method_13_code_0 17 rfl rfl rfl)
theorem d_Lw_lastPlace_7 : decode method_13_code 7 = .ok (.i2l, 1) := zo_133 (zd_b zq_method_13_code_0 7 rfl rfl rfl)
theorem d_Lw_lastPlace_8 : decode method_13_code 8 = .ok (.lastore, 1) := zo_80 (zd_b zq_method_13_code_0 8 rfl rfl rfl)
theorem d_Lw_lastPlace_9 : decode method_13_code 9 = .ok (.goto 9, 3) := zo_167 (d := 0) (e := 9) (zd_b zq_method_13_code_0 9 rfl rfl rfl) (zd_b zq_method_13_code_0 10 rfl rfl rfl) (zd_b zq_method_13_code_0 11 rfl rfl rfl) (by decide +kernel)
theorem d_Lw_lastPlace_18 : decode method_13_code 18 = .ok (.iconst 0, 1) := zo_3 (zd_b zq_method_13_code_0 18 rfl rfl rfl)
theorem d_Lw_lastPlace_19 : decode method_13_code 19 = .ok (.ireturn, 1) := zo_172 (zd_b zq_method_13_code_0 19 rfl rfl rfl)
set_option maxHeartbeats 4000000 in
set_option maxRecDepth 100000 in
theorem W_lastPlace {g : zG} {ad : Nat → Nat} {t : zTT} {u : zNN} {w : zW} (hI : IVm g ad t u w) (h : Int32) : zMB g M_Lw_lastPlace [.ref (ad 0), .int h, .ref (ad 69)] w (fun o w1 => MKx g ad t u.1 o w1) 10 300 := by
  obtain ⟨s, hI⟩ := hI
  obtain ⟨e_a, wf_a, k_a⟩ := hI.1.2 0 (by decide)
  obtain rfl := kd_0.mp k_a
  obtain ⟨e_o1, wf_o1, k_o1⟩ := hI.1.2 69 (by decide)
  obtain rfl := kd_69.mp k_o1
  refine y_ofH (by decide) (by decide) (Nat.le_of_ble_eq_true rfl) (y_base (cs := [((ad 0), .inr (11, [.ref (ad 1), .ref (ad 5), .ref (ad 18), .ref (ad 31), .ref (ad 32), .ref (ad 36), .ref (ad 42), .ref (ad 45), .ref (ad 47), .ref (ad 49), .ref (ad 50), .ref (ad 51)])), ((ad 69), .inl (3, 1, .inr (.inl (((mg t s).1 69).2.1))))]) (hI.1.I [0, 69] _ rfl (by decide) (by decide) (List.forall_mem_cons.mpr ⟨wf_a, (List.forall_mem_cons.mpr ⟨wf_o1, (fun _ h => nomatch h)⟩)⟩)) ?_)
  refine y_lvE (lv2 := [(0, .ref (ad 0)), (1, .int h), (2, .ref (ad 69))]) rfl ?_
  refine y_aload_n d_Lw_lastPlace_0 rfl 2 rfl ?_
  refine y_iconst d_Lw_lastPlace_1 (v := 0) (by decide) ?_
  refine y_aload_n d_Lw_lastPlace_2 rfl 0 rfl ?_
  refine y_iload_n d_Lw_lastPlace_3 rfl 1 rfl ?_
  refine yw_callVH (As := [.int h]) (rest := [.int 0, .ref (ad 69)]) (q0 := 0) rfl rfl ln_Lw_53 w_im_Ip_lastPlace w_se_Ip_lastPlace ok_Lw_lastPlace_Ip_lastPlace d_Lw_lastPlace_4 (fun wA hA => K_Ip_lastPlace ⟨_, (hI.gen (t2 := (mg t s)) (is := [0, 69]) (L2 := []) hA rfl ⟨kd_0.mpr rfl, kd_69.mpr rfl, trivial⟩ (by decide) (by decide) (fun _ h => nomatch h) (fun _ h => nomatch h) (fun _ _ _ => rfl) (fun h => h) rfl)⟩ h) rfl rfl (Nat.le_of_ble_eq_true rfl) (by omega) (by omega) (fun wA4 hA4 E wB4 hx => ?_) (fun wA4 hA4 v wB4 hx => ?_)
  · obtain ⟨h1, u2, hu, hI2⟩ := hx
    rcases List.mem_cons.mp (zriE h1) with rfl | g2
    · refine ⟨"java/lang/IllegalArgumentException", [], [(0, 9, 15, 33)], (0, 9, 12, 13), rfl, (fun z hz => nomatch hz), by decide, by decide, lx_Lw_13, ce_13, fun qx => ?_⟩
      refine y_base (cs := []) (z_I.nil wB4) ?_
      refine y_astore_n (lv' := [(3, .ref qx), (0, .ref (ad 0)), (1, .int h), (2, .ref (ad 69))]) d_Lw_lastPlace_12 rfl (by decide) rfl ?_
      refine y_iconst d_Lw_lastPlace_13 (v := 1) (by decide) ?_
      refine y_iret d_Lw_lastPlace_14 rfl rfl ?_
      exact fun w1 h1 => ⟨⟨_, rfl⟩, u2, hu, (z_I.same (z_I.nil _) h1).symm ▸ hI2⟩
    · obtain rfl := List.mem_singleton.mp g2
      refine ⟨"java/util/NoSuchElementException", [(0, 9, 12, 13)], [], (0, 9, 15, 33), rfl, (fun z hz => by simp only [List.mem_cons, List.not_mem_nil, or_false] at hz; rcases hz with rfl; exact Or.inr ⟨by decide, _, lx_Lw_13, by decide⟩), by decide, by decide, lx_Lw_33, ce_33, fun qx => ?_⟩
      refine y_base (cs := []) (z_I.nil wB4) ?_
      refine y_astore_n (lv' := [(3, .ref qx), (0, .ref (ad 0)), (1, .int h), (2, .ref (ad 69))]) d_Lw_lastPlace_15 rfl (by decide) rfl ?_
      refine y_iconst d_Lw_lastPlace_16 (v := 2) (by decide) ?_
      refine y_iret d_Lw_lastPlace_17 rfl rfl ?_
      exact fun w1 h1 => ⟨⟨_, rfl⟩, u2, hu, (z_I.same (z_I.nil _) h1).symm ▸ hI2⟩
  · obtain ⟨h1, u2, hu, hI2⟩ := hx
    obtain ⟨v9, rfl⟩ := zriV h1
    refine yw_st (st2 := [.int v9, .int 0, .ref (ad 69)]) rfl ?_
    obtain ⟨s9, hI⟩ := hI2
    obtain ⟨e_o1, wf_o1, k_o1⟩ := hI.1.2 69 (by decide)
    obtain rfl := kd_69.mp k_o1
    refine y_base (cs := [((ad 69), .inl (3, 1, .inr (.inl (((mg t s9).1 69).2.1))))]) (hI.1.I [69] _ rfl (by decide) (by decide) (List.forall_mem_cons.mpr ⟨wf_o1, (fun _ h => nomatch h)⟩)) ?_
    refine y_i2l d_Lw_lastPlace_7 (v := v9.toInt64) rfl ?_
    refine y_last d_Lw_lastPlace_8 (q0 := 0) rfl (fun q => q.elim (by decide) (by decide)) (f' := vp_updL (((mg t s9).1 69).2.1) 0 v9.toInt64) rfl (cs' := [((ad 69), .inl (3, 1, .inr (.inl (vp_updL (((mg t s9).1 69).2.1) 0 v9.toInt64))))]) rfl ?_
    refine y_goto (tgt := 18) d_Lw_lastPlace_9 (by decide) ?_
    refine y_iconst d_Lw_lastPlace_18 (v := 0) (by decide) ?_
    refine y_iret d_Lw_lastPlace_19 rfl rfl ?_
    exact fun w1 h1 => ⟨⟨_, rfl⟩, u2, hu, IVm.tz ((hI.gen (t2 := (zup (mg t s9).1 [(69, (((mg t s9).1 69).1, vp_updL (((mg t s9).1 69).2.1) 0 v9.toInt64, ((mg t s9).1 69).2.2))], (mg t s9).2)) (is := [69]) (L2 := []) h1 rfl ⟨kd_69.mpr rfl, trivial⟩ (by decide) (by decide) (fun _ h => nomatch h) (fun _ h => nomatch h) (fun i hi hn => zup_out (fun q => hn ((by decide : ∀ j ∈ ([69] : List Nat), j ∈ ([69] : List Nat)) i q))) (fun h => h) rfl)) (tx_all rfl)⟩
abbrev M_Lw_bestFeeder : zM := (⟨"IronpourLaw", "bestFeeder", "(LIronpour;I[J)I"⟩, method_14_code, 4, (Option.some FieldType.int), 8, 184, [((0 : Nat), (9 : Nat), (12 : Nat), (13 : Nat)), ((0 : Nat), (9 : Nat), (15 : Nat), (33 : Nat))])
theorem d_Lw_bestFeeder_0 : decode method_14_code 0 = .ok (.aload_n 2, 1) := zo_44 (zd_b zq_method_14_code_0 0 rfl rfl rfl)
theorem d_Lw_bestFeeder_1 : decode method_14_code 1 = .ok (.iconst 0, 1) := zo_3 (zd_b zq_method_14_code_0 1 rfl rfl rfl)
theorem d_Lw_bestFeeder_2 : decode method_14_code 2 = .ok (.aload_n 0, 1) := zo_42 (zd_b zq_method_14_code_0 2 rfl rfl rfl)
theorem d_Lw_bestFeeder_3 : decode method_14_code 3 = .ok (.iload_n 1, 1) := zo_27 (zd_b zq_method_14_code_0 3 rfl rfl rfl)
theorem d_Lw_bestFeeder_4 : decode method_14_code 4 = .ok (.invokevirtual 56, 3) := zo_182 (d := 0) (e := 56) (zd_b zq_method_14_code_0 4 rfl rfl rfl) (zd_b zq_method_14_code_0 5 rfl rfl rfl) (zd_b zq_method_14_code_0 6 rfl rfl rfl)
theorem ok_Lw_bestFeeder_Ip_bestFeeder : z_okH M_Lw_bestFeeder M_Ip_bestFeeder 1 := ⟨z_mj4 (i := 158) rfl (by decide +kernel), rfl, ⟨by decide +kernel, by decide +kernel, by decide +kernel⟩, ⟨by decide, by decide⟩, z_mj1 (i := 1) rfl (by decide +kernel)⟩
theorem ln_Lw_56 : Cond.methodLink "IronpourLaw" 56 M_Ip_bestFeeder.1 ∈ z_gw := z_mj4 (i := 155) rfl (by decide +kernel)
theorem w_im_Ip_bestFeeder : Cond.instanceMethod M_Ip_bestFeeder.1 ∈ z_gw := z_mj4 (i := 156) rfl (by decide +kernel)
theorem w_se_Ip_bestFeeder : Cond.selects M_Ip_bestFeeder.1.cls M_Ip_bestFeeder.1 M_Ip_bestFeeder.1 ∈ z_gw := z_mj4 (i := 157) rfl (by decide +kernel)
theorem d_Lw_bestFeeder_12 : decode method_14_code 12 = .ok (.astore_n 3, 1) := zo_78 (zd_b zq_method_14_code_0 12 rfl rfl rfl)
theorem d_Lw_bestFeeder_13 : decode method_14_code 13 = .ok (.iconst 1, 1) := zo_4 (zd_b zq_method_14_code_0 13 rfl rfl rfl)
theorem d_Lw_bestFeeder_14 : decode method_14_code 14 = .ok (.ireturn, 1) := zo_172 (zd_b zq_method_14_code_0 14 rfl rfl rfl)
theorem d_Lw_bestFeeder_15 : decode method_14_code 15 = .ok (.astore_n 3, 1) := zo_78 (zd_b zq_method_14_code_0 15 rfl rfl rfl)
theorem d_Lw_bestFeeder_16 : decode method_14_code 16 = .ok (.iconst 2, 1) := zo_5 (zd_b zq_method_14_code_0 16 rfl rfl rfl)
theorem d_Lw_bestFeeder_17 : decode method_14_code 17 = .ok (.ireturn, 1) := zo_172 (zd_b zq_method_14_code_0 17 rfl rfl rfl)
theorem d_Lw_bestFeeder_7 : decode method_14_code 7 = .ok (.i2l, 1) := zo_133 (zd_b zq_method_14_code_0 7 rfl rfl rfl)
theorem d_Lw_bestFeeder_8 : decode method_14_code 8 = .ok (.lastore, 1) := zo_80 (zd_b zq_method_14_code_0 8 rfl rfl rfl)
theorem d_Lw_bestFeeder_9 : decode method_14_code 9 = .ok (.goto 9, 3) := zo_167 (d := 0) (e := 9) (zd_b zq_method_14_code_0 9 rfl rfl rfl) (zd_b zq_method_14_code_0 10 rfl rfl rfl) (zd_b zq_method_14_code_0 11 rfl rfl rfl) (by decide +kernel)
theorem d_Lw_bestFeeder_18 : decode method_14_code 18 = .ok (.iconst 0, 1) := zo_3 (zd_b zq_method_14_code_0 18 rfl rfl rfl)
theorem d_Lw_bestFeeder_19 : decode method_14_code 19 = .ok (.ireturn, 1) := zo_172 (zd_b zq_method_14_code_0 19 rfl rfl rfl)
set_option maxHeartbeats 4000000 in
set_option maxRecDepth 100000 in
theorem W_bestFeeder {g : zG} {ad : Nat → Nat} {t : zTT} {u : zNN} {w : zW} (hI : IVm g ad t u w) (h : Int32) : zMB g M_Lw_bestFeeder [.ref (ad 0), .int h, .ref (ad 69)] w (fun o w1 => MKx g ad t u.1 o w1) 10 300 := by
  obtain ⟨s, hI⟩ := hI
  obtain ⟨e_a, wf_a, k_a⟩ := hI.1.2 0 (by decide)
  obtain rfl := kd_0.mp k_a
  obtain ⟨e_o1, wf_o1, k_o1⟩ := hI.1.2 69 (by decide)
  obtain rfl := kd_69.mp k_o1
  refine y_ofH (by decide) (by decide) (Nat.le_of_ble_eq_true rfl) (y_base (cs := [((ad 0), .inr (11, [.ref (ad 1), .ref (ad 5), .ref (ad 18), .ref (ad 31), .ref (ad 32), .ref (ad 36), .ref (ad 42), .ref (ad 45), .ref (ad 47), .ref (ad 49), .ref (ad 50), .ref (ad 51)])), ((ad 69), .inl (3, 1, .inr (.inl (((mg t s).1 69).2.1))))]) (hI.1.I [0, 69] _ rfl (by decide) (by decide) (List.forall_mem_cons.mpr ⟨wf_a, (List.forall_mem_cons.mpr ⟨wf_o1, (fun _ h => nomatch h)⟩)⟩)) ?_)
  refine y_lvE (lv2 := [(0, .ref (ad 0)), (1, .int h), (2, .ref (ad 69))]) rfl ?_
  refine y_aload_n d_Lw_bestFeeder_0 rfl 2 rfl ?_
  refine y_iconst d_Lw_bestFeeder_1 (v := 0) (by decide) ?_
  refine y_aload_n d_Lw_bestFeeder_2 rfl 0 rfl ?_
  refine y_iload_n d_Lw_bestFeeder_3 rfl 1 rfl ?_
  refine yw_callVH (As := [.int h]) (rest := [.int 0, .ref (ad 69)]) (q0 := 0) rfl rfl ln_Lw_56 w_im_Ip_bestFeeder w_se_Ip_bestFeeder ok_Lw_bestFeeder_Ip_bestFeeder d_Lw_bestFeeder_4 (fun wA hA => K_Ip_bestFeeder ⟨_, (hI.gen (t2 := (mg t s)) (is := [0, 69]) (L2 := []) hA rfl ⟨kd_0.mpr rfl, kd_69.mpr rfl, trivial⟩ (by decide) (by decide) (fun _ h => nomatch h) (fun _ h => nomatch h) (fun _ _ _ => rfl) (fun h => h) rfl)⟩ h) rfl rfl (Nat.le_of_ble_eq_true rfl) (by omega) (by omega) (fun wA4 hA4 E wB4 hx => ?_) (fun wA4 hA4 v wB4 hx => ?_)
  · obtain ⟨h1, u2, hu, hI2⟩ := hx
    rcases List.mem_cons.mp (zriE h1) with rfl | g2
    · refine ⟨"java/lang/IllegalArgumentException", [], [(0, 9, 15, 33)], (0, 9, 12, 13), rfl, (fun z hz => nomatch hz), by decide, by decide, lx_Lw_13, ce_13, fun qx => ?_⟩
      refine y_base (cs := []) (z_I.nil wB4) ?_
      refine y_astore_n (lv' := [(3, .ref qx), (0, .ref (ad 0)), (1, .int h), (2, .ref (ad 69))]) d_Lw_bestFeeder_12 rfl (by decide) rfl ?_
      refine y_iconst d_Lw_bestFeeder_13 (v := 1) (by decide) ?_
      refine y_iret d_Lw_bestFeeder_14 rfl rfl ?_
      exact fun w1 h1 => ⟨⟨_, rfl⟩, u2, hu, (z_I.same (z_I.nil _) h1).symm ▸ hI2⟩
    · obtain rfl := List.mem_singleton.mp g2
      refine ⟨"java/util/NoSuchElementException", [(0, 9, 12, 13)], [], (0, 9, 15, 33), rfl, (fun z hz => by simp only [List.mem_cons, List.not_mem_nil, or_false] at hz; rcases hz with rfl; exact Or.inr ⟨by decide, _, lx_Lw_13, by decide⟩), by decide, by decide, lx_Lw_33, ce_33, fun qx => ?_⟩
      refine y_base (cs := []) (z_I.nil wB4) ?_
      refine y_astore_n (lv' := [(3, .ref qx), (0, .ref (ad 0)), (1, .int h), (2, .ref (ad 69))]) d_Lw_bestFeeder_15 rfl (by decide) rfl ?_
      refine y_iconst d_Lw_bestFeeder_16 (v := 2) (by decide) ?_
      refine y_iret d_Lw_bestFeeder_17 rfl rfl ?_
      exact fun w1 h1 => ⟨⟨_, rfl⟩, u2, hu, (z_I.same (z_I.nil _) h1).symm ▸ hI2⟩
  · obtain ⟨h1, u2, hu, hI2⟩ := hx
    obtain ⟨v9, rfl⟩ := zriV h1
    refine yw_st (st2 := [.int v9, .int 0, .ref (ad 69)]) rfl ?_
    obtain ⟨s9, hI⟩ := hI2
    obtain ⟨e_o1, wf_o1, k_o1⟩ := hI.1.2 69 (by decide)
    obtain rfl := kd_69.mp k_o1
    refine y_base (cs := [((ad 69), .inl (3, 1, .inr (.inl (((mg t s9).1 69).2.1))))]) (hI.1.I [69] _ rfl (by decide) (by decide) (List.forall_mem_cons.mpr ⟨wf_o1, (fun _ h => nomatch h)⟩)) ?_
    refine y_i2l d_Lw_bestFeeder_7 (v := v9.toInt64) rfl ?_
    refine y_last d_Lw_bestFeeder_8 (q0 := 0) rfl (fun q => q.elim (by decide) (by decide)) (f' := vp_updL (((mg t s9).1 69).2.1) 0 v9.toInt64) rfl (cs' := [((ad 69), .inl (3, 1, .inr (.inl (vp_updL (((mg t s9).1 69).2.1) 0 v9.toInt64))))]) rfl ?_
    refine y_goto (tgt := 18) d_Lw_bestFeeder_9 (by decide) ?_
    refine y_iconst d_Lw_bestFeeder_18 (v := 0) (by decide) ?_
    refine y_iret d_Lw_bestFeeder_19 rfl rfl ?_
    exact fun w1 h1 => ⟨⟨_, rfl⟩, u2, hu, IVm.tz ((hI.gen (t2 := (zup (mg t s9).1 [(69, (((mg t s9).1 69).1, vp_updL (((mg t s9).1 69).2.1) 0 v9.toInt64, ((mg t s9).1 69).2.2))], (mg t s9).2)) (is := [69]) (L2 := []) h1 rfl ⟨kd_69.mpr rfl, trivial⟩ (by decide) (by decide) (fun _ h => nomatch h) (fun _ h => nomatch h) (fun i hi hn => zup_out (fun q => hn ((by decide : ∀ j ∈ ([69] : List Nat), j ∈ ([69] : List Nat)) i q))) (fun h => h) rfl)) (tx_all rfl)⟩
abbrev M_Lw_mill : zM := (⟨"IronpourLaw", "mill", "(LIronpour;IIII[J)I"⟩, method_15_code, 7, (Option.some FieldType.int), 7, 124, [((0 : Nat), (14 : Nat), (17 : Nat), (13 : Nat))])
theorem d_Lw_mill_0 : decode method_15_code 0 = .ok (.aload 5, 2) := zo_25 (d := 5) (zd_b zq_method_15_code_0 0 rfl rfl rfl) (zd_b zq_method_15_code_0 1 rfl rfl rfl)
theorem d_Lw_mill_2 : decode method_15_code 2 = .ok (.iconst 0, 1) := zo_3 (zd_b zq_method_15_code_0 2 rfl rfl rfl)
theorem d_Lw_mill_3 : decode method_15_code 3 = .ok (.aload_n 0, 1) := zo_42 (zd_b zq_method_15_code_0 3 rfl rfl rfl)
theorem d_Lw_mill_4 : decode method_15_code 4 = .ok (.iload_n 1, 1) := zo_27 (zd_b zq_method_15_code_0 4 rfl rfl rfl)
theorem d_Lw_mill_5 : decode method_15_code 5 = .ok (.iload_n 2, 1) := zo_28 (zd_b zq_method_15_code_0 5 rfl rfl rfl)
theorem d_Lw_mill_6 : decode method_15_code 6 = .ok (.iload_n 3, 1) := zo_29 (zd_b zq_method_15_code_0 6 rfl rfl rfl)
theorem d_Lw_mill_7 : decode method_15_code 7 = .ok (.iload 4, 2) := zo_21 (d := 4) (zd_b zq_method_15_code_0 7 rfl rfl rfl) (zd_b zq_method_15_code_0 8 rfl rfl rfl)
theorem d_Lw_mill_9 : decode method_15_code 9 = .ok (.invokevirtual 59, 3) := zo_182 (d := 0) (e := 59) (zd_b zq_method_15_code_0 9 rfl rfl rfl) (zd_b zq_method_15_code_0 10 rfl rfl rfl) (zd_b zq_method_15_code_0 11 rfl rfl rfl)
theorem ok_Lw_mill_Ip_mill : z_okH M_Lw_mill M_Ip_mill 4 := ⟨z_mj4 (i := 174) rfl (by decide +kernel), rfl, ⟨by decide +kernel, by decide +kernel, by decide +kernel⟩, ⟨by decide, by decide⟩, z_mj1 (i := 1) rfl (by decide +kernel)⟩
theorem ln_Lw_59 : Cond.methodLink "IronpourLaw" 59 M_Ip_mill.1 ∈ z_gw := z_mj4 (i := 171) rfl (by decide +kernel)
theorem w_im_Ip_mill : Cond.instanceMethod M_Ip_mill.1 ∈ z_gw := z_mj4 (i := 172) rfl (by decide +kernel)
theorem w_se_Ip_mill : Cond.selects M_Ip_mill.1.cls M_Ip_mill.1 M_Ip_mill.1 ∈ z_gw := z_mj4 (i := 173) rfl (by decide +kernel)
theorem d_Lw_mill_17 : decode method_15_code 17 = .ok (.astore 6, 2) := zo_58 (d := 6) (zd_b zq_method_15_code_0 17 rfl rfl rfl) (zd_b zq_method_15_code_0 18 rfl rfl rfl)
theorem d_Lw_mill_19 : decode method_15_code 19 = .ok (.iconst 1, 1) := zo_4 (zd_b zq_method_15_code_0 19 rfl rfl rfl)
theorem d_Lw_mill_20 : decode method_15_code 20 = .ok (.ireturn, 1) := zo_172 (zd_b zq_method_15_code_0 20 rfl rfl rfl)
theorem d_Lw_mill_12 : decode method_15_code 12 = .ok (.i2l, 1) := zo_133 (zd_b zq_method_15_code_0 12 rfl rfl rfl)
theorem d_Lw_mill_13 : decode method_15_code 13 = .ok (.lastore, 1) := zo_80 (zd_b zq_method_15_code_0 13 rfl rfl rfl)
theorem d_Lw_mill_14 : decode method_15_code 14 = .ok (.goto 7, 3) := zo_167 (d := 0) (e := 7) (zd_b zq_method_15_code_0 14 rfl rfl rfl) (zd_b zq_method_15_code_0 15 rfl rfl rfl) (zd_b zq_method_15_code_0 16 rfl rfl rfl) (by decide +kernel)
theorem d_Lw_mill_21 : decode method_15_code 21 = .ok (.iconst 0, 1) := zo_3 (zd_b zq_method_15_code_0 21 rfl rfl rfl)
theorem d_Lw_mill_22 : decode method_15_code 22 = .ok (.ireturn, 1) := zo_172 (zd_b zq_method_15_code_0 22 rfl rfl rfl)
set_option maxHeartbeats 4000000 in
set_option maxRecDepth 100000 in
theorem W_mill {g : zG} {ad : Nat → Nat} {t : zTT} {u : zNN} {w : zW} (hI : IVm g ad t u w) (m1 m2 m3 m4 : Int32) : zMB g M_Lw_mill [.ref (ad 0), .int m1, .int m2, .int m3, .int m4, .ref (ad 69)] w (fun o w1 => MKx g ad (tK_Ip_mill m1 m2 m3 m4 t) u.1 o w1) 10 300 := by
  obtain ⟨s, hI⟩ := hI
  obtain ⟨e_a, wf_a, k_a⟩ := hI.1.2 0 (by decide)
  obtain rfl := kd_0.mp k_a
  obtain ⟨e_o1, wf_o1, k_o1⟩ := hI.1.2 69 (by decide)
  obtain rfl := kd_69.mp k_o1
  refine y_ofH (by decide) (by decide) (Nat.le_of_ble_eq_true rfl) (y_base (cs := [((ad 0), .inr (11, [.ref (ad 1), .ref (ad 5), .ref (ad 18), .ref (ad 31), .ref (ad 32), .ref (ad 36), .ref (ad 42), .ref (ad 45), .ref (ad 47), .ref (ad 49), .ref (ad 50), .ref (ad 51)])), ((ad 69), .inl (3, 1, .inr (.inl (((mg t s).1 69).2.1))))]) (hI.1.I [0, 69] _ rfl (by decide) (by decide) (List.forall_mem_cons.mpr ⟨wf_a, (List.forall_mem_cons.mpr ⟨wf_o1, (fun _ h => nomatch h)⟩)⟩)) ?_)
  refine y_lvE (lv2 := [(0, .ref (ad 0)), (1, .int m1), (2, .int m2), (3, .int m3), (4, .int m4), (5, .ref (ad 69))]) rfl ?_
  refine y_aload d_Lw_mill_0 5 rfl ?_
  refine y_iconst d_Lw_mill_2 (v := 0) (by decide) ?_
  refine y_aload_n d_Lw_mill_3 rfl 0 rfl ?_
  refine y_iload_n d_Lw_mill_4 rfl 1 rfl ?_
  refine y_iload_n d_Lw_mill_5 rfl 2 rfl ?_
  refine y_iload_n d_Lw_mill_6 rfl 3 rfl ?_
  refine y_iload d_Lw_mill_7 4 rfl ?_
  refine yw_callVH (As := [.int m1, .int m2, .int m3, .int m4]) (rest := [.int 0, .ref (ad 69)]) (q0 := 0) rfl rfl ln_Lw_59 w_im_Ip_mill w_se_Ip_mill ok_Lw_mill_Ip_mill d_Lw_mill_9 (fun wA hA => K_Ip_mill ⟨_, (hI.gen (t2 := (mg t s)) (is := [0, 69]) (L2 := []) hA rfl ⟨kd_0.mpr rfl, kd_69.mpr rfl, trivial⟩ (by decide) (by decide) (fun _ h => nomatch h) (fun _ h => nomatch h) (fun _ _ _ => rfl) (fun h => h) rfl)⟩ m1 m2 m3 m4) rfl rfl (Nat.le_of_ble_eq_true rfl) (by omega) (by omega) (fun wA9 hA9 E wB9 hx => ?_) (fun wA9 hA9 v wB9 hx => ?_)
  · obtain ⟨h1, u2, hu, hI2⟩ := hx
    obtain rfl := List.mem_singleton.mp (zriE h1)
    refine ⟨"java/lang/IllegalArgumentException", [], [], (0, 14, 17, 13), rfl, (fun z hz => nomatch hz), by decide, by decide, lx_Lw_13, ce_13, fun qx => ?_⟩
    refine y_base (cs := []) (z_I.nil wB9) ?_
    refine y_astore (lv' := [(6, .ref qx), (0, .ref (ad 0)), (1, .int m1), (2, .int m2), (3, .int m3), (4, .int m4), (5, .ref (ad 69))]) d_Lw_mill_17 (by decide) rfl ?_
    refine y_iconst d_Lw_mill_19 (v := 1) (by decide) ?_
    refine y_iret d_Lw_mill_20 rfl rfl ?_
    exact fun w1 h1 => ⟨⟨_, rfl⟩, u2, hu, (z_I.same (z_I.nil _) h1).symm ▸ hI2⟩
  · obtain ⟨h1, u2, hu, hI2⟩ := hx
    obtain ⟨v9, rfl⟩ := zriV h1
    refine yw_st (st2 := [.int v9, .int 0, .ref (ad 69)]) rfl ?_
    obtain ⟨s9, hI⟩ := hI2
    obtain ⟨e_o1, wf_o1, k_o1⟩ := hI.1.2 69 (by decide)
    obtain rfl := kd_69.mp k_o1
    refine y_base (cs := [((ad 69), .inl (3, 1, .inr (.inl (((mg (tK_Ip_mill m1 m2 m3 m4 t) s9).1 69).2.1))))]) (hI.1.I [69] _ rfl (by decide) (by decide) (List.forall_mem_cons.mpr ⟨wf_o1, (fun _ h => nomatch h)⟩)) ?_
    refine y_i2l d_Lw_mill_12 (v := v9.toInt64) rfl ?_
    refine y_last d_Lw_mill_13 (q0 := 0) rfl (fun q => q.elim (by decide) (by decide)) (f' := vp_updL (((mg (tK_Ip_mill m1 m2 m3 m4 t) s9).1 69).2.1) 0 v9.toInt64) rfl (cs' := [((ad 69), .inl (3, 1, .inr (.inl (vp_updL (((mg (tK_Ip_mill m1 m2 m3 m4 t) s9).1 69).2.1) 0 v9.toInt64))))]) rfl ?_
    refine y_goto (tgt := 21) d_Lw_mill_14 (by decide) ?_
    refine y_iconst d_Lw_mill_21 (v := 0) (by decide) ?_
    refine y_iret d_Lw_mill_22 rfl rfl ?_
    exact fun w1 h1 => ⟨⟨_, rfl⟩, u2, hu, IVm.tz ((hI.gen (t2 := (zup (mg (tK_Ip_mill m1 m2 m3 m4 t) s9).1 [(69, (((mg (tK_Ip_mill m1 m2 m3 m4 t) s9).1 69).1, vp_updL (((mg (tK_Ip_mill m1 m2 m3 m4 t) s9).1 69).2.1) 0 v9.toInt64, ((mg (tK_Ip_mill m1 m2 m3 m4 t) s9).1 69).2.2))], (mg (tK_Ip_mill m1 m2 m3 m4 t) s9).2)) (is := [69]) (L2 := []) h1 rfl ⟨kd_69.mpr rfl, trivial⟩ (by decide) (by decide) (fun _ h => nomatch h) (fun _ h => nomatch h) (fun i hi hn => zup_out (fun q => hn ((by decide : ∀ j ∈ ([69] : List Nat), j ∈ ([69] : List Nat)) i q))) (fun h => h) rfl)) (tx_all rfl)⟩
abbrev M_Lw_sand : zM := (⟨"IronpourLaw", "sand", "(LIronpour;C[J)I"⟩, method_16_code, 4, (Option.some FieldType.int), 7, 121, [((0 : Nat), (9 : Nat), (12 : Nat), (13 : Nat))])
theorem d_Lw_sand_0 : decode method_16_code 0 = .ok (.aload_n 2, 1) := zo_44 (zd_b zq_method_16_code_0 0 rfl rfl rfl)
theorem d_Lw_sand_1 : decode method_16_code 1 = .ok (.iconst 0, 1) := zo_3 (zd_b zq_method_16_code_0 1 rfl rfl rfl)
theorem d_Lw_sand_2 : decode method_16_code 2 = .ok (.aload_n 0, 1) := zo_42 (zd_b zq_method_16_code_0 2 rfl rfl rfl)
theorem d_Lw_sand_3 : decode method_16_code 3 = .ok (.iload_n 1, 1) := zo_27 (zd_b zq_method_16_code_0 3 rfl rfl rfl)
theorem d_Lw_sand_4 : decode method_16_code 4 = .ok (.invokevirtual 62, 3) := zo_182 (d := 0) (e := 62) (zd_b zq_method_16_code_0 4 rfl rfl rfl) (zd_b zq_method_16_code_0 5 rfl rfl rfl) (zd_b zq_method_16_code_0 6 rfl rfl rfl)
theorem ok_Lw_sand_Ip_sand : z_okH M_Lw_sand M_Ip_sand 1 := ⟨z_mj4 (i := 195) rfl (by decide +kernel), rfl, ⟨by decide +kernel, by decide +kernel, by decide +kernel⟩, ⟨by decide, by decide⟩, z_mj1 (i := 1) rfl (by decide +kernel)⟩
theorem ln_Lw_62 : Cond.methodLink "IronpourLaw" 62 M_Ip_sand.1 ∈ z_gw := z_mj4 (i := 192) rfl (by decide +kernel)
theorem w_im_Ip_sand : Cond.instanceMethod M_Ip_sand.1 ∈ z_gw := z_mj4 (i := 193) rfl (by decide +kernel)
theorem w_se_Ip_sand : Cond.selects M_Ip_sand.1.cls M_Ip_sand.1 M_Ip_sand.1 ∈ z_gw := z_mj4 (i := 194) rfl (by decide +kernel)
theorem d_Lw_sand_12 : decode method_16_code 12 = .ok (.astore_n 3, 1) := zo_78 (zd_b zq_method_16_code_0 12 rfl rfl rfl)
theorem d_Lw_sand_13 : decode method_16_code 13 = .ok (.iconst 1, 1) := zo_4 (zd_b zq_method_16_code_0 13 rfl rfl rfl)
theorem d_Lw_sand_14 : decode method_16_code 14 = .ok (.ireturn, 1) := zo_172 (zd_b zq_method_16_code_0 14 rfl rfl rfl)
theorem d_Lw_sand_7 : decode method_16_code 7 = .ok (.i2l, 1) := zo_133 (zd_b zq_method_16_code_0 7 rfl rfl rfl)
theorem d_Lw_sand_8 : decode method_16_code 8 = .ok (.lastore, 1) := zo_80 (zd_b zq_method_16_code_0 8 rfl rfl rfl)
theorem d_Lw_sand_9 : decode method_16_code 9 = .ok (.goto 6, 3) := zo_167 (d := 0) (e := 6) (zd_b zq_method_16_code_0 9 rfl rfl rfl) (zd_b zq_method_16_code_0 10 rfl rfl rfl) (zd_b zq_method_16_code_0 11 rfl rfl rfl) (by decide +kernel)
theorem d_Lw_sand_15 : decode method_16_code 15 = .ok (.iconst 0, 1) := zo_3 (zd_b zq_method_16_code_0 15 rfl rfl rfl)
theorem d_Lw_sand_16 : decode method_16_code 16 = .ok (.ireturn, 1) := zo_172 (zd_b zq_method_16_code_0 16 rfl rfl rfl)
set_option maxHeartbeats 4000000 in
set_option maxRecDepth 100000 in
theorem W_sand {g : zG} {ad : Nat → Nat} {t : zTT} {u : zNN} {w : zW} (hI : IVm g ad t u w) (w9 : Int32) : zMB g M_Lw_sand [.ref (ad 0), .int w9, .ref (ad 69)] w (fun o w1 => MKx g ad t u.1 o w1) 10 300 := by
  obtain ⟨s, hI⟩ := hI
  obtain ⟨e_a, wf_a, k_a⟩ := hI.1.2 0 (by decide)
  obtain rfl := kd_0.mp k_a
  obtain ⟨e_o1, wf_o1, k_o1⟩ := hI.1.2 69 (by decide)
  obtain rfl := kd_69.mp k_o1
  refine y_ofH (by decide) (by decide) (Nat.le_of_ble_eq_true rfl) (y_base (cs := [((ad 0), .inr (11, [.ref (ad 1), .ref (ad 5), .ref (ad 18), .ref (ad 31), .ref (ad 32), .ref (ad 36), .ref (ad 42), .ref (ad 45), .ref (ad 47), .ref (ad 49), .ref (ad 50), .ref (ad 51)])), ((ad 69), .inl (3, 1, .inr (.inl (((mg t s).1 69).2.1))))]) (hI.1.I [0, 69] _ rfl (by decide) (by decide) (List.forall_mem_cons.mpr ⟨wf_a, (List.forall_mem_cons.mpr ⟨wf_o1, (fun _ h => nomatch h)⟩)⟩)) ?_)
  refine y_lvE (lv2 := [(0, .ref (ad 0)), (1, .int w9), (2, .ref (ad 69))]) rfl ?_
  refine y_aload_n d_Lw_sand_0 rfl 2 rfl ?_
  refine y_iconst d_Lw_sand_1 (v := 0) (by decide) ?_
  refine y_aload_n d_Lw_sand_2 rfl 0 rfl ?_
  refine y_iload_n d_Lw_sand_3 rfl 1 rfl ?_
  refine yw_callVH (As := [.int w9]) (rest := [.int 0, .ref (ad 69)]) (q0 := 0) rfl rfl ln_Lw_62 w_im_Ip_sand w_se_Ip_sand ok_Lw_sand_Ip_sand d_Lw_sand_4 (fun wA hA => K_Ip_sand ⟨_, (hI.gen (t2 := (mg t s)) (is := [0, 69]) (L2 := []) hA rfl ⟨kd_0.mpr rfl, kd_69.mpr rfl, trivial⟩ (by decide) (by decide) (fun _ h => nomatch h) (fun _ h => nomatch h) (fun _ _ _ => rfl) (fun h => h) rfl)⟩ w9) rfl rfl (Nat.le_of_ble_eq_true rfl) (by omega) (by omega) (fun wA4 hA4 E wB4 hx => ?_) (fun wA4 hA4 v wB4 hx => ?_)
  · obtain ⟨h1, u2, hu, hI2⟩ := hx
    obtain rfl := List.mem_singleton.mp (zriE h1)
    refine ⟨"java/lang/IllegalArgumentException", [], [], (0, 9, 12, 13), rfl, (fun z hz => nomatch hz), by decide, by decide, lx_Lw_13, ce_13, fun qx => ?_⟩
    refine y_base (cs := []) (z_I.nil wB4) ?_
    refine y_astore_n (lv' := [(3, .ref qx), (0, .ref (ad 0)), (1, .int w9), (2, .ref (ad 69))]) d_Lw_sand_12 rfl (by decide) rfl ?_
    refine y_iconst d_Lw_sand_13 (v := 1) (by decide) ?_
    refine y_iret d_Lw_sand_14 rfl rfl ?_
    exact fun w1 h1 => ⟨⟨_, rfl⟩, u2, hu, (z_I.same (z_I.nil _) h1).symm ▸ hI2⟩
  · obtain ⟨h1, u2, hu, hI2⟩ := hx
    obtain ⟨v9, rfl⟩ := zriV h1
    refine yw_st (st2 := [.int v9, .int 0, .ref (ad 69)]) rfl ?_
    obtain ⟨s9, hI⟩ := hI2
    obtain ⟨e_o1, wf_o1, k_o1⟩ := hI.1.2 69 (by decide)
    obtain rfl := kd_69.mp k_o1
    refine y_base (cs := [((ad 69), .inl (3, 1, .inr (.inl (((mg t s9).1 69).2.1))))]) (hI.1.I [69] _ rfl (by decide) (by decide) (List.forall_mem_cons.mpr ⟨wf_o1, (fun _ h => nomatch h)⟩)) ?_
    refine y_i2l d_Lw_sand_7 (v := v9.toInt64) rfl ?_
    refine y_last d_Lw_sand_8 (q0 := 0) rfl (fun q => q.elim (by decide) (by decide)) (f' := vp_updL (((mg t s9).1 69).2.1) 0 v9.toInt64) rfl (cs' := [((ad 69), .inl (3, 1, .inr (.inl (vp_updL (((mg t s9).1 69).2.1) 0 v9.toInt64))))]) rfl ?_
    refine y_goto (tgt := 15) d_Lw_sand_9 (by decide) ?_
    refine y_iconst d_Lw_sand_15 (v := 0) (by decide) ?_
    refine y_iret d_Lw_sand_16 rfl rfl ?_
    exact fun w1 h1 => ⟨⟨_, rfl⟩, u2, hu, IVm.tz ((hI.gen (t2 := (zup (mg t s9).1 [(69, (((mg t s9).1 69).1, vp_updL (((mg t s9).1 69).2.1) 0 v9.toInt64, ((mg t s9).1 69).2.2))], (mg t s9).2)) (is := [69]) (L2 := []) h1 rfl ⟨kd_69.mpr rfl, trivial⟩ (by decide) (by decide) (fun _ h => nomatch h) (fun _ h => nomatch h) (fun i hi hn => zup_out (fun q => hn ((by decide : ∀ j ∈ ([69] : List Nat), j ∈ ([69] : List Nat)) i q))) (fun h => h) rfl)) (tx_all rfl)⟩
abbrev M_Lw_makeCores : zM := (⟨"IronpourLaw", "makeCores", "(LIronpour;II[J)I"⟩, method_17_code, 5, (Option.some FieldType.int), 7, 122, [((0 : Nat), (10 : Nat), (13 : Nat), (13 : Nat)), ((0 : Nat), (10 : Nat), (17 : Nat), (69 : Nat))])
theorem d_Lw_makeCores_0 : decode method_17_code 0 = .ok (.aload_n 3, 1) := zo_45 (zd_b zq_method_17_code_0 0 rfl rfl rfl)
theorem d_Lw_makeCores_1 : decode method_17_code 1 = .ok (.iconst 0, 1) := zo_3 (zd_b zq_method_17_code_0 1 rfl rfl rfl)
theorem d_Lw_makeCores_2 : decode method_17_code 2 = .ok (.aload_n 0, 1) := zo_42 (zd_b zq_method_17_code_0 2 rfl rfl rfl)
theorem d_Lw_makeCores_3 : decode method_17_code 3 = .ok (.iload_n 1, 1) := zo_27 (zd_b zq_method_17_code_0 3 rfl rfl rfl)
theorem d_Lw_makeCores_4 : decode method_17_code 4 = .ok (.iload_n 2, 1) := zo_28 (zd_b zq_method_17_code_0 4 rfl rfl rfl)
theorem d_Lw_makeCores_5 : decode method_17_code 5 = .ok (.invokevirtual 66, 3) := zo_182 (d := 0) (e := 66) (zd_b zq_method_17_code_0 5 rfl rfl rfl) (zd_b zq_method_17_code_0 6 rfl rfl rfl) (zd_b zq_method_17_code_0 7 rfl rfl rfl)
theorem ok_Lw_makeCores_Ip_makeCores : z_okH M_Lw_makeCores M_Ip_makeCores 2 := ⟨z_mj4 (i := 208) rfl (by decide +kernel), rfl, ⟨by decide +kernel, by decide +kernel, by decide +kernel⟩, ⟨by decide, by decide⟩, z_mj1 (i := 1) rfl (by decide +kernel)⟩
theorem ln_Lw_66 : Cond.methodLink "IronpourLaw" 66 M_Ip_makeCores.1 ∈ z_gw := z_mj4 (i := 205) rfl (by decide +kernel)
theorem w_im_Ip_makeCores : Cond.instanceMethod M_Ip_makeCores.1 ∈ z_gw := z_mj4 (i := 206) rfl (by decide +kernel)
theorem w_se_Ip_makeCores : Cond.selects M_Ip_makeCores.1.cls M_Ip_makeCores.1 M_Ip_makeCores.1 ∈ z_gw := z_mj4 (i := 207) rfl (by decide +kernel)
theorem d_Lw_makeCores_13 : decode method_17_code 13 = .ok (.astore 4, 2) := zo_58 (d := 4) (zd_b zq_method_17_code_0 13 rfl rfl rfl) (zd_b zq_method_17_code_0 14 rfl rfl rfl)
theorem d_Lw_makeCores_15 : decode method_17_code 15 = .ok (.iconst 1, 1) := zo_4 (zd_b zq_method_17_code_0 15 rfl rfl rfl)
theorem d_Lw_makeCores_16 : decode method_17_code 16 = .ok (.ireturn, 1) := zo_172 (zd_b zq_method_17_code_0 16 rfl rfl rfl)
theorem ce_69 : Cond.castable "java/lang/IllegalStateException" "java/lang/IllegalStateException" ∈ z_nw := z_mk4 (i := 216) rfl (by decide +kernel)
theorem lx_Lw_69 : Cond.classLink "IronpourLaw" 69 "java/lang/IllegalStateException" ∈ z_gw := z_mj4 (i := 204) rfl (by decide +kernel)
theorem d_Lw_makeCores_17 : decode method_17_code 17 = .ok (.astore 4, 2) := zo_58 (d := 4) (zd_b zq_method_17_code_0 17 rfl rfl rfl) (zd_b zq_method_17_code_0 18 rfl rfl rfl)
theorem d_Lw_makeCores_19 : decode method_17_code 19 = .ok (.iconst 2, 1) := zo_5 (zd_b zq_method_17_code_0 19 rfl rfl rfl)
theorem d_Lw_makeCores_20 : decode method_17_code 20 = .ok (.ireturn, 1) := zo_172 (zd_b zq_method_17_code_0 20 rfl rfl rfl)
theorem d_Lw_makeCores_8 : decode method_17_code 8 = .ok (.i2l, 1) := zo_133 (zd_b zq_method_17_code_0 8 rfl rfl rfl)
theorem d_Lw_makeCores_9 : decode method_17_code 9 = .ok (.lastore, 1) := zo_80 (zd_b zq_method_17_code_0 9 rfl rfl rfl)
theorem d_Lw_makeCores_10 : decode method_17_code 10 = .ok (.goto 11, 3) := zo_167 (d := 0) (e := 11) (zd_b zq_method_17_code_0 10 rfl rfl rfl) (zd_b zq_method_17_code_0 11 rfl rfl rfl) (zd_b zq_method_17_code_0 12 rfl rfl rfl) (by decide +kernel)
theorem d_Lw_makeCores_21 : decode method_17_code 21 = .ok (.iconst 0, 1) := zo_3 (zd_b zq_method_17_code_0 21 rfl rfl rfl)
theorem d_Lw_makeCores_22 : decode method_17_code 22 = .ok (.ireturn, 1) := zo_172 (zd_b zq_method_17_code_0 22 rfl rfl rfl)
set_option maxHeartbeats 4000000 in
set_option maxRecDepth 100000 in
theorem W_makeCores {g : zG} {ad : Nat → Nat} {t : zTT} {u : zNN} {w : zW} (hI : IVm g ad t u w) (c k : Int32) : zMB g M_Lw_makeCores [.ref (ad 0), .int c, .int k, .ref (ad 69)] w (fun o w1 => MKx g ad (tK_Ip_makeCores c k t) u.1 o w1) 10 300 := by
  obtain ⟨s, hI⟩ := hI
  obtain ⟨e_a, wf_a, k_a⟩ := hI.1.2 0 (by decide)
  obtain rfl := kd_0.mp k_a
  obtain ⟨e_o1, wf_o1, k_o1⟩ := hI.1.2 69 (by decide)
  obtain rfl := kd_69.mp k_o1
  refine y_ofH (by decide) (by decide) (Nat.le_of_ble_eq_true rfl) (y_base (cs := [((ad 0), .inr (11, [.ref (ad 1), .ref (ad 5), .ref (ad 18), .ref (ad 31), .ref (ad 32), .ref (ad 36), .ref (ad 42), .ref (ad 45), .ref (ad 47), .ref (ad 49), .ref (ad 50), .ref (ad 51)])), ((ad 69), .inl (3, 1, .inr (.inl (((mg t s).1 69).2.1))))]) (hI.1.I [0, 69] _ rfl (by decide) (by decide) (List.forall_mem_cons.mpr ⟨wf_a, (List.forall_mem_cons.mpr ⟨wf_o1, (fun _ h => nomatch h)⟩)⟩)) ?_)
  refine y_lvE (lv2 := [(0, .ref (ad 0)), (1, .int c), (2, .int k), (3, .ref (ad 69))]) rfl ?_
  refine y_aload_n d_Lw_makeCores_0 rfl 3 rfl ?_
  refine y_iconst d_Lw_makeCores_1 (v := 0) (by decide) ?_
  refine y_aload_n d_Lw_makeCores_2 rfl 0 rfl ?_
  refine y_iload_n d_Lw_makeCores_3 rfl 1 rfl ?_
  refine y_iload_n d_Lw_makeCores_4 rfl 2 rfl ?_
  refine yw_callVH (As := [.int c, .int k]) (rest := [.int 0, .ref (ad 69)]) (q0 := 0) rfl rfl ln_Lw_66 w_im_Ip_makeCores w_se_Ip_makeCores ok_Lw_makeCores_Ip_makeCores d_Lw_makeCores_5 (fun wA hA => K_Ip_makeCores ⟨_, (hI.gen (t2 := (mg t s)) (is := [0, 69]) (L2 := []) hA rfl ⟨kd_0.mpr rfl, kd_69.mpr rfl, trivial⟩ (by decide) (by decide) (fun _ h => nomatch h) (fun _ h => nomatch h) (fun _ _ _ => rfl) (fun h => h) rfl)⟩ c k) rfl rfl (Nat.le_of_ble_eq_true rfl) (by omega) (by omega) (fun wA5 hA5 E wB5 hx => ?_) (fun wA5 hA5 v wB5 hx => ?_)
  · obtain ⟨h1, u2, hu, hI2⟩ := hx
    rcases List.mem_cons.mp (zriE h1) with rfl | g2
    · refine ⟨"java/lang/IllegalArgumentException", [], [(0, 10, 17, 69)], (0, 10, 13, 13), rfl, (fun z hz => nomatch hz), by decide, by decide, lx_Lw_13, ce_13, fun qx => ?_⟩
      refine y_base (cs := []) (z_I.nil wB5) ?_
      refine y_astore (lv' := [(4, .ref qx), (0, .ref (ad 0)), (1, .int c), (2, .int k), (3, .ref (ad 69))]) d_Lw_makeCores_13 (by decide) rfl ?_
      refine y_iconst d_Lw_makeCores_15 (v := 1) (by decide) ?_
      refine y_iret d_Lw_makeCores_16 rfl rfl ?_
      exact fun w1 h1 => ⟨⟨_, rfl⟩, u2, hu, (z_I.same (z_I.nil _) h1).symm ▸ hI2⟩
    · obtain rfl := List.mem_singleton.mp g2
      refine ⟨"java/lang/IllegalStateException", [(0, 10, 13, 13)], [], (0, 10, 17, 69), rfl, (fun z hz => by simp only [List.mem_cons, List.not_mem_nil, or_false] at hz; rcases hz with rfl; exact Or.inr ⟨by decide, _, lx_Lw_13, by decide⟩), by decide, by decide, lx_Lw_69, ce_69, fun qx => ?_⟩
      refine y_base (cs := []) (z_I.nil wB5) ?_
      refine y_astore (lv' := [(4, .ref qx), (0, .ref (ad 0)), (1, .int c), (2, .int k), (3, .ref (ad 69))]) d_Lw_makeCores_17 (by decide) rfl ?_
      refine y_iconst d_Lw_makeCores_19 (v := 2) (by decide) ?_
      refine y_iret d_Lw_makeCores_20 rfl rfl ?_
      exact fun w1 h1 => ⟨⟨_, rfl⟩, u2, hu, (z_I.same (z_I.nil _) h1).symm ▸ hI2⟩
  · obtain ⟨h1, u2, hu, hI2⟩ := hx
    obtain ⟨v9, rfl⟩ := zriV h1
    refine yw_st (st2 := [.int v9, .int 0, .ref (ad 69)]) rfl ?_
    obtain ⟨s9, hI⟩ := hI2
    obtain ⟨e_o1, wf_o1, k_o1⟩ := hI.1.2 69 (by decide)
    obtain rfl := kd_69.mp k_o1
    refine y_base (cs := [((ad 69), .inl (3, 1, .inr (.inl (((mg (tK_Ip_makeCores c k t) s9).1 69).2.1))))]) (hI.1.I [69] _ rfl (by decide) (by decide) (List.forall_mem_cons.mpr ⟨wf_o1, (fun _ h => nomatch h)⟩)) ?_
    refine y_i2l d_Lw_makeCores_8 (v := v9.toInt64) rfl ?_
    refine y_last d_Lw_makeCores_9 (q0 := 0) rfl (fun q => q.elim (by decide) (by decide)) (f' := vp_updL (((mg (tK_Ip_makeCores c k t) s9).1 69).2.1) 0 v9.toInt64) rfl (cs' := [((ad 69), .inl (3, 1, .inr (.inl (vp_updL (((mg (tK_Ip_makeCores c k t) s9).1 69).2.1) 0 v9.toInt64))))]) rfl ?_
    refine y_goto (tgt := 21) d_Lw_makeCores_10 (by decide) ?_
    refine y_iconst d_Lw_makeCores_21 (v := 0) (by decide) ?_
    refine y_iret d_Lw_makeCores_22 rfl rfl ?_
    exact fun w1 h1 => ⟨⟨_, rfl⟩, u2, hu, IVm.tz ((hI.gen (t2 := (zup (mg (tK_Ip_makeCores c k t) s9).1 [(69, (((mg (tK_Ip_makeCores c k t) s9).1 69).1, vp_updL (((mg (tK_Ip_makeCores c k t) s9).1 69).2.1) 0 v9.toInt64, ((mg (tK_Ip_makeCores c k t) s9).1 69).2.2))], (mg (tK_Ip_makeCores c k t) s9).2)) (is := [69]) (L2 := []) h1 rfl ⟨kd_69.mpr rfl, trivial⟩ (by decide) (by decide) (fun _ h => nomatch h) (fun _ h => nomatch h) (fun i hi hn => zup_out (fun q => hn ((by decide : ∀ j ∈ ([69] : List Nat), j ∈ ([69] : List Nat)) i q))) (fun h => h) rfl)) (tx_all rfl)⟩
abbrev M_Lw_hours : zM := (⟨"IronpourLaw", "hours", "(LIronpour;I[J)I"⟩, method_18_code, 4, (Option.some FieldType.int), 7, 121, [((0 : Nat), (9 : Nat), (12 : Nat), (13 : Nat))])
theorem d_Lw_hours_0 : decode method_18_code 0 = .ok (.aload_n 2, 1) := zo_44 (zd_b zq_method_18_code_0 0 rfl rfl rfl)
theorem d_Lw_hours_1 : decode method_18_code 1 = .ok (.iconst 0, 1) := zo_3 (zd_b zq_method_18_code_0 1 rfl rfl rfl)
theorem d_Lw_hours_2 : decode method_18_code 2 = .ok (.aload_n 0, 1) := zo_42 (zd_b zq_method_18_code_0 2 rfl rfl rfl)
theorem d_Lw_hours_3 : decode method_18_code 3 = .ok (.iload_n 1, 1) := zo_27 (zd_b zq_method_18_code_0 3 rfl rfl rfl)
theorem d_Lw_hours_4 : decode method_18_code 4 = .ok (.invokevirtual 71, 3) := zo_182 (d := 0) (e := 71) (zd_b zq_method_18_code_0 4 rfl rfl rfl) (zd_b zq_method_18_code_0 5 rfl rfl rfl) (zd_b zq_method_18_code_0 6 rfl rfl rfl)
theorem ok_Lw_hours_Ip_hours : z_okH M_Lw_hours M_Ip_hours 1 := ⟨z_mj5 (i := 4) rfl (by decide +kernel), rfl, ⟨by decide +kernel, by decide +kernel, by decide +kernel⟩, ⟨by decide, by decide⟩, z_mj1 (i := 1) rfl (by decide +kernel)⟩
theorem ln_Lw_71 : Cond.methodLink "IronpourLaw" 71 M_Ip_hours.1 ∈ z_gw := z_mj5 (i := 1) rfl (by decide +kernel)
theorem w_im_Ip_hours : Cond.instanceMethod M_Ip_hours.1 ∈ z_gw := z_mj5 (i := 2) rfl (by decide +kernel)
theorem w_se_Ip_hours : Cond.selects M_Ip_hours.1.cls M_Ip_hours.1 M_Ip_hours.1 ∈ z_gw := z_mj5 (i := 3) rfl (by decide +kernel)
theorem d_Lw_hours_12 : decode method_18_code 12 = .ok (.astore_n 3, 1) := zo_78 (zd_b zq_method_18_code_0 12 rfl rfl rfl)
theorem d_Lw_hours_13 : decode method_18_code 13 = .ok (.iconst 1, 1) := zo_4 (zd_b zq_method_18_code_0 13 rfl rfl rfl)
theorem d_Lw_hours_14 : decode method_18_code 14 = .ok (.ireturn, 1) := zo_172 (zd_b zq_method_18_code_0 14 rfl rfl rfl)
theorem d_Lw_hours_7 : decode method_18_code 7 = .ok (.i2l, 1) := zo_133 (zd_b zq_method_18_code_0 7 rfl rfl rfl)
theorem d_Lw_hours_8 : decode method_18_code 8 = .ok (.lastore, 1) := zo_80 (zd_b zq_method_18_code_0 8 rfl rfl rfl)
theorem d_Lw_hours_9 : decode method_18_code 9 = .ok (.goto 6, 3) := zo_167 (d := 0) (e := 6) (zd_b zq_method_18_code_0 9 rfl rfl rfl) (zd_b zq_method_18_code_0 10 rfl rfl rfl) (zd_b zq_method_18_code_0 11 rfl rfl rfl) (by decide +kernel)
theorem d_Lw_hours_15 : decode method_18_code 15 = .ok (.iconst 0, 1) := zo_3 (zd_b zq_method_18_code_0 15 rfl rfl rfl)
theorem d_Lw_hours_16 : decode method_18_code 16 = .ok (.ireturn, 1) := zo_172 (zd_b zq_method_18_code_0 16 rfl rfl rfl)
set_option maxHeartbeats 4000000 in
set_option maxRecDepth 100000 in
theorem W_hours {g : zG} {ad : Nat → Nat} {t : zTT} {u : zNN} {w : zW} (hI : IVm g ad t u w) (h : Int32) : zMB g M_Lw_hours [.ref (ad 0), .int h, .ref (ad 69)] w (fun o w1 => MKx g ad (tK_Ip_hours h t) u.1 o w1) 10 300 := by
  obtain ⟨s, hI⟩ := hI
  obtain ⟨e_a, wf_a, k_a⟩ := hI.1.2 0 (by decide)
  obtain rfl := kd_0.mp k_a
  obtain ⟨e_o1, wf_o1, k_o1⟩ := hI.1.2 69 (by decide)
  obtain rfl := kd_69.mp k_o1
  refine y_ofH (by decide) (by decide) (Nat.le_of_ble_eq_true rfl) (y_base (cs := [((ad 0), .inr (11, [.ref (ad 1), .ref (ad 5), .ref (ad 18), .ref (ad 31), .ref (ad 32), .ref (ad 36), .ref (ad 42), .ref (ad 45), .ref (ad 47), .ref (ad 49), .ref (ad 50), .ref (ad 51)])), ((ad 69), .inl (3, 1, .inr (.inl (((mg t s).1 69).2.1))))]) (hI.1.I [0, 69] _ rfl (by decide) (by decide) (List.forall_mem_cons.mpr ⟨wf_a, (List.forall_mem_cons.mpr ⟨wf_o1, (fun _ h => nomatch h)⟩)⟩)) ?_)
  refine y_lvE (lv2 := [(0, .ref (ad 0)), (1, .int h), (2, .ref (ad 69))]) rfl ?_
  refine y_aload_n d_Lw_hours_0 rfl 2 rfl ?_
  refine y_iconst d_Lw_hours_1 (v := 0) (by decide) ?_
  refine y_aload_n d_Lw_hours_2 rfl 0 rfl ?_
  refine y_iload_n d_Lw_hours_3 rfl 1 rfl ?_
  refine yw_callVH (As := [.int h]) (rest := [.int 0, .ref (ad 69)]) (q0 := 0) rfl rfl ln_Lw_71 w_im_Ip_hours w_se_Ip_hours ok_Lw_hours_Ip_hours d_Lw_hours_4 (fun wA hA => K_Ip_hours ⟨_, (hI.gen (t2 := (mg t s)) (is := [0, 69]) (L2 := []) hA rfl ⟨kd_0.mpr rfl, kd_69.mpr rfl, trivial⟩ (by decide) (by decide) (fun _ h => nomatch h) (fun _ h => nomatch h) (fun _ _ _ => rfl) (fun h => h) rfl)⟩ h) rfl rfl (Nat.le_of_ble_eq_true rfl) (by omega) (by omega) (fun wA4 hA4 E wB4 hx => ?_) (fun wA4 hA4 v wB4 hx => ?_)
  · obtain ⟨h1, u2, hu, hI2⟩ := hx
    obtain rfl := List.mem_singleton.mp (zriE h1)
    refine ⟨"java/lang/IllegalArgumentException", [], [], (0, 9, 12, 13), rfl, (fun z hz => nomatch hz), by decide, by decide, lx_Lw_13, ce_13, fun qx => ?_⟩
    refine y_base (cs := []) (z_I.nil wB4) ?_
    refine y_astore_n (lv' := [(3, .ref qx), (0, .ref (ad 0)), (1, .int h), (2, .ref (ad 69))]) d_Lw_hours_12 rfl (by decide) rfl ?_
    refine y_iconst d_Lw_hours_13 (v := 1) (by decide) ?_
    refine y_iret d_Lw_hours_14 rfl rfl ?_
    exact fun w1 h1 => ⟨⟨_, rfl⟩, u2, hu, (z_I.same (z_I.nil _) h1).symm ▸ hI2⟩
  · obtain ⟨h1, u2, hu, hI2⟩ := hx
    obtain ⟨v9, rfl⟩ := zriV h1
    refine yw_st (st2 := [.int v9, .int 0, .ref (ad 69)]) rfl ?_
    obtain ⟨s9, hI⟩ := hI2
    obtain ⟨e_o1, wf_o1, k_o1⟩ := hI.1.2 69 (by decide)
    obtain rfl := kd_69.mp k_o1
    refine y_base (cs := [((ad 69), .inl (3, 1, .inr (.inl (((mg (tK_Ip_hours h t) s9).1 69).2.1))))]) (hI.1.I [69] _ rfl (by decide) (by decide) (List.forall_mem_cons.mpr ⟨wf_o1, (fun _ h => nomatch h)⟩)) ?_
    refine y_i2l d_Lw_hours_7 (v := v9.toInt64) rfl ?_
    refine y_last d_Lw_hours_8 (q0 := 0) rfl (fun q => q.elim (by decide) (by decide)) (f' := vp_updL (((mg (tK_Ip_hours h t) s9).1 69).2.1) 0 v9.toInt64) rfl (cs' := [((ad 69), .inl (3, 1, .inr (.inl (vp_updL (((mg (tK_Ip_hours h t) s9).1 69).2.1) 0 v9.toInt64))))]) rfl ?_
    refine y_goto (tgt := 15) d_Lw_hours_9 (by decide) ?_
    refine y_iconst d_Lw_hours_15 (v := 0) (by decide) ?_
    refine y_iret d_Lw_hours_16 rfl rfl ?_
    exact fun w1 h1 => ⟨⟨_, rfl⟩, u2, hu, IVm.tz ((hI.gen (t2 := (zup (mg (tK_Ip_hours h t) s9).1 [(69, (((mg (tK_Ip_hours h t) s9).1 69).1, vp_updL (((mg (tK_Ip_hours h t) s9).1 69).2.1) 0 v9.toInt64, ((mg (tK_Ip_hours h t) s9).1 69).2.2))], (mg (tK_Ip_hours h t) s9).2)) (is := [69]) (L2 := []) h1 rfl ⟨kd_69.mpr rfl, trivial⟩ (by decide) (by decide) (fun _ h => nomatch h) (fun _ h => nomatch h) (fun i hi hn => zup_out (fun q => hn ((by decide : ∀ j ∈ ([69] : List Nat), j ∈ ([69] : List Nat)) i q))) (fun h => h) rfl)) (tx_all rfl)⟩
abbrev M_Lw_charge : zM := (⟨"IronpourLaw", "charge", "(LIronpour;CI[J)I"⟩, method_19_code, 5, (Option.some FieldType.int), 9, 203, [((0 : Nat), (10 : Nat), (13 : Nat), (13 : Nat)), ((0 : Nat), (10 : Nat), (17 : Nat), (78 : Nat)), ((0 : Nat), (10 : Nat), (21 : Nat), (69 : Nat))])
theorem d_Lw_charge_0 : decode method_19_code 0 = .ok (.aload_n 3, 1) := zo_45 (zd_b zq_method_19_code_0 0 rfl rfl rfl)
theorem d_Lw_charge_1 : decode method_19_code 1 = .ok (.iconst 0, 1) := zo_3 (zd_b zq_method_19_code_0 1 rfl rfl rfl)
theorem d_Lw_charge_2 : decode method_19_code 2 = .ok (.aload_n 0, 1) := zo_42 (zd_b zq_method_19_code_0 2 rfl rfl rfl)
theorem d_Lw_charge_3 : decode method_19_code 3 = .ok (.iload_n 1, 1) := zo_27 (zd_b zq_method_19_code_0 3 rfl rfl rfl)
theorem d_Lw_charge_4 : decode method_19_code 4 = .ok (.iload_n 2, 1) := zo_28 (zd_b zq_method_19_code_0 4 rfl rfl rfl)
theorem d_Lw_charge_5 : decode method_19_code 5 = .ok (.invokevirtual 74, 3) := zo_182 (d := 0) (e := 74) (zd_b zq_method_19_code_0 5 rfl rfl rfl) (zd_b zq_method_19_code_0 6 rfl rfl rfl) (zd_b zq_method_19_code_0 7 rfl rfl rfl)
theorem ok_Lw_charge_Ip_charge : z_okH M_Lw_charge M_Ip_charge 2 := ⟨z_mj5 (i := 21) rfl (by decide +kernel), rfl, ⟨by decide +kernel, by decide +kernel, by decide +kernel⟩, ⟨by decide, by decide⟩, z_mj1 (i := 1) rfl (by decide +kernel)⟩
theorem ln_Lw_74 : Cond.methodLink "IronpourLaw" 74 M_Ip_charge.1 ∈ z_gw := z_mj5 (i := 18) rfl (by decide +kernel)
theorem w_im_Ip_charge : Cond.instanceMethod M_Ip_charge.1 ∈ z_gw := z_mj5 (i := 19) rfl (by decide +kernel)
theorem w_se_Ip_charge : Cond.selects M_Ip_charge.1.cls M_Ip_charge.1 M_Ip_charge.1 ∈ z_gw := z_mj5 (i := 20) rfl (by decide +kernel)
theorem d_Lw_charge_13 : decode method_19_code 13 = .ok (.astore 4, 2) := zo_58 (d := 4) (zd_b zq_method_19_code_0 13 rfl rfl rfl) (zd_b zq_method_19_code_0 14 rfl rfl rfl)
theorem d_Lw_charge_15 : decode method_19_code 15 = .ok (.iconst 1, 1) := zo_4 (zd_b zq_method_19_code_0 15 rfl rfl rfl)
theorem d_Lw_charge_16 : decode method_19_code 16 = .ok (.ireturn, 1) := zo_172 (zd_b zq_method_19_code_0 16 rfl rfl rfl)
theorem ce_78 : Cond.castable "java/lang/UnsupportedOperationException" "java/lang/UnsupportedOperationException" ∈ z_nw := z_mk5 (i := 30) rfl (by decide +kernel)
theorem lx_Lw_78 : Cond.classLink "IronpourLaw" 78 "java/lang/UnsupportedOperationException" ∈ z_gw := z_mj5 (i := 17) rfl (by decide +kernel)
theorem d_Lw_charge_17 : decode method_19_code 17 = .ok (.astore 4, 2) := zo_58 (d := 4) (zd_b zq_method_19_code_0 17 rfl rfl rfl) (zd_b zq_method_19_code_0 18 rfl rfl rfl)
theorem d_Lw_charge_19 : decode method_19_code 19 = .ok (.iconst 2, 1) := zo_5 (zd_b zq_method_19_code_0 19 rfl rfl rfl)
theorem d_Lw_charge_20 : decode method_19_code 20 = .ok (.ireturn, 1) := zo_172 (zd_b zq_method_19_code_0 20 rfl rfl rfl)
theorem d_Lw_charge_21 : decode method_19_code 21 = .ok (.astore 4, 2) := zo_58 (d := 4) (zd_b zq_method_19_code_0 21 rfl rfl rfl) (zd_b zq_method_19_code_0 22 rfl rfl rfl)
theorem d_Lw_charge_23 : decode method_19_code 23 = .ok (.iconst 3, 1) := zo_6 (zd_b zq_method_19_code_0 23 rfl rfl rfl)
theorem d_Lw_charge_24 : decode method_19_code 24 = .ok (.ireturn, 1) := zo_172 (zd_b zq_method_19_code_0 24 rfl rfl rfl)
theorem d_Lw_charge_8 : decode method_19_code 8 = .ok (.i2l, 1) := zo_133 (zd_b zq_method_19_code_0 8 rfl rfl rfl)
theorem d_Lw_charge_9 : decode method_19_code 9 = .ok (.lastore, 1) := zo_80 (zd_b zq_method_19_code_0 9 rfl rfl rfl)
theorem d_Lw_charge_10 : decode method_19_code 10 = .ok (.goto 15, 3) := zo_167 (d := 0) (e := 15) (zd_b zq_method_19_code_0 10 rfl rfl rfl) (zd_b zq_method_19_code_0 11 rfl rfl rfl) (zd_b zq_method_19_code_0 12 rfl rfl rfl) (by decide +kernel)
theorem d_Lw_charge_25 : decode method_19_code 25 = .ok (.iconst 0, 1) := zo_3 (zd_b zq_method_19_code_0 25 rfl rfl rfl)
theorem d_Lw_charge_26 : decode method_19_code 26 = .ok (.ireturn, 1) := zo_172 (zd_b zq_method_19_code_0 26 rfl rfl rfl)
set_option maxHeartbeats 4000000 in
set_option maxRecDepth 100000 in
theorem W_charge {g : zG} {ad : Nat → Nat} {t : zTT} {u : zNN} {w : zW} (hI : IVm g ad t u w) (k m : Int32) : zMB g M_Lw_charge [.ref (ad 0), .int k, .int m, .ref (ad 69)] w (fun o w1 => MKx g ad (tK_Ip_charge k m t) u.1 o w1) 10 300 := by
  obtain ⟨s, hI⟩ := hI
  obtain ⟨e_a, wf_a, k_a⟩ := hI.1.2 0 (by decide)
  obtain rfl := kd_0.mp k_a
  obtain ⟨e_o1, wf_o1, k_o1⟩ := hI.1.2 69 (by decide)
  obtain rfl := kd_69.mp k_o1
  refine y_ofH (by decide) (by decide) (Nat.le_of_ble_eq_true rfl) (y_base (cs := [((ad 0), .inr (11, [.ref (ad 1), .ref (ad 5), .ref (ad 18), .ref (ad 31), .ref (ad 32), .ref (ad 36), .ref (ad 42), .ref (ad 45), .ref (ad 47), .ref (ad 49), .ref (ad 50), .ref (ad 51)])), ((ad 69), .inl (3, 1, .inr (.inl (((mg t s).1 69).2.1))))]) (hI.1.I [0, 69] _ rfl (by decide) (by decide) (List.forall_mem_cons.mpr ⟨wf_a, (List.forall_mem_cons.mpr ⟨wf_o1, (fun _ h => nomatch h)⟩)⟩)) ?_)
  refine y_lvE (lv2 := [(0, .ref (ad 0)), (1, .int k), (2, .int m), (3, .ref (ad 69))]) rfl ?_
  refine y_aload_n d_Lw_charge_0 rfl 3 rfl ?_
  refine y_iconst d_Lw_charge_1 (v := 0) (by decide) ?_
  refine y_aload_n d_Lw_charge_2 rfl 0 rfl ?_
  refine y_iload_n d_Lw_charge_3 rfl 1 rfl ?_
  refine y_iload_n d_Lw_charge_4 rfl 2 rfl ?_
  refine yw_callVH (As := [.int k, .int m]) (rest := [.int 0, .ref (ad 69)]) (q0 := 0) rfl rfl ln_Lw_74 w_im_Ip_charge w_se_Ip_charge ok_Lw_charge_Ip_charge d_Lw_charge_5 (fun wA hA => K_Ip_charge ⟨_, (hI.gen (t2 := (mg t s)) (is := [0, 69]) (L2 := []) hA rfl ⟨kd_0.mpr rfl, kd_69.mpr rfl, trivial⟩ (by decide) (by decide) (fun _ h => nomatch h) (fun _ h => nomatch h) (fun _ _ _ => rfl) (fun h => h) rfl)⟩ k m) rfl rfl (Nat.le_of_ble_eq_true rfl) (by omega) (by omega) (fun wA5 hA5 E wB5 hx => ?_) (fun wA5 hA5 v wB5 hx => ?_)
  · obtain ⟨h1, u2, hu, hI2⟩ := hx
    rcases List.mem_cons.mp (zriE h1) with rfl | g3
    · refine ⟨"java/lang/IllegalArgumentException", [], [(0, 10, 17, 78), (0, 10, 21, 69)], (0, 10, 13, 13), rfl, (fun z hz => nomatch hz), by decide, by decide, lx_Lw_13, ce_13, fun qx => ?_⟩
      refine y_base (cs := []) (z_I.nil wB5) ?_
      refine y_astore (lv' := [(4, .ref qx), (0, .ref (ad 0)), (1, .int k), (2, .int m), (3, .ref (ad 69))]) d_Lw_charge_13 (by decide) rfl ?_
      refine y_iconst d_Lw_charge_15 (v := 1) (by decide) ?_
      refine y_iret d_Lw_charge_16 rfl rfl ?_
      exact fun w1 h1 => ⟨⟨_, rfl⟩, u2, hu, (z_I.same (z_I.nil _) h1).symm ▸ hI2⟩
    · rcases List.mem_cons.mp g3 with rfl | g2
      · refine ⟨"java/lang/UnsupportedOperationException", [(0, 10, 13, 13)], [(0, 10, 21, 69)], (0, 10, 17, 78), rfl, (fun z hz => by simp only [List.mem_cons, List.not_mem_nil, or_false] at hz; rcases hz with rfl; exact Or.inr ⟨by decide, _, lx_Lw_13, by decide⟩), by decide, by decide, lx_Lw_78, ce_78, fun qx => ?_⟩
        refine y_base (cs := []) (z_I.nil wB5) ?_
        refine y_astore (lv' := [(4, .ref qx), (0, .ref (ad 0)), (1, .int k), (2, .int m), (3, .ref (ad 69))]) d_Lw_charge_17 (by decide) rfl ?_
        refine y_iconst d_Lw_charge_19 (v := 2) (by decide) ?_
        refine y_iret d_Lw_charge_20 rfl rfl ?_
        exact fun w1 h1 => ⟨⟨_, rfl⟩, u2, hu, (z_I.same (z_I.nil _) h1).symm ▸ hI2⟩
      · obtain rfl := List.mem_singleton.mp g2
        refine ⟨"java/lang/IllegalStateException", [(0, 10, 13, 13), (0, 10, 17, 78)], [], (0, 10, 21, 69), rfl, (fun z hz => by simp only [List.mem_cons, List.not_mem_nil, or_false] at hz; rcases hz with rfl | rfl <;> first | exact Or.inr ⟨by decide, _, lx_Lw_13, by decide⟩ | exact Or.inr ⟨by decide, _, lx_Lw_78, by decide⟩), by decide, by decide, lx_Lw_69, ce_69, fun qx => ?_⟩
        refine y_base (cs := []) (z_I.nil wB5) ?_
        refine y_astore (lv' := [(4, .ref qx), (0, .ref (ad 0)), (1, .int k), (2, .int m), (3, .ref (ad 69))]) d_Lw_charge_21 (by decide) rfl ?_
        refine y_iconst d_Lw_charge_23 (v := 3) (by decide) ?_
        refine y_iret d_Lw_charge_24 rfl rfl ?_
        exact fun w1 h1 => ⟨⟨_, rfl⟩, u2, hu, (z_I.same (z_I.nil _) h1).symm ▸ hI2⟩
  · obtain ⟨h1, u2, hu, hI2⟩ := hx
    obtain ⟨v9, rfl⟩ := zriV h1
    refine yw_st (st2 := [.int v9, .int 0, .ref (ad 69)]) rfl ?_
    obtain ⟨s9, hI⟩ := hI2
    obtain ⟨e_o1, wf_o1, k_o1⟩ := hI.1.2 69 (by decide)
    obtain rfl := kd_69.mp k_o1
    refine y_base (cs := [((ad 69), .inl (3, 1, .inr (.inl (((mg (tK_Ip_charge k m t) s9).1 69).2.1))))]) (hI.1.I [69] _ rfl (by decide) (by decide) (List.forall_mem_cons.mpr ⟨wf_o1, (fun _ h => nomatch h)⟩)) ?_
    refine y_i2l d_Lw_charge_8 (v := v9.toInt64) rfl ?_
    refine y_last d_Lw_charge_9 (q0 := 0) rfl (fun q => q.elim (by decide) (by decide)) (f' := vp_updL (((mg (tK_Ip_charge k m t) s9).1 69).2.1) 0 v9.toInt64) rfl (cs' := [((ad 69), .inl (3, 1, .inr (.inl (vp_updL (((mg (tK_Ip_charge k m t) s9).1 69).2.1) 0 v9.toInt64))))]) rfl ?_
    refine y_goto (tgt := 25) d_Lw_charge_10 (by decide) ?_
    refine y_iconst d_Lw_charge_25 (v := 0) (by decide) ?_
    refine y_iret d_Lw_charge_26 rfl rfl ?_
    exact fun w1 h1 => ⟨⟨_, rfl⟩, u2, hu, IVm.tz ((hI.gen (t2 := (zup (mg (tK_Ip_charge k m t) s9).1 [(69, (((mg (tK_Ip_charge k m t) s9).1 69).1, vp_updL (((mg (tK_Ip_charge k m t) s9).1 69).2.1) 0 v9.toInt64, ((mg (tK_Ip_charge k m t) s9).1 69).2.2))], (mg (tK_Ip_charge k m t) s9).2)) (is := [69]) (L2 := []) h1 rfl ⟨kd_69.mpr rfl, trivial⟩ (by decide) (by decide) (fun _ h => nomatch h) (fun _ h => nomatch h) (fun i hi hn => zup_out (fun q => hn ((by decide : ∀ j ∈ ([69] : List Nat), j ∈ ([69] : List Nat)) i q))) (fun h => h) rfl)) (tx_all rfl)⟩
abbrev M_Lw_furnace : zM := (⟨"IronpourLaw", "furnace", "(LIronpour;C[J)I"⟩, method_20_code, 4, (Option.some FieldType.int), 10, 222, [((0 : Nat), (9 : Nat), (12 : Nat), (13 : Nat)), ((0 : Nat), (9 : Nat), (15 : Nat), (33 : Nat))])
theorem d_Lw_furnace_0 : decode method_20_code 0 = .ok (.aload_n 2, 1) := zo_44 (zd_b zq_method_20_code_0 0 rfl rfl rfl)
theorem d_Lw_furnace_1 : decode method_20_code 1 = .ok (.iconst 0, 1) := zo_3 (zd_b zq_method_20_code_0 1 rfl rfl rfl)
theorem d_Lw_furnace_2 : decode method_20_code 2 = .ok (.aload_n 0, 1) := zo_42 (zd_b zq_method_20_code_0 2 rfl rfl rfl)
theorem d_Lw_furnace_3 : decode method_20_code 3 = .ok (.iload_n 1, 1) := zo_27 (zd_b zq_method_20_code_0 3 rfl rfl rfl)
theorem d_Lw_furnace_4 : decode method_20_code 4 = .ok (.invokevirtual 80, 3) := zo_182 (d := 0) (e := 80) (zd_b zq_method_20_code_0 4 rfl rfl rfl) (zd_b zq_method_20_code_0 5 rfl rfl rfl) (zd_b zq_method_20_code_0 6 rfl rfl rfl)
theorem ok_Lw_furnace_Ip_furnace : z_okH M_Lw_furnace M_Ip_furnace 1 := ⟨z_mj5 (i := 71) rfl (by decide +kernel), rfl, ⟨by decide +kernel, by decide +kernel, by decide +kernel⟩, ⟨by decide, by decide⟩, z_mj1 (i := 1) rfl (by decide +kernel)⟩
theorem ln_Lw_80 : Cond.methodLink "IronpourLaw" 80 M_Ip_furnace.1 ∈ z_gw := z_mj5 (i := 68) rfl (by decide +kernel)
theorem w_im_Ip_furnace : Cond.instanceMethod M_Ip_furnace.1 ∈ z_gw := z_mj5 (i := 69) rfl (by decide +kernel)
theorem w_se_Ip_furnace : Cond.selects M_Ip_furnace.1.cls M_Ip_furnace.1 M_Ip_furnace.1 ∈ z_gw := z_mj5 (i := 70) rfl (by decide +kernel)
theorem d_Lw_furnace_12 : decode method_20_code 12 = .ok (.astore_n 3, 1) := zo_78 (zd_b zq_method_20_code_0 12 rfl rfl rfl)
theorem d_Lw_furnace_13 : decode method_20_code 13 = .ok (.iconst 1, 1) := zo_4 (zd_b zq_method_20_code_0 13 rfl rfl rfl)
theorem d_Lw_furnace_14 : decode method_20_code 14 = .ok (.ireturn, 1) := zo_172 (zd_b zq_method_20_code_0 14 rfl rfl rfl)
theorem d_Lw_furnace_15 : decode method_20_code 15 = .ok (.astore_n 3, 1) := zo_78 (zd_b zq_method_20_code_0 15 rfl rfl rfl)
theorem d_Lw_furnace_16 : decode method_20_code 16 = .ok (.iconst 2, 1) := zo_5 (zd_b zq_method_20_code_0 16 rfl rfl rfl)
theorem d_Lw_furnace_17 : decode method_20_code 17 = .ok (.ireturn, 1) := zo_172 (zd_b zq_method_20_code_0 17 rfl rfl rfl)
theorem d_Lw_furnace_7 : decode method_20_code 7 = .ok (.i2l, 1) := zo_133 (zd_b zq_method_20_code_0 7 rfl rfl rfl)
theorem d_Lw_furnace_8 : decode method_20_code 8 = .ok (.lastore, 1) := zo_80 (zd_b zq_method_20_code_0 8 rfl rfl rfl)
theorem d_Lw_furnace_9 : decode method_20_code 9 = .ok (.goto 9, 3) := zo_167 (d := 0) (e := 9) (zd_b zq_method_20_code_0 9 rfl rfl rfl) (zd_b zq_method_20_code_0 10 rfl rfl rfl) (zd_b zq_method_20_code_0 11 rfl rfl rfl) (by decide +kernel)
theorem d_Lw_furnace_18 : decode method_20_code 18 = .ok (.iconst 0, 1) := zo_3 (zd_b zq_method_20_code_0 18 rfl rfl rfl)
theorem d_Lw_furnace_19 : decode method_20_code 19 = .ok (.ireturn, 1) := zo_172 (zd_b zq_method_20_code_0 19 rfl rfl rfl)
set_option maxHeartbeats 4000000 in
set_option maxRecDepth 100000 in
theorem W_furnace {g : zG} {ad : Nat → Nat} {t : zTT} {u : zNN} {w : zW} (hI : IVm g ad t u w) (k : Int32) : zMB g M_Lw_furnace [.ref (ad 0), .int k, .ref (ad 69)] w (fun o w1 => MKx g ad t u.1 o w1) 10 300 := by
  obtain ⟨s, hI⟩ := hI
  obtain ⟨e_a, wf_a, k_a⟩ := hI.1.2 0 (by decide)
  obtain rfl := kd_0.mp k_a
  obtain ⟨e_o1, wf_o1, k_o1⟩ := hI.1.2 69 (by decide)
  obtain rfl := kd_69.mp k_o1
  refine y_ofH (by decide) (by decide) (Nat.le_of_ble_eq_true rfl) (y_base (cs := [((ad 0), .inr (11, [.ref (ad 1), .ref (ad 5), .ref (ad 18), .ref (ad 31), .ref (ad 32), .ref (ad 36), .ref (ad 42), .ref (ad 45), .ref (ad 47), .ref (ad 49), .ref (ad 50), .ref (ad 51)])), ((ad 69), .inl (3, 1, .inr (.inl (((mg t s).1 69).2.1))))]) (hI.1.I [0, 69] _ rfl (by decide) (by decide) (List.forall_mem_cons.mpr ⟨wf_a, (List.forall_mem_cons.mpr ⟨wf_o1, (fun _ h => nomatch h)⟩)⟩)) ?_)
  refine y_lvE (lv2 := [(0, .ref (ad 0)), (1, .int k), (2, .ref (ad 69))]) rfl ?_
  refine y_aload_n d_Lw_furnace_0 rfl 2 rfl ?_
  refine y_iconst d_Lw_furnace_1 (v := 0) (by decide) ?_
  refine y_aload_n d_Lw_furnace_2 rfl 0 rfl ?_
  refine y_iload_n d_Lw_furnace_3 rfl 1 rfl ?_
  refine yw_callVH (As := [.int k]) (rest := [.int 0, .ref (ad 69)]) (q0 := 0) rfl rfl ln_Lw_80 w_im_Ip_furnace w_se_Ip_furnace ok_Lw_furnace_Ip_furnace d_Lw_furnace_4 (fun wA hA => K_Ip_furnace ⟨_, (hI.gen (t2 := (mg t s)) (is := [0, 69]) (L2 := []) hA rfl ⟨kd_0.mpr rfl, kd_69.mpr rfl, trivial⟩ (by decide) (by decide) (fun _ h => nomatch h) (fun _ h => nomatch h) (fun _ _ _ => rfl) (fun h => h) rfl)⟩ k) rfl rfl (Nat.le_of_ble_eq_true rfl) (by omega) (by omega) (fun wA4 hA4 E wB4 hx => ?_) (fun wA4 hA4 v wB4 hx => ?_)
  · obtain ⟨h1, u2, hu, hI2⟩ := hx
    rcases List.mem_cons.mp (zriE h1) with rfl | g2
    · refine ⟨"java/lang/IllegalArgumentException", [], [(0, 9, 15, 33)], (0, 9, 12, 13), rfl, (fun z hz => nomatch hz), by decide, by decide, lx_Lw_13, ce_13, fun qx => ?_⟩
      refine y_base (cs := []) (z_I.nil wB4) ?_
      refine y_astore_n (lv' := [(3, .ref qx), (0, .ref (ad 0)), (1, .int k), (2, .ref (ad 69))]) d_Lw_furnace_12 rfl (by decide) rfl ?_
      refine y_iconst d_Lw_furnace_13 (v := 1) (by decide) ?_
      refine y_iret d_Lw_furnace_14 rfl rfl ?_
      exact fun w1 h1 => ⟨⟨_, rfl⟩, u2, hu, (z_I.same (z_I.nil _) h1).symm ▸ hI2⟩
    · obtain rfl := List.mem_singleton.mp g2
      refine ⟨"java/util/NoSuchElementException", [(0, 9, 12, 13)], [], (0, 9, 15, 33), rfl, (fun z hz => by simp only [List.mem_cons, List.not_mem_nil, or_false] at hz; rcases hz with rfl; exact Or.inr ⟨by decide, _, lx_Lw_13, by decide⟩), by decide, by decide, lx_Lw_33, ce_33, fun qx => ?_⟩
      refine y_base (cs := []) (z_I.nil wB4) ?_
      refine y_astore_n (lv' := [(3, .ref qx), (0, .ref (ad 0)), (1, .int k), (2, .ref (ad 69))]) d_Lw_furnace_15 rfl (by decide) rfl ?_
      refine y_iconst d_Lw_furnace_16 (v := 2) (by decide) ?_
      refine y_iret d_Lw_furnace_17 rfl rfl ?_
      exact fun w1 h1 => ⟨⟨_, rfl⟩, u2, hu, (z_I.same (z_I.nil _) h1).symm ▸ hI2⟩
  · obtain ⟨h1, u2, hu, hI2⟩ := hx
    obtain ⟨v9, rfl⟩ := zriV h1
    refine yw_st (st2 := [.int v9, .int 0, .ref (ad 69)]) rfl ?_
    obtain ⟨s9, hI⟩ := hI2
    obtain ⟨e_o1, wf_o1, k_o1⟩ := hI.1.2 69 (by decide)
    obtain rfl := kd_69.mp k_o1
    refine y_base (cs := [((ad 69), .inl (3, 1, .inr (.inl (((mg t s9).1 69).2.1))))]) (hI.1.I [69] _ rfl (by decide) (by decide) (List.forall_mem_cons.mpr ⟨wf_o1, (fun _ h => nomatch h)⟩)) ?_
    refine y_i2l d_Lw_furnace_7 (v := v9.toInt64) rfl ?_
    refine y_last d_Lw_furnace_8 (q0 := 0) rfl (fun q => q.elim (by decide) (by decide)) (f' := vp_updL (((mg t s9).1 69).2.1) 0 v9.toInt64) rfl (cs' := [((ad 69), .inl (3, 1, .inr (.inl (vp_updL (((mg t s9).1 69).2.1) 0 v9.toInt64))))]) rfl ?_
    refine y_goto (tgt := 18) d_Lw_furnace_9 (by decide) ?_
    refine y_iconst d_Lw_furnace_18 (v := 0) (by decide) ?_
    refine y_iret d_Lw_furnace_19 rfl rfl ?_
    exact fun w1 h1 => ⟨⟨_, rfl⟩, u2, hu, IVm.tz ((hI.gen (t2 := (zup (mg t s9).1 [(69, (((mg t s9).1 69).1, vp_updL (((mg t s9).1 69).2.1) 0 v9.toInt64, ((mg t s9).1 69).2.2))], (mg t s9).2)) (is := [69]) (L2 := []) h1 rfl ⟨kd_69.mpr rfl, trivial⟩ (by decide) (by decide) (fun _ h => nomatch h) (fun _ h => nomatch h) (fun i hi hn => zup_out (fun q => hn ((by decide : ∀ j ∈ ([69] : List Nat), j ∈ ([69] : List Nat)) i q))) (fun h => h) rfl)) (tx_all rfl)⟩
abbrev M_Lw_hold : zM := (⟨"IronpourLaw", "hold", "(LIronpour;I[J)I"⟩, method_21_code, 4, (Option.some FieldType.int), 7, 121, [((0 : Nat), (9 : Nat), (12 : Nat), (13 : Nat))])
theorem d_Lw_hold_0 : decode method_21_code 0 = .ok (.aload_n 2, 1) := zo_44 (zd_b zq_method_21_code_0 0 rfl rfl rfl)
theorem d_Lw_hold_1 : decode method_21_code 1 = .ok (.iconst 0, 1) := zo_3 (zd_b zq_method_21_code_0 1 rfl rfl rfl)
theorem d_Lw_hold_2 : decode method_21_code 2 = .ok (.aload_n 0, 1) := zo_42 (zd_b zq_method_21_code_0 2 rfl rfl rfl)
theorem d_Lw_hold_3 : decode method_21_code 3 = .ok (.iload_n 1, 1) := zo_27 (zd_b zq_method_21_code_0 3 rfl rfl rfl)
theorem d_Lw_hold_4 : decode method_21_code 4 = .ok (.invokevirtual 83, 3) := zo_182 (d := 0) (e := 83) (zd_b zq_method_21_code_0 4 rfl rfl rfl) (zd_b zq_method_21_code_0 5 rfl rfl rfl) (zd_b zq_method_21_code_0 6 rfl rfl rfl)
theorem ok_Lw_hold_Ip_hold : z_okH M_Lw_hold M_Ip_hold 1 := ⟨z_mj5 (i := 89) rfl (by decide +kernel), rfl, ⟨by decide +kernel, by decide +kernel, by decide +kernel⟩, ⟨by decide, by decide⟩, z_mj1 (i := 1) rfl (by decide +kernel)⟩
theorem ln_Lw_83 : Cond.methodLink "IronpourLaw" 83 M_Ip_hold.1 ∈ z_gw := z_mj5 (i := 86) rfl (by decide +kernel)
theorem w_im_Ip_hold : Cond.instanceMethod M_Ip_hold.1 ∈ z_gw := z_mj5 (i := 87) rfl (by decide +kernel)
theorem w_se_Ip_hold : Cond.selects M_Ip_hold.1.cls M_Ip_hold.1 M_Ip_hold.1 ∈ z_gw := z_mj5 (i := 88) rfl (by decide +kernel)
theorem d_Lw_hold_12 : decode method_21_code 12 = .ok (.astore_n 3, 1) := zo_78 (zd_b zq_method_21_code_0 12 rfl rfl rfl)
theorem d_Lw_hold_13 : decode method_21_code 13 = .ok (.iconst 1, 1) := zo_4 (zd_b zq_method_21_code_0 13 rfl rfl rfl)
theorem d_Lw_hold_14 : decode method_21_code 14 = .ok (.ireturn, 1) := zo_172 (zd_b zq_method_21_code_0 14 rfl rfl rfl)
theorem d_Lw_hold_7 : decode method_21_code 7 = .ok (.i2l, 1) := zo_133 (zd_b zq_method_21_code_0 7 rfl rfl rfl)
theorem d_Lw_hold_8 : decode method_21_code 8 = .ok (.lastore, 1) := zo_80 (zd_b zq_method_21_code_0 8 rfl rfl rfl)
theorem d_Lw_hold_9 : decode method_21_code 9 = .ok (.goto 6, 3) := zo_167 (d := 0) (e := 6) (zd_b zq_method_21_code_0 9 rfl rfl rfl) (zd_b zq_method_21_code_0 10 rfl rfl rfl) (zd_b zq_method_21_code_0 11 rfl rfl rfl) (by decide +kernel)
theorem d_Lw_hold_15 : decode method_21_code 15 = .ok (.iconst 0, 1) := zo_3 (zd_b zq_method_21_code_0 15 rfl rfl rfl)
theorem d_Lw_hold_16 : decode method_21_code 16 = .ok (.ireturn, 1) := zo_172 (zd_b zq_method_21_code_0 16 rfl rfl rfl)
set_option maxHeartbeats 4000000 in
set_option maxRecDepth 100000 in
theorem W_hold {g : zG} {ad : Nat → Nat} {t : zTT} {u : zNN} {w : zW} (hI : IVm g ad t u w) (x : Int32) : zMB g M_Lw_hold [.ref (ad 0), .int x, .ref (ad 69)] w (fun o w1 => MKx g ad (tK_Ip_hold x t) u.1 o w1) 10 300 := by
  obtain ⟨s, hI⟩ := hI
  obtain ⟨e_a, wf_a, k_a⟩ := hI.1.2 0 (by decide)
  obtain rfl := kd_0.mp k_a
  obtain ⟨e_o1, wf_o1, k_o1⟩ := hI.1.2 69 (by decide)
  obtain rfl := kd_69.mp k_o1
  refine y_ofH (by decide) (by decide) (Nat.le_of_ble_eq_true rfl) (y_base (cs := [((ad 0), .inr (11, [.ref (ad 1), .ref (ad 5), .ref (ad 18), .ref (ad 31), .ref (ad 32), .ref (ad 36), .ref (ad 42), .ref (ad 45), .ref (ad 47), .ref (ad 49), .ref (ad 50), .ref (ad 51)])), ((ad 69), .inl (3, 1, .inr (.inl (((mg t s).1 69).2.1))))]) (hI.1.I [0, 69] _ rfl (by decide) (by decide) (List.forall_mem_cons.mpr ⟨wf_a, (List.forall_mem_cons.mpr ⟨wf_o1, (fun _ h => nomatch h)⟩)⟩)) ?_)
  refine y_lvE (lv2 := [(0, .ref (ad 0)), (1, .int x), (2, .ref (ad 69))]) rfl ?_
  refine y_aload_n d_Lw_hold_0 rfl 2 rfl ?_
  refine y_iconst d_Lw_hold_1 (v := 0) (by decide) ?_
  refine y_aload_n d_Lw_hold_2 rfl 0 rfl ?_
  refine y_iload_n d_Lw_hold_3 rfl 1 rfl ?_
  refine yw_callVH (As := [.int x]) (rest := [.int 0, .ref (ad 69)]) (q0 := 0) rfl rfl ln_Lw_83 w_im_Ip_hold w_se_Ip_hold ok_Lw_hold_Ip_hold d_Lw_hold_4 (fun wA hA => K_Ip_hold ⟨_, (hI.gen (t2 := (mg t s)) (is := [0, 69]) (L2 := []) hA rfl ⟨kd_0.mpr rfl, kd_69.mpr rfl, trivial⟩ (by decide) (by decide) (fun _ h => nomatch h) (fun _ h => nomatch h) (fun _ _ _ => rfl) (fun h => h) rfl)⟩ x) rfl rfl (Nat.le_of_ble_eq_true rfl) (by omega) (by omega) (fun wA4 hA4 E wB4 hx => ?_) (fun wA4 hA4 v wB4 hx => ?_)
  · obtain ⟨h1, u2, hu, hI2⟩ := hx
    obtain rfl := List.mem_singleton.mp (zriE h1)
    refine ⟨"java/lang/IllegalArgumentException", [], [], (0, 9, 12, 13), rfl, (fun z hz => nomatch hz), by decide, by decide, lx_Lw_13, ce_13, fun qx => ?_⟩
    refine y_base (cs := []) (z_I.nil wB4) ?_
    refine y_astore_n (lv' := [(3, .ref qx), (0, .ref (ad 0)), (1, .int x), (2, .ref (ad 69))]) d_Lw_hold_12 rfl (by decide) rfl ?_
    refine y_iconst d_Lw_hold_13 (v := 1) (by decide) ?_
    refine y_iret d_Lw_hold_14 rfl rfl ?_
    exact fun w1 h1 => ⟨⟨_, rfl⟩, u2, hu, (z_I.same (z_I.nil _) h1).symm ▸ hI2⟩
  · obtain ⟨h1, u2, hu, hI2⟩ := hx
    obtain ⟨v9, rfl⟩ := zriV h1
    refine yw_st (st2 := [.int v9, .int 0, .ref (ad 69)]) rfl ?_
    obtain ⟨s9, hI⟩ := hI2
    obtain ⟨e_o1, wf_o1, k_o1⟩ := hI.1.2 69 (by decide)
    obtain rfl := kd_69.mp k_o1
    refine y_base (cs := [((ad 69), .inl (3, 1, .inr (.inl (((mg (tK_Ip_hold x t) s9).1 69).2.1))))]) (hI.1.I [69] _ rfl (by decide) (by decide) (List.forall_mem_cons.mpr ⟨wf_o1, (fun _ h => nomatch h)⟩)) ?_
    refine y_i2l d_Lw_hold_7 (v := v9.toInt64) rfl ?_
    refine y_last d_Lw_hold_8 (q0 := 0) rfl (fun q => q.elim (by decide) (by decide)) (f' := vp_updL (((mg (tK_Ip_hold x t) s9).1 69).2.1) 0 v9.toInt64) rfl (cs' := [((ad 69), .inl (3, 1, .inr (.inl (vp_updL (((mg (tK_Ip_hold x t) s9).1 69).2.1) 0 v9.toInt64))))]) rfl ?_
    refine y_goto (tgt := 15) d_Lw_hold_9 (by decide) ?_
    refine y_iconst d_Lw_hold_15 (v := 0) (by decide) ?_
    refine y_iret d_Lw_hold_16 rfl rfl ?_
    exact fun w1 h1 => ⟨⟨_, rfl⟩, u2, hu, IVm.tz ((hI.gen (t2 := (zup (mg (tK_Ip_hold x t) s9).1 [(69, (((mg (tK_Ip_hold x t) s9).1 69).1, vp_updL (((mg (tK_Ip_hold x t) s9).1 69).2.1) 0 v9.toInt64, ((mg (tK_Ip_hold x t) s9).1 69).2.2))], (mg (tK_Ip_hold x t) s9).2)) (is := [69]) (L2 := []) h1 rfl ⟨kd_69.mpr rfl, trivial⟩ (by decide) (by decide) (fun _ h => nomatch h) (fun _ h => nomatch h) (fun i hi hn => zup_out (fun q => hn ((by decide : ∀ j ∈ ([69] : List Nat), j ∈ ([69] : List Nat)) i q))) (fun h => h) rfl)) (tx_all rfl)⟩
abbrev M_Lw_tap : zM := (⟨"IronpourLaw", "tap", "(LIronpour;I[J)I"⟩, method_22_code, 4, (Option.some FieldType.int), 7, 121, [((0 : Nat), (9 : Nat), (12 : Nat), (13 : Nat)), ((0 : Nat), (9 : Nat), (15 : Nat), (69 : Nat)), ((0 : Nat), (9 : Nat), (18 : Nat), (78 : Nat))])
theorem d_Lw_tap_0 : decode method_22_code 0 = .ok (.aload_n 2, 1) := zo_44 (zd_b zq_method_22_code_0 0 rfl rfl rfl)
theorem d_Lw_tap_1 : decode method_22_code 1 = .ok (.iconst 0, 1) := zo_3 (zd_b zq_method_22_code_0 1 rfl rfl rfl)
theorem d_Lw_tap_2 : decode method_22_code 2 = .ok (.aload_n 0, 1) := zo_42 (zd_b zq_method_22_code_0 2 rfl rfl rfl)
theorem d_Lw_tap_3 : decode method_22_code 3 = .ok (.iload_n 1, 1) := zo_27 (zd_b zq_method_22_code_0 3 rfl rfl rfl)
theorem d_Lw_tap_4 : decode method_22_code 4 = .ok (.invokevirtual 86, 3) := zo_182 (d := 0) (e := 86) (zd_b zq_method_22_code_0 4 rfl rfl rfl) (zd_b zq_method_22_code_0 5 rfl rfl rfl) (zd_b zq_method_22_code_0 6 rfl rfl rfl)
theorem ok_Lw_tap_Ip_tap : z_okH M_Lw_tap M_Ip_tap 1 := ⟨z_mj5 (i := 105) rfl (by decide +kernel), rfl, ⟨by decide +kernel, by decide +kernel, by decide +kernel⟩, ⟨by decide, by decide⟩, z_mj1 (i := 1) rfl (by decide +kernel)⟩
theorem ln_Lw_86 : Cond.methodLink "IronpourLaw" 86 M_Ip_tap.1 ∈ z_gw := z_mj5 (i := 102) rfl (by decide +kernel)
theorem w_im_Ip_tap : Cond.instanceMethod M_Ip_tap.1 ∈ z_gw := z_mj5 (i := 103) rfl (by decide +kernel)
theorem w_se_Ip_tap : Cond.selects M_Ip_tap.1.cls M_Ip_tap.1 M_Ip_tap.1 ∈ z_gw := z_mj5 (i := 104) rfl (by decide +kernel)
theorem d_Lw_tap_12 : decode method_22_code 12 = .ok (.astore_n 3, 1) := zo_78 (zd_b zq_method_22_code_0 12 rfl rfl rfl)
theorem d_Lw_tap_13 : decode method_22_code 13 = .ok (.iconst 1, 1) := zo_4 (zd_b zq_method_22_code_0 13 rfl rfl rfl)
theorem d_Lw_tap_14 : decode method_22_code 14 = .ok (.ireturn, 1) := zo_172 (zd_b zq_method_22_code_0 14 rfl rfl rfl)
theorem d_Lw_tap_15 : decode method_22_code 15 = .ok (.astore_n 3, 1) := zo_78 (zd_b zq_method_22_code_0 15 rfl rfl rfl)
theorem d_Lw_tap_16 : decode method_22_code 16 = .ok (.iconst 2, 1) := zo_5 (zd_b zq_method_22_code_0 16 rfl rfl rfl)
theorem d_Lw_tap_17 : decode method_22_code 17 = .ok (.ireturn, 1) := zo_172 (zd_b zq_method_22_code_0 17 rfl rfl rfl)
theorem d_Lw_tap_18 : decode method_22_code 18 = .ok (.astore_n 3, 1) := zo_78 (zd_b zq_method_22_code_0 18 rfl rfl rfl)
theorem d_Lw_tap_19 : decode method_22_code 19 = .ok (.iconst 3, 1) := zo_6 (zd_b zq_method_22_code_0 19 rfl rfl rfl)
theorem d_Lw_tap_20 : decode method_22_code 20 = .ok (.ireturn, 1) := zo_172 (zd_b zq_method_22_code_0 20 rfl rfl rfl)
theorem d_Lw_tap_7 : decode method_22_code 7 = .ok (.i2l, 1) := zo_133 (zd_b zq_method_22_code_0 7 rfl rfl rfl)
theorem d_Lw_tap_8 : decode method_22_code 8 = .ok (.lastore, 1) := zo_80 (zd_b zq_method_22_code_0 8 rfl rfl rfl)
theorem d_Lw_tap_9 : decode method_22_code 9 = .ok (.goto 12, 3) := zo_167 (d := 0) (e := 12) (zd_b zq_method_22_code_0 9 rfl rfl rfl) (zd_b zq_method_22_code_0 10 rfl rfl rfl) (zd_b zq_method_22_code_0 11 rfl rfl rfl) (by decide +kernel)
theorem d_Lw_tap_21 : decode method_22_code 21 = .ok (.iconst 0, 1) := zo_3 (zd_b zq_method_22_code_0 21 rfl rfl rfl)
theorem d_Lw_tap_22 : decode method_22_code 22 = .ok (.ireturn, 1) := zo_172 (zd_b zq_method_22_code_0 22 rfl rfl rfl)
set_option maxHeartbeats 4000000 in
set_option maxRecDepth 100000 in
theorem W_tap {g : zG} {ad : Nat → Nat} {t : zTT} {u : zNN} {w : zW} (hI : IVm g ad t u w) (m : Int32) : zMB g M_Lw_tap [.ref (ad 0), .int m, .ref (ad 69)] w (fun o w1 => MKx g ad (tK_Ip_tap m t) u.1 o w1) 10 300 := by
  obtain ⟨s, hI⟩ := hI
  obtain ⟨e_a, wf_a, k_a⟩ := hI.1.2 0 (by decide)
  obtain rfl := kd_0.mp k_a
  obtain ⟨e_o1, wf_o1, k_o1⟩ := hI.1.2 69 (by decide)
  obtain rfl := kd_69.mp k_o1
  refine y_ofH (by decide) (by decide) (Nat.le_of_ble_eq_true rfl) (y_base (cs := [((ad 0), .inr (11, [.ref (ad 1), .ref (ad 5), .ref (ad 18), .ref (ad 31), .ref (ad 32), .ref (ad 36), .ref (ad 42), .ref (ad 45), .ref (ad 47), .ref (ad 49), .ref (ad 50), .ref (ad 51)])), ((ad 69), .inl (3, 1, .inr (.inl (((mg t s).1 69).2.1))))]) (hI.1.I [0, 69] _ rfl (by decide) (by decide) (List.forall_mem_cons.mpr ⟨wf_a, (List.forall_mem_cons.mpr ⟨wf_o1, (fun _ h => nomatch h)⟩)⟩)) ?_)
  refine y_lvE (lv2 := [(0, .ref (ad 0)), (1, .int m), (2, .ref (ad 69))]) rfl ?_
  refine y_aload_n d_Lw_tap_0 rfl 2 rfl ?_
  refine y_iconst d_Lw_tap_1 (v := 0) (by decide) ?_
  refine y_aload_n d_Lw_tap_2 rfl 0 rfl ?_
  refine y_iload_n d_Lw_tap_3 rfl 1 rfl ?_
  refine yw_callVH (As := [.int m]) (rest := [.int 0, .ref (ad 69)]) (q0 := 0) rfl rfl ln_Lw_86 w_im_Ip_tap w_se_Ip_tap ok_Lw_tap_Ip_tap d_Lw_tap_4 (fun wA hA => K_Ip_tap ⟨_, (hI.gen (t2 := (mg t s)) (is := [0, 69]) (L2 := []) hA rfl ⟨kd_0.mpr rfl, kd_69.mpr rfl, trivial⟩ (by decide) (by decide) (fun _ h => nomatch h) (fun _ h => nomatch h) (fun _ _ _ => rfl) (fun h => h) rfl)⟩ m) rfl rfl (Nat.le_of_ble_eq_true rfl) (by omega) (by omega) (fun wA4 hA4 E wB4 hx => ?_) (fun wA4 hA4 v wB4 hx => ?_)
  · obtain ⟨h1, u2, hu, hI2⟩ := hx
    rcases List.mem_cons.mp (zriE h1) with rfl | g3
    · refine ⟨"java/lang/IllegalArgumentException", [], [(0, 9, 15, 69), (0, 9, 18, 78)], (0, 9, 12, 13), rfl, (fun z hz => nomatch hz), by decide, by decide, lx_Lw_13, ce_13, fun qx => ?_⟩
      refine y_base (cs := []) (z_I.nil wB4) ?_
      refine y_astore_n (lv' := [(3, .ref qx), (0, .ref (ad 0)), (1, .int m), (2, .ref (ad 69))]) d_Lw_tap_12 rfl (by decide) rfl ?_
      refine y_iconst d_Lw_tap_13 (v := 1) (by decide) ?_
      refine y_iret d_Lw_tap_14 rfl rfl ?_
      exact fun w1 h1 => ⟨⟨_, rfl⟩, u2, hu, (z_I.same (z_I.nil _) h1).symm ▸ hI2⟩
    · rcases List.mem_cons.mp g3 with rfl | g2
      · refine ⟨"java/lang/IllegalStateException", [(0, 9, 12, 13)], [(0, 9, 18, 78)], (0, 9, 15, 69), rfl, (fun z hz => by simp only [List.mem_cons, List.not_mem_nil, or_false] at hz; rcases hz with rfl; exact Or.inr ⟨by decide, _, lx_Lw_13, by decide⟩), by decide, by decide, lx_Lw_69, ce_69, fun qx => ?_⟩
        refine y_base (cs := []) (z_I.nil wB4) ?_
        refine y_astore_n (lv' := [(3, .ref qx), (0, .ref (ad 0)), (1, .int m), (2, .ref (ad 69))]) d_Lw_tap_15 rfl (by decide) rfl ?_
        refine y_iconst d_Lw_tap_16 (v := 2) (by decide) ?_
        refine y_iret d_Lw_tap_17 rfl rfl ?_
        exact fun w1 h1 => ⟨⟨_, rfl⟩, u2, hu, (z_I.same (z_I.nil _) h1).symm ▸ hI2⟩
      · obtain rfl := List.mem_singleton.mp g2
        refine ⟨"java/lang/UnsupportedOperationException", [(0, 9, 12, 13), (0, 9, 15, 69)], [], (0, 9, 18, 78), rfl, (fun z hz => by simp only [List.mem_cons, List.not_mem_nil, or_false] at hz; rcases hz with rfl | rfl <;> first | exact Or.inr ⟨by decide, _, lx_Lw_13, by decide⟩ | exact Or.inr ⟨by decide, _, lx_Lw_69, by decide⟩), by decide, by decide, lx_Lw_78, ce_78, fun qx => ?_⟩
        refine y_base (cs := []) (z_I.nil wB4) ?_
        refine y_astore_n (lv' := [(3, .ref qx), (0, .ref (ad 0)), (1, .int m), (2, .ref (ad 69))]) d_Lw_tap_18 rfl (by decide) rfl ?_
        refine y_iconst d_Lw_tap_19 (v := 3) (by decide) ?_
        refine y_iret d_Lw_tap_20 rfl rfl ?_
        exact fun w1 h1 => ⟨⟨_, rfl⟩, u2, hu, (z_I.same (z_I.nil _) h1).symm ▸ hI2⟩
  · obtain ⟨h1, u2, hu, hI2⟩ := hx
    obtain ⟨v9, rfl⟩ := zriV h1
    refine yw_st (st2 := [.int v9, .int 0, .ref (ad 69)]) rfl ?_
    obtain ⟨s9, hI⟩ := hI2
    obtain ⟨e_o1, wf_o1, k_o1⟩ := hI.1.2 69 (by decide)
    obtain rfl := kd_69.mp k_o1
    refine y_base (cs := [((ad 69), .inl (3, 1, .inr (.inl (((mg (tK_Ip_tap m t) s9).1 69).2.1))))]) (hI.1.I [69] _ rfl (by decide) (by decide) (List.forall_mem_cons.mpr ⟨wf_o1, (fun _ h => nomatch h)⟩)) ?_
    refine y_i2l d_Lw_tap_7 (v := v9.toInt64) rfl ?_
    refine y_last d_Lw_tap_8 (q0 := 0) rfl (fun q => q.elim (by decide) (by decide)) (f' := vp_updL (((mg (tK_Ip_tap m t) s9).1 69).2.1) 0 v9.toInt64) rfl (cs' := [((ad 69), .inl (3, 1, .inr (.inl (vp_updL (((mg (tK_Ip_tap m t) s9).1 69).2.1) 0 v9.toInt64))))]) rfl ?_
    refine y_goto (tgt := 21) d_Lw_tap_9 (by decide) ?_
    refine y_iconst d_Lw_tap_21 (v := 0) (by decide) ?_
    refine y_iret d_Lw_tap_22 rfl rfl ?_
    exact fun w1 h1 => ⟨⟨_, rfl⟩, u2, hu, IVm.tz ((hI.gen (t2 := (zup (mg (tK_Ip_tap m t) s9).1 [(69, (((mg (tK_Ip_tap m t) s9).1 69).1, vp_updL (((mg (tK_Ip_tap m t) s9).1 69).2.1) 0 v9.toInt64, ((mg (tK_Ip_tap m t) s9).1 69).2.2))], (mg (tK_Ip_tap m t) s9).2)) (is := [69]) (L2 := []) h1 rfl ⟨kd_69.mpr rfl, trivial⟩ (by decide) (by decide) (fun _ h => nomatch h) (fun _ h => nomatch h) (fun i hi hn => zup_out (fun q => hn ((by decide : ∀ j ∈ ([69] : List Nat), j ∈ ([69] : List Nat)) i q))) (fun h => h) rfl)) (tx_all rfl)⟩
abbrev M_Lw_treat : zM := (⟨"IronpourLaw", "treat", "(LIronpour;I[J)I"⟩, method_23_code, 4, (Option.some FieldType.int), 7, 121, [((0 : Nat), (9 : Nat), (12 : Nat), (13 : Nat)), ((0 : Nat), (9 : Nat), (15 : Nat), (69 : Nat)), ((0 : Nat), (9 : Nat), (18 : Nat), (78 : Nat))])
theorem d_Lw_treat_0 : decode method_23_code 0 = .ok (.aload_n 2, 1) := zo_44 (zd_b zq_method_23_code_0 0 rfl rfl rfl)
theorem d_Lw_treat_1 : decode method_23_code 1 = .ok (.iconst 0, 1) := zo_3 (zd_b zq_method_23_code_0 1 rfl rfl rfl)
theorem d_Lw_treat_2 : decode method_23_code 2 = .ok (.aload_n 0, 1) := zo_42 (zd_b zq_method_23_code_0 2 rfl rfl rfl)
theorem d_Lw_treat_3 : decode method_23_code 3 = .ok (.iload_n 1, 1) := zo_27 (zd_b zq_method_23_code_0 3 rfl rfl rfl)
theorem d_Lw_treat_4 : decode method_23_code 4 = .ok (.invokevirtual 89, 3) := zo_182 (d := 0) (e := 89) (zd_b zq_method_23_code_0 4 rfl rfl rfl) (zd_b zq_method_23_code_0 5 rfl rfl rfl) (zd_b zq_method_23_code_0 6 rfl rfl rfl)
theorem ok_Lw_treat_Ip_treat : z_okH M_Lw_treat M_Ip_treat 1 := ⟨z_mj5 (i := 124) rfl (by decide +kernel), rfl, ⟨by decide +kernel, by decide +kernel, by decide +kernel⟩, ⟨by decide, by decide⟩, z_mj1 (i := 1) rfl (by decide +kernel)⟩
theorem ln_Lw_89 : Cond.methodLink "IronpourLaw" 89 M_Ip_treat.1 ∈ z_gw := z_mj5 (i := 121) rfl (by decide +kernel)
theorem w_im_Ip_treat : Cond.instanceMethod M_Ip_treat.1 ∈ z_gw := z_mj5 (i := 122) rfl (by decide +kernel)
theorem w_se_Ip_treat : Cond.selects M_Ip_treat.1.cls M_Ip_treat.1 M_Ip_treat.1 ∈ z_gw := z_mj5 (i := 123) rfl (by decide +kernel)
theorem d_Lw_treat_12 : decode method_23_code 12 = .ok (.astore_n 3, 1) := zo_78 (zd_b zq_method_23_code_0 12 rfl rfl rfl)
theorem d_Lw_treat_13 : decode method_23_code 13 = .ok (.iconst 1, 1) := zo_4 (zd_b zq_method_23_code_0 13 rfl rfl rfl)
theorem d_Lw_treat_14 : decode method_23_code 14 = .ok (.ireturn, 1) := zo_172 (zd_b zq_method_23_code_0 14 rfl rfl rfl)
theorem d_Lw_treat_15 : decode method_23_code 15 = .ok (.astore_n 3, 1) := zo_78 (zd_b zq_method_23_code_0 15 rfl rfl rfl)
theorem d_Lw_treat_16 : decode method_23_code 16 = .ok (.iconst 2, 1) := zo_5 (zd_b zq_method_23_code_0 16 rfl rfl rfl)
theorem d_Lw_treat_17 : decode method_23_code 17 = .ok (.ireturn, 1) := zo_172 (zd_b zq_method_23_code_0 17 rfl rfl rfl)
theorem d_Lw_treat_18 : decode method_23_code 18 = .ok (.astore_n 3, 1) := zo_78 (zd_b zq_method_23_code_0 18 rfl rfl rfl)
theorem d_Lw_treat_19 : decode method_23_code 19 = .ok (.iconst 3, 1) := zo_6 (zd_b zq_method_23_code_0 19 rfl rfl rfl)
theorem d_Lw_treat_20 : decode method_23_code 20 = .ok (.ireturn, 1) := zo_172 (zd_b zq_method_23_code_0 20 rfl rfl rfl)
theorem d_Lw_treat_7 : decode method_23_code 7 = .ok (.i2l, 1) := zo_133 (zd_b zq_method_23_code_0 7 rfl rfl rfl)
theorem d_Lw_treat_8 : decode method_23_code 8 = .ok (.lastore, 1) := zo_80 (zd_b zq_method_23_code_0 8 rfl rfl rfl)
theorem d_Lw_treat_9 : decode method_23_code 9 = .ok (.goto 12, 3) := zo_167 (d := 0) (e := 12) (zd_b zq_method_23_code_0 9 rfl rfl rfl) (zd_b zq_method_23_code_0 10 rfl rfl rfl) (zd_b zq_method_23_code_0 11 rfl rfl rfl) (by decide +kernel)
theorem d_Lw_treat_21 : decode method_23_code 21 = .ok (.iconst 0, 1) := zo_3 (zd_b zq_method_23_code_0 21 rfl rfl rfl)
theorem d_Lw_treat_22 : decode method_23_code 22 = .ok (.ireturn, 1) := zo_172 (zd_b zq_method_23_code_0 22 rfl rfl rfl)
set_option maxHeartbeats 4000000 in
set_option maxRecDepth 100000 in
theorem W_treat {g : zG} {ad : Nat → Nat} {t : zTT} {u : zNN} {w : zW} (hI : IVm g ad t u w) (m : Int32) : zMB g M_Lw_treat [.ref (ad 0), .int m, .ref (ad 69)] w (fun o w1 => MKx g ad (tK_Ip_treat m t) u.1 o w1) 10 300 := by
  obtain ⟨s, hI⟩ := hI
  obtain ⟨e_a, wf_a, k_a⟩ := hI.1.2 0 (by decide)
  obtain rfl := kd_0.mp k_a
  obtain ⟨e_o1, wf_o1, k_o1⟩ := hI.1.2 69 (by decide)
  obtain rfl := kd_69.mp k_o1
  refine y_ofH (by decide) (by decide) (Nat.le_of_ble_eq_true rfl) (y_base (cs := [((ad 0), .inr (11, [.ref (ad 1), .ref (ad 5), .ref (ad 18), .ref (ad 31), .ref (ad 32), .ref (ad 36), .ref (ad 42), .ref (ad 45), .ref (ad 47), .ref (ad 49), .ref (ad 50), .ref (ad 51)])), ((ad 69), .inl (3, 1, .inr (.inl (((mg t s).1 69).2.1))))]) (hI.1.I [0, 69] _ rfl (by decide) (by decide) (List.forall_mem_cons.mpr ⟨wf_a, (List.forall_mem_cons.mpr ⟨wf_o1, (fun _ h => nomatch h)⟩)⟩)) ?_)
  refine y_lvE (lv2 := [(0, .ref (ad 0)), (1, .int m), (2, .ref (ad 69))]) rfl ?_
  refine y_aload_n d_Lw_treat_0 rfl 2 rfl ?_
  refine y_iconst d_Lw_treat_1 (v := 0) (by decide) ?_
  refine y_aload_n d_Lw_treat_2 rfl 0 rfl ?_
  refine y_iload_n d_Lw_treat_3 rfl 1 rfl ?_
  refine yw_callVH (As := [.int m]) (rest := [.int 0, .ref (ad 69)]) (q0 := 0) rfl rfl ln_Lw_89 w_im_Ip_treat w_se_Ip_treat ok_Lw_treat_Ip_treat d_Lw_treat_4 (fun wA hA => K_Ip_treat ⟨_, (hI.gen (t2 := (mg t s)) (is := [0, 69]) (L2 := []) hA rfl ⟨kd_0.mpr rfl, kd_69.mpr rfl, trivial⟩ (by decide) (by decide) (fun _ h => nomatch h) (fun _ h => nomatch h) (fun _ _ _ => rfl) (fun h => h) rfl)⟩ m) rfl rfl (Nat.le_of_ble_eq_true rfl) (by omega) (by omega) (fun wA4 hA4 E wB4 hx => ?_) (fun wA4 hA4 v wB4 hx => ?_)
  · obtain ⟨h1, u2, hu, hI2⟩ := hx
    rcases List.mem_cons.mp (zriE h1) with rfl | g3
    · refine ⟨"java/lang/IllegalArgumentException", [], [(0, 9, 15, 69), (0, 9, 18, 78)], (0, 9, 12, 13), rfl, (fun z hz => nomatch hz), by decide, by decide, lx_Lw_13, ce_13, fun qx => ?_⟩
      refine y_base (cs := []) (z_I.nil wB4) ?_
      refine y_astore_n (lv' := [(3, .ref qx), (0, .ref (ad 0)), (1, .int m), (2, .ref (ad 69))]) d_Lw_treat_12 rfl (by decide) rfl ?_
      refine y_iconst d_Lw_treat_13 (v := 1) (by decide) ?_
      refine y_iret d_Lw_treat_14 rfl rfl ?_
      exact fun w1 h1 => ⟨⟨_, rfl⟩, u2, hu, (z_I.same (z_I.nil _) h1).symm ▸ hI2⟩
    · rcases List.mem_cons.mp g3 with rfl | g2
      · refine ⟨"java/lang/IllegalStateException", [(0, 9, 12, 13)], [(0, 9, 18, 78)], (0, 9, 15, 69), rfl, (fun z hz => by simp only [List.mem_cons, List.not_mem_nil, or_false] at hz; rcases hz with rfl; exact Or.inr ⟨by decide, _, lx_Lw_13, by decide⟩), by decide, by decide, lx_Lw_69, ce_69, fun qx => ?_⟩
        refine y_base (cs := []) (z_I.nil wB4) ?_
        refine y_astore_n (lv' := [(3, .ref qx), (0, .ref (ad 0)), (1, .int m), (2, .ref (ad 69))]) d_Lw_treat_15 rfl (by decide) rfl ?_
        refine y_iconst d_Lw_treat_16 (v := 2) (by decide) ?_
        refine y_iret d_Lw_treat_17 rfl rfl ?_
        exact fun w1 h1 => ⟨⟨_, rfl⟩, u2, hu, (z_I.same (z_I.nil _) h1).symm ▸ hI2⟩
      · obtain rfl := List.mem_singleton.mp g2
        refine ⟨"java/lang/UnsupportedOperationException", [(0, 9, 12, 13), (0, 9, 15, 69)], [], (0, 9, 18, 78), rfl, (fun z hz => by simp only [List.mem_cons, List.not_mem_nil, or_false] at hz; rcases hz with rfl | rfl <;> first | exact Or.inr ⟨by decide, _, lx_Lw_13, by decide⟩ | exact Or.inr ⟨by decide, _, lx_Lw_69, by decide⟩), by decide, by decide, lx_Lw_78, ce_78, fun qx => ?_⟩
        refine y_base (cs := []) (z_I.nil wB4) ?_
        refine y_astore_n (lv' := [(3, .ref qx), (0, .ref (ad 0)), (1, .int m), (2, .ref (ad 69))]) d_Lw_treat_18 rfl (by decide) rfl ?_
        refine y_iconst d_Lw_treat_19 (v := 3) (by decide) ?_
        refine y_iret d_Lw_treat_20 rfl rfl ?_
        exact fun w1 h1 => ⟨⟨_, rfl⟩, u2, hu, (z_I.same (z_I.nil _) h1).symm ▸ hI2⟩
  · obtain ⟨h1, u2, hu, hI2⟩ := hx
    obtain ⟨v9, rfl⟩ := zriV h1
    refine yw_st (st2 := [.int v9, .int 0, .ref (ad 69)]) rfl ?_
    obtain ⟨s9, hI⟩ := hI2
    obtain ⟨e_o1, wf_o1, k_o1⟩ := hI.1.2 69 (by decide)
    obtain rfl := kd_69.mp k_o1
    refine y_base (cs := [((ad 69), .inl (3, 1, .inr (.inl (((mg (tK_Ip_treat m t) s9).1 69).2.1))))]) (hI.1.I [69] _ rfl (by decide) (by decide) (List.forall_mem_cons.mpr ⟨wf_o1, (fun _ h => nomatch h)⟩)) ?_
    refine y_i2l d_Lw_treat_7 (v := v9.toInt64) rfl ?_
    refine y_last d_Lw_treat_8 (q0 := 0) rfl (fun q => q.elim (by decide) (by decide)) (f' := vp_updL (((mg (tK_Ip_treat m t) s9).1 69).2.1) 0 v9.toInt64) rfl (cs' := [((ad 69), .inl (3, 1, .inr (.inl (vp_updL (((mg (tK_Ip_treat m t) s9).1 69).2.1) 0 v9.toInt64))))]) rfl ?_
    refine y_goto (tgt := 21) d_Lw_treat_9 (by decide) ?_
    refine y_iconst d_Lw_treat_21 (v := 0) (by decide) ?_
    refine y_iret d_Lw_treat_22 rfl rfl ?_
    exact fun w1 h1 => ⟨⟨_, rfl⟩, u2, hu, IVm.tz ((hI.gen (t2 := (zup (mg (tK_Ip_treat m t) s9).1 [(69, (((mg (tK_Ip_treat m t) s9).1 69).1, vp_updL (((mg (tK_Ip_treat m t) s9).1 69).2.1) 0 v9.toInt64, ((mg (tK_Ip_treat m t) s9).1 69).2.2))], (mg (tK_Ip_treat m t) s9).2)) (is := [69]) (L2 := []) h1 rfl ⟨kd_69.mpr rfl, trivial⟩ (by decide) (by decide) (fun _ h => nomatch h) (fun _ h => nomatch h) (fun i hi hn => zup_out (fun q => hn ((by decide : ∀ j ∈ ([69] : List Nat), j ∈ ([69] : List Nat)) i q))) (fun h => h) rfl)) (tx_all rfl)⟩
abbrev M_Lw_minutes : zM := (⟨"IronpourLaw", "minutes", "(LIronpour;I[J)I"⟩, method_24_code, 4, (Option.some FieldType.int), 7, 122, [((0 : Nat), (9 : Nat), (12 : Nat), (13 : Nat))])
theorem d_Lw_minutes_0 : decode method_24_code 0 = .ok (.aload_n 2, 1) := zo_44 (zd_b zq_method_24_code_0 0 rfl rfl rfl)
theorem d_Lw_minutes_1 : decode method_24_code 1 = .ok (.iconst 0, 1) := zo_3 (zd_b zq_method_24_code_0 1 rfl rfl rfl)
theorem d_Lw_minutes_2 : decode method_24_code 2 = .ok (.aload_n 0, 1) := zo_42 (zd_b zq_method_24_code_0 2 rfl rfl rfl)
theorem d_Lw_minutes_3 : decode method_24_code 3 = .ok (.iload_n 1, 1) := zo_27 (zd_b zq_method_24_code_0 3 rfl rfl rfl)
theorem d_Lw_minutes_4 : decode method_24_code 4 = .ok (.invokevirtual 92, 3) := zo_182 (d := 0) (e := 92) (zd_b zq_method_24_code_0 4 rfl rfl rfl) (zd_b zq_method_24_code_0 5 rfl rfl rfl) (zd_b zq_method_24_code_0 6 rfl rfl rfl)
theorem ok_Lw_minutes_Ip_minutes : z_okH M_Lw_minutes M_Ip_minutes 1 := ⟨z_mj5 (i := 138) rfl (by decide +kernel), rfl, ⟨by decide +kernel, by decide +kernel, by decide +kernel⟩, ⟨by decide, by decide⟩, z_mj1 (i := 1) rfl (by decide +kernel)⟩
theorem ln_Lw_92 : Cond.methodLink "IronpourLaw" 92 M_Ip_minutes.1 ∈ z_gw := z_mj5 (i := 135) rfl (by decide +kernel)
theorem w_im_Ip_minutes : Cond.instanceMethod M_Ip_minutes.1 ∈ z_gw := z_mj5 (i := 136) rfl (by decide +kernel)
theorem w_se_Ip_minutes : Cond.selects M_Ip_minutes.1.cls M_Ip_minutes.1 M_Ip_minutes.1 ∈ z_gw := z_mj5 (i := 137) rfl (by decide +kernel)
theorem d_Lw_minutes_12 : decode method_24_code 12 = .ok (.astore_n 3, 1) := zo_78 (zd_b zq_method_24_code_0 12 rfl rfl rfl)
theorem d_Lw_minutes_13 : decode method_24_code 13 = .ok (.iconst 1, 1) := zo_4 (zd_b zq_method_24_code_0 13 rfl rfl rfl)
theorem d_Lw_minutes_14 : decode method_24_code 14 = .ok (.ireturn, 1) := zo_172 (zd_b zq_method_24_code_0 14 rfl rfl rfl)
theorem d_Lw_minutes_7 : decode method_24_code 7 = .ok (.i2l, 1) := zo_133 (zd_b zq_method_24_code_0 7 rfl rfl rfl)
theorem d_Lw_minutes_8 : decode method_24_code 8 = .ok (.lastore, 1) := zo_80 (zd_b zq_method_24_code_0 8 rfl rfl rfl)
theorem d_Lw_minutes_9 : decode method_24_code 9 = .ok (.goto 6, 3) := zo_167 (d := 0) (e := 6) (zd_b zq_method_24_code_0 9 rfl rfl rfl) (zd_b zq_method_24_code_0 10 rfl rfl rfl) (zd_b zq_method_24_code_0 11 rfl rfl rfl) (by decide +kernel)
theorem d_Lw_minutes_15 : decode method_24_code 15 = .ok (.iconst 0, 1) := zo_3 (zd_b zq_method_24_code_0 15 rfl rfl rfl)
theorem d_Lw_minutes_16 : decode method_24_code 16 = .ok (.ireturn, 1) := zo_172 (zd_b zq_method_24_code_0 16 rfl rfl rfl)
set_option maxHeartbeats 4000000 in
set_option maxRecDepth 100000 in
theorem W_minutes {g : zG} {ad : Nat → Nat} {t : zTT} {u : zNN} {w : zW} (hI : IVm g ad t u w) (x : Int32) : zMB g M_Lw_minutes [.ref (ad 0), .int x, .ref (ad 69)] w (fun o w1 => MKx g ad (tK_Ip_minutes x t u.1) u.1 o w1) 10 300 := by
  obtain ⟨s, hI⟩ := hI
  obtain ⟨e_a, wf_a, k_a⟩ := hI.1.2 0 (by decide)
  obtain rfl := kd_0.mp k_a
  obtain ⟨e_o1, wf_o1, k_o1⟩ := hI.1.2 69 (by decide)
  obtain rfl := kd_69.mp k_o1
  refine y_ofH (by decide) (by decide) (Nat.le_of_ble_eq_true rfl) (y_base (cs := [((ad 0), .inr (11, [.ref (ad 1), .ref (ad 5), .ref (ad 18), .ref (ad 31), .ref (ad 32), .ref (ad 36), .ref (ad 42), .ref (ad 45), .ref (ad 47), .ref (ad 49), .ref (ad 50), .ref (ad 51)])), ((ad 69), .inl (3, 1, .inr (.inl (((mg t s).1 69).2.1))))]) (hI.1.I [0, 69] _ rfl (by decide) (by decide) (List.forall_mem_cons.mpr ⟨wf_a, (List.forall_mem_cons.mpr ⟨wf_o1, (fun _ h => nomatch h)⟩)⟩)) ?_)
  refine y_lvE (lv2 := [(0, .ref (ad 0)), (1, .int x), (2, .ref (ad 69))]) rfl ?_
  refine y_aload_n d_Lw_minutes_0 rfl 2 rfl ?_
  refine y_iconst d_Lw_minutes_1 (v := 0) (by decide) ?_
  refine y_aload_n d_Lw_minutes_2 rfl 0 rfl ?_
  refine y_iload_n d_Lw_minutes_3 rfl 1 rfl ?_
  refine yw_callVH (As := [.int x]) (rest := [.int 0, .ref (ad 69)]) (q0 := 0) rfl rfl ln_Lw_92 w_im_Ip_minutes w_se_Ip_minutes ok_Lw_minutes_Ip_minutes d_Lw_minutes_4 (fun wA hA => K_Ip_minutes ⟨_, (hI.gen (t2 := (mg t s)) (is := [0, 69]) (L2 := []) hA rfl ⟨kd_0.mpr rfl, kd_69.mpr rfl, trivial⟩ (by decide) (by decide) (fun _ h => nomatch h) (fun _ h => nomatch h) (fun _ _ _ => rfl) (fun h => h) rfl)⟩ x) rfl rfl (Nat.le_of_ble_eq_true rfl) (by omega) (by omega) (fun wA4 hA4 E wB4 hx => ?_) (fun wA4 hA4 v wB4 hx => ?_)
  · obtain ⟨h1, u2, hu, hI2⟩ := hx
    obtain rfl := List.mem_singleton.mp (zriE h1)
    refine ⟨"java/lang/IllegalArgumentException", [], [], (0, 9, 12, 13), rfl, (fun z hz => nomatch hz), by decide, by decide, lx_Lw_13, ce_13, fun qx => ?_⟩
    refine y_base (cs := []) (z_I.nil wB4) ?_
    refine y_astore_n (lv' := [(3, .ref qx), (0, .ref (ad 0)), (1, .int x), (2, .ref (ad 69))]) d_Lw_minutes_12 rfl (by decide) rfl ?_
    refine y_iconst d_Lw_minutes_13 (v := 1) (by decide) ?_
    refine y_iret d_Lw_minutes_14 rfl rfl ?_
    exact fun w1 h1 => ⟨⟨_, rfl⟩, u2, hu, (z_I.same (z_I.nil _) h1).symm ▸ hI2⟩
  · obtain ⟨h1, u2, hu, hI2⟩ := hx
    obtain ⟨v9, rfl⟩ := zriV h1
    refine yw_st (st2 := [.int v9, .int 0, .ref (ad 69)]) rfl ?_
    obtain ⟨s9, hI⟩ := hI2
    obtain ⟨e_o1, wf_o1, k_o1⟩ := hI.1.2 69 (by decide)
    obtain rfl := kd_69.mp k_o1
    refine y_base (cs := [((ad 69), .inl (3, 1, .inr (.inl (((mg (tK_Ip_minutes x t u.1) s9).1 69).2.1))))]) (hI.1.I [69] _ rfl (by decide) (by decide) (List.forall_mem_cons.mpr ⟨wf_o1, (fun _ h => nomatch h)⟩)) ?_
    refine y_i2l d_Lw_minutes_7 (v := v9.toInt64) rfl ?_
    refine y_last d_Lw_minutes_8 (q0 := 0) rfl (fun q => q.elim (by decide) (by decide)) (f' := vp_updL (((mg (tK_Ip_minutes x t u.1) s9).1 69).2.1) 0 v9.toInt64) rfl (cs' := [((ad 69), .inl (3, 1, .inr (.inl (vp_updL (((mg (tK_Ip_minutes x t u.1) s9).1 69).2.1) 0 v9.toInt64))))]) rfl ?_
    refine y_goto (tgt := 15) d_Lw_minutes_9 (by decide) ?_
    refine y_iconst d_Lw_minutes_15 (v := 0) (by decide) ?_
    refine y_iret d_Lw_minutes_16 rfl rfl ?_
    exact fun w1 h1 => ⟨⟨_, rfl⟩, u2, hu, IVm.tz ((hI.gen (t2 := (zup (mg (tK_Ip_minutes x t u.1) s9).1 [(69, (((mg (tK_Ip_minutes x t u.1) s9).1 69).1, vp_updL (((mg (tK_Ip_minutes x t u.1) s9).1 69).2.1) 0 v9.toInt64, ((mg (tK_Ip_minutes x t u.1) s9).1 69).2.2))], (mg (tK_Ip_minutes x t u.1) s9).2)) (is := [69]) (L2 := []) h1 rfl ⟨kd_69.mpr rfl, trivial⟩ (by decide) (by decide) (fun _ h => nomatch h) (fun _ h => nomatch h) (fun i hi hn => zup_out (fun q => hn ((by decide : ∀ j ∈ ([69] : List Nat), j ∈ ([69] : List Nat)) i q))) (fun h => h) rfl)) (tx_all rfl)⟩
abbrev M_Lw_ladle : zM := (⟨"IronpourLaw", "ladle", "(LIronpour;C[J)I"⟩, method_25_code, 4, (Option.some FieldType.int), 9, 200, [((0 : Nat), (9 : Nat), (12 : Nat), (13 : Nat))])
theorem d_Lw_ladle_0 : decode method_25_code 0 = .ok (.aload_n 2, 1) := zo_44 (zd_b zq_method_25_code_0 0 rfl rfl rfl)
theorem d_Lw_ladle_1 : decode method_25_code 1 = .ok (.iconst 0, 1) := zo_3 (zd_b zq_method_25_code_0 1 rfl rfl rfl)
theorem d_Lw_ladle_2 : decode method_25_code 2 = .ok (.aload_n 0, 1) := zo_42 (zd_b zq_method_25_code_0 2 rfl rfl rfl)
theorem d_Lw_ladle_3 : decode method_25_code 3 = .ok (.iload_n 1, 1) := zo_27 (zd_b zq_method_25_code_0 3 rfl rfl rfl)
theorem d_Lw_ladle_4 : decode method_25_code 4 = .ok (.invokevirtual 95, 3) := zo_182 (d := 0) (e := 95) (zd_b zq_method_25_code_0 4 rfl rfl rfl) (zd_b zq_method_25_code_0 5 rfl rfl rfl) (zd_b zq_method_25_code_0 6 rfl rfl rfl)
theorem ok_Lw_ladle_Ip_ladle : z_okH M_Lw_ladle M_Ip_ladle 1 := ⟨z_mj5 (i := 152) rfl (by decide +kernel), rfl, ⟨by decide +kernel, by decide +kernel, by decide +kernel⟩, ⟨by decide, by decide⟩, z_mj1 (i := 1) rfl (by decide +kernel)⟩
theorem ln_Lw_95 : Cond.methodLink "IronpourLaw" 95 M_Ip_ladle.1 ∈ z_gw := z_mj5 (i := 149) rfl (by decide +kernel)
theorem w_im_Ip_ladle : Cond.instanceMethod M_Ip_ladle.1 ∈ z_gw := z_mj5 (i := 150) rfl (by decide +kernel)
theorem w_se_Ip_ladle : Cond.selects M_Ip_ladle.1.cls M_Ip_ladle.1 M_Ip_ladle.1 ∈ z_gw := z_mj5 (i := 151) rfl (by decide +kernel)
theorem d_Lw_ladle_12 : decode method_25_code 12 = .ok (.astore_n 3, 1) := zo_78 (zd_b zq_method_25_code_0 12 rfl rfl rfl)
theorem d_Lw_ladle_13 : decode method_25_code 13 = .ok (.iconst 1, 1) := zo_4 (zd_b zq_method_25_code_0 13 rfl rfl rfl)
theorem d_Lw_ladle_14 : decode method_25_code 14 = .ok (.ireturn, 1) := zo_172 (zd_b zq_method_25_code_0 14 rfl rfl rfl)
theorem d_Lw_ladle_7 : decode method_25_code 7 = .ok (.i2l, 1) := zo_133 (zd_b zq_method_25_code_0 7 rfl rfl rfl)
theorem d_Lw_ladle_8 : decode method_25_code 8 = .ok (.lastore, 1) := zo_80 (zd_b zq_method_25_code_0 8 rfl rfl rfl)
theorem d_Lw_ladle_9 : decode method_25_code 9 = .ok (.goto 6, 3) := zo_167 (d := 0) (e := 6) (zd_b zq_method_25_code_0 9 rfl rfl rfl) (zd_b zq_method_25_code_0 10 rfl rfl rfl) (zd_b zq_method_25_code_0 11 rfl rfl rfl) (by decide +kernel)
theorem d_Lw_ladle_15 : decode method_25_code 15 = .ok (.iconst 0, 1) := zo_3 (zd_b zq_method_25_code_0 15 rfl rfl rfl)
theorem d_Lw_ladle_16 : decode method_25_code 16 = .ok (.ireturn, 1) := zo_172 (zd_b zq_method_25_code_0 16 rfl rfl rfl)
set_option maxHeartbeats 4000000 in
set_option maxRecDepth 100000 in
theorem W_ladle {g : zG} {ad : Nat → Nat} {t : zTT} {u : zNN} {w : zW} (hI : IVm g ad t u w) (c : Int32) : zMB g M_Lw_ladle [.ref (ad 0), .int c, .ref (ad 69)] w (fun o w1 => MKx g ad t u.1 o w1) 10 300 := by
  obtain ⟨s, hI⟩ := hI
  obtain ⟨e_a, wf_a, k_a⟩ := hI.1.2 0 (by decide)
  obtain rfl := kd_0.mp k_a
  obtain ⟨e_o1, wf_o1, k_o1⟩ := hI.1.2 69 (by decide)
  obtain rfl := kd_69.mp k_o1
  refine y_ofH (by decide) (by decide) (Nat.le_of_ble_eq_true rfl) (y_base (cs := [((ad 0), .inr (11, [.ref (ad 1), .ref (ad 5), .ref (ad 18), .ref (ad 31), .ref (ad 32), .ref (ad 36), .ref (ad 42), .ref (ad 45), .ref (ad 47), .ref (ad 49), .ref (ad 50), .ref (ad 51)])), ((ad 69), .inl (3, 1, .inr (.inl (((mg t s).1 69).2.1))))]) (hI.1.I [0, 69] _ rfl (by decide) (by decide) (List.forall_mem_cons.mpr ⟨wf_a, (List.forall_mem_cons.mpr ⟨wf_o1, (fun _ h => nomatch h)⟩)⟩)) ?_)
  refine y_lvE (lv2 := [(0, .ref (ad 0)), (1, .int c), (2, .ref (ad 69))]) rfl ?_
  refine y_aload_n d_Lw_ladle_0 rfl 2 rfl ?_
  refine y_iconst d_Lw_ladle_1 (v := 0) (by decide) ?_
  refine y_aload_n d_Lw_ladle_2 rfl 0 rfl ?_
  refine y_iload_n d_Lw_ladle_3 rfl 1 rfl ?_
  refine yw_callVH (As := [.int c]) (rest := [.int 0, .ref (ad 69)]) (q0 := 0) rfl rfl ln_Lw_95 w_im_Ip_ladle w_se_Ip_ladle ok_Lw_ladle_Ip_ladle d_Lw_ladle_4 (fun wA hA => K_Ip_ladle ⟨_, (hI.gen (t2 := (mg t s)) (is := [0, 69]) (L2 := []) hA rfl ⟨kd_0.mpr rfl, kd_69.mpr rfl, trivial⟩ (by decide) (by decide) (fun _ h => nomatch h) (fun _ h => nomatch h) (fun _ _ _ => rfl) (fun h => h) rfl)⟩ c) rfl rfl (Nat.le_of_ble_eq_true rfl) (by omega) (by omega) (fun wA4 hA4 E wB4 hx => ?_) (fun wA4 hA4 v wB4 hx => ?_)
  · obtain ⟨h1, u2, hu, hI2⟩ := hx
    obtain rfl := List.mem_singleton.mp (zriE h1)
    refine ⟨"java/lang/IllegalArgumentException", [], [], (0, 9, 12, 13), rfl, (fun z hz => nomatch hz), by decide, by decide, lx_Lw_13, ce_13, fun qx => ?_⟩
    refine y_base (cs := []) (z_I.nil wB4) ?_
    refine y_astore_n (lv' := [(3, .ref qx), (0, .ref (ad 0)), (1, .int c), (2, .ref (ad 69))]) d_Lw_ladle_12 rfl (by decide) rfl ?_
    refine y_iconst d_Lw_ladle_13 (v := 1) (by decide) ?_
    refine y_iret d_Lw_ladle_14 rfl rfl ?_
    exact fun w1 h1 => ⟨⟨_, rfl⟩, u2, hu, (z_I.same (z_I.nil _) h1).symm ▸ hI2⟩
  · obtain ⟨h1, u2, hu, hI2⟩ := hx
    obtain ⟨v9, rfl⟩ := zriV h1
    refine yw_st (st2 := [.int v9, .int 0, .ref (ad 69)]) rfl ?_
    obtain ⟨s9, hI⟩ := hI2
    obtain ⟨e_o1, wf_o1, k_o1⟩ := hI.1.2 69 (by decide)
    obtain rfl := kd_69.mp k_o1
    refine y_base (cs := [((ad 69), .inl (3, 1, .inr (.inl (((mg t s9).1 69).2.1))))]) (hI.1.I [69] _ rfl (by decide) (by decide) (List.forall_mem_cons.mpr ⟨wf_o1, (fun _ h => nomatch h)⟩)) ?_
    refine y_i2l d_Lw_ladle_7 (v := v9.toInt64) rfl ?_
    refine y_last d_Lw_ladle_8 (q0 := 0) rfl (fun q => q.elim (by decide) (by decide)) (f' := vp_updL (((mg t s9).1 69).2.1) 0 v9.toInt64) rfl (cs' := [((ad 69), .inl (3, 1, .inr (.inl (vp_updL (((mg t s9).1 69).2.1) 0 v9.toInt64))))]) rfl ?_
    refine y_goto (tgt := 15) d_Lw_ladle_9 (by decide) ?_
    refine y_iconst d_Lw_ladle_15 (v := 0) (by decide) ?_
    refine y_iret d_Lw_ladle_16 rfl rfl ?_
    exact fun w1 h1 => ⟨⟨_, rfl⟩, u2, hu, IVm.tz ((hI.gen (t2 := (zup (mg t s9).1 [(69, (((mg t s9).1 69).1, vp_updL (((mg t s9).1 69).2.1) 0 v9.toInt64, ((mg t s9).1 69).2.2))], (mg t s9).2)) (is := [69]) (L2 := []) h1 rfl ⟨kd_69.mpr rfl, trivial⟩ (by decide) (by decide) (fun _ h => nomatch h) (fun _ h => nomatch h) (fun i hi hn => zup_out (fun q => hn ((by decide : ∀ j ∈ ([69] : List Nat), j ∈ ([69] : List Nat)) i q))) (fun h => h) rfl)) (tx_all rfl)⟩
abbrev M_Lw_pig : zM := (⟨"IronpourLaw", "pig", "(LIronpour;[J)I"⟩, method_26_code, 3, (Option.some FieldType.int), 7, 121, [((0 : Nat), (8 : Nat), (11 : Nat), (69 : Nat))])
theorem d_Lw_pig_0 : decode method_26_code 0 = .ok (.aload_n 1, 1) := zo_43 (zd_b zq_method_26_code_0 0 rfl rfl rfl)
theorem d_Lw_pig_1 : decode method_26_code 1 = .ok (.iconst 0, 1) := zo_3 (zd_b zq_method_26_code_0 1 rfl rfl rfl)
theorem d_Lw_pig_2 : decode method_26_code 2 = .ok (.aload_n 0, 1) := zo_42 (zd_b zq_method_26_code_0 2 rfl rfl rfl)
theorem d_Lw_pig_3 : decode method_26_code 3 = .ok (.invokevirtual 98, 3) := zo_182 (d := 0) (e := 98) (zd_b zq_method_26_code_0 3 rfl rfl rfl) (zd_b zq_method_26_code_0 4 rfl rfl rfl) (zd_b zq_method_26_code_0 5 rfl rfl rfl)
theorem ok_Lw_pig_Ip_pig : z_okH M_Lw_pig M_Ip_pig 0 := ⟨z_mj5 (i := 161) rfl (by decide +kernel), rfl, ⟨by decide +kernel, by decide +kernel, by decide +kernel⟩, ⟨by decide, by decide⟩, z_mj1 (i := 1) rfl (by decide +kernel)⟩
theorem ln_Lw_98 : Cond.methodLink "IronpourLaw" 98 M_Ip_pig.1 ∈ z_gw := z_mj5 (i := 158) rfl (by decide +kernel)
theorem w_im_Ip_pig : Cond.instanceMethod M_Ip_pig.1 ∈ z_gw := z_mj5 (i := 159) rfl (by decide +kernel)
theorem w_se_Ip_pig : Cond.selects M_Ip_pig.1.cls M_Ip_pig.1 M_Ip_pig.1 ∈ z_gw := z_mj5 (i := 160) rfl (by decide +kernel)
theorem d_Lw_pig_11 : decode method_26_code 11 = .ok (.astore_n 2, 1) := zo_77 (zd_b zq_method_26_code_0 11 rfl rfl rfl)
theorem d_Lw_pig_12 : decode method_26_code 12 = .ok (.iconst 1, 1) := zo_4 (zd_b zq_method_26_code_0 12 rfl rfl rfl)
theorem d_Lw_pig_13 : decode method_26_code 13 = .ok (.ireturn, 1) := zo_172 (zd_b zq_method_26_code_0 13 rfl rfl rfl)
theorem d_Lw_pig_6 : decode method_26_code 6 = .ok (.i2l, 1) := zo_133 (zd_b zq_method_26_code_0 6 rfl rfl rfl)
theorem d_Lw_pig_7 : decode method_26_code 7 = .ok (.lastore, 1) := zo_80 (zd_b zq_method_26_code_0 7 rfl rfl rfl)
theorem d_Lw_pig_8 : decode method_26_code 8 = .ok (.goto 6, 3) := zo_167 (d := 0) (e := 6) (zd_b zq_method_26_code_0 8 rfl rfl rfl) (zd_b zq_method_26_code_0 9 rfl rfl rfl) (zd_b zq_method_26_code_0 10 rfl rfl rfl) (by decide +kernel)
theorem d_Lw_pig_14 : decode method_26_code 14 = .ok (.iconst 0, 1) := zo_3 (zd_b zq_method_26_code_0 14 rfl rfl rfl)
theorem d_Lw_pig_15 : decode method_26_code 15 = .ok (.ireturn, 1) := zo_172 (zd_b zq_method_26_code_0 15 rfl rfl rfl)
set_option maxHeartbeats 4000000 in
set_option maxRecDepth 100000 in
theorem W_pig {g : zG} {ad : Nat → Nat} {t : zTT} {u : zNN} {w : zW} (hI : IVm g ad t u w) : zMB g M_Lw_pig [.ref (ad 0), .ref (ad 69)] w (fun o w1 => MKx g ad (tK_Ip_pig t) u.1 o w1) 10 300 := by
  obtain ⟨s, hI⟩ := hI
  obtain ⟨e_a, wf_a, k_a⟩ := hI.1.2 0 (by decide)
  obtain rfl := kd_0.mp k_a
  obtain ⟨e_o1, wf_o1, k_o1⟩ := hI.1.2 69 (by decide)
  obtain rfl := kd_69.mp k_o1
  refine y_ofH (by decide) (by decide) (Nat.le_of_ble_eq_true rfl) (y_base (cs := [((ad 0), .inr (11, [.ref (ad 1), .ref (ad 5), .ref (ad 18), .ref (ad 31), .ref (ad 32), .ref (ad 36), .ref (ad 42), .ref (ad 45), .ref (ad 47), .ref (ad 49), .ref (ad 50), .ref (ad 51)])), ((ad 69), .inl (3, 1, .inr (.inl (((mg t s).1 69).2.1))))]) (hI.1.I [0, 69] _ rfl (by decide) (by decide) (List.forall_mem_cons.mpr ⟨wf_a, (List.forall_mem_cons.mpr ⟨wf_o1, (fun _ h => nomatch h)⟩)⟩)) ?_)
  refine y_lvE (lv2 := [(0, .ref (ad 0)), (1, .ref (ad 69))]) rfl ?_
  refine y_aload_n d_Lw_pig_0 rfl 1 rfl ?_
  refine y_iconst d_Lw_pig_1 (v := 0) (by decide) ?_
  refine y_aload_n d_Lw_pig_2 rfl 0 rfl ?_
  refine yw_callVH (As := []) (rest := [.int 0, .ref (ad 69)]) (q0 := 0) rfl rfl ln_Lw_98 w_im_Ip_pig w_se_Ip_pig ok_Lw_pig_Ip_pig d_Lw_pig_3 (fun wA hA => K_Ip_pig ⟨_, (hI.gen (t2 := (mg t s)) (is := [0, 69]) (L2 := []) hA rfl ⟨kd_0.mpr rfl, kd_69.mpr rfl, trivial⟩ (by decide) (by decide) (fun _ h => nomatch h) (fun _ h => nomatch h) (fun _ _ _ => rfl) (fun h => h) rfl)⟩) rfl rfl (Nat.le_of_ble_eq_true rfl) (by omega) (by omega) (fun wA3 hA3 E wB3 hx => ?_) (fun wA3 hA3 v wB3 hx => ?_)
  · obtain ⟨h1, u2, hu, hI2⟩ := hx
    obtain rfl := List.mem_singleton.mp (zriE h1)
    refine ⟨"java/lang/IllegalStateException", [], [], (0, 8, 11, 69), rfl, (fun z hz => nomatch hz), by decide, by decide, lx_Lw_69, ce_69, fun qx => ?_⟩
    refine y_base (cs := []) (z_I.nil wB3) ?_
    refine y_astore_n (lv' := [(2, .ref qx), (0, .ref (ad 0)), (1, .ref (ad 69))]) d_Lw_pig_11 rfl (by decide) rfl ?_
    refine y_iconst d_Lw_pig_12 (v := 1) (by decide) ?_
    refine y_iret d_Lw_pig_13 rfl rfl ?_
    exact fun w1 h1 => ⟨⟨_, rfl⟩, u2, hu, (z_I.same (z_I.nil _) h1).symm ▸ hI2⟩
  · obtain ⟨h1, u2, hu, hI2⟩ := hx
    obtain ⟨v9, rfl⟩ := zriV h1
    refine yw_st (st2 := [.int v9, .int 0, .ref (ad 69)]) rfl ?_
    obtain ⟨s9, hI⟩ := hI2
    obtain ⟨e_o1, wf_o1, k_o1⟩ := hI.1.2 69 (by decide)
    obtain rfl := kd_69.mp k_o1
    refine y_base (cs := [((ad 69), .inl (3, 1, .inr (.inl (((mg (tK_Ip_pig t) s9).1 69).2.1))))]) (hI.1.I [69] _ rfl (by decide) (by decide) (List.forall_mem_cons.mpr ⟨wf_o1, (fun _ h => nomatch h)⟩)) ?_
    refine y_i2l d_Lw_pig_6 (v := v9.toInt64) rfl ?_
    refine y_last d_Lw_pig_7 (q0 := 0) rfl (fun q => q.elim (by decide) (by decide)) (f' := vp_updL (((mg (tK_Ip_pig t) s9).1 69).2.1) 0 v9.toInt64) rfl (cs' := [((ad 69), .inl (3, 1, .inr (.inl (vp_updL (((mg (tK_Ip_pig t) s9).1 69).2.1) 0 v9.toInt64))))]) rfl ?_
    refine y_goto (tgt := 14) d_Lw_pig_8 (by decide) ?_
    refine y_iconst d_Lw_pig_14 (v := 0) (by decide) ?_
    refine y_iret d_Lw_pig_15 rfl rfl ?_
    exact fun w1 h1 => ⟨⟨_, rfl⟩, u2, hu, IVm.tz ((hI.gen (t2 := (zup (mg (tK_Ip_pig t) s9).1 [(69, (((mg (tK_Ip_pig t) s9).1 69).1, vp_updL (((mg (tK_Ip_pig t) s9).1 69).2.1) 0 v9.toInt64, ((mg (tK_Ip_pig t) s9).1 69).2.2))], (mg (tK_Ip_pig t) s9).2)) (is := [69]) (L2 := []) h1 rfl ⟨kd_69.mpr rfl, trivial⟩ (by decide) (by decide) (fun _ h => nomatch h) (fun _ h => nomatch h) (fun i hi hn => zup_out (fun q => hn ((by decide : ∀ j ∈ ([69] : List Nat), j ∈ ([69] : List Nat)) i q))) (fun h => h) rfl)) (tx_all rfl)⟩
abbrev M_Lw_pool : zM := (⟨"IronpourLaw", "pool", "(LIronpour;C[J)I"⟩, method_27_code, 4, (Option.some FieldType.int), 7, 122, [((0 : Nat), (9 : Nat), (12 : Nat), (13 : Nat))])
theorem d_Lw_pool_0 : decode method_27_code 0 = .ok (.aload_n 2, 1) := zo_44 (zd_b zq_method_27_code_0 0 rfl rfl rfl)
theorem d_Lw_pool_1 : decode method_27_code 1 = .ok (.iconst 0, 1) := zo_3 (zd_b zq_method_27_code_0 1 rfl rfl rfl)
theorem d_Lw_pool_2 : decode method_27_code 2 = .ok (.aload_n 0, 1) := zo_42 (zd_b zq_method_27_code_0 2 rfl rfl rfl)
theorem d_Lw_pool_3 : decode method_27_code 3 = .ok (.iload_n 1, 1) := zo_27 (zd_b zq_method_27_code_0 3 rfl rfl rfl)
theorem d_Lw_pool_4 : decode method_27_code 4 = .ok (.invokevirtual 101, 3) := zo_182 (d := 0) (e := 101) (zd_b zq_method_27_code_0 4 rfl rfl rfl) (zd_b zq_method_27_code_0 5 rfl rfl rfl) (zd_b zq_method_27_code_0 6 rfl rfl rfl)
theorem ok_Lw_pool_Ip_pool : z_okH M_Lw_pool M_Ip_pool 1 := ⟨z_mj5 (i := 168) rfl (by decide +kernel), rfl, ⟨by decide +kernel, by decide +kernel, by decide +kernel⟩, ⟨by decide, by decide⟩, z_mj1 (i := 1) rfl (by decide +kernel)⟩
theorem ln_Lw_101 : Cond.methodLink "IronpourLaw" 101 M_Ip_pool.1 ∈ z_gw := z_mj5 (i := 165) rfl (by decide +kernel)
theorem w_im_Ip_pool : Cond.instanceMethod M_Ip_pool.1 ∈ z_gw := z_mj5 (i := 166) rfl (by decide +kernel)
theorem w_se_Ip_pool : Cond.selects M_Ip_pool.1.cls M_Ip_pool.1 M_Ip_pool.1 ∈ z_gw := z_mj5 (i := 167) rfl (by decide +kernel)
theorem d_Lw_pool_12 : decode method_27_code 12 = .ok (.astore_n 3, 1) := zo_78 (zd_b zq_method_27_code_0 12 rfl rfl rfl)
theorem d_Lw_pool_13 : decode method_27_code 13 = .ok (.iconst 1, 1) := zo_4 (zd_b zq_method_27_code_0 13 rfl rfl rfl)
theorem d_Lw_pool_14 : decode method_27_code 14 = .ok (.ireturn, 1) := zo_172 (zd_b zq_method_27_code_0 14 rfl rfl rfl)
theorem d_Lw_pool_7 : decode method_27_code 7 = .ok (.i2l, 1) := zo_133 (zd_b zq_method_27_code_0 7 rfl rfl rfl)
theorem d_Lw_pool_8 : decode method_27_code 8 = .ok (.lastore, 1) := zo_80 (zd_b zq_method_27_code_0 8 rfl rfl rfl)
theorem d_Lw_pool_9 : decode method_27_code 9 = .ok (.goto 6, 3) := zo_167 (d := 0) (e := 6) (zd_b zq_method_27_code_0 9 rfl rfl rfl) (zd_b zq_method_27_code_0 10 rfl rfl rfl) (zd_b zq_method_27_code_0 11 rfl rfl rfl) (by decide +kernel)
theorem d_Lw_pool_15 : decode method_27_code 15 = .ok (.iconst 0, 1) := zo_3 (zd_b zq_method_27_code_0 15 rfl rfl rfl)
theorem d_Lw_pool_16 : decode method_27_code 16 = .ok (.ireturn, 1) := zo_172 (zd_b zq_method_27_code_0 16 rfl rfl rfl)
set_option maxHeartbeats 4000000 in
set_option maxRecDepth 100000 in
theorem W_pool {g : zG} {ad : Nat → Nat} {t : zTT} {u : zNN} {w : zW} (hI : IVm g ad t u w) (k : Int32) : zMB g M_Lw_pool [.ref (ad 0), .int k, .ref (ad 69)] w (fun o w1 => MKx g ad t u.1 o w1) 10 300 := by
  obtain ⟨s, hI⟩ := hI
  obtain ⟨e_a, wf_a, k_a⟩ := hI.1.2 0 (by decide)
  obtain rfl := kd_0.mp k_a
  obtain ⟨e_o1, wf_o1, k_o1⟩ := hI.1.2 69 (by decide)
  obtain rfl := kd_69.mp k_o1
  refine y_ofH (by decide) (by decide) (Nat.le_of_ble_eq_true rfl) (y_base (cs := [((ad 0), .inr (11, [.ref (ad 1), .ref (ad 5), .ref (ad 18), .ref (ad 31), .ref (ad 32), .ref (ad 36), .ref (ad 42), .ref (ad 45), .ref (ad 47), .ref (ad 49), .ref (ad 50), .ref (ad 51)])), ((ad 69), .inl (3, 1, .inr (.inl (((mg t s).1 69).2.1))))]) (hI.1.I [0, 69] _ rfl (by decide) (by decide) (List.forall_mem_cons.mpr ⟨wf_a, (List.forall_mem_cons.mpr ⟨wf_o1, (fun _ h => nomatch h)⟩)⟩)) ?_)
  refine y_lvE (lv2 := [(0, .ref (ad 0)), (1, .int k), (2, .ref (ad 69))]) rfl ?_
  refine y_aload_n d_Lw_pool_0 rfl 2 rfl ?_
  refine y_iconst d_Lw_pool_1 (v := 0) (by decide) ?_
  refine y_aload_n d_Lw_pool_2 rfl 0 rfl ?_
  refine y_iload_n d_Lw_pool_3 rfl 1 rfl ?_
  refine yw_callVH (As := [.int k]) (rest := [.int 0, .ref (ad 69)]) (q0 := 0) rfl rfl ln_Lw_101 w_im_Ip_pool w_se_Ip_pool ok_Lw_pool_Ip_pool d_Lw_pool_4 (fun wA hA => K_Ip_pool ⟨_, (hI.gen (t2 := (mg t s)) (is := [0, 69]) (L2 := []) hA rfl ⟨kd_0.mpr rfl, kd_69.mpr rfl, trivial⟩ (by decide) (by decide) (fun _ h => nomatch h) (fun _ h => nomatch h) (fun _ _ _ => rfl) (fun h => h) rfl)⟩ k) rfl rfl (Nat.le_of_ble_eq_true rfl) (by omega) (by omega) (fun wA4 hA4 E wB4 hx => ?_) (fun wA4 hA4 v wB4 hx => ?_)
  · obtain ⟨h1, u2, hu, hI2⟩ := hx
    obtain rfl := List.mem_singleton.mp (zriE h1)
    refine ⟨"java/lang/IllegalArgumentException", [], [], (0, 9, 12, 13), rfl, (fun z hz => nomatch hz), by decide, by decide, lx_Lw_13, ce_13, fun qx => ?_⟩
    refine y_base (cs := []) (z_I.nil wB4) ?_
    refine y_astore_n (lv' := [(3, .ref qx), (0, .ref (ad 0)), (1, .int k), (2, .ref (ad 69))]) d_Lw_pool_12 rfl (by decide) rfl ?_
    refine y_iconst d_Lw_pool_13 (v := 1) (by decide) ?_
    refine y_iret d_Lw_pool_14 rfl rfl ?_
    exact fun w1 h1 => ⟨⟨_, rfl⟩, u2, hu, (z_I.same (z_I.nil _) h1).symm ▸ hI2⟩
  · obtain ⟨h1, u2, hu, hI2⟩ := hx
    obtain ⟨v9, rfl⟩ := zriV h1
    refine yw_st (st2 := [.int v9, .int 0, .ref (ad 69)]) rfl ?_
    obtain ⟨s9, hI⟩ := hI2
    obtain ⟨e_o1, wf_o1, k_o1⟩ := hI.1.2 69 (by decide)
    obtain rfl := kd_69.mp k_o1
    refine y_base (cs := [((ad 69), .inl (3, 1, .inr (.inl (((mg t s9).1 69).2.1))))]) (hI.1.I [69] _ rfl (by decide) (by decide) (List.forall_mem_cons.mpr ⟨wf_o1, (fun _ h => nomatch h)⟩)) ?_
    refine y_i2l d_Lw_pool_7 (v := v9.toInt64) rfl ?_
    refine y_last d_Lw_pool_8 (q0 := 0) rfl (fun q => q.elim (by decide) (by decide)) (f' := vp_updL (((mg t s9).1 69).2.1) 0 v9.toInt64) rfl (cs' := [((ad 69), .inl (3, 1, .inr (.inl (vp_updL (((mg t s9).1 69).2.1) 0 v9.toInt64))))]) rfl ?_
    refine y_goto (tgt := 15) d_Lw_pool_9 (by decide) ?_
    refine y_iconst d_Lw_pool_15 (v := 0) (by decide) ?_
    refine y_iret d_Lw_pool_16 rfl rfl ?_
    exact fun w1 h1 => ⟨⟨_, rfl⟩, u2, hu, IVm.tz ((hI.gen (t2 := (zup (mg t s9).1 [(69, (((mg t s9).1 69).1, vp_updL (((mg t s9).1 69).2.1) 0 v9.toInt64, ((mg t s9).1 69).2.2))], (mg t s9).2)) (is := [69]) (L2 := []) h1 rfl ⟨kd_69.mpr rfl, trivial⟩ (by decide) (by decide) (fun _ h => nomatch h) (fun _ h => nomatch h) (fun i hi hn => zup_out (fun q => hn ((by decide : ∀ j ∈ ([69] : List Nat), j ∈ ([69] : List Nat)) i q))) (fun h => h) rfl)) (tx_all rfl)⟩
abbrev M_Lw_poolHas : zM := (⟨"IronpourLaw", "poolHas", "(LIronpour;CC[J)I"⟩, method_28_code, 5, (Option.some FieldType.int), 10, 224, [((0 : Nat), (10 : Nat), (13 : Nat), (13 : Nat)), ((0 : Nat), (10 : Nat), (17 : Nat), (33 : Nat))])
theorem d_Lw_poolHas_0 : decode method_28_code 0 = .ok (.aload_n 3, 1) := zo_45 (zd_b zq_method_28_code_0 0 rfl rfl rfl)
theorem d_Lw_poolHas_1 : decode method_28_code 1 = .ok (.iconst 0, 1) := zo_3 (zd_b zq_method_28_code_0 1 rfl rfl rfl)
theorem d_Lw_poolHas_2 : decode method_28_code 2 = .ok (.aload_n 0, 1) := zo_42 (zd_b zq_method_28_code_0 2 rfl rfl rfl)
theorem d_Lw_poolHas_3 : decode method_28_code 3 = .ok (.iload_n 1, 1) := zo_27 (zd_b zq_method_28_code_0 3 rfl rfl rfl)
theorem d_Lw_poolHas_4 : decode method_28_code 4 = .ok (.iload_n 2, 1) := zo_28 (zd_b zq_method_28_code_0 4 rfl rfl rfl)
theorem d_Lw_poolHas_5 : decode method_28_code 5 = .ok (.invokevirtual 104, 3) := zo_182 (d := 0) (e := 104) (zd_b zq_method_28_code_0 5 rfl rfl rfl) (zd_b zq_method_28_code_0 6 rfl rfl rfl) (zd_b zq_method_28_code_0 7 rfl rfl rfl)
theorem ok_Lw_poolHas_Ip_poolHas : z_okH M_Lw_poolHas M_Ip_poolHas 2 := ⟨z_mj5 (i := 176) rfl (by decide +kernel), rfl, ⟨by decide +kernel, by decide +kernel, by decide +kernel⟩, ⟨by decide, by decide⟩, z_mj1 (i := 1) rfl (by decide +kernel)⟩
theorem ln_Lw_104 : Cond.methodLink "IronpourLaw" 104 M_Ip_poolHas.1 ∈ z_gw := z_mj5 (i := 173) rfl (by decide +kernel)
theorem w_im_Ip_poolHas : Cond.instanceMethod M_Ip_poolHas.1 ∈ z_gw := z_mj5 (i := 174) rfl (by decide +kernel)
theorem w_se_Ip_poolHas : Cond.selects M_Ip_poolHas.1.cls M_Ip_poolHas.1 M_Ip_poolHas.1 ∈ z_gw := z_mj5 (i := 175) rfl (by decide +kernel)
theorem d_Lw_poolHas_13 : decode method_28_code 13 = .ok (.astore 4, 2) := zo_58 (d := 4) (zd_b zq_method_28_code_0 13 rfl rfl rfl) (zd_b zq_method_28_code_0 14 rfl rfl rfl)
theorem d_Lw_poolHas_15 : decode method_28_code 15 = .ok (.iconst 1, 1) := zo_4 (zd_b zq_method_28_code_0 15 rfl rfl rfl)
theorem d_Lw_poolHas_16 : decode method_28_code 16 = .ok (.ireturn, 1) := zo_172 (zd_b zq_method_28_code_0 16 rfl rfl rfl)
theorem d_Lw_poolHas_17 : decode method_28_code 17 = .ok (.astore 4, 2) := zo_58 (d := 4) (zd_b zq_method_28_code_0 17 rfl rfl rfl) (zd_b zq_method_28_code_0 18 rfl rfl rfl)
theorem d_Lw_poolHas_19 : decode method_28_code 19 = .ok (.iconst 2, 1) := zo_5 (zd_b zq_method_28_code_0 19 rfl rfl rfl)
theorem d_Lw_poolHas_20 : decode method_28_code 20 = .ok (.ireturn, 1) := zo_172 (zd_b zq_method_28_code_0 20 rfl rfl rfl)
theorem d_Lw_poolHas_8 : decode method_28_code 8 = .ok (.i2l, 1) := zo_133 (zd_b zq_method_28_code_0 8 rfl rfl rfl)
theorem d_Lw_poolHas_9 : decode method_28_code 9 = .ok (.lastore, 1) := zo_80 (zd_b zq_method_28_code_0 9 rfl rfl rfl)
theorem d_Lw_poolHas_10 : decode method_28_code 10 = .ok (.goto 11, 3) := zo_167 (d := 0) (e := 11) (zd_b zq_method_28_code_0 10 rfl rfl rfl) (zd_b zq_method_28_code_0 11 rfl rfl rfl) (zd_b zq_method_28_code_0 12 rfl rfl rfl) (by decide +kernel)
theorem d_Lw_poolHas_21 : decode method_28_code 21 = .ok (.iconst 0, 1) := zo_3 (zd_b zq_method_28_code_0 21 rfl rfl rfl)
theorem d_Lw_poolHas_22 : decode method_28_code 22 = .ok (.ireturn, 1) := zo_172 (zd_b zq_method_28_code_0 22 rfl rfl rfl)
set_option maxHeartbeats 4000000 in
set_option maxRecDepth 100000 in
theorem W_poolHas {g : zG} {ad : Nat → Nat} {t : zTT} {u : zNN} {w : zW} (hI : IVm g ad t u w) (k0 k : Int32) : zMB g M_Lw_poolHas [.ref (ad 0), .int k0, .int k, .ref (ad 69)] w (fun o w1 => MKx g ad t u.1 o w1) 10 300 := by
  obtain ⟨s, hI⟩ := hI
  obtain ⟨e_a, wf_a, k_a⟩ := hI.1.2 0 (by decide)
  obtain rfl := kd_0.mp k_a
  obtain ⟨e_o1, wf_o1, k_o1⟩ := hI.1.2 69 (by decide)
  obtain rfl := kd_69.mp k_o1
  refine y_ofH (by decide) (by decide) (Nat.le_of_ble_eq_true rfl) (y_base (cs := [((ad 0), .inr (11, [.ref (ad 1), .ref (ad 5), .ref (ad 18), .ref (ad 31), .ref (ad 32), .ref (ad 36), .ref (ad 42), .ref (ad 45), .ref (ad 47), .ref (ad 49), .ref (ad 50), .ref (ad 51)])), ((ad 69), .inl (3, 1, .inr (.inl (((mg t s).1 69).2.1))))]) (hI.1.I [0, 69] _ rfl (by decide) (by decide) (List.forall_mem_cons.mpr ⟨wf_a, (List.forall_mem_cons.mpr ⟨wf_o1, (fun _ h => nomatch h)⟩)⟩)) ?_)
  refine y_lvE (lv2 := [(0, .ref (ad 0)), (1, .int k0), (2, .int k), (3, .ref (ad 69))]) rfl ?_
  refine y_aload_n d_Lw_poolHas_0 rfl 3 rfl ?_
  refine y_iconst d_Lw_poolHas_1 (v := 0) (by decide) ?_
  refine y_aload_n d_Lw_poolHas_2 rfl 0 rfl ?_
  refine y_iload_n d_Lw_poolHas_3 rfl 1 rfl ?_
  refine y_iload_n d_Lw_poolHas_4 rfl 2 rfl ?_
  refine yw_callVH (As := [.int k0, .int k]) (rest := [.int 0, .ref (ad 69)]) (q0 := 0) rfl rfl ln_Lw_104 w_im_Ip_poolHas w_se_Ip_poolHas ok_Lw_poolHas_Ip_poolHas d_Lw_poolHas_5 (fun wA hA => K_Ip_poolHas ⟨_, (hI.gen (t2 := (mg t s)) (is := [0, 69]) (L2 := []) hA rfl ⟨kd_0.mpr rfl, kd_69.mpr rfl, trivial⟩ (by decide) (by decide) (fun _ h => nomatch h) (fun _ h => nomatch h) (fun _ _ _ => rfl) (fun h => h) rfl)⟩ k0 k) rfl rfl (Nat.le_of_ble_eq_true rfl) (by omega) (by omega) (fun wA5 hA5 E wB5 hx => ?_) (fun wA5 hA5 v wB5 hx => ?_)
  · obtain ⟨h1, u2, hu, hI2⟩ := hx
    rcases List.mem_cons.mp (zriE h1) with rfl | g2
    · refine ⟨"java/lang/IllegalArgumentException", [], [(0, 10, 17, 33)], (0, 10, 13, 13), rfl, (fun z hz => nomatch hz), by decide, by decide, lx_Lw_13, ce_13, fun qx => ?_⟩
      refine y_base (cs := []) (z_I.nil wB5) ?_
      refine y_astore (lv' := [(4, .ref qx), (0, .ref (ad 0)), (1, .int k0), (2, .int k), (3, .ref (ad 69))]) d_Lw_poolHas_13 (by decide) rfl ?_
      refine y_iconst d_Lw_poolHas_15 (v := 1) (by decide) ?_
      refine y_iret d_Lw_poolHas_16 rfl rfl ?_
      exact fun w1 h1 => ⟨⟨_, rfl⟩, u2, hu, (z_I.same (z_I.nil _) h1).symm ▸ hI2⟩
    · obtain rfl := List.mem_singleton.mp g2
      refine ⟨"java/util/NoSuchElementException", [(0, 10, 13, 13)], [], (0, 10, 17, 33), rfl, (fun z hz => by simp only [List.mem_cons, List.not_mem_nil, or_false] at hz; rcases hz with rfl; exact Or.inr ⟨by decide, _, lx_Lw_13, by decide⟩), by decide, by decide, lx_Lw_33, ce_33, fun qx => ?_⟩
      refine y_base (cs := []) (z_I.nil wB5) ?_
      refine y_astore (lv' := [(4, .ref qx), (0, .ref (ad 0)), (1, .int k0), (2, .int k), (3, .ref (ad 69))]) d_Lw_poolHas_17 (by decide) rfl ?_
      refine y_iconst d_Lw_poolHas_19 (v := 2) (by decide) ?_
      refine y_iret d_Lw_poolHas_20 rfl rfl ?_
      exact fun w1 h1 => ⟨⟨_, rfl⟩, u2, hu, (z_I.same (z_I.nil _) h1).symm ▸ hI2⟩
  · obtain ⟨h1, u2, hu, hI2⟩ := hx
    obtain ⟨v9, rfl⟩ := zriV h1
    refine yw_st (st2 := [.int v9, .int 0, .ref (ad 69)]) rfl ?_
    obtain ⟨s9, hI⟩ := hI2
    obtain ⟨e_o1, wf_o1, k_o1⟩ := hI.1.2 69 (by decide)
    obtain rfl := kd_69.mp k_o1
    refine y_base (cs := [((ad 69), .inl (3, 1, .inr (.inl (((mg t s9).1 69).2.1))))]) (hI.1.I [69] _ rfl (by decide) (by decide) (List.forall_mem_cons.mpr ⟨wf_o1, (fun _ h => nomatch h)⟩)) ?_
    refine y_i2l d_Lw_poolHas_8 (v := v9.toInt64) rfl ?_
    refine y_last d_Lw_poolHas_9 (q0 := 0) rfl (fun q => q.elim (by decide) (by decide)) (f' := vp_updL (((mg t s9).1 69).2.1) 0 v9.toInt64) rfl (cs' := [((ad 69), .inl (3, 1, .inr (.inl (vp_updL (((mg t s9).1 69).2.1) 0 v9.toInt64))))]) rfl ?_
    refine y_goto (tgt := 21) d_Lw_poolHas_10 (by decide) ?_
    refine y_iconst d_Lw_poolHas_21 (v := 0) (by decide) ?_
    refine y_iret d_Lw_poolHas_22 rfl rfl ?_
    exact fun w1 h1 => ⟨⟨_, rfl⟩, u2, hu, IVm.tz ((hI.gen (t2 := (zup (mg t s9).1 [(69, (((mg t s9).1 69).1, vp_updL (((mg t s9).1 69).2.1) 0 v9.toInt64, ((mg t s9).1 69).2.2))], (mg t s9).2)) (is := [69]) (L2 := []) h1 rfl ⟨kd_69.mpr rfl, trivial⟩ (by decide) (by decide) (fun _ h => nomatch h) (fun _ h => nomatch h) (fun i hi hn => zup_out (fun q => hn ((by decide : ∀ j ∈ ([69] : List Nat), j ∈ ([69] : List Nat)) i q))) (fun h => h) rfl)) (tx_all rfl)⟩
abbrev M_Lw_leastCost : zM := (⟨"IronpourLaw", "leastCost", "(LIronpour;IIIIII[J)I"⟩, method_29_code, 9, (Option.some FieldType.int), 7, 127, [((0 : Nat), (18 : Nat), (21 : Nat), (13 : Nat)), ((0 : Nat), (18 : Nat), (25 : Nat), (33 : Nat))])
theorem d_Lw_leastCost_0 : decode method_29_code 0 = .ok (.aload 7, 2) := zo_25 (d := 7) (zd_b zq_method_29_code_0 0 rfl rfl rfl) (zd_b zq_method_29_code_0 1 rfl rfl rfl)
theorem d_Lw_leastCost_2 : decode method_29_code 2 = .ok (.iconst 0, 1) := zo_3 (zd_b zq_method_29_code_0 2 rfl rfl rfl)
theorem d_Lw_leastCost_3 : decode method_29_code 3 = .ok (.aload_n 0, 1) := zo_42 (zd_b zq_method_29_code_0 3 rfl rfl rfl)
theorem d_Lw_leastCost_4 : decode method_29_code 4 = .ok (.iload_n 1, 1) := zo_27 (zd_b zq_method_29_code_0 4 rfl rfl rfl)
theorem d_Lw_leastCost_5 : decode method_29_code 5 = .ok (.iload_n 2, 1) := zo_28 (zd_b zq_method_29_code_0 5 rfl rfl rfl)
theorem d_Lw_leastCost_6 : decode method_29_code 6 = .ok (.iload_n 3, 1) := zo_29 (zd_b zq_method_29_code_0 6 rfl rfl rfl)
theorem d_Lw_leastCost_7 : decode method_29_code 7 = .ok (.iload 4, 2) := zo_21 (d := 4) (zd_b zq_method_29_code_0 7 rfl rfl rfl) (zd_b zq_method_29_code_0 8 rfl rfl rfl)
theorem d_Lw_leastCost_9 : decode method_29_code 9 = .ok (.iload 5, 2) := zo_21 (d := 5) (zd_b zq_method_29_code_0 9 rfl rfl rfl) (zd_b zq_method_29_code_0 10 rfl rfl rfl)
theorem d_Lw_leastCost_11 : decode method_29_code 11 = .ok (.iload 6, 2) := zo_21 (d := 6) (zd_b zq_method_29_code_0 11 rfl rfl rfl) (zd_b zq_method_29_code_0 12 rfl rfl rfl)
theorem d_Lw_leastCost_13 : decode method_29_code 13 = .ok (.invokevirtual 108, 3) := zo_182 (d := 0) (e := 108) (zd_b zq_method_29_code_0 13 rfl rfl rfl) (zd_b zq_method_29_code_0 14 rfl rfl rfl) (zd_b zq_method_29_code_0 15 rfl rfl rfl)
theorem ok_Lw_leastCost_Ip_leastCost : z_okH M_Lw_leastCost M_Ip_leastCost 6 := ⟨z_mj5 (i := 184) rfl (by decide +kernel), rfl, ⟨by decide +kernel, by decide +kernel, by decide +kernel⟩, ⟨by decide, by decide⟩, z_mj1 (i := 1) rfl (by decide +kernel)⟩
theorem ln_Lw_108 : Cond.methodLink "IronpourLaw" 108 M_Ip_leastCost.1 ∈ z_gw := z_mj5 (i := 181) rfl (by decide +kernel)
theorem w_im_Ip_leastCost : Cond.instanceMethod M_Ip_leastCost.1 ∈ z_gw := z_mj5 (i := 182) rfl (by decide +kernel)
theorem w_se_Ip_leastCost : Cond.selects M_Ip_leastCost.1.cls M_Ip_leastCost.1 M_Ip_leastCost.1 ∈ z_gw := z_mj5 (i := 183) rfl (by decide +kernel)
theorem d_Lw_leastCost_21 : decode method_29_code 21 = .ok (.astore 8, 2) := zo_58 (d := 8) (zd_b zq_method_29_code_0 21 rfl rfl rfl) (zd_b zq_method_29_code_0 22 rfl rfl rfl)
theorem d_Lw_leastCost_23 : decode method_29_code 23 = .ok (.iconst 1, 1) := zo_4 (zd_b zq_method_29_code_0 23 rfl rfl rfl)
theorem d_Lw_leastCost_24 : decode method_29_code 24 = .ok (.ireturn, 1) := zo_172 (zd_b zq_method_29_code_0 24 rfl rfl rfl)
theorem d_Lw_leastCost_25 : decode method_29_code 25 = .ok (.astore 8, 2) := zo_58 (d := 8) (zd_b zq_method_29_code_0 25 rfl rfl rfl) (zd_b zq_method_29_code_0 26 rfl rfl rfl)
theorem d_Lw_leastCost_27 : decode method_29_code 27 = .ok (.iconst 2, 1) := zo_5 (zd_b zq_method_29_code_0 27 rfl rfl rfl)
theorem d_Lw_leastCost_28 : decode method_29_code 28 = .ok (.ireturn, 1) := zo_172 (zd_b zq_method_29_code_0 28 rfl rfl rfl)
theorem d_Lw_leastCost_16 : decode method_29_code 16 = .ok (.i2l, 1) := zo_133 (zd_b zq_method_29_code_0 16 rfl rfl rfl)
theorem d_Lw_leastCost_17 : decode method_29_code 17 = .ok (.lastore, 1) := zo_80 (zd_b zq_method_29_code_0 17 rfl rfl rfl)
theorem d_Lw_leastCost_18 : decode method_29_code 18 = .ok (.goto 11, 3) := zo_167 (d := 0) (e := 11) (zd_b zq_method_29_code_0 18 rfl rfl rfl) (zd_b zq_method_29_code_0 19 rfl rfl rfl) (zd_b zq_method_29_code_0 20 rfl rfl rfl) (by decide +kernel)
theorem d_Lw_leastCost_29 : decode method_29_code 29 = .ok (.iconst 0, 1) := zo_3 (zd_b zq_method_29_code_0 29 rfl rfl rfl)
theorem d_Lw_leastCost_30 : decode method_29_code 30 = .ok (.ireturn, 1) := zo_172 (zd_b zq_method_29_code_0 30 rfl rfl rfl)
set_option maxHeartbeats 4000000 in
set_option maxRecDepth 100000 in
theorem W_leastCost {g : zG} {ad : Nat → Nat} {t : zTT} {u : zNN} {w : zW} (hI : IVm g ad t u w) (x1 x2 x3 x4 x5 x6 : Int32) : zMB g M_Lw_leastCost [.ref (ad 0), .int x1, .int x2, .int x3, .int x4, .int x5, .int x6, .ref (ad 69)] w (fun o w1 => MKx g ad (tK_Ip_leastCost x1 x2 x3 x4 x5 x6 t) u.1 o w1) 10 300 := by
  obtain ⟨s, hI⟩ := hI
  obtain ⟨e_a, wf_a, k_a⟩ := hI.1.2 0 (by decide)
  obtain rfl := kd_0.mp k_a
  obtain ⟨e_o1, wf_o1, k_o1⟩ := hI.1.2 69 (by decide)
  obtain rfl := kd_69.mp k_o1
  refine y_ofH (by decide) (by decide) (Nat.le_of_ble_eq_true rfl) (y_base (cs := [((ad 0), .inr (11, [.ref (ad 1), .ref (ad 5), .ref (ad 18), .ref (ad 31), .ref (ad 32), .ref (ad 36), .ref (ad 42), .ref (ad 45), .ref (ad 47), .ref (ad 49), .ref (ad 50), .ref (ad 51)])), ((ad 69), .inl (3, 1, .inr (.inl (((mg t s).1 69).2.1))))]) (hI.1.I [0, 69] _ rfl (by decide) (by decide) (List.forall_mem_cons.mpr ⟨wf_a, (List.forall_mem_cons.mpr ⟨wf_o1, (fun _ h => nomatch h)⟩)⟩)) ?_)
  refine y_lvE (lv2 := [(0, .ref (ad 0)), (1, .int x1), (2, .int x2), (3, .int x3), (4, .int x4), (5, .int x5), (6, .int x6), (7, .ref (ad 69))]) rfl ?_
  refine y_aload d_Lw_leastCost_0 7 rfl ?_
  refine y_iconst d_Lw_leastCost_2 (v := 0) (by decide) ?_
  refine y_aload_n d_Lw_leastCost_3 rfl 0 rfl ?_
  refine y_iload_n d_Lw_leastCost_4 rfl 1 rfl ?_
  refine y_iload_n d_Lw_leastCost_5 rfl 2 rfl ?_
  refine y_iload_n d_Lw_leastCost_6 rfl 3 rfl ?_
  refine y_iload d_Lw_leastCost_7 4 rfl ?_
  refine y_iload d_Lw_leastCost_9 5 rfl ?_
  refine y_iload d_Lw_leastCost_11 6 rfl ?_
  refine yw_callVH (As := [.int x1, .int x2, .int x3, .int x4, .int x5, .int x6]) (rest := [.int 0, .ref (ad 69)]) (q0 := 0) rfl rfl ln_Lw_108 w_im_Ip_leastCost w_se_Ip_leastCost ok_Lw_leastCost_Ip_leastCost d_Lw_leastCost_13 (fun wA hA => K_Ip_leastCost ⟨_, (hI.gen (t2 := (mg t s)) (is := [0, 69]) (L2 := []) hA rfl ⟨kd_0.mpr rfl, kd_69.mpr rfl, trivial⟩ (by decide) (by decide) (fun _ h => nomatch h) (fun _ h => nomatch h) (fun _ _ _ => rfl) (fun h => h) rfl)⟩ x1 x2 x3 x4 x5 x6) rfl rfl (Nat.le_of_ble_eq_true rfl) (by omega) (by omega) (fun wA13 hA13 E wB13 hx => ?_) (fun wA13 hA13 v wB13 hx => ?_)
  · obtain ⟨h1, u2, hu, hI2⟩ := hx
    rcases List.mem_cons.mp (zriE h1) with rfl | g2
    · refine ⟨"java/lang/IllegalArgumentException", [], [(0, 18, 25, 33)], (0, 18, 21, 13), rfl, (fun z hz => nomatch hz), by decide, by decide, lx_Lw_13, ce_13, fun qx => ?_⟩
      refine y_base (cs := []) (z_I.nil wB13) ?_
      refine y_astore (lv' := [(8, .ref qx), (0, .ref (ad 0)), (1, .int x1), (2, .int x2), (3, .int x3), (4, .int x4), (5, .int x5), (6, .int x6), (7, .ref (ad 69))]) d_Lw_leastCost_21 (by decide) rfl ?_
      refine y_iconst d_Lw_leastCost_23 (v := 1) (by decide) ?_
      refine y_iret d_Lw_leastCost_24 rfl rfl ?_
      exact fun w1 h1 => ⟨⟨_, rfl⟩, u2, hu, (z_I.same (z_I.nil _) h1).symm ▸ hI2⟩
    · obtain rfl := List.mem_singleton.mp g2
      refine ⟨"java/util/NoSuchElementException", [(0, 18, 21, 13)], [], (0, 18, 25, 33), rfl, (fun z hz => by simp only [List.mem_cons, List.not_mem_nil, or_false] at hz; rcases hz with rfl; exact Or.inr ⟨by decide, _, lx_Lw_13, by decide⟩), by decide, by decide, lx_Lw_33, ce_33, fun qx => ?_⟩
      refine y_base (cs := []) (z_I.nil wB13) ?_
      refine y_astore (lv' := [(8, .ref qx), (0, .ref (ad 0)), (1, .int x1), (2, .int x2), (3, .int x3), (4, .int x4), (5, .int x5), (6, .int x6), (7, .ref (ad 69))]) d_Lw_leastCost_25 (by decide) rfl ?_
      refine y_iconst d_Lw_leastCost_27 (v := 2) (by decide) ?_
      refine y_iret d_Lw_leastCost_28 rfl rfl ?_
      exact fun w1 h1 => ⟨⟨_, rfl⟩, u2, hu, (z_I.same (z_I.nil _) h1).symm ▸ hI2⟩
  · obtain ⟨h1, u2, hu, hI2⟩ := hx
    obtain ⟨v9, rfl⟩ := zriV h1
    refine yw_st (st2 := [.int v9, .int 0, .ref (ad 69)]) rfl ?_
    obtain ⟨s9, hI⟩ := hI2
    obtain ⟨e_o1, wf_o1, k_o1⟩ := hI.1.2 69 (by decide)
    obtain rfl := kd_69.mp k_o1
    refine y_base (cs := [((ad 69), .inl (3, 1, .inr (.inl (((mg (tK_Ip_leastCost x1 x2 x3 x4 x5 x6 t) s9).1 69).2.1))))]) (hI.1.I [69] _ rfl (by decide) (by decide) (List.forall_mem_cons.mpr ⟨wf_o1, (fun _ h => nomatch h)⟩)) ?_
    refine y_i2l d_Lw_leastCost_16 (v := v9.toInt64) rfl ?_
    refine y_last d_Lw_leastCost_17 (q0 := 0) rfl (fun q => q.elim (by decide) (by decide)) (f' := vp_updL (((mg (tK_Ip_leastCost x1 x2 x3 x4 x5 x6 t) s9).1 69).2.1) 0 v9.toInt64) rfl (cs' := [((ad 69), .inl (3, 1, .inr (.inl (vp_updL (((mg (tK_Ip_leastCost x1 x2 x3 x4 x5 x6 t) s9).1 69).2.1) 0 v9.toInt64))))]) rfl ?_
    refine y_goto (tgt := 29) d_Lw_leastCost_18 (by decide) ?_
    refine y_iconst d_Lw_leastCost_29 (v := 0) (by decide) ?_
    refine y_iret d_Lw_leastCost_30 rfl rfl ?_
    exact fun w1 h1 => ⟨⟨_, rfl⟩, u2, hu, IVm.tz ((hI.gen (t2 := (zup (mg (tK_Ip_leastCost x1 x2 x3 x4 x5 x6 t) s9).1 [(69, (((mg (tK_Ip_leastCost x1 x2 x3 x4 x5 x6 t) s9).1 69).1, vp_updL (((mg (tK_Ip_leastCost x1 x2 x3 x4 x5 x6 t) s9).1 69).2.1) 0 v9.toInt64, ((mg (tK_Ip_leastCost x1 x2 x3 x4 x5 x6 t) s9).1 69).2.2))], (mg (tK_Ip_leastCost x1 x2 x3 x4 x5 x6 t) s9).2)) (is := [69]) (L2 := []) h1 rfl ⟨kd_69.mpr rfl, trivial⟩ (by decide) (by decide) (fun _ h => nomatch h) (fun _ h => nomatch h) (fun i hi hn => zup_out (fun q => hn ((by decide : ∀ j ∈ ([69] : List Nat), j ∈ ([69] : List Nat)) i q))) (fun h => h) rfl)) (tx_all rfl)⟩
abbrev M_Lw_cheapest : zM := (⟨"IronpourLaw", "cheapest", "(LIronpour;C[J)I"⟩, method_30_code, 4, (Option.some FieldType.int), 9, 200, [((0 : Nat), (9 : Nat), (12 : Nat), (13 : Nat)), ((0 : Nat), (9 : Nat), (15 : Nat), (69 : Nat))])
theorem d_Lw_cheapest_0 : decode method_30_code 0 = .ok (.aload_n 2, 1) := zo_44 (zd_b zq_method_30_code_0 0 rfl rfl rfl)
theorem d_Lw_cheapest_1 : decode method_30_code 1 = .ok (.iconst 0, 1) := zo_3 (zd_b zq_method_30_code_0 1 rfl rfl rfl)
theorem d_Lw_cheapest_2 : decode method_30_code 2 = .ok (.aload_n 0, 1) := zo_42 (zd_b zq_method_30_code_0 2 rfl rfl rfl)
theorem d_Lw_cheapest_3 : decode method_30_code 3 = .ok (.iload_n 1, 1) := zo_27 (zd_b zq_method_30_code_0 3 rfl rfl rfl)
theorem d_Lw_cheapest_4 : decode method_30_code 4 = .ok (.invokevirtual 112, 3) := zo_182 (d := 0) (e := 112) (zd_b zq_method_30_code_0 4 rfl rfl rfl) (zd_b zq_method_30_code_0 5 rfl rfl rfl) (zd_b zq_method_30_code_0 6 rfl rfl rfl)
theorem ok_Lw_cheapest_Ip_cheapest : z_okH M_Lw_cheapest M_Ip_cheapest 1 := ⟨z_mj5 (i := 204) rfl (by decide +kernel), rfl, ⟨by decide +kernel, by decide +kernel, by decide +kernel⟩, ⟨by decide, by decide⟩, z_mj1 (i := 1) rfl (by decide +kernel)⟩
theorem ln_Lw_112 : Cond.methodLink "IronpourLaw" 112 M_Ip_cheapest.1 ∈ z_gw := z_mj5 (i := 201) rfl (by decide +kernel)
theorem w_im_Ip_cheapest : Cond.instanceMethod M_Ip_cheapest.1 ∈ z_gw := z_mj5 (i := 202) rfl (by decide +kernel)
theorem w_se_Ip_cheapest : Cond.selects M_Ip_cheapest.1.cls M_Ip_cheapest.1 M_Ip_cheapest.1 ∈ z_gw := z_mj5 (i := 203) rfl (by decide +kernel)
theorem d_Lw_cheapest_12 : decode method_30_code 12 = .ok (.astore_n 3, 1) := zo_78 (zd_b zq_method_30_code_0 12 rfl rfl rfl)
theorem d_Lw_cheapest_13 : decode method_30_code 13 = .ok (.iconst 1, 1) := zo_4 (zd_b zq_method_30_code_0 13 rfl rfl rfl)
theorem d_Lw_cheapest_14 : decode method_30_code 14 = .ok (.ireturn, 1) := zo_172 (zd_b zq_method_30_code_0 14 rfl rfl rfl)
theorem d_Lw_cheapest_15 : decode method_30_code 15 = .ok (.astore_n 3, 1) := zo_78 (zd_b zq_method_30_code_0 15 rfl rfl rfl)
theorem d_Lw_cheapest_16 : decode method_30_code 16 = .ok (.iconst 2, 1) := zo_5 (zd_b zq_method_30_code_0 16 rfl rfl rfl)
theorem d_Lw_cheapest_17 : decode method_30_code 17 = .ok (.ireturn, 1) := zo_172 (zd_b zq_method_30_code_0 17 rfl rfl rfl)
theorem d_Lw_cheapest_7 : decode method_30_code 7 = .ok (.i2l, 1) := zo_133 (zd_b zq_method_30_code_0 7 rfl rfl rfl)
theorem d_Lw_cheapest_8 : decode method_30_code 8 = .ok (.lastore, 1) := zo_80 (zd_b zq_method_30_code_0 8 rfl rfl rfl)
theorem d_Lw_cheapest_9 : decode method_30_code 9 = .ok (.goto 9, 3) := zo_167 (d := 0) (e := 9) (zd_b zq_method_30_code_0 9 rfl rfl rfl) (zd_b zq_method_30_code_0 10 rfl rfl rfl) (zd_b zq_method_30_code_0 11 rfl rfl rfl) (by decide +kernel)
theorem d_Lw_cheapest_18 : decode method_30_code 18 = .ok (.iconst 0, 1) := zo_3 (zd_b zq_method_30_code_0 18 rfl rfl rfl)
theorem d_Lw_cheapest_19 : decode method_30_code 19 = .ok (.ireturn, 1) := zo_172 (zd_b zq_method_30_code_0 19 rfl rfl rfl)
set_option maxHeartbeats 4000000 in
set_option maxRecDepth 100000 in
theorem W_cheapest {g : zG} {ad : Nat → Nat} {t : zTT} {u : zNN} {w : zW} (hI : IVm g ad t u w) (c : Int32) : zMB g M_Lw_cheapest [.ref (ad 0), .int c, .ref (ad 69)] w (fun o w1 => MKx g ad t u.1 o w1) 10 300 := by
  obtain ⟨s, hI⟩ := hI
  obtain ⟨e_a, wf_a, k_a⟩ := hI.1.2 0 (by decide)
  obtain rfl := kd_0.mp k_a
  obtain ⟨e_o1, wf_o1, k_o1⟩ := hI.1.2 69 (by decide)
  obtain rfl := kd_69.mp k_o1
  refine y_ofH (by decide) (by decide) (Nat.le_of_ble_eq_true rfl) (y_base (cs := [((ad 0), .inr (11, [.ref (ad 1), .ref (ad 5), .ref (ad 18), .ref (ad 31), .ref (ad 32), .ref (ad 36), .ref (ad 42), .ref (ad 45), .ref (ad 47), .ref (ad 49), .ref (ad 50), .ref (ad 51)])), ((ad 69), .inl (3, 1, .inr (.inl (((mg t s).1 69).2.1))))]) (hI.1.I [0, 69] _ rfl (by decide) (by decide) (List.forall_mem_cons.mpr ⟨wf_a, (List.forall_mem_cons.mpr ⟨wf_o1, (fun _ h => nomatch h)⟩)⟩)) ?_)
  refine y_lvE (lv2 := [(0, .ref (ad 0)), (1, .int c), (2, .ref (ad 69))]) rfl ?_
  refine y_aload_n d_Lw_cheapest_0 rfl 2 rfl ?_
  refine y_iconst d_Lw_cheapest_1 (v := 0) (by decide) ?_
  refine y_aload_n d_Lw_cheapest_2 rfl 0 rfl ?_
  refine y_iload_n d_Lw_cheapest_3 rfl 1 rfl ?_
  refine yw_callVH (As := [.int c]) (rest := [.int 0, .ref (ad 69)]) (q0 := 0) rfl rfl ln_Lw_112 w_im_Ip_cheapest w_se_Ip_cheapest ok_Lw_cheapest_Ip_cheapest d_Lw_cheapest_4 (fun wA hA => K_Ip_cheapest ⟨_, (hI.gen (t2 := (mg t s)) (is := [0, 69]) (L2 := []) hA rfl ⟨kd_0.mpr rfl, kd_69.mpr rfl, trivial⟩ (by decide) (by decide) (fun _ h => nomatch h) (fun _ h => nomatch h) (fun _ _ _ => rfl) (fun h => h) rfl)⟩ c) rfl rfl (Nat.le_of_ble_eq_true rfl) (by omega) (by omega) (fun wA4 hA4 E wB4 hx => ?_) (fun wA4 hA4 v wB4 hx => ?_)
  · obtain ⟨h1, u2, hu, hI2⟩ := hx
    rcases List.mem_cons.mp (zriE h1) with rfl | g2
    · refine ⟨"java/lang/IllegalArgumentException", [], [(0, 9, 15, 69)], (0, 9, 12, 13), rfl, (fun z hz => nomatch hz), by decide, by decide, lx_Lw_13, ce_13, fun qx => ?_⟩
      refine y_base (cs := []) (z_I.nil wB4) ?_
      refine y_astore_n (lv' := [(3, .ref qx), (0, .ref (ad 0)), (1, .int c), (2, .ref (ad 69))]) d_Lw_cheapest_12 rfl (by decide) rfl ?_
      refine y_iconst d_Lw_cheapest_13 (v := 1) (by decide) ?_
      refine y_iret d_Lw_cheapest_14 rfl rfl ?_
      exact fun w1 h1 => ⟨⟨_, rfl⟩, u2, hu, (z_I.same (z_I.nil _) h1).symm ▸ hI2⟩
    · obtain rfl := List.mem_singleton.mp g2
      refine ⟨"java/lang/IllegalStateException", [(0, 9, 12, 13)], [], (0, 9, 15, 69), rfl, (fun z hz => by simp only [List.mem_cons, List.not_mem_nil, or_false] at hz; rcases hz with rfl; exact Or.inr ⟨by decide, _, lx_Lw_13, by decide⟩), by decide, by decide, lx_Lw_69, ce_69, fun qx => ?_⟩
      refine y_base (cs := []) (z_I.nil wB4) ?_
      refine y_astore_n (lv' := [(3, .ref qx), (0, .ref (ad 0)), (1, .int c), (2, .ref (ad 69))]) d_Lw_cheapest_15 rfl (by decide) rfl ?_
      refine y_iconst d_Lw_cheapest_16 (v := 2) (by decide) ?_
      refine y_iret d_Lw_cheapest_17 rfl rfl ?_
      exact fun w1 h1 => ⟨⟨_, rfl⟩, u2, hu, (z_I.same (z_I.nil _) h1).symm ▸ hI2⟩
  · obtain ⟨h1, u2, hu, hI2⟩ := hx
    obtain ⟨v9, rfl⟩ := zriV h1
    refine yw_st (st2 := [.int v9, .int 0, .ref (ad 69)]) rfl ?_
    obtain ⟨s9, hI⟩ := hI2
    obtain ⟨e_o1, wf_o1, k_o1⟩ := hI.1.2 69 (by decide)
    obtain rfl := kd_69.mp k_o1
    refine y_base (cs := [((ad 69), .inl (3, 1, .inr (.inl (((mg t s9).1 69).2.1))))]) (hI.1.I [69] _ rfl (by decide) (by decide) (List.forall_mem_cons.mpr ⟨wf_o1, (fun _ h => nomatch h)⟩)) ?_
    refine y_i2l d_Lw_cheapest_7 (v := v9.toInt64) rfl ?_
    refine y_last d_Lw_cheapest_8 (q0 := 0) rfl (fun q => q.elim (by decide) (by decide)) (f' := vp_updL (((mg t s9).1 69).2.1) 0 v9.toInt64) rfl (cs' := [((ad 69), .inl (3, 1, .inr (.inl (vp_updL (((mg t s9).1 69).2.1) 0 v9.toInt64))))]) rfl ?_
    refine y_goto (tgt := 18) d_Lw_cheapest_9 (by decide) ?_
    refine y_iconst d_Lw_cheapest_18 (v := 0) (by decide) ?_
    refine y_iret d_Lw_cheapest_19 rfl rfl ?_
    exact fun w1 h1 => ⟨⟨_, rfl⟩, u2, hu, IVm.tz ((hI.gen (t2 := (zup (mg t s9).1 [(69, (((mg t s9).1 69).1, vp_updL (((mg t s9).1 69).2.1) 0 v9.toInt64, ((mg t s9).1 69).2.2))], (mg t s9).2)) (is := [69]) (L2 := []) h1 rfl ⟨kd_69.mpr rfl, trivial⟩ (by decide) (by decide) (fun _ h => nomatch h) (fun _ h => nomatch h) (fun i hi hn => zup_out (fun q => hn ((by decide : ∀ j ∈ ([69] : List Nat), j ∈ ([69] : List Nat)) i q))) (fun h => h) rfl)) (tx_all rfl)⟩
abbrev M_Lw_mould : zM := (⟨"IronpourLaw", "mould", "(LIronpour;[J)I"⟩, method_31_code, 3, (Option.some FieldType.int), 9, 252, [((0 : Nat), (8 : Nat), (11 : Nat), (33 : Nat)), ((0 : Nat), (8 : Nat), (14 : Nat), (78 : Nat)), ((0 : Nat), (8 : Nat), (17 : Nat), (69 : Nat))])
theorem d_Lw_mould_0 : decode method_31_code 0 = .ok (.aload_n 1, 1) := zo_43 (zd_b zq_method_31_code_0 0 rfl rfl rfl)
theorem d_Lw_mould_1 : decode method_31_code 1 = .ok (.iconst 0, 1) := zo_3 (zd_b zq_method_31_code_0 1 rfl rfl rfl)
theorem d_Lw_mould_2 : decode method_31_code 2 = .ok (.aload_n 0, 1) := zo_42 (zd_b zq_method_31_code_0 2 rfl rfl rfl)
theorem d_Lw_mould_3 : decode method_31_code 3 = .ok (.invokevirtual 115, 3) := zo_182 (d := 0) (e := 115) (zd_b zq_method_31_code_0 3 rfl rfl rfl) (zd_b zq_method_31_code_0 4 rfl rfl rfl) (zd_b zq_method_31_code_0 5 rfl rfl rfl)
theorem ok_Lw_mould_Ip_mould : z_okH M_Lw_mould M_Ip_mould 0 := ⟨z_mj5 (i := 218) rfl (by decide +kernel), rfl, ⟨by decide +kernel, by decide +kernel, by decide +kernel⟩, ⟨by decide, by decide⟩, z_mj1 (i := 1) rfl (by decide +kernel)⟩
theorem ln_Lw_115 : Cond.methodLink "IronpourLaw" 115 M_Ip_mould.1 ∈ z_gw := z_mj5 (i := 215) rfl (by decide +kernel)
theorem w_im_Ip_mould : Cond.instanceMethod M_Ip_mould.1 ∈ z_gw := z_mj5 (i := 216) rfl (by decide +kernel)
theorem w_se_Ip_mould : Cond.selects M_Ip_mould.1.cls M_Ip_mould.1 M_Ip_mould.1 ∈ z_gw := z_mj5 (i := 217) rfl (by decide +kernel)
theorem d_Lw_mould_11 : decode method_31_code 11 = .ok (.astore_n 2, 1) := zo_77 (zd_b zq_method_31_code_0 11 rfl rfl rfl)
theorem d_Lw_mould_12 : decode method_31_code 12 = .ok (.iconst 1, 1) := zo_4 (zd_b zq_method_31_code_0 12 rfl rfl rfl)
theorem d_Lw_mould_13 : decode method_31_code 13 = .ok (.ireturn, 1) := zo_172 (zd_b zq_method_31_code_0 13 rfl rfl rfl)
theorem d_Lw_mould_14 : decode method_31_code 14 = .ok (.astore_n 2, 1) := zo_77 (zd_b zq_method_31_code_0 14 rfl rfl rfl)
theorem d_Lw_mould_15 : decode method_31_code 15 = .ok (.iconst 2, 1) := zo_5 (zd_b zq_method_31_code_0 15 rfl rfl rfl)
theorem d_Lw_mould_16 : decode method_31_code 16 = .ok (.ireturn, 1) := zo_172 (zd_b zq_method_31_code_0 16 rfl rfl rfl)
theorem d_Lw_mould_17 : decode method_31_code 17 = .ok (.astore_n 2, 1) := zo_77 (zd_b zq_method_31_code_0 17 rfl rfl rfl)
theorem d_Lw_mould_18 : decode method_31_code 18 = .ok (.iconst 3, 1) := zo_6 (zd_b zq_method_31_code_0 18 rfl rfl rfl)
theorem d_Lw_mould_19 : decode method_31_code 19 = .ok (.ireturn, 1) := zo_172 (zd_b zq_method_31_code_0 19 rfl rfl rfl)
theorem d_Lw_mould_6 : decode method_31_code 6 = .ok (.i2l, 1) := zo_133 (zd_b zq_method_31_code_0 6 rfl rfl rfl)
theorem d_Lw_mould_7 : decode method_31_code 7 = .ok (.lastore, 1) := zo_80 (zd_b zq_method_31_code_0 7 rfl rfl rfl)
theorem d_Lw_mould_8 : decode method_31_code 8 = .ok (.goto 12, 3) := zo_167 (d := 0) (e := 12) (zd_b zq_method_31_code_0 8 rfl rfl rfl) (zd_b zq_method_31_code_0 9 rfl rfl rfl) (zd_b zq_method_31_code_0 10 rfl rfl rfl) (by decide +kernel)
theorem d_Lw_mould_20 : decode method_31_code 20 = .ok (.iconst 0, 1) := zo_3 (zd_b zq_method_31_code_0 20 rfl rfl rfl)
theorem d_Lw_mould_21 : decode method_31_code 21 = .ok (.ireturn, 1) := zo_172 (zd_b zq_method_31_code_0 21 rfl rfl rfl)
set_option maxHeartbeats 4000000 in
set_option maxRecDepth 100000 in
theorem W_mould {g : zG} {ad : Nat → Nat} {t : zTT} {u : zNN} {w : zW} (hI : IVm g ad t u w) : zMB g M_Lw_mould [.ref (ad 0), .ref (ad 69)] w (fun o w1 => MKx g ad (tK_Ip_mould t u.1) (nK_Ip_mould t u.1) o w1) 10 300 := by
  obtain ⟨s, hI⟩ := hI
  obtain ⟨e_a, wf_a, k_a⟩ := hI.1.2 0 (by decide)
  obtain rfl := kd_0.mp k_a
  obtain ⟨e_o1, wf_o1, k_o1⟩ := hI.1.2 69 (by decide)
  obtain rfl := kd_69.mp k_o1
  refine y_ofH (by decide) (by decide) (Nat.le_of_ble_eq_true rfl) (y_base (cs := [((ad 0), .inr (11, [.ref (ad 1), .ref (ad 5), .ref (ad 18), .ref (ad 31), .ref (ad 32), .ref (ad 36), .ref (ad 42), .ref (ad 45), .ref (ad 47), .ref (ad 49), .ref (ad 50), .ref (ad 51)])), ((ad 69), .inl (3, 1, .inr (.inl (((mg t s).1 69).2.1))))]) (hI.1.I [0, 69] _ rfl (by decide) (by decide) (List.forall_mem_cons.mpr ⟨wf_a, (List.forall_mem_cons.mpr ⟨wf_o1, (fun _ h => nomatch h)⟩)⟩)) ?_)
  refine y_lvE (lv2 := [(0, .ref (ad 0)), (1, .ref (ad 69))]) rfl ?_
  refine y_aload_n d_Lw_mould_0 rfl 1 rfl ?_
  refine y_iconst d_Lw_mould_1 (v := 0) (by decide) ?_
  refine y_aload_n d_Lw_mould_2 rfl 0 rfl ?_
  refine yw_callVH (As := []) (rest := [.int 0, .ref (ad 69)]) (q0 := 0) rfl rfl ln_Lw_115 w_im_Ip_mould w_se_Ip_mould ok_Lw_mould_Ip_mould d_Lw_mould_3 (fun wA hA => K_Ip_mould ⟨_, (hI.gen (t2 := (mg t s)) (is := [0, 69]) (L2 := []) hA rfl ⟨kd_0.mpr rfl, kd_69.mpr rfl, trivial⟩ (by decide) (by decide) (fun _ h => nomatch h) (fun _ h => nomatch h) (fun _ _ _ => rfl) (fun h => h) rfl)⟩) rfl rfl (Nat.le_of_ble_eq_true rfl) (by omega) (by omega) (fun wA3 hA3 E wB3 hx => ?_) (fun wA3 hA3 v wB3 hx => ?_)
  · obtain ⟨h1, u2, hu, hI2⟩ := hx
    rcases List.mem_cons.mp (zriE h1) with rfl | g3
    · refine ⟨"java/util/NoSuchElementException", [], [(0, 8, 14, 78), (0, 8, 17, 69)], (0, 8, 11, 33), rfl, (fun z hz => nomatch hz), by decide, by decide, lx_Lw_33, ce_33, fun qx => ?_⟩
      refine y_base (cs := []) (z_I.nil wB3) ?_
      refine y_astore_n (lv' := [(2, .ref qx), (0, .ref (ad 0)), (1, .ref (ad 69))]) d_Lw_mould_11 rfl (by decide) rfl ?_
      refine y_iconst d_Lw_mould_12 (v := 1) (by decide) ?_
      refine y_iret d_Lw_mould_13 rfl rfl ?_
      exact fun w1 h1 => ⟨⟨_, rfl⟩, u2, hu, (z_I.same (z_I.nil _) h1).symm ▸ hI2⟩
    · rcases List.mem_cons.mp g3 with rfl | g2
      · refine ⟨"java/lang/UnsupportedOperationException", [(0, 8, 11, 33)], [(0, 8, 17, 69)], (0, 8, 14, 78), rfl, (fun z hz => by simp only [List.mem_cons, List.not_mem_nil, or_false] at hz; rcases hz with rfl; exact Or.inr ⟨by decide, _, lx_Lw_33, by decide⟩), by decide, by decide, lx_Lw_78, ce_78, fun qx => ?_⟩
        refine y_base (cs := []) (z_I.nil wB3) ?_
        refine y_astore_n (lv' := [(2, .ref qx), (0, .ref (ad 0)), (1, .ref (ad 69))]) d_Lw_mould_14 rfl (by decide) rfl ?_
        refine y_iconst d_Lw_mould_15 (v := 2) (by decide) ?_
        refine y_iret d_Lw_mould_16 rfl rfl ?_
        exact fun w1 h1 => ⟨⟨_, rfl⟩, u2, hu, (z_I.same (z_I.nil _) h1).symm ▸ hI2⟩
      · obtain rfl := List.mem_singleton.mp g2
        refine ⟨"java/lang/IllegalStateException", [(0, 8, 11, 33), (0, 8, 14, 78)], [], (0, 8, 17, 69), rfl, (fun z hz => by simp only [List.mem_cons, List.not_mem_nil, or_false] at hz; rcases hz with rfl | rfl <;> first | exact Or.inr ⟨by decide, _, lx_Lw_33, by decide⟩ | exact Or.inr ⟨by decide, _, lx_Lw_78, by decide⟩), by decide, by decide, lx_Lw_69, ce_69, fun qx => ?_⟩
        refine y_base (cs := []) (z_I.nil wB3) ?_
        refine y_astore_n (lv' := [(2, .ref qx), (0, .ref (ad 0)), (1, .ref (ad 69))]) d_Lw_mould_17 rfl (by decide) rfl ?_
        refine y_iconst d_Lw_mould_18 (v := 3) (by decide) ?_
        refine y_iret d_Lw_mould_19 rfl rfl ?_
        exact fun w1 h1 => ⟨⟨_, rfl⟩, u2, hu, (z_I.same (z_I.nil _) h1).symm ▸ hI2⟩
  · obtain ⟨h1, u2, hu, hI2⟩ := hx
    obtain ⟨v9, rfl⟩ := zriV h1
    refine yw_st (st2 := [.int v9, .int 0, .ref (ad 69)]) rfl ?_
    obtain ⟨s9, hI⟩ := hI2
    obtain ⟨e_o1, wf_o1, k_o1⟩ := hI.1.2 69 (by decide)
    obtain rfl := kd_69.mp k_o1
    refine y_base (cs := [((ad 69), .inl (3, 1, .inr (.inl (((mg (tK_Ip_mould t u.1) s9).1 69).2.1))))]) (hI.1.I [69] _ rfl (by decide) (by decide) (List.forall_mem_cons.mpr ⟨wf_o1, (fun _ h => nomatch h)⟩)) ?_
    refine y_i2l d_Lw_mould_6 (v := v9.toInt64) rfl ?_
    refine y_last d_Lw_mould_7 (q0 := 0) rfl (fun q => q.elim (by decide) (by decide)) (f' := vp_updL (((mg (tK_Ip_mould t u.1) s9).1 69).2.1) 0 v9.toInt64) rfl (cs' := [((ad 69), .inl (3, 1, .inr (.inl (vp_updL (((mg (tK_Ip_mould t u.1) s9).1 69).2.1) 0 v9.toInt64))))]) rfl ?_
    refine y_goto (tgt := 20) d_Lw_mould_8 (by decide) ?_
    refine y_iconst d_Lw_mould_20 (v := 0) (by decide) ?_
    refine y_iret d_Lw_mould_21 rfl rfl ?_
    exact fun w1 h1 => ⟨⟨_, rfl⟩, u2, hu, IVm.tz ((hI.gen (t2 := (zup (mg (tK_Ip_mould t u.1) s9).1 [(69, (((mg (tK_Ip_mould t u.1) s9).1 69).1, vp_updL (((mg (tK_Ip_mould t u.1) s9).1 69).2.1) 0 v9.toInt64, ((mg (tK_Ip_mould t u.1) s9).1 69).2.2))], (mg (tK_Ip_mould t u.1) s9).2)) (is := [69]) (L2 := []) h1 rfl ⟨kd_69.mpr rfl, trivial⟩ (by decide) (by decide) (fun _ h => nomatch h) (fun _ h => nomatch h) (fun i hi hn => zup_out (fun q => hn ((by decide : ∀ j ∈ ([69] : List Nat), j ∈ ([69] : List Nat)) i q))) (fun h => h) rfl)) (tx_all rfl)⟩
abbrev M_Lw_waiting : zM := (⟨"IronpourLaw", "waiting", "(LIronpour;I[J)I"⟩, method_32_code, 4, (Option.some FieldType.int), 7, 121, [((0 : Nat), (9 : Nat), (12 : Nat), (33 : Nat))])
theorem d_Lw_waiting_0 : decode method_32_code 0 = .ok (.aload_n 2, 1) := zo_44 (zd_b zq_method_32_code_0 0 rfl rfl rfl)
theorem d_Lw_waiting_1 : decode method_32_code 1 = .ok (.iconst 0, 1) := zo_3 (zd_b zq_method_32_code_0 1 rfl rfl rfl)
theorem d_Lw_waiting_2 : decode method_32_code 2 = .ok (.aload_n 0, 1) := zo_42 (zd_b zq_method_32_code_0 2 rfl rfl rfl)
theorem d_Lw_waiting_3 : decode method_32_code 3 = .ok (.iload_n 1, 1) := zo_27 (zd_b zq_method_32_code_0 3 rfl rfl rfl)
theorem d_Lw_waiting_4 : decode method_32_code 4 = .ok (.invokevirtual 118, 3) := zo_182 (d := 0) (e := 118) (zd_b zq_method_32_code_0 4 rfl rfl rfl) (zd_b zq_method_32_code_0 5 rfl rfl rfl) (zd_b zq_method_32_code_0 6 rfl rfl rfl)
theorem ok_Lw_waiting_Ip_waiting : z_okH M_Lw_waiting M_Ip_waiting 1 := ⟨z_mj6 (i := 103) rfl (by decide +kernel), rfl, ⟨by decide +kernel, by decide +kernel, by decide +kernel⟩, ⟨by decide, by decide⟩, z_mj1 (i := 1) rfl (by decide +kernel)⟩
theorem ln_Lw_118 : Cond.methodLink "IronpourLaw" 118 M_Ip_waiting.1 ∈ z_gw := z_mj6 (i := 100) rfl (by decide +kernel)
theorem w_im_Ip_waiting : Cond.instanceMethod M_Ip_waiting.1 ∈ z_gw := z_mj6 (i := 101) rfl (by decide +kernel)
theorem w_se_Ip_waiting : Cond.selects M_Ip_waiting.1.cls M_Ip_waiting.1 M_Ip_waiting.1 ∈ z_gw := z_mj6 (i := 102) rfl (by decide +kernel)
theorem d_Lw_waiting_12 : decode method_32_code 12 = .ok (.astore_n 3, 1) := zo_78 (zd_b zq_method_32_code_0 12 rfl rfl rfl)
theorem d_Lw_waiting_13 : decode method_32_code 13 = .ok (.iconst 1, 1) := zo_4 (zd_b zq_method_32_code_0 13 rfl rfl rfl)
theorem d_Lw_waiting_14 : decode method_32_code 14 = .ok (.ireturn, 1) := zo_172 (zd_b zq_method_32_code_0 14 rfl rfl rfl)
theorem d_Lw_waiting_7 : decode method_32_code 7 = .ok (.i2l, 1) := zo_133 (zd_b zq_method_32_code_0 7 rfl rfl rfl)
theorem d_Lw_waiting_8 : decode method_32_code 8 = .ok (.lastore, 1) := zo_80 (zd_b zq_method_32_code_0 8 rfl rfl rfl)
theorem d_Lw_waiting_9 : decode method_32_code 9 = .ok (.goto 6, 3) := zo_167 (d := 0) (e := 6) (zd_b zq_method_32_code_0 9 rfl rfl rfl) (zd_b zq_method_32_code_0 10 rfl rfl rfl) (zd_b zq_method_32_code_0 11 rfl rfl rfl) (by decide +kernel)
theorem d_Lw_waiting_15 : decode method_32_code 15 = .ok (.iconst 0, 1) := zo_3 (zd_b zq_method_32_code_0 15 rfl rfl rfl)
theorem d_Lw_waiting_16 : decode method_32_code 16 = .ok (.ireturn, 1) := zo_172 (zd_b zq_method_32_code_0 16 rfl rfl rfl)
abbrev M_Lw_pour : zM := (⟨"IronpourLaw", "pour", "(LIronpour;[J)I"⟩, method_33_code, 3, (Option.some FieldType.int), 9, 251, [((0 : Nat), (8 : Nat), (11 : Nat), (33 : Nat)), ((0 : Nat), (8 : Nat), (14 : Nat), (69 : Nat)), ((0 : Nat), (8 : Nat), (17 : Nat), (78 : Nat))])
theorem d_Lw_pour_0 : decode method_33_code 0 = .ok (.aload_n 1, 1) := zo_43 (zd_b zq_method_33_code_0 0 rfl rfl rfl)
theorem d_Lw_pour_1 : decode method_33_code 1 = .ok (.iconst 0, 1) := zo_3 (zd_b zq_method_33_code_0 1 rfl rfl rfl)
theorem d_Lw_pour_2 : decode method_33_code 2 = .ok (.aload_n 0, 1) := zo_42 (zd_b zq_method_33_code_0 2 rfl rfl rfl)
theorem d_Lw_pour_3 : decode method_33_code 3 = .ok (.invokevirtual 121, 3) := zo_182 (d := 0) (e := 121) (zd_b zq_method_33_code_0 3 rfl rfl rfl) (zd_b zq_method_33_code_0 4 rfl rfl rfl) (zd_b zq_method_33_code_0 5 rfl rfl rfl)
theorem ok_Lw_pour_Ip_pour : z_okH M_Lw_pour M_Ip_pour 0 := ⟨z_mj6 (i := 111) rfl (by decide +kernel), rfl, ⟨by decide +kernel, by decide +kernel, by decide +kernel⟩, ⟨by decide, by decide⟩, z_mj1 (i := 1) rfl (by decide +kernel)⟩
theorem ln_Lw_121 : Cond.methodLink "IronpourLaw" 121 M_Ip_pour.1 ∈ z_gw := z_mj6 (i := 108) rfl (by decide +kernel)
theorem w_im_Ip_pour : Cond.instanceMethod M_Ip_pour.1 ∈ z_gw := z_mj6 (i := 109) rfl (by decide +kernel)
theorem w_se_Ip_pour : Cond.selects M_Ip_pour.1.cls M_Ip_pour.1 M_Ip_pour.1 ∈ z_gw := z_mj6 (i := 110) rfl (by decide +kernel)
theorem d_Lw_pour_11 : decode method_33_code 11 = .ok (.astore_n 2, 1) := zo_77 (zd_b zq_method_33_code_0 11 rfl rfl rfl)
theorem d_Lw_pour_12 : decode method_33_code 12 = .ok (.iconst 1, 1) := zo_4 (zd_b zq_method_33_code_0 12 rfl rfl rfl)
theorem d_Lw_pour_13 : decode method_33_code 13 = .ok (.ireturn, 1) := zo_172 (zd_b zq_method_33_code_0 13 rfl rfl rfl)
theorem d_Lw_pour_14 : decode method_33_code 14 = .ok (.astore_n 2, 1) := zo_77 (zd_b zq_method_33_code_0 14 rfl rfl rfl)
theorem d_Lw_pour_15 : decode method_33_code 15 = .ok (.iconst 2, 1) := zo_5 (zd_b zq_method_33_code_0 15 rfl rfl rfl)
theorem d_Lw_pour_16 : decode method_33_code 16 = .ok (.ireturn, 1) := zo_172 (zd_b zq_method_33_code_0 16 rfl rfl rfl)
theorem d_Lw_pour_17 : decode method_33_code 17 = .ok (.astore_n 2, 1) := zo_77 (zd_b zq_method_33_code_0 17 rfl rfl rfl)
theorem d_Lw_pour_18 : decode method_33_code 18 = .ok (.iconst 3, 1) := zo_6 (zd_b zq_method_33_code_0 18 rfl rfl rfl)
theorem d_Lw_pour_19 : decode method_33_code 19 = .ok (.ireturn, 1) := zo_172 (zd_b zq_method_33_code_0 19 rfl rfl rfl)
theorem d_Lw_pour_6 : decode method_33_code 6 = .ok (.i2l, 1) := zo_133 (zd_b zq_method_33_code_0 6 rfl rfl rfl)
theorem d_Lw_pour_7 : decode method_33_code 7 = .ok (.lastore, 1) := zo_80 (zd_b zq_method_33_code_0 7 rfl rfl rfl)
theorem d_Lw_pour_8 : decode method_33_code 8 = .ok (.goto 12, 3) := zo_167 (d := 0) (e := 12) (zd_b zq_method_33_code_0 8 rfl rfl rfl) (zd_b zq_method_33_code_0 9 rfl rfl rfl) (zd_b zq_method_33_code_0 10 rfl rfl rfl) (by decide +kernel)
theorem d_Lw_pour_20 : decode method_33_code 20 = .ok (.iconst 0, 1) := zo_3 (zd_b zq_method_33_code_0 20 rfl rfl rfl)
theorem d_Lw_pour_21 : decode method_33_code 21 = .ok (.ireturn, 1) := zo_172 (zd_b zq_method_33_code_0 21 rfl rfl rfl)
set_option maxHeartbeats 4000000 in
set_option maxRecDepth 100000 in
theorem W_pour {g : zG} {ad : Nat → Nat} {t : zTT} {u : zNN} {w : zW} (hI : IVm g ad t u w) : zMB g M_Lw_pour [.ref (ad 0), .ref (ad 69)] w (fun o w1 => ∃ (X9 : zTr), MKx g ad (tK_Ip_pour X9 t u.1) (nK_Ip_pour t u.1) o w1) 10 300 := by
  obtain ⟨s, hI⟩ := hI
  obtain ⟨e_a, wf_a, k_a⟩ := hI.1.2 0 (by decide)
  obtain rfl := kd_0.mp k_a
  obtain ⟨e_o1, wf_o1, k_o1⟩ := hI.1.2 69 (by decide)
  obtain rfl := kd_69.mp k_o1
  refine y_ofH (by decide) (by decide) (Nat.le_of_ble_eq_true rfl) (y_base (cs := [((ad 0), .inr (11, [.ref (ad 1), .ref (ad 5), .ref (ad 18), .ref (ad 31), .ref (ad 32), .ref (ad 36), .ref (ad 42), .ref (ad 45), .ref (ad 47), .ref (ad 49), .ref (ad 50), .ref (ad 51)])), ((ad 69), .inl (3, 1, .inr (.inl (((mg t s).1 69).2.1))))]) (hI.1.I [0, 69] _ rfl (by decide) (by decide) (List.forall_mem_cons.mpr ⟨wf_a, (List.forall_mem_cons.mpr ⟨wf_o1, (fun _ h => nomatch h)⟩)⟩)) ?_)
  refine y_lvE (lv2 := [(0, .ref (ad 0)), (1, .ref (ad 69))]) rfl ?_
  refine y_aload_n d_Lw_pour_0 rfl 1 rfl ?_
  refine y_iconst d_Lw_pour_1 (v := 0) (by decide) ?_
  refine y_aload_n d_Lw_pour_2 rfl 0 rfl ?_
  refine yw_callVH (As := []) (rest := [.int 0, .ref (ad 69)]) (q0 := 0) rfl rfl ln_Lw_121 w_im_Ip_pour w_se_Ip_pour ok_Lw_pour_Ip_pour d_Lw_pour_3 (fun wA hA => K_Ip_pour ⟨_, (hI.gen (t2 := (mg t s)) (is := [0, 69]) (L2 := []) hA rfl ⟨kd_0.mpr rfl, kd_69.mpr rfl, trivial⟩ (by decide) (by decide) (fun _ h => nomatch h) (fun _ h => nomatch h) (fun _ _ _ => rfl) (fun h => h) rfl)⟩) rfl rfl (Nat.le_of_ble_eq_true rfl) (by omega) (by omega) (fun wA3 hA3 E wB3 hx => ?_) (fun wA3 hA3 v wB3 hx => ?_)
  · obtain ⟨X9, h1, u2, hu, hI2⟩ := hx
    rcases List.mem_cons.mp (zriE h1) with rfl | g3
    · refine ⟨"java/util/NoSuchElementException", [], [(0, 8, 14, 69), (0, 8, 17, 78)], (0, 8, 11, 33), rfl, (fun z hz => nomatch hz), by decide, by decide, lx_Lw_33, ce_33, fun qx => ?_⟩
      refine y_base (cs := []) (z_I.nil wB3) ?_
      refine y_astore_n (lv' := [(2, .ref qx), (0, .ref (ad 0)), (1, .ref (ad 69))]) d_Lw_pour_11 rfl (by decide) rfl ?_
      refine y_iconst d_Lw_pour_12 (v := 1) (by decide) ?_
      refine y_iret d_Lw_pour_13 rfl rfl ?_
      exact fun w1 h1 => ⟨X9, ⟨_, rfl⟩, u2, hu, (z_I.same (z_I.nil _) h1).symm ▸ hI2⟩
    · rcases List.mem_cons.mp g3 with rfl | g2
      · refine ⟨"java/lang/IllegalStateException", [(0, 8, 11, 33)], [(0, 8, 17, 78)], (0, 8, 14, 69), rfl, (fun z hz => by simp only [List.mem_cons, List.not_mem_nil, or_false] at hz; rcases hz with rfl; exact Or.inr ⟨by decide, _, lx_Lw_33, by decide⟩), by decide, by decide, lx_Lw_69, ce_69, fun qx => ?_⟩
        refine y_base (cs := []) (z_I.nil wB3) ?_
        refine y_astore_n (lv' := [(2, .ref qx), (0, .ref (ad 0)), (1, .ref (ad 69))]) d_Lw_pour_14 rfl (by decide) rfl ?_
        refine y_iconst d_Lw_pour_15 (v := 2) (by decide) ?_
        refine y_iret d_Lw_pour_16 rfl rfl ?_
        exact fun w1 h1 => ⟨X9, ⟨_, rfl⟩, u2, hu, (z_I.same (z_I.nil _) h1).symm ▸ hI2⟩
      · obtain rfl := List.mem_singleton.mp g2
        refine ⟨"java/lang/UnsupportedOperationException", [(0, 8, 11, 33), (0, 8, 14, 69)], [], (0, 8, 17, 78), rfl, (fun z hz => by simp only [List.mem_cons, List.not_mem_nil, or_false] at hz; rcases hz with rfl | rfl <;> first | exact Or.inr ⟨by decide, _, lx_Lw_33, by decide⟩ | exact Or.inr ⟨by decide, _, lx_Lw_69, by decide⟩), by decide, by decide, lx_Lw_78, ce_78, fun qx => ?_⟩
        refine y_base (cs := []) (z_I.nil wB3) ?_
        refine y_astore_n (lv' := [(2, .ref qx), (0, .ref (ad 0)), (1, .ref (ad 69))]) d_Lw_pour_17 rfl (by decide) rfl ?_
        refine y_iconst d_Lw_pour_18 (v := 3) (by decide) ?_
        refine y_iret d_Lw_pour_19 rfl rfl ?_
        exact fun w1 h1 => ⟨X9, ⟨_, rfl⟩, u2, hu, (z_I.same (z_I.nil _) h1).symm ▸ hI2⟩
  · obtain ⟨X9, h1, u2, hu, hI2⟩ := hx
    obtain ⟨v9, rfl⟩ := zriV h1
    refine yw_st (st2 := [.int v9, .int 0, .ref (ad 69)]) rfl ?_
    obtain ⟨s9, hI⟩ := hI2
    obtain ⟨e_o1, wf_o1, k_o1⟩ := hI.1.2 69 (by decide)
    obtain rfl := kd_69.mp k_o1
    refine y_base (cs := [((ad 69), .inl (3, 1, .inr (.inl (((mg (tK_Ip_pour X9 t u.1) s9).1 69).2.1))))]) (hI.1.I [69] _ rfl (by decide) (by decide) (List.forall_mem_cons.mpr ⟨wf_o1, (fun _ h => nomatch h)⟩)) ?_
    refine y_i2l d_Lw_pour_6 (v := v9.toInt64) rfl ?_
    refine y_last d_Lw_pour_7 (q0 := 0) rfl (fun q => q.elim (by decide) (by decide)) (f' := vp_updL (((mg (tK_Ip_pour X9 t u.1) s9).1 69).2.1) 0 v9.toInt64) rfl (cs' := [((ad 69), .inl (3, 1, .inr (.inl (vp_updL (((mg (tK_Ip_pour X9 t u.1) s9).1 69).2.1) 0 v9.toInt64))))]) rfl ?_
    refine y_goto (tgt := 20) d_Lw_pour_8 (by decide) ?_
    refine y_iconst d_Lw_pour_20 (v := 0) (by decide) ?_
    refine y_iret d_Lw_pour_21 rfl rfl ?_
    exact fun w1 h1 => ⟨X9, ⟨_, rfl⟩, u2, hu, IVm.tz ((hI.gen (t2 := (zup (mg (tK_Ip_pour X9 t u.1) s9).1 [(69, (((mg (tK_Ip_pour X9 t u.1) s9).1 69).1, vp_updL (((mg (tK_Ip_pour X9 t u.1) s9).1 69).2.1) 0 v9.toInt64, ((mg (tK_Ip_pour X9 t u.1) s9).1 69).2.2))], (mg (tK_Ip_pour X9 t u.1) s9).2)) (is := [69]) (L2 := []) h1 rfl ⟨kd_69.mpr rfl, trivial⟩ (by decide) (by decide) (fun _ h => nomatch h) (fun _ h => nomatch h) (fun i hi hn => zup_out (fun q => hn ((by decide : ∀ j ∈ ([69] : List Nat), j ∈ ([69] : List Nat)) i q))) (fun h => h) rfl)) (tx_all rfl)⟩
abbrev M_Lw_alloy : zM := (⟨"IronpourLaw", "alloy", "(LIronpour;I[J)I"⟩, method_34_code, 4, (Option.some FieldType.int), 8, 142, [((0 : Nat), (9 : Nat), (12 : Nat), (19 : Nat))])
theorem d_Lw_alloy_0 : decode method_34_code 0 = .ok (.aload_n 2, 1) := zo_44 (zd_b zq_method_34_code_0 0 rfl rfl rfl)
theorem d_Lw_alloy_1 : decode method_34_code 1 = .ok (.iconst 0, 1) := zo_3 (zd_b zq_method_34_code_0 1 rfl rfl rfl)
theorem d_Lw_alloy_2 : decode method_34_code 2 = .ok (.aload_n 0, 1) := zo_42 (zd_b zq_method_34_code_0 2 rfl rfl rfl)
theorem d_Lw_alloy_3 : decode method_34_code 3 = .ok (.iload_n 1, 1) := zo_27 (zd_b zq_method_34_code_0 3 rfl rfl rfl)
theorem d_Lw_alloy_4 : decode method_34_code 4 = .ok (.invokevirtual 124, 3) := zo_182 (d := 0) (e := 124) (zd_b zq_method_34_code_0 4 rfl rfl rfl) (zd_b zq_method_34_code_0 5 rfl rfl rfl) (zd_b zq_method_34_code_0 6 rfl rfl rfl)
theorem ok_Lw_alloy_Ip_alloy : z_okH M_Lw_alloy M_Ip_alloy 1 := ⟨z_mj6 (i := 189) rfl (by decide +kernel), rfl, ⟨by decide +kernel, by decide +kernel, by decide +kernel⟩, ⟨by decide, by decide⟩, z_mj1 (i := 1) rfl (by decide +kernel)⟩
theorem ln_Lw_124 : Cond.methodLink "IronpourLaw" 124 M_Ip_alloy.1 ∈ z_gw := z_mj6 (i := 186) rfl (by decide +kernel)
theorem w_im_Ip_alloy : Cond.instanceMethod M_Ip_alloy.1 ∈ z_gw := z_mj6 (i := 187) rfl (by decide +kernel)
theorem w_se_Ip_alloy : Cond.selects M_Ip_alloy.1.cls M_Ip_alloy.1 M_Ip_alloy.1 ∈ z_gw := z_mj6 (i := 188) rfl (by decide +kernel)
theorem d_Lw_alloy_12 : decode method_34_code 12 = .ok (.astore_n 3, 1) := zo_78 (zd_b zq_method_34_code_0 12 rfl rfl rfl)
theorem d_Lw_alloy_13 : decode method_34_code 13 = .ok (.iconst 1, 1) := zo_4 (zd_b zq_method_34_code_0 13 rfl rfl rfl)
theorem d_Lw_alloy_14 : decode method_34_code 14 = .ok (.ireturn, 1) := zo_172 (zd_b zq_method_34_code_0 14 rfl rfl rfl)
theorem d_Lw_alloy_7 : decode method_34_code 7 = .ok (.i2l, 1) := zo_133 (zd_b zq_method_34_code_0 7 rfl rfl rfl)
theorem d_Lw_alloy_8 : decode method_34_code 8 = .ok (.lastore, 1) := zo_80 (zd_b zq_method_34_code_0 8 rfl rfl rfl)
theorem d_Lw_alloy_9 : decode method_34_code 9 = .ok (.goto 6, 3) := zo_167 (d := 0) (e := 6) (zd_b zq_method_34_code_0 9 rfl rfl rfl) (zd_b zq_method_34_code_0 10 rfl rfl rfl) (zd_b zq_method_34_code_0 11 rfl rfl rfl) (by decide +kernel)
theorem d_Lw_alloy_15 : decode method_34_code 15 = .ok (.iconst 0, 1) := zo_3 (zd_b zq_method_34_code_0 15 rfl rfl rfl)
theorem d_Lw_alloy_16 : decode method_34_code 16 = .ok (.ireturn, 1) := zo_172 (zd_b zq_method_34_code_0 16 rfl rfl rfl)
set_option maxHeartbeats 4000000 in
set_option maxRecDepth 100000 in
theorem W_alloy {g : zG} {ad : Nat → Nat} {t : zTT} {u : zNN} {w : zW} (hI : IVm g ad t u w) (x : Int32) : zMB g M_Lw_alloy [.ref (ad 0), .int x, .ref (ad 69)] w (fun o w1 => MKx g ad t u.1 o w1) 10 300 := by
  obtain ⟨s, hI⟩ := hI
  obtain ⟨e_a, wf_a, k_a⟩ := hI.1.2 0 (by decide)
  obtain rfl := kd_0.mp k_a
  obtain ⟨e_o1, wf_o1, k_o1⟩ := hI.1.2 69 (by decide)
  obtain rfl := kd_69.mp k_o1
  refine y_ofH (by decide) (by decide) (Nat.le_of_ble_eq_true rfl) (y_base (cs := [((ad 0), .inr (11, [.ref (ad 1), .ref (ad 5), .ref (ad 18), .ref (ad 31), .ref (ad 32), .ref (ad 36), .ref (ad 42), .ref (ad 45), .ref (ad 47), .ref (ad 49), .ref (ad 50), .ref (ad 51)])), ((ad 69), .inl (3, 1, .inr (.inl (((mg t s).1 69).2.1))))]) (hI.1.I [0, 69] _ rfl (by decide) (by decide) (List.forall_mem_cons.mpr ⟨wf_a, (List.forall_mem_cons.mpr ⟨wf_o1, (fun _ h => nomatch h)⟩)⟩)) ?_)
  refine y_lvE (lv2 := [(0, .ref (ad 0)), (1, .int x), (2, .ref (ad 69))]) rfl ?_
  refine y_aload_n d_Lw_alloy_0 rfl 2 rfl ?_
  refine y_iconst d_Lw_alloy_1 (v := 0) (by decide) ?_
  refine y_aload_n d_Lw_alloy_2 rfl 0 rfl ?_
  refine y_iload_n d_Lw_alloy_3 rfl 1 rfl ?_
  refine yw_callVH (As := [.int x]) (rest := [.int 0, .ref (ad 69)]) (q0 := 0) rfl rfl ln_Lw_124 w_im_Ip_alloy w_se_Ip_alloy ok_Lw_alloy_Ip_alloy d_Lw_alloy_4 (fun wA hA => K_Ip_alloy ⟨_, (hI.gen (t2 := (mg t s)) (is := [0, 69]) (L2 := []) hA rfl ⟨kd_0.mpr rfl, kd_69.mpr rfl, trivial⟩ (by decide) (by decide) (fun _ h => nomatch h) (fun _ h => nomatch h) (fun _ _ _ => rfl) (fun h => h) rfl)⟩ x) rfl rfl (Nat.le_of_ble_eq_true rfl) (by omega) (by omega) (fun wA4 hA4 E wB4 hx => ?_) (fun wA4 hA4 v wB4 hx => ?_)
  · obtain ⟨h1, u2, hu, hI2⟩ := hx
    obtain rfl := List.mem_singleton.mp (zriE h1)
    refine ⟨"java/lang/IndexOutOfBoundsException", [], [], (0, 9, 12, 19), rfl, (fun z hz => nomatch hz), by decide, by decide, lx_Lw_19, ce_19, fun qx => ?_⟩
    refine y_base (cs := []) (z_I.nil wB4) ?_
    refine y_astore_n (lv' := [(3, .ref qx), (0, .ref (ad 0)), (1, .int x), (2, .ref (ad 69))]) d_Lw_alloy_12 rfl (by decide) rfl ?_
    refine y_iconst d_Lw_alloy_13 (v := 1) (by decide) ?_
    refine y_iret d_Lw_alloy_14 rfl rfl ?_
    exact fun w1 h1 => ⟨⟨_, rfl⟩, u2, hu, (z_I.same (z_I.nil _) h1).symm ▸ hI2⟩
  · obtain ⟨h1, u2, hu, hI2⟩ := hx
    obtain ⟨v9, rfl⟩ := zriV h1
    refine yw_st (st2 := [.int v9, .int 0, .ref (ad 69)]) rfl ?_
    obtain ⟨s9, hI⟩ := hI2
    obtain ⟨e_o1, wf_o1, k_o1⟩ := hI.1.2 69 (by decide)
    obtain rfl := kd_69.mp k_o1
    refine y_base (cs := [((ad 69), .inl (3, 1, .inr (.inl (((mg t s9).1 69).2.1))))]) (hI.1.I [69] _ rfl (by decide) (by decide) (List.forall_mem_cons.mpr ⟨wf_o1, (fun _ h => nomatch h)⟩)) ?_
    refine y_i2l d_Lw_alloy_7 (v := v9.toInt64) rfl ?_
    refine y_last d_Lw_alloy_8 (q0 := 0) rfl (fun q => q.elim (by decide) (by decide)) (f' := vp_updL (((mg t s9).1 69).2.1) 0 v9.toInt64) rfl (cs' := [((ad 69), .inl (3, 1, .inr (.inl (vp_updL (((mg t s9).1 69).2.1) 0 v9.toInt64))))]) rfl ?_
    refine y_goto (tgt := 15) d_Lw_alloy_9 (by decide) ?_
    refine y_iconst d_Lw_alloy_15 (v := 0) (by decide) ?_
    refine y_iret d_Lw_alloy_16 rfl rfl ?_
    exact fun w1 h1 => ⟨⟨_, rfl⟩, u2, hu, IVm.tz ((hI.gen (t2 := (zup (mg t s9).1 [(69, (((mg t s9).1 69).1, vp_updL (((mg t s9).1 69).2.1) 0 v9.toInt64, ((mg t s9).1 69).2.2))], (mg t s9).2)) (is := [69]) (L2 := []) h1 rfl ⟨kd_69.mpr rfl, trivial⟩ (by decide) (by decide) (fun _ h => nomatch h) (fun _ h => nomatch h) (fun i hi hn => zup_out (fun q => hn ((by decide : ∀ j ∈ ([69] : List Nat), j ∈ ([69] : List Nat)) i q))) (fun h => h) rfl)) (tx_all rfl)⟩
abbrev M_Lw_faults : zM := (⟨"IronpourLaw", "faults", "(LIronpour;I[J)I"⟩, method_35_code, 4, (Option.some FieldType.int), 8, 142, [((0 : Nat), (9 : Nat), (12 : Nat), (19 : Nat))])
theorem d_Lw_faults_0 : decode method_35_code 0 = .ok (.aload_n 2, 1) := zo_44 (zd_b zq_method_35_code_0 0 rfl rfl rfl)
theorem d_Lw_faults_1 : decode method_35_code 1 = .ok (.iconst 0, 1) := zo_3 (zd_b zq_method_35_code_0 1 rfl rfl rfl)
theorem d_Lw_faults_2 : decode method_35_code 2 = .ok (.aload_n 0, 1) := zo_42 (zd_b zq_method_35_code_0 2 rfl rfl rfl)
theorem d_Lw_faults_3 : decode method_35_code 3 = .ok (.iload_n 1, 1) := zo_27 (zd_b zq_method_35_code_0 3 rfl rfl rfl)
theorem d_Lw_faults_4 : decode method_35_code 4 = .ok (.invokevirtual 128, 3) := zo_182 (d := 0) (e := 128) (zd_b zq_method_35_code_0 4 rfl rfl rfl) (zd_b zq_method_35_code_0 5 rfl rfl rfl) (zd_b zq_method_35_code_0 6 rfl rfl rfl)
theorem ok_Lw_faults_Ip_faults : z_okH M_Lw_faults M_Ip_faults 1 := ⟨z_mj6 (i := 202) rfl (by decide +kernel), rfl, ⟨by decide +kernel, by decide +kernel, by decide +kernel⟩, ⟨by decide, by decide⟩, z_mj1 (i := 1) rfl (by decide +kernel)⟩
theorem ln_Lw_128 : Cond.methodLink "IronpourLaw" 128 M_Ip_faults.1 ∈ z_gw := z_mj6 (i := 199) rfl (by decide +kernel)
theorem w_im_Ip_faults : Cond.instanceMethod M_Ip_faults.1 ∈ z_gw := z_mj6 (i := 200) rfl (by decide +kernel)
theorem w_se_Ip_faults : Cond.selects M_Ip_faults.1.cls M_Ip_faults.1 M_Ip_faults.1 ∈ z_gw := z_mj6 (i := 201) rfl (by decide +kernel)
theorem d_Lw_faults_12 : decode method_35_code 12 = .ok (.astore_n 3, 1) := zo_78 (zd_b zq_method_35_code_0 12 rfl rfl rfl)
theorem d_Lw_faults_13 : decode method_35_code 13 = .ok (.iconst 1, 1) := zo_4 (zd_b zq_method_35_code_0 13 rfl rfl rfl)
theorem d_Lw_faults_14 : decode method_35_code 14 = .ok (.ireturn, 1) := zo_172 (zd_b zq_method_35_code_0 14 rfl rfl rfl)
theorem d_Lw_faults_7 : decode method_35_code 7 = .ok (.i2l, 1) := zo_133 (zd_b zq_method_35_code_0 7 rfl rfl rfl)
theorem d_Lw_faults_8 : decode method_35_code 8 = .ok (.lastore, 1) := zo_80 (zd_b zq_method_35_code_0 8 rfl rfl rfl)
theorem d_Lw_faults_9 : decode method_35_code 9 = .ok (.goto 6, 3) := zo_167 (d := 0) (e := 6) (zd_b zq_method_35_code_0 9 rfl rfl rfl) (zd_b zq_method_35_code_0 10 rfl rfl rfl) (zd_b zq_method_35_code_0 11 rfl rfl rfl) (by decide +kernel)
theorem d_Lw_faults_15 : decode method_35_code 15 = .ok (.iconst 0, 1) := zo_3 (zd_b zq_method_35_code_0 15 rfl rfl rfl)
theorem d_Lw_faults_16 : decode method_35_code 16 = .ok (.ireturn, 1) := zo_172 (zd_b zq_method_35_code_0 16 rfl rfl rfl)
set_option maxHeartbeats 4000000 in
set_option maxRecDepth 100000 in
theorem W_faults {g : zG} {ad : Nat → Nat} {t : zTT} {u : zNN} {w : zW} (hI : IVm g ad t u w) (x : Int32) : zMB g M_Lw_faults [.ref (ad 0), .int x, .ref (ad 69)] w (fun o w1 => MKx g ad t u.1 o w1) 10 300 := by
  obtain ⟨s, hI⟩ := hI
  obtain ⟨e_a, wf_a, k_a⟩ := hI.1.2 0 (by decide)
  obtain rfl := kd_0.mp k_a
  obtain ⟨e_o1, wf_o1, k_o1⟩ := hI.1.2 69 (by decide)
  obtain rfl := kd_69.mp k_o1
  refine y_ofH (by decide) (by decide) (Nat.le_of_ble_eq_true rfl) (y_base (cs := [((ad 0), .inr (11, [.ref (ad 1), .ref (ad 5), .ref (ad 18), .ref (ad 31), .ref (ad 32), .ref (ad 36), .ref (ad 42), .ref (ad 45), .ref (ad 47), .ref (ad 49), .ref (ad 50), .ref (ad 51)])), ((ad 69), .inl (3, 1, .inr (.inl (((mg t s).1 69).2.1))))]) (hI.1.I [0, 69] _ rfl (by decide) (by decide) (List.forall_mem_cons.mpr ⟨wf_a, (List.forall_mem_cons.mpr ⟨wf_o1, (fun _ h => nomatch h)⟩)⟩)) ?_)
  refine y_lvE (lv2 := [(0, .ref (ad 0)), (1, .int x), (2, .ref (ad 69))]) rfl ?_
  refine y_aload_n d_Lw_faults_0 rfl 2 rfl ?_
  refine y_iconst d_Lw_faults_1 (v := 0) (by decide) ?_
  refine y_aload_n d_Lw_faults_2 rfl 0 rfl ?_
  refine y_iload_n d_Lw_faults_3 rfl 1 rfl ?_
  refine yw_callVH (As := [.int x]) (rest := [.int 0, .ref (ad 69)]) (q0 := 0) rfl rfl ln_Lw_128 w_im_Ip_faults w_se_Ip_faults ok_Lw_faults_Ip_faults d_Lw_faults_4 (fun wA hA => K_Ip_faults ⟨_, (hI.gen (t2 := (mg t s)) (is := [0, 69]) (L2 := []) hA rfl ⟨kd_0.mpr rfl, kd_69.mpr rfl, trivial⟩ (by decide) (by decide) (fun _ h => nomatch h) (fun _ h => nomatch h) (fun _ _ _ => rfl) (fun h => h) rfl)⟩ x) rfl rfl (Nat.le_of_ble_eq_true rfl) (by omega) (by omega) (fun wA4 hA4 E wB4 hx => ?_) (fun wA4 hA4 v wB4 hx => ?_)
  · obtain ⟨h1, u2, hu, hI2⟩ := hx
    obtain rfl := List.mem_singleton.mp (zriE h1)
    refine ⟨"java/lang/IndexOutOfBoundsException", [], [], (0, 9, 12, 19), rfl, (fun z hz => nomatch hz), by decide, by decide, lx_Lw_19, ce_19, fun qx => ?_⟩
    refine y_base (cs := []) (z_I.nil wB4) ?_
    refine y_astore_n (lv' := [(3, .ref qx), (0, .ref (ad 0)), (1, .int x), (2, .ref (ad 69))]) d_Lw_faults_12 rfl (by decide) rfl ?_
    refine y_iconst d_Lw_faults_13 (v := 1) (by decide) ?_
    refine y_iret d_Lw_faults_14 rfl rfl ?_
    exact fun w1 h1 => ⟨⟨_, rfl⟩, u2, hu, (z_I.same (z_I.nil _) h1).symm ▸ hI2⟩
  · obtain ⟨h1, u2, hu, hI2⟩ := hx
    obtain ⟨v9, rfl⟩ := zriV h1
    refine yw_st (st2 := [.int v9, .int 0, .ref (ad 69)]) rfl ?_
    obtain ⟨s9, hI⟩ := hI2
    obtain ⟨e_o1, wf_o1, k_o1⟩ := hI.1.2 69 (by decide)
    obtain rfl := kd_69.mp k_o1
    refine y_base (cs := [((ad 69), .inl (3, 1, .inr (.inl (((mg t s9).1 69).2.1))))]) (hI.1.I [69] _ rfl (by decide) (by decide) (List.forall_mem_cons.mpr ⟨wf_o1, (fun _ h => nomatch h)⟩)) ?_
    refine y_i2l d_Lw_faults_7 (v := v9.toInt64) rfl ?_
    refine y_last d_Lw_faults_8 (q0 := 0) rfl (fun q => q.elim (by decide) (by decide)) (f' := vp_updL (((mg t s9).1 69).2.1) 0 v9.toInt64) rfl (cs' := [((ad 69), .inl (3, 1, .inr (.inl (vp_updL (((mg t s9).1 69).2.1) 0 v9.toInt64))))]) rfl ?_
    refine y_goto (tgt := 15) d_Lw_faults_9 (by decide) ?_
    refine y_iconst d_Lw_faults_15 (v := 0) (by decide) ?_
    refine y_iret d_Lw_faults_16 rfl rfl ?_
    exact fun w1 h1 => ⟨⟨_, rfl⟩, u2, hu, IVm.tz ((hI.gen (t2 := (zup (mg t s9).1 [(69, (((mg t s9).1 69).1, vp_updL (((mg t s9).1 69).2.1) 0 v9.toInt64, ((mg t s9).1 69).2.2))], (mg t s9).2)) (is := [69]) (L2 := []) h1 rfl ⟨kd_69.mpr rfl, trivial⟩ (by decide) (by decide) (fun _ h => nomatch h) (fun _ h => nomatch h) (fun i hi hn => zup_out (fun q => hn ((by decide : ∀ j ∈ ([69] : List Nat), j ∈ ([69] : List Nat)) i q))) (fun h => h) rfl)) (tx_all rfl)⟩
abbrev M_Lw_shrunkIn : zM := (⟨"IronpourLaw", "shrunkIn", "(LIronpour;I[J)I"⟩, method_36_code, 4, (Option.some FieldType.int), 8, 142, [((0 : Nat), (9 : Nat), (12 : Nat), (19 : Nat))])
theorem d_Lw_shrunkIn_0 : decode method_36_code 0 = .ok (.aload_n 2, 1) := zo_44 (zd_b zq_method_36_code_0 0 rfl rfl rfl)
theorem d_Lw_shrunkIn_1 : decode method_36_code 1 = .ok (.iconst 0, 1) := zo_3 (zd_b zq_method_36_code_0 1 rfl rfl rfl)
theorem d_Lw_shrunkIn_2 : decode method_36_code 2 = .ok (.aload_n 0, 1) := zo_42 (zd_b zq_method_36_code_0 2 rfl rfl rfl)
theorem d_Lw_shrunkIn_3 : decode method_36_code 3 = .ok (.iload_n 1, 1) := zo_27 (zd_b zq_method_36_code_0 3 rfl rfl rfl)
theorem d_Lw_shrunkIn_4 : decode method_36_code 4 = .ok (.invokevirtual 131, 3) := zo_182 (d := 0) (e := 131) (zd_b zq_method_36_code_0 4 rfl rfl rfl) (zd_b zq_method_36_code_0 5 rfl rfl rfl) (zd_b zq_method_36_code_0 6 rfl rfl rfl)
theorem ok_Lw_shrunkIn_Ip_shrunkIn : z_okH M_Lw_shrunkIn M_Ip_shrunkIn 1 := ⟨z_mj6 (i := 209) rfl (by decide +kernel), rfl, ⟨by decide +kernel, by decide +kernel, by decide +kernel⟩, ⟨by decide, by decide⟩, z_mj1 (i := 1) rfl (by decide +kernel)⟩
theorem ln_Lw_131 : Cond.methodLink "IronpourLaw" 131 M_Ip_shrunkIn.1 ∈ z_gw := z_mj6 (i := 206) rfl (by decide +kernel)
theorem w_im_Ip_shrunkIn : Cond.instanceMethod M_Ip_shrunkIn.1 ∈ z_gw := z_mj6 (i := 207) rfl (by decide +kernel)
theorem w_se_Ip_shrunkIn : Cond.selects M_Ip_shrunkIn.1.cls M_Ip_shrunkIn.1 M_Ip_shrunkIn.1 ∈ z_gw := z_mj6 (i := 208) rfl (by decide +kernel)
theorem d_Lw_shrunkIn_12 : decode method_36_code 12 = .ok (.astore_n 3, 1) := zo_78 (zd_b zq_method_36_code_0 12 rfl rfl rfl)
theorem d_Lw_shrunkIn_13 : decode method_36_code 13 = .ok (.iconst 1, 1) := zo_4 (zd_b zq_method_36_code_0 13 rfl rfl rfl)
theorem d_Lw_shrunkIn_14 : decode method_36_code 14 = .ok (.ireturn, 1) := zo_172 (zd_b zq_method_36_code_0 14 rfl rfl rfl)
theorem d_Lw_shrunkIn_7 : decode method_36_code 7 = .ok (.i2l, 1) := zo_133 (zd_b zq_method_36_code_0 7 rfl rfl rfl)
theorem d_Lw_shrunkIn_8 : decode method_36_code 8 = .ok (.lastore, 1) := zo_80 (zd_b zq_method_36_code_0 8 rfl rfl rfl)
theorem d_Lw_shrunkIn_9 : decode method_36_code 9 = .ok (.goto 6, 3) := zo_167 (d := 0) (e := 6) (zd_b zq_method_36_code_0 9 rfl rfl rfl) (zd_b zq_method_36_code_0 10 rfl rfl rfl) (zd_b zq_method_36_code_0 11 rfl rfl rfl) (by decide +kernel)
theorem d_Lw_shrunkIn_15 : decode method_36_code 15 = .ok (.iconst 0, 1) := zo_3 (zd_b zq_method_36_code_0 15 rfl rfl rfl)
theorem d_Lw_shrunkIn_16 : decode method_36_code 16 = .ok (.ireturn, 1) := zo_172 (zd_b zq_method_36_code_0 16 rfl rfl rfl)
set_option maxHeartbeats 4000000 in
set_option maxRecDepth 100000 in
theorem W_shrunkIn {g : zG} {ad : Nat → Nat} {t : zTT} {u : zNN} {w : zW} (hI : IVm g ad t u w) (x : Int32) : zMB g M_Lw_shrunkIn [.ref (ad 0), .int x, .ref (ad 69)] w (fun o w1 => MKx g ad t u.1 o w1) 10 300 := by
  obtain ⟨s, hI⟩ := hI
  obtain ⟨e_a, wf_a, k_a⟩ := hI.1.2 0 (by decide)
  obtain rfl := kd_0.mp k_a
  obtain ⟨e_o1, wf_o1, k_o1⟩ := hI.1.2 69 (by decide)
  obtain rfl := kd_69.mp k_o1
  refine y_ofH (by decide) (by decide) (Nat.le_of_ble_eq_true rfl) (y_base (cs := [((ad 0), .inr (11, [.ref (ad 1), .ref (ad 5), .ref (ad 18), .ref (ad 31), .ref (ad 32), .ref (ad 36), .ref (ad 42), .ref (ad 45), .ref (ad 47), .ref (ad 49), .ref (ad 50), .ref (ad 51)])), ((ad 69), .inl (3, 1, .inr (.inl (((mg t s).1 69).2.1))))]) (hI.1.I [0, 69] _ rfl (by decide) (by decide) (List.forall_mem_cons.mpr ⟨wf_a, (List.forall_mem_cons.mpr ⟨wf_o1, (fun _ h => nomatch h)⟩)⟩)) ?_)
  refine y_lvE (lv2 := [(0, .ref (ad 0)), (1, .int x), (2, .ref (ad 69))]) rfl ?_
  refine y_aload_n d_Lw_shrunkIn_0 rfl 2 rfl ?_
  refine y_iconst d_Lw_shrunkIn_1 (v := 0) (by decide) ?_
  refine y_aload_n d_Lw_shrunkIn_2 rfl 0 rfl ?_
  refine y_iload_n d_Lw_shrunkIn_3 rfl 1 rfl ?_
  refine yw_callVH (As := [.int x]) (rest := [.int 0, .ref (ad 69)]) (q0 := 0) rfl rfl ln_Lw_131 w_im_Ip_shrunkIn w_se_Ip_shrunkIn ok_Lw_shrunkIn_Ip_shrunkIn d_Lw_shrunkIn_4 (fun wA hA => K_Ip_shrunkIn ⟨_, (hI.gen (t2 := (mg t s)) (is := [0, 69]) (L2 := []) hA rfl ⟨kd_0.mpr rfl, kd_69.mpr rfl, trivial⟩ (by decide) (by decide) (fun _ h => nomatch h) (fun _ h => nomatch h) (fun _ _ _ => rfl) (fun h => h) rfl)⟩ x) rfl rfl (Nat.le_of_ble_eq_true rfl) (by omega) (by omega) (fun wA4 hA4 E wB4 hx => ?_) (fun wA4 hA4 v wB4 hx => ?_)
  · obtain ⟨h1, u2, hu, hI2⟩ := hx
    obtain rfl := List.mem_singleton.mp (zriE h1)
    refine ⟨"java/lang/IndexOutOfBoundsException", [], [], (0, 9, 12, 19), rfl, (fun z hz => nomatch hz), by decide, by decide, lx_Lw_19, ce_19, fun qx => ?_⟩
    refine y_base (cs := []) (z_I.nil wB4) ?_
    refine y_astore_n (lv' := [(3, .ref qx), (0, .ref (ad 0)), (1, .int x), (2, .ref (ad 69))]) d_Lw_shrunkIn_12 rfl (by decide) rfl ?_
    refine y_iconst d_Lw_shrunkIn_13 (v := 1) (by decide) ?_
    refine y_iret d_Lw_shrunkIn_14 rfl rfl ?_
    exact fun w1 h1 => ⟨⟨_, rfl⟩, u2, hu, (z_I.same (z_I.nil _) h1).symm ▸ hI2⟩
  · obtain ⟨h1, u2, hu, hI2⟩ := hx
    obtain ⟨v9, rfl⟩ := zriV h1
    refine yw_st (st2 := [.int v9, .int 0, .ref (ad 69)]) rfl ?_
    obtain ⟨s9, hI⟩ := hI2
    obtain ⟨e_o1, wf_o1, k_o1⟩ := hI.1.2 69 (by decide)
    obtain rfl := kd_69.mp k_o1
    refine y_base (cs := [((ad 69), .inl (3, 1, .inr (.inl (((mg t s9).1 69).2.1))))]) (hI.1.I [69] _ rfl (by decide) (by decide) (List.forall_mem_cons.mpr ⟨wf_o1, (fun _ h => nomatch h)⟩)) ?_
    refine y_i2l d_Lw_shrunkIn_7 (v := v9.toInt64) rfl ?_
    refine y_last d_Lw_shrunkIn_8 (q0 := 0) rfl (fun q => q.elim (by decide) (by decide)) (f' := vp_updL (((mg t s9).1 69).2.1) 0 v9.toInt64) rfl (cs' := [((ad 69), .inl (3, 1, .inr (.inl (vp_updL (((mg t s9).1 69).2.1) 0 v9.toInt64))))]) rfl ?_
    refine y_goto (tgt := 15) d_Lw_shrunkIn_9 (by decide) ?_
    refine y_iconst d_Lw_shrunkIn_15 (v := 0) (by decide) ?_
    refine y_iret d_Lw_shrunkIn_16 rfl rfl ?_
    exact fun w1 h1 => ⟨⟨_, rfl⟩, u2, hu, IVm.tz ((hI.gen (t2 := (zup (mg t s9).1 [(69, (((mg t s9).1 69).1, vp_updL (((mg t s9).1 69).2.1) 0 v9.toInt64, ((mg t s9).1 69).2.2))], (mg t s9).2)) (is := [69]) (L2 := []) h1 rfl ⟨kd_69.mpr rfl, trivial⟩ (by decide) (by decide) (fun _ h => nomatch h) (fun _ h => nomatch h) (fun i hi hn => zup_out (fun q => hn ((by decide : ∀ j ∈ ([69] : List Nat), j ∈ ([69] : List Nat)) i q))) (fun h => h) rfl)) (tx_all rfl)⟩
abbrev M_Lw_has : zM := (⟨"IronpourLaw", "has", "(LIronpour;IC[J)I"⟩, method_37_code, 5, (Option.some FieldType.int), 10, 223, [((0 : Nat), (10 : Nat), (13 : Nat), (19 : Nat)), ((0 : Nat), (10 : Nat), (17 : Nat), (13 : Nat))])
theorem d_Lw_has_0 : decode method_37_code 0 = .ok (.aload_n 3, 1) := zo_45 (zd_b zq_method_37_code_0 0 rfl rfl rfl)
theorem d_Lw_has_1 : decode method_37_code 1 = .ok (.iconst 0, 1) := zo_3 (zd_b zq_method_37_code_0 1 rfl rfl rfl)
theorem d_Lw_has_2 : decode method_37_code 2 = .ok (.aload_n 0, 1) := zo_42 (zd_b zq_method_37_code_0 2 rfl rfl rfl)
theorem d_Lw_has_3 : decode method_37_code 3 = .ok (.iload_n 1, 1) := zo_27 (zd_b zq_method_37_code_0 3 rfl rfl rfl)
theorem d_Lw_has_4 : decode method_37_code 4 = .ok (.iload_n 2, 1) := zo_28 (zd_b zq_method_37_code_0 4 rfl rfl rfl)
theorem d_Lw_has_5 : decode method_37_code 5 = .ok (.invokevirtual 134, 3) := zo_182 (d := 0) (e := 134) (zd_b zq_method_37_code_0 5 rfl rfl rfl) (zd_b zq_method_37_code_0 6 rfl rfl rfl) (zd_b zq_method_37_code_0 7 rfl rfl rfl)
theorem ok_Lw_has_Ip_has : z_okH M_Lw_has M_Ip_has 2 := ⟨z_mj6 (i := 216) rfl (by decide +kernel), rfl, ⟨by decide +kernel, by decide +kernel, by decide +kernel⟩, ⟨by decide, by decide⟩, z_mj1 (i := 1) rfl (by decide +kernel)⟩
theorem ln_Lw_134 : Cond.methodLink "IronpourLaw" 134 M_Ip_has.1 ∈ z_gw := z_mj6 (i := 213) rfl (by decide +kernel)
theorem w_im_Ip_has : Cond.instanceMethod M_Ip_has.1 ∈ z_gw := z_mj6 (i := 214) rfl (by decide +kernel)
theorem w_se_Ip_has : Cond.selects M_Ip_has.1.cls M_Ip_has.1 M_Ip_has.1 ∈ z_gw := z_mj6 (i := 215) rfl (by decide +kernel)
theorem d_Lw_has_13 : decode method_37_code 13 = .ok (.astore 4, 2) := zo_58 (d := 4) (zd_b zq_method_37_code_0 13 rfl rfl rfl) (zd_b zq_method_37_code_0 14 rfl rfl rfl)
theorem d_Lw_has_15 : decode method_37_code 15 = .ok (.iconst 1, 1) := zo_4 (zd_b zq_method_37_code_0 15 rfl rfl rfl)
theorem d_Lw_has_16 : decode method_37_code 16 = .ok (.ireturn, 1) := zo_172 (zd_b zq_method_37_code_0 16 rfl rfl rfl)
theorem d_Lw_has_17 : decode method_37_code 17 = .ok (.astore 4, 2) := zo_58 (d := 4) (zd_b zq_method_37_code_0 17 rfl rfl rfl) (zd_b zq_method_37_code_0 18 rfl rfl rfl)
theorem d_Lw_has_19 : decode method_37_code 19 = .ok (.iconst 2, 1) := zo_5 (zd_b zq_method_37_code_0 19 rfl rfl rfl)
theorem d_Lw_has_20 : decode method_37_code 20 = .ok (.ireturn, 1) := zo_172 (zd_b zq_method_37_code_0 20 rfl rfl rfl)
theorem d_Lw_has_8 : decode method_37_code 8 = .ok (.i2l, 1) := zo_133 (zd_b zq_method_37_code_0 8 rfl rfl rfl)
theorem d_Lw_has_9 : decode method_37_code 9 = .ok (.lastore, 1) := zo_80 (zd_b zq_method_37_code_0 9 rfl rfl rfl)
theorem d_Lw_has_10 : decode method_37_code 10 = .ok (.goto 11, 3) := zo_167 (d := 0) (e := 11) (zd_b zq_method_37_code_0 10 rfl rfl rfl) (zd_b zq_method_37_code_0 11 rfl rfl rfl) (zd_b zq_method_37_code_0 12 rfl rfl rfl) (by decide +kernel)
theorem d_Lw_has_21 : decode method_37_code 21 = .ok (.iconst 0, 1) := zo_3 (zd_b zq_method_37_code_0 21 rfl rfl rfl)
theorem d_Lw_has_22 : decode method_37_code 22 = .ok (.ireturn, 1) := zo_172 (zd_b zq_method_37_code_0 22 rfl rfl rfl)
set_option maxHeartbeats 4000000 in
set_option maxRecDepth 100000 in
theorem W_has {g : zG} {ad : Nat → Nat} {t : zTT} {u : zNN} {w : zW} (hI : IVm g ad t u w) (x c : Int32) : zMB g M_Lw_has [.ref (ad 0), .int x, .int c, .ref (ad 69)] w (fun o w1 => MKx g ad t u.1 o w1) 10 300 := by
  obtain ⟨s, hI⟩ := hI
  obtain ⟨e_a, wf_a, k_a⟩ := hI.1.2 0 (by decide)
  obtain rfl := kd_0.mp k_a
  obtain ⟨e_o1, wf_o1, k_o1⟩ := hI.1.2 69 (by decide)
  obtain rfl := kd_69.mp k_o1
  refine y_ofH (by decide) (by decide) (Nat.le_of_ble_eq_true rfl) (y_base (cs := [((ad 0), .inr (11, [.ref (ad 1), .ref (ad 5), .ref (ad 18), .ref (ad 31), .ref (ad 32), .ref (ad 36), .ref (ad 42), .ref (ad 45), .ref (ad 47), .ref (ad 49), .ref (ad 50), .ref (ad 51)])), ((ad 69), .inl (3, 1, .inr (.inl (((mg t s).1 69).2.1))))]) (hI.1.I [0, 69] _ rfl (by decide) (by decide) (List.forall_mem_cons.mpr ⟨wf_a, (List.forall_mem_cons.mpr ⟨wf_o1, (fun _ h => nomatch h)⟩)⟩)) ?_)
  refine y_lvE (lv2 := [(0, .ref (ad 0)), (1, .int x), (2, .int c), (3, .ref (ad 69))]) rfl ?_
  refine y_aload_n d_Lw_has_0 rfl 3 rfl ?_
  refine y_iconst d_Lw_has_1 (v := 0) (by decide) ?_
  refine y_aload_n d_Lw_has_2 rfl 0 rfl ?_
  refine y_iload_n d_Lw_has_3 rfl 1 rfl ?_
  refine y_iload_n d_Lw_has_4 rfl 2 rfl ?_
  refine yw_callVH (As := [.int x, .int c]) (rest := [.int 0, .ref (ad 69)]) (q0 := 0) rfl rfl ln_Lw_134 w_im_Ip_has w_se_Ip_has ok_Lw_has_Ip_has d_Lw_has_5 (fun wA hA => K_Ip_has ⟨_, (hI.gen (t2 := (mg t s)) (is := [0, 69]) (L2 := []) hA rfl ⟨kd_0.mpr rfl, kd_69.mpr rfl, trivial⟩ (by decide) (by decide) (fun _ h => nomatch h) (fun _ h => nomatch h) (fun _ _ _ => rfl) (fun h => h) rfl)⟩ x c) rfl rfl (Nat.le_of_ble_eq_true rfl) (by omega) (by omega) (fun wA5 hA5 E wB5 hx => ?_) (fun wA5 hA5 v wB5 hx => ?_)
  · obtain ⟨h1, u2, hu, hI2⟩ := hx
    rcases List.mem_cons.mp (zriE h1) with rfl | g2
    · refine ⟨"java/lang/IndexOutOfBoundsException", [], [(0, 10, 17, 13)], (0, 10, 13, 19), rfl, (fun z hz => nomatch hz), by decide, by decide, lx_Lw_19, ce_19, fun qx => ?_⟩
      refine y_base (cs := []) (z_I.nil wB5) ?_
      refine y_astore (lv' := [(4, .ref qx), (0, .ref (ad 0)), (1, .int x), (2, .int c), (3, .ref (ad 69))]) d_Lw_has_13 (by decide) rfl ?_
      refine y_iconst d_Lw_has_15 (v := 1) (by decide) ?_
      refine y_iret d_Lw_has_16 rfl rfl ?_
      exact fun w1 h1 => ⟨⟨_, rfl⟩, u2, hu, (z_I.same (z_I.nil _) h1).symm ▸ hI2⟩
    · obtain rfl := List.mem_singleton.mp g2
      refine ⟨"java/lang/IllegalArgumentException", [(0, 10, 13, 19)], [], (0, 10, 17, 13), rfl, (fun z hz => by simp only [List.mem_cons, List.not_mem_nil, or_false] at hz; rcases hz with rfl; exact Or.inr ⟨by decide, _, lx_Lw_19, by decide⟩), by decide, by decide, lx_Lw_13, ce_13, fun qx => ?_⟩
      refine y_base (cs := []) (z_I.nil wB5) ?_
      refine y_astore (lv' := [(4, .ref qx), (0, .ref (ad 0)), (1, .int x), (2, .int c), (3, .ref (ad 69))]) d_Lw_has_17 (by decide) rfl ?_
      refine y_iconst d_Lw_has_19 (v := 2) (by decide) ?_
      refine y_iret d_Lw_has_20 rfl rfl ?_
      exact fun w1 h1 => ⟨⟨_, rfl⟩, u2, hu, (z_I.same (z_I.nil _) h1).symm ▸ hI2⟩
  · obtain ⟨h1, u2, hu, hI2⟩ := hx
    obtain ⟨v9, rfl⟩ := zriV h1
    refine yw_st (st2 := [.int v9, .int 0, .ref (ad 69)]) rfl ?_
    obtain ⟨s9, hI⟩ := hI2
    obtain ⟨e_o1, wf_o1, k_o1⟩ := hI.1.2 69 (by decide)
    obtain rfl := kd_69.mp k_o1
    refine y_base (cs := [((ad 69), .inl (3, 1, .inr (.inl (((mg t s9).1 69).2.1))))]) (hI.1.I [69] _ rfl (by decide) (by decide) (List.forall_mem_cons.mpr ⟨wf_o1, (fun _ h => nomatch h)⟩)) ?_
    refine y_i2l d_Lw_has_8 (v := v9.toInt64) rfl ?_
    refine y_last d_Lw_has_9 (q0 := 0) rfl (fun q => q.elim (by decide) (by decide)) (f' := vp_updL (((mg t s9).1 69).2.1) 0 v9.toInt64) rfl (cs' := [((ad 69), .inl (3, 1, .inr (.inl (vp_updL (((mg t s9).1 69).2.1) 0 v9.toInt64))))]) rfl ?_
    refine y_goto (tgt := 21) d_Lw_has_10 (by decide) ?_
    refine y_iconst d_Lw_has_21 (v := 0) (by decide) ?_
    refine y_iret d_Lw_has_22 rfl rfl ?_
    exact fun w1 h1 => ⟨⟨_, rfl⟩, u2, hu, IVm.tz ((hI.gen (t2 := (zup (mg t s9).1 [(69, (((mg t s9).1 69).1, vp_updL (((mg t s9).1 69).2.1) 0 v9.toInt64, ((mg t s9).1 69).2.2))], (mg t s9).2)) (is := [69]) (L2 := []) h1 rfl ⟨kd_69.mpr rfl, trivial⟩ (by decide) (by decide) (fun _ h => nomatch h) (fun _ h => nomatch h) (fun i hi hn => zup_out (fun q => hn ((by decide : ∀ j ∈ ([69] : List Nat), j ∈ ([69] : List Nat)) i q))) (fun h => h) rfl)) (tx_all rfl)⟩
abbrev M_Lw_bar : zM := (⟨"IronpourLaw", "bar", "(LIronpour;I[J)I"⟩, method_38_code, 4, (Option.some FieldType.int), 8, 142, [((0 : Nat), (9 : Nat), (12 : Nat), (19 : Nat))])
theorem d_Lw_bar_0 : decode method_38_code 0 = .ok (.aload_n 2, 1) := zo_44 (zd_b zq_method_38_code_0 0 rfl rfl rfl)
theorem d_Lw_bar_1 : decode method_38_code 1 = .ok (.iconst 0, 1) := zo_3 (zd_b zq_method_38_code_0 1 rfl rfl rfl)
theorem d_Lw_bar_2 : decode method_38_code 2 = .ok (.aload_n 0, 1) := zo_42 (zd_b zq_method_38_code_0 2 rfl rfl rfl)
theorem d_Lw_bar_3 : decode method_38_code 3 = .ok (.iload_n 1, 1) := zo_27 (zd_b zq_method_38_code_0 3 rfl rfl rfl)
theorem d_Lw_bar_4 : decode method_38_code 4 = .ok (.invokevirtual 138, 3) := zo_182 (d := 0) (e := 138) (zd_b zq_method_38_code_0 4 rfl rfl rfl) (zd_b zq_method_38_code_0 5 rfl rfl rfl) (zd_b zq_method_38_code_0 6 rfl rfl rfl)
theorem ok_Lw_bar_Ip_bar : z_okH M_Lw_bar M_Ip_bar 1 := ⟨z_mj6 (i := 223) rfl (by decide +kernel), rfl, ⟨by decide +kernel, by decide +kernel, by decide +kernel⟩, ⟨by decide, by decide⟩, z_mj1 (i := 1) rfl (by decide +kernel)⟩
theorem ln_Lw_138 : Cond.methodLink "IronpourLaw" 138 M_Ip_bar.1 ∈ z_gw := z_mj6 (i := 220) rfl (by decide +kernel)
theorem w_im_Ip_bar : Cond.instanceMethod M_Ip_bar.1 ∈ z_gw := z_mj6 (i := 221) rfl (by decide +kernel)
theorem w_se_Ip_bar : Cond.selects M_Ip_bar.1.cls M_Ip_bar.1 M_Ip_bar.1 ∈ z_gw := z_mj6 (i := 222) rfl (by decide +kernel)
theorem d_Lw_bar_12 : decode method_38_code 12 = .ok (.astore_n 3, 1) := zo_78 (zd_b zq_method_38_code_0 12 rfl rfl rfl)
theorem d_Lw_bar_13 : decode method_38_code 13 = .ok (.iconst 1, 1) := zo_4 (zd_b zq_method_38_code_0 13 rfl rfl rfl)
theorem d_Lw_bar_14 : decode method_38_code 14 = .ok (.ireturn, 1) := zo_172 (zd_b zq_method_38_code_0 14 rfl rfl rfl)
theorem d_Lw_bar_7 : decode method_38_code 7 = .ok (.i2l, 1) := zo_133 (zd_b zq_method_38_code_0 7 rfl rfl rfl)
theorem d_Lw_bar_8 : decode method_38_code 8 = .ok (.lastore, 1) := zo_80 (zd_b zq_method_38_code_0 8 rfl rfl rfl)
theorem d_Lw_bar_9 : decode method_38_code 9 = .ok (.goto 6, 3) := zo_167 (d := 0) (e := 6) (zd_b zq_method_38_code_0 9 rfl rfl rfl) (zd_b zq_method_38_code_0 10 rfl rfl rfl) (zd_b zq_method_38_code_0 11 rfl rfl rfl) (by decide +kernel)
theorem d_Lw_bar_15 : decode method_38_code 15 = .ok (.iconst 0, 1) := zo_3 (zd_b zq_method_38_code_0 15 rfl rfl rfl)
theorem d_Lw_bar_16 : decode method_38_code 16 = .ok (.ireturn, 1) := zo_172 (zd_b zq_method_38_code_0 16 rfl rfl rfl)
set_option maxHeartbeats 4000000 in
set_option maxRecDepth 100000 in
theorem W_bar {g : zG} {ad : Nat → Nat} {t : zTT} {u : zNN} {w : zW} (hI : IVm g ad t u w) (x : Int32) : zMB g M_Lw_bar [.ref (ad 0), .int x, .ref (ad 69)] w (fun o w1 => MKx g ad t u.1 o w1) 10 300 := by
  obtain ⟨s, hI⟩ := hI
  obtain ⟨e_a, wf_a, k_a⟩ := hI.1.2 0 (by decide)
  obtain rfl := kd_0.mp k_a
  obtain ⟨e_o1, wf_o1, k_o1⟩ := hI.1.2 69 (by decide)
  obtain rfl := kd_69.mp k_o1
  refine y_ofH (by decide) (by decide) (Nat.le_of_ble_eq_true rfl) (y_base (cs := [((ad 0), .inr (11, [.ref (ad 1), .ref (ad 5), .ref (ad 18), .ref (ad 31), .ref (ad 32), .ref (ad 36), .ref (ad 42), .ref (ad 45), .ref (ad 47), .ref (ad 49), .ref (ad 50), .ref (ad 51)])), ((ad 69), .inl (3, 1, .inr (.inl (((mg t s).1 69).2.1))))]) (hI.1.I [0, 69] _ rfl (by decide) (by decide) (List.forall_mem_cons.mpr ⟨wf_a, (List.forall_mem_cons.mpr ⟨wf_o1, (fun _ h => nomatch h)⟩)⟩)) ?_)
  refine y_lvE (lv2 := [(0, .ref (ad 0)), (1, .int x), (2, .ref (ad 69))]) rfl ?_
  refine y_aload_n d_Lw_bar_0 rfl 2 rfl ?_
  refine y_iconst d_Lw_bar_1 (v := 0) (by decide) ?_
  refine y_aload_n d_Lw_bar_2 rfl 0 rfl ?_
  refine y_iload_n d_Lw_bar_3 rfl 1 rfl ?_
  refine yw_callVH (As := [.int x]) (rest := [.int 0, .ref (ad 69)]) (q0 := 0) rfl rfl ln_Lw_138 w_im_Ip_bar w_se_Ip_bar ok_Lw_bar_Ip_bar d_Lw_bar_4 (fun wA hA => K_Ip_bar ⟨_, (hI.gen (t2 := (mg t s)) (is := [0, 69]) (L2 := []) hA rfl ⟨kd_0.mpr rfl, kd_69.mpr rfl, trivial⟩ (by decide) (by decide) (fun _ h => nomatch h) (fun _ h => nomatch h) (fun _ _ _ => rfl) (fun h => h) rfl)⟩ x) rfl rfl (Nat.le_of_ble_eq_true rfl) (by omega) (by omega) (fun wA4 hA4 E wB4 hx => ?_) (fun wA4 hA4 v wB4 hx => ?_)
  · obtain ⟨h1, u2, hu, hI2⟩ := hx
    obtain rfl := List.mem_singleton.mp (zriE h1)
    refine ⟨"java/lang/IndexOutOfBoundsException", [], [], (0, 9, 12, 19), rfl, (fun z hz => nomatch hz), by decide, by decide, lx_Lw_19, ce_19, fun qx => ?_⟩
    refine y_base (cs := []) (z_I.nil wB4) ?_
    refine y_astore_n (lv' := [(3, .ref qx), (0, .ref (ad 0)), (1, .int x), (2, .ref (ad 69))]) d_Lw_bar_12 rfl (by decide) rfl ?_
    refine y_iconst d_Lw_bar_13 (v := 1) (by decide) ?_
    refine y_iret d_Lw_bar_14 rfl rfl ?_
    exact fun w1 h1 => ⟨⟨_, rfl⟩, u2, hu, (z_I.same (z_I.nil _) h1).symm ▸ hI2⟩
  · obtain ⟨h1, u2, hu, hI2⟩ := hx
    obtain ⟨v9, rfl⟩ := zriV h1
    refine yw_st (st2 := [.int v9, .int 0, .ref (ad 69)]) rfl ?_
    obtain ⟨s9, hI⟩ := hI2
    obtain ⟨e_o1, wf_o1, k_o1⟩ := hI.1.2 69 (by decide)
    obtain rfl := kd_69.mp k_o1
    refine y_base (cs := [((ad 69), .inl (3, 1, .inr (.inl (((mg t s9).1 69).2.1))))]) (hI.1.I [69] _ rfl (by decide) (by decide) (List.forall_mem_cons.mpr ⟨wf_o1, (fun _ h => nomatch h)⟩)) ?_
    refine y_i2l d_Lw_bar_7 (v := v9.toInt64) rfl ?_
    refine y_last d_Lw_bar_8 (q0 := 0) rfl (fun q => q.elim (by decide) (by decide)) (f' := vp_updL (((mg t s9).1 69).2.1) 0 v9.toInt64) rfl (cs' := [((ad 69), .inl (3, 1, .inr (.inl (vp_updL (((mg t s9).1 69).2.1) 0 v9.toInt64))))]) rfl ?_
    refine y_goto (tgt := 15) d_Lw_bar_9 (by decide) ?_
    refine y_iconst d_Lw_bar_15 (v := 0) (by decide) ?_
    refine y_iret d_Lw_bar_16 rfl rfl ?_
    exact fun w1 h1 => ⟨⟨_, rfl⟩, u2, hu, IVm.tz ((hI.gen (t2 := (zup (mg t s9).1 [(69, (((mg t s9).1 69).1, vp_updL (((mg t s9).1 69).2.1) 0 v9.toInt64, ((mg t s9).1 69).2.2))], (mg t s9).2)) (is := [69]) (L2 := []) h1 rfl ⟨kd_69.mpr rfl, trivial⟩ (by decide) (by decide) (fun _ h => nomatch h) (fun _ h => nomatch h) (fun i hi hn => zup_out (fun q => hn ((by decide : ∀ j ∈ ([69] : List Nat), j ∈ ([69] : List Nat)) i q))) (fun h => h) rfl)) (tx_all rfl)⟩
abbrev M_Lw_weld : zM := (⟨"IronpourLaw", "weld", "(LIronpour;I[J)I"⟩, method_39_code, 4, (Option.some FieldType.int), 8, 144, [((0 : Nat), (16 : Nat), (19 : Nat), (19 : Nat)), ((0 : Nat), (16 : Nat), (22 : Nat), (78 : Nat)), ((0 : Nat), (16 : Nat), (25 : Nat), (69 : Nat))])
theorem d_Lw_weld_0 : decode method_39_code 0 = .ok (.aload_n 2, 1) := zo_44 (zd_b zq_method_39_code_0 0 rfl rfl rfl)
theorem d_Lw_weld_1 : decode method_39_code 1 = .ok (.iconst 0, 1) := zo_3 (zd_b zq_method_39_code_0 1 rfl rfl rfl)
theorem d_Lw_weld_2 : decode method_39_code 2 = .ok (.aload_n 0, 1) := zo_42 (zd_b zq_method_39_code_0 2 rfl rfl rfl)
theorem d_Lw_weld_3 : decode method_39_code 3 = .ok (.iload_n 1, 1) := zo_27 (zd_b zq_method_39_code_0 3 rfl rfl rfl)
theorem d_Lw_weld_4 : decode method_39_code 4 = .ok (.invokevirtual 141, 3) := zo_182 (d := 0) (e := 141) (zd_b zq_method_39_code_0 4 rfl rfl rfl) (zd_b zq_method_39_code_0 5 rfl rfl rfl) (zd_b zq_method_39_code_0 6 rfl rfl rfl)
theorem ok_Lw_weld_Ip_weld : z_okH M_Lw_weld M_Ip_weld 1 := ⟨z_mj7 (i := 1) rfl (by decide +kernel), rfl, ⟨by decide +kernel, by decide +kernel, by decide +kernel⟩, ⟨by decide, by decide⟩, z_mj1 (i := 1) rfl (by decide +kernel)⟩
theorem ln_Lw_141 : Cond.methodLink "IronpourLaw" 141 M_Ip_weld.1 ∈ z_gw := z_mj6 (i := 238) rfl (by decide +kernel)
theorem w_im_Ip_weld : Cond.instanceMethod M_Ip_weld.1 ∈ z_gw := z_mj6 (i := 239) rfl (by decide +kernel)
theorem w_se_Ip_weld : Cond.selects M_Ip_weld.1.cls M_Ip_weld.1 M_Ip_weld.1 ∈ z_gw := z_mj7 (i := 0) rfl (by decide +kernel)
theorem d_Lw_weld_19 : decode method_39_code 19 = .ok (.astore_n 3, 1) := zo_78 (zd_b zq_method_39_code_0 19 rfl rfl rfl)
theorem d_Lw_weld_20 : decode method_39_code 20 = .ok (.iconst 1, 1) := zo_4 (zd_b zq_method_39_code_0 20 rfl rfl rfl)
theorem d_Lw_weld_21 : decode method_39_code 21 = .ok (.ireturn, 1) := zo_172 (zd_b zq_method_39_code_0 21 rfl rfl rfl)
theorem d_Lw_weld_22 : decode method_39_code 22 = .ok (.astore_n 3, 1) := zo_78 (zd_b zq_method_39_code_0 22 rfl rfl rfl)
theorem d_Lw_weld_23 : decode method_39_code 23 = .ok (.iconst 2, 1) := zo_5 (zd_b zq_method_39_code_0 23 rfl rfl rfl)
theorem d_Lw_weld_24 : decode method_39_code 24 = .ok (.ireturn, 1) := zo_172 (zd_b zq_method_39_code_0 24 rfl rfl rfl)
theorem d_Lw_weld_25 : decode method_39_code 25 = .ok (.astore_n 3, 1) := zo_78 (zd_b zq_method_39_code_0 25 rfl rfl rfl)
theorem d_Lw_weld_26 : decode method_39_code 26 = .ok (.iconst 3, 1) := zo_6 (zd_b zq_method_39_code_0 26 rfl rfl rfl)
theorem d_Lw_weld_27 : decode method_39_code 27 = .ok (.ireturn, 1) := zo_172 (zd_b zq_method_39_code_0 27 rfl rfl rfl)
theorem d_Lw_weld_7 : decode method_39_code 7 = .ok (.ifCond .eq 7, 3) := zo_153 (d := 0) (e := 7) (zd_b zq_method_39_code_0 7 rfl rfl rfl) (zd_b zq_method_39_code_0 8 rfl rfl rfl) (zd_b zq_method_39_code_0 9 rfl rfl rfl) (by decide +kernel)
theorem d_Lw_weld_14 : decode method_39_code 14 = .ok (.lconst 0, 1) := zo_9 (zd_b zq_method_39_code_0 14 rfl rfl rfl)
theorem d_Lw_weld_15 : decode method_39_code 15 = .ok (.lastore, 1) := zo_80 (zd_b zq_method_39_code_0 15 rfl rfl rfl)
theorem d_Lw_weld_16 : decode method_39_code 16 = .ok (.goto 12, 3) := zo_167 (d := 0) (e := 12) (zd_b zq_method_39_code_0 16 rfl rfl rfl) (zd_b zq_method_39_code_0 17 rfl rfl rfl) (zd_b zq_method_39_code_0 18 rfl rfl rfl) (by decide +kernel)
theorem d_Lw_weld_28 : decode method_39_code 28 = .ok (.iconst 0, 1) := zo_3 (zd_b zq_method_39_code_0 28 rfl rfl rfl)
theorem d_Lw_weld_29 : decode method_39_code 29 = .ok (.ireturn, 1) := zo_172 (zd_b zq_method_39_code_0 29 rfl rfl rfl)
theorem d_Lw_weld_10 : decode method_39_code 10 = .ok (.lconst 1, 1) := zo_10 (zd_b zq_method_39_code_0 10 rfl rfl rfl)
theorem d_Lw_weld_11 : decode method_39_code 11 = .ok (.goto 4, 3) := zo_167 (d := 0) (e := 4) (zd_b zq_method_39_code_0 11 rfl rfl rfl) (zd_b zq_method_39_code_0 12 rfl rfl rfl) (zd_b zq_method_39_code_0 13 rfl rfl rfl) (by decide +kernel)
set_option maxHeartbeats 4000000 in
set_option maxRecDepth 100000 in
theorem W_weld {g : zG} {ad : Nat → Nat} {t : zTT} {u : zNN} {w : zW} (hI : IVm g ad t u w) (x : Int32) : zMB g M_Lw_weld [.ref (ad 0), .int x, .ref (ad 69)] w (fun o w1 => MKx g ad (tK_Ip_weld x t u.1) u.1 o w1) 10 300 := by
  obtain ⟨s, hI⟩ := hI
  obtain ⟨e_a, wf_a, k_a⟩ := hI.1.2 0 (by decide)
  obtain rfl := kd_0.mp k_a
  obtain ⟨e_o1, wf_o1, k_o1⟩ := hI.1.2 69 (by decide)
  obtain rfl := kd_69.mp k_o1
  refine y_ofH (by decide) (by decide) (Nat.le_of_ble_eq_true rfl) (y_base (cs := [((ad 0), .inr (11, [.ref (ad 1), .ref (ad 5), .ref (ad 18), .ref (ad 31), .ref (ad 32), .ref (ad 36), .ref (ad 42), .ref (ad 45), .ref (ad 47), .ref (ad 49), .ref (ad 50), .ref (ad 51)])), ((ad 69), .inl (3, 1, .inr (.inl (((mg t s).1 69).2.1))))]) (hI.1.I [0, 69] _ rfl (by decide) (by decide) (List.forall_mem_cons.mpr ⟨wf_a, (List.forall_mem_cons.mpr ⟨wf_o1, (fun _ h => nomatch h)⟩)⟩)) ?_)
  refine y_lvE (lv2 := [(0, .ref (ad 0)), (1, .int x), (2, .ref (ad 69))]) rfl ?_
  refine y_aload_n d_Lw_weld_0 rfl 2 rfl ?_
  refine y_iconst d_Lw_weld_1 (v := 0) (by decide) ?_
  refine y_aload_n d_Lw_weld_2 rfl 0 rfl ?_
  refine y_iload_n d_Lw_weld_3 rfl 1 rfl ?_
  refine yw_callVH (As := [.int x]) (rest := [.int 0, .ref (ad 69)]) (q0 := 0) rfl rfl ln_Lw_141 w_im_Ip_weld w_se_Ip_weld ok_Lw_weld_Ip_weld d_Lw_weld_4 (fun wA hA => K_Ip_weld ⟨_, (hI.gen (t2 := (mg t s)) (is := [0, 69]) (L2 := []) hA rfl ⟨kd_0.mpr rfl, kd_69.mpr rfl, trivial⟩ (by decide) (by decide) (fun _ h => nomatch h) (fun _ h => nomatch h) (fun _ _ _ => rfl) (fun h => h) rfl)⟩ x) rfl rfl (Nat.le_of_ble_eq_true rfl) (by omega) (by omega) (fun wA4 hA4 E wB4 hx => ?_) (fun wA4 hA4 v wB4 hx => ?_)
  · obtain ⟨h1, u2, hu, hI2⟩ := hx
    rcases List.mem_cons.mp (zriE h1) with rfl | g3
    · refine ⟨"java/lang/IndexOutOfBoundsException", [], [(0, 16, 22, 78), (0, 16, 25, 69)], (0, 16, 19, 19), rfl, (fun z hz => nomatch hz), by decide, by decide, lx_Lw_19, ce_19, fun qx => ?_⟩
      refine y_base (cs := []) (z_I.nil wB4) ?_
      refine y_astore_n (lv' := [(3, .ref qx), (0, .ref (ad 0)), (1, .int x), (2, .ref (ad 69))]) d_Lw_weld_19 rfl (by decide) rfl ?_
      refine y_iconst d_Lw_weld_20 (v := 1) (by decide) ?_
      refine y_iret d_Lw_weld_21 rfl rfl ?_
      exact fun w1 h1 => ⟨⟨_, rfl⟩, u2, hu, (z_I.same (z_I.nil _) h1).symm ▸ hI2⟩
    · rcases List.mem_cons.mp g3 with rfl | g2
      · refine ⟨"java/lang/UnsupportedOperationException", [(0, 16, 19, 19)], [(0, 16, 25, 69)], (0, 16, 22, 78), rfl, (fun z hz => by simp only [List.mem_cons, List.not_mem_nil, or_false] at hz; rcases hz with rfl; exact Or.inr ⟨by decide, _, lx_Lw_19, by decide⟩), by decide, by decide, lx_Lw_78, ce_78, fun qx => ?_⟩
        refine y_base (cs := []) (z_I.nil wB4) ?_
        refine y_astore_n (lv' := [(3, .ref qx), (0, .ref (ad 0)), (1, .int x), (2, .ref (ad 69))]) d_Lw_weld_22 rfl (by decide) rfl ?_
        refine y_iconst d_Lw_weld_23 (v := 2) (by decide) ?_
        refine y_iret d_Lw_weld_24 rfl rfl ?_
        exact fun w1 h1 => ⟨⟨_, rfl⟩, u2, hu, (z_I.same (z_I.nil _) h1).symm ▸ hI2⟩
      · obtain rfl := List.mem_singleton.mp g2
        refine ⟨"java/lang/IllegalStateException", [(0, 16, 19, 19), (0, 16, 22, 78)], [], (0, 16, 25, 69), rfl, (fun z hz => by simp only [List.mem_cons, List.not_mem_nil, or_false] at hz; rcases hz with rfl | rfl <;> first | exact Or.inr ⟨by decide, _, lx_Lw_19, by decide⟩ | exact Or.inr ⟨by decide, _, lx_Lw_78, by decide⟩), by decide, by decide, lx_Lw_69, ce_69, fun qx => ?_⟩
        refine y_base (cs := []) (z_I.nil wB4) ?_
        refine y_astore_n (lv' := [(3, .ref qx), (0, .ref (ad 0)), (1, .int x), (2, .ref (ad 69))]) d_Lw_weld_25 rfl (by decide) rfl ?_
        refine y_iconst d_Lw_weld_26 (v := 3) (by decide) ?_
        refine y_iret d_Lw_weld_27 rfl rfl ?_
        exact fun w1 h1 => ⟨⟨_, rfl⟩, u2, hu, (z_I.same (z_I.nil _) h1).symm ▸ hI2⟩
  · obtain ⟨h1, u2, hu, hI2⟩ := hx
    obtain ⟨v9, rfl⟩ := zriV h1
    refine yw_st (st2 := [.int v9, .int 0, .ref (ad 69)]) rfl ?_
    obtain ⟨s9, hI⟩ := hI2
    obtain ⟨e_o1, wf_o1, k_o1⟩ := hI.1.2 69 (by decide)
    obtain rfl := kd_69.mp k_o1
    refine y_base (cs := [((ad 69), .inl (3, 1, .inr (.inl (((mg (tK_Ip_weld x t u.1) s9).1 69).2.1))))]) (hI.1.I [69] _ rfl (by decide) (by decide) (List.forall_mem_cons.mpr ⟨wf_o1, (fun _ h => nomatch h)⟩)) ?_
    refine y_if_eq (tgt := 14) d_Lw_weld_7 (by decide) (fun c_7 => ?_) (fun c_7 => ?_)
    · refine y_lconst d_Lw_weld_14 (v := 0) (by decide) ?_
      refine y_last d_Lw_weld_15 (q0 := 0) rfl (fun q => q.elim (by decide) (by decide)) (f' := vp_updL (((mg (tK_Ip_weld x t u.1) s9).1 69).2.1) 0 0) rfl (cs' := [((ad 69), .inl (3, 1, .inr (.inl (vp_updL (((mg (tK_Ip_weld x t u.1) s9).1 69).2.1) 0 0))))]) rfl ?_
      refine y_goto (tgt := 28) d_Lw_weld_16 (by decide) ?_
      refine y_iconst d_Lw_weld_28 (v := 0) (by decide) ?_
      refine y_iret d_Lw_weld_29 rfl rfl ?_
      exact fun w1 h1 => ⟨⟨_, rfl⟩, u2, hu, IVm.tz ((hI.gen (t2 := (zup (mg (tK_Ip_weld x t u.1) s9).1 [(69, (((mg (tK_Ip_weld x t u.1) s9).1 69).1, vp_updL (((mg (tK_Ip_weld x t u.1) s9).1 69).2.1) 0 0, ((mg (tK_Ip_weld x t u.1) s9).1 69).2.2))], (mg (tK_Ip_weld x t u.1) s9).2)) (is := [69]) (L2 := []) h1 rfl ⟨kd_69.mpr rfl, trivial⟩ (by decide) (by decide) (fun _ h => nomatch h) (fun _ h => nomatch h) (fun i hi hn => zup_out (fun q => hn ((by decide : ∀ j ∈ ([69] : List Nat), j ∈ ([69] : List Nat)) i q))) (fun h => h) rfl)) (tx_all rfl)⟩
    · refine y_lconst d_Lw_weld_10 (v := 1) (by decide) ?_
      refine y_goto (tgt := 15) d_Lw_weld_11 (by decide) ?_
      refine y_last d_Lw_weld_15 (q0 := 0) rfl (fun q => q.elim (by decide) (by decide)) (f' := vp_updL (((mg (tK_Ip_weld x t u.1) s9).1 69).2.1) 0 1) rfl (cs' := [((ad 69), .inl (3, 1, .inr (.inl (vp_updL (((mg (tK_Ip_weld x t u.1) s9).1 69).2.1) 0 1))))]) rfl ?_
      refine y_goto (tgt := 28) d_Lw_weld_16 (by decide) ?_
      refine y_iconst d_Lw_weld_28 (v := 0) (by decide) ?_
      refine y_iret d_Lw_weld_29 rfl rfl ?_
      exact fun w1 h1 => ⟨⟨_, rfl⟩, u2, hu, IVm.tz ((hI.gen (t2 := (zup (mg (tK_Ip_weld x t u.1) s9).1 [(69, (((mg (tK_Ip_weld x t u.1) s9).1 69).1, vp_updL (((mg (tK_Ip_weld x t u.1) s9).1 69).2.1) 0 1, ((mg (tK_Ip_weld x t u.1) s9).1 69).2.2))], (mg (tK_Ip_weld x t u.1) s9).2)) (is := [69]) (L2 := []) h1 rfl ⟨kd_69.mpr rfl, trivial⟩ (by decide) (by decide) (fun _ h => nomatch h) (fun _ h => nomatch h) (fun i hi hn => zup_out (fun q => hn ((by decide : ∀ j ∈ ([69] : List Nat), j ∈ ([69] : List Nat)) i q))) (fun h => h) rfl)) (tx_all rfl)⟩
abbrev M_Lw_deliver : zM := (⟨"IronpourLaw", "deliver", "(LIronpour;I[J)I"⟩, method_40_code, 4, (Option.some FieldType.int), 8, 143, [((0 : Nat), (16 : Nat), (19 : Nat), (19 : Nat)), ((0 : Nat), (16 : Nat), (22 : Nat), (69 : Nat))])
theorem d_Lw_deliver_0 : decode method_40_code 0 = .ok (.aload_n 2, 1) := zo_44 (zd_b zq_method_40_code_0 0 rfl rfl rfl)
theorem d_Lw_deliver_1 : decode method_40_code 1 = .ok (.iconst 0, 1) := zo_3 (zd_b zq_method_40_code_0 1 rfl rfl rfl)
theorem d_Lw_deliver_2 : decode method_40_code 2 = .ok (.aload_n 0, 1) := zo_42 (zd_b zq_method_40_code_0 2 rfl rfl rfl)
theorem d_Lw_deliver_3 : decode method_40_code 3 = .ok (.iload_n 1, 1) := zo_27 (zd_b zq_method_40_code_0 3 rfl rfl rfl)
theorem d_Lw_deliver_4 : decode method_40_code 4 = .ok (.invokevirtual 145, 3) := zo_182 (d := 0) (e := 145) (zd_b zq_method_40_code_0 4 rfl rfl rfl) (zd_b zq_method_40_code_0 5 rfl rfl rfl) (zd_b zq_method_40_code_0 6 rfl rfl rfl)
theorem ok_Lw_deliver_Ip_deliver : z_okH M_Lw_deliver M_Ip_deliver 1 := ⟨z_mj7 (i := 17) rfl (by decide +kernel), rfl, ⟨by decide +kernel, by decide +kernel, by decide +kernel⟩, ⟨by decide, by decide⟩, z_mj1 (i := 1) rfl (by decide +kernel)⟩
theorem ln_Lw_145 : Cond.methodLink "IronpourLaw" 145 M_Ip_deliver.1 ∈ z_gw := z_mj7 (i := 14) rfl (by decide +kernel)
theorem w_im_Ip_deliver : Cond.instanceMethod M_Ip_deliver.1 ∈ z_gw := z_mj7 (i := 15) rfl (by decide +kernel)
theorem w_se_Ip_deliver : Cond.selects M_Ip_deliver.1.cls M_Ip_deliver.1 M_Ip_deliver.1 ∈ z_gw := z_mj7 (i := 16) rfl (by decide +kernel)
theorem d_Lw_deliver_19 : decode method_40_code 19 = .ok (.astore_n 3, 1) := zo_78 (zd_b zq_method_40_code_0 19 rfl rfl rfl)
theorem d_Lw_deliver_20 : decode method_40_code 20 = .ok (.iconst 1, 1) := zo_4 (zd_b zq_method_40_code_0 20 rfl rfl rfl)
theorem d_Lw_deliver_21 : decode method_40_code 21 = .ok (.ireturn, 1) := zo_172 (zd_b zq_method_40_code_0 21 rfl rfl rfl)
theorem d_Lw_deliver_22 : decode method_40_code 22 = .ok (.astore_n 3, 1) := zo_78 (zd_b zq_method_40_code_0 22 rfl rfl rfl)
theorem d_Lw_deliver_23 : decode method_40_code 23 = .ok (.iconst 2, 1) := zo_5 (zd_b zq_method_40_code_0 23 rfl rfl rfl)
theorem d_Lw_deliver_24 : decode method_40_code 24 = .ok (.ireturn, 1) := zo_172 (zd_b zq_method_40_code_0 24 rfl rfl rfl)
theorem d_Lw_deliver_7 : decode method_40_code 7 = .ok (.ifCond .eq 7, 3) := zo_153 (d := 0) (e := 7) (zd_b zq_method_40_code_0 7 rfl rfl rfl) (zd_b zq_method_40_code_0 8 rfl rfl rfl) (zd_b zq_method_40_code_0 9 rfl rfl rfl) (by decide +kernel)
theorem d_Lw_deliver_14 : decode method_40_code 14 = .ok (.lconst 0, 1) := zo_9 (zd_b zq_method_40_code_0 14 rfl rfl rfl)
theorem d_Lw_deliver_15 : decode method_40_code 15 = .ok (.lastore, 1) := zo_80 (zd_b zq_method_40_code_0 15 rfl rfl rfl)
theorem d_Lw_deliver_16 : decode method_40_code 16 = .ok (.goto 9, 3) := zo_167 (d := 0) (e := 9) (zd_b zq_method_40_code_0 16 rfl rfl rfl) (zd_b zq_method_40_code_0 17 rfl rfl rfl) (zd_b zq_method_40_code_0 18 rfl rfl rfl) (by decide +kernel)
theorem d_Lw_deliver_25 : decode method_40_code 25 = .ok (.iconst 0, 1) := zo_3 (zd_b zq_method_40_code_0 25 rfl rfl rfl)
theorem d_Lw_deliver_26 : decode method_40_code 26 = .ok (.ireturn, 1) := zo_172 (zd_b zq_method_40_code_0 26 rfl rfl rfl)
theorem d_Lw_deliver_10 : decode method_40_code 10 = .ok (.lconst 1, 1) := zo_10 (zd_b zq_method_40_code_0 10 rfl rfl rfl)
theorem d_Lw_deliver_11 : decode method_40_code 11 = .ok (.goto 4, 3) := zo_167 (d := 0) (e := 4) (zd_b zq_method_40_code_0 11 rfl rfl rfl) (zd_b zq_method_40_code_0 12 rfl rfl rfl) (zd_b zq_method_40_code_0 13 rfl rfl rfl) (by decide +kernel)
set_option maxHeartbeats 4000000 in
set_option maxRecDepth 100000 in
theorem W_deliver {g : zG} {ad : Nat → Nat} {t : zTT} {u : zNN} {w : zW} (hI : IVm g ad t u w) (x : Int32) : zMB g M_Lw_deliver [.ref (ad 0), .int x, .ref (ad 69)] w (fun o w1 => MKx g ad (tK_Ip_deliver x t u.1) u.1 o w1) 10 300 := by
  obtain ⟨s, hI⟩ := hI
  obtain ⟨e_a, wf_a, k_a⟩ := hI.1.2 0 (by decide)
  obtain rfl := kd_0.mp k_a
  obtain ⟨e_o1, wf_o1, k_o1⟩ := hI.1.2 69 (by decide)
  obtain rfl := kd_69.mp k_o1
  refine y_ofH (by decide) (by decide) (Nat.le_of_ble_eq_true rfl) (y_base (cs := [((ad 0), .inr (11, [.ref (ad 1), .ref (ad 5), .ref (ad 18), .ref (ad 31), .ref (ad 32), .ref (ad 36), .ref (ad 42), .ref (ad 45), .ref (ad 47), .ref (ad 49), .ref (ad 50), .ref (ad 51)])), ((ad 69), .inl (3, 1, .inr (.inl (((mg t s).1 69).2.1))))]) (hI.1.I [0, 69] _ rfl (by decide) (by decide) (List.forall_mem_cons.mpr ⟨wf_a, (List.forall_mem_cons.mpr ⟨wf_o1, (fun _ h => nomatch h)⟩)⟩)) ?_)
  refine y_lvE (lv2 := [(0, .ref (ad 0)), (1, .int x), (2, .ref (ad 69))]) rfl ?_
  refine y_aload_n d_Lw_deliver_0 rfl 2 rfl ?_
  refine y_iconst d_Lw_deliver_1 (v := 0) (by decide) ?_
  refine y_aload_n d_Lw_deliver_2 rfl 0 rfl ?_
  refine y_iload_n d_Lw_deliver_3 rfl 1 rfl ?_
  refine yw_callVH (As := [.int x]) (rest := [.int 0, .ref (ad 69)]) (q0 := 0) rfl rfl ln_Lw_145 w_im_Ip_deliver w_se_Ip_deliver ok_Lw_deliver_Ip_deliver d_Lw_deliver_4 (fun wA hA => K_Ip_deliver ⟨_, (hI.gen (t2 := (mg t s)) (is := [0, 69]) (L2 := []) hA rfl ⟨kd_0.mpr rfl, kd_69.mpr rfl, trivial⟩ (by decide) (by decide) (fun _ h => nomatch h) (fun _ h => nomatch h) (fun _ _ _ => rfl) (fun h => h) rfl)⟩ x) rfl rfl (Nat.le_of_ble_eq_true rfl) (by omega) (by omega) (fun wA4 hA4 E wB4 hx => ?_) (fun wA4 hA4 v wB4 hx => ?_)
  · obtain ⟨h1, u2, hu, hI2⟩ := hx
    rcases List.mem_cons.mp (zriE h1) with rfl | g2
    · refine ⟨"java/lang/IndexOutOfBoundsException", [], [(0, 16, 22, 69)], (0, 16, 19, 19), rfl, (fun z hz => nomatch hz), by decide, by decide, lx_Lw_19, ce_19, fun qx => ?_⟩
      refine y_base (cs := []) (z_I.nil wB4) ?_
      refine y_astore_n (lv' := [(3, .ref qx), (0, .ref (ad 0)), (1, .int x), (2, .ref (ad 69))]) d_Lw_deliver_19 rfl (by decide) rfl ?_
      refine y_iconst d_Lw_deliver_20 (v := 1) (by decide) ?_
      refine y_iret d_Lw_deliver_21 rfl rfl ?_
      exact fun w1 h1 => ⟨⟨_, rfl⟩, u2, hu, (z_I.same (z_I.nil _) h1).symm ▸ hI2⟩
    · obtain rfl := List.mem_singleton.mp g2
      refine ⟨"java/lang/IllegalStateException", [(0, 16, 19, 19)], [], (0, 16, 22, 69), rfl, (fun z hz => by simp only [List.mem_cons, List.not_mem_nil, or_false] at hz; rcases hz with rfl; exact Or.inr ⟨by decide, _, lx_Lw_19, by decide⟩), by decide, by decide, lx_Lw_69, ce_69, fun qx => ?_⟩
      refine y_base (cs := []) (z_I.nil wB4) ?_
      refine y_astore_n (lv' := [(3, .ref qx), (0, .ref (ad 0)), (1, .int x), (2, .ref (ad 69))]) d_Lw_deliver_22 rfl (by decide) rfl ?_
      refine y_iconst d_Lw_deliver_23 (v := 2) (by decide) ?_
      refine y_iret d_Lw_deliver_24 rfl rfl ?_
      exact fun w1 h1 => ⟨⟨_, rfl⟩, u2, hu, (z_I.same (z_I.nil _) h1).symm ▸ hI2⟩
  · obtain ⟨h1, u2, hu, hI2⟩ := hx
    obtain ⟨v9, rfl⟩ := zriV h1
    refine yw_st (st2 := [.int v9, .int 0, .ref (ad 69)]) rfl ?_
    obtain ⟨s9, hI⟩ := hI2
    obtain ⟨e_o1, wf_o1, k_o1⟩ := hI.1.2 69 (by decide)
    obtain rfl := kd_69.mp k_o1
    refine y_base (cs := [((ad 69), .inl (3, 1, .inr (.inl (((mg (tK_Ip_deliver x t u.1) s9).1 69).2.1))))]) (hI.1.I [69] _ rfl (by decide) (by decide) (List.forall_mem_cons.mpr ⟨wf_o1, (fun _ h => nomatch h)⟩)) ?_
    refine y_if_eq (tgt := 14) d_Lw_deliver_7 (by decide) (fun c_7 => ?_) (fun c_7 => ?_)
    · refine y_lconst d_Lw_deliver_14 (v := 0) (by decide) ?_
      refine y_last d_Lw_deliver_15 (q0 := 0) rfl (fun q => q.elim (by decide) (by decide)) (f' := vp_updL (((mg (tK_Ip_deliver x t u.1) s9).1 69).2.1) 0 0) rfl (cs' := [((ad 69), .inl (3, 1, .inr (.inl (vp_updL (((mg (tK_Ip_deliver x t u.1) s9).1 69).2.1) 0 0))))]) rfl ?_
      refine y_goto (tgt := 25) d_Lw_deliver_16 (by decide) ?_
      refine y_iconst d_Lw_deliver_25 (v := 0) (by decide) ?_
      refine y_iret d_Lw_deliver_26 rfl rfl ?_
      exact fun w1 h1 => ⟨⟨_, rfl⟩, u2, hu, IVm.tz ((hI.gen (t2 := (zup (mg (tK_Ip_deliver x t u.1) s9).1 [(69, (((mg (tK_Ip_deliver x t u.1) s9).1 69).1, vp_updL (((mg (tK_Ip_deliver x t u.1) s9).1 69).2.1) 0 0, ((mg (tK_Ip_deliver x t u.1) s9).1 69).2.2))], (mg (tK_Ip_deliver x t u.1) s9).2)) (is := [69]) (L2 := []) h1 rfl ⟨kd_69.mpr rfl, trivial⟩ (by decide) (by decide) (fun _ h => nomatch h) (fun _ h => nomatch h) (fun i hi hn => zup_out (fun q => hn ((by decide : ∀ j ∈ ([69] : List Nat), j ∈ ([69] : List Nat)) i q))) (fun h => h) rfl)) (tx_all rfl)⟩
    · refine y_lconst d_Lw_deliver_10 (v := 1) (by decide) ?_
      refine y_goto (tgt := 15) d_Lw_deliver_11 (by decide) ?_
      refine y_last d_Lw_deliver_15 (q0 := 0) rfl (fun q => q.elim (by decide) (by decide)) (f' := vp_updL (((mg (tK_Ip_deliver x t u.1) s9).1 69).2.1) 0 1) rfl (cs' := [((ad 69), .inl (3, 1, .inr (.inl (vp_updL (((mg (tK_Ip_deliver x t u.1) s9).1 69).2.1) 0 1))))]) rfl ?_
      refine y_goto (tgt := 25) d_Lw_deliver_16 (by decide) ?_
      refine y_iconst d_Lw_deliver_25 (v := 0) (by decide) ?_
      refine y_iret d_Lw_deliver_26 rfl rfl ?_
      exact fun w1 h1 => ⟨⟨_, rfl⟩, u2, hu, IVm.tz ((hI.gen (t2 := (zup (mg (tK_Ip_deliver x t u.1) s9).1 [(69, (((mg (tK_Ip_deliver x t u.1) s9).1 69).1, vp_updL (((mg (tK_Ip_deliver x t u.1) s9).1 69).2.1) 0 1, ((mg (tK_Ip_deliver x t u.1) s9).1 69).2.2))], (mg (tK_Ip_deliver x t u.1) s9).2)) (is := [69]) (L2 := []) h1 rfl ⟨kd_69.mpr rfl, trivial⟩ (by decide) (by decide) (fun _ h => nomatch h) (fun _ h => nomatch h) (fun i hi hn => zup_out (fun q => hn ((by decide : ∀ j ∈ ([69] : List Nat), j ∈ ([69] : List Nat)) i q))) (fun h => h) rfl)) (tx_all rfl)⟩
abbrev M_Lw_breakUp : zM := (⟨"IronpourLaw", "breakUp", "(LIronpour;I[J)I"⟩, method_41_code, 4, (Option.some FieldType.int), 8, 144, [((0 : Nat), (9 : Nat), (12 : Nat), (19 : Nat)), ((0 : Nat), (9 : Nat), (15 : Nat), (69 : Nat))])
theorem d_Lw_breakUp_0 : decode method_41_code 0 = .ok (.aload_n 2, 1) := zo_44 (zd_b zq_method_41_code_0 0 rfl rfl rfl)
theorem d_Lw_breakUp_1 : decode method_41_code 1 = .ok (.iconst 0, 1) := zo_3 (zd_b zq_method_41_code_0 1 rfl rfl rfl)
theorem d_Lw_breakUp_2 : decode method_41_code 2 = .ok (.aload_n 0, 1) := zo_42 (zd_b zq_method_41_code_0 2 rfl rfl rfl)
theorem d_Lw_breakUp_3 : decode method_41_code 3 = .ok (.iload_n 1, 1) := zo_27 (zd_b zq_method_41_code_0 3 rfl rfl rfl)
theorem d_Lw_breakUp_4 : decode method_41_code 4 = .ok (.invokevirtual 148, 3) := zo_182 (d := 0) (e := 148) (zd_b zq_method_41_code_0 4 rfl rfl rfl) (zd_b zq_method_41_code_0 5 rfl rfl rfl) (zd_b zq_method_41_code_0 6 rfl rfl rfl)
theorem ok_Lw_breakUp_Ip_breakUp : z_okH M_Lw_breakUp M_Ip_breakUp 1 := ⟨z_mj7 (i := 24) rfl (by decide +kernel), rfl, ⟨by decide +kernel, by decide +kernel, by decide +kernel⟩, ⟨by decide, by decide⟩, z_mj1 (i := 1) rfl (by decide +kernel)⟩
theorem ln_Lw_148 : Cond.methodLink "IronpourLaw" 148 M_Ip_breakUp.1 ∈ z_gw := z_mj7 (i := 21) rfl (by decide +kernel)
theorem w_im_Ip_breakUp : Cond.instanceMethod M_Ip_breakUp.1 ∈ z_gw := z_mj7 (i := 22) rfl (by decide +kernel)
theorem w_se_Ip_breakUp : Cond.selects M_Ip_breakUp.1.cls M_Ip_breakUp.1 M_Ip_breakUp.1 ∈ z_gw := z_mj7 (i := 23) rfl (by decide +kernel)
theorem d_Lw_breakUp_12 : decode method_41_code 12 = .ok (.astore_n 3, 1) := zo_78 (zd_b zq_method_41_code_0 12 rfl rfl rfl)
theorem d_Lw_breakUp_13 : decode method_41_code 13 = .ok (.iconst 1, 1) := zo_4 (zd_b zq_method_41_code_0 13 rfl rfl rfl)
theorem d_Lw_breakUp_14 : decode method_41_code 14 = .ok (.ireturn, 1) := zo_172 (zd_b zq_method_41_code_0 14 rfl rfl rfl)
theorem d_Lw_breakUp_15 : decode method_41_code 15 = .ok (.astore_n 3, 1) := zo_78 (zd_b zq_method_41_code_0 15 rfl rfl rfl)
theorem d_Lw_breakUp_16 : decode method_41_code 16 = .ok (.iconst 2, 1) := zo_5 (zd_b zq_method_41_code_0 16 rfl rfl rfl)
theorem d_Lw_breakUp_17 : decode method_41_code 17 = .ok (.ireturn, 1) := zo_172 (zd_b zq_method_41_code_0 17 rfl rfl rfl)
theorem d_Lw_breakUp_7 : decode method_41_code 7 = .ok (.i2l, 1) := zo_133 (zd_b zq_method_41_code_0 7 rfl rfl rfl)
theorem d_Lw_breakUp_8 : decode method_41_code 8 = .ok (.lastore, 1) := zo_80 (zd_b zq_method_41_code_0 8 rfl rfl rfl)
theorem d_Lw_breakUp_9 : decode method_41_code 9 = .ok (.goto 9, 3) := zo_167 (d := 0) (e := 9) (zd_b zq_method_41_code_0 9 rfl rfl rfl) (zd_b zq_method_41_code_0 10 rfl rfl rfl) (zd_b zq_method_41_code_0 11 rfl rfl rfl) (by decide +kernel)
theorem d_Lw_breakUp_18 : decode method_41_code 18 = .ok (.iconst 0, 1) := zo_3 (zd_b zq_method_41_code_0 18 rfl rfl rfl)
theorem d_Lw_breakUp_19 : decode method_41_code 19 = .ok (.ireturn, 1) := zo_172 (zd_b zq_method_41_code_0 19 rfl rfl rfl)
set_option maxHeartbeats 4000000 in
set_option maxRecDepth 100000 in
theorem W_breakUp {g : zG} {ad : Nat → Nat} {t : zTT} {u : zNN} {w : zW} (hI : IVm g ad t u w) (x : Int32) : zMB g M_Lw_breakUp [.ref (ad 0), .int x, .ref (ad 69)] w (fun o w1 => MKx g ad (tK_Ip_breakUp x t u.1) u.1 o w1) 10 300 := by
  obtain ⟨s, hI⟩ := hI
  obtain ⟨e_a, wf_a, k_a⟩ := hI.1.2 0 (by decide)
  obtain rfl := kd_0.mp k_a
  obtain ⟨e_o1, wf_o1, k_o1⟩ := hI.1.2 69 (by decide)
  obtain rfl := kd_69.mp k_o1
  refine y_ofH (by decide) (by decide) (Nat.le_of_ble_eq_true rfl) (y_base (cs := [((ad 0), .inr (11, [.ref (ad 1), .ref (ad 5), .ref (ad 18), .ref (ad 31), .ref (ad 32), .ref (ad 36), .ref (ad 42), .ref (ad 45), .ref (ad 47), .ref (ad 49), .ref (ad 50), .ref (ad 51)])), ((ad 69), .inl (3, 1, .inr (.inl (((mg t s).1 69).2.1))))]) (hI.1.I [0, 69] _ rfl (by decide) (by decide) (List.forall_mem_cons.mpr ⟨wf_a, (List.forall_mem_cons.mpr ⟨wf_o1, (fun _ h => nomatch h)⟩)⟩)) ?_)
  refine y_lvE (lv2 := [(0, .ref (ad 0)), (1, .int x), (2, .ref (ad 69))]) rfl ?_
  refine y_aload_n d_Lw_breakUp_0 rfl 2 rfl ?_
  refine y_iconst d_Lw_breakUp_1 (v := 0) (by decide) ?_
  refine y_aload_n d_Lw_breakUp_2 rfl 0 rfl ?_
  refine y_iload_n d_Lw_breakUp_3 rfl 1 rfl ?_
  refine yw_callVH (As := [.int x]) (rest := [.int 0, .ref (ad 69)]) (q0 := 0) rfl rfl ln_Lw_148 w_im_Ip_breakUp w_se_Ip_breakUp ok_Lw_breakUp_Ip_breakUp d_Lw_breakUp_4 (fun wA hA => K_Ip_breakUp ⟨_, (hI.gen (t2 := (mg t s)) (is := [0, 69]) (L2 := []) hA rfl ⟨kd_0.mpr rfl, kd_69.mpr rfl, trivial⟩ (by decide) (by decide) (fun _ h => nomatch h) (fun _ h => nomatch h) (fun _ _ _ => rfl) (fun h => h) rfl)⟩ x) rfl rfl (Nat.le_of_ble_eq_true rfl) (by omega) (by omega) (fun wA4 hA4 E wB4 hx => ?_) (fun wA4 hA4 v wB4 hx => ?_)
  · obtain ⟨h1, u2, hu, hI2⟩ := hx
    rcases List.mem_cons.mp (zriE h1) with rfl | g2
    · refine ⟨"java/lang/IndexOutOfBoundsException", [], [(0, 9, 15, 69)], (0, 9, 12, 19), rfl, (fun z hz => nomatch hz), by decide, by decide, lx_Lw_19, ce_19, fun qx => ?_⟩
      refine y_base (cs := []) (z_I.nil wB4) ?_
      refine y_astore_n (lv' := [(3, .ref qx), (0, .ref (ad 0)), (1, .int x), (2, .ref (ad 69))]) d_Lw_breakUp_12 rfl (by decide) rfl ?_
      refine y_iconst d_Lw_breakUp_13 (v := 1) (by decide) ?_
      refine y_iret d_Lw_breakUp_14 rfl rfl ?_
      exact fun w1 h1 => ⟨⟨_, rfl⟩, u2, hu, (z_I.same (z_I.nil _) h1).symm ▸ hI2⟩
    · obtain rfl := List.mem_singleton.mp g2
      refine ⟨"java/lang/IllegalStateException", [(0, 9, 12, 19)], [], (0, 9, 15, 69), rfl, (fun z hz => by simp only [List.mem_cons, List.not_mem_nil, or_false] at hz; rcases hz with rfl; exact Or.inr ⟨by decide, _, lx_Lw_19, by decide⟩), by decide, by decide, lx_Lw_69, ce_69, fun qx => ?_⟩
      refine y_base (cs := []) (z_I.nil wB4) ?_
      refine y_astore_n (lv' := [(3, .ref qx), (0, .ref (ad 0)), (1, .int x), (2, .ref (ad 69))]) d_Lw_breakUp_15 rfl (by decide) rfl ?_
      refine y_iconst d_Lw_breakUp_16 (v := 2) (by decide) ?_
      refine y_iret d_Lw_breakUp_17 rfl rfl ?_
      exact fun w1 h1 => ⟨⟨_, rfl⟩, u2, hu, (z_I.same (z_I.nil _) h1).symm ▸ hI2⟩
  · obtain ⟨h1, u2, hu, hI2⟩ := hx
    obtain ⟨v9, rfl⟩ := zriV h1
    refine yw_st (st2 := [.int v9, .int 0, .ref (ad 69)]) rfl ?_
    obtain ⟨s9, hI⟩ := hI2
    obtain ⟨e_o1, wf_o1, k_o1⟩ := hI.1.2 69 (by decide)
    obtain rfl := kd_69.mp k_o1
    refine y_base (cs := [((ad 69), .inl (3, 1, .inr (.inl (((mg (tK_Ip_breakUp x t u.1) s9).1 69).2.1))))]) (hI.1.I [69] _ rfl (by decide) (by decide) (List.forall_mem_cons.mpr ⟨wf_o1, (fun _ h => nomatch h)⟩)) ?_
    refine y_i2l d_Lw_breakUp_7 (v := v9.toInt64) rfl ?_
    refine y_last d_Lw_breakUp_8 (q0 := 0) rfl (fun q => q.elim (by decide) (by decide)) (f' := vp_updL (((mg (tK_Ip_breakUp x t u.1) s9).1 69).2.1) 0 v9.toInt64) rfl (cs' := [((ad 69), .inl (3, 1, .inr (.inl (vp_updL (((mg (tK_Ip_breakUp x t u.1) s9).1 69).2.1) 0 v9.toInt64))))]) rfl ?_
    refine y_goto (tgt := 18) d_Lw_breakUp_9 (by decide) ?_
    refine y_iconst d_Lw_breakUp_18 (v := 0) (by decide) ?_
    refine y_iret d_Lw_breakUp_19 rfl rfl ?_
    exact fun w1 h1 => ⟨⟨_, rfl⟩, u2, hu, IVm.tz ((hI.gen (t2 := (zup (mg (tK_Ip_breakUp x t u.1) s9).1 [(69, (((mg (tK_Ip_breakUp x t u.1) s9).1 69).1, vp_updL (((mg (tK_Ip_breakUp x t u.1) s9).1 69).2.1) 0 v9.toInt64, ((mg (tK_Ip_breakUp x t u.1) s9).1 69).2.2))], (mg (tK_Ip_breakUp x t u.1) s9).2)) (is := [69]) (L2 := []) h1 rfl ⟨kd_69.mpr rfl, trivial⟩ (by decide) (by decide) (fun _ h => nomatch h) (fun _ h => nomatch h) (fun i hi hn => zup_out (fun q => hn ((by decide : ∀ j ∈ ([69] : List Nat), j ∈ ([69] : List Nat)) i q))) (fun h => h) rfl)) (tx_all rfl)⟩
abbrev M_Lw_worst : zM := (⟨"IronpourLaw", "worst", "(LIronpour;[J)I"⟩, method_42_code, 3, (Option.some FieldType.int), 7, 132, [((0 : Nat), (8 : Nat), (11 : Nat), (33 : Nat))])
theorem d_Lw_worst_0 : decode method_42_code 0 = .ok (.aload_n 1, 1) := zo_43 (zd_b zq_method_42_code_0 0 rfl rfl rfl)
theorem d_Lw_worst_1 : decode method_42_code 1 = .ok (.iconst 0, 1) := zo_3 (zd_b zq_method_42_code_0 1 rfl rfl rfl)
theorem d_Lw_worst_2 : decode method_42_code 2 = .ok (.aload_n 0, 1) := zo_42 (zd_b zq_method_42_code_0 2 rfl rfl rfl)
theorem d_Lw_worst_3 : decode method_42_code 3 = .ok (.invokevirtual 151, 3) := zo_182 (d := 0) (e := 151) (zd_b zq_method_42_code_0 3 rfl rfl rfl) (zd_b zq_method_42_code_0 4 rfl rfl rfl) (zd_b zq_method_42_code_0 5 rfl rfl rfl)
theorem ok_Lw_worst_Ip_worst : z_okH M_Lw_worst M_Ip_worst 0 := ⟨z_mj7 (i := 35) rfl (by decide +kernel), rfl, ⟨by decide +kernel, by decide +kernel, by decide +kernel⟩, ⟨by decide, by decide⟩, z_mj1 (i := 1) rfl (by decide +kernel)⟩
theorem ln_Lw_151 : Cond.methodLink "IronpourLaw" 151 M_Ip_worst.1 ∈ z_gw := z_mj7 (i := 32) rfl (by decide +kernel)
theorem w_im_Ip_worst : Cond.instanceMethod M_Ip_worst.1 ∈ z_gw := z_mj7 (i := 33) rfl (by decide +kernel)
theorem w_se_Ip_worst : Cond.selects M_Ip_worst.1.cls M_Ip_worst.1 M_Ip_worst.1 ∈ z_gw := z_mj7 (i := 34) rfl (by decide +kernel)
theorem d_Lw_worst_11 : decode method_42_code 11 = .ok (.astore_n 2, 1) := zo_77 (zd_b zq_method_42_code_0 11 rfl rfl rfl)
theorem d_Lw_worst_12 : decode method_42_code 12 = .ok (.iconst 1, 1) := zo_4 (zd_b zq_method_42_code_0 12 rfl rfl rfl)
theorem d_Lw_worst_13 : decode method_42_code 13 = .ok (.ireturn, 1) := zo_172 (zd_b zq_method_42_code_0 13 rfl rfl rfl)
theorem d_Lw_worst_6 : decode method_42_code 6 = .ok (.i2l, 1) := zo_133 (zd_b zq_method_42_code_0 6 rfl rfl rfl)
theorem d_Lw_worst_7 : decode method_42_code 7 = .ok (.lastore, 1) := zo_80 (zd_b zq_method_42_code_0 7 rfl rfl rfl)
theorem d_Lw_worst_8 : decode method_42_code 8 = .ok (.goto 6, 3) := zo_167 (d := 0) (e := 6) (zd_b zq_method_42_code_0 8 rfl rfl rfl) (zd_b zq_method_42_code_0 9 rfl rfl rfl) (zd_b zq_method_42_code_0 10 rfl rfl rfl) (by decide +kernel)
theorem d_Lw_worst_14 : decode method_42_code 14 = .ok (.iconst 0, 1) := zo_3 (zd_b zq_method_42_code_0 14 rfl rfl rfl)
theorem d_Lw_worst_15 : decode method_42_code 15 = .ok (.ireturn, 1) := zo_172 (zd_b zq_method_42_code_0 15 rfl rfl rfl)
set_option maxHeartbeats 4000000 in
set_option maxRecDepth 100000 in
theorem W_worst {g : zG} {ad : Nat → Nat} {t : zTT} {u : zNN} {w : zW} (hI : IVm g ad t u w) : zMB g M_Lw_worst [.ref (ad 0), .ref (ad 69)] w (fun o w1 => MKx g ad t u.1 o w1) 10 300 := by
  obtain ⟨s, hI⟩ := hI
  obtain ⟨e_a, wf_a, k_a⟩ := hI.1.2 0 (by decide)
  obtain rfl := kd_0.mp k_a
  obtain ⟨e_o1, wf_o1, k_o1⟩ := hI.1.2 69 (by decide)
  obtain rfl := kd_69.mp k_o1
  refine y_ofH (by decide) (by decide) (Nat.le_of_ble_eq_true rfl) (y_base (cs := [((ad 0), .inr (11, [.ref (ad 1), .ref (ad 5), .ref (ad 18), .ref (ad 31), .ref (ad 32), .ref (ad 36), .ref (ad 42), .ref (ad 45), .ref (ad 47), .ref (ad 49), .ref (ad 50), .ref (ad 51)])), ((ad 69), .inl (3, 1, .inr (.inl (((mg t s).1 69).2.1))))]) (hI.1.I [0, 69] _ rfl (by decide) (by decide) (List.forall_mem_cons.mpr ⟨wf_a, (List.forall_mem_cons.mpr ⟨wf_o1, (fun _ h => nomatch h)⟩)⟩)) ?_)
  refine y_lvE (lv2 := [(0, .ref (ad 0)), (1, .ref (ad 69))]) rfl ?_
  refine y_aload_n d_Lw_worst_0 rfl 1 rfl ?_
  refine y_iconst d_Lw_worst_1 (v := 0) (by decide) ?_
  refine y_aload_n d_Lw_worst_2 rfl 0 rfl ?_
  refine yw_callVH (As := []) (rest := [.int 0, .ref (ad 69)]) (q0 := 0) rfl rfl ln_Lw_151 w_im_Ip_worst w_se_Ip_worst ok_Lw_worst_Ip_worst d_Lw_worst_3 (fun wA hA => K_Ip_worst ⟨_, (hI.gen (t2 := (mg t s)) (is := [0, 69]) (L2 := []) hA rfl ⟨kd_0.mpr rfl, kd_69.mpr rfl, trivial⟩ (by decide) (by decide) (fun _ h => nomatch h) (fun _ h => nomatch h) (fun _ _ _ => rfl) (fun h => h) rfl)⟩) rfl rfl (Nat.le_of_ble_eq_true rfl) (by omega) (by omega) (fun wA3 hA3 E wB3 hx => ?_) (fun wA3 hA3 v wB3 hx => ?_)
  · obtain ⟨h1, u2, hu, hI2⟩ := hx
    obtain rfl := List.mem_singleton.mp (zriE h1)
    refine ⟨"java/util/NoSuchElementException", [], [], (0, 8, 11, 33), rfl, (fun z hz => nomatch hz), by decide, by decide, lx_Lw_33, ce_33, fun qx => ?_⟩
    refine y_base (cs := []) (z_I.nil wB3) ?_
    refine y_astore_n (lv' := [(2, .ref qx), (0, .ref (ad 0)), (1, .ref (ad 69))]) d_Lw_worst_11 rfl (by decide) rfl ?_
    refine y_iconst d_Lw_worst_12 (v := 1) (by decide) ?_
    refine y_iret d_Lw_worst_13 rfl rfl ?_
    exact fun w1 h1 => ⟨⟨_, rfl⟩, u2, hu, (z_I.same (z_I.nil _) h1).symm ▸ hI2⟩
  · obtain ⟨h1, u2, hu, hI2⟩ := hx
    obtain ⟨v9, rfl⟩ := zriV h1
    refine yw_st (st2 := [.int v9, .int 0, .ref (ad 69)]) rfl ?_
    obtain ⟨s9, hI⟩ := hI2
    obtain ⟨e_o1, wf_o1, k_o1⟩ := hI.1.2 69 (by decide)
    obtain rfl := kd_69.mp k_o1
    refine y_base (cs := [((ad 69), .inl (3, 1, .inr (.inl (((mg t s9).1 69).2.1))))]) (hI.1.I [69] _ rfl (by decide) (by decide) (List.forall_mem_cons.mpr ⟨wf_o1, (fun _ h => nomatch h)⟩)) ?_
    refine y_i2l d_Lw_worst_6 (v := v9.toInt64) rfl ?_
    refine y_last d_Lw_worst_7 (q0 := 0) rfl (fun q => q.elim (by decide) (by decide)) (f' := vp_updL (((mg t s9).1 69).2.1) 0 v9.toInt64) rfl (cs' := [((ad 69), .inl (3, 1, .inr (.inl (vp_updL (((mg t s9).1 69).2.1) 0 v9.toInt64))))]) rfl ?_
    refine y_goto (tgt := 14) d_Lw_worst_8 (by decide) ?_
    refine y_iconst d_Lw_worst_14 (v := 0) (by decide) ?_
    refine y_iret d_Lw_worst_15 rfl rfl ?_
    exact fun w1 h1 => ⟨⟨_, rfl⟩, u2, hu, IVm.tz ((hI.gen (t2 := (zup (mg t s9).1 [(69, (((mg t s9).1 69).1, vp_updL (((mg t s9).1 69).2.1) 0 v9.toInt64, ((mg t s9).1 69).2.2))], (mg t s9).2)) (is := [69]) (L2 := []) h1 rfl ⟨kd_69.mpr rfl, trivial⟩ (by decide) (by decide) (fun _ h => nomatch h) (fun _ h => nomatch h) (fun i hi hn => zup_out (fun q => hn ((by decide : ∀ j ∈ ([69] : List Nat), j ∈ ([69] : List Nat)) i q))) (fun h => h) rfl)) (tx_all rfl)⟩
abbrev M_Lw_goodShare : zM := (⟨"IronpourLaw", "goodShare", "(LIronpour;[D)I"⟩, method_43_code, 3, (Option.some FieldType.int), 7, 131, [((0 : Nat), (8 : Nat), (11 : Nat), (159 : Nat))])
theorem d_Lw_goodShare_0 : decode method_43_code 0 = .ok (.aload_n 1, 1) := zo_43 (zd_b zq_method_43_code_0 0 rfl rfl rfl)
theorem d_Lw_goodShare_1 : decode method_43_code 1 = .ok (.iconst 0, 1) := zo_3 (zd_b zq_method_43_code_0 1 rfl rfl rfl)
theorem d_Lw_goodShare_2 : decode method_43_code 2 = .ok (.aload_n 0, 1) := zo_42 (zd_b zq_method_43_code_0 2 rfl rfl rfl)
theorem d_Lw_goodShare_3 : decode method_43_code 3 = .ok (.invokevirtual 155, 3) := zo_182 (d := 0) (e := 155) (zd_b zq_method_43_code_0 3 rfl rfl rfl) (zd_b zq_method_43_code_0 4 rfl rfl rfl) (zd_b zq_method_43_code_0 5 rfl rfl rfl)
theorem ok_Lw_goodShare_Ip_goodShare : z_okH M_Lw_goodShare M_Ip_goodShare 0 := ⟨z_mj7 (i := 62) rfl (by decide +kernel), rfl, ⟨by decide +kernel, by decide +kernel, by decide +kernel⟩, ⟨by decide, by decide⟩, z_mj1 (i := 1) rfl (by decide +kernel)⟩
theorem ln_Lw_155 : Cond.methodLink "IronpourLaw" 155 M_Ip_goodShare.1 ∈ z_gw := z_mj7 (i := 59) rfl (by decide +kernel)
theorem w_im_Ip_goodShare : Cond.instanceMethod M_Ip_goodShare.1 ∈ z_gw := z_mj7 (i := 60) rfl (by decide +kernel)
theorem w_se_Ip_goodShare : Cond.selects M_Ip_goodShare.1.cls M_Ip_goodShare.1 M_Ip_goodShare.1 ∈ z_gw := z_mj7 (i := 61) rfl (by decide +kernel)
theorem ce_159 : Cond.castable "java/lang/ArithmeticException" "java/lang/ArithmeticException" ∈ z_nw := z_mk7 (i := 57) rfl (by decide +kernel)
theorem lx_Lw_159 : Cond.classLink "IronpourLaw" 159 "java/lang/ArithmeticException" ∈ z_gw := z_mj7 (i := 45) rfl (by decide +kernel)
theorem d_Lw_goodShare_11 : decode method_43_code 11 = .ok (.astore_n 2, 1) := zo_77 (zd_b zq_method_43_code_0 11 rfl rfl rfl)
theorem d_Lw_goodShare_12 : decode method_43_code 12 = .ok (.iconst 1, 1) := zo_4 (zd_b zq_method_43_code_0 12 rfl rfl rfl)
theorem d_Lw_goodShare_13 : decode method_43_code 13 = .ok (.ireturn, 1) := zo_172 (zd_b zq_method_43_code_0 13 rfl rfl rfl)
theorem d_Lw_goodShare_6 : decode method_43_code 6 = .ok (.f2d, 1) := zo_141 (zd_b zq_method_43_code_0 6 rfl rfl rfl)
theorem d_Lw_goodShare_7 : decode method_43_code 7 = .ok (.dastore, 1) := zo_82 (zd_b zq_method_43_code_0 7 rfl rfl rfl)
theorem d_Lw_goodShare_8 : decode method_43_code 8 = .ok (.goto 6, 3) := zo_167 (d := 0) (e := 6) (zd_b zq_method_43_code_0 8 rfl rfl rfl) (zd_b zq_method_43_code_0 9 rfl rfl rfl) (zd_b zq_method_43_code_0 10 rfl rfl rfl) (by decide +kernel)
theorem d_Lw_goodShare_14 : decode method_43_code 14 = .ok (.iconst 0, 1) := zo_3 (zd_b zq_method_43_code_0 14 rfl rfl rfl)
theorem d_Lw_goodShare_15 : decode method_43_code 15 = .ok (.ireturn, 1) := zo_172 (zd_b zq_method_43_code_0 15 rfl rfl rfl)
set_option maxHeartbeats 4000000 in
set_option maxRecDepth 100000 in
theorem W_goodShare {g : zG} {ad : Nat → Nat} {t : zTT} {u : zNN} {w : zW} (hI : IVm g ad t u w) : zMB g M_Lw_goodShare [.ref (ad 0), .ref (ad 70)] w (fun o w1 => (∃ v : Int32, o = .inl (some (.int v))) ∧ IVm g ad t u w1) 10 300 := by
  obtain ⟨s, hI⟩ := hI
  obtain ⟨e_a, wf_a, k_a⟩ := hI.1.2 0 (by decide)
  obtain rfl := kd_0.mp k_a
  obtain ⟨e_o2, wf_o2, k_o2⟩ := hI.1.2 70 (by decide)
  obtain ⟨v_o2_f, rfl⟩ := kd_70.mp k_o2
  refine y_ofH (by decide) (by decide) (Nat.le_of_ble_eq_true rfl) (y_base (cs := [((ad 0), .inr (11, [.ref (ad 1), .ref (ad 5), .ref (ad 18), .ref (ad 31), .ref (ad 32), .ref (ad 36), .ref (ad 42), .ref (ad 45), .ref (ad 47), .ref (ad 49), .ref (ad 50), .ref (ad 51)])), ((ad 70), .inl (4, 1, .inr (.inr (.inr (.inl v_o2_f)))))]) (hI.1.I [0, 70] _ rfl (by decide) (by decide) (List.forall_mem_cons.mpr ⟨wf_a, (List.forall_mem_cons.mpr ⟨wf_o2, (fun _ h => nomatch h)⟩)⟩)) ?_)
  refine y_lvE (lv2 := [(0, .ref (ad 0)), (1, .ref (ad 70))]) rfl ?_
  refine y_aload_n d_Lw_goodShare_0 rfl 1 rfl ?_
  refine y_iconst d_Lw_goodShare_1 (v := 0) (by decide) ?_
  refine y_aload_n d_Lw_goodShare_2 rfl 0 rfl ?_
  refine yw_callVH (As := []) (rest := [.int 0, .ref (ad 70)]) (q0 := 0) rfl rfl ln_Lw_155 w_im_Ip_goodShare w_se_Ip_goodShare ok_Lw_goodShare_Ip_goodShare d_Lw_goodShare_3 (fun wA hA => Q_Ip_goodShare (hI.gen (t2 := (mg t s)) (is := [0, 70]) (L2 := []) hA rfl ⟨kd_0.mpr rfl, kd_70.mpr ⟨_, rfl⟩, trivial⟩ (by decide) (by decide) (fun _ h => nomatch h) (fun _ h => nomatch h) (fun _ _ _ => rfl) (fun h => h) rfl)) rfl rfl (Nat.le_of_ble_eq_true rfl) (by omega) (by omega) (fun wA3 hA3 E wB3 hx => ?_) (fun wA3 hA3 v wB3 hx => ?_)
  · obtain ⟨h1, hI2⟩ := hx
    obtain rfl : E = "java/lang/ArithmeticException" := by
      rcases h1 with ⟨v, e9, -⟩ | e9
      · cases e9
      · cases e9; rfl
    refine ⟨"java/lang/ArithmeticException", [], [], (0, 8, 11, 159), rfl, (fun z hz => nomatch hz), by decide, by decide, lx_Lw_159, ce_159, fun qx => ?_⟩
    refine y_base (cs := []) (z_I.nil wB3) ?_
    refine y_astore_n (lv' := [(2, .ref qx), (0, .ref (ad 0)), (1, .ref (ad 70))]) d_Lw_goodShare_11 rfl (by decide) rfl ?_
    refine y_iconst d_Lw_goodShare_12 (v := 1) (by decide) ?_
    refine y_iret d_Lw_goodShare_13 rfl rfl ?_
    exact fun w1 h1 => ⟨⟨_, rfl⟩, ⟨s, (z_I.same (z_I.nil _) h1).symm ▸ hI2⟩⟩
  · obtain ⟨h1, hI2⟩ := hx
    obtain ⟨v9, rfl, hn9⟩ : ∃ v9 : UInt32, v = some (.float v9) ∧ Jvm.FP.Core.fIsNaN v9 = false := by
      rcases h1 with ⟨v9, e9, h9⟩ | e9
      · cases e9; exact ⟨v9, rfl, h9⟩
      · cases e9
    refine yw_st (st2 := [.float v9, .int 0, .ref (ad 70)]) rfl ?_
    have hI := hI2
    obtain ⟨e_o2, wf_o2, k_o2⟩ := hI.1.2 70 (by decide)
    obtain ⟨v_o2_f, rfl⟩ := kd_70.mp k_o2
    refine y_base (cs := [((ad 70), .inl (4, 1, .inr (.inr (.inr (.inl v_o2_f)))))]) (hI.1.I [70] _ rfl (by decide) (by decide) (List.forall_mem_cons.mpr ⟨wf_o2, (fun _ h => nomatch h)⟩)) ?_
    refine y_f2d d_Lw_goodShare_6 (vf_f2d hn9) ?_
    refine y_dast d_Lw_goodShare_7 (q0 := 0) rfl (fun q => q.elim (by decide) (by decide)) (f' := vf_upd v_o2_f 0 (FP.f2d v9)) rfl (cs' := [((ad 70), .inl (4, 1, .inr (.inr (.inr (.inl (vf_upd v_o2_f 0 (FP.f2d v9)))))))]) rfl ?_
    refine y_goto (tgt := 14) d_Lw_goodShare_8 (by decide) ?_
    refine y_iconst d_Lw_goodShare_14 (v := 0) (by decide) ?_
    refine y_iret d_Lw_goodShare_15 rfl rfl ?_
    exact fun w1 h1 => ⟨⟨_, rfl⟩, ⟨_, (hI.gen (t2 := (mg t s)) (is := [70]) (L2 := []) h1 rfl ⟨kd_70.mpr ⟨_, rfl⟩, trivial⟩ (by decide) (by decide) (fun _ h => nomatch h) (fun _ h => nomatch h) (fun _ _ _ => rfl) (fun h => h) rfl)⟩⟩
abbrev M_Lw_meanBar : zM := (⟨"IronpourLaw", "meanBar", "(LIronpour;[D)I"⟩, method_44_code, 3, (Option.some FieldType.int), 7, 124, [((0 : Nat), (7 : Nat), (10 : Nat), (159 : Nat))])
theorem d_Lw_meanBar_0 : decode method_44_code 0 = .ok (.aload_n 1, 1) := zo_43 (zd_b zq_method_44_code_0 0 rfl rfl rfl)
theorem d_Lw_meanBar_1 : decode method_44_code 1 = .ok (.iconst 0, 1) := zo_3 (zd_b zq_method_44_code_0 1 rfl rfl rfl)
theorem d_Lw_meanBar_2 : decode method_44_code 2 = .ok (.aload_n 0, 1) := zo_42 (zd_b zq_method_44_code_0 2 rfl rfl rfl)
theorem d_Lw_meanBar_3 : decode method_44_code 3 = .ok (.invokevirtual 161, 3) := zo_182 (d := 0) (e := 161) (zd_b zq_method_44_code_0 3 rfl rfl rfl) (zd_b zq_method_44_code_0 4 rfl rfl rfl) (zd_b zq_method_44_code_0 5 rfl rfl rfl)
theorem ok_Lw_meanBar_Ip_meanBar : z_okH M_Lw_meanBar M_Ip_meanBar 0 := ⟨z_mj7 (i := 73) rfl (by decide +kernel), rfl, ⟨by decide +kernel, by decide +kernel, by decide +kernel⟩, ⟨by decide, by decide⟩, z_mj1 (i := 1) rfl (by decide +kernel)⟩
theorem ln_Lw_161 : Cond.methodLink "IronpourLaw" 161 M_Ip_meanBar.1 ∈ z_gw := z_mj7 (i := 70) rfl (by decide +kernel)
theorem w_im_Ip_meanBar : Cond.instanceMethod M_Ip_meanBar.1 ∈ z_gw := z_mj7 (i := 71) rfl (by decide +kernel)
theorem w_se_Ip_meanBar : Cond.selects M_Ip_meanBar.1.cls M_Ip_meanBar.1 M_Ip_meanBar.1 ∈ z_gw := z_mj7 (i := 72) rfl (by decide +kernel)
theorem d_Lw_meanBar_10 : decode method_44_code 10 = .ok (.astore_n 2, 1) := zo_77 (zd_b zq_method_44_code_0 10 rfl rfl rfl)
theorem d_Lw_meanBar_11 : decode method_44_code 11 = .ok (.iconst 1, 1) := zo_4 (zd_b zq_method_44_code_0 11 rfl rfl rfl)
theorem d_Lw_meanBar_12 : decode method_44_code 12 = .ok (.ireturn, 1) := zo_172 (zd_b zq_method_44_code_0 12 rfl rfl rfl)
theorem d_Lw_meanBar_6 : decode method_44_code 6 = .ok (.dastore, 1) := zo_82 (zd_b zq_method_44_code_0 6 rfl rfl rfl)
theorem d_Lw_meanBar_7 : decode method_44_code 7 = .ok (.goto 6, 3) := zo_167 (d := 0) (e := 6) (zd_b zq_method_44_code_0 7 rfl rfl rfl) (zd_b zq_method_44_code_0 8 rfl rfl rfl) (zd_b zq_method_44_code_0 9 rfl rfl rfl) (by decide +kernel)
theorem d_Lw_meanBar_13 : decode method_44_code 13 = .ok (.iconst 0, 1) := zo_3 (zd_b zq_method_44_code_0 13 rfl rfl rfl)
theorem d_Lw_meanBar_14 : decode method_44_code 14 = .ok (.ireturn, 1) := zo_172 (zd_b zq_method_44_code_0 14 rfl rfl rfl)
set_option maxHeartbeats 4000000 in
set_option maxRecDepth 100000 in
theorem W_meanBar {g : zG} {ad : Nat → Nat} {t : zTT} {u : zNN} {w : zW} (hI : IVm g ad t u w) : zMB g M_Lw_meanBar [.ref (ad 0), .ref (ad 70)] w (fun o w1 => (∃ v : Int32, o = .inl (some (.int v))) ∧ IVm g ad t u w1) 10 300 := by
  obtain ⟨s, hI⟩ := hI
  obtain ⟨e_a, wf_a, k_a⟩ := hI.1.2 0 (by decide)
  obtain rfl := kd_0.mp k_a
  obtain ⟨e_o2, wf_o2, k_o2⟩ := hI.1.2 70 (by decide)
  obtain ⟨v_o2_f, rfl⟩ := kd_70.mp k_o2
  refine y_ofH (by decide) (by decide) (Nat.le_of_ble_eq_true rfl) (y_base (cs := [((ad 0), .inr (11, [.ref (ad 1), .ref (ad 5), .ref (ad 18), .ref (ad 31), .ref (ad 32), .ref (ad 36), .ref (ad 42), .ref (ad 45), .ref (ad 47), .ref (ad 49), .ref (ad 50), .ref (ad 51)])), ((ad 70), .inl (4, 1, .inr (.inr (.inr (.inl v_o2_f)))))]) (hI.1.I [0, 70] _ rfl (by decide) (by decide) (List.forall_mem_cons.mpr ⟨wf_a, (List.forall_mem_cons.mpr ⟨wf_o2, (fun _ h => nomatch h)⟩)⟩)) ?_)
  refine y_lvE (lv2 := [(0, .ref (ad 0)), (1, .ref (ad 70))]) rfl ?_
  refine y_aload_n d_Lw_meanBar_0 rfl 1 rfl ?_
  refine y_iconst d_Lw_meanBar_1 (v := 0) (by decide) ?_
  refine y_aload_n d_Lw_meanBar_2 rfl 0 rfl ?_
  refine yw_callVH (As := []) (rest := [.int 0, .ref (ad 70)]) (q0 := 0) rfl rfl ln_Lw_161 w_im_Ip_meanBar w_se_Ip_meanBar ok_Lw_meanBar_Ip_meanBar d_Lw_meanBar_3 (fun wA hA => Q_Ip_meanBar (hI.gen (t2 := (mg t s)) (is := [0, 70]) (L2 := []) hA rfl ⟨kd_0.mpr rfl, kd_70.mpr ⟨_, rfl⟩, trivial⟩ (by decide) (by decide) (fun _ h => nomatch h) (fun _ h => nomatch h) (fun _ _ _ => rfl) (fun h => h) rfl)) rfl rfl (Nat.le_of_ble_eq_true rfl) (by omega) (by omega) (fun wA3 hA3 E wB3 hx => ?_) (fun wA3 hA3 v wB3 hx => ?_)
  · obtain ⟨h1, hI2⟩ := hx
    obtain rfl : E = "java/lang/ArithmeticException" := by
      rcases h1 with ⟨v, e9⟩ | e9
      · cases e9
      · cases e9; rfl
    refine ⟨"java/lang/ArithmeticException", [], [], (0, 7, 10, 159), rfl, (fun z hz => nomatch hz), by decide, by decide, lx_Lw_159, ce_159, fun qx => ?_⟩
    refine y_base (cs := []) (z_I.nil wB3) ?_
    refine y_astore_n (lv' := [(2, .ref qx), (0, .ref (ad 0)), (1, .ref (ad 70))]) d_Lw_meanBar_10 rfl (by decide) rfl ?_
    refine y_iconst d_Lw_meanBar_11 (v := 1) (by decide) ?_
    refine y_iret d_Lw_meanBar_12 rfl rfl ?_
    exact fun w1 h1 => ⟨⟨_, rfl⟩, ⟨s, (z_I.same (z_I.nil _) h1).symm ▸ hI2⟩⟩
  · obtain ⟨h1, hI2⟩ := hx
    obtain ⟨v9, rfl⟩ : ∃ v9 : UInt64, v = some (.double v9) := by
      rcases h1 with ⟨v9, e9⟩ | e9
      · cases e9; exact ⟨v9, rfl⟩
      · cases e9
    refine yw_st (st2 := [.double v9, .int 0, .ref (ad 70)]) rfl ?_
    have hI := hI2
    obtain ⟨e_o2, wf_o2, k_o2⟩ := hI.1.2 70 (by decide)
    obtain ⟨v_o2_f, rfl⟩ := kd_70.mp k_o2
    refine y_base (cs := [((ad 70), .inl (4, 1, .inr (.inr (.inr (.inl v_o2_f)))))]) (hI.1.I [70] _ rfl (by decide) (by decide) (List.forall_mem_cons.mpr ⟨wf_o2, (fun _ h => nomatch h)⟩)) ?_
    refine y_dast d_Lw_meanBar_6 (q0 := 0) rfl (fun q => q.elim (by decide) (by decide)) (f' := vf_upd v_o2_f 0 v9) rfl (cs' := [((ad 70), .inl (4, 1, .inr (.inr (.inr (.inl (vf_upd v_o2_f 0 v9))))))]) rfl ?_
    refine y_goto (tgt := 13) d_Lw_meanBar_7 (by decide) ?_
    refine y_iconst d_Lw_meanBar_13 (v := 0) (by decide) ?_
    refine y_iret d_Lw_meanBar_14 rfl rfl ?_
    exact fun w1 h1 => ⟨⟨_, rfl⟩, ⟨_, (hI.gen (t2 := (mg t s)) (is := [70]) (L2 := []) h1 rfl ⟨kd_70.mpr ⟨_, rfl⟩, trivial⟩ (by decide) (by decide) (fun _ h => nomatch h) (fun _ h => nomatch h) (fun _ _ _ => rfl) (fun h => h) rfl)⟩⟩
