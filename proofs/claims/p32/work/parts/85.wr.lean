section
theorem IVm.nil {g : zG} {ad : Nat → Nat} {t : zTT} {u : zNN} {w w1 : zW} (h1 : z_I w w1 0 []) (hI : IVm g ad t u w) : IVm g ad t u w1 := (z_I.same (z_I.nil w) h1).symm ▸ hI
theorem IVm.ra {g : zG} {ad : Nat → Nat} {t : zTT} {u : zNN} {w : zW} (hI : IVm g ad t u w) : ∃ fs : List Value, w (ad 0) = some (.inr (11, fs)) := by
  obtain ⟨s, hI⟩ := hI
  obtain ⟨e_a, wf_a, k_a⟩ := hI.1.2 0 (by decide)
  obtain rfl := kd_0.mp k_a
  exact ⟨_, wf_a⟩
theorem IVm.rm {g : zG} {ad : Nat → Nat} {t : zTT} {u : zNN} {w : zW} (hI : IVm g ad t u w) : ∃ fs : List Value, w (ad 52) = some (.inr (12, fs)) := by
  obtain ⟨s, hI⟩ := hI
  obtain ⟨e_m, wf_m, k_m⟩ := hI.1.2 52 (by decide)
  obtain ⟨v_m_th, rfl⟩ := kd_52.mp k_m
  exact ⟨_, wf_m⟩
abbrev M_Lw_draw : zM := (⟨"IronpourLaw", "draw", "(LIronpour;CIIII[J)I"⟩, method_3_code, 8, (Option.some FieldType.int), 9, 205, [((0 : Nat), (16 : Nat), (19 : Nat), (13 : Nat))])
theorem d_Lw_draw_0 : decode method_3_code 0 = .ok (.aload 6, 2) := zo_25 (d := 6) (zd_b zq_method_3_code_0 0 rfl rfl rfl) (zd_b zq_method_3_code_0 1 rfl rfl rfl)
theorem d_Lw_draw_2 : decode method_3_code 2 = .ok (.iconst 0, 1) := zo_3 (zd_b zq_method_3_code_0 2 rfl rfl rfl)
theorem d_Lw_draw_3 : decode method_3_code 3 = .ok (.aload_n 0, 1) := zo_42 (zd_b zq_method_3_code_0 3 rfl rfl rfl)
theorem d_Lw_draw_4 : decode method_3_code 4 = .ok (.iload_n 1, 1) := zo_27 (zd_b zq_method_3_code_0 4 rfl rfl rfl)
theorem d_Lw_draw_5 : decode method_3_code 5 = .ok (.iload_n 2, 1) := zo_28 (zd_b zq_method_3_code_0 5 rfl rfl rfl)
theorem d_Lw_draw_6 : decode method_3_code 6 = .ok (.iload_n 3, 1) := zo_29 (zd_b zq_method_3_code_0 6 rfl rfl rfl)
theorem d_Lw_draw_7 : decode method_3_code 7 = .ok (.iload 4, 2) := zo_21 (d := 4) (zd_b zq_method_3_code_0 7 rfl rfl rfl) (zd_b zq_method_3_code_0 8 rfl rfl rfl)
theorem d_Lw_draw_9 : decode method_3_code 9 = .ok (.iload 5, 2) := zo_21 (d := 5) (zd_b zq_method_3_code_0 9 rfl rfl rfl) (zd_b zq_method_3_code_0 10 rfl rfl rfl)
theorem d_Lw_draw_11 : decode method_3_code 11 = .ok (.invokevirtual 7, 3) := zo_182 (d := 0) (e := 7) (zd_b zq_method_3_code_0 11 rfl rfl rfl) (zd_b zq_method_3_code_0 12 rfl rfl rfl) (zd_b zq_method_3_code_0 13 rfl rfl rfl)
theorem ok_Lw_draw_Ip_draw : z_okH M_Lw_draw M_Ip_draw 5 := ⟨z_mj3 (i := 53) rfl (by decide +kernel), rfl, ⟨by decide +kernel, by decide +kernel, by decide +kernel⟩, ⟨by decide, by decide⟩, z_mj1 (i := 1) rfl (by decide +kernel)⟩
theorem ln_Lw_7 : Cond.methodLink "IronpourLaw" 7 M_Ip_draw.1 ∈ z_gw := z_mj3 (i := 50) rfl (by decide +kernel)
theorem w_im_Ip_draw : Cond.instanceMethod M_Ip_draw.1 ∈ z_gw := z_mj3 (i := 51) rfl (by decide +kernel)
theorem w_se_Ip_draw : Cond.selects M_Ip_draw.1.cls M_Ip_draw.1 M_Ip_draw.1 ∈ z_gw := z_mj3 (i := 52) rfl (by decide +kernel)
theorem ce_13 : Cond.castable "java/lang/IllegalArgumentException" "java/lang/IllegalArgumentException" ∈ z_nw := z_mk3 (i := 143) rfl (by decide +kernel)
theorem lx_Lw_13 : Cond.classLink "IronpourLaw" 13 "java/lang/IllegalArgumentException" ∈ z_gw := z_mj3 (i := 49) rfl (by decide +kernel)
theorem d_Lw_draw_19 : decode method_3_code 19 = .ok (.astore 7, 2) := zo_58 (d := 7) (zd_b zq_method_3_code_0 19 rfl rfl rfl) (zd_b zq_method_3_code_0 20 rfl rfl rfl)
theorem d_Lw_draw_21 : decode method_3_code 21 = .ok (.iconst 1, 1) := zo_4 (zd_b zq_method_3_code_0 21 rfl rfl rfl)
theorem d_Lw_draw_22 : decode method_3_code 22 = .ok (.ireturn, 1) := zo_172 (zd_b zq_method_3_code_0 22 rfl rfl rfl)
theorem d_Lw_draw_14 : decode method_3_code 14 = .ok (.i2l, 1) := zo_133 (zd_b zq_method_3_code_0 14 rfl rfl rfl)
theorem d_Lw_draw_15 : decode method_3_code 15 = .ok (.lastore, 1) := zo_80 (zd_b zq_method_3_code_0 15 rfl rfl rfl)
theorem d_Lw_draw_16 : decode method_3_code 16 = .ok (.goto 7, 3) := zo_167 (d := 0) (e := 7) (zd_b zq_method_3_code_0 16 rfl rfl rfl) (zd_b zq_method_3_code_0 17 rfl rfl rfl) (zd_b zq_method_3_code_0 18 rfl rfl rfl) (by decide +kernel)
theorem d_Lw_draw_23 : decode method_3_code 23 = .ok (.iconst 0, 1) := zo_3 (zd_b zq_method_3_code_0 23 rfl rfl rfl)
theorem d_Lw_draw_24 : decode method_3_code 24 = .ok (.ireturn, 1) := zo_172 (zd_b zq_method_3_code_0 24 rfl rfl rfl)
set_option maxHeartbeats 4000000 in
set_option maxRecDepth 100000 in
theorem W_draw {g : zG} {ad : Nat → Nat} {t : zTT} {u : zNN} {w : zW} (hI : IVm g ad t u w) (k x y p q : Int32) : zMB g M_Lw_draw [.ref (ad 0), .int k, .int x, .int y, .int p, .int q, .ref (ad 69)] w (fun o w1 => MKx g ad (tK_Ip_draw k x y p q t) u.1 o w1) 10 300 := by
  obtain ⟨s, hI⟩ := hI
  obtain ⟨e_a, wf_a, k_a⟩ := hI.1.2 0 (by decide)
  obtain rfl := kd_0.mp k_a
  obtain ⟨e_o1, wf_o1, k_o1⟩ := hI.1.2 69 (by decide)
  obtain rfl := kd_69.mp k_o1
  refine y_ofH (by decide) (by decide) (Nat.le_of_ble_eq_true rfl) (y_base (cs := [((ad 0), .inr (11, [.ref (ad 1), .ref (ad 5), .ref (ad 18), .ref (ad 31), .ref (ad 32), .ref (ad 36), .ref (ad 42), .ref (ad 45), .ref (ad 47), .ref (ad 49), .ref (ad 50), .ref (ad 51)])), ((ad 69), .inl (3, 1, .inr (.inl (((mg t s).1 69).2.1))))]) (hI.1.I [0, 69] _ rfl (by decide) (by decide) (List.forall_mem_cons.mpr ⟨wf_a, (List.forall_mem_cons.mpr ⟨wf_o1, (fun _ h => nomatch h)⟩)⟩)) ?_)
  refine y_lvE (lv2 := [(0, .ref (ad 0)), (1, .int k), (2, .int x), (3, .int y), (4, .int p), (5, .int q), (6, .ref (ad 69))]) rfl ?_
  refine y_aload d_Lw_draw_0 6 rfl ?_
  refine y_iconst d_Lw_draw_2 (v := 0) (by decide) ?_
  refine y_aload_n d_Lw_draw_3 rfl 0 rfl ?_
  refine y_iload_n d_Lw_draw_4 rfl 1 rfl ?_
  refine y_iload_n d_Lw_draw_5 rfl 2 rfl ?_
  refine y_iload_n d_Lw_draw_6 rfl 3 rfl ?_
  refine y_iload d_Lw_draw_7 4 rfl ?_
  refine y_iload d_Lw_draw_9 5 rfl ?_
  refine yw_callVH (As := [.int k, .int x, .int y, .int p, .int q]) (rest := [.int 0, .ref (ad 69)]) (q0 := 0) rfl rfl ln_Lw_7 w_im_Ip_draw w_se_Ip_draw ok_Lw_draw_Ip_draw d_Lw_draw_11 (fun wA hA => K_Ip_draw ⟨_, (hI.gen (t2 := (mg t s)) (is := [0, 69]) (L2 := []) hA rfl ⟨kd_0.mpr rfl, kd_69.mpr rfl, trivial⟩ (by decide) (by decide) (fun _ h => nomatch h) (fun _ h => nomatch h) (fun _ _ _ => rfl) (fun h => h) rfl)⟩ k x y p q) rfl rfl (Nat.le_of_ble_eq_true rfl) (by omega) (by omega) (fun wA11 hA11 E wB11 hx => ?_) (fun wA11 hA11 v wB11 hx => ?_)
  · obtain ⟨h1, u2, hu, hI2⟩ := hx
    obtain rfl := List.mem_singleton.mp (zriE h1)
    refine ⟨"java/lang/IllegalArgumentException", [], [], (0, 16, 19, 13), rfl, (fun z hz => nomatch hz), by decide, by decide, lx_Lw_13, ce_13, fun qx => ?_⟩
    refine y_base (cs := []) (z_I.nil wB11) ?_
    refine y_astore (lv' := [(7, .ref qx), (0, .ref (ad 0)), (1, .int k), (2, .int x), (3, .int y), (4, .int p), (5, .int q), (6, .ref (ad 69))]) d_Lw_draw_19 (by decide) rfl ?_
    refine y_iconst d_Lw_draw_21 (v := 1) (by decide) ?_
    refine y_iret d_Lw_draw_22 rfl rfl ?_
    exact fun w1 h1 => ⟨⟨_, rfl⟩, u2, hu, (z_I.same (z_I.nil _) h1).symm ▸ hI2⟩
  · obtain ⟨h1, u2, hu, hI2⟩ := hx
    obtain ⟨v9, rfl⟩ := zriV h1
    refine yw_st (st2 := [.int v9, .int 0, .ref (ad 69)]) rfl ?_
    obtain ⟨s9, hI⟩ := hI2
    obtain ⟨e_o1, wf_o1, k_o1⟩ := hI.1.2 69 (by decide)
    obtain rfl := kd_69.mp k_o1
    refine y_base (cs := [((ad 69), .inl (3, 1, .inr (.inl (((mg (tK_Ip_draw k x y p q t) s9).1 69).2.1))))]) (hI.1.I [69] _ rfl (by decide) (by decide) (List.forall_mem_cons.mpr ⟨wf_o1, (fun _ h => nomatch h)⟩)) ?_
    refine y_i2l d_Lw_draw_14 (v := v9.toInt64) rfl ?_
    refine y_last d_Lw_draw_15 (q0 := 0) rfl (fun q => q.elim (by decide) (by decide)) (f' := vp_updL (((mg (tK_Ip_draw k x y p q t) s9).1 69).2.1) 0 v9.toInt64) rfl (cs' := [((ad 69), .inl (3, 1, .inr (.inl (vp_updL (((mg (tK_Ip_draw k x y p q t) s9).1 69).2.1) 0 v9.toInt64))))]) rfl ?_
    refine y_goto (tgt := 23) d_Lw_draw_16 (by decide) ?_
    refine y_iconst d_Lw_draw_23 (v := 0) (by decide) ?_
    refine y_iret d_Lw_draw_24 rfl rfl ?_
    exact fun w1 h1 => ⟨⟨_, rfl⟩, u2, hu, IVm.tz ((hI.gen (t2 := (zup (mg (tK_Ip_draw k x y p q t) s9).1 [(69, (((mg (tK_Ip_draw k x y p q t) s9).1 69).1, vp_updL (((mg (tK_Ip_draw k x y p q t) s9).1 69).2.1) 0 v9.toInt64, ((mg (tK_Ip_draw k x y p q t) s9).1 69).2.2))], (mg (tK_Ip_draw k x y p q t) s9).2)) (is := [69]) (L2 := []) h1 rfl ⟨kd_69.mpr rfl, trivial⟩ (by decide) (by decide) (fun _ h => nomatch h) (fun _ h => nomatch h) (fun i hi hn => zup_out (fun q => hn ((by decide : ∀ j ∈ ([69] : List Nat), j ∈ ([69] : List Nat)) i q))) (fun h => h) rfl)) (tx_all rfl)⟩
abbrev M_Lw_cell : zM := (⟨"IronpourLaw", "cell", "(LIronpour;II[J)I"⟩, method_4_code, 5, (Option.some FieldType.int), 8, 143, [((0 : Nat), (10 : Nat), (13 : Nat), (19 : Nat))])
theorem d_Lw_cell_0 : decode method_4_code 0 = .ok (.aload_n 3, 1) := zo_45 (zd_b zq_method_4_code_0 0 rfl rfl rfl)
theorem d_Lw_cell_1 : decode method_4_code 1 = .ok (.iconst 0, 1) := zo_3 (zd_b zq_method_4_code_0 1 rfl rfl rfl)
theorem d_Lw_cell_2 : decode method_4_code 2 = .ok (.aload_n 0, 1) := zo_42 (zd_b zq_method_4_code_0 2 rfl rfl rfl)
theorem d_Lw_cell_3 : decode method_4_code 3 = .ok (.iload_n 1, 1) := zo_27 (zd_b zq_method_4_code_0 3 rfl rfl rfl)
theorem d_Lw_cell_4 : decode method_4_code 4 = .ok (.iload_n 2, 1) := zo_28 (zd_b zq_method_4_code_0 4 rfl rfl rfl)
theorem d_Lw_cell_5 : decode method_4_code 5 = .ok (.invokevirtual 15, 3) := zo_182 (d := 0) (e := 15) (zd_b zq_method_4_code_0 5 rfl rfl rfl) (zd_b zq_method_4_code_0 6 rfl rfl rfl) (zd_b zq_method_4_code_0 7 rfl rfl rfl)
theorem ok_Lw_cell_Ip_cell : z_okH M_Lw_cell M_Ip_cell 2 := ⟨z_mj4 (i := 19) rfl (by decide +kernel), rfl, ⟨by decide +kernel, by decide +kernel, by decide +kernel⟩, ⟨by decide, by decide⟩, z_mj1 (i := 1) rfl (by decide +kernel)⟩
theorem ln_Lw_15 : Cond.methodLink "IronpourLaw" 15 M_Ip_cell.1 ∈ z_gw := z_mj4 (i := 16) rfl (by decide +kernel)
theorem w_im_Ip_cell : Cond.instanceMethod M_Ip_cell.1 ∈ z_gw := z_mj4 (i := 17) rfl (by decide +kernel)
theorem w_se_Ip_cell : Cond.selects M_Ip_cell.1.cls M_Ip_cell.1 M_Ip_cell.1 ∈ z_gw := z_mj4 (i := 18) rfl (by decide +kernel)
theorem ce_19 : Cond.castable "java/lang/IndexOutOfBoundsException" "java/lang/IndexOutOfBoundsException" ∈ z_nw := z_mk4 (i := 25) rfl (by decide +kernel)
theorem lx_Lw_19 : Cond.classLink "IronpourLaw" 19 "java/lang/IndexOutOfBoundsException" ∈ z_gw := z_mj3 (i := 232) rfl (by decide +kernel)
theorem d_Lw_cell_13 : decode method_4_code 13 = .ok (.astore 4, 2) := zo_58 (d := 4) (zd_b zq_method_4_code_0 13 rfl rfl rfl) (zd_b zq_method_4_code_0 14 rfl rfl rfl)
theorem d_Lw_cell_15 : decode method_4_code 15 = .ok (.iconst 1, 1) := zo_4 (zd_b zq_method_4_code_0 15 rfl rfl rfl)
theorem d_Lw_cell_16 : decode method_4_code 16 = .ok (.ireturn, 1) := zo_172 (zd_b zq_method_4_code_0 16 rfl rfl rfl)
theorem d_Lw_cell_8 : decode method_4_code 8 = .ok (.i2l, 1) := zo_133 (zd_b zq_method_4_code_0 8 rfl rfl rfl)
theorem d_Lw_cell_9 : decode method_4_code 9 = .ok (.lastore, 1) := zo_80 (zd_b zq_method_4_code_0 9 rfl rfl rfl)
theorem d_Lw_cell_10 : decode method_4_code 10 = .ok (.goto 7, 3) := zo_167 (d := 0) (e := 7) (zd_b zq_method_4_code_0 10 rfl rfl rfl) (zd_b zq_method_4_code_0 11 rfl rfl rfl) (zd_b zq_method_4_code_0 12 rfl rfl rfl) (by decide +kernel)
theorem d_Lw_cell_17 : decode method_4_code 17 = .ok (.iconst 0, 1) := zo_3 (zd_b zq_method_4_code_0 17 rfl rfl rfl)
theorem d_Lw_cell_18 : decode method_4_code 18 = .ok (.ireturn, 1) := zo_172 (zd_b zq_method_4_code_0 18 rfl rfl rfl)
set_option maxHeartbeats 4000000 in
set_option maxRecDepth 100000 in
theorem W_cell {g : zG} {ad : Nat → Nat} {t : zTT} {u : zNN} {w : zW} (hI : IVm g ad t u w) (x y : Int32) : zMB g M_Lw_cell [.ref (ad 0), .int x, .int y, .ref (ad 69)] w (fun o w1 => MKx g ad t u.1 o w1) 10 300 := by
  obtain ⟨s, hI⟩ := hI
  obtain ⟨e_a, wf_a, k_a⟩ := hI.1.2 0 (by decide)
  obtain rfl := kd_0.mp k_a
  obtain ⟨e_o1, wf_o1, k_o1⟩ := hI.1.2 69 (by decide)
  obtain rfl := kd_69.mp k_o1
  refine y_ofH (by decide) (by decide) (Nat.le_of_ble_eq_true rfl) (y_base (cs := [((ad 0), .inr (11, [.ref (ad 1), .ref (ad 5), .ref (ad 18), .ref (ad 31), .ref (ad 32), .ref (ad 36), .ref (ad 42), .ref (ad 45), .ref (ad 47), .ref (ad 49), .ref (ad 50), .ref (ad 51)])), ((ad 69), .inl (3, 1, .inr (.inl (((mg t s).1 69).2.1))))]) (hI.1.I [0, 69] _ rfl (by decide) (by decide) (List.forall_mem_cons.mpr ⟨wf_a, (List.forall_mem_cons.mpr ⟨wf_o1, (fun _ h => nomatch h)⟩)⟩)) ?_)
  refine y_lvE (lv2 := [(0, .ref (ad 0)), (1, .int x), (2, .int y), (3, .ref (ad 69))]) rfl ?_
  refine y_aload_n d_Lw_cell_0 rfl 3 rfl ?_
  refine y_iconst d_Lw_cell_1 (v := 0) (by decide) ?_
  refine y_aload_n d_Lw_cell_2 rfl 0 rfl ?_
  refine y_iload_n d_Lw_cell_3 rfl 1 rfl ?_
  refine y_iload_n d_Lw_cell_4 rfl 2 rfl ?_
  refine yw_callVH (As := [.int x, .int y]) (rest := [.int 0, .ref (ad 69)]) (q0 := 0) rfl rfl ln_Lw_15 w_im_Ip_cell w_se_Ip_cell ok_Lw_cell_Ip_cell d_Lw_cell_5 (fun wA hA => K_Ip_cell ⟨_, (hI.gen (t2 := (mg t s)) (is := [0, 69]) (L2 := []) hA rfl ⟨kd_0.mpr rfl, kd_69.mpr rfl, trivial⟩ (by decide) (by decide) (fun _ h => nomatch h) (fun _ h => nomatch h) (fun _ _ _ => rfl) (fun h => h) rfl)⟩ x y) rfl rfl (Nat.le_of_ble_eq_true rfl) (by omega) (by omega) (fun wA5 hA5 E wB5 hx => ?_) (fun wA5 hA5 v wB5 hx => ?_)
  · obtain ⟨h1, u2, hu, hI2⟩ := hx
    obtain rfl := List.mem_singleton.mp (zriE h1)
    refine ⟨"java/lang/IndexOutOfBoundsException", [], [], (0, 10, 13, 19), rfl, (fun z hz => nomatch hz), by decide, by decide, lx_Lw_19, ce_19, fun qx => ?_⟩
    refine y_base (cs := []) (z_I.nil wB5) ?_
    refine y_astore (lv' := [(4, .ref qx), (0, .ref (ad 0)), (1, .int x), (2, .int y), (3, .ref (ad 69))]) d_Lw_cell_13 (by decide) rfl ?_
    refine y_iconst d_Lw_cell_15 (v := 1) (by decide) ?_
    refine y_iret d_Lw_cell_16 rfl rfl ?_
    exact fun w1 h1 => ⟨⟨_, rfl⟩, u2, hu, (z_I.same (z_I.nil _) h1).symm ▸ hI2⟩
  · obtain ⟨h1, u2, hu, hI2⟩ := hx
    obtain ⟨v9, rfl⟩ := zriV h1
    refine yw_st (st2 := [.int v9, .int 0, .ref (ad 69)]) rfl ?_
    obtain ⟨s9, hI⟩ := hI2
    obtain ⟨e_o1, wf_o1, k_o1⟩ := hI.1.2 69 (by decide)
    obtain rfl := kd_69.mp k_o1
    refine y_base (cs := [((ad 69), .inl (3, 1, .inr (.inl (((mg t s9).1 69).2.1))))]) (hI.1.I [69] _ rfl (by decide) (by decide) (List.forall_mem_cons.mpr ⟨wf_o1, (fun _ h => nomatch h)⟩)) ?_
    refine y_i2l d_Lw_cell_8 (v := v9.toInt64) rfl ?_
    refine y_last d_Lw_cell_9 (q0 := 0) rfl (fun q => q.elim (by decide) (by decide)) (f' := vp_updL (((mg t s9).1 69).2.1) 0 v9.toInt64) rfl (cs' := [((ad 69), .inl (3, 1, .inr (.inl (vp_updL (((mg t s9).1 69).2.1) 0 v9.toInt64))))]) rfl ?_
    refine y_goto (tgt := 17) d_Lw_cell_10 (by decide) ?_
    refine y_iconst d_Lw_cell_17 (v := 0) (by decide) ?_
    refine y_iret d_Lw_cell_18 rfl rfl ?_
    exact fun w1 h1 => ⟨⟨_, rfl⟩, u2, hu, IVm.tz ((hI.gen (t2 := (zup (mg t s9).1 [(69, (((mg t s9).1 69).1, vp_updL (((mg t s9).1 69).2.1) 0 v9.toInt64, ((mg t s9).1 69).2.2))], (mg t s9).2)) (is := [69]) (L2 := []) h1 rfl ⟨kd_69.mpr rfl, trivial⟩ (by decide) (by decide) (fun _ h => nomatch h) (fun _ h => nomatch h) (fun i hi hn => zup_out (fun q => hn ((by decide : ∀ j ∈ ([69] : List Nat), j ∈ ([69] : List Nat)) i q))) (fun h => h) rfl)) (tx_all rfl)⟩
abbrev M_Lw_part : zM := (⟨"IronpourLaw", "part", "(LIronpour;I[J)I"⟩, method_5_code, 4, (Option.some FieldType.int), 7, 122, [((0 : Nat), (9 : Nat), (12 : Nat), (13 : Nat))])
theorem d_Lw_part_0 : decode method_5_code 0 = .ok (.aload_n 2, 1) := zo_44 (zd_b zq_method_5_code_0 0 rfl rfl rfl)
theorem d_Lw_part_1 : decode method_5_code 1 = .ok (.iconst 0, 1) := zo_3 (zd_b zq_method_5_code_0 1 rfl rfl rfl)
theorem d_Lw_part_2 : decode method_5_code 2 = .ok (.aload_n 0, 1) := zo_42 (zd_b zq_method_5_code_0 2 rfl rfl rfl)
theorem d_Lw_part_3 : decode method_5_code 3 = .ok (.iload_n 1, 1) := zo_27 (zd_b zq_method_5_code_0 3 rfl rfl rfl)
theorem d_Lw_part_4 : decode method_5_code 4 = .ok (.invokevirtual 21, 3) := zo_182 (d := 0) (e := 21) (zd_b zq_method_5_code_0 4 rfl rfl rfl) (zd_b zq_method_5_code_0 5 rfl rfl rfl) (zd_b zq_method_5_code_0 6 rfl rfl rfl)
theorem ok_Lw_part_Ip_part : z_okH M_Lw_part M_Ip_part 1 := ⟨z_mj4 (i := 42) rfl (by decide +kernel), rfl, ⟨by decide +kernel, by decide +kernel, by decide +kernel⟩, ⟨by decide, by decide⟩, z_mj1 (i := 1) rfl (by decide +kernel)⟩
theorem ln_Lw_21 : Cond.methodLink "IronpourLaw" 21 M_Ip_part.1 ∈ z_gw := z_mj4 (i := 39) rfl (by decide +kernel)
theorem w_im_Ip_part : Cond.instanceMethod M_Ip_part.1 ∈ z_gw := z_mj4 (i := 40) rfl (by decide +kernel)
theorem w_se_Ip_part : Cond.selects M_Ip_part.1.cls M_Ip_part.1 M_Ip_part.1 ∈ z_gw := z_mj4 (i := 41) rfl (by decide +kernel)
theorem d_Lw_part_12 : decode method_5_code 12 = .ok (.astore_n 3, 1) := zo_78 (zd_b zq_method_5_code_0 12 rfl rfl rfl)
theorem d_Lw_part_13 : decode method_5_code 13 = .ok (.iconst 1, 1) := zo_4 (zd_b zq_method_5_code_0 13 rfl rfl rfl)
theorem d_Lw_part_14 : decode method_5_code 14 = .ok (.ireturn, 1) := zo_172 (zd_b zq_method_5_code_0 14 rfl rfl rfl)
theorem d_Lw_part_7 : decode method_5_code 7 = .ok (.i2l, 1) := zo_133 (zd_b zq_method_5_code_0 7 rfl rfl rfl)
theorem d_Lw_part_8 : decode method_5_code 8 = .ok (.lastore, 1) := zo_80 (zd_b zq_method_5_code_0 8 rfl rfl rfl)
theorem d_Lw_part_9 : decode method_5_code 9 = .ok (.goto 6, 3) := zo_167 (d := 0) (e := 6) (zd_b zq_method_5_code_0 9 rfl rfl rfl) (zd_b zq_method_5_code_0 10 rfl rfl rfl) (zd_b zq_method_5_code_0 11 rfl rfl rfl) (by decide +kernel)
theorem d_Lw_part_15 : decode method_5_code 15 = .ok (.iconst 0, 1) := zo_3 (zd_b zq_method_5_code_0 15 rfl rfl rfl)
theorem d_Lw_part_16 : decode method_5_code 16 = .ok (.ireturn, 1) := zo_172 (zd_b zq_method_5_code_0 16 rfl rfl rfl)
set_option maxHeartbeats 4000000 in
set_option maxRecDepth 100000 in
theorem W_part {g : zG} {ad : Nat → Nat} {t : zTT} {u : zNN} {w : zW} (hI : IVm g ad t u w) (r : Int32) : zMB g M_Lw_part [.ref (ad 0), .int r, .ref (ad 69)] w (fun o w1 => MKx g ad (tK_Ip_part r t) u.1 o w1) 10 300 := by
  obtain ⟨s, hI⟩ := hI
  obtain ⟨e_a, wf_a, k_a⟩ := hI.1.2 0 (by decide)
  obtain rfl := kd_0.mp k_a
  obtain ⟨e_o1, wf_o1, k_o1⟩ := hI.1.2 69 (by decide)
  obtain rfl := kd_69.mp k_o1
  refine y_ofH (by decide) (by decide) (Nat.le_of_ble_eq_true rfl) (y_base (cs := [((ad 0), .inr (11, [.ref (ad 1), .ref (ad 5), .ref (ad 18), .ref (ad 31), .ref (ad 32), .ref (ad 36), .ref (ad 42), .ref (ad 45), .ref (ad 47), .ref (ad 49), .ref (ad 50), .ref (ad 51)])), ((ad 69), .inl (3, 1, .inr (.inl (((mg t s).1 69).2.1))))]) (hI.1.I [0, 69] _ rfl (by decide) (by decide) (List.forall_mem_cons.mpr ⟨wf_a, (List.forall_mem_cons.mpr ⟨wf_o1, (fun _ h => nomatch h)⟩)⟩)) ?_)
  refine y_lvE (lv2 := [(0, .ref (ad 0)), (1, .int r), (2, .ref (ad 69))]) rfl ?_
  refine y_aload_n d_Lw_part_0 rfl 2 rfl ?_
  refine y_iconst d_Lw_part_1 (v := 0) (by decide) ?_
  refine y_aload_n d_Lw_part_2 rfl 0 rfl ?_
  refine y_iload_n d_Lw_part_3 rfl 1 rfl ?_
  refine yw_callVH (As := [.int r]) (rest := [.int 0, .ref (ad 69)]) (q0 := 0) rfl rfl ln_Lw_21 w_im_Ip_part w_se_Ip_part ok_Lw_part_Ip_part d_Lw_part_4 (fun wA hA => K_Ip_part ⟨_, (hI.gen (t2 := (mg t s)) (is := [0, 69]) (L2 := []) hA rfl ⟨kd_0.mpr rfl, kd_69.mpr rfl, trivial⟩ (by decide) (by decide) (fun _ h => nomatch h) (fun _ h => nomatch h) (fun _ _ _ => rfl) (fun h => h) rfl)⟩ r) rfl rfl (Nat.le_of_ble_eq_true rfl) (by omega) (by omega) (fun wA4 hA4 E wB4 hx => ?_) (fun wA4 hA4 v wB4 hx => ?_)
  · obtain ⟨h1, u2, hu, hI2⟩ := hx
    obtain rfl := List.mem_singleton.mp (zriE h1)
    refine ⟨"java/lang/IllegalArgumentException", [], [], (0, 9, 12, 13), rfl, (fun z hz => nomatch hz), by decide, by decide, lx_Lw_13, ce_13, fun qx => ?_⟩
    refine y_base (cs := []) (z_I.nil wB4) ?_
    refine y_astore_n (lv' := [(3, .ref qx), (0, .ref (ad 0)), (1, .int r), (2, .ref (ad 69))]) d_Lw_part_12 rfl (by decide) rfl ?_
    refine y_iconst d_Lw_part_13 (v := 1) (by decide) ?_
    refine y_iret d_Lw_part_14 rfl rfl ?_
    exact fun w1 h1 => ⟨⟨_, rfl⟩, u2, hu, (z_I.same (z_I.nil _) h1).symm ▸ hI2⟩
  · obtain ⟨h1, u2, hu, hI2⟩ := hx
    obtain ⟨v9, rfl⟩ := zriV h1
    refine yw_st (st2 := [.int v9, .int 0, .ref (ad 69)]) rfl ?_
    obtain ⟨s9, hI⟩ := hI2
    obtain ⟨e_o1, wf_o1, k_o1⟩ := hI.1.2 69 (by decide)
    obtain rfl := kd_69.mp k_o1
    refine y_base (cs := [((ad 69), .inl (3, 1, .inr (.inl (((mg (tK_Ip_part r t) s9).1 69).2.1))))]) (hI.1.I [69] _ rfl (by decide) (by decide) (List.forall_mem_cons.mpr ⟨wf_o1, (fun _ h => nomatch h)⟩)) ?_
    refine y_i2l d_Lw_part_7 (v := v9.toInt64) rfl ?_
    refine y_last d_Lw_part_8 (q0 := 0) rfl (fun q => q.elim (by decide) (by decide)) (f' := vp_updL (((mg (tK_Ip_part r t) s9).1 69).2.1) 0 v9.toInt64) rfl (cs' := [((ad 69), .inl (3, 1, .inr (.inl (vp_updL (((mg (tK_Ip_part r t) s9).1 69).2.1) 0 v9.toInt64))))]) rfl ?_
    refine y_goto (tgt := 15) d_Lw_part_9 (by decide) ?_
    refine y_iconst d_Lw_part_15 (v := 0) (by decide) ?_
    refine y_iret d_Lw_part_16 rfl rfl ?_
    exact fun w1 h1 => ⟨⟨_, rfl⟩, u2, hu, IVm.tz ((hI.gen (t2 := (zup (mg (tK_Ip_part r t) s9).1 [(69, (((mg (tK_Ip_part r t) s9).1 69).1, vp_updL (((mg (tK_Ip_part r t) s9).1 69).2.1) 0 v9.toInt64, ((mg (tK_Ip_part r t) s9).1 69).2.2))], (mg (tK_Ip_part r t) s9).2)) (is := [69]) (L2 := []) h1 rfl ⟨kd_69.mpr rfl, trivial⟩ (by decide) (by decide) (fun _ h => nomatch h) (fun _ h => nomatch h) (fun i hi hn => zup_out (fun q => hn ((by decide : ∀ j ∈ ([69] : List Nat), j ∈ ([69] : List Nat)) i q))) (fun h => h) rfl)) (tx_all rfl)⟩
abbrev M_Lw_filledIn : zM := (⟨"IronpourLaw", "filledIn", "(LIronpour;II[J)I"⟩, method_6_code, 5, (Option.some FieldType.int), 8, 144, [((0 : Nat), (10 : Nat), (13 : Nat), (19 : Nat))])
theorem d_Lw_filledIn_0 : decode method_6_code 0 = .ok (.aload_n 3, 1) := zo_45 (zd_b zq_method_6_code_0 0 rfl rfl rfl)
theorem d_Lw_filledIn_1 : decode method_6_code 1 = .ok (.iconst 0, 1) := zo_3 (zd_b zq_method_6_code_0 1 rfl rfl rfl)
theorem d_Lw_filledIn_2 : decode method_6_code 2 = .ok (.aload_n 0, 1) := zo_42 (zd_b zq_method_6_code_0 2 rfl rfl rfl)
theorem d_Lw_filledIn_3 : decode method_6_code 3 = .ok (.iload_n 1, 1) := zo_27 (zd_b zq_method_6_code_0 3 rfl rfl rfl)
theorem d_Lw_filledIn_4 : decode method_6_code 4 = .ok (.iload_n 2, 1) := zo_28 (zd_b zq_method_6_code_0 4 rfl rfl rfl)
theorem d_Lw_filledIn_5 : decode method_6_code 5 = .ok (.invokevirtual 25, 3) := zo_182 (d := 0) (e := 25) (zd_b zq_method_6_code_0 5 rfl rfl rfl) (zd_b zq_method_6_code_0 6 rfl rfl rfl) (zd_b zq_method_6_code_0 7 rfl rfl rfl)
theorem ok_Lw_filledIn_Ip_filledIn : z_okH M_Lw_filledIn M_Ip_filledIn 2 := ⟨z_mj4 (i := 50) rfl (by decide +kernel), rfl, ⟨by decide +kernel, by decide +kernel, by decide +kernel⟩, ⟨by decide, by decide⟩, z_mj1 (i := 1) rfl (by decide +kernel)⟩
theorem ln_Lw_25 : Cond.methodLink "IronpourLaw" 25 M_Ip_filledIn.1 ∈ z_gw := z_mj4 (i := 47) rfl (by decide +kernel)
theorem w_im_Ip_filledIn : Cond.instanceMethod M_Ip_filledIn.1 ∈ z_gw := z_mj4 (i := 48) rfl (by decide +kernel)
theorem w_se_Ip_filledIn : Cond.selects M_Ip_filledIn.1.cls M_Ip_filledIn.1 M_Ip_filledIn.1 ∈ z_gw := z_mj4 (i := 49) rfl (by decide +kernel)
theorem d_Lw_filledIn_13 : decode method_6_code 13 = .ok (.astore 4, 2) := zo_58 (d := 4) (zd_b zq_method_6_code_0 13 rfl rfl rfl) (zd_b zq_method_6_code_0 14 rfl rfl rfl)
theorem d_Lw_filledIn_15 : decode method_6_code 15 = .ok (.iconst 1, 1) := zo_4 (zd_b zq_method_6_code_0 15 rfl rfl rfl)
theorem d_Lw_filledIn_16 : decode method_6_code 16 = .ok (.ireturn, 1) := zo_172 (zd_b zq_method_6_code_0 16 rfl rfl rfl)
theorem d_Lw_filledIn_8 : decode method_6_code 8 = .ok (.i2l, 1) := zo_133 (zd_b zq_method_6_code_0 8 rfl rfl rfl)
theorem d_Lw_filledIn_9 : decode method_6_code 9 = .ok (.lastore, 1) := zo_80 (zd_b zq_method_6_code_0 9 rfl rfl rfl)
theorem d_Lw_filledIn_10 : decode method_6_code 10 = .ok (.goto 7, 3) := zo_167 (d := 0) (e := 7) (zd_b zq_method_6_code_0 10 rfl rfl rfl) (zd_b zq_method_6_code_0 11 rfl rfl rfl) (zd_b zq_method_6_code_0 12 rfl rfl rfl) (by decide +kernel)
theorem d_Lw_filledIn_17 : decode method_6_code 17 = .ok (.iconst 0, 1) := zo_3 (zd_b zq_method_6_code_0 17 rfl rfl rfl)
theorem d_Lw_filledIn_18 : decode method_6_code 18 = .ok (.ireturn, 1) := zo_172 (zd_b zq_method_6_code_0 18 rfl rfl rfl)
set_option maxHeartbeats 4000000 in
set_option maxRecDepth 100000 in
theorem W_filledIn {g : zG} {ad : Nat → Nat} {t : zTT} {u : zNN} {w : zW} (hI : IVm g ad t u w) (x y : Int32) : zMB g M_Lw_filledIn [.ref (ad 0), .int x, .int y, .ref (ad 69)] w (fun o w1 => MKx g ad t u.1 o w1) 10 300 := by
  obtain ⟨s, hI⟩ := hI
  obtain ⟨e_a, wf_a, k_a⟩ := hI.1.2 0 (by decide)
  obtain rfl := kd_0.mp k_a
  obtain ⟨e_o1, wf_o1, k_o1⟩ := hI.1.2 69 (by decide)
  obtain rfl := kd_69.mp k_o1
  refine y_ofH (by decide) (by decide) (Nat.le_of_ble_eq_true rfl) (y_base (cs := [((ad 0), .inr (11, [.ref (ad 1), .ref (ad 5), .ref (ad 18), .ref (ad 31), .ref (ad 32), .ref (ad 36), .ref (ad 42), .ref (ad 45), .ref (ad 47), .ref (ad 49), .ref (ad 50), .ref (ad 51)])), ((ad 69), .inl (3, 1, .inr (.inl (((mg t s).1 69).2.1))))]) (hI.1.I [0, 69] _ rfl (by decide) (by decide) (List.forall_mem_cons.mpr ⟨wf_a, (List.forall_mem_cons.mpr ⟨wf_o1, (fun _ h => nomatch h)⟩)⟩)) ?_)
  refine y_lvE (lv2 := [(0, .ref (ad 0)), (1, .int x), (2, .int y), (3, .ref (ad 69))]) rfl ?_
  refine y_aload_n d_Lw_filledIn_0 rfl 3 rfl ?_
  refine y_iconst d_Lw_filledIn_1 (v := 0) (by decide) ?_
  refine y_aload_n d_Lw_filledIn_2 rfl 0 rfl ?_
  refine y_iload_n d_Lw_filledIn_3 rfl 1 rfl ?_
  refine y_iload_n d_Lw_filledIn_4 rfl 2 rfl ?_
  refine yw_callVH (As := [.int x, .int y]) (rest := [.int 0, .ref (ad 69)]) (q0 := 0) rfl rfl ln_Lw_25 w_im_Ip_filledIn w_se_Ip_filledIn ok_Lw_filledIn_Ip_filledIn d_Lw_filledIn_5 (fun wA hA => K_Ip_filledIn ⟨_, (hI.gen (t2 := (mg t s)) (is := [0, 69]) (L2 := []) hA rfl ⟨kd_0.mpr rfl, kd_69.mpr rfl, trivial⟩ (by decide) (by decide) (fun _ h => nomatch h) (fun _ h => nomatch h) (fun _ _ _ => rfl) (fun h => h) rfl)⟩ x y) rfl rfl (Nat.le_of_ble_eq_true rfl) (by omega) (by omega) (fun wA5 hA5 E wB5 hx => ?_) (fun wA5 hA5 v wB5 hx => ?_)
  · obtain ⟨h1, u2, hu, hI2⟩ := hx
    obtain rfl := List.mem_singleton.mp (zriE h1)
    refine ⟨"java/lang/IndexOutOfBoundsException", [], [], (0, 10, 13, 19), rfl, (fun z hz => nomatch hz), by decide, by decide, lx_Lw_19, ce_19, fun qx => ?_⟩
    refine y_base (cs := []) (z_I.nil wB5) ?_
    refine y_astore (lv' := [(4, .ref qx), (0, .ref (ad 0)), (1, .int x), (2, .int y), (3, .ref (ad 69))]) d_Lw_filledIn_13 (by decide) rfl ?_
    refine y_iconst d_Lw_filledIn_15 (v := 1) (by decide) ?_
    refine y_iret d_Lw_filledIn_16 rfl rfl ?_
    exact fun w1 h1 => ⟨⟨_, rfl⟩, u2, hu, (z_I.same (z_I.nil _) h1).symm ▸ hI2⟩
  · obtain ⟨h1, u2, hu, hI2⟩ := hx
    obtain ⟨v9, rfl⟩ := zriV h1
    refine yw_st (st2 := [.int v9, .int 0, .ref (ad 69)]) rfl ?_
    obtain ⟨s9, hI⟩ := hI2
    obtain ⟨e_o1, wf_o1, k_o1⟩ := hI.1.2 69 (by decide)
    obtain rfl := kd_69.mp k_o1
    refine y_base (cs := [((ad 69), .inl (3, 1, .inr (.inl (((mg t s9).1 69).2.1))))]) (hI.1.I [69] _ rfl (by decide) (by decide) (List.forall_mem_cons.mpr ⟨wf_o1, (fun _ h => nomatch h)⟩)) ?_
    refine y_i2l d_Lw_filledIn_8 (v := v9.toInt64) rfl ?_
    refine y_last d_Lw_filledIn_9 (q0 := 0) rfl (fun q => q.elim (by decide) (by decide)) (f' := vp_updL (((mg t s9).1 69).2.1) 0 v9.toInt64) rfl (cs' := [((ad 69), .inl (3, 1, .inr (.inl (vp_updL (((mg t s9).1 69).2.1) 0 v9.toInt64))))]) rfl ?_
    refine y_goto (tgt := 17) d_Lw_filledIn_10 (by decide) ?_
    refine y_iconst d_Lw_filledIn_17 (v := 0) (by decide) ?_
    refine y_iret d_Lw_filledIn_18 rfl rfl ?_
    exact fun w1 h1 => ⟨⟨_, rfl⟩, u2, hu, IVm.tz ((hI.gen (t2 := (zup (mg t s9).1 [(69, (((mg t s9).1 69).1, vp_updL (((mg t s9).1 69).2.1) 0 v9.toInt64, ((mg t s9).1 69).2.2))], (mg t s9).2)) (is := [69]) (L2 := []) h1 rfl ⟨kd_69.mpr rfl, trivial⟩ (by decide) (by decide) (fun _ h => nomatch h) (fun _ h => nomatch h) (fun i hi hn => zup_out (fun q => hn ((by decide : ∀ j ∈ ([69] : List Nat), j ∈ ([69] : List Nat)) i q))) (fun h => h) rfl)) (tx_all rfl)⟩
abbrev M_Lw_speed : zM := (⟨"IronpourLaw", "speed", "(LIronpour;[J)I"⟩, method_7_code, 3, (Option.some FieldType.int), 7, 120, [((0 : Nat), (8 : Nat), (11 : Nat), (33 : Nat))])
theorem d_Lw_speed_0 : decode method_7_code 0 = .ok (.aload_n 1, 1) := zo_43 (zd_b zq_method_7_code_0 0 rfl rfl rfl)
theorem d_Lw_speed_1 : decode method_7_code 1 = .ok (.iconst 0, 1) := zo_3 (zd_b zq_method_7_code_0 1 rfl rfl rfl)
theorem d_Lw_speed_2 : decode method_7_code 2 = .ok (.aload_n 0, 1) := zo_42 (zd_b zq_method_7_code_0 2 rfl rfl rfl)
theorem d_Lw_speed_3 : decode method_7_code 3 = .ok (.invokevirtual 29, 3) := zo_182 (d := 0) (e := 29) (zd_b zq_method_7_code_0 3 rfl rfl rfl) (zd_b zq_method_7_code_0 4 rfl rfl rfl) (zd_b zq_method_7_code_0 5 rfl rfl rfl)
theorem ok_Lw_speed_Ip_speed : z_okH M_Lw_speed M_Ip_speed 0 := ⟨z_mj4 (i := 59) rfl (by decide +kernel), rfl, ⟨by decide +kernel, by decide +kernel, by decide +kernel⟩, ⟨by decide, by decide⟩, z_mj1 (i := 1) rfl (by decide +kernel)⟩
theorem ln_Lw_29 : Cond.methodLink "IronpourLaw" 29 M_Ip_speed.1 ∈ z_gw := z_mj4 (i := 56) rfl (by decide +kernel)
theorem w_im_Ip_speed : Cond.instanceMethod M_Ip_speed.1 ∈ z_gw := z_mj4 (i := 57) rfl (by decide +kernel)
theorem w_se_Ip_speed : Cond.selects M_Ip_speed.1.cls M_Ip_speed.1 M_Ip_speed.1 ∈ z_gw := z_mj4 (i := 58) rfl (by decide +kernel)
theorem ce_33 : Cond.castable "java/util/NoSuchElementException" "java/util/NoSuchElementException" ∈ z_nw := z_mk4 (i := 66) rfl (by decide +kernel)
theorem lx_Lw_33 : Cond.classLink "IronpourLaw" 33 "java/util/NoSuchElementException" ∈ z_gw := z_mj4 (i := 55) rfl (by decide +kernel)
theorem d_Lw_speed_11 : decode method_7_code 11 = .ok (.astore_n 2, 1) := zo_77 (zd_b zq_method_7_code_0 11 rfl rfl rfl)
theorem d_Lw_speed_12 : decode method_7_code 12 = .ok (.iconst 1, 1) := zo_4 (zd_b zq_method_7_code_0 12 rfl rfl rfl)
theorem d_Lw_speed_13 : decode method_7_code 13 = .ok (.ireturn, 1) := zo_172 (zd_b zq_method_7_code_0 13 rfl rfl rfl)
theorem d_Lw_speed_6 : decode method_7_code 6 = .ok (.i2l, 1) := zo_133 (zd_b zq_method_7_code_0 6 rfl rfl rfl)
theorem d_Lw_speed_7 : decode method_7_code 7 = .ok (.lastore, 1) := zo_80 (zd_b zq_method_7_code_0 7 rfl rfl rfl)
theorem d_Lw_speed_8 : decode method_7_code 8 = .ok (.goto 6, 3) := zo_167 (d := 0) (e := 6) (zd_b zq_method_7_code_0 8 rfl rfl rfl) (zd_b zq_method_7_code_0 9 rfl rfl rfl) (zd_b zq_method_7_code_0 10 rfl rfl rfl) (by decide +kernel)
theorem d_Lw_speed_14 : decode method_7_code 14 = .ok (.iconst 0, 1) := zo_3 (zd_b zq_method_7_code_0 14 rfl rfl rfl)
theorem d_Lw_speed_15 : decode method_7_code 15 = .ok (.ireturn, 1) := zo_172 (zd_b zq_method_7_code_0 15 rfl rfl rfl)
set_option maxHeartbeats 4000000 in
set_option maxRecDepth 100000 in
theorem W_speed {g : zG} {ad : Nat → Nat} {t : zTT} {u : zNN} {w : zW} (hI : IVm g ad t u w) : zMB g M_Lw_speed [.ref (ad 0), .ref (ad 69)] w (fun o w1 => MKx g ad t u.1 o w1) 10 300 := by
  obtain ⟨s, hI⟩ := hI
  obtain ⟨e_a, wf_a, k_a⟩ := hI.1.2 0 (by decide)
  obtain rfl := kd_0.mp k_a
  obtain ⟨e_o1, wf_o1, k_o1⟩ := hI.1.2 69 (by decide)
  obtain rfl := kd_69.mp k_o1
  refine y_ofH (by decide) (by decide) (Nat.le_of_ble_eq_true rfl) (y_base (cs := [((ad 0), .inr (11, [.ref (ad 1), .ref (ad 5), .ref (ad 18), .ref (ad 31), .ref (ad 32), .ref (ad 36), .ref (ad 42), .ref (ad 45), .ref (ad 47), .ref (ad 49), .ref (ad 50), .ref (ad 51)])), ((ad 69), .inl (3, 1, .inr (.inl (((mg t s).1 69).2.1))))]) (hI.1.I [0, 69] _ rfl (by decide) (by decide) (List.forall_mem_cons.mpr ⟨wf_a, (List.forall_mem_cons.mpr ⟨wf_o1, (fun _ h => nomatch h)⟩)⟩)) ?_)
  refine y_lvE (lv2 := [(0, .ref (ad 0)), (1, .ref (ad 69))]) rfl ?_
  refine y_aload_n d_Lw_speed_0 rfl 1 rfl ?_
  refine y_iconst d_Lw_speed_1 (v := 0) (by decide) ?_
  refine y_aload_n d_Lw_speed_2 rfl 0 rfl ?_
  refine yw_callVH (As := []) (rest := [.int 0, .ref (ad 69)]) (q0 := 0) rfl rfl ln_Lw_29 w_im_Ip_speed w_se_Ip_speed ok_Lw_speed_Ip_speed d_Lw_speed_3 (fun wA hA => K_Ip_speed ⟨_, (hI.gen (t2 := (mg t s)) (is := [0, 69]) (L2 := []) hA rfl ⟨kd_0.mpr rfl, kd_69.mpr rfl, trivial⟩ (by decide) (by decide) (fun _ h => nomatch h) (fun _ h => nomatch h) (fun _ _ _ => rfl) (fun h => h) rfl)⟩) rfl rfl (Nat.le_of_ble_eq_true rfl) (by omega) (by omega) (fun wA3 hA3 E wB3 hx => ?_) (fun wA3 hA3 v wB3 hx => ?_)
  · obtain ⟨h1, u2, hu, hI2⟩ := hx
    obtain rfl := List.mem_singleton.mp (zriE h1)
    refine ⟨"java/util/NoSuchElementException", [], [], (0, 8, 11, 33), rfl, (fun z hz => nomatch hz), by decide, by decide, lx_Lw_33, ce_33, fun qx => ?_⟩
    refine y_base (cs := []) (z_I.nil wB3) ?_
    refine y_astore_n (lv' := [(2, .ref qx), (0, .ref (ad 0)), (1, .ref (ad 69))]) d_Lw_speed_11 rfl (by decide) rfl ?_
    refine y_iconst d_Lw_speed_12 (v := 1) (by decide) ?_
    refine y_iret d_Lw_speed_13 rfl rfl ?_
    exact fun w1 h1 => ⟨⟨_, rfl⟩, u2, hu, (z_I.same (z_I.nil _) h1).symm ▸ hI2⟩
  · obtain ⟨h1, u2, hu, hI2⟩ := hx
    obtain ⟨v9, rfl⟩ := zriV h1
    refine yw_st (st2 := [.int v9, .int 0, .ref (ad 69)]) rfl ?_
    obtain ⟨s9, hI⟩ := hI2
    obtain ⟨e_o1, wf_o1, k_o1⟩ := hI.1.2 69 (by decide)
    obtain rfl := kd_69.mp k_o1
    refine y_base (cs := [((ad 69), .inl (3, 1, .inr (.inl (((mg t s9).1 69).2.1))))]) (hI.1.I [69] _ rfl (by decide) (by decide) (List.forall_mem_cons.mpr ⟨wf_o1, (fun _ h => nomatch h)⟩)) ?_
    refine y_i2l d_Lw_speed_6 (v := v9.toInt64) rfl ?_
    refine y_last d_Lw_speed_7 (q0 := 0) rfl (fun q => q.elim (by decide) (by decide)) (f' := vp_updL (((mg t s9).1 69).2.1) 0 v9.toInt64) rfl (cs' := [((ad 69), .inl (3, 1, .inr (.inl (vp_updL (((mg t s9).1 69).2.1) 0 v9.toInt64))))]) rfl ?_
    refine y_goto (tgt := 14) d_Lw_speed_8 (by decide) ?_
    refine y_iconst d_Lw_speed_14 (v := 0) (by decide) ?_
    refine y_iret d_Lw_speed_15 rfl rfl ?_
    exact fun w1 h1 => ⟨⟨_, rfl⟩, u2, hu, IVm.tz ((hI.gen (t2 := (zup (mg t s9).1 [(69, (((mg t s9).1 69).1, vp_updL (((mg t s9).1 69).2.1) 0 v9.toInt64, ((mg t s9).1 69).2.2))], (mg t s9).2)) (is := [69]) (L2 := []) h1 rfl ⟨kd_69.mpr rfl, trivial⟩ (by decide) (by decide) (fun _ h => nomatch h) (fun _ h => nomatch h) (fun i hi hn => zup_out (fun q => hn ((by decide : ∀ j ∈ ([69] : List Nat), j ∈ ([69] : List Nat)) i q))) (fun h => h) rfl)) (tx_all rfl)⟩
abbrev M_Lw_frozenIn : zM := (⟨"IronpourLaw", "frozenIn", "(LIronpour;III[J)I"⟩, method_8_code, 6, (Option.some FieldType.int), 8, 160, [((0 : Nat), (12 : Nat), (15 : Nat), (19 : Nat)), ((0 : Nat), (12 : Nat), (19 : Nat), (13 : Nat))])
theorem d_Lw_frozenIn_0 : decode method_8_code 0 = .ok (.aload 4, 2) := zo_25 (d := 4) (zd_b zq_method_8_code_0 0 rfl rfl rfl) (zd_b zq_method_8_code_0 1 rfl rfl rfl)
theorem d_Lw_frozenIn_2 : decode method_8_code 2 = .ok (.iconst 0, 1) := zo_3 (zd_b zq_method_8_code_0 2 rfl rfl rfl)
theorem d_Lw_frozenIn_3 : decode method_8_code 3 = .ok (.aload_n 0, 1) := zo_42 (zd_b zq_method_8_code_0 3 rfl rfl rfl)
theorem d_Lw_frozenIn_4 : decode method_8_code 4 = .ok (.iload_n 1, 1) := zo_27 (zd_b zq_method_8_code_0 4 rfl rfl rfl)
theorem d_Lw_frozenIn_5 : decode method_8_code 5 = .ok (.iload_n 2, 1) := zo_28 (zd_b zq_method_8_code_0 5 rfl rfl rfl)
theorem d_Lw_frozenIn_6 : decode method_8_code 6 = .ok (.iload_n 3, 1) := zo_29 (zd_b zq_method_8_code_0 6 rfl rfl rfl)
theorem d_Lw_frozenIn_7 : decode method_8_code 7 = .ok (.invokevirtual 35, 3) := zo_182 (d := 0) (e := 35) (zd_b zq_method_8_code_0 7 rfl rfl rfl) (zd_b zq_method_8_code_0 8 rfl rfl rfl) (zd_b zq_method_8_code_0 9 rfl rfl rfl)
theorem ok_Lw_frozenIn_Ip_frozenIn : z_okH M_Lw_frozenIn M_Ip_frozenIn 3 := ⟨z_mj4 (i := 91) rfl (by decide +kernel), rfl, ⟨by decide +kernel, by decide +kernel, by decide +kernel⟩, ⟨by decide, by decide⟩, z_mj1 (i := 1) rfl (by decide +kernel)⟩
theorem ln_Lw_35 : Cond.methodLink "IronpourLaw" 35 M_Ip_frozenIn.1 ∈ z_gw := z_mj4 (i := 88) rfl (by decide +kernel)
theorem w_im_Ip_frozenIn : Cond.instanceMethod M_Ip_frozenIn.1 ∈ z_gw := z_mj4 (i := 89) rfl (by decide +kernel)
theorem w_se_Ip_frozenIn : Cond.selects M_Ip_frozenIn.1.cls M_Ip_frozenIn.1 M_Ip_frozenIn.1 ∈ z_gw := z_mj4 (i := 90) rfl (by decide +kernel)
theorem d_Lw_frozenIn_15 : decode method_8_code 15 = .ok (.astore 5, 2) := zo_58 (d := 5) (zd_b zq_method_8_code_0 15 rfl rfl rfl) (zd_b zq_method_8_code_0 16 rfl rfl rfl)
theorem d_Lw_frozenIn_17 : decode method_8_code 17 = .ok (.iconst 1, 1) := zo_4 (zd_b zq_method_8_code_0 17 rfl rfl rfl)
theorem d_Lw_frozenIn_18 : decode method_8_code 18 = .ok (.ireturn, 1) := zo_172 (zd_b zq_method_8_code_0 18 rfl rfl rfl)
theorem d_Lw_frozenIn_19 : decode method_8_code 19 = .ok (.astore 5, 2) := zo_58 (d := 5) (zd_b zq_method_8_code_0 19 rfl rfl rfl) (zd_b zq_method_8_code_0 20 rfl rfl rfl)
theorem d_Lw_frozenIn_21 : decode method_8_code 21 = .ok (.iconst 2, 1) := zo_5 (zd_b zq_method_8_code_0 21 rfl rfl rfl)
theorem d_Lw_frozenIn_22 : decode method_8_code 22 = .ok (.ireturn, 1) := zo_172 (zd_b zq_method_8_code_0 22 rfl rfl rfl)
theorem d_Lw_frozenIn_10 : decode method_8_code 10 = .ok (.i2l, 1) := zo_133 (zd_b zq_method_8_code_0 10 rfl rfl rfl)
theorem d_Lw_frozenIn_11 : decode method_8_code 11 = .ok (.lastore, 1) := zo_80 (zd_b zq_method_8_code_0 11 rfl rfl rfl)
theorem d_Lw_frozenIn_12 : decode method_8_code 12 = .ok (.goto 11, 3) := zo_167 (d := 0) (e := 11) (zd_b zq_method_8_code_0 12 rfl rfl rfl) (zd_b zq_method_8_code_0 13 rfl rfl rfl) (zd_b zq_method_8_code_0 14 rfl rfl rfl) (by decide +kernel)
theorem d_Lw_frozenIn_23 : decode method_8_code 23 = .ok (.iconst 0, 1) := zo_3 (zd_b zq_method_8_code_0 23 rfl rfl rfl)
theorem d_Lw_frozenIn_24 : decode method_8_code 24 = .ok (.ireturn, 1) := zo_172 (zd_b zq_method_8_code_0 24 rfl rfl rfl)
set_option maxHeartbeats 4000000 in
set_option maxRecDepth 100000 in
theorem W_frozenIn {g : zG} {ad : Nat → Nat} {t : zTT} {u : zNN} {w : zW} (hI : IVm g ad t u w) (x y h : Int32) : zMB g M_Lw_frozenIn [.ref (ad 0), .int x, .int y, .int h, .ref (ad 69)] w (fun o w1 => MKx g ad t u.1 o w1) 10 300 := by
  obtain ⟨s, hI⟩ := hI
  obtain ⟨e_a, wf_a, k_a⟩ := hI.1.2 0 (by decide)
  obtain rfl := kd_0.mp k_a
  obtain ⟨e_o1, wf_o1, k_o1⟩ := hI.1.2 69 (by decide)
  obtain rfl := kd_69.mp k_o1
  refine y_ofH (by decide) (by decide) (Nat.le_of_ble_eq_true rfl) (y_base (cs := [((ad 0), .inr (11, [.ref (ad 1), .ref (ad 5), .ref (ad 18), .ref (ad 31), .ref (ad 32), .ref (ad 36), .ref (ad 42), .ref (ad 45), .ref (ad 47), .ref (ad 49), .ref (ad 50), .ref (ad 51)])), ((ad 69), .inl (3, 1, .inr (.inl (((mg t s).1 69).2.1))))]) (hI.1.I [0, 69] _ rfl (by decide) (by decide) (List.forall_mem_cons.mpr ⟨wf_a, (List.forall_mem_cons.mpr ⟨wf_o1, (fun _ h => nomatch h)⟩)⟩)) ?_)
  refine y_lvE (lv2 := [(0, .ref (ad 0)), (1, .int x), (2, .int y), (3, .int h), (4, .ref (ad 69))]) rfl ?_
  refine y_aload d_Lw_frozenIn_0 4 rfl ?_
  refine y_iconst d_Lw_frozenIn_2 (v := 0) (by decide) ?_
  refine y_aload_n d_Lw_frozenIn_3 rfl 0 rfl ?_
  refine y_iload_n d_Lw_frozenIn_4 rfl 1 rfl ?_
  refine y_iload_n d_Lw_frozenIn_5 rfl 2 rfl ?_
  refine y_iload_n d_Lw_frozenIn_6 rfl 3 rfl ?_
  refine yw_callVH (As := [.int x, .int y, .int h]) (rest := [.int 0, .ref (ad 69)]) (q0 := 0) rfl rfl ln_Lw_35 w_im_Ip_frozenIn w_se_Ip_frozenIn ok_Lw_frozenIn_Ip_frozenIn d_Lw_frozenIn_7 (fun wA hA => K_Ip_frozenIn ⟨_, (hI.gen (t2 := (mg t s)) (is := [0, 69]) (L2 := []) hA rfl ⟨kd_0.mpr rfl, kd_69.mpr rfl, trivial⟩ (by decide) (by decide) (fun _ h => nomatch h) (fun _ h => nomatch h) (fun _ _ _ => rfl) (fun h => h) rfl)⟩ x y h) rfl rfl (Nat.le_of_ble_eq_true rfl) (by omega) (by omega) (fun wA7 hA7 E wB7 hx => ?_) (fun wA7 hA7 v wB7 hx => ?_)
  · obtain ⟨h1, u2, hu, hI2⟩ := hx
    rcases List.mem_cons.mp (zriE h1) with rfl | g2
    · refine ⟨"java/lang/IndexOutOfBoundsException", [], [(0, 12, 19, 13)], (0, 12, 15, 19), rfl, (fun z hz => nomatch hz), by decide, by decide, lx_Lw_19, ce_19, fun qx => ?_⟩
      refine y_base (cs := []) (z_I.nil wB7) ?_
      refine y_astore (lv' := [(5, .ref qx), (0, .ref (ad 0)), (1, .int x), (2, .int y), (3, .int h), (4, .ref (ad 69))]) d_Lw_frozenIn_15 (by decide) rfl ?_
      refine y_iconst d_Lw_frozenIn_17 (v := 1) (by decide) ?_
      refine y_iret d_Lw_frozenIn_18 rfl rfl ?_
      exact fun w1 h1 => ⟨⟨_, rfl⟩, u2, hu, (z_I.same (z_I.nil _) h1).symm ▸ hI2⟩
    · obtain rfl := List.mem_singleton.mp g2
      refine ⟨"java/lang/IllegalArgumentException", [(0, 12, 15, 19)], [], (0, 12, 19, 13), rfl, (fun z hz => by simp only [List.mem_cons, List.not_mem_nil, or_false] at hz; rcases hz with rfl; exact Or.inr ⟨by decide, _, lx_Lw_19, by decide⟩), by decide, by decide, lx_Lw_13, ce_13, fun qx => ?_⟩
      refine y_base (cs := []) (z_I.nil wB7) ?_
      refine y_astore (lv' := [(5, .ref qx), (0, .ref (ad 0)), (1, .int x), (2, .int y), (3, .int h), (4, .ref (ad 69))]) d_Lw_frozenIn_19 (by decide) rfl ?_
      refine y_iconst d_Lw_frozenIn_21 (v := 2) (by decide) ?_
      refine y_iret d_Lw_frozenIn_22 rfl rfl ?_
      exact fun w1 h1 => ⟨⟨_, rfl⟩, u2, hu, (z_I.same (z_I.nil _) h1).symm ▸ hI2⟩
  · obtain ⟨h1, u2, hu, hI2⟩ := hx
    obtain ⟨v9, rfl⟩ := zriV h1
    refine yw_st (st2 := [.int v9, .int 0, .ref (ad 69)]) rfl ?_
    obtain ⟨s9, hI⟩ := hI2
    obtain ⟨e_o1, wf_o1, k_o1⟩ := hI.1.2 69 (by decide)
    obtain rfl := kd_69.mp k_o1
    refine y_base (cs := [((ad 69), .inl (3, 1, .inr (.inl (((mg t s9).1 69).2.1))))]) (hI.1.I [69] _ rfl (by decide) (by decide) (List.forall_mem_cons.mpr ⟨wf_o1, (fun _ h => nomatch h)⟩)) ?_
    refine y_i2l d_Lw_frozenIn_10 (v := v9.toInt64) rfl ?_
    refine y_last d_Lw_frozenIn_11 (q0 := 0) rfl (fun q => q.elim (by decide) (by decide)) (f' := vp_updL (((mg t s9).1 69).2.1) 0 v9.toInt64) rfl (cs' := [((ad 69), .inl (3, 1, .inr (.inl (vp_updL (((mg t s9).1 69).2.1) 0 v9.toInt64))))]) rfl ?_
    refine y_goto (tgt := 23) d_Lw_frozenIn_12 (by decide) ?_
    refine y_iconst d_Lw_frozenIn_23 (v := 0) (by decide) ?_
    refine y_iret d_Lw_frozenIn_24 rfl rfl ?_
    exact fun w1 h1 => ⟨⟨_, rfl⟩, u2, hu, IVm.tz ((hI.gen (t2 := (zup (mg t s9).1 [(69, (((mg t s9).1 69).1, vp_updL (((mg t s9).1 69).2.1) 0 v9.toInt64, ((mg t s9).1 69).2.2))], (mg t s9).2)) (is := [69]) (L2 := []) h1 rfl ⟨kd_69.mpr rfl, trivial⟩ (by decide) (by decide) (fun _ h => nomatch h) (fun _ h => nomatch h) (fun i hi hn => zup_out (fun q => hn ((by decide : ∀ j ∈ ([69] : List Nat), j ∈ ([69] : List Nat)) i q))) (fun h => h) rfl)) (tx_all rfl)⟩
abbrev M_Lw_isFed : zM := (⟨"IronpourLaw", "isFed", "(LIronpour;III[J)I"⟩, method_10_code, 6, (Option.some FieldType.int), 8, 160, [((0 : Nat), (19 : Nat), (22 : Nat), (19 : Nat)), ((0 : Nat), (19 : Nat), (26 : Nat), (13 : Nat))])
theorem d_Lw_isFed_0 : decode method_10_code 0 = .ok (.aload 4, 2) := zo_25 (d := 4) (zd_b zq_method_10_code_0 0 rfl rfl rfl) (zd_b zq_method_10_code_0 1 rfl rfl rfl)
theorem d_Lw_isFed_2 : decode method_10_code 2 = .ok (.iconst 0, 1) := zo_3 (zd_b zq_method_10_code_0 2 rfl rfl rfl)
theorem d_Lw_isFed_3 : decode method_10_code 3 = .ok (.aload_n 0, 1) := zo_42 (zd_b zq_method_10_code_0 3 rfl rfl rfl)
theorem d_Lw_isFed_4 : decode method_10_code 4 = .ok (.iload_n 1, 1) := zo_27 (zd_b zq_method_10_code_0 4 rfl rfl rfl)
theorem d_Lw_isFed_5 : decode method_10_code 5 = .ok (.iload_n 2, 1) := zo_28 (zd_b zq_method_10_code_0 5 rfl rfl rfl)
theorem d_Lw_isFed_6 : decode method_10_code 6 = .ok (.iload_n 3, 1) := zo_29 (zd_b zq_method_10_code_0 6 rfl rfl rfl)
theorem d_Lw_isFed_7 : decode method_10_code 7 = .ok (.invokevirtual 43, 3) := zo_182 (d := 0) (e := 43) (zd_b zq_method_10_code_0 7 rfl rfl rfl) (zd_b zq_method_10_code_0 8 rfl rfl rfl) (zd_b zq_method_10_code_0 9 rfl rfl rfl)
theorem ok_Lw_isFed_Ip_isFed : z_okH M_Lw_isFed M_Ip_isFed 3 := ⟨z_mj4 (i := 117) rfl (by decide +kernel), rfl, ⟨by decide +kernel, by decide +kernel, by decide +kernel⟩, ⟨by decide, by decide⟩, z_mj1 (i := 1) rfl (by decide +kernel)⟩
theorem ln_Lw_43 : Cond.methodLink "IronpourLaw" 43 M_Ip_isFed.1 ∈ z_gw := z_mj4 (i := 114) rfl (by decide +kernel)
theorem w_im_Ip_isFed : Cond.instanceMethod M_Ip_isFed.1 ∈ z_gw := z_mj4 (i := 115) rfl (by decide +kernel)
theorem w_se_Ip_isFed : Cond.selects M_Ip_isFed.1.cls M_Ip_isFed.1 M_Ip_isFed.1 ∈ z_gw := z_mj4 (i := 116) rfl (by decide +kernel)
theorem d_Lw_isFed_22 : decode method_10_code 22 = .ok (.astore 5, 2) := zo_58 (d := 5) (zd_b zq_method_10_code_0 22 rfl rfl rfl) (zd_b zq_method_10_code_0 23 rfl rfl rfl)
theorem d_Lw_isFed_24 : decode method_10_code 24 = .ok (.iconst 1, 1) := zo_4 (zd_b zq_method_10_code_0 24 rfl rfl rfl)
theorem d_Lw_isFed_25 : decode method_10_code 25 = .ok (.ireturn, 1) := zo_172 (zd_b zq_method_10_code_0 25 rfl rfl rfl)
theorem d_Lw_isFed_26 : decode method_10_code 26 = .ok (.astore 5, 2) := zo_58 (d := 5) (zd_b zq_method_10_code_0 26 rfl rfl rfl) (zd_b zq_method_10_code_0 27 rfl rfl rfl)
theorem d_Lw_isFed_28 : decode method_10_code 28 = .ok (.iconst 2, 1) := zo_5 (zd_b zq_method_10_code_0 28 rfl rfl rfl)
theorem d_Lw_isFed_29 : decode method_10_code 29 = .ok (.ireturn, 1) := zo_172 (zd_b zq_method_10_code_0 29 rfl rfl rfl)
theorem d_Lw_isFed_10 : decode method_10_code 10 = .ok (.ifCond .eq 7, 3) := zo_153 (d := 0) (e := 7) (zd_b zq_method_10_code_0 10 rfl rfl rfl) (zd_b zq_method_10_code_0 11 rfl rfl rfl) (zd_b zq_method_10_code_0 12 rfl rfl rfl) (by decide +kernel)
theorem d_Lw_isFed_17 : decode method_10_code 17 = .ok (.lconst 0, 1) := zo_9 (zd_b zq_method_10_code_0 17 rfl rfl rfl)
theorem d_Lw_isFed_18 : decode method_10_code 18 = .ok (.lastore, 1) := zo_80 (zd_b zq_method_10_code_0 18 rfl rfl rfl)
theorem d_Lw_isFed_19 : decode method_10_code 19 = .ok (.goto 11, 3) := zo_167 (d := 0) (e := 11) (zd_b zq_method_10_code_0 19 rfl rfl rfl) (zd_b zq_method_10_code_0 20 rfl rfl rfl) (zd_b zq_method_10_code_0 21 rfl rfl rfl) (by decide +kernel)
theorem d_Lw_isFed_30 : decode method_10_code 30 = .ok (.iconst 0, 1) := zo_3 (zd_b zq_method_10_code_0 30 rfl rfl rfl)
theorem d_Lw_isFed_31 : decode method_10_code 31 = .ok (.ireturn, 1) := zo_172 (zd_b zq_method_10_code_0 31 rfl rfl rfl)
theorem d_Lw_isFed_13 : decode method_10_code 13 = .ok (.lconst 1, 1) := zo_10 (zd_b zq_method_10_code_0 13 rfl rfl rfl)
theorem d_Lw_isFed_14 : decode method_10_code 14 = .ok (.goto 4, 3) := zo_167 (d := 0) (e := 4) (zd_b zq_method_10_code_0 14 rfl rfl rfl) (zd_b zq_method_10_code_0 15 rfl rfl rfl) (zd_b zq_method_10_code_0 16 rfl rfl rfl) (by decide +kernel)
set_option maxHeartbeats 4000000 in
set_option maxRecDepth 100000 in
theorem W_isFed {g : zG} {ad : Nat → Nat} {t : zTT} {u : zNN} {w : zW} (hI : IVm g ad t u w) (x y h : Int32) : zMB g M_Lw_isFed [.ref (ad 0), .int x, .int y, .int h, .ref (ad 69)] w (fun o w1 => MKx g ad t u.1 o w1) 10 300 := by
  obtain ⟨s, hI⟩ := hI
  obtain ⟨e_a, wf_a, k_a⟩ := hI.1.2 0 (by decide)
  obtain rfl := kd_0.mp k_a
  obtain ⟨e_o1, wf_o1, k_o1⟩ := hI.1.2 69 (by decide)
  obtain rfl := kd_69.mp k_o1
  refine y_ofH (by decide) (by decide) (Nat.le_of_ble_eq_true rfl) (y_base (cs := [((ad 0), .inr (11, [.ref (ad 1), .ref (ad 5), .ref (ad 18), .ref (ad 31), .ref (ad 32), .ref (ad 36), .ref (ad 42), .ref (ad 45), .ref (ad 47), .ref (ad 49), .ref (ad 50), .ref (ad 51)])), ((ad 69), .inl (3, 1, .inr (.inl (((mg t s).1 69).2.1))))]) (hI.1.I [0, 69] _ rfl (by decide) (by decide) (List.forall_mem_cons.mpr ⟨wf_a, (List.forall_mem_cons.mpr ⟨wf_o1, (fun _ h => nomatch h)⟩)⟩)) ?_)
  refine y_lvE (lv2 := [(0, .ref (ad 0)), (1, .int x), (2, .int y), (3, .int h), (4, .ref (ad 69))]) rfl ?_
  refine y_aload d_Lw_isFed_0 4 rfl ?_
  refine y_iconst d_Lw_isFed_2 (v := 0) (by decide) ?_
  refine y_aload_n d_Lw_isFed_3 rfl 0 rfl ?_
  refine y_iload_n d_Lw_isFed_4 rfl 1 rfl ?_
  refine y_iload_n d_Lw_isFed_5 rfl 2 rfl ?_
  refine y_iload_n d_Lw_isFed_6 rfl 3 rfl ?_
  refine yw_callVH (As := [.int x, .int y, .int h]) (rest := [.int 0, .ref (ad 69)]) (q0 := 0) rfl rfl ln_Lw_43 w_im_Ip_isFed w_se_Ip_isFed ok_Lw_isFed_Ip_isFed d_Lw_isFed_7 (fun wA hA => K_Ip_isFed ⟨_, (hI.gen (t2 := (mg t s)) (is := [0, 69]) (L2 := []) hA rfl ⟨kd_0.mpr rfl, kd_69.mpr rfl, trivial⟩ (by decide) (by decide) (fun _ h => nomatch h) (fun _ h => nomatch h) (fun _ _ _ => rfl) (fun h => h) rfl)⟩ x y h) rfl rfl (Nat.le_of_ble_eq_true rfl) (by omega) (by omega) (fun wA7 hA7 E wB7 hx => ?_) (fun wA7 hA7 v wB7 hx => ?_)
  · obtain ⟨h1, u2, hu, hI2⟩ := hx
    rcases List.mem_cons.mp (zriE h1) with rfl | g2
    · refine ⟨"java/lang/IndexOutOfBoundsException", [], [(0, 19, 26, 13)], (0, 19, 22, 19), rfl, (fun z hz => nomatch hz), by decide, by decide, lx_Lw_19, ce_19, fun qx => ?_⟩
      refine y_base (cs := []) (z_I.nil wB7) ?_
      refine y_astore (lv' := [(5, .ref qx), (0, .ref (ad 0)), (1, .int x), (2, .int y), (3, .int h), (4, .ref (ad 69))]) d_Lw_isFed_22 (by decide) rfl ?_
      refine y_iconst d_Lw_isFed_24 (v := 1) (by decide) ?_
      refine y_iret d_Lw_isFed_25 rfl rfl ?_
      exact fun w1 h1 => ⟨⟨_, rfl⟩, u2, hu, (z_I.same (z_I.nil _) h1).symm ▸ hI2⟩
    · obtain rfl := List.mem_singleton.mp g2
      refine ⟨"java/lang/IllegalArgumentException", [(0, 19, 22, 19)], [], (0, 19, 26, 13), rfl, (fun z hz => by simp only [List.mem_cons, List.not_mem_nil, or_false] at hz; rcases hz with rfl; exact Or.inr ⟨by decide, _, lx_Lw_19, by decide⟩), by decide, by decide, lx_Lw_13, ce_13, fun qx => ?_⟩
      refine y_base (cs := []) (z_I.nil wB7) ?_
      refine y_astore (lv' := [(5, .ref qx), (0, .ref (ad 0)), (1, .int x), (2, .int y), (3, .int h), (4, .ref (ad 69))]) d_Lw_isFed_26 (by decide) rfl ?_
      refine y_iconst d_Lw_isFed_28 (v := 2) (by decide) ?_
      refine y_iret d_Lw_isFed_29 rfl rfl ?_
      exact fun w1 h1 => ⟨⟨_, rfl⟩, u2, hu, (z_I.same (z_I.nil _) h1).symm ▸ hI2⟩
  · obtain ⟨h1, u2, hu, hI2⟩ := hx
    obtain ⟨v9, rfl⟩ := zriV h1
    refine yw_st (st2 := [.int v9, .int 0, .ref (ad 69)]) rfl ?_
    obtain ⟨s9, hI⟩ := hI2
    obtain ⟨e_o1, wf_o1, k_o1⟩ := hI.1.2 69 (by decide)
    obtain rfl := kd_69.mp k_o1
    refine y_base (cs := [((ad 69), .inl (3, 1, .inr (.inl (((mg t s9).1 69).2.1))))]) (hI.1.I [69] _ rfl (by decide) (by decide) (List.forall_mem_cons.mpr ⟨wf_o1, (fun _ h => nomatch h)⟩)) ?_
    refine y_if_eq (tgt := 17) d_Lw_isFed_10 (by decide) (fun c_10 => ?_) (fun c_10 => ?_)
    · refine y_lconst d_Lw_isFed_17 (v := 0) (by decide) ?_
      refine y_last d_Lw_isFed_18 (q0 := 0) rfl (fun q => q.elim (by decide) (by decide)) (f' := vp_updL (((mg t s9).1 69).2.1) 0 0) rfl (cs' := [((ad 69), .inl (3, 1, .inr (.inl (vp_updL (((mg t s9).1 69).2.1) 0 0))))]) rfl ?_
      refine y_goto (tgt := 30) d_Lw_isFed_19 (by decide) ?_
      refine y_iconst d_Lw_isFed_30 (v := 0) (by decide) ?_
      refine y_iret d_Lw_isFed_31 rfl rfl ?_
      exact fun w1 h1 => ⟨⟨_, rfl⟩, u2, hu, IVm.tz ((hI.gen (t2 := (zup (mg t s9).1 [(69, (((mg t s9).1 69).1, vp_updL (((mg t s9).1 69).2.1) 0 0, ((mg t s9).1 69).2.2))], (mg t s9).2)) (is := [69]) (L2 := []) h1 rfl ⟨kd_69.mpr rfl, trivial⟩ (by decide) (by decide) (fun _ h => nomatch h) (fun _ h => nomatch h) (fun i hi hn => zup_out (fun q => hn ((by decide : ∀ j ∈ ([69] : List Nat), j ∈ ([69] : List Nat)) i q))) (fun h => h) rfl)) (tx_all rfl)⟩
    · refine y_lconst d_Lw_isFed_13 (v := 1) (by decide) ?_
      refine y_goto (tgt := 18) d_Lw_isFed_14 (by decide) ?_
      refine y_last d_Lw_isFed_18 (q0 := 0) rfl (fun q => q.elim (by decide) (by decide)) (f' := vp_updL (((mg t s9).1 69).2.1) 0 1) rfl (cs' := [((ad 69), .inl (3, 1, .inr (.inl (vp_updL (((mg t s9).1 69).2.1) 0 1))))]) rfl ?_
      refine y_goto (tgt := 30) d_Lw_isFed_19 (by decide) ?_
      refine y_iconst d_Lw_isFed_30 (v := 0) (by decide) ?_
      refine y_iret d_Lw_isFed_31 rfl rfl ?_
      exact fun w1 h1 => ⟨⟨_, rfl⟩, u2, hu, IVm.tz ((hI.gen (t2 := (zup (mg t s9).1 [(69, (((mg t s9).1 69).1, vp_updL (((mg t s9).1 69).2.1) 0 1, ((mg t s9).1 69).2.2))], (mg t s9).2)) (is := [69]) (L2 := []) h1 rfl ⟨kd_69.mpr rfl, trivial⟩ (by decide) (by decide) (fun _ h => nomatch h) (fun _ h => nomatch h) (fun i hi hn => zup_out (fun q => hn ((by decide : ∀ j ∈ ([69] : List Nat), j ∈ ([69] : List Nat)) i q))) (fun h => h) rfl)) (tx_all rfl)⟩
abbrev M_Lw_heatAt : zM := (⟨"IronpourLaw", "heatAt", "(LIronpour;IIII[J)I"⟩, method_9_code, 7, (Option.some FieldType.int), 8, 162, [((0 : Nat), (14 : Nat), (17 : Nat), (19 : Nat)), ((0 : Nat), (14 : Nat), (21 : Nat), (13 : Nat))])
theorem d_Lw_heatAt_0 : decode method_9_code 0 = .ok (.aload 5, 2) := zo_25 (d := 5) (zd_b zq_method_9_code_0 0 rfl rfl rfl) (zd_b zq_method_9_code_0 1 rfl rfl rfl)
theorem d_Lw_heatAt_2 : decode method_9_code 2 = .ok (.iconst 0, 1) := zo_3 (zd_b zq_method_9_code_0 2 rfl rfl rfl)
theorem d_Lw_heatAt_3 : decode method_9_code 3 = .ok (.aload_n 0, 1) := zo_42 (zd_b zq_method_9_code_0 3 rfl rfl rfl)
theorem d_Lw_heatAt_4 : decode method_9_code 4 = .ok (.iload_n 1, 1) := zo_27 (zd_b zq_method_9_code_0 4 rfl rfl rfl)
theorem d_Lw_heatAt_5 : decode method_9_code 5 = .ok (.iload_n 2, 1) := zo_28 (zd_b zq_method_9_code_0 5 rfl rfl rfl)
theorem d_Lw_heatAt_6 : decode method_9_code 6 = .ok (.iload_n 3, 1) := zo_29 (zd_b zq_method_9_code_0 6 rfl rfl rfl)
theorem d_Lw_heatAt_7 : decode method_9_code 7 = .ok (.iload 4, 2) := zo_21 (d := 4) (zd_b zq_method_9_code_0 7 rfl rfl rfl) (zd_b zq_method_9_code_0 8 rfl rfl rfl)
theorem d_Lw_heatAt_9 : decode method_9_code 9 = .ok (.invokevirtual 39, 3) := zo_182 (d := 0) (e := 39) (zd_b zq_method_9_code_0 9 rfl rfl rfl) (zd_b zq_method_9_code_0 10 rfl rfl rfl) (zd_b zq_method_9_code_0 11 rfl rfl rfl)
theorem ok_Lw_heatAt_Ip_heatAt : z_okH M_Lw_heatAt M_Ip_heatAt 4 := ⟨z_mj4 (i := 105) rfl (by decide +kernel), rfl, ⟨by decide +kernel, by decide +kernel, by decide +kernel⟩, ⟨by decide, by decide⟩, z_mj1 (i := 1) rfl (by decide +kernel)⟩
theorem ln_Lw_39 : Cond.methodLink "IronpourLaw" 39 M_Ip_heatAt.1 ∈ z_gw := z_mj4 (i := 102) rfl (by decide +kernel)
theorem w_im_Ip_heatAt : Cond.instanceMethod M_Ip_heatAt.1 ∈ z_gw := z_mj4 (i := 103) rfl (by decide +kernel)
theorem w_se_Ip_heatAt : Cond.selects M_Ip_heatAt.1.cls M_Ip_heatAt.1 M_Ip_heatAt.1 ∈ z_gw := z_mj4 (i := 104) rfl (by decide +kernel)
theorem d_Lw_heatAt_17 : decode method_9_code 17 = .ok (.astore 6, 2) := zo_58 (d := 6) (zd_b zq_method_9_code_0 17 rfl rfl rfl) (zd_b zq_method_9_code_0 18 rfl rfl rfl)
theorem d_Lw_heatAt_19 : decode method_9_code 19 = .ok (.iconst 1, 1) := zo_4 (zd_b zq_method_9_code_0 19 rfl rfl rfl)
theorem d_Lw_heatAt_20 : decode method_9_code 20 = .ok (.ireturn, 1) := zo_172 (zd_b zq_method_9_code_0 20 rfl rfl rfl)
theorem d_Lw_heatAt_21 : decode method_9_code 21 = .ok (.astore 6, 2) := zo_58 (d := 6) (zd_b zq_method_9_code_0 21 rfl rfl rfl) (zd_b zq_method_9_code_0 22 rfl rfl rfl)
theorem d_Lw_heatAt_23 : decode method_9_code 23 = .ok (.iconst 2, 1) := zo_5 (zd_b zq_method_9_code_0 23 rfl rfl rfl)
theorem d_Lw_heatAt_24 : decode method_9_code 24 = .ok (.ireturn, 1) := zo_172 (zd_b zq_method_9_code_0 24 rfl rfl rfl)
theorem d_Lw_heatAt_12 : decode method_9_code 12 = .ok (.i2l, 1) := zo_133 (zd_b zq_method_9_code_0 12 rfl rfl rfl)
theorem d_Lw_heatAt_13 : decode method_9_code 13 = .ok (.lastore, 1) := zo_80 (zd_b zq_method_9_code_0 13 rfl rfl rfl)
theorem d_Lw_heatAt_14 : decode method_9_code 14 = .ok (.goto 11, 3) := zo_167 (d := 0) (e := 11) (zd_b zq_method_9_code_0 14 rfl rfl rfl) (zd_b zq_method_9_code_0 15 rfl rfl rfl) (zd_b zq_method_9_code_0 16 rfl rfl rfl) (by decide +kernel)
theorem d_Lw_heatAt_25 : decode method_9_code 25 = .ok (.iconst 0, 1) := zo_3 (zd_b zq_method_9_code_0 25 rfl rfl rfl)
theorem d_Lw_heatAt_26 : decode method_9_code 26 = .ok (.ireturn, 1) := zo_172 (zd_b zq_method_9_code_0 26 rfl rfl rfl)
set_option maxHeartbeats 4000000 in
set_option maxRecDepth 100000 in
theorem W_heatAt {g : zG} {ad : Nat → Nat} {t : zTT} {u : zNN} {w : zW} (hI : IVm g ad t u w) (x y h st : Int32) : zMB g M_Lw_heatAt [.ref (ad 0), .int x, .int y, .int h, .int st, .ref (ad 69)] w (fun o w1 => MKx g ad t u.1 o w1) 10 300 := by
  obtain ⟨s, hI⟩ := hI
  obtain ⟨e_a, wf_a, k_a⟩ := hI.1.2 0 (by decide)
  obtain rfl := kd_0.mp k_a
  obtain ⟨e_o1, wf_o1, k_o1⟩ := hI.1.2 69 (by decide)
  obtain rfl := kd_69.mp k_o1
  refine y_ofH (by decide) (by decide) (Nat.le_of_ble_eq_true rfl) (y_base (cs := [((ad 0), .inr (11, [.ref (ad 1), .ref (ad 5), .ref (ad 18), .ref (ad 31), .ref (ad 32), .ref (ad 36), .ref (ad 42), .ref (ad 45), .ref (ad 47), .ref (ad 49), .ref (ad 50), .ref (ad 51)])), ((ad 69), .inl (3, 1, .inr (.inl (((mg t s).1 69).2.1))))]) (hI.1.I [0, 69] _ rfl (by decide) (by decide) (List.forall_mem_cons.mpr ⟨wf_a, (List.forall_mem_cons.mpr ⟨wf_o1, (fun _ h => nomatch h)⟩)⟩)) ?_)
  refine y_lvE (lv2 := [(0, .ref (ad 0)), (1, .int x), (2, .int y), (3, .int h), (4, .int st), (5, .ref (ad 69))]) rfl ?_
  refine y_aload d_Lw_heatAt_0 5 rfl ?_
  refine y_iconst d_Lw_heatAt_2 (v := 0) (by decide) ?_
  refine y_aload_n d_Lw_heatAt_3 rfl 0 rfl ?_
  refine y_iload_n d_Lw_heatAt_4 rfl 1 rfl ?_
  refine y_iload_n d_Lw_heatAt_5 rfl 2 rfl ?_
  refine y_iload_n d_Lw_heatAt_6 rfl 3 rfl ?_
  refine y_iload d_Lw_heatAt_7 4 rfl ?_
  refine yw_callVH (As := [.int x, .int y, .int h, .int st]) (rest := [.int 0, .ref (ad 69)]) (q0 := 0) rfl rfl ln_Lw_39 w_im_Ip_heatAt w_se_Ip_heatAt ok_Lw_heatAt_Ip_heatAt d_Lw_heatAt_9 (fun wA hA => K_Ip_heatAt ⟨_, (hI.gen (t2 := (mg t s)) (is := [0, 69]) (L2 := []) hA rfl ⟨kd_0.mpr rfl, kd_69.mpr rfl, trivial⟩ (by decide) (by decide) (fun _ h => nomatch h) (fun _ h => nomatch h) (fun _ _ _ => rfl) (fun h => h) rfl)⟩ x y h st) rfl rfl (Nat.le_of_ble_eq_true rfl) (by omega) (by omega) (fun wA9 hA9 E wB9 hx => ?_) (fun wA9 hA9 v wB9 hx => ?_)
  · obtain ⟨h1, u2, hu, hI2⟩ := hx
    rcases List.mem_cons.mp (zriE h1) with rfl | g2
    · refine ⟨"java/lang/IndexOutOfBoundsException", [], [(0, 14, 21, 13)], (0, 14, 17, 19), rfl, (fun z hz => nomatch hz), by decide, by decide, lx_Lw_19, ce_19, fun qx => ?_⟩
      refine y_base (cs := []) (z_I.nil wB9) ?_
      refine y_astore (lv' := [(6, .ref qx), (0, .ref (ad 0)), (1, .int x), (2, .int y), (3, .int h), (4, .int st), (5, .ref (ad 69))]) d_Lw_heatAt_17 (by decide) rfl ?_
      refine y_iconst d_Lw_heatAt_19 (v := 1) (by decide) ?_
      refine y_iret d_Lw_heatAt_20 rfl rfl ?_
      exact fun w1 h1 => ⟨⟨_, rfl⟩, u2, hu, (z_I.same (z_I.nil _) h1).symm ▸ hI2⟩
    · obtain rfl := List.mem_singleton.mp g2
      refine ⟨"java/lang/IllegalArgumentException", [(0, 14, 17, 19)], [], (0, 14, 21, 13), rfl, (fun z hz => by simp only [List.mem_cons, List.not_mem_nil, or_false] at hz; rcases hz with rfl; exact Or.inr ⟨by decide, _, lx_Lw_19, by decide⟩), by decide, by decide, lx_Lw_13, ce_13, fun qx => ?_⟩
      refine y_base (cs := []) (z_I.nil wB9) ?_
      refine y_astore (lv' := [(6, .ref qx), (0, .ref (ad 0)), (1, .int x), (2, .int y), (3, .int h), (4, .int st), (5, .ref (ad 69))]) d_Lw_heatAt_21 (by decide) rfl ?_
      refine y_iconst d_Lw_heatAt_23 (v := 2) (by decide) ?_
      refine y_iret d_Lw_heatAt_24 rfl rfl ?_
      exact fun w1 h1 => ⟨⟨_, rfl⟩, u2, hu, (z_I.same (z_I.nil _) h1).symm ▸ hI2⟩
  · obtain ⟨h1, u2, hu, hI2⟩ := hx
    obtain ⟨v9, rfl⟩ := zriV h1
    refine yw_st (st2 := [.int v9, .int 0, .ref (ad 69)]) rfl ?_
    obtain ⟨s9, hI⟩ := hI2
    obtain ⟨e_o1, wf_o1, k_o1⟩ := hI.1.2 69 (by decide)
    obtain rfl := kd_69.mp k_o1
    refine y_base (cs := [((ad 69), .inl (3, 1, .inr (.inl (((mg t s9).1 69).2.1))))]) (hI.1.I [69] _ rfl (by decide) (by decide) (List.forall_mem_cons.mpr ⟨wf_o1, (fun _ h => nomatch h)⟩)) ?_
    refine y_i2l d_Lw_heatAt_12 (v := v9.toInt64) rfl ?_
    refine y_last d_Lw_heatAt_13 (q0 := 0) rfl (fun q => q.elim (by decide) (by decide)) (f' := vp_updL (((mg t s9).1 69).2.1) 0 v9.toInt64) rfl (cs' := [((ad 69), .inl (3, 1, .inr (.inl (vp_updL (((mg t s9).1 69).2.1) 0 v9.toInt64))))]) rfl ?_
    refine y_goto (tgt := 25) d_Lw_heatAt_14 (by decide) ?_
    refine y_iconst d_Lw_heatAt_25 (v := 0) (by decide) ?_
    refine y_iret d_Lw_heatAt_26 rfl rfl ?_
    exact fun w1 h1 => ⟨⟨_, rfl⟩, u2, hu, IVm.tz ((hI.gen (t2 := (zup (mg t s9).1 [(69, (((mg t s9).1 69).1, vp_updL (((mg t s9).1 69).2.1) 0 v9.toInt64, ((mg t s9).1 69).2.2))], (mg t s9).2)) (is := [69]) (L2 := []) h1 rfl ⟨kd_69.mpr rfl, trivial⟩ (by decide) (by decide) (fun _ h => nomatch h) (fun _ h => nomatch h) (fun i hi hn => zup_out (fun q => hn ((by decide : ∀ j ∈ ([69] : List Nat), j ∈ ([69] : List Nat)) i q))) (fun h => h) rfl)) (tx_all rfl)⟩
abbrev M_Lw_shrunk : zM := (⟨"IronpourLaw", "shrunk", "(LIronpour;I[J)I"⟩, method_11_code, 4, (Option.some FieldType.int), 8, 157, [((0 : Nat), (9 : Nat), (12 : Nat), (13 : Nat))])
theorem d_Lw_shrunk_0 : decode method_11_code 0 = .ok (.aload_n 2, 1) := zo_44 (zd_b zq_method_11_code_0 0 rfl rfl rfl)
theorem d_Lw_shrunk_1 : decode method_11_code 1 = .ok (.iconst 0, 1) := zo_3 (zd_b zq_method_11_code_0 1 rfl rfl rfl)
theorem d_Lw_shrunk_2 : decode method_11_code 2 = .ok (.aload_n 0, 1) := zo_42 (zd_b zq_method_11_code_0 2 rfl rfl rfl)
theorem d_Lw_shrunk_3 : decode method_11_code 3 = .ok (.iload_n 1, 1) := zo_27 (zd_b zq_method_11_code_0 3 rfl rfl rfl)
theorem d_Lw_shrunk_4 : decode method_11_code 4 = .ok (.invokevirtual 47, 3) := zo_182 (d := 0) (e := 47) (zd_b zq_method_11_code_0 4 rfl rfl rfl) (zd_b zq_method_11_code_0 5 rfl rfl rfl) (zd_b zq_method_11_code_0 6 rfl rfl rfl)
theorem ok_Lw_shrunk_Ip_shrunk : z_okH M_Lw_shrunk M_Ip_shrunk 1 := ⟨z_mj4 (i := 124) rfl (by decide +kernel), rfl, ⟨by decide +kernel, by decide +kernel, by decide +kernel⟩, ⟨by decide, by decide⟩, z_mj1 (i := 1) rfl (by decide +kernel)⟩
theorem ln_Lw_47 : Cond.methodLink "IronpourLaw" 47 M_Ip_shrunk.1 ∈ z_gw := z_mj4 (i := 121) rfl (by decide +kernel)
theorem w_im_Ip_shrunk : Cond.instanceMethod M_Ip_shrunk.1 ∈ z_gw := z_mj4 (i := 122) rfl (by decide +kernel)
theorem w_se_Ip_shrunk : Cond.selects M_Ip_shrunk.1.cls M_Ip_shrunk.1 M_Ip_shrunk.1 ∈ z_gw := z_mj4 (i := 123) rfl (by decide +kernel)
theorem d_Lw_shrunk_12 : decode method_11_code 12 = .ok (.astore_n 3, 1) := zo_78 (zd_b zq_method_11_code_0 12 rfl rfl rfl)
theorem d_Lw_shrunk_13 : decode method_11_code 13 = .ok (.iconst 1, 1) := zo_4 (zd_b zq_method_11_code_0 13 rfl rfl rfl)
theorem d_Lw_shrunk_14 : decode method_11_code 14 = .ok (.ireturn, 1) := zo_172 (zd_b zq_method_11_code_0 14 rfl rfl rfl)
theorem d_Lw_shrunk_7 : decode method_11_code 7 = .ok (.i2l, 1) := zo_133 (zd_b zq_method_11_code_0 7 rfl rfl rfl)
theorem d_Lw_shrunk_8 : decode method_11_code 8 = .ok (.lastore, 1) := zo_80 (zd_b zq_method_11_code_0 8 rfl rfl rfl)
theorem d_Lw_shrunk_9 : decode method_11_code 9 = .ok (.goto 6, 3) := zo_167 (d := 0) (e := 6) (zd_b zq_method_11_code_0 9 rfl rfl rfl) (zd_b zq_method_11_code_0 10 rfl rfl rfl) (zd_b zq_method_11_code_0 11 rfl rfl rfl) (by decide +kernel)
theorem d_Lw_shrunk_15 : decode method_11_code 15 = .ok (.iconst 0, 1) := zo_3 (zd_b zq_method_11_code_0 15 rfl rfl rfl)
theorem d_Lw_shrunk_16 : decode method_11_code 16 = .ok (.ireturn, 1) := zo_172 (zd_b zq_method_11_code_0 16 rfl rfl rfl)
set_option maxHeartbeats 4000000 in
set_option maxRecDepth 100000 in
theorem W_shrunk {g : zG} {ad : Nat → Nat} {t : zTT} {u : zNN} {w : zW} (hI : IVm g ad t u w) (h : Int32) : zMB g M_Lw_shrunk [.ref (ad 0), .int h, .ref (ad 69)] w (fun o w1 => MKx g ad t u.1 o w1) 10 300 := by
  obtain ⟨s, hI⟩ := hI
  obtain ⟨e_a, wf_a, k_a⟩ := hI.1.2 0 (by decide)
  obtain rfl := kd_0.mp k_a
  obtain ⟨e_o1, wf_o1, k_o1⟩ := hI.1.2 69 (by decide)
  obtain rfl := kd_69.mp k_o1
  refine y_ofH (by decide) (by decide) (Nat.le_of_ble_eq_true rfl) (y_base (cs := [((ad 0), .inr (11, [.ref (ad 1), .ref (ad 5), .ref (ad 18), .ref (ad 31), .ref (ad 32), .ref (ad 36), .ref (ad 42), .ref (ad 45), .ref (ad 47), .ref (ad 49), .ref (ad 50), .ref (ad 51)])), ((ad 69), .inl (3, 1, .inr (.inl (((mg t s).1 69).2.1))))]) (hI.1.I [0, 69] _ rfl (by decide) (by decide) (List.forall_mem_cons.mpr ⟨wf_a, (List.forall_mem_cons.mpr ⟨wf_o1, (fun _ h => nomatch h)⟩)⟩)) ?_)
  refine y_lvE (lv2 := [(0, .ref (ad 0)), (1, .int h), (2, .ref (ad 69))]) rfl ?_
  refine y_aload_n d_Lw_shrunk_0 rfl 2 rfl ?_
  refine y_iconst d_Lw_shrunk_1 (v := 0) (by decide) ?_
  refine y_aload_n d_Lw_shrunk_2 rfl 0 rfl ?_
  refine y_iload_n d_Lw_shrunk_3 rfl 1 rfl ?_
  refine yw_callVH (As := [.int h]) (rest := [.int 0, .ref (ad 69)]) (q0 := 0) rfl rfl ln_Lw_47 w_im_Ip_shrunk w_se_Ip_shrunk ok_Lw_shrunk_Ip_shrunk d_Lw_shrunk_4 (fun wA hA => K_Ip_shrunk ⟨_, (hI.gen (t2 := (mg t s)) (is := [0, 69]) (L2 := []) hA rfl ⟨kd_0.mpr rfl, kd_69.mpr rfl, trivial⟩ (by decide) (by decide) (fun _ h => nomatch h) (fun _ h => nomatch h) (fun _ _ _ => rfl) (fun h => h) rfl)⟩ h) rfl rfl (Nat.le_of_ble_eq_true rfl) (by omega) (by omega) (fun wA4 hA4 E wB4 hx => ?_) (fun wA4 hA4 v wB4 hx => ?_)
  · obtain ⟨h1, u2, hu, hI2⟩ := hx
    obtain rfl := List.mem_singleton.mp (zriE h1)
    refine ⟨"java/lang/IllegalArgumentException", [], [], (0, 9, 12, 13), rfl, (fun z hz => nomatch hz), by decide, by decide, lx_Lw_13, ce_13, fun qx => ?_⟩
    refine y_base (cs := []) (z_I.nil wB4) ?_
    refine y_astore_n (lv' := [(3, .ref qx), (0, .ref (ad 0)), (1, .int h), (2, .ref (ad 69))]) d_Lw_shrunk_12 rfl (by decide) rfl ?_
    refine y_iconst d_Lw_shrunk_13 (v := 1) (by decide) ?_
    refine y_iret d_Lw_shrunk_14 rfl rfl ?_
    exact fun w1 h1 => ⟨⟨_, rfl⟩, u2, hu, (z_I.same (z_I.nil _) h1).symm ▸ hI2⟩
  · obtain ⟨h1, u2, hu, hI2⟩ := hx
    obtain ⟨v9, rfl⟩ := zriV h1
    refine yw_st (st2 := [.int v9, .int 0, .ref (ad 69)]) rfl ?_
    obtain ⟨s9, hI⟩ := hI2
    obtain ⟨e_o1, wf_o1, k_o1⟩ := hI.1.2 69 (by decide)
    obtain rfl := kd_69.mp k_o1
    refine y_base (cs := [((ad 69), .inl (3, 1, .inr (.inl (((mg t s9).1 69).2.1))))]) (hI.1.I [69] _ rfl (by decide) (by decide) (List.forall_mem_cons.mpr ⟨wf_o1, (fun _ h => nomatch h)⟩)) ?_
    refine y_i2l d_Lw_shrunk_7 (v := v9.toInt64) rfl ?_
    refine y_last d_Lw_shrunk_8 (q0 := 0) rfl (fun q => q.elim (by decide) (by decide)) (f' := vp_updL (((mg t s9).1 69).2.1) 0 v9.toInt64) rfl (cs' := [((ad 69), .inl (3, 1, .inr (.inl (vp_updL (((mg t s9).1 69).2.1) 0 v9.toInt64))))]) rfl ?_
    refine y_goto (tgt := 15) d_Lw_shrunk_9 (by decide) ?_
    refine y_iconst d_Lw_shrunk_15 (v := 0) (by decide) ?_
    refine y_iret d_Lw_shrunk_16 rfl rfl ?_
    exact fun w1 h1 => ⟨⟨_, rfl⟩, u2, hu, IVm.tz ((hI.gen (t2 := (zup (mg t s9).1 [(69, (((mg t s9).1 69).1, vp_updL (((mg t s9).1 69).2.1) 0 v9.toInt64, ((mg t s9).1 69).2.2))], (mg t s9).2)) (is := [69]) (L2 := []) h1 rfl ⟨kd_69.mpr rfl, trivial⟩ (by decide) (by decide) (fun _ h => nomatch h) (fun _ h => nomatch h) (fun i hi hn => zup_out (fun q => hn ((by decide : ∀ j ∈ ([69] : List Nat), j ∈ ([69] : List Nat)) i q))) (fun h => h) rfl)) (tx_all rfl)⟩
abbrev M_Lw_shrunkAnew : zM := (⟨"IronpourLaw", "shrunkAnew", "(LIronpour;I[J)I"⟩, method_12_code, 4, (Option.some FieldType.int), 8, 157, [((0 : Nat), (9 : Nat), (12 : Nat), (13 : Nat))])
theorem d_Lw_shrunkAnew_0 : decode method_12_code 0 = .ok (.aload_n 2, 1) := zo_44 (zd_b zq_method_12_code_0 0 rfl rfl rfl)
theorem d_Lw_shrunkAnew_1 : decode method_12_code 1 = .ok (.iconst 0, 1) := zo_3 (zd_b zq_method_12_code_0 1 rfl rfl rfl)
theorem d_Lw_shrunkAnew_2 : decode method_12_code 2 = .ok (.aload_n 0, 1) := zo_42 (zd_b zq_method_12_code_0 2 rfl rfl rfl)
theorem d_Lw_shrunkAnew_3 : decode method_12_code 3 = .ok (.iload_n 1, 1) := zo_27 (zd_b zq_method_12_code_0 3 rfl rfl rfl)
theorem d_Lw_shrunkAnew_4 : decode method_12_code 4 = .ok (.invokevirtual 50, 3) := zo_182 (d := 0) (e := 50) (zd_b zq_method_12_code_0 4 rfl rfl rfl) (zd_b zq_method_12_code_0 5 rfl rfl rfl) (zd_b zq_method_12_code_0 6 rfl rfl rfl)
theorem ok_Lw_shrunkAnew_Ip_shrunkAnew : z_okH M_Lw_shrunkAnew M_Ip_shrunkAnew 1 := ⟨z_mj4 (i := 135) rfl (by decide +kernel), rfl, ⟨by decide +kernel, by decide +kernel, by decide +kernel⟩, ⟨by decide, by decide⟩, z_mj1 (i := 1) rfl (by decide +kernel)⟩
theorem ln_Lw_50 : Cond.methodLink "IronpourLaw" 50 M_Ip_shrunkAnew.1 ∈ z_gw := z_mj4 (i := 132) rfl (by decide +kernel)
theorem w_im_Ip_shrunkAnew : Cond.instanceMethod M_Ip_shrunkAnew.1 ∈ z_gw := z_mj4 (i := 133) rfl (by decide +kernel)
theorem w_se_Ip_shrunkAnew : Cond.selects M_Ip_shrunkAnew.1.cls M_Ip_shrunkAnew.1 M_Ip_shrunkAnew.1 ∈ z_gw := z_mj4 (i := 134) rfl (by decide +kernel)
theorem d_Lw_shrunkAnew_12 : decode method_12_code 12 = .ok (.astore_n 3, 1) := zo_78 (zd_b zq_method_12_code_0 12 rfl rfl rfl)
theorem d_Lw_shrunkAnew_13 : decode method_12_code 13 = .ok (.iconst 1, 1) := zo_4 (zd_b zq_method_12_code_0 13 rfl rfl rfl)
theorem d_Lw_shrunkAnew_14 : decode method_12_code 14 = .ok (.ireturn, 1) := zo_172 (zd_b zq_method_12_code_0 14 rfl rfl rfl)
theorem d_Lw_shrunkAnew_7 : decode method_12_code 7 = .ok (.i2l, 1) := zo_133 (zd_b zq_method_12_code_0 7 rfl rfl rfl)
theorem d_Lw_shrunkAnew_8 : decode method_12_code 8 = .ok (.lastore, 1) := zo_80 (zd_b zq_method_12_code_0 8 rfl rfl rfl)
theorem d_Lw_shrunkAnew_9 : decode method_12_code 9 = .ok (.goto 6, 3) := zo_167 (d := 0) (e := 6) (zd_b zq_method_12_code_0 9 rfl rfl rfl) (zd_b zq_method_12_code_0 10 rfl rfl rfl) (zd_b zq_method_12_code_0 11 rfl rfl rfl) (by decide +kernel)
theorem d_Lw_shrunkAnew_15 : decode method_12_code 15 = .ok (.iconst 0, 1) := zo_3 (zd_b zq_method_12_code_0 15 rfl rfl rfl)
theorem d_Lw_shrunkAnew_16 : decode method_12_code 16 = .ok (.ireturn, 1) := zo_172 (zd_b zq_method_12_code_0 16 rfl rfl rfl)
set_option maxHeartbeats 4000000 in
set_option maxRecDepth 100000 in
theorem W_shrunkAnew {g : zG} {ad : Nat → Nat} {t : zTT} {u : zNN} {w : zW} (hI : IVm g ad t u w) (h : Int32) : zMB g M_Lw_shrunkAnew [.ref (ad 0), .int h, .ref (ad 69)] w (fun o w1 => MKx g ad t u.1 o w1) 10 300 := by
  obtain ⟨s, hI⟩ := hI
  obtain ⟨e_a, wf_a, k_a⟩ := hI.1.2 0 (by decide)
  obtain rfl := kd_0.mp k_a
  obtain ⟨e_o1, wf_o1, k_o1⟩ := hI.1.2 69 (by decide)
  obtain rfl := kd_69.mp k_o1
  refine y_ofH (by decide) (by decide) (Nat.le_of_ble_eq_true rfl) (y_base (cs := [((ad 0), .inr (11, [.ref (ad 1), .ref (ad 5), .ref (ad 18), .ref (ad 31), .ref (ad 32), .ref (ad 36), .ref (ad 42), .ref (ad 45), .ref (ad 47), .ref (ad 49), .ref (ad 50), .ref (ad 51)])), ((ad 69), .inl (3, 1, .inr (.inl (((mg t s).1 69).2.1))))]) (hI.1.I [0, 69] _ rfl (by decide) (by decide) (List.forall_mem_cons.mpr ⟨wf_a, (List.forall_mem_cons.mpr ⟨wf_o1, (fun _ h => nomatch h)⟩)⟩)) ?_)
  refine y_lvE (lv2 := [(0, .ref (ad 0)), (1, .int h), (2, .ref (ad 69))]) rfl ?_
  refine y_aload_n d_Lw_shrunkAnew_0 rfl 2 rfl ?_
  refine y_iconst d_Lw_shrunkAnew_1 (v := 0) (by decide) ?_
  refine y_aload_n d_Lw_shrunkAnew_2 rfl 0 rfl ?_
  refine y_iload_n d_Lw_shrunkAnew_3 rfl 1 rfl ?_
  refine yw_callVH (As := [.int h]) (rest := [.int 0, .ref (ad 69)]) (q0 := 0) rfl rfl ln_Lw_50 w_im_Ip_shrunkAnew w_se_Ip_shrunkAnew ok_Lw_shrunkAnew_Ip_shrunkAnew d_Lw_shrunkAnew_4 (fun wA hA => K_Ip_shrunkAnew ⟨_, (hI.gen (t2 := (mg t s)) (is := [0, 69]) (L2 := []) hA rfl ⟨kd_0.mpr rfl, kd_69.mpr rfl, trivial⟩ (by decide) (by decide) (fun _ h => nomatch h) (fun _ h => nomatch h) (fun _ _ _ => rfl) (fun h => h) rfl)⟩ h) rfl rfl (Nat.le_of_ble_eq_true rfl) (by omega) (by omega) (fun wA4 hA4 E wB4 hx => ?_) (fun wA4 hA4 v wB4 hx => ?_)
  · obtain ⟨h1, u2, hu, hI2⟩ := hx
    obtain rfl := List.mem_singleton.mp (zriE h1)
    refine ⟨"java/lang/IllegalArgumentException", [], [], (0, 9, 12, 13), rfl, (fun z hz => nomatch hz), by decide, by decide, lx_Lw_13, ce_13, fun qx => ?_⟩
    refine y_base (cs := []) (z_I.nil wB4) ?_
    refine y_astore_n (lv' := [(3, .ref qx), (0, .ref (ad 0)), (1, .int h), (2, .ref (ad 69))]) d_Lw_shrunkAnew_12 rfl (by decide) rfl ?_
    refine y_iconst d_Lw_shrunkAnew_13 (v := 1) (by decide) ?_
    refine y_iret d_Lw_shrunkAnew_14 rfl rfl ?_
    exact fun w1 h1 => ⟨⟨_, rfl⟩, u2, hu, (z_I.same (z_I.nil _) h1).symm ▸ hI2⟩
  · obtain ⟨h1, u2, hu, hI2⟩ := hx
    obtain ⟨v9, rfl⟩ := zriV h1
    refine yw_st (st2 := [.int v9, .int 0, .ref (ad 69)]) rfl ?_
    obtain ⟨s9, hI⟩ := hI2
    obtain ⟨e_o1, wf_o1, k_o1⟩ := hI.1.2 69 (by decide)
    obtain rfl := kd_69.mp k_o1
    refine y_base (cs := [((ad 69), .inl (3, 1, .inr (.inl (((mg t s9).1 69).2.1))))]) (hI.1.I [69] _ rfl (by decide) (by decide) (List.forall_mem_cons.mpr ⟨wf_o1, (fun _ h => nomatch h)⟩)) ?_
    refine y_i2l d_Lw_shrunkAnew_7 (v := v9.toInt64) rfl ?_
    refine y_last d_Lw_shrunkAnew_8 (q0 := 0) rfl (fun q => q.elim (by decide) (by decide)) (f' := vp_updL (((mg t s9).1 69).2.1) 0 v9.toInt64) rfl (cs' := [((ad 69), .inl (3, 1, .inr (.inl (vp_updL (((mg t s9).1 69).2.1) 0 v9.toInt64))))]) rfl ?_
    refine y_goto (tgt := 15) d_Lw_shrunkAnew_9 (by decide) ?_
    refine y_iconst d_Lw_shrunkAnew_15 (v := 0) (by decide) ?_
    refine y_iret d_Lw_shrunkAnew_16 rfl rfl ?_
    exact fun w1 h1 => ⟨⟨_, rfl⟩, u2, hu, IVm.tz ((hI.gen (t2 := (zup (mg t s9).1 [(69, (((mg t s9).1 69).1, vp_updL (((mg t s9).1 69).2.1) 0 v9.toInt64, ((mg t s9).1 69).2.2))], (mg t s9).2)) (is := [69]) (L2 := []) h1 rfl ⟨kd_69.mpr rfl, trivial⟩ (by decide) (by decide) (fun _ h => nomatch h) (fun _ h => nomatch h) (fun i hi hn => zup_out (fun q => hn ((by decide : ∀ j ∈ ([69] : List Nat), j ∈ ([69] : List Nat)) i q))) (fun h => h) rfl)) (tx_all rfl)⟩
abbrev M_Lw_lastPlace : zM := (⟨"IronpourLaw", "lastPlace", "(LIronpour;I[J)I"⟩, method_13_code, 4, (Option.some FieldType.int), 8, 158, [((0 : Nat), (9 : Nat), (12 : Nat), (13 : Nat)), ((0 : Nat), (9 : Nat), (15 : Nat), (33 : Nat))])
theorem d_Lw_lastPlace_0 : decode method_13_code 0 = .ok (.aload_n 2, 1) := zo_44 (zd_b zq_method_13_code_0 0 rfl rfl rfl)
theorem d_Lw_lastPlace_1 : decode method_13_code 1 = .ok (.iconst 0, 1) := zo_3 (zd_b zq_method_13_code_0 1 rfl rfl rfl)
theorem d_Lw_lastPlace_2 : decode method_13_code 2 = .ok (.aload_n 0, 1) := zo_42 (zd_b zq_method_13_code_0 2 rfl rfl rfl)
theorem d_Lw_lastPlace_3 : decode method_13_code 3 = .ok (.iload_n 1, 1) := zo_27 (zd_b zq_method_13_code_0 3 rfl rfl rfl)
theorem d_Lw_lastPlace_4 : decode method_13_code 4 = .ok (.invokevirtual 53, 3) := zo_182 (d := 0) (e := 53) (zd_b zq_method_13_code_0 4 rfl rfl rfl) (zd_b zq_method_13_code_0 5 rfl rfl rfl) (zd_b zq_method_13_code_0 6 rfl rfl rfl)
theorem ok_Lw_lastPlace_Ip_lastPlace : z_okH M_Lw_lastPlace M_Ip_lastPlace 1 := ⟨z_mj4 (i := 146) rfl (by decide +kernel), rfl, ⟨by decide +kernel, by decide +kernel, by decide +kernel⟩, ⟨by decide, by decide⟩, z_mj1 (i := 1) rfl (by decide +kernel)⟩
theorem ln_Lw_53 : Cond.methodLink "IronpourLaw" 53 M_Ip_lastPlace.1 ∈ z_gw := z_mj4 (i := 143) rfl (by decide +kernel)
theorem w_im_Ip_lastPlace : Cond.instanceMethod M_Ip_lastPlace.1 ∈ z_gw := z_mj4 (i := 144) rfl (by decide +kernel)
theorem w_se_Ip_lastPlace : Cond.selects M_Ip_lastPlace.1.cls M_Ip_lastPlace.1 M_Ip_lastPlace.1 ∈ z_gw := z_mj4 (i := 145) rfl (by decide +kernel)
theorem d_Lw_lastPlace_12 : decode method_13_code 12 = .ok (.astore_n 3, 1) := zo_78 (zd_b zq_method_13_code_0 12 rfl rfl rfl)
theorem d_Lw_lastPlace_13 : decode method_13_code 13 = .ok (.iconst 1, 1) := zo_4 (zd_b zq_method_13_code_0 13 rfl rfl rfl)
theorem d_Lw_lastPlace_14 : decode method_13_code 14 = .ok (.ireturn, 1) := zo_172 (zd_b zq_method_13_code_0 14 rfl rfl rfl)
theorem d_Lw_lastPlace_15 : decode method_13_code 15 = .ok (.astore_n 3, 1) := zo_78 (zd_b zq_method_13_code_0 15 rfl rfl rfl)
theorem d_Lw_lastPlace_16 : decode method_13_code 16 = .ok (.iconst 2, 1) := zo_5 (zd_b zq_method_13_code_0 16 rfl rfl rfl)
theorem d_Lw_lastPlace_17 : decode method_13_code 17 = .ok (.ireturn, 1) := zo_172 (zd_b zq_method_13_code_0 17 rfl rfl rfl)
theorem d_Lw_lastPlace_7 : decode method_13_code 7 = .ok (.i2l, 1) := zo_133 (zd_b zq_method_13_code_0 7 rfl rfl rfl)
theorem d_Lw_lastPlace_8 : decode method_13_code 8 = .ok (.lastore, 1) := zo_80 (zd_b zq_method_13_code_0 8 rfl rfl rfl)
theorem d_Lw_lastPlace_9 : decode method_13_code 9 = .ok (.goto 9, 3) := zo_167 (d := 0) (e := 9) (zd_b zq_method_13_code_0 9 rfl rfl rfl) (zd_b zq_method_13_code_0 10 rfl rfl rfl) (zd_b zq_method_13_code_0 11 rfl rfl rfl) (by decide +kernel)
theorem d_Lw_lastPlace_18 : decode method_13_code 18 = .ok (.iconst 0, 1) := zo_3 (zd_b zq_method_13_code_0 18 rfl rfl rfl)
theorem d_Lw_lastPlace_19 : decode method_13_code 19 = .ok (.ireturn, 1) := zo_172 (zd_b zq_method_13_code_0 19 rfl rfl rfl)
set_option maxHeartbeats 4000000 in
set_option maxRecDepth 100000 in
theorem W_lastPlace {g : zG} {ad : Nat → Nat} {t : zTT} {u : zNN} {w : zW} (hI : IVm g ad t u w) (h : Int32) : zMB g M_Lw_lastPlace [.ref (ad 0), .int h, .ref (ad 69)] w (fun o w1 => MKx g ad t u.1 o w1) 10 300 := by
  obtain ⟨s, hI⟩ := hI
  obtain ⟨e_a, wf_a, k_a⟩ := hI.1.2 0 (by decide)
  obtain rfl := kd_0.mp k_a
  obtain ⟨e_o1, wf_o1, k_o1⟩ := hI.1.2 69 (by decide)
  obtain rfl := kd_69.mp k_o1
  refine y_ofH (by decide) (by decide) (Nat.le_of_ble_eq_true rfl) (y_base (cs := [((ad 0), .inr (11, [.ref (ad 1), .ref (ad 5), .ref (ad 18), .ref (ad 31), .ref (ad 32), .ref (ad 36), .ref (ad 42), .ref (ad 45), .ref (ad 47), .ref (ad 49), .ref (ad 50), .ref (ad 51)])), ((ad 69), .inl (3, 1, .inr (.inl (((mg t s).1 69).2.1))))]) (hI.1.I [0, 69] _ rfl (by decide) (by decide) (List.forall_mem_cons.mpr ⟨wf_a, (List.forall_mem_cons.mpr ⟨wf_o1, (fun _ h => nomatch h)⟩)⟩)) ?_)
  refine y_lvE (lv2 := [(0, .ref (ad 0)), (1, .int h), (2, .ref (ad 69))]) rfl ?_
  refine y_aload_n d_Lw_lastPlace_0 rfl 2 rfl ?_
  refine y_iconst d_Lw_lastPlace_1 (v := 0) (by decide) ?_
  refine y_aload_n d_Lw_lastPlace_2 rfl 0 rfl ?_
  refine y_iload_n d_Lw_lastPlace_3 rfl 1 rfl ?_
  refine yw_callVH (As := [.int h]) (rest := [.int 0, .ref (ad 69)]) (q0 := 0) rfl rfl ln_Lw_53 w_im_Ip_lastPlace w_se_Ip_lastPlace ok_Lw_lastPlace_Ip_lastPlace d_Lw_lastPlace_4 (fun wA hA => K_Ip_lastPlace ⟨_, (hI.gen (t2 := (mg t s)) (is := [0, 69]) (L2 := []) hA rfl ⟨kd_0.mpr rfl, kd_69.mpr rfl, trivial⟩ (by decide) (by decide) (fun _ h => nomatch h) (fun _ h => nomatch h) (fun _ _ _ => rfl) (fun h => h) rfl)⟩ h) rfl rfl (Nat.le_of_ble_eq_true rfl) (by omega) (by omega) (fun wA4 hA4 E wB4 hx => ?_) (fun wA4 hA4 v wB4 hx => ?_)
  · obtain ⟨h1, u2, hu, hI2⟩ := hx
    rcases List.mem_cons.mp (zriE h1) with rfl | g2
    · refine ⟨"java/lang/IllegalArgumentException", [], [(0, 9, 15, 33)], (0, 9, 12, 13), rfl, (fun z hz => nomatch hz), by decide, by decide, lx_Lw_13, ce_13, fun qx => ?_⟩
      refine y_base (cs := []) (z_I.nil wB4) ?_
      refine y_astore_n (lv' := [(3, .ref qx), (0, .ref (ad 0)), (1, .int h), (2, .ref (ad 69))]) d_Lw_lastPlace_12 rfl (by decide) rfl ?_
      refine y_iconst d_Lw_lastPlace_13 (v := 1) (by decide) ?_
      refine y_iret d_Lw_lastPlace_14 rfl rfl ?_
      exact fun w1 h1 => ⟨⟨_, rfl⟩, u2, hu, (z_I.same (z_I.nil _) h1).symm ▸ hI2⟩
    · obtain rfl := List.mem_singleton.mp g2
      refine ⟨"java/util/NoSuchElementException", [(0, 9, 12, 13)], [], (0, 9, 15, 33), rfl, (fun z hz => by simp only [List.mem_cons, List.not_mem_nil, or_false] at hz; rcases hz with rfl; exact Or.inr ⟨by decide, _, lx_Lw_13, by decide⟩), by decide, by decide, lx_Lw_33, ce_33, fun qx => ?_⟩
      refine y_base (cs := []) (z_I.nil wB4) ?_
      refine y_astore_n (lv' := [(3, .ref qx), (0, .ref (ad 0)), (1, .int h), (2, .ref (ad 69))]) d_Lw_lastPlace_15 rfl (by decide) rfl ?_
      refine y_iconst d_Lw_lastPlace_16 (v := 2) (by decide) ?_
      refine y_iret d_Lw_lastPlace_17 rfl rfl ?_
      exact fun w1 h1 => ⟨⟨_, rfl⟩, u2, hu, (z_I.same (z_I.nil _) h1).symm ▸ hI2⟩
  · obtain ⟨h1, u2, hu, hI2⟩ := hx
    obtain ⟨v9, rfl⟩ := zriV h1
    refine yw_st (st2 := [.int v9, .int 0, .ref (ad 69)]) rfl ?_
    obtain ⟨s9, hI⟩ := hI2
    obtain ⟨e_o1, wf_o1, k_o1⟩ := hI.1.2 69 (by decide)
    obtain rfl := kd_69.mp k_o1
    refine y_base (cs := [((ad 69), .inl (3, 1, .inr (.inl (((mg t s9).1 69).2.1))))]) (hI.1.I [69] _ rfl (by decide) (by decide) (List.forall_mem_cons.mpr ⟨wf_o1, (fun _ h => nomatch h)⟩)) ?_
    refine y_i2l d_Lw_lastPlace_7 (v := v9.toInt64) rfl ?_
    refine y_last d_Lw_lastPlace_8 (q0 := 0) rfl (fun q => q.elim (by decide) (by decide)) (f' := vp_updL (((mg t s9).1 69).2.1) 0 v9.toInt64) rfl (cs' := [((ad 69), .inl (3, 1, .inr (.inl (vp_updL (((mg t s9).1 69).2.1) 0 v9.toInt64))))]) rfl ?_
    refine y_goto (tgt := 18) d_Lw_lastPlace_9 (by decide) ?_
    refine y_iconst d_Lw_lastPlace_18 (v := 0) (by decide) ?_
    refine y_iret d_Lw_lastPlace_19 rfl rfl ?_
    exact fun w1 h1 => ⟨⟨_, rfl⟩, u2, hu, IVm.tz ((hI.gen (t2 := (zup (mg t s9).1 [(69, (((mg t s9).1 69).1, vp_updL (((mg t s9).1 69).2.1) 0 v9.toInt64, ((mg t s9).1 69).2.2))], (mg t s9).2)) (is := [69]) (L2 := []) h1 rfl ⟨kd_69.mpr rfl, trivial⟩ (by decide) (by decide) (fun _ h => nomatch h) (fun _ h => nomatch h) (fun i hi hn => zup_out (fun q => hn ((by decide : ∀ j ∈ ([69] : List Nat), j ∈ ([69] : List Nat)) i q))) (fun h => h) rfl)) (tx_all rfl)⟩
abbrev M_Lw_bestFeeder : zM := (⟨"IronpourLaw", "bestFeeder", "(LIronpour;I[J)I"⟩, method_14_code, 4, (Option.some FieldType.int), 8, 184, [((0 : Nat), (9 : Nat), (12 : Nat), (13 : Nat)), ((0 : Nat), (9 : Nat), (15 : Nat), (33 : Nat))])
theorem d_Lw_bestFeeder_0 : decode method_14_code 0 = .ok (.aload_n 2, 1) := zo_44 (zd_b zq_method_14_code_0 0 rfl rfl rfl)
theorem d_Lw_bestFeeder_1 : decode method_14_code 1 = .ok (.iconst 0, 1) := zo_3 (zd_b zq_method_14_code_0 1 rfl rfl rfl)
theorem d_Lw_bestFeeder_2 : decode method_14_code 2 = .ok (.aload_n 0, 1) := zo_42 (zd_b zq_method_14_code_0 2 rfl rfl rfl)
theorem d_Lw_bestFeeder_3 : decode method_14_code 3 = .ok (.iload_n 1, 1) := zo_27 (zd_b zq_method_14_code_0 3 rfl rfl rfl)
theorem d_Lw_bestFeeder_4 : decode method_14_code 4 = .ok (.invokevirtual 56, 3) := zo_182 (d := 0) (e := 56) (zd_b zq_method_14_code_0 4 rfl rfl rfl) (zd_b zq_method_14_code_0 5 rfl rfl rfl) (zd_b zq_method_14_code_0 6 rfl rfl rfl)
theorem ok_Lw_bestFeeder_Ip_bestFeeder : z_okH M_Lw_bestFeeder M_Ip_bestFeeder 1 := ⟨z_mj4 (i := 158) rfl (by decide +kernel), rfl, ⟨by decide +kernel, by decide +kernel, by decide +kernel⟩, ⟨by decide, by decide⟩, z_mj1 (i := 1) rfl (by decide +kernel)⟩
theorem ln_Lw_56 : Cond.methodLink "IronpourLaw" 56 M_Ip_bestFeeder.1 ∈ z_gw := z_mj4 (i := 155) rfl (by decide +kernel)
theorem w_im_Ip_bestFeeder : Cond.instanceMethod M_Ip_bestFeeder.1 ∈ z_gw := z_mj4 (i := 156) rfl (by decide +kernel)
theorem w_se_Ip_bestFeeder : Cond.selects M_Ip_bestFeeder.1.cls M_Ip_bestFeeder.1 M_Ip_bestFeeder.1 ∈ z_gw := z_mj4 (i := 157) rfl (by decide +kernel)
theorem d_Lw_bestFeeder_12 : decode method_14_code 12 = .ok (.astore_n 3, 1) := zo_78 (zd_b zq_method_14_code_0 12 rfl rfl rfl)
theorem d_Lw_bestFeeder_13 : decode method_14_code 13 = .ok (.iconst 1, 1) := zo_4 (zd_b zq_method_14_code_0 13 rfl rfl rfl)
theorem d_Lw_bestFeeder_14 : decode method_14_code 14 = .ok (.ireturn, 1) := zo_172 (zd_b zq_method_14_code_0 14 rfl rfl rfl)
theorem d_Lw_bestFeeder_15 : decode method_14_code 15 = .ok (.astore_n 3, 1) := zo_78 (zd_b zq_method_14_code_0 15 rfl rfl rfl)
theorem d_Lw_bestFeeder_16 : decode method_14_code 16 = .ok (.iconst 2, 1) := zo_5 (zd_b zq_method_14_code_0 16 rfl rfl rfl)
theorem d_Lw_bestFeeder_17 : decode method_14_code 17 = .ok (.ireturn, 1) := zo_172 (zd_b zq_method_14_code_0 17 rfl rfl rfl)
theorem d_Lw_bestFeeder_7 : decode method_14_code 7 = .ok (.i2l, 1) := zo_133 (zd_b zq_method_14_code_0 7 rfl rfl rfl)
theorem d_Lw_bestFeeder_8 : decode method_14_code 8 = .ok (.lastore, 1) := zo_80 (zd_b zq_method_14_code_0 8 rfl rfl rfl)
theorem d_Lw_bestFeeder_9 : decode method_14_code 9 = .ok (.goto 9, 3) := zo_167 (d := 0) (e := 9) (zd_b zq_method_14_code_0 9 rfl rfl rfl) (zd_b zq_method_14_code_0 10 rfl rfl rfl) (zd_b zq_method_14_code_0 11 rfl rfl rfl) (by decide +kernel)
theorem d_Lw_bestFeeder_18 : decode method_14_code 18 = .ok (.iconst 0, 1) := zo_3 (zd_b zq_method_14_code_0 18 rfl rfl rfl)
theorem d_Lw_bestFeeder_19 : decode method_14_code 19 = .ok (.ireturn, 1) := zo_172 (zd_b zq_method_14_code_0 19 rfl rfl rfl)
set_option maxHeartbeats 4000000 in
set_option maxRecDepth 100000 in
theorem W_bestFeeder {g : zG} {ad : Nat → Nat} {t : zTT} {u : zNN} {w : zW} (hI : IVm g ad t u w) (h : Int32) : zMB g M_Lw_bestFeeder [.ref (ad 0), .int h, .ref (ad 69)] w (fun o w1 => MKx g ad t u.1 o w1) 10 300 := by
  obtain ⟨s, hI⟩ := hI
  obtain ⟨e_a, wf_a, k_a⟩ := hI.1.2 0 (by decide)
  obtain rfl := kd_0.mp k_a
  obtain ⟨e_o1, wf_o1, k_o1⟩ := hI.1.2 69 (by decide)
  obtain rfl := kd_69.mp k_o1
  refine y_ofH (by decide) (by decide) (Nat.le_of_ble_eq_true rfl) (y_base (cs := [((ad 0), .inr (11, [.ref (ad 1), .ref (ad 5), .ref (ad 18), .ref (ad 31), .ref (ad 32), .ref (ad 36), .ref (ad 42), .ref (ad 45), .ref (ad 47), .ref (ad 49), .ref (ad 50), .ref (ad 51)])), ((ad 69), .inl (3, 1, .inr (.inl (((mg t s).1 69).2.1))))]) (hI.1.I [0, 69] _ rfl (by decide) (by decide) (List.forall_mem_cons.mpr ⟨wf_a, (List.forall_mem_cons.mpr ⟨wf_o1, (fun _ h => nomatch h)⟩)⟩)) ?_)
  refine y_lvE (lv2 := [(0, .ref (ad 0)), (1, .int h), (2, .ref (ad 69))]) rfl ?_
  refine y_aload_n d_Lw_bestFeeder_0 rfl 2 rfl ?_
  refine y_iconst d_Lw_bestFeeder_1 (v := 0) (by decide) ?_
  refine y_aload_n d_Lw_bestFeeder_2 rfl 0 rfl ?_
  refine y_iload_n d_Lw_bestFeeder_3 rfl 1 rfl ?_
  refine yw_callVH (As := [.int h]) (rest := [.int 0, .ref (ad 69)]) (q0 := 0) rfl rfl ln_Lw_56 w_im_Ip_bestFeeder w_se_Ip_bestFeeder ok_Lw_bestFeeder_Ip_bestFeeder d_Lw_bestFeeder_4 (fun wA hA => K_Ip_bestFeeder ⟨_, (hI.gen (t2 := (mg t s)) (is := [0, 69]) (L2 := []) hA rfl ⟨kd_0.mpr rfl, kd_69.mpr rfl, trivial⟩ (by decide) (by decide) (fun _ h => nomatch h) (fun _ h => nomatch h) (fun _ _ _ => rfl) (fun h => h) rfl)⟩ h) rfl rfl (Nat.le_of_ble_eq_true rfl) (by omega) (by omega) (fun wA4 hA4 E wB4 hx => ?_) (fun wA4 hA4 v wB4 hx => ?_)
  · obtain ⟨h1, u2, hu, hI2⟩ := hx
    rcases List.mem_cons.mp (zriE h1) with rfl | g2
    · refine ⟨"java/lang/IllegalArgumentException", [], [(0, 9, 15, 33)], (0, 9, 12, 13), rfl, (fun z hz => nomatch hz), by decide, by decide, lx_Lw_13, ce_13, fun qx => ?_⟩
      refine y_base (cs := []) (z_I.nil wB4) ?_
      refine y_astore_n (lv' := [(3, .ref qx), (0, .ref (ad 0)), (1, .int h), (2, .ref (ad 69))]) d_Lw_bestFeeder_12 rfl (by decide) rfl ?_
      refine y_iconst d_Lw_bestFeeder_13 (v := 1) (by decide) ?_
      refine y_iret d_Lw_bestFeeder_14 rfl rfl ?_
      exact fun w1 h1 => ⟨⟨_, rfl⟩, u2, hu, (z_I.same (z_I.nil _) h1).symm ▸ hI2⟩
    · obtain rfl := List.mem_singleton.mp g2
      refine ⟨"java/util/NoSuchElementException", [(0, 9, 12, 13)], [], (0, 9, 15, 33), rfl, (fun z hz => by simp only [List.mem_cons, List.not_mem_nil, or_false] at hz; rcases hz with rfl; exact Or.inr ⟨by decide, _, lx_Lw_13, by decide⟩), by decide, by decide, lx_Lw_33, ce_33, fun qx => ?_⟩
      refine y_base (cs := []) (z_I.nil wB4) ?_
      refine y_astore_n (lv' := [(3, .ref qx), (0, .ref (ad 0)), (1, .int h), (2, .ref (ad 69))]) d_Lw_bestFeeder_15 rfl (by decide) rfl ?_
      refine y_iconst d_Lw_bestFeeder_16 (v := 2) (by decide) ?_
      refine y_iret d_Lw_bestFeeder_17 rfl rfl ?_
      exact fun w1 h1 => ⟨⟨_, rfl⟩, u2, hu, (z_I.same (z_I.nil _) h1).symm ▸ hI2⟩
  · obtain ⟨h1, u2, hu, hI2⟩ := hx
    obtain ⟨v9, rfl⟩ := zriV h1
    refine yw_st (st2 := [.int v9, .int 0, .ref (ad 69)]) rfl ?_
    obtain ⟨s9, hI⟩ := hI2
    obtain ⟨e_o1, wf_o1, k_o1⟩ := hI.1.2 69 (by decide)
    obtain rfl := kd_69.mp k_o1
    refine y_base (cs := [((ad 69), .inl (3, 1, .inr (.inl (((mg t s9).1 69).2.1))))]) (hI.1.I [69] _ rfl (by decide) (by decide) (List.forall_mem_cons.mpr ⟨wf_o1, (fun _ h => nomatch h)⟩)) ?_
    refine y_i2l d_Lw_bestFeeder_7 (v := v9.toInt64) rfl ?_
    refine y_last d_Lw_bestFeeder_8 (q0 := 0) rfl (fun q => q.elim (by decide) (by decide)) (f' := vp_updL (((mg t s9).1 69).2.1) 0 v9.toInt64) rfl (cs' := [((ad 69), .inl (3, 1, .inr (.inl (vp_updL (((mg t s9).1 69).2.1) 0 v9.toInt64))))]) rfl ?_
    refine y_goto (tgt := 18) d_Lw_bestFeeder_9 (by decide) ?_
    refine y_iconst d_Lw_bestFeeder_18 (v := 0) (by decide) ?_
    refine y_iret d_Lw_bestFeeder_19 rfl rfl ?_
    exact fun w1 h1 => ⟨⟨_, rfl⟩, u2, hu, IVm.tz ((hI.gen (t2 := (zup (mg t s9).1 [(69, (((mg t s9).1 69).1, vp_updL (((mg t s9).1 69).2.1) 0 v9.toInt64, ((mg t s9).1 69).2.2))], (mg t s9).2)) (is := [69]) (L2 := []) h1 rfl ⟨kd_69.mpr rfl, trivial⟩ (by decide) (by decide) (fun _ h => nomatch h) (fun _ h => nomatch h) (fun i hi hn => zup_out (fun q => hn ((by decide : ∀ j ∈ ([69] : List Nat), j ∈ ([69] : List Nat)) i q))) (fun h => h) rfl)) (tx_all rfl)⟩
abbrev M_Lw_mill : zM := (⟨"IronpourLaw", "mill", "(LIronpour;IIII[J)I"⟩, method_15_code, 7, (Option.some FieldType.int), 7, 124, [((0 : Nat), (14 : Nat), (17 : Nat), (13 : Nat))])
theorem d_Lw_mill_0 : decode method_15_code 0 = .ok (.aload 5, 2) := zo_25 (d := 5) (zd_b zq_method_15_code_0 0 rfl rfl rfl) (zd_b zq_method_15_code_0 1 rfl rfl rfl)
theorem d_Lw_mill_2 : decode method_15_code 2 = .ok (.iconst 0, 1) := zo_3 (zd_b zq_method_15_code_0 2 rfl rfl rfl)
theorem d_Lw_mill_3 : decode method_15_code 3 = .ok (.aload_n 0, 1) := zo_42 (zd_b zq_method_15_code_0 3 rfl rfl rfl)
theorem d_Lw_mill_4 : decode method_15_code 4 = .ok (.iload_n 1, 1) := zo_27 (zd_b zq_method_15_code_0 4 rfl rfl rfl)
theorem d_Lw_mill_5 : decode method_15_code 5 = .ok (.iload_n 2, 1) := zo_28 (zd_b zq_method_15_code_0 5 rfl rfl rfl)
theorem d_Lw_mill_6 : decode method_15_code 6 = .ok (.iload_n 3, 1) := zo_29 (zd_b zq_method_15_code_0 6 rfl rfl rfl)
theorem d_Lw_mill_7 : decode method_15_code 7 = .ok (.iload 4, 2) := zo_21 (d := 4) (zd_b zq_method_15_code_0 7 rfl rfl rfl) (zd_b zq_method_15_code_0 8 rfl rfl rfl)
theorem d_Lw_mill_9 : decode method_15_code 9 = .ok (.invokevirtual 59, 3) := zo_182 (d := 0) (e := 59) (zd_b zq_method_15_code_0 9 rfl rfl rfl) (zd_b zq_method_15_code_0 10 rfl rfl rfl) (zd_b zq_method_15_code_0 11 rfl rfl rfl)
theorem ok_Lw_mill_Ip_mill : z_okH M_Lw_mill M_Ip_mill 4 := ⟨z_mj4 (i := 174) rfl (by decide +kernel), rfl, ⟨by decide +kernel, by decide +kernel, by decide +kernel⟩, ⟨by decide, by decide⟩, z_mj1 (i := 1) rfl (by decide +kernel)⟩
theorem ln_Lw_59 : Cond.methodLink "IronpourLaw" 59 M_Ip_mill.1 ∈ z_gw := z_mj4 (i := 171) rfl (by decide +kernel)
theorem w_im_Ip_mill : Cond.instanceMethod M_Ip_mill.1 ∈ z_gw := z_mj4 (i := 172) rfl (by decide +kernel)
theorem w_se_Ip_mill : Cond.selects M_Ip_mill.1.cls M_Ip_mill.1 M_Ip_mill.1 ∈ z_gw := z_mj4 (i := 173) rfl (by decide +kernel)
theorem d_Lw_mill_17 : decode method_15_code 17 = .ok (.astore 6, 2) := zo_58 (d := 6) (zd_b zq_method_15_code_0 17 rfl rfl rfl) (zd_b zq_method_15_code_0 18 rfl rfl rfl)
theorem d_Lw_mill_19 : decode method_15_code 19 = .ok (.iconst 1, 1) := zo_4 (zd_b zq_method_15_code_0 19 rfl rfl rfl)
theorem d_Lw_mill_20 : decode method_15_code 20 = .ok (.ireturn, 1) := zo_172 (zd_b zq_method_15_code_0 20 rfl rfl rfl)
theorem d_Lw_mill_12 : decode method_15_code 12 = .ok (.i2l, 1) := zo_133 (zd_b zq_method_15_code_0 12 rfl rfl rfl)
theorem d_Lw_mill_13 : decode method_15_code 13 = .ok (.lastore, 1) := zo_80 (zd_b zq_method_15_code_0 13 rfl rfl rfl)
theorem d_Lw_mill_14 : decode method_15_code 14 = .ok (.goto 7, 3) := zo_167 (d := 0) (e := 7) (zd_b zq_method_15_code_0 14 rfl rfl rfl) (zd_b zq_method_15_code_0 15 rfl rfl rfl) (zd_b zq_method_15_code_0 16 rfl rfl rfl) (by decide +kernel)
theorem d_Lw_mill_21 : decode method_15_code 21 = .ok (.iconst 0, 1) := zo_3 (zd_b zq_method_15_code_0 21 rfl rfl rfl)
theorem d_Lw_mill_22 : decode method_15_code 22 = .ok (.ireturn, 1) := zo_172 (zd_b zq_method_15_code_0 22 rfl rfl rfl)
set_option maxHeartbeats 4000000 in
set_option maxRecDepth 100000 in
theorem W_mill {g : zG} {ad : Nat → Nat} {t : zTT} {u : zNN} {w : zW} (hI : IVm g ad t u w) (m1 m2 m3 m4 : Int32) : zMB g M_Lw_mill [.ref (ad 0), .int m1, .int m2, .int m3, .int m4, .ref (ad 69)] w (fun o w1 => MKx g ad (tK_Ip_mill m1 m2 m3 m4 t) u.1 o w1) 10 300 := by
  obtain ⟨s, hI⟩ := hI
  obtain ⟨e_a, wf_a, k_a⟩ := hI.1.2 0 (by decide)
  obtain rfl := kd_0.mp k_a
  obtain ⟨e_o1, wf_o1, k_o1⟩ := hI.1.2 69 (by decide)
  obtain rfl := kd_69.mp k_o1
  refine y_ofH (by decide) (by decide) (Nat.le_of_ble_eq_true rfl) (y_base (cs := [((ad 0), .inr (11, [.ref (ad 1), .ref (ad 5), .ref (ad 18), .ref (ad 31), .ref (ad 32), .ref (ad 36), .ref (ad 42), .ref (ad 45), .ref (ad 47), .ref (ad 49), .ref (ad 50), .ref (ad 51)])), ((ad 69), .inl (3, 1, .inr (.inl (((mg t s).1 69).2.1))))]) (hI.1.I [0, 69] _ rfl (by decide) (by decide) (List.forall_mem_cons.mpr ⟨wf_a, (List.forall_mem_cons.mpr ⟨wf_o1, (fun _ h => nomatch h)⟩)⟩)) ?_)
  refine y_lvE (lv2 := [(0, .ref (ad 0)), (1, .int m1), (2, .int m2), (3, .int m3), (4, .int m4), (5, .ref (ad 69))]) rfl ?_
  refine y_aload d_Lw_mill_0 5 rfl ?_
  refine y_iconst d_Lw_mill_2 (v := 0) (by decide) ?_
  refine y_aload_n d_Lw_mill_3 rfl 0 rfl ?_
  refine y_iload_n d_Lw_mill_4 rfl 1 rfl ?_
  refine y_iload_n d_Lw_mill_5 rfl 2 rfl ?_
  refine y_iload_n d_Lw_mill_6 rfl 3 rfl ?_
  refine y_iload d_Lw_mill_7 4 rfl ?_
  refine yw_callVH (As := [.int m1, .int m2, .int m3, .int m4]) (rest := [.int 0, .ref (ad 69)]) (q0 := 0) rfl rfl ln_Lw_59 w_im_Ip_mill w_se_Ip_mill ok_Lw_mill_Ip_mill d_Lw_mill_9 (fun wA hA => K_Ip_mill ⟨_, (hI.gen (t2 := (mg t s)) (is := [0, 69]) (L2 := []) hA rfl ⟨kd_0.mpr rfl, kd_69.mpr rfl, trivial⟩ (by decide) (by decide) (fun _ h => nomatch h) (fun _ h => nomatch h) (fun _ _ _ => rfl) (fun h => h) rfl)⟩ m1 m2 m3 m4) rfl rfl (Nat.le_of_ble_eq_true rfl) (by omega) (by omega) (fun wA9 hA9 E wB9 hx => ?_) (fun wA9 hA9 v wB9 hx => ?_)
  · obtain ⟨h1, u2, hu, hI2⟩ := hx
    obtain rfl := List.mem_singleton.mp (zriE h1)
    refine ⟨"java/lang/IllegalArgumentException", [], [], (0, 14, 17, 13), rfl, (fun z hz => nomatch hz), by decide, by decide, lx_Lw_13, ce_13, fun qx => ?_⟩
    refine y_base (cs := []) (z_I.nil wB9) ?_
    refine y_astore (lv' := [(6, .ref qx), (0, .ref (ad 0)), (1, .int m1), (2, .int m2), (3, .int m3), (4, .int m4), (5, .ref (ad 69))]) d_Lw_mill_17 (by decide) rfl ?_
    refine y_iconst d_Lw_mill_19 (v := 1) (by decide) ?_
    refine y_iret d_Lw_mill_20 rfl rfl ?_
    exact fun w1 h1 => ⟨⟨_, rfl⟩, u2, hu, (z_I.same (z_I.nil _) h1).symm ▸ hI2⟩
  · obtain ⟨h1, u2, hu, hI2⟩ := hx
    obtain ⟨v9, rfl⟩ := zriV h1
    refine yw_st (st2 := [.int v9, .int 0, .ref (ad 69)]) rfl ?_
    obtain ⟨s9, hI⟩ := hI2
    obtain ⟨e_o1, wf_o1, k_o1⟩ := hI.1.2 69 (by decide)
    obtain rfl := kd_69.mp k_o1
    refine y_base (cs := [((ad 69), .inl (3, 1, .inr (.inl (((mg (tK_Ip_mill m1 m2 m3 m4 t) s9).1 69).2.1))))]) (hI.1.I [69] _ rfl (by decide) (by decide) (List.forall_mem_cons.mpr ⟨wf_o1, (fun _ h => nomatch h)⟩)) ?_
    refine y_i2l d_Lw_mill_12 (v := v9.toInt64) rfl ?_
    refine y_last d_Lw_mill_13 (q0 := 0) rfl (fun q => q.elim (by decide) (by decide)) (f' := vp_updL (((mg (tK_Ip_mill m1 m2 m3 m4 t) s9).1 69).2.1) 0 v9.toInt64) rfl (cs' := [((ad 69), .inl (3, 1, .inr (.inl (vp_updL (((mg (tK_Ip_mill m1 m2 m3 m4 t) s9).1 69).2.1) 0 v9.toInt64))))]) rfl ?_
    refine y_goto (tgt := 21) d_Lw_mill_14 (by decide) ?_
    refine y_iconst d_Lw_mill_21 (v := 0) (by decide) ?_
    refine y_iret d_Lw_mill_22 rfl rfl ?_
    exact fun w1 h1 => ⟨⟨_, rfl⟩, u2, hu, IVm.tz ((hI.gen (t2 := (zup (mg (tK_Ip_mill m1 m2 m3 m4 t) s9).1 [(69, (((mg (tK_Ip_mill m1 m2 m3 m4 t) s9).1 69).1, vp_updL (((mg (tK_Ip_mill m1 m2 m3 m4 t) s9).1 69).2.1) 0 v9.toInt64, ((mg (tK_Ip_mill m1 m2 m3 m4 t) s9).1 69).2.2))], (mg (tK_Ip_mill m1 m2 m3 m4 t) s9).2)) (is := [69]) (L2 := []) h1 rfl ⟨kd_69.mpr rfl, trivial⟩ (by decide) (by decide) (fun _ h => nomatch h) (fun _ h => nomatch h) (fun i hi hn => zup_out (fun q => hn ((by decide : ∀ j ∈ ([69] : List Nat), j ∈ ([69] : List Nat)) i q))) (fun h => h) rfl)) (tx_all rfl)⟩
abbrev M_Lw_sand : zM := (⟨"IronpourLaw", "sand", "(LIronpour;C[J)I"⟩, method_16_code, 4, (Option.some FieldType.int), 7, 121, [((0 : Nat), (9 : Nat), (12 : Nat), (13 : Nat))])
theorem d_Lw_sand_0 : decode method_16_code 0 = .ok (.aload_n 2, 1) := zo_44 (zd_b zq_method_16_code_0 0 rfl rfl rfl)
theorem d_Lw_sand_1 : decode method_16_code 1 = .ok (.iconst 0, 1) := zo_3 (zd_b zq_method_16_code_0 1 rfl rfl rfl)
theorem d_Lw_sand_2 : decode method_16_code 2 = .ok (.aload_n 0, 1) := zo_42 (zd_b zq_method_16_code_0 2 rfl rfl rfl)
theorem d_Lw_sand_3 : decode method_16_code 3 = .ok (.iload_n 1, 1) := zo_27 (zd_b zq_method_16_code_0 3 rfl rfl rfl)
theorem d_Lw_sand_4 : decode method_16_code 4 = .ok (.invokevirtual 62, 3) := zo_182 (d := 0) (e := 62) (zd_b zq_method_16_code_0 4 rfl rfl rfl) (zd_b zq_method_16_code_0 5 rfl rfl rfl) (zd_b zq_method_16_code_0 6 rfl rfl rfl)
theorem ok_Lw_sand_Ip_sand : z_okH M_Lw_sand M_Ip_sand 1 := ⟨z_mj4 (i := 195) rfl (by decide +kernel), rfl, ⟨by decide +kernel, by decide +kernel, by decide +kernel⟩, ⟨by decide, by decide⟩, z_mj1 (i := 1) rfl (by decide +kernel)⟩
theorem ln_Lw_62 : Cond.methodLink "IronpourLaw" 62 M_Ip_sand.1 ∈ z_gw := z_mj4 (i := 192) rfl (by decide +kernel)
theorem w_im_Ip_sand : Cond.instanceMethod M_Ip_sand.1 ∈ z_gw := z_mj4 (i := 193) rfl (by decide +kernel)
theorem w_se_Ip_sand : Cond.selects M_Ip_sand.1.cls M_Ip_sand.1 M_Ip_sand.1 ∈ z_gw := z_mj4 (i := 194) rfl (by decide +kernel)
theorem d_Lw_sand_12 : decode method_16_code 12 = .ok (.astore_n 3, 1) := zo_78 (zd_b zq_method_16_code_0 12 rfl rfl rfl)
theorem d_Lw_sand_13 : decode method_16_code 13 = .ok (.iconst 1, 1) := zo_4 (zd_b zq_method_16_code_0 13 rfl rfl rfl)
theorem d_Lw_sand_14 : decode method_16_code 14 = .ok (.ireturn, 1) := zo_172 (zd_b zq_method_16_code_0 14 rfl rfl rfl)
theorem d_Lw_sand_7 : decode method_16_code 7 = .ok (.i2l, 1) := zo_133 (zd_b zq_method_16_code_0 7 rfl rfl rfl)
theorem d_Lw_sand_8 : decode method_16_code 8 = .ok (.lastore, 1) := zo_80 (zd_b zq_method_16_code_0 8 rfl rfl rfl)
theorem d_Lw_sand_9 : decode method_16_code 9 = .ok (.goto 6, 3) := zo_167 (d := 0) (e := 6) (zd_b zq_method_16_code_0 9 rfl rfl rfl) (zd_b zq_method_16_code_0 10 rfl rfl rfl) (zd_b zq_method_16_code_0 11 rfl rfl rfl) (by decide +kernel)
theorem d_Lw_sand_15 : decode method_16_code 15 = .ok (.iconst 0, 1) := zo_3 (zd_b zq_method_16_code_0 15 rfl rfl rfl)
theorem d_Lw_sand_16 : decode method_16_code 16 = .ok (.ireturn, 1) := zo_172 (zd_b zq_method_16_code_0 16 rfl rfl rfl)
set_option maxHeartbeats 4000000 in
set_option maxRecDepth 100000 in
theorem W_sand {g : zG} {ad : Nat → Nat} {t : zTT} {u : zNN} {w : zW} (hI : IVm g ad t u w) (w9 : Int32) : zMB g M_Lw_sand [.ref (ad 0), .int w9, .ref (ad 69)] w (fun o w1 => MKx g ad t u.1 o w1) 10 300 := by
  obtain ⟨s, hI⟩ := hI
  obtain ⟨e_a, wf_a, k_a⟩ := hI.1.2 0 (by decide)
  obtain rfl := kd_0.mp k_a
  obtain ⟨e_o1, wf_o1, k_o1⟩ := hI.1.2 69 (by decide)
  obtain rfl := kd_69.mp k_o1
  refine y_ofH (by decide) (by decide) (Nat.le_of_ble_eq_true rfl) (y_base (cs := [((ad 0), .inr (11, [.ref (ad 1), .ref (ad 5), .ref (ad 18), .ref (ad 31), .ref (ad 32), .ref (ad 36), .ref (ad 42), .ref (ad 45), .ref (ad 47), .ref (ad 49), .ref (ad 50), .ref (ad 51)])), ((ad 69), .inl (3, 1, .inr (.inl (((mg t s).1 69).2.1))))]) (hI.1.I [0, 69] _ rfl (by decide) (by decide) (List.forall_mem_cons.mpr ⟨wf_a, (List.forall_mem_cons.mpr ⟨wf_o1, (fun _ h => nomatch h)⟩)⟩)) ?_)
  refine y_lvE (lv2 := [(0, .ref (ad 0)), (1, .int w9), (2, .ref (ad 69))]) rfl ?_
  refine y_aload_n d_Lw_sand_0 rfl 2 rfl ?_
  refine y_iconst d_Lw_sand_1 (v := 0) (by decide) ?_
  refine y_aload_n d_Lw_sand_2 rfl 0 rfl ?_
  refine y_iload_n d_Lw_sand_3 rfl 1 rfl ?_
  refine yw_callVH (As := [.int w9]) (rest := [.int 0, .ref (ad 69)]) (q0 := 0) rfl rfl ln_Lw_62 w_im_Ip_sand w_se_Ip_sand ok_Lw_sand_Ip_sand d_Lw_sand_4 (fun wA hA => K_Ip_sand ⟨_, (hI.gen (t2 := (mg t s)) (is := [0, 69]) (L2 := []) hA rfl ⟨kd_0.mpr rfl, kd_69.mpr rfl, trivial⟩ (by decide) (by decide) (fun _ h => nomatch h) (fun _ h => nomatch h) (fun _ _ _ => rfl) (fun h => h) rfl)⟩ w9) rfl rfl (Nat.le_of_ble_eq_true rfl) (by omega) (by omega) (fun wA4 hA4 E wB4 hx => ?_) (fun wA4 hA4 v wB4 hx => ?_)
  · obtain ⟨h1, u2, hu, hI2⟩ := hx
    obtain rfl := List.mem_singleton.mp (zriE h1)
    refine ⟨"java/lang/IllegalArgumentException", [], [], (0, 9, 12, 13), rfl, (fun z hz => nomatch hz), by decide, by decide, lx_Lw_13, ce_13, fun qx => ?_⟩
    refine y_base (cs := []) (z_I.nil wB4) ?_
    refine y_astore_n (lv' := [(3, .ref qx), (0, .ref (ad 0)), (1, .int w9), (2, .ref (ad 69))]) d_Lw_sand_12 rfl (by decide) rfl ?_
    refine y_iconst d_Lw_sand_13 (v := 1) (by decide) ?_
    refine y_iret d_Lw_sand_14 rfl rfl ?_
    exact fun w1 h1 => ⟨⟨_, rfl⟩, u2, hu, (z_I.same (z_I.nil _) h1).symm ▸ hI2⟩
  · obtain ⟨h1, u2, hu, hI2⟩ := hx
    obtain ⟨v9, rfl⟩ := zriV h1
    refine yw_st (st2 := [.int v9, .int 0, .ref (ad 69)]) rfl ?_
    obtain ⟨s9, hI⟩ := hI2
    obtain ⟨e_o1, wf_o1, k_o1⟩ := hI.1.2 69 (by decide)
    obtain rfl := kd_69.mp k_o1
    refine y_base (cs := [((ad 69), .inl (3, 1, .inr (.inl (((mg t s9).1 69).2.1))))]) (hI.1.I [69] _ rfl (by decide) (by decide) (List.forall_mem_cons.mpr ⟨wf_o1, (fun _ h => nomatch h)⟩)) ?_
    refine y_i2l d_Lw_sand_7 (v := v9.toInt64) rfl ?_
    refine y_last d_Lw_sand_8 (q0 := 0) rfl (fun q => q.elim (by decide) (by decide)) (f' := vp_updL (((mg t s9).1 69).2.1) 0 v9.toInt64) rfl (cs' := [((ad 69), .inl (3, 1, .inr (.inl (vp_updL (((mg t s9).1 69).2.1) 0 v9.toInt64))))]) rfl ?_
    refine y_goto (tgt := 15) d_Lw_sand_9 (by decide) ?_
    refine y_iconst d_Lw_sand_15 (v := 0) (by decide) ?_
    refine y_iret d_Lw_sand_16 rfl rfl ?_
    exact fun w1 h1 => ⟨⟨_, rfl⟩, u2, hu, IVm.tz ((hI.gen (t2 := (zup (mg t s9).1 [(69, (((mg t s9).1 69).1, vp_updL (((mg t s9).1 69).2.1) 0 v9.toInt64, ((mg t s9).1 69).2.2))], (mg t s9).2)) (is := [69]) (L2 := []) h1 rfl ⟨kd_69.mpr rfl, trivial⟩ (by decide) (by decide) (fun _ h => nomatch h) (fun _ h => nomatch h) (fun i hi hn => zup_out (fun q => hn ((by decide : ∀ j ∈ ([69] : List Nat), j ∈ ([69] : List Nat)) i q))) (fun h => h) rfl)) (tx_all rfl)⟩
abbrev M_Lw_makeCores : zM := (⟨"IronpourLaw", "makeCores", "(LIronpour;II[J)I"⟩, method_17_code, 5, (Option.some FieldType.int), 7, 122, [((0 : Nat), (10 : Nat), (13 : Nat), (13 : Nat)), ((0 : Nat), (10 : Nat), (17 : Nat), (69 : Nat))])
theorem d_Lw_makeCores_0 : decode method_17_code 0 = .ok (.aload_n 3, 1) := zo_45 (zd_b zq_method_17_code_0 0 rfl rfl rfl)
theorem d_Lw_makeCores_1 : decode method_17_code 1 = .ok (.iconst 0, 1) := zo_3 (zd_b zq_method_17_code_0 1 rfl rfl rfl)
theorem d_Lw_makeCores_2 : decode method_17_code 2 = .ok (.aload_n 0, 1) := zo_42 (zd_b zq_method_17_code_0 2 rfl rfl rfl)
theorem d_Lw_makeCores_3 : decode method_17_code 3 = .ok (.iload_n 1, 1) := zo_27 (zd_b zq_method_17_code_0 3 rfl rfl rfl)
theorem d_Lw_makeCores_4 : decode method_17_code 4 = .ok (.iload_n 2, 1) := zo_28 (zd_b zq_method_17_code_0 4 rfl rfl rfl)
theorem d_Lw_makeCores_5 : decode method_17_code 5 = .ok (.invokevirtual 66, 3) := zo_182 (d := 0) (e := 66) (zd_b zq_method_17_code_0 5 rfl rfl rfl) (zd_b zq_method_17_code_0 6 rfl rfl rfl) (zd_b zq_method_17_code_0 7 rfl rfl rfl)
theorem ok_Lw_makeCores_Ip_makeCores : z_okH M_Lw_makeCores M_Ip_makeCores 2 := ⟨z_mj4 (i := 208) rfl (by decide +kernel), rfl, ⟨by decide +kernel, by decide +kernel, by decide +kernel⟩, ⟨by decide, by decide⟩, z_mj1 (i := 1) rfl (by decide +kernel)⟩
theorem ln_Lw_66 : Cond.methodLink "IronpourLaw" 66 M_Ip_makeCores.1 ∈ z_gw := z_mj4 (i := 205) rfl (by decide +kernel)
theorem w_im_Ip_makeCores : Cond.instanceMethod M_Ip_makeCores.1 ∈ z_gw := z_mj4 (i := 206) rfl (by decide +kernel)
theorem w_se_Ip_makeCores : Cond.selects M_Ip_makeCores.1.cls M_Ip_makeCores.1 M_Ip_makeCores.1 ∈ z_gw := z_mj4 (i := 207) rfl (by decide +kernel)
theorem d_Lw_makeCores_13 : decode method_17_code 13 = .ok (.astore 4, 2) := zo_58 (d := 4) (zd_b zq_method_17_code_0 13 rfl rfl rfl) (zd_b zq_method_17_code_0 14 rfl rfl rfl)
theorem d_Lw_makeCores_15 : decode method_17_code 15 = .ok (.iconst 1, 1) := zo_4 (zd_b zq_method_17_code_0 15 rfl rfl rfl)
theorem d_Lw_makeCores_16 : decode method_17_code 16 = .ok (.ireturn, 1) := zo_172 (zd_b zq_method_17_code_0 16 rfl rfl rfl)
theorem ce_69 : Cond.castable "java/lang/IllegalStateException" "java/lang/IllegalStateException" ∈ z_nw := z_mk4 (i := 216) rfl (by decide +kernel)
theorem lx_Lw_69 : Cond.classLink "IronpourLaw" 69 "java/lang/IllegalStateException" ∈ z_gw := z_mj4 (i := 204) rfl (by decide +kernel)
theorem d_Lw_makeCores_17 : decode method_17_code 17 = .ok (.astore 4, 2) := zo_58 (d := 4) (zd_b zq_method_17_code_0 17 rfl rfl rfl) (zd_b zq_method_17_code_0 18 rfl rfl rfl)
theorem d_Lw_makeCores_19 : decode method_17_code 19 = .ok (.iconst 2, 1) := zo_5 (zd_b zq_method_17_code_0 19 rfl rfl rfl)
theorem d_Lw_makeCores_20 : decode method_17_code 20 = .ok (.ireturn, 1) := zo_172 (zd_b zq_method_17_code_0 20 rfl rfl rfl)
theorem d_Lw_makeCores_8 : decode method_17_code 8 = .ok (.i2l, 1) := zo_133 (zd_b zq_method_17_code_0 8 rfl rfl rfl)
theorem d_Lw_makeCores_9 : decode method_17_code 9 = .ok (.lastore, 1) := zo_80 (zd_b zq_method_17_code_0 9 rfl rfl rfl)
theorem d_Lw_makeCores_10 : decode method_17_code 10 = .ok (.goto 11, 3) := zo_167 (d := 0) (e := 11) (zd_b zq_method_17_code_0 10 rfl rfl rfl) (zd_b zq_method_17_code_0 11 rfl rfl rfl) (zd_b zq_method_17_code_0 12 rfl rfl rfl) (by decide +kernel)
theorem d_Lw_makeCores_21 : decode method_17_code 21 = .ok (.iconst 0, 1) := zo_3 (zd_b zq_method_17_code_0 21 rfl rfl rfl)
theorem d_Lw_makeCores_22 : decode method_17_code 22 = .ok (.ireturn, 1) := zo_172 (zd_b zq_method_17_code_0 22 rfl rfl rfl)
set_option maxHeartbeats 4000000 in
set_option maxRecDepth 100000 in
theorem W_makeCores {g : zG} {ad : Nat → Nat} {t : zTT} {u : zNN} {w : zW} (hI : IVm g ad t u w) (c k : Int32) : zMB g M_Lw_makeCores [.ref (ad 0), .int c, .int k, .ref (ad 69)] w (fun o w1 => MKx g ad (tK_Ip_makeCores c k t) u.1 o w1) 10 300 := by
  obtain ⟨s, hI⟩ := hI
  obtain ⟨e_a, wf_a, k_a⟩ := hI.1.2 0 (by decide)
  obtain rfl := kd_0.mp k_a
  obtain ⟨e_o1, wf_o1, k_o1⟩ := hI.1.2 69 (by decide)
  obtain rfl := kd_69.mp k_o1
  refine y_ofH (by decide) (by decide) (Nat.le_of_ble_eq_true rfl) (y_base (cs := [((ad 0), .inr (11, [.ref (ad 1), .ref (ad 5), .ref (ad 18), .ref (ad 31), .ref (ad 32), .ref (ad 36), .ref (ad 42), .ref (ad 45), .ref (ad 47), .ref (ad 49), .ref (ad 50), .ref (ad 51)])), ((ad 69), .inl (3, 1, .inr (.inl (((mg t s).1 69).2.1))))]) (hI.1.I [0, 69] _ rfl (by decide) (by decide) (List.forall_mem_cons.mpr ⟨wf_a, (List.forall_mem_cons.mpr ⟨wf_o1, (fun _ h => nomatch h)⟩)⟩)) ?_)
  refine y_lvE (lv2 := [(0, .ref (ad 0)), (1, .int c), (2, .int k), (3, .ref (ad 69))]) rfl ?_
  refine y_aload_n d_Lw_makeCores_0 rfl 3 rfl ?_
  refine y_iconst d_Lw_makeCores_1 (v := 0) (by decide) ?_
  refine y_aload_n d_Lw_makeCores_2 rfl 0 rfl ?_
  refine y_iload_n d_Lw_makeCores_3 rfl 1 rfl ?_
  refine y_iload_n d_Lw_makeCores_4 rfl 2 rfl ?_
  refine yw_callVH (As := [.int c, .int k]) (rest := [.int 0, .ref (ad 69)]) (q0 := 0) rfl rfl ln_Lw_66 w_im_Ip_makeCores w_se_Ip_makeCores ok_Lw_makeCores_Ip_makeCores d_Lw_makeCores_5 (fun wA hA => K_Ip_makeCores ⟨_, (hI.gen (t2 := (mg t s)) (is := [0, 69]) (L2 := []) hA rfl ⟨kd_0.mpr rfl, kd_69.mpr rfl, trivial⟩ (by decide) (by decide) (fun _ h => nomatch h) (fun _ h => nomatch h) (fun _ _ _ => rfl) (fun h => h) rfl)⟩ c k) rfl rfl (Nat.le_of_ble_eq_true rfl) (by omega) (by omega) (fun wA5 hA5 E wB5 hx => ?_) (fun wA5 hA5 v wB5 hx => ?_)
  · obtain ⟨h1, u2, hu, hI2⟩ := hx
    rcases List.mem_cons.mp (zriE h1) with rfl | g2
    · refine ⟨"java/lang/IllegalArgumentException", [], [(0, 10, 17, 69)], (0, 10, 13, 13), rfl, (fun z hz => nomatch hz), by decide, by decide, lx_Lw_13, ce_13, fun qx => ?_⟩
      refine y_base (cs := []) (z_I.nil wB5) ?_
      refine y_astore (lv' := [(4, .ref qx), (0, .ref (ad 0)), (1, .int c), (2, .int k), (3, .ref (ad 69))]) d_Lw_makeCores_13 (by decide) rfl ?_
      refine y_iconst d_Lw_makeCores_15 (v := 1) (by decide) ?_
      refine y_iret d_Lw_makeCores_16 rfl rfl ?_
      exact fun w1 h1 => ⟨⟨_, rfl⟩, u2, hu, (z_I.same (z_I.nil _) h1).symm ▸ hI2⟩
    · obtain rfl := List.mem_singleton.mp g2
      refine ⟨"java/lang/IllegalStateException", [(0, 10, 13, 13)], [], (0, 10, 17, 69), rfl, (fun z hz => by simp only [List.mem_cons, List.not_mem_nil, or_false] at hz; rcases hz with rfl; exact Or.inr ⟨by decide, _, lx_Lw_13, by decide⟩), by decide, by decide, lx_Lw_69, ce_69, fun qx => ?_⟩
      refine y_base (cs := []) (z_I.nil wB5) ?_
      refine y_astore (lv' := [(4, .ref qx), (0, .ref (ad 0)), (1, .int c), (2, .int k), (3, .ref (ad 69))]) d_Lw_makeCores_17 (by decide) rfl ?_
      refine y_iconst d_Lw_makeCores_19 (v := 2) (by decide) ?_
      refine y_iret d_Lw_makeCores_20 rfl rfl ?_
      exact fun w1 h1 => ⟨⟨_, rfl⟩, u2, hu, (z_I.same (z_I.nil _) h1).symm ▸ hI2⟩
  · obtain ⟨h1, u2, hu, hI2⟩ := hx
    obtain ⟨v9, rfl⟩ := zriV h1
    refine yw_st (st2 := [.int v9, .int 0, .ref (ad 69)]) rfl ?_
    obtain ⟨s9, hI⟩ := hI2
    obtain ⟨e_o1, wf_o1, k_o1⟩ := hI.1.2 69 (by decide)
    obtain rfl := kd_69.mp k_o1
    refine y_base (cs := [((ad 69), .inl (3, 1, .inr (.inl (((mg (tK_Ip_makeCores c k t) s9).1 69).2.1))))]) (hI.1.I [69] _ rfl (by decide) (by decide) (List.forall_mem_cons.mpr ⟨wf_o1, (fun _ h => nomatch h)⟩)) ?_
    refine y_i2l d_Lw_makeCores_8 (v := v9.toInt64) rfl ?_
    refine y_last d_Lw_makeCores_9 (q0 := 0) rfl (fun q => q.elim (by decide) (by decide)) (f' := vp_updL (((mg (tK_Ip_makeCores c k t) s9).1 69).2.1) 0 v9.toInt64) rfl (cs' := [((ad 69), .inl (3, 1, .inr (.inl (vp_updL (((mg (tK_Ip_makeCores c k t) s9).1 69).2.1) 0 v9.toInt64))))]) rfl ?_
    refine y_goto (tgt := 21) d_Lw_makeCores_10 (by decide) ?_
    refine y_iconst d_Lw_makeCores_21 (v := 0) (by decide) ?_
    refine y_iret d_Lw_makeCores_22 rfl rfl ?_
    exact fun w1 h1 => ⟨⟨_, rfl⟩, u2, hu, IVm.tz ((hI.gen (t2 := (zup (mg (tK_Ip_makeCores c k t) s9).1 [(69, (((mg (tK_Ip_makeCores c k t) s9).1 69).1, vp_updL (((mg (tK_Ip_makeCores c k t) s9).1 69).2.1) 0 v9.toInt64, ((mg (tK_Ip_makeCores c k t) s9).1 69).2.2))], (mg (tK_Ip_makeCores c k t) s9).2)) (is := [69]) (L2 := []) h1 rfl ⟨kd_69.mpr rfl, trivial⟩ (by decide) (by decide) (fun _ h => nomatch h) (fun _ h => nomatch h) (fun i hi hn => zup_out (fun q => hn ((by decide : ∀ j ∈ ([69] : List Nat), j ∈ ([69] : List Nat)) i q))) (fun h => h) rfl)) (tx_all rfl)⟩
abbrev M_Lw_hours : zM := (⟨"IronpourLaw", "hours", "(LIronpour;I[J)I"⟩, method_18_code, 4, (Option.some FieldType.int), 7, 121, [((0 : Nat), (9 : Nat), (12 : Nat), (13 : Nat))])
theorem d_Lw_hours_0 : decode method_18_code 0 = .ok (.aload_n 2, 1) := zo_44 (zd_b zq_method_18_code_0 0 rfl rfl rfl)
theorem d_Lw_hours_1 : decode method_18_code 1 = .ok (.iconst 0, 1) := zo_3 (zd_b zq_method_18_code_0 1 rfl rfl rfl)
theorem d_Lw_hours_2 : decode method_18_code 2 = .ok (.aload_n 0, 1) := zo_42 (zd_b zq_method_18_code_0 2 rfl rfl rfl)
theorem d_Lw_hours_3 : decode method_18_code 3 = .ok (.iload_n 1, 1) := zo_27 (zd_b zq_method_18_code_0 3 rfl rfl rfl)
theorem d_Lw_hours_4 : decode method_18_code 4 = .ok (.invokevirtual 71, 3) := zo_182 (d := 0) (e := 71) (zd_b zq_method_18_code_0 4 rfl rfl rfl) (zd_b zq_method_18_code_0 5 rfl rfl rfl) (zd_b zq_method_18_code_0 6 rfl rfl rfl)
theorem ok_Lw_hours_Ip_hours : z_okH M_Lw_hours M_Ip_hours 1 := ⟨z_mj5 (i := 4) rfl (by decide +kernel), rfl, ⟨by decide +kernel, by decide +kernel, by decide +kernel⟩, ⟨by decide, by decide⟩, z_mj1 (i := 1) rfl (by decide +kernel)⟩
theorem ln_Lw_71 : Cond.methodLink "IronpourLaw" 71 M_Ip_hours.1 ∈ z_gw := z_mj5 (i := 1) rfl (by decide +kernel)
theorem w_im_Ip_hours : Cond.instanceMethod M_Ip_hours.1 ∈ z_gw := z_mj5 (i := 2) rfl (by decide +kernel)
theorem w_se_Ip_hours : Cond.selects M_Ip_hours.1.cls M_Ip_hours.1 M_Ip_hours.1 ∈ z_gw := z_mj5 (i := 3) rfl (by decide +kernel)
theorem d_Lw_hours_12 : decode method_18_code 12 = .ok (.astore_n 3, 1) := zo_78 (zd_b zq_method_18_code_0 12 rfl rfl rfl)
theorem d_Lw_hours_13 : decode method_18_code 13 = .ok (.iconst 1, 1) := zo_4 (zd_b zq_method_18_code_0 13 rfl rfl rfl)
theorem d_Lw_hours_14 : decode method_18_code 14 = .ok (.ireturn, 1) := zo_172 (zd_b zq_method_18_code_0 14 rfl rfl rfl)
theorem d_Lw_hours_7 : decode method_18_code 7 = .ok (.i2l, 1) := zo_133 (zd_b zq_method_18_code_0 7 rfl rfl rfl)
theorem d_Lw_hours_8 : decode method_18_code 8 = .ok (.lastore, 1) := zo_80 (zd_b zq_method_18_code_0 8 rfl rfl rfl)
theorem d_Lw_hours_9 : decode method_18_code 9 = .ok (.goto 6, 3) := zo_167 (d := 0) (e := 6) (zd_b zq_method_18_code_0 9 rfl rfl rfl) (zd_b zq_method_18_code_0 10 rfl rfl rfl) (zd_b zq_method_18_code_0 11 rfl rfl rfl) (by decide +kernel)
theorem d_Lw_hours_15 : decode method_18_code 15 = .ok (.iconst 0, 1) := zo_3 (zd_b zq_method_18_code_0 15 rfl rfl rfl)
theorem d_Lw_hours_16 : decode method_18_code 16 = .ok (.ireturn, 1) := zo_172 (zd_b zq_method_18_code_0 16 rfl rfl rfl)
set_option maxHeartbeats 4000000 in
set_option maxRecDepth 100000 in
theorem W_hours {g : zG} {ad : Nat → Nat} {t : zTT} {u : zNN} {w : zW} (hI : IVm g ad t u w) (h : Int32) : zMB g M_Lw_hours [.ref (ad 0), .int h, .ref (ad 69)] w (fun o w1 => MKx g ad (tK_Ip_hours h t) u.1 o w1) 10 300 := by
  obtain ⟨s, hI⟩ := hI
  obtain ⟨e_a, wf_a, k_a⟩ := hI.1.2 0 (by decide)
  obtain rfl := kd_0.mp k_a
  obtain ⟨e_o1, wf_o1, k_o1⟩ := hI.1.2 69 (by decide)
  obtain rfl := kd_69.mp k_o1
  refine y_ofH (by decide) (by decide) (Nat.le_of_ble_eq_true rfl) (y_base (cs := [((ad 0), .inr (11, [.ref (ad 1), .ref (ad 5), .ref (ad 18), .ref (ad 31), .ref (ad 32), .ref (ad 36), .ref (ad 42), .ref (ad 45), .ref (ad 47), .ref (ad 49), .ref (ad 50), .ref (ad 51)])), ((ad 69), .inl (3, 1, .inr (.inl (((mg t s).1 69).2.1))))]) (hI.1.I [0, 69] _ rfl (by decide) (by decide) (List.forall_mem_cons.mpr ⟨wf_a, (List.forall_mem_cons.mpr ⟨wf_o1, (fun _ h => nomatch h)⟩)⟩)) ?_)
  refine y_lvE (lv2 := [(0, .ref (ad 0)), (1, .int h), (2, .ref (ad 69))]) rfl ?_
  refine y_aload_n d_Lw_hours_0 rfl 2 rfl ?_
  refine y_iconst d_Lw_hours_1 (v := 0) (by decide) ?_
  refine y_aload_n d_Lw_hours_2 rfl 0 rfl ?_
  refine y_iload_n d_Lw_hours_3 rfl 1 rfl ?_
  refine yw_callVH (As := [.int h]) (rest := [.int 0, .ref (ad 69)]) (q0 := 0) rfl rfl ln_Lw_71 w_im_Ip_hours w_se_Ip_hours ok_Lw_hours_Ip_hours d_Lw_hours_4 (fun wA hA => K_Ip_hours ⟨_, (hI.gen (t2 := (mg t s)) (is := [0, 69]) (L2 := []) hA rfl ⟨kd_0.mpr rfl, kd_69.mpr rfl, trivial⟩ (by decide) (by decide) (fun _ h => nomatch h) (fun _ h => nomatch h) (fun _ _ _ => rfl) (fun h => h) rfl)⟩ h) rfl rfl (Nat.le_of_ble_eq_true rfl) (by omega) (by omega) (fun wA4 hA4 E wB4 hx => ?_) (fun wA4 hA4 v wB4 hx => ?_)
  · obtain ⟨h1, u2, hu, hI2⟩ := hx
    obtain rfl := List.mem_singleton.mp (zriE h1)
    refine ⟨"java/lang/IllegalArgumentException", [], [], (0, 9, 12, 13), rfl, (fun z hz => nomatch hz), by decide, by decide, lx_Lw_13, ce_13, fun qx => ?_⟩
    refine y_base (cs := []) (z_I.nil wB4) ?_
    refine y_astore_n (lv' := [(3, .ref qx), (0, .ref (ad 0)), (1, .int h), (2, .ref (ad 69))]) d_Lw_hours_12 rfl (by decide) rfl ?_
    refine y_iconst d_Lw_hours_13 (v := 1) (by decide) ?_
    refine y_iret d_Lw_hours_14 rfl rfl ?_
    exact fun w1 h1 => ⟨⟨_, rfl⟩, u2, hu, (z_I.same (z_I.nil _) h1).symm ▸ hI2⟩
  · obtain ⟨h1, u2, hu, hI2⟩ := hx
    obtain ⟨v9, rfl⟩ := zriV h1
    refine yw_st (st2 := [.int v9, .int 0, .ref (ad 69)]) rfl ?_
    obtain ⟨s9, hI⟩ := hI2
    obtain ⟨e_o1, wf_o1, k_o1⟩ := hI.1.2 69 (by decide)
    obtain rfl := kd_69.mp k_o1
    refine y_base (cs := [((ad 69), .inl (3, 1, .inr (.inl (((mg (tK_Ip_hours h t) s9).1 69).2.1))))]) (hI.1.I [69] _ rfl (by decide) (by decide) (List.forall_mem_cons.mpr ⟨wf_o1, (fun _ h => nomatch h)⟩)) ?_
    refine y_i2l d_Lw_hours_7 (v := v9.toInt64) rfl ?_
    refine y_last d_Lw_hours_8 (q0 := 0) rfl (fun q => q.elim (by decide) (by decide)) (f' := vp_updL (((mg (tK_Ip_hours h t) s9).1 69).2.1) 0 v9.toInt64) rfl (cs' := [((ad 69), .inl (3, 1, .inr (.inl (vp_updL (((mg (tK_Ip_hours h t) s9).1 69).2.1) 0 v9.toInt64))))]) rfl ?_
    refine y_goto (tgt := 15) d_Lw_hours_9 (by decide) ?_
    refine y_iconst d_Lw_hours_15 (v := 0) (by decide) ?_
    refine y_iret d_Lw_hours_16 rfl rfl ?_
    exact fun w1 h1 => ⟨⟨_, rfl⟩, u2, hu, IVm.tz ((hI.gen (t2 := (zup (mg (tK_Ip_hours h t) s9).1 [(69, (((mg (tK_Ip_hours h t) s9).1 69).1, vp_updL (((mg (tK_Ip_hours h t) s9).1 69).2.1) 0 v9.toInt64, ((mg (tK_Ip_hours h t) s9).1 69).2.2))], (mg (tK_Ip_hours h t) s9).2)) (is := [69]) (L2 := []) h1 rfl ⟨kd_69.mpr rfl, trivial⟩ (by decide) (by decide) (fun _ h => nomatch h) (fun _ h => nomatch h) (fun i hi hn => zup_out (fun q => hn ((by decide : ∀ j ∈ ([69] : List Nat), j ∈ ([69] : List Nat)) i q))) (fun h => h) rfl)) (tx_all rfl)⟩
abbrev M_Lw_charge : zM := (⟨"IronpourLaw", "charge", "(LIronpour;CI[J)I"⟩, method_19_code, 5, (Option.some FieldType.int), 9, 203, [((0 : Nat), (10 : Nat), (13 : Nat), (13 : Nat)), ((0 : Nat), (10 : Nat), (17 : Nat), (78 : Nat)), ((0 : Nat), (10 : Nat), (21 : Nat), (69 : Nat))])
theorem d_Lw_charge_0 : decode method_19_code 0 = .ok (.aload_n 3, 1) := zo_45 (zd_b zq_method_19_code_0 0 rfl rfl rfl)
theorem d_Lw_charge_1 : decode method_19_code 1 = .ok (.iconst 0, 1) := zo_3 (zd_b zq_method_19_code_0 1 rfl rfl rfl)
theorem d_Lw_charge_2 : decode method_19_code 2 = .ok (.aload_n 0, 1) := zo_42 (zd_b zq_method_19_code_0 2 rfl rfl rfl)
theorem d_Lw_charge_3 : decode method_19_code 3 = .ok (.iload_n 1, 1) := zo_27 (zd_b zq_method_19_code_0 3 rfl rfl rfl)
theorem d_Lw_charge_4 : decode method_19_code 4 = .ok (.iload_n 2, 1) := zo_28 (zd_b zq_method_19_code_0 4 rfl rfl rfl)
theorem d_Lw_charge_5 : decode method_19_code 5 = .ok (.invokevirtual 74, 3) := zo_182 (d := 0) (e := 74) (zd_b zq_method_19_code_0 5 rfl rfl rfl) (zd_b zq_method_19_code_0 6 rfl rfl rfl) (zd_b zq_method_19_code_0 7 rfl rfl rfl)
theorem ok_Lw_charge_Ip_charge : z_okH M_Lw_charge M_Ip_charge 2 := ⟨z_mj5 (i := 21) rfl (by decide +kernel), rfl, ⟨by decide +kernel, by decide +kernel, by decide +kernel⟩, ⟨by decide, by decide⟩, z_mj1 (i := 1) rfl (by decide +kernel)⟩
theorem ln_Lw_74 : Cond.methodLink "IronpourLaw" 74 M_Ip_charge.1 ∈ z_gw := z_mj5 (i := 18) rfl (by decide +kernel)
theorem w_im_Ip_charge : Cond.instanceMethod M_Ip_charge.1 ∈ z_gw := z_mj5 (i := 19) rfl (by decide +kernel)
theorem w_se_Ip_charge : Cond.selects M_Ip_charge.1.cls M_Ip_charge.1 M_Ip_charge.1 ∈ z_gw := z_mj5 (i := 20) rfl (by decide +kernel)
theorem d_Lw_charge_13 : decode method_19_code 13 = .ok (.astore 4, 2) := zo_58 (d := 4) (zd_b zq_method_19_code_0 13 rfl rfl rfl) (zd_b zq_method_19_code_0 14 rfl rfl rfl)
theorem d_Lw_charge_15 : decode method_19_code 15 = .ok (.iconst 1, 1) := zo_4 (zd_b zq_method_19_code_0 15 rfl rfl rfl)
theorem d_Lw_charge_16 : decode method_19_code 16 = .ok (.ireturn, 1) := zo_172 (zd_b zq_method_19_code_0 16 rfl rfl rfl)
theorem ce_78 : Cond.castable "java/lang/UnsupportedOperationException" "java/lang/UnsupportedOperationException" ∈ z_nw := z_mk5 (i := 30) rfl (by decide +kernel)
theorem lx_Lw_78 : Cond.classLink "IronpourLaw" 78 "java/lang/UnsupportedOperationException" ∈ z_gw := z_mj5 (i := 17) rfl (by decide +kernel)
theorem d_Lw_charge_17 : decode method_19_code 17 = .ok (.astore 4, 2) := zo_58 (d := 4) (zd_b zq_method_19_code_0 17 rfl rfl rfl) (zd_b zq_method_19_code_0 18 rfl rfl rfl)
theorem d_Lw_charge_19 : decode method_19_code 19 = .ok (.iconst 2, 1) := zo_5 (zd_b zq_method_19_code_0 19 rfl rfl rfl)
theorem d_Lw_charge_20 : decode method_19_code 20 = .ok (.ireturn, 1) := zo_172 (zd_b zq_method_19_code_0 20 rfl rfl rfl)
theorem d_Lw_charge_21 : decode method_19_code 21 = .ok (.astore 4, 2) := zo_58 (d := 4) (zd_b zq_method_19_code_0 21 rfl rfl rfl) (zd_b zq_method_19_code_0 22 rfl rfl rfl)
theorem d_Lw_charge_23 : decode method_19_code 23 = .ok (.iconst 3, 1) := zo_6 (zd_b zq_method_19_code_0 23 rfl rfl rfl)
theorem d_Lw_charge_24 : decode method_19_code 24 = .ok (.ireturn, 1) := zo_172 (zd_b zq_method_19_code_0 24 rfl rfl rfl)
theorem d_Lw_charge_8 : decode method_19_code 8 = .ok (.i2l, 1) := zo_133 (zd_b zq_method_19_code_0 8 rfl rfl rfl)
theorem d_Lw_charge_9 : decode method_19_code 9 = .ok (.lastore, 1) := zo_80 (zd_b zq_method_19_code_0 9 rfl rfl rfl)
theorem d_Lw_charge_10 : decode method_19_code 10 = .ok (.goto 15, 3) := zo_167 (d := 0) (e := 15) (zd_b zq_method_19_code_0 10 rfl rfl rfl) (zd_b zq_method_19_code_0 11 rfl rfl rfl) (zd_b zq_method_19_code_0 12 rfl rfl rfl) (by decide +kernel)
theorem d_Lw_charge_25 : decode method_19_code 25 = .ok (.iconst 0, 1) := zo_3 (zd_b zq_method_19_code_0 25 rfl rfl rfl)
theorem d_Lw_charge_26 : decode method_19_code 26 = .ok (.ireturn, 1) := zo_172 (zd_b zq_method_19_code_0 26 rfl rfl rfl)
set_option maxHeartbeats 4000000 in
set_option maxRecDepth 100000 in
theorem W_charge {g : zG} {ad : Nat → Nat} {t : zTT} {u : zNN} {w : zW} (hI : IVm g ad t u w) (k m : Int32) : zMB g M_Lw_charge [.ref (ad 0), .int k, .int m, .ref (ad 69)] w (fun o w1 => MKx g ad (tK_Ip_charge k m t) u.1 o w1) 10 300 := by
  obtain ⟨s, hI⟩ := hI
  obtain ⟨e_a, wf_a, k_a⟩ := hI.1.2 0 (by decide)
  obtain rfl := kd_0.mp k_a
  obtain ⟨e_o1, wf_o1, k_o1⟩ := hI.1.2 69 (by decide)
  obtain rfl := kd_69.mp k_o1
  refine y_ofH (by decide) (by decide) (Nat.le_of_ble_eq_true rfl) (y_base (cs := [((ad 0), .inr (11, [.ref (ad 1), .ref (ad 5), .ref (ad 18), .ref (ad 31), .ref (ad 32), .ref (ad 36), .ref (ad 42), .ref (ad 45), .ref (ad 47), .ref (ad 49), .ref (ad 50), .ref (ad 51)])), ((ad 69), .inl (3, 1, .inr (.inl (((mg t s).1 69).2.1))))]) (hI.1.I [0, 69] _ rfl (by decide) (by decide) (List.forall_mem_cons.mpr ⟨wf_a, (List.forall_mem_cons.mpr ⟨wf_o1, (fun _ h => nomatch h)⟩)⟩)) ?_)
  refine y_lvE (lv2 := [(0, .ref (ad 0)), (1, .int k), (2, .int m), (3, .ref (ad 69))]) rfl ?_
  refine y_aload_n d_Lw_charge_0 rfl 3 rfl ?_
  refine y_iconst d_Lw_charge_1 (v := 0) (by decide) ?_
  refine y_aload_n d_Lw_charge_2 rfl 0 rfl ?_
  refine y_iload_n d_Lw_charge_3 rfl 1 rfl ?_
  refine y_iload_n d_Lw_charge_4 rfl 2 rfl ?_
  refine yw_callVH (As := [.int k, .int m]) (rest := [.int 0, .ref (ad 69)]) (q0 := 0) rfl rfl ln_Lw_74 w_im_Ip_charge w_se_Ip_charge ok_Lw_charge_Ip_charge d_Lw_charge_5 (fun wA hA => K_Ip_charge ⟨_, (hI.gen (t2 := (mg t s)) (is := [0, 69]) (L2 := []) hA rfl ⟨kd_0.mpr rfl, kd_69.mpr rfl, trivial⟩ (by decide) (by decide) (fun _ h => nomatch h) (fun _ h => nomatch h) (fun _ _ _ => rfl) (fun h => h) rfl)⟩ k m) rfl rfl (Nat.le_of_ble_eq_true rfl) (by omega) (by omega) (fun wA5 hA5 E wB5 hx => ?_) (fun wA5 hA5 v wB5 hx => ?_)
  · obtain ⟨h1, u2, hu, hI2⟩ := hx
    rcases List.mem_cons.mp (zriE h1) with rfl | g3
    · refine ⟨"java/lang/IllegalArgumentException", [], [(0, 10, 17, 78), (0, 10, 21, 69)], (0, 10, 13, 13), rfl, (fun z hz => nomatch hz), by decide, by decide, lx_Lw_13, ce_13, fun qx => ?_⟩
      refine y_base (cs := []) (z_I.nil wB5) ?_
      refine y_astore (lv' := [(4, .ref qx), (0, .ref (ad 0)), (1, .int k), (2, .int m), (3, .ref (ad 69))]) d_Lw_charge_13 (by decide) rfl ?_
      refine y_iconst d_Lw_charge_15 (v := 1) (by decide) ?_
      refine y_iret d_Lw_charge_16 rfl rfl ?_
      exact fun w1 h1 => ⟨⟨_, rfl⟩, u2, hu, (z_I.same (z_I.nil _) h1).symm ▸ hI2⟩
    · rcases List.mem_cons.mp g3 with rfl | g2
      · refine ⟨"java/lang/UnsupportedOperationException", [(0, 10, 13, 13)], [(0, 10, 21, 69)], (0, 10, 17, 78), rfl, (fun z hz => by simp only [List.mem_cons, List.not_mem_nil, or_false] at hz; rcases hz with rfl; exact Or.inr ⟨by decide, _, lx_Lw_13, by decide⟩), by decide, by decide, lx_Lw_78, ce_78, fun qx => ?_⟩
        refine y_base (cs := []) (z_I.nil wB5) ?_
        refine y_astore (lv' := [(4, .ref qx), (0, .ref (ad 0)), (1, .int k), (2, .int m), (3, .ref (ad 69))]) d_Lw_charge_17 (by decide) rfl ?_
        refine y_iconst d_Lw_charge_19 (v := 2) (by decide) ?_
        refine y_iret d_Lw_charge_20 rfl rfl ?_
        exact fun w1 h1 => ⟨⟨_, rfl⟩, u2, hu, (z_I.same (z_I.nil _) h1).symm ▸ hI2⟩
      · obtain rfl := List.mem_singleton.mp g2
        refine ⟨"java/lang/IllegalStateException", [(0, 10, 13, 13), (0, 10, 17, 78)], [], (0, 10, 21, 69), rfl, (fun z hz => by simp only [List.mem_cons, List.not_mem_nil, or_false] at hz; rcases hz with rfl | rfl <;> first | exact Or.inr ⟨by decide, _, lx_Lw_13, by decide⟩ | exact Or.inr ⟨by decide, _, lx_Lw_78, by decide⟩), by decide, by decide, lx_Lw_69, ce_69, fun qx => ?_⟩
        refine y_base (cs := []) (z_I.nil wB5) ?_
        refine y_astore (lv' := [(4, .ref qx), (0, .ref (ad 0)), (1, .int k), (2, .int m), (3, .ref (ad 69))]) d_Lw_charge_21 (by decide) rfl ?_
        refine y_iconst d_Lw_charge_23 (v := 3) (by decide) ?_
        refine y_iret d_Lw_charge_24 rfl rfl ?_
        exact fun w1 h1 => ⟨⟨_, rfl⟩, u2, hu, (z_I.same (z_I.nil _) h1).symm ▸ hI2⟩
  · obtain ⟨h1, u2, hu, hI2⟩ := hx
    obtain ⟨v9, rfl⟩ := zriV h1
    refine yw_st (st2 := [.int v9, .int 0, .ref (ad 69)]) rfl ?_
    obtain ⟨s9, hI⟩ := hI2
    obtain ⟨e_o1, wf_o1, k_o1⟩ := hI.1.2 69 (by decide)
    obtain rfl := kd_69.mp k_o1
    refine y_base (cs := [((ad 69), .inl (3, 1, .inr (.inl (((mg (tK_Ip_charge k m t) s9).1 69).2.1))))]) (hI.1.I [69] _ rfl (by decide) (by decide) (List.forall_mem_cons.mpr ⟨wf_o1, (fun _ h => nomatch h)⟩)) ?_
    refine y_i2l d_Lw_charge_8 (v := v9.toInt64) rfl ?_
    refine y_last d_Lw_charge_9 (q0 := 0) rfl (fun q => q.elim (by decide) (by decide)) (f' := vp_updL (((mg (tK_Ip_charge k m t) s9).1 69).2.1) 0 v9.toInt64) rfl (cs' := [((ad 69), .inl (3, 1, .inr (.inl (vp_updL (((mg (tK_Ip_charge k m t) s9).1 69).2.1) 0 v9.toInt64))))]) rfl ?_
    refine y_goto (tgt := 25) d_Lw_charge_10 (by decide) ?_
    refine y_iconst d_Lw_charge_25 (v := 0) (by decide) ?_
    refine y_iret d_Lw_charge_26 rfl rfl ?_
    exact fun w1 h1 => ⟨⟨_, rfl⟩, u2, hu, IVm.tz ((hI.gen (t2 := (zup (mg (tK_Ip_charge k m t) s9).1 [(69, (((mg (tK_Ip_charge k m t) s9).1 69).1, vp_updL (((mg (tK_Ip_charge k m t) s9).1 69).2.1) 0 v9.toInt64, ((mg (tK_Ip_charge k m t) s9).1 69).2.2))], (mg (tK_Ip_charge k m t) s9).2)) (is := [69]) (L2 := []) h1 rfl ⟨kd_69.mpr rfl, trivial⟩ (by decide) (by decide) (fun _ h => nomatch h) (fun _ h => nomatch h) (fun i hi hn => zup_out (fun q => hn ((by decide : ∀ j ∈ ([69] : List Nat), j ∈ ([69] : List Nat)) i q))) (fun h => h) rfl)) (tx_all rfl)⟩
abbrev M_Lw_furnace : zM := (⟨"IronpourLaw", "furnace", "(LIronpour;C[J)I"⟩, method_20_code, 4, (Option.some FieldType.int), 10, 222, [((0 : Nat), (9 : Nat), (12 : Nat), (13 : Nat)), ((0 : Nat), (9 : Nat), (15 : Nat), (33 : Nat))])
theorem d_Lw_furnace_0 : decode method_20_code 0 = .ok (.aload_n 2, 1) := zo_44 (zd_b zq_method_20_code_0 0 rfl rfl rfl)
theorem d_Lw_furnace_1 : decode method_20_code 1 = .ok (.iconst 0, 1) := zo_3 (zd_b zq_method_20_code_0 1 rfl rfl rfl)
theorem d_Lw_furnace_2 : decode method_20_code 2 = .ok (.aload_n 0, 1) := zo_42 (zd_b zq_method_20_code_0 2 rfl rfl rfl)
theorem d_Lw_furnace_3 : decode method_20_code 3 = .ok (.iload_n 1, 1) := zo_27 (zd_b zq_method_20_code_0 3 rfl rfl rfl)
theorem d_Lw_furnace_4 : decode method_20_code 4 = .ok (.invokevirtual 80, 3) := zo_182 (d := 0) (e := 80) (zd_b zq_method_20_code_0 4 rfl rfl rfl) (zd_b zq_method_20_code_0 5 rfl rfl rfl) (zd_b zq_method_20_code_0 6 rfl rfl rfl)
theorem ok_Lw_furnace_Ip_furnace : z_okH M_Lw_furnace M_Ip_furnace 1 := ⟨z_mj5 (i := 71) rfl (by decide +kernel), rfl, ⟨by decide +kernel, by decide +kernel, by decide +kernel⟩, ⟨by decide, by decide⟩, z_mj1 (i := 1) rfl (by decide +kernel)⟩
theorem ln_Lw_80 : Cond.methodLink "IronpourLaw" 80 M_Ip_furnace.1 ∈ z_gw := z_mj5 (i := 68) rfl (by decide +kernel)
theorem w_im_Ip_furnace : Cond.instanceMethod M_Ip_furnace.1 ∈ z_gw := z_mj5 (i := 69) rfl (by decide +kernel)
theorem w_se_Ip_furnace : Cond.selects M_Ip_furnace.1.cls M_Ip_furnace.1 M_Ip_furnace.1 ∈ z_gw := z_mj5 (i := 70) rfl (by decide +kernel)
theorem d_Lw_furnace_12 : decode method_20_code 12 = .ok (.astore_n 3, 1) := zo_78 (zd_b zq_method_20_code_0 12 rfl rfl rfl)
theorem d_Lw_furnace_13 : decode method_20_code 13 = .ok (.iconst 1, 1) := zo_4 (zd_b zq_method_20_code_0 13 rfl rfl rfl)
theorem d_Lw_furnace_14 : decode method_20_code 14 = .ok (.ireturn, 1) := zo_172 (zd_b zq_method_20_code_0 14 rfl rfl rfl)
theorem d_Lw_furnace_15 : decode method_20_code 15 = .ok (.astore_n 3, 1) := zo_78 (zd_b zq_method_20_code_0 15 rfl rfl rfl)
theorem d_Lw_furnace_16 : decode method_20_code 16 = .ok (.iconst 2, 1) := zo_5 (zd_b zq_method_20_code_0 16 rfl rfl rfl)
theorem d_Lw_furnace_17 : decode method_20_code 17 = .ok (.ireturn, 1) := zo_172 (zd_b zq_method_20_code_0 17 rfl rfl rfl)
theorem d_Lw_furnace_7 : decode method_20_code 7 = .ok (.i2l, 1) := zo_133 (zd_b zq_method_20_code_0 7 rfl rfl rfl)
theorem d_Lw_furnace_8 : decode method_20_code 8 = .ok (.lastore, 1) := zo_80 (zd_b zq_method_20_code_0 8 rfl rfl rfl)
theorem d_Lw_furnace_9 : decode method_20_code 9 = .ok (.goto 9, 3) := zo_167 (d := 0) (e := 9) (zd_b zq_method_20_code_0 9 rfl rfl rfl) (zd_b zq_method_20_code_0 10 rfl rfl rfl) (zd_b zq_method_20_code_0 11 rfl rfl rfl) (by decide +kernel)
theorem d_Lw_furnace_18 : decode method_20_code 18 = .ok (.iconst 0, 1) := zo_3 (zd_b zq_method_20_code_0 18 rfl rfl rfl)
theorem d_Lw_furnace_19 : decode method_20_code 19 = .ok (.ireturn, 1) := zo_172 (zd_b zq_method_20_code_0 19 rfl rfl rfl)
set_option maxHeartbeats 4000000 in
set_option maxRecDepth 100000 in
theorem W_furnace {g : zG} {ad : Nat → Nat} {t : zTT} {u : zNN} {w : zW} (hI : IVm g ad t u w) (k : Int32) : zMB g M_Lw_furnace [.ref (ad 0), .int k, .ref (ad 69)] w (fun o w1 => MKx g ad t u.1 o w1) 10 300 := by
  obtain ⟨s, hI⟩ := hI
  obtain ⟨e_a, wf_a, k_a⟩ := hI.1.2 0 (by decide)
  obtain rfl := kd_0.mp k_a
  obtain ⟨e_o1, wf_o1, k_o1⟩ := hI.1.2 69 (by decide)
  obtain rfl := kd_69.mp k_o1
  refine y_ofH (by decide) (by decide) (Nat.le_of_ble_eq_true rfl) (y_base (cs := [((ad 0), .inr (11, [.ref (ad 1), .ref (ad 5), .ref (ad 18), .ref (ad 31), .ref (ad 32), .ref (ad 36), .ref (ad 42), .ref (ad 45), .ref (ad 47), .ref (ad 49), .ref (ad 50), .ref (ad 51)])), ((ad 69), .inl (3, 1, .inr (.inl (((mg t s).1 69).2.1))))]) (hI.1.I [0, 69] _ rfl (by decide) (by decide) (List.forall_mem_cons.mpr ⟨wf_a, (List.forall_mem_cons.mpr ⟨wf_o1, (fun _ h => nomatch h)⟩)⟩)) ?_)
  refine y_lvE (lv2 := [(0, .ref (ad 0)), (1, .int k), (2, .ref (ad 69))]) rfl ?_
  refine y_aload_n d_Lw_furnace_0 rfl 2 rfl ?_
  refine y_iconst d_Lw_furnace_1 (v := 0) (by decide) ?_
  refine y_aload_n d_Lw_furnace_2 rfl 0 rfl ?_
  refine y_iload_n d_Lw_furnace_3 rfl 1 rfl ?_
  refine yw_callVH (As := [.int k]) (rest := [.int 0, .ref (ad 69)]) (q0 := 0) rfl rfl ln_Lw_80 w_im_Ip_furnace w_se_Ip_furnace ok_Lw_furnace_Ip_furnace d_Lw_furnace_4 (fun wA hA => K_Ip_furnace ⟨_, (hI.gen (t2 := (mg t s)) (is := [0, 69]) (L2 := []) hA rfl ⟨kd_0.mpr rfl, kd_69.mpr rfl, trivial⟩ (by decide) (by decide) (fun _ h => nomatch h) (fun _ h => nomatch h) (fun _ _ _ => rfl) (fun h => h) rfl)⟩ k) rfl rfl (Nat.le_of_ble_eq_true rfl) (by omega) (by omega) (fun wA4 hA4 E wB4 hx => ?_) (fun wA4 hA4 v wB4 hx => ?_)
  · obtain ⟨h1, u2, hu, hI2⟩ := hx
    rcases List.mem_cons.mp (zriE h1) with rfl | g2
    · refine ⟨"java/lang/IllegalArgumentException", [], [(0, 9, 15, 33)], (0, 9, 12, 13), rfl, (fun z hz => nomatch hz), by decide, by decide, lx_Lw_13, ce_13, fun qx => ?_⟩
      refine y_base (cs := []) (z_I.nil wB4) ?_
      refine y_astore_n (lv' := [(3, .ref qx), (0, .ref (ad 0)), (1, .int k), (2, .ref (ad 69))]) d_Lw_furnace_12 rfl (by decide) rfl ?_
      refine y_iconst d_Lw_furnace_13 (v := 1) (by decide) ?_
      refine y_iret d_Lw_furnace_14 rfl rfl ?_
      exact fun w1 h1 => ⟨⟨_, rfl⟩, u2, hu, (z_I.same (z_I.nil _) h1).symm ▸ hI2⟩
    · obtain rfl := List.mem_singleton.mp g2
      refine ⟨"java/util/NoSuchElementException", [(0, 9, 12, 13)], [], (0, 9, 15, 33), rfl, (fun z hz => by simp only [List.mem_cons, List.not_mem_nil, or_false] at hz; rcases hz with rfl; exact Or.inr ⟨by decide, _, lx_Lw_13, by decide⟩), by decide, by decide, lx_Lw_33, ce_33, fun qx => ?_⟩
      refine y_base (cs := []) (z_I.nil wB4) ?_
      refine y_astore_n (lv' := [(3, .ref qx), (0, .ref (ad 0)), (1, .int k), (2, .ref (ad 69))]) d_Lw_furnace_15 rfl (by decide) rfl ?_
      refine y_iconst d_Lw_furnace_16 (v := 2) (by decide) ?_
      refine y_iret d_Lw_furnace_17 rfl rfl ?_
      exact fun w1 h1 => ⟨⟨_, rfl⟩, u2, hu, (z_I.same (z_I.nil _) h1).symm ▸ hI2⟩
  · obtain ⟨h1, u2, hu, hI2⟩ := hx
    obtain ⟨v9, rfl⟩ := zriV h1
    refine yw_st (st2 := [.int v9, .int 0, .ref (ad 69)]) rfl ?_
    obtain ⟨s9, hI⟩ := hI2
    obtain ⟨e_o1, wf_o1, k_o1⟩ := hI.1.2 69 (by decide)
    obtain rfl := kd_69.mp k_o1
    refine y_base (cs := [((ad 69), .inl (3, 1, .inr (.inl (((mg t s9).1 69).2.1))))]) (hI.1.I [69] _ rfl (by decide) (by decide) (List.forall_mem_cons.mpr ⟨wf_o1, (fun _ h => nomatch h)⟩)) ?_
    refine y_i2l d_Lw_furnace_7 (v := v9.toInt64) rfl ?_
    refine y_last d_Lw_furnace_8 (q0 := 0) rfl (fun q => q.elim (by decide) (by decide)) (f' := vp_updL (((mg t s9).1 69).2.1) 0 v9.toInt64) rfl (cs' := [((ad 69), .inl (3, 1, .inr (.inl (vp_updL (((mg t s9).1 69).2.1) 0 v9.toInt64))))]) rfl ?_
    refine y_goto (tgt := 18) d_Lw_furnace_9 (by decide) ?_
    refine y_iconst d_Lw_furnace_18 (v := 0) (by decide) ?_
    refine y_iret d_Lw_furnace_19 rfl rfl ?_
    exact fun w1 h1 => ⟨⟨_, rfl⟩, u2, hu, IVm.tz ((hI.gen (t2 := (zup (mg t s9).1 [(69, (((mg t s9).1 69).1, vp_updL (((mg t s9).1 69).2.1) 0 v9.toInt64, ((mg t s9).1 69).2.2))], (mg t s9).2)) (is := [69]) (L2 := []) h1 rfl ⟨kd_69.mpr rfl, trivial⟩ (by decide) (by decide) (fun _ h => nomatch h) (fun _ h => nomatch h) (fun i hi hn => zup_out (fun q => hn ((by decide : ∀ j ∈ ([69] : List Nat), j ∈ ([69] : List Nat)) i q))) (fun h => h) rfl)) (tx_all rfl)⟩
abbrev M_Lw_hold : zM := (⟨"IronpourLaw", "hold", "(LIronpour;I[J)I"⟩, method_21_code, 4, (Option.some FieldType.int), 7, 121, [((0 : Nat), (9 : Nat), (12 : Nat), (13 : Nat))])
theorem d_Lw_hold_0 : decode method_21_code 0 = .ok (.aload_n 2, 1) := zo_44 (zd_b zq_method_21_code_0 0 rfl rfl rfl)
theorem d_Lw_hold_1 : decode method_21_code 1 = .ok (.iconst 0, 1) := zo_3 (zd_b zq_method_21_code_0 1 rfl rfl rfl)
theorem d_Lw_hold_2 : decode method_21_code 2 = .ok (.aload_n 0, 1) := zo_42 (zd_b zq_method_21_code_0 2 rfl rfl rfl)
theorem d_Lw_hold_3 : decode method_21_code 3 = .ok (.iload_n 1, 1) := zo_27 (zd_b zq_method_21_code_0 3 rfl rfl rfl)
theorem d_Lw_hold_4 : decode method_21_code 4 = .ok (.invokevirtual 83, 3) := zo_182 (d := 0) (e := 83) (zd_b zq_method_21_code_0 4 rfl rfl rfl) (zd_b zq_method_21_code_0 5 rfl rfl rfl) (zd_b zq_method_21_code_0 6 rfl rfl rfl)
theorem ok_Lw_hold_Ip_hold : z_okH M_Lw_hold M_Ip_hold 1 := ⟨z_mj5 (i := 89) rfl (by decide +kernel), rfl, ⟨by decide +kernel, by decide +kernel, by decide +kernel⟩, ⟨by decide, by decide⟩, z_mj1 (i := 1) rfl (by decide +kernel)⟩
theorem ln_Lw_83 : Cond.methodLink "IronpourLaw" 83 M_Ip_hold.1 ∈ z_gw := z_mj5 (i := 86) rfl (by decide +kernel)
theorem w_im_Ip_hold : Cond.instanceMethod M_Ip_hold.1 ∈ z_gw := z_mj5 (i := 87) rfl (by decide +kernel)
theorem w_se_Ip_hold : Cond.selects M_Ip_hold.1.cls M_Ip_hold.1 M_Ip_hold.1 ∈ z_gw := z_mj5 (i := 88) rfl (by decide +kernel)
theorem d_Lw_hold_12 : decode method_21_code 12 = .ok (.astore_n 3, 1) := zo_78 (zd_b zq_method_21_code_0 12 rfl rfl rfl)
theorem d_Lw_hold_13 : decode method_21_code 13 = .ok (.iconst 1, 1) := zo_4 (zd_b zq_method_21_code_0 13 rfl rfl rfl)
theorem d_Lw_hold_14 : decode method_21_code 14 = .ok (.ireturn, 1) := zo_172 (zd_b zq_method_21_code_0 14 rfl rfl rfl)
theorem d_Lw_hold_7 : decode method_21_code 7 = .ok (.i2l, 1) := zo_133 (zd_b zq_method_21_code_0 7 rfl rfl rfl)
theorem d_Lw_hold_8 : decode method_21_code 8 = .ok (.lastore, 1) := zo_80 (zd_b zq_method_21_code_0 8 rfl rfl rfl)
theorem d_Lw_hold_9 : decode method_21_code 9 = .ok (.goto 6, 3) := zo_167 (d := 0) (e := 6) (zd_b zq_method_21_code_0 9 rfl rfl rfl) (zd_b zq_method_21_code_0 10 rfl rfl rfl) (zd_b zq_method_21_code_0 11 rfl rfl rfl) (by decide +kernel)
theorem d_Lw_hold_15 : decode method_21_code 15 = .ok (.iconst 0, 1) := zo_3 (zd_b zq_method_21_code_0 15 rfl rfl rfl)
theorem d_Lw_hold_16 : decode method_21_code 16 = .ok (.ireturn, 1) := zo_172 (zd_b zq_method_21_code_0 16 rfl rfl rfl)
set_option maxHeartbeats 4000000 in
set_option maxRecDepth 100000 in
theorem W_hold {g : zG} {ad : Nat → Nat} {t : zTT} {u : zNN} {w : zW} (hI : IVm g ad t u w) (x : Int32) : zMB g M_Lw_hold [.ref (ad 0), .int x, .ref (ad 69)] w (fun o w1 => MKx g ad (tK_Ip_hold x t) u.1 o w1) 10 300 := by
  obtain ⟨s, hI⟩ := hI
  obtain ⟨e_a, wf_a, k_a⟩ := hI.1.2 0 (by decide)
  obtain rfl := kd_0.mp k_a
  obtain ⟨e_o1, wf_o1, k_o1⟩ := hI.1.2 69 (by decide)
  obtain rfl := kd_69.mp k_o1
  refine y_ofH (by decide) (by decide) (Nat.le_of_ble_eq_true rfl) (y_base (cs := [((ad 0), .inr (11, [.ref (ad 1), .ref (ad 5), .ref (ad 18), .ref (ad 31), .ref (ad 32), .ref (ad 36), .ref (ad 42), .ref (ad 45), .ref (ad 47), .ref (ad 49), .ref (ad 50), .ref (ad 51)])), ((ad 69), .inl (3, 1, .inr (.inl (((mg t s).1 69).2.1))))]) (hI.1.I [0, 69] _ rfl (by decide) (by decide) (List.forall_mem_cons.mpr ⟨wf_a, (List.forall_mem_cons.mpr ⟨wf_o1, (fun _ h => nomatch h)⟩)⟩)) ?_)
  refine y_lvE (lv2 := [(0, .ref (ad 0)), (1, .int x), (2, .ref (ad 69))]) rfl ?_
  refine y_aload_n d_Lw_hold_0 rfl 2 rfl ?_
  refine y_iconst d_Lw_hold_1 (v := 0) (by decide) ?_
  refine y_aload_n d_Lw_hold_2 rfl 0 rfl ?_
  refine y_iload_n d_Lw_hold_3 rfl 1 rfl ?_
  refine yw_callVH (As := [.int x]) (rest := [.int 0, .ref (ad 69)]) (q0 := 0) rfl rfl ln_Lw_83 w_im_Ip_hold w_se_Ip_hold ok_Lw_hold_Ip_hold d_Lw_hold_4 (fun wA hA => K_Ip_hold ⟨_, (hI.gen (t2 := (mg t s)) (is := [0, 69]) (L2 := []) hA rfl ⟨kd_0.mpr rfl, kd_69.mpr rfl, trivial⟩ (by decide) (by decide) (fun _ h => nomatch h) (fun _ h => nomatch h) (fun _ _ _ => rfl) (fun h => h) rfl)⟩ x) rfl rfl (Nat.le_of_ble_eq_true rfl) (by omega) (by omega) (fun wA4 hA4 E wB4 hx => ?_) (fun wA4 hA4 v wB4 hx => ?_)
  · obtain ⟨h1, u2, hu, hI2⟩ := hx
    obtain rfl := List.mem_singleton.mp (zriE h1)
    refine ⟨"java/lang/IllegalArgumentException", [], [], (0, 9, 12, 13), rfl, (fun z hz => nomatch hz), by decide, by decide, lx_Lw_13, ce_13, fun qx => ?_⟩
    refine y_base (cs := []) (z_I.nil wB4) ?_
    refine y_astore_n (lv' := [(3, .ref qx), (0, .ref (ad 0)), (1, .int x), (2, .ref (ad 69))]) d_Lw_hold_12 rfl (by decide) rfl ?_
    refine y_iconst d_Lw_hold_13 (v := 1) (by decide) ?_
    refine y_iret d_Lw_hold_14 rfl rfl ?_
    exact fun w1 h1 => ⟨⟨_, rfl⟩, u2, hu, (z_I.same (z_I.nil _) h1).symm ▸ hI2⟩
  · obtain ⟨h1, u2, hu, hI2⟩ := hx
    obtain ⟨v9, rfl⟩ := zriV h1
    refine yw_st (st2 := [.int v9, .int 0, .ref (ad 69)]) rfl ?_
    obtain ⟨s9, hI⟩ := hI2
    obtain ⟨e_o1, wf_o1, k_o1⟩ := hI.1.2 69 (by decide)
    obtain rfl := kd_69.mp k_o1
    refine y_base (cs := [((ad 69), .inl (3, 1, .inr (.inl (((mg (tK_Ip_hold x t) s9).1 69).2.1))))]) (hI.1.I [69] _ rfl (by decide) (by decide) (List.forall_mem_cons.mpr ⟨wf_o1, (fun _ h => nomatch h)⟩)) ?_
    refine y_i2l d_Lw_hold_7 (v := v9.toInt64) rfl ?_
    refine y_last d_Lw_hold_8 (q0 := 0) rfl (fun q => q.elim (by decide) (by decide)) (f' := vp_updL (((mg (tK_Ip_hold x t) s9).1 69).2.1) 0 v9.toInt64) rfl (cs' := [((ad 69), .inl (3, 1, .inr (.inl (vp_updL (((mg (tK_Ip_hold x t) s9).1 69).2.1) 0 v9.toInt64))))]) rfl ?_
    refine y_goto (tgt := 15) d_Lw_hold_9 (by decide) ?_
    refine y_iconst d_Lw_hold_15 (v := 0) (by decide) ?_
    refine y_iret d_Lw_hold_16 rfl rfl ?_
    exact fun w1 h1 => ⟨⟨_, rfl⟩, u2, hu, IVm.tz ((hI.gen (t2 := (zup (mg (tK_Ip_hold x t) s9).1 [(69, (((mg (tK_Ip_hold x t) s9).1 69).1, vp_updL (((mg (tK_Ip_hold x t) s9).1 69).2.1) 0 v9.toInt64, ((mg (tK_Ip_hold x t) s9).1 69).2.2))], (mg (tK_Ip_hold x t) s9).2)) (is := [69]) (L2 := []) h1 rfl ⟨kd_69.mpr rfl, trivial⟩ (by decide) (by decide) (fun _ h => nomatch h) (fun _ h => nomatch h) (fun i hi hn => zup_out (fun q => hn ((by decide : ∀ j ∈ ([69] : List Nat), j ∈ ([69] : List Nat)) i q))) (fun h => h) rfl)) (tx_all rfl)⟩
abbrev M_Lw_tap : zM := (⟨"IronpourLaw", "tap", "(LIronpour;I[J)I"⟩, method_22_code, 4, (Option.some FieldType.int), 7, 121, [((0 : Nat), (9 : Nat), (12 : Nat), (13 : Nat)), ((0 : Nat), (9 : Nat), (15 : Nat), (69 : Nat)), ((0 : Nat), (9 : Nat), (18 : Nat), (78 : Nat))])
theorem d_Lw_tap_0 : decode method_22_code 0 = .ok (.aload_n 2, 1) := zo_44 (zd_b zq_method_22_code_0 0 rfl rfl rfl)
theorem d_Lw_tap_1 : decode method_22_code 1 = .ok (.iconst 0, 1) := zo_3 (zd_b zq_method_22_code_0 1 rfl rfl rfl)
theorem d_Lw_tap_2 : decode method_22_code 2 = .ok (.aload_n 0, 1) := zo_42 (zd_b zq_method_22_code_0 2 rfl rfl rfl)
theorem d_Lw_tap_3 : decode method_22_code 3 = .ok (.iload_n 1, 1) := zo_27 (zd_b zq_method_22_code_0 3 rfl rfl rfl)
theorem d_Lw_tap_4 : decode method_22_code 4 = .ok (.invokevirtual 86, 3) := zo_182 (d := 0) (e := 86) (zd_b zq_method_22_code_0 4 rfl rfl rfl) (zd_b zq_method_22_code_0 5 rfl rfl rfl) (zd_b zq_method_22_code_0 6 rfl rfl rfl)
theorem ok_Lw_tap_Ip_tap : z_okH M_Lw_tap M_Ip_tap 1 := ⟨z_mj5 (i := 105) rfl (by decide +kernel), rfl, ⟨by decide +kernel, by decide +kernel, by decide +kernel⟩, ⟨by decide, by decide⟩, z_mj1 (i := 1) rfl (by decide +kernel)⟩
theorem ln_Lw_86 : Cond.methodLink "IronpourLaw" 86 M_Ip_tap.1 ∈ z_gw := z_mj5 (i := 102) rfl (by decide +kernel)
theorem w_im_Ip_tap : Cond.instanceMethod M_Ip_tap.1 ∈ z_gw := z_mj5 (i := 103) rfl (by decide +kernel)
theorem w_se_Ip_tap : Cond.selects M_Ip_tap.1.cls M_Ip_tap.1 M_Ip_tap.1 ∈ z_gw := z_mj5 (i := 104) rfl (by decide +kernel)
theorem d_Lw_tap_12 : decode method_22_code 12 = .ok (.astore_n 3, 1) := zo_78 (zd_b zq_method_22_code_0 12 rfl rfl rfl)
theorem d_Lw_tap_13 : decode method_22_code 13 = .ok (.iconst 1, 1) := zo_4 (zd_b zq_method_22_code_0 13 rfl rfl rfl)
theorem d_Lw_tap_14 : decode method_22_code 14 = .ok (.ireturn, 1) := zo_172 (zd_b zq_method_22_code_0 14 rfl rfl rfl)
theorem d_Lw_tap_15 : decode method_22_code 15 = .ok (.astore_n 3, 1) := zo_78 (zd_b zq_method_22_code_0 15 rfl rfl rfl)
theorem d_Lw_tap_16 : decode method_22_code 16 = .ok (.iconst 2, 1) := zo_5 (zd_b zq_method_22_code_0 16 rfl rfl rfl)
theorem d_Lw_tap_17 : decode method_22_code 17 = .ok (.ireturn, 1) := zo_172 (zd_b zq_method_22_code_0 17 rfl rfl rfl)
theorem d_Lw_tap_18 : decode method_22_code 18 = .ok (.astore_n 3, 1) := zo_78 (zd_b zq_method_22_code_0 18 rfl rfl rfl)
theorem d_Lw_tap_19 : decode method_22_code 19 = .ok (.iconst 3, 1) := zo_6 (zd_b zq_method_22_code_0 19 rfl rfl rfl)
theorem d_Lw_tap_20 : decode method_22_code 20 = .ok (.ireturn, 1) := zo_172 (zd_b zq_method_22_code_0 20 rfl rfl rfl)
theorem d_Lw_tap_7 : decode method_22_code 7 = .ok (.i2l, 1) := zo_133 (zd_b zq_method_22_code_0 7 rfl rfl rfl)
theorem d_Lw_tap_8 : decode method_22_code 8 = .ok (.lastore, 1) := zo_80 (zd_b zq_method_22_code_0 8 rfl rfl rfl)
theorem d_Lw_tap_9 : decode method_22_code 9 = .ok (.goto 12, 3) := zo_167 (d := 0) (e := 12) (zd_b zq_method_22_code_0 9 rfl rfl rfl) (zd_b zq_method_22_code_0 10 rfl rfl rfl) (zd_b zq_method_22_code_0 11 rfl rfl rfl) (by decide +kernel)
theorem d_Lw_tap_21 : decode method_22_code 21 = .ok (.iconst 0, 1) := zo_3 (zd_b zq_method_22_code_0 21 rfl rfl rfl)
theorem d_Lw_tap_22 : decode method_22_code 22 = .ok (.ireturn, 1) := zo_172 (zd_b zq_method_22_code_0 22 rfl rfl rfl)
set_option maxHeartbeats 4000000 in
set_option maxRecDepth 100000 in
theorem W_tap {g : zG} {ad : Nat → Nat} {t : zTT} {u : zNN} {w : zW} (hI : IVm g ad t u w) (m : Int32) : zMB g M_Lw_tap [.ref (ad 0), .int m, .ref (ad 69)] w (fun o w1 => MKx g ad (tK_Ip_tap m t) u.1 o w1) 10 300 := by
  obtain ⟨s, hI⟩ := hI
  obtain ⟨e_a, wf_a, k_a⟩ := hI.1.2 0 (by decide)
  obtain rfl := kd_0.mp k_a
  obtain ⟨e_o1, wf_o1, k_o1⟩ := hI.1.2 69 (by decide)
  obtain rfl := kd_69.mp k_o1
  refine y_ofH (by decide) (by decide) (Nat.le_of_ble_eq_true rfl) (y_base (cs := [((ad 0), .inr (11, [.ref (ad 1), .ref (ad 5), .ref (ad 18), .ref (ad 31), .ref (ad 32), .ref (ad 36), .ref (ad 42), .ref (ad 45), .ref (ad 47), .ref (ad 49), .ref (ad 50), .ref (ad 51)])), ((ad 69), .inl (3, 1, .inr (.inl (((mg t s).1 69).2.1))))]) (hI.1.I [0, 69] _ rfl (by decide) (by decide) (List.forall_mem_cons.mpr ⟨wf_a, (List.forall_mem_cons.mpr ⟨wf_o1, (fun _ h => nomatch h)⟩)⟩)) ?_)
  refine y_lvE (lv2 := [(0, .ref (ad 0)), (1, .int m), (2, .ref (ad 69))]) rfl ?_
  refine y_aload_n d_Lw_tap_0 rfl 2 rfl ?_
  refine y_iconst d_Lw_tap_1 (v := 0) (by decide) ?_
  refine y_aload_n d_Lw_tap_2 rfl 0 rfl ?_
  refine y_iload_n d_Lw_tap_3 rfl 1 rfl ?_
  refine yw_callVH (As := [.int m]) (rest := [.int 0, .ref (ad 69)]) (q0 := 0) rfl rfl ln_Lw_86 w_im_Ip_tap w_se_Ip_tap ok_Lw_tap_Ip_tap d_Lw_tap_4 (fun wA hA => K_Ip_tap ⟨_, (hI.gen (t2 := (mg t s)) (is := [0, 69]) (L2 := []) hA rfl ⟨kd_0.mpr rfl, kd_69.mpr rfl, trivial⟩ (by decide) (by decide) (fun _ h => nomatch h) (fun _ h => nomatch h) (fun _ _ _ => rfl) (fun h => h) rfl)⟩ m) rfl rfl (Nat.le_of_ble_eq_true rfl) (by omega) (by omega) (fun wA4 hA4 E wB4 hx => ?_) (fun wA4 hA4 v wB4 hx => ?_)
  · obtain ⟨h1, u2, hu, hI2⟩ := hx
    rcases List.mem_cons.mp (zriE h1) with rfl | g3
    · refine ⟨"java/lang/IllegalArgumentException", [], [(0, 9, 15, 69), (0, 9, 18, 78)], (0, 9, 12, 13), rfl, (fun z hz => nomatch hz), by decide, by decide, lx_Lw_13, ce_13, fun qx => ?_⟩
      refine y_base (cs := []) (z_I.nil wB4) ?_
      refine y_astore_n (lv' := [(3, .ref qx), (0, .ref (ad 0)), (1, .int m), (2, .ref (ad 69))]) d_Lw_tap_12 rfl (by decide) rfl ?_
      refine y_iconst d_Lw_tap_13 (v := 1) (by decide) ?_
      refine y_iret d_Lw_tap_14 rfl rfl ?_
      exact fun w1 h1 => ⟨⟨_, rfl⟩, u2, hu, (z_I.same (z_I.nil _) h1).symm ▸ hI2⟩
    · rcases List.mem_cons.mp g3 with rfl | g2
      · refine ⟨"java/lang/IllegalStateException", [(0, 9, 12, 13)], [(0, 9, 18, 78)], (0, 9, 15, 69), rfl, (fun z hz => by simp only [List.mem_cons, List.not_mem_nil, or_false] at hz; rcases hz with rfl; exact Or.inr ⟨by decide, _, lx_Lw_13, by decide⟩), by decide, by decide, lx_Lw_69, ce_69, fun qx => ?_⟩
        refine y_base (cs := []) (z_I.nil wB4) ?_
        refine y_astore_n (lv' := [(3, .ref qx), (0, .ref (ad 0)), (1, .int m), (2, .ref (ad 69))]) d_Lw_tap_15 rfl (by decide) rfl ?_
        refine y_iconst d_Lw_tap_16 (v := 2) (by decide) ?_
        refine y_iret d_Lw_tap_17 rfl rfl ?_
        exact fun w1 h1 => ⟨⟨_, rfl⟩, u2, hu, (z_I.same (z_I.nil _) h1).symm ▸ hI2⟩
      · obtain rfl := List.mem_singleton.mp g2
        refine ⟨"java/lang/UnsupportedOperationException", [(0, 9, 12, 13), (0, 9, 15, 69)], [], (0, 9, 18, 78), rfl, (fun z hz => by simp only [List.mem_cons, List.not_mem_nil, or_false] at hz; rcases hz with rfl | rfl <;> first | exact Or.inr ⟨by decide, _, lx_Lw_13, by decide⟩ | exact Or.inr ⟨by decide, _, lx_Lw_69, by decide⟩), by decide, by decide, lx_Lw_78, ce_78, fun qx => ?_⟩
        refine y_base (cs := []) (z_I.nil wB4) ?_
        refine y_astore_n (lv' := [(3, .ref qx), (0, .ref (ad 0)), (1, .int m), (2, .ref (ad 69))]) d_Lw_tap_18 rfl (by decide) rfl ?_
        refine y_iconst d_Lw_tap_19 (v := 3) (by decide) ?_
        refine y_iret d_Lw_tap_20 rfl rfl ?_
        exact fun w1 h1 => ⟨⟨_, rfl⟩, u2, hu, (z_I.same (z_I.nil _) h1).symm ▸ hI2⟩
  · obtain ⟨h1, u2, hu, hI2⟩ := hx
    obtain ⟨v9, rfl⟩ := zriV h1
    refine yw_st (st2 := [.int v9, .int 0, .ref (ad 69)]) rfl ?_
    obtain ⟨s9, hI⟩ := hI2
    obtain ⟨e_o1, wf_o1, k_o1⟩ := hI.1.2 69 (by decide)
    obtain rfl := kd_69.mp k_o1
    refine y_base (cs := [((ad 69), .inl (3, 1, .inr (.inl (((mg (tK_Ip_tap m t) s9).1 69).2.1))))]) (hI.1.I [69] _ rfl (by decide) (by decide) (List.forall_mem_cons.mpr ⟨wf_o1, (fun _ h => nomatch h)⟩)) ?_
    refine y_i2l d_Lw_tap_7 (v := v9.toInt64) rfl ?_
    refine y_last d_Lw_tap_8 (q0 := 0) rfl (fun q => q.elim (by decide) (by decide)) (f' := vp_updL (((mg (tK_Ip_tap m t) s9).1 69).2.1) 0 v9.toInt64) rfl (cs' := [((ad 69), .inl (3, 1, .inr (.inl (vp_updL (((mg (tK_Ip_tap m t) s9).1 69).2.1) 0 v9.toInt64))))]) rfl ?_
    refine y_goto (tgt := 21) d_Lw_tap_9 (by decide) ?_
    refine y_iconst d_Lw_tap_21 (v := 0) (by decide) ?_
    refine y_iret d_Lw_tap_22 rfl rfl ?_
    exact fun w1 h1 => ⟨⟨_, rfl⟩, u2, hu, IVm.tz ((hI.gen (t2 := (zup (mg (tK_Ip_tap m t) s9).1 [(69, (((mg (tK_Ip_tap m t) s9).1 69).1, vp_updL (((mg (tK_Ip_tap m t) s9).1 69).2.1) 0 v9.toInt64, ((mg (tK_Ip_tap m t) s9).1 69).2.2))], (mg (tK_Ip_tap m t) s9).2)) (is := [69]) (L2 := []) h1 rfl ⟨kd_69.mpr rfl, trivial⟩ (by decide) (by decide) (fun _ h => nomatch h) (fun _ h => nomatch h) (fun i hi hn => zup_out (fun q => hn ((by decide : ∀ j ∈ ([69] : List Nat), j ∈ ([69] : List Nat)) i q))) (fun h => h) rfl)) (tx_all rfl)⟩
abbrev M_Lw_treat : zM := (⟨"IronpourLaw", "treat", "(LIronpour;I[J)I"⟩, method_23_code, 4, (Option.some FieldType.int), 7, 121, [((0 : Nat), (9 : Nat), (12 : Nat), (13 : Nat)), ((0 : Nat), (9 : Nat), (15 : Nat), (69 : Nat)), ((0 : Nat), (9 : Nat), (18 : Nat), (78 : Nat))])
theorem d_Lw_treat_0 : decode method_23_code 0 = .ok (.aload_n 2, 1) := zo_44 (zd_b zq_method_23_code_0 0 rfl rfl rfl)
theorem d_Lw_treat_1 : decode method_23_code 1 = .ok (.iconst 0, 1) := zo_3 (zd_b zq_method_23_code_0 1 rfl rfl rfl)
theorem d_Lw_treat_2 : decode method_23_code 2 = .ok (.aload_n 0, 1) := zo_42 (zd_b zq_method_23_code_0 2 rfl rfl rfl)
theorem d_Lw_treat_3 : decode method_23_code 3 = .ok (.iload_n 1, 1) := zo_27 (zd_b zq_method_23_code_0 3 rfl rfl rfl)
theorem d_Lw_treat_4 : decode method_23_code 4 = .ok (.invokevirtual 89, 3) := zo_182 (d := 0) (e := 89) (zd_b zq_method_23_code_0 4 rfl rfl rfl) (zd_b zq_method_23_code_0 5 rfl rfl rfl) (zd_b zq_method_23_code_0 6 rfl rfl rfl)
theorem ok_Lw_treat_Ip_treat : z_okH M_Lw_treat M_Ip_treat 1 := ⟨z_mj5 (i := 124) rfl (by decide +kernel), rfl, ⟨by decide +kernel, by decide +kernel, by decide +kernel⟩, ⟨by decide, by decide⟩, z_mj1 (i := 1) rfl (by decide +kernel)⟩
theorem ln_Lw_89 : Cond.methodLink "IronpourLaw" 89 M_Ip_treat.1 ∈ z_gw := z_mj5 (i := 121) rfl (by decide +kernel)
theorem w_im_Ip_treat : Cond.instanceMethod M_Ip_treat.1 ∈ z_gw := z_mj5 (i := 122) rfl (by decide +kernel)
theorem w_se_Ip_treat : Cond.selects M_Ip_treat.1.cls M_Ip_treat.1 M_Ip_treat.1 ∈ z_gw := z_mj5 (i := 123) rfl (by decide +kernel)
theorem d_Lw_treat_12 : decode method_23_code 12 = .ok (.astore_n 3, 1) := zo_78 (zd_b zq_method_23_code_0 12 rfl rfl rfl)
theorem d_Lw_treat_13 : decode method_23_code 13 = .ok (.iconst 1, 1) := zo_4 (zd_b zq_method_23_code_0 13 rfl rfl rfl)
theorem d_Lw_treat_14 : decode method_23_code 14 = .ok (.ireturn, 1) := zo_172 (zd_b zq_method_23_code_0 14 rfl rfl rfl)
theorem d_Lw_treat_15 : decode method_23_code 15 = .ok (.astore_n 3, 1) := zo_78 (zd_b zq_method_23_code_0 15 rfl rfl rfl)
theorem d_Lw_treat_16 : decode method_23_code 16 = .ok (.iconst 2, 1) := zo_5 (zd_b zq_method_23_code_0 16 rfl rfl rfl)
theorem d_Lw_treat_17 : decode method_23_code 17 = .ok (.ireturn, 1) := zo_172 (zd_b zq_method_23_code_0 17 rfl rfl rfl)
theorem d_Lw_treat_18 : decode method_23_code 18 = .ok (.astore_n 3, 1) := zo_78 (zd_b zq_method_23_code_0 18 rfl rfl rfl)
theorem d_Lw_treat_19 : decode method_23_code 19 = .ok (.iconst 3, 1) := zo_6 (zd_b zq_method_23_code_0 19 rfl rfl rfl)
theorem d_Lw_treat_20 : decode method_23_code 20 = .ok (.ireturn, 1) := zo_172 (zd_b zq_method_23_code_0 20 rfl rfl rfl)
theorem d_Lw_treat_7 : decode method_23_code 7 = .ok (.i2l, 1) := zo_133 (zd_b zq_method_23_code_0 7 rfl rfl rfl)
theorem d_Lw_treat_8 : decode method_23_code 8 = .ok (.lastore, 1) := zo_80 (zd_b zq_method_23_code_0 8 rfl rfl rfl)
theorem d_Lw_treat_9 : decode method_23_code 9 = .ok (.goto 12, 3) := zo_167 (d := 0) (e := 12) (zd_b zq_method_23_code_0 9 rfl rfl rfl) (zd_b zq_method_23_code_0 10 rfl rfl rfl) (zd_b zq_method_23_code_0 11 rfl rfl rfl) (by decide +kernel)
theorem d_Lw_treat_21 : decode method_23_code 21 = .ok (.iconst 0, 1) := zo_3 (zd_b zq_method_23_code_0 21 rfl rfl rfl)
theorem d_Lw_treat_22 : decode method_23_code 22 = .ok (.ireturn, 1) := zo_172 (zd_b zq_method_23_code_0 22 rfl rfl rfl)
set_option maxHeartbeats 4000000 in
set_option maxRecDepth 100000 in
theorem W_treat {g : zG} {ad : Nat → Nat} {t : zTT} {u : zNN} {w : zW} (hI : IVm g ad t u w) (m : Int32) : zMB g M_Lw_treat [.ref (ad 0), .int m, .ref (ad 69)] w (fun o w1 => MKx g ad (tK_Ip_treat m t) u.1 o w1) 10 300 := by
  obtain ⟨s, hI⟩ := hI
  obtain ⟨e_a, wf_a, k_a⟩ := hI.1.2 0 (by decide)
  obtain rfl := kd_0.mp k_a
  obtain ⟨e_o1, wf_o1, k_o1⟩ := hI.1.2 69 (by decide)
  obtain rfl := kd_69.mp k_o1
  refine y_ofH (by decide) (by decide) (Nat.le_of_ble_eq_true rfl) (y_base (cs := [((ad 0), .inr (11, [.ref (ad 1), .ref (ad 5), .ref (ad 18), .ref (ad 31), .ref (ad 32), .ref (ad 36), .ref (ad 42), .ref (ad 45), .ref (ad 47), .ref (ad 49), .ref (ad 50), .ref (ad 51)])), ((ad 69), .inl (3, 1, .inr (.inl (((mg t s).1 69).2.1))))]) (hI.1.I [0, 69] _ rfl (by decide) (by decide) (List.forall_mem_cons.mpr ⟨wf_a, (List.forall_mem_cons.mpr ⟨wf_o1, (fun _ h => nomatch h)⟩)⟩)) ?_)
  refine y_lvE (lv2 := [(0, .ref (ad 0)), (1, .int m), (2, .ref (ad 69))]) rfl ?_
  refine y_aload_n d_Lw_treat_0 rfl 2 rfl ?_
  refine y_iconst d_Lw_treat_1 (v := 0) (by decide) ?_
  refine y_aload_n d_Lw_treat_2 rfl 0 rfl ?_
  refine y_iload_n d_Lw_treat_3 rfl 1 rfl ?_
  refine yw_callVH (As := [.int m]) (rest := [.int 0, .ref (ad 69)]) (q0 := 0) rfl rfl ln_Lw_89 w_im_Ip_treat w_se_Ip_treat ok_Lw_treat_Ip_treat d_Lw_treat_4 (fun wA hA => K_Ip_treat ⟨_, (hI.gen (t2 := (mg t s)) (is := [0, 69]) (L2 := []) hA rfl ⟨kd_0.mpr rfl, kd_69.mpr rfl, trivial⟩ (by decide) (by decide) (fun _ h => nomatch h) (fun _ h => nomatch h) (fun _ _ _ => rfl) (fun h => h) rfl)⟩ m) rfl rfl (Nat.le_of_ble_eq_true rfl) (by omega) (by omega) (fun wA4 hA4 E wB4 hx => ?_) (fun wA4 hA4 v wB4 hx => ?_)
  · obtain ⟨h1, u2, hu, hI2⟩ := hx
    rcases List.mem_cons.mp (zriE h1) with rfl | g3
    · refine ⟨"java/lang/IllegalArgumentException", [], [(0, 9, 15, 69), (0, 9, 18, 78)], (0, 9, 12, 13), rfl, (fun z hz => nomatch hz), by decide, by decide, lx_Lw_13, ce_13, fun qx => ?_⟩
      refine y_base (cs := []) (z_I.nil wB4) ?_
      refine y_astore_n (lv' := [(3, .ref qx), (0, .ref (ad 0)), (1, .int m), (2, .ref (ad 69))]) d_Lw_treat_12 rfl (by decide) rfl ?_
      refine y_iconst d_Lw_treat_13 (v := 1) (by decide) ?_
      refine y_iret d_Lw_treat_14 rfl rfl ?_
      exact fun w1 h1 => ⟨⟨_, rfl⟩, u2, hu, (z_I.same (z_I.nil _) h1).symm ▸ hI2⟩
    · rcases List.mem_cons.mp g3 with rfl | g2
      · refine ⟨"java/lang/IllegalStateException", [(0, 9, 12, 13)], [(0, 9, 18, 78)], (0, 9, 15, 69), rfl, (fun z hz => by simp only [List.mem_cons, List.not_mem_nil, or_false] at hz; rcases hz with rfl; exact Or.inr ⟨by decide, _, lx_Lw_13, by decide⟩), by decide, by decide, lx_Lw_69, ce_69, fun qx => ?_⟩
        refine y_base (cs := []) (z_I.nil wB4) ?_
        refine y_astore_n (lv' := [(3, .ref qx), (0, .ref (ad 0)), (1, .int m), (2, .ref (ad 69))]) d_Lw_treat_15 rfl (by decide) rfl ?_
        refine y_iconst d_Lw_treat_16 (v := 2) (by decide) ?_
        refine y_iret d_Lw_treat_17 rfl rfl ?_
        exact fun w1 h1 => ⟨⟨_, rfl⟩, u2, hu, (z_I.same (z_I.nil _) h1).symm ▸ hI2⟩
      · obtain rfl := List.mem_singleton.mp g2
        refine ⟨"java/lang/UnsupportedOperationException", [(0, 9, 12, 13), (0, 9, 15, 69)], [], (0, 9, 18, 78), rfl, (fun z hz => by simp only [List.mem_cons, List.not_mem_nil, or_false] at hz; rcases hz with rfl | rfl <;> first | exact Or.inr ⟨by decide, _, lx_Lw_13, by decide⟩ | exact Or.inr ⟨by decide, _, lx_Lw_69, by decide⟩), by decide, by decide, lx_Lw_78, ce_78, fun qx => ?_⟩
        refine y_base (cs := []) (z_I.nil wB4) ?_
        refine y_astore_n (lv' := [(3, .ref qx), (0, .ref (ad 0)), (1, .int m), (2, .ref (ad 69))]) d_Lw_treat_18 rfl (by decide) rfl ?_
        refine y_iconst d_Lw_treat_19 (v := 3) (by decide) ?_
        refine y_iret d_Lw_treat_20 rfl rfl ?_
        exact fun w1 h1 => ⟨⟨_, rfl⟩, u2, hu, (z_I.same (z_I.nil _) h1).symm ▸ hI2⟩
  · obtain ⟨h1, u2, hu, hI2⟩ := hx
    obtain ⟨v9, rfl⟩ := zriV h1
    refine yw_st (st2 := [.int v9, .int 0, .ref (ad 69)]) rfl ?_
    obtain ⟨s9, hI⟩ := hI2
    obtain ⟨e_o1, wf_o1, k_o1⟩ := hI.1.2 69 (by decide)
    obtain rfl := kd_69.mp k_o1
    refine y_base (cs := [((ad 69), .inl (3, 1, .inr (.inl (((mg (tK_Ip_treat m t) s9).1 69).2.1))))]) (hI.1.I [69] _ rfl (by decide) (by decide) (List.forall_mem_cons.mpr ⟨wf_o1, (fun _ h => nomatch h)⟩)) ?_
    refine y_i2l d_Lw_treat_7 (v := v9.toInt64) rfl ?_
    refine y_last d_Lw_treat_8 (q0 := 0) rfl (fun q => q.elim (by decide) (by decide)) (f' := vp_updL (((mg (tK_Ip_treat m t) s9).1 69).2.1) 0 v9.toInt64) rfl (cs' := [((ad 69), .inl (3, 1, .inr (.inl (vp_updL (((mg (tK_Ip_treat m t) s9).1 69).2.1) 0 v9.toInt64))))]) rfl ?_
    refine y_goto (tgt := 21) d_Lw_treat_9 (by decide) ?_
    refine y_iconst d_Lw_treat_21 (v := 0) (by decide) ?_
    refine y_iret d_Lw_treat_22 rfl rfl ?_
    exact fun w1 h1 => ⟨⟨_, rfl⟩, u2, hu, IVm.tz ((hI.gen (t2 := (zup (mg (tK_Ip_treat m t) s9).1 [(69, (((mg (tK_Ip_treat m t) s9).1 69).1, vp_updL (((mg (tK_Ip_treat m t) s9).1 69).2.1) 0 v9.toInt64, ((mg (tK_Ip_treat m t) s9).1 69).2.2))], (mg (tK_Ip_treat m t) s9).2)) (is := [69]) (L2 := []) h1 rfl ⟨kd_69.mpr rfl, trivial⟩ (by decide) (by decide) (fun _ h => nomatch h) (fun _ h => nomatch h) (fun i hi hn => zup_out (fun q => hn ((by decide : ∀ j ∈ ([69] : List Nat), j ∈ ([69] : List Nat)) i q))) (fun h => h) rfl)) (tx_all rfl)⟩
abbrev M_Lw_minutes : zM := (⟨"IronpourLaw", "minutes", "(LIronpour;I[J)I"⟩, method_24_code, 4, (Option.some FieldType.int), 7, 122, [((0 : Nat), (9 : Nat), (12 : Nat), (13 : Nat))])
theorem d_Lw_minutes_0 : decode method_24_code 0 = .ok (.aload_n 2, 1) := zo_44 (zd_b zq_method_24_code_0 0 rfl rfl rfl)
theorem d_Lw_minutes_1 : decode method_24_code 1 = .ok (.iconst 0, 1) := zo_3 (zd_b zq_method_24_code_0 1 rfl rfl rfl)
theorem d_Lw_minutes_2 : decode method_24_code 2 = .ok (.aload_n 0, 1) := zo_42 (zd_b zq_method_24_code_0 2 rfl rfl rfl)
theorem d_Lw_minutes_3 : decode method_24_code 3 = .ok (.iload_n 1, 1) := zo_27 (zd_b zq_method_24_code_0 3 rfl rfl rfl)
theorem d_Lw_minutes_4 : decode method_24_code 4 = .ok (.invokevirtual 92, 3) := zo_182 (d := 0) (e := 92) (zd_b zq_method_24_code_0 4 rfl rfl rfl) (zd_b zq_method_24_code_0 5 rfl rfl rfl) (zd_b zq_method_24_code_0 6 rfl rfl rfl)
theorem ok_Lw_minutes_Ip_minutes : z_okH M_Lw_minutes M_Ip_minutes 1 := ⟨z_mj5 (i := 138) rfl (by decide +kernel), rfl, ⟨by decide +kernel, by decide +kernel, by decide +kernel⟩, ⟨by decide, by decide⟩, z_mj1 (i := 1) rfl (by decide +kernel)⟩
theorem ln_Lw_92 : Cond.methodLink "IronpourLaw" 92 M_Ip_minutes.1 ∈ z_gw := z_mj5 (i := 135) rfl (by decide +kernel)
theorem w_im_Ip_minutes : Cond.instanceMethod M_Ip_minutes.1 ∈ z_gw := z_mj5 (i := 136) rfl (by decide +kernel)
theorem w_se_Ip_minutes : Cond.selects M_Ip_minutes.1.cls M_Ip_minutes.1 M_Ip_minutes.1 ∈ z_gw := z_mj5 (i := 137) rfl (by decide +kernel)
theorem d_Lw_minutes_12 : decode method_24_code 12 = .ok (.astore_n 3, 1) := zo_78 (zd_b zq_method_24_code_0 12 rfl rfl rfl)
theorem d_Lw_minutes_13 : decode method_24_code 13 = .ok (.iconst 1, 1) := zo_4 (zd_b zq_method_24_code_0 13 rfl rfl rfl)
theorem d_Lw_minutes_14 : decode method_24_code 14 = .ok (.ireturn, 1) := zo_172 (zd_b zq_method_24_code_0 14 rfl rfl rfl)
theorem d_Lw_minutes_7 : decode method_24_code 7 = .ok (.i2l, 1) := zo_133 (zd_b zq_method_24_code_0 7 rfl rfl rfl)
theorem d_Lw_minutes_8 : decode method_24_code 8 = .ok (.lastore, 1) := zo_80 (zd_b zq_method_24_code_0 8 rfl rfl rfl)
theorem d_Lw_minutes_9 : decode method_24_code 9 = .ok (.goto 6, 3) := zo_167 (d := 0) (e := 6) (zd_b zq_method_24_code_0 9 rfl rfl rfl) (zd_b zq_method_24_code_0 10 rfl rfl rfl) (zd_b zq_method_24_code_0 11 rfl rfl rfl) (by decide +kernel)
theorem d_Lw_minutes_15 : decode method_24_code 15 = .ok (.iconst 0, 1) := zo_3 (zd_b zq_method_24_code_0 15 rfl rfl rfl)
theorem d_Lw_minutes_16 : decode method_24_code 16 = .ok (.ireturn, 1) := zo_172 (zd_b zq_method_24_code_0 16 rfl rfl rfl)
set_option maxHeartbeats 4000000 in
set_option maxRecDepth 100000 in
theorem W_minutes {g : zG} {ad : Nat → Nat} {t : zTT} {u : zNN} {w : zW} (hI : IVm g ad t u w) (x : Int32) : zMB g M_Lw_minutes [.ref (ad 0), .int x, .ref (ad 69)] w (fun o w1 => MKx g ad (tK_Ip_minutes x t u.1) u.1 o w1) 10 300 := by
  obtain ⟨s, hI⟩ := hI
  obtain ⟨e_a, wf_a, k_a⟩ := hI.1.2 0 (by decide)
  obtain rfl := kd_0.mp k_a
  obtain ⟨e_o1, wf_o1, k_o1⟩ := hI.1.2 69 (by decide)
  obtain rfl := kd_69.mp k_o1
  refine y_ofH (by decide) (by decide) (Nat.le_of_ble_eq_true rfl) (y_base (cs := [((ad 0), .inr (11, [.ref (ad 1), .ref (ad 5), .ref (ad 18), .ref (ad 31), .ref (ad 32), .ref (ad 36), .ref (ad 42), .ref (ad 45), .ref (ad 47), .ref (ad 49), .ref (ad 50), .ref (ad 51)])), ((ad 69), .inl (3, 1, .inr (.inl (((mg t s).1 69).2.1))))]) (hI.1.I [0, 69] _ rfl (by decide) (by decide) (List.forall_mem_cons.mpr ⟨wf_a, (List.forall_mem_cons.mpr ⟨wf_o1, (fun _ h => nomatch h)⟩)⟩)) ?_)
  refine y_lvE (lv2 := [(0, .ref (ad 0)), (1, .int x), (2, .ref (ad 69))]) rfl ?_
  refine y_aload_n d_Lw_minutes_0 rfl 2 rfl ?_
  refine y_iconst d_Lw_minutes_1 (v := 0) (by decide) ?_
  refine y_aload_n d_Lw_minutes_2 rfl 0 rfl ?_
  refine y_iload_n d_Lw_minutes_3 rfl 1 rfl ?_
  refine yw_callVH (As := [.int x]) (rest := [.int 0, .ref (ad 69)]) (q0 := 0) rfl rfl ln_Lw_92 w_im_Ip_minutes w_se_Ip_minutes ok_Lw_minutes_Ip_minutes d_Lw_minutes_4 (fun wA hA => K_Ip_minutes ⟨_, (hI.gen (t2 := (mg t s)) (is := [0, 69]) (L2 := []) hA rfl ⟨kd_0.mpr rfl, kd_69.mpr rfl, trivial⟩ (by decide) (by decide) (fun _ h => nomatch h) (fun _ h => nomatch h) (fun _ _ _ => rfl) (fun h => h) rfl)⟩ x) rfl rfl (Nat.le_of_ble_eq_true rfl) (by omega) (by omega) (fun wA4 hA4 E wB4 hx => ?_) (fun wA4 hA4 v wB4 hx => ?_)
  · obtain ⟨h1, u2, hu, hI2⟩ := hx
    obtain rfl := List.mem_singleton.mp (zriE h1)
    refine ⟨"java/lang/IllegalArgumentException", [], [], (0, 9, 12, 13), rfl, (fun z hz => nomatch hz), by decide, by decide, lx_Lw_13, ce_13, fun qx => ?_⟩
    refine y_base (cs := []) (z_I.nil wB4) ?_
    refine y_astore_n (lv' := [(3, .ref qx), (0, .ref (ad 0)), (1, .int x), (2, .ref (ad 69))]) d_Lw_minutes_12 rfl (by decide) rfl ?_
    refine y_iconst d_Lw_minutes_13 (v := 1) (by decide) ?_
    refine y_iret d_Lw_minutes_14 rfl rfl ?_
    exact fun w1 h1 => ⟨⟨_, rfl⟩, u2, hu, (z_I.same (z_I.nil _) h1).symm ▸ hI2⟩
  · obtain ⟨h1, u2, hu, hI2⟩ := hx
    obtain ⟨v9, rfl⟩ := zriV h1
    refine yw_st (st2 := [.int v9, .int 0, .ref (ad 69)]) rfl ?_
    obtain ⟨s9, hI⟩ := hI2
    obtain ⟨e_o1, wf_o1, k_o1⟩ := hI.1.2 69 (by decide)
    obtain rfl := kd_69.mp k_o1
    refine y_base (cs := [((ad 69), .inl (3, 1, .inr (.inl (((mg (tK_Ip_minutes x t u.1) s9).1 69).2.1))))]) (hI.1.I [69] _ rfl (by decide) (by decide) (List.forall_mem_cons.mpr ⟨wf_o1, (fun _ h => nomatch h)⟩)) ?_
    refine y_i2l d_Lw_minutes_7 (v := v9.toInt64) rfl ?_
    refine y_last d_Lw_minutes_8 (q0 := 0) rfl (fun q => q.elim (by decide) (by decide)) (f' := vp_updL (((mg (tK_Ip_minutes x t u.1) s9).1 69).2.1) 0 v9.toInt64) rfl (cs' := [((ad 69), .inl (3, 1, .inr (.inl (vp_updL (((mg (tK_Ip_minutes x t u.1) s9).1 69).2.1) 0 v9.toInt64))))]) rfl ?_
    refine y_goto (tgt := 15) d_Lw_minutes_9 (by decide) ?_
    refine y_iconst d_Lw_minutes_15 (v := 0) (by decide) ?_
    refine y_iret d_Lw_minutes_16 rfl rfl ?_
    exact fun w1 h1 => ⟨⟨_, rfl⟩, u2, hu, IVm.tz ((hI.gen (t2 := (zup (mg (tK_Ip_minutes x t u.1) s9).1 [(69, (((mg (tK_Ip_minutes x t u.1) s9).1 69).1, vp_updL (((mg (tK_Ip_minutes x t u.1) s9).1 69).2.1) 0 v9.toInt64, ((mg (tK_Ip_minutes x t u.1) s9).1 69).2.2))], (mg (tK_Ip_minutes x t u.1) s9).2)) (is := [69]) (L2 := []) h1 rfl ⟨kd_69.mpr rfl, trivial⟩ (by decide) (by decide) (fun _ h => nomatch h) (fun _ h => nomatch h) (fun i hi hn => zup_out (fun q => hn ((by decide : ∀ j ∈ ([69] : List Nat), j ∈ ([69] : List Nat)) i q))) (fun h => h) rfl)) (tx_all rfl)⟩
abbrev M_Lw_ladle : zM := (⟨"IronpourLaw", "ladle", "(LIronpour;C[J)I"⟩, method_25_code, 4, (Option.some FieldType.int), 9, 200, [((0 : Nat), (9 : Nat), (12 : Nat), (13 : Nat))])
theorem d_Lw_ladle_0 : decode method_25_code 0 = .ok (.aload_n 2, 1) := zo_44 (zd_b zq_method_25_code_0 0 rfl rfl rfl)
theorem d_Lw_ladle_1 : decode method_25_code 1 = .ok (.iconst 0, 1) := zo_3 (zd_b zq_method_25_code_0 1 rfl rfl rfl)
theorem d_Lw_ladle_2 : decode method_25_code 2 = .ok (.aload_n 0, 1) := zo_42 (zd_b zq_method_25_code_0 2 rfl rfl rfl)
theorem d_Lw_ladle_3 : decode method_25_code 3 = .ok (.iload_n 1, 1) := zo_27 (zd_b zq_method_25_code_0 3 rfl rfl rfl)
theorem d_Lw_ladle_4 : decode method_25_code 4 = .ok (.invokevirtual 95, 3) := zo_182 (d := 0) (e := 95) (zd_b zq_method_25_code_0 4 rfl rfl rfl) (zd_b zq_method_25_code_0 5 rfl rfl rfl) (zd_b zq_method_25_code_0 6 rfl rfl rfl)
theorem ok_Lw_ladle_Ip_ladle : z_okH M_Lw_ladle M_Ip_ladle 1 := ⟨z_mj5 (i := 152) rfl (by decide +kernel), rfl, ⟨by decide +kernel, by decide +kernel, by decide +kernel⟩, ⟨by decide, by decide⟩, z_mj1 (i := 1) rfl (by decide +kernel)⟩
theorem ln_Lw_95 : Cond.methodLink "IronpourLaw" 95 M_Ip_ladle.1 ∈ z_gw := z_mj5 (i := 149) rfl (by decide +kernel)
theorem w_im_Ip_ladle : Cond.instanceMethod M_Ip_ladle.1 ∈ z_gw := z_mj5 (i := 150) rfl (by decide +kernel)
theorem w_se_Ip_ladle : Cond.selects M_Ip_ladle.1.cls M_Ip_ladle.1 M_Ip_ladle.1 ∈ z_gw := z_mj5 (i := 151) rfl (by decide +kernel)
theorem d_Lw_ladle_12 : decode method_25_code 12 = .ok (.astore_n 3, 1) := zo_78 (zd_b zq_method_25_code_0 12 rfl rfl rfl)
theorem d_Lw_ladle_13 : decode method_25_code 13 = .ok (.iconst 1, 1) := zo_4 (zd_b zq_method_25_code_0 13 rfl rfl rfl)
theorem d_Lw_ladle_14 : decode method_25_code 14 = .ok (.ireturn, 1) := zo_172 (zd_b zq_method_25_code_0 14 rfl rfl rfl)
theorem d_Lw_ladle_7 : decode method_25_code 7 = .ok (.i2l, 1) := zo_133 (zd_b zq_method_25_code_0 7 rfl rfl rfl)
theorem d_Lw_ladle_8 : decode method_25_code 8 = .ok (.lastore, 1) := zo_80 (zd_b zq_method_25_code_0 8 rfl rfl rfl)
theorem d_Lw_ladle_9 : decode method_25_code 9 = .ok (.goto 6, 3) := zo_167 (d := 0) (e := 6) (zd_b zq_method_25_code_0 9 rfl rfl rfl) (zd_b zq_method_25_code_0 10 rfl rfl rfl) (zd_b zq_method_25_code_0 11 rfl rfl rfl) (by decide +kernel)
theorem d_Lw_ladle_15 : decode method_25_code 15 = .ok (.iconst 0, 1) := zo_3 (zd_b zq_method_25_code_0 15 rfl rfl rfl)
theorem d_Lw_ladle_16 : decode method_25_code 16 = .ok (.ireturn, 1) := zo_172 (zd_b zq_method_25_code_0 16 rfl rfl rfl)
set_option maxHeartbeats 4000000 in
set_option maxRecDepth 100000 in
theorem W_ladle {g : zG} {ad : Nat → Nat} {t : zTT} {u : zNN} {w : zW} (hI : IVm g ad t u w) (c : Int32) : zMB g M_Lw_ladle [.ref (ad 0), .int c, .ref (ad 69)] w (fun o w1 => MKx g ad t u.1 o w1) 10 300 := by
  obtain ⟨s, hI⟩ := hI
  obtain ⟨e_a, wf_a, k_a⟩ := hI.1.2 0 (by decide)
  obtain rfl := kd_0.mp k_a
  obtain ⟨e_o1, wf_o1, k_o1⟩ := hI.1.2 69 (by decide)
  obtain rfl := kd_69.mp k_o1
  refine y_ofH (by decide) (by decide) (Nat.le_of_ble_eq_true rfl) (y_base (cs := [((ad 0), .inr (11, [.ref (ad 1), .ref (ad 5), .ref (ad 18), .ref (ad 31), .ref (ad 32), .ref (ad 36), .ref (ad 42), .ref (ad 45), .ref (ad 47), .ref (ad 49), .ref (ad 50), .ref (ad 51)])), ((ad 69), .inl (3, 1, .inr (.inl (((mg t s).1 69).2.1))))]) (hI.1.I [0, 69] _ rfl (by decide) (by decide) (List.forall_mem_cons.mpr ⟨wf_a, (List.forall_mem_cons.mpr ⟨wf_o1, (fun _ h => nomatch h)⟩)⟩)) ?_)
  refine y_lvE (lv2 := [(0, .ref (ad 0)), (1, .int c), (2, .ref (ad 69))]) rfl ?_
  refine y_aload_n d_Lw_ladle_0 rfl 2 rfl ?_
  refine y_iconst d_Lw_ladle_1 (v := 0) (by decide) ?_
  refine y_aload_n d_Lw_ladle_2 rfl 0 rfl ?_
  refine y_iload_n d_Lw_ladle_3 rfl 1 rfl ?_
  refine yw_callVH (As := [.int c]) (rest := [.int 0, .ref (ad 69)]) (q0 := 0) rfl rfl ln_Lw_95 w_im_Ip_ladle w_se_Ip_ladle ok_Lw_ladle_Ip_ladle d_Lw_ladle_4 (fun wA hA => K_Ip_ladle ⟨_, (hI.gen (t2 := (mg t s)) (is := [0, 69]) (L2 := []) hA rfl ⟨kd_0.mpr rfl, kd_69.mpr rfl, trivial⟩ (by decide) (by decide) (fun _ h => nomatch h) (fun _ h => nomatch h) (fun _ _ _ => rfl) (fun h => h) rfl)⟩ c) rfl rfl (Nat.le_of_ble_eq_true rfl) (by omega) (by omega) (fun wA4 hA4 E wB4 hx => ?_) (fun wA4 hA4 v wB4 hx => ?_)
  · obtain ⟨h1, u2, hu, hI2⟩ := hx
    obtain rfl := List.mem_singleton.mp (zriE h1)
    refine ⟨"java/lang/IllegalArgumentException", [], [], (0, 9, 12, 13), rfl, (fun z hz => nomatch hz), by decide, by decide, lx_Lw_13, ce_13, fun qx => ?_⟩
    refine y_base (cs := []) (z_I.nil wB4) ?_
    refine y_astore_n (lv' := [(3, .ref qx), (0, .ref (ad 0)), (1, .int c), (2, .ref (ad 69))]) d_Lw_ladle_12 rfl (by decide) rfl ?_
    refine y_iconst d_Lw_ladle_13 (v := 1) (by decide) ?_
    refine y_iret d_Lw_ladle_14 rfl rfl ?_
    exact fun w1 h1 => ⟨⟨_, rfl⟩, u2, hu, (z_I.same (z_I.nil _) h1).symm ▸ hI2⟩
  · obtain ⟨h1, u2, hu, hI2⟩ := hx
    obtain ⟨v9, rfl⟩ := zriV h1
    refine yw_st (st2 := [.int v9, .int 0, .ref (ad 69)]) rfl ?_
    obtain ⟨s9, hI⟩ := hI2
    obtain ⟨e_o1, wf_o1, k_o1⟩ := hI.1.2 69 (by decide)
    obtain rfl := kd_69.mp k_o1
    refine y_base (cs := [((ad 69), .inl (3, 1, .inr (.inl (((mg t s9).1 69).2.1))))]) (hI.1.I [69] _ rfl (by decide) (by decide) (List.forall_mem_cons.mpr ⟨wf_o1, (fun _ h => nomatch h)⟩)) ?_
    refine y_i2l d_Lw_ladle_7 (v := v9.toInt64) rfl ?_
    refine y_last d_Lw_ladle_8 (q0 := 0) rfl (fun q => q.elim (by decide) (by decide)) (f' := vp_updL (((mg t s9).1 69).2.1) 0 v9.toInt64) rfl (cs' := [((ad 69), .inl (3, 1, .inr (.inl (vp_updL (((mg t s9).1 69).2.1) 0 v9.toInt64))))]) rfl ?_
    refine y_goto (tgt := 15) d_Lw_ladle_9 (by decide) ?_
    refine y_iconst d_Lw_ladle_15 (v := 0) (by decide) ?_
    refine y_iret d_Lw_ladle_16 rfl rfl ?_
    exact fun w1 h1 => ⟨⟨_, rfl⟩, u2, hu, IVm.tz ((hI.gen (t2 := (zup (mg t s9).1 [(69, (((mg t s9).1 69).1, vp_updL (((mg t s9).1 69).2.1) 0 v9.toInt64, ((mg t s9).1 69).2.2))], (mg t s9).2)) (is := [69]) (L2 := []) h1 rfl ⟨kd_69.mpr rfl, trivial⟩ (by decide) (by decide) (fun _ h => nomatch h) (fun _ h => nomatch h) (fun i hi hn => zup_out (fun q => hn ((by decide : ∀ j ∈ ([69] : List Nat), j ∈ ([69] : List Nat)) i q))) (fun h => h) rfl)) (tx_all rfl)⟩
abbrev M_Lw_pig : zM := (⟨"IronpourLaw", "pig", "(LIronpour;[J)I"⟩, method_26_code, 3, (Option.some FieldType.int), 7, 121, [((0 : Nat), (8 : Nat), (11 : Nat), (69 : Nat))])
theorem d_Lw_pig_0 : decode method_26_code 0 = .ok (.aload_n 1, 1) := zo_43 (zd_b zq_method_26_code_0 0 rfl rfl rfl)
theorem d_Lw_pig_1 : decode method_26_code 1 = .ok (.iconst 0, 1) := zo_3 (zd_b zq_method_26_code_0 1 rfl rfl rfl)
theorem d_Lw_pig_2 : decode method_26_code 2 = .ok (.aload_n 0, 1) := zo_42 (zd_b zq_method_26_code_0 2 rfl rfl rfl)
theorem d_Lw_pig_3 : decode method_26_code 3 = .ok (.invokevirtual 98, 3) := zo_182 (d := 0) (e := 98) (zd_b zq_method_26_code_0 3 rfl rfl rfl) (zd_b zq_method_26_code_0 4 rfl rfl rfl) (zd_b zq_method_26_code_0 5 rfl rfl rfl)
theorem ok_Lw_pig_Ip_pig : z_okH M_Lw_pig M_Ip_pig 0 := ⟨z_mj5 (i := 161) rfl (by decide +kernel), rfl, ⟨by decide +kernel, by decide +kernel, by decide +kernel⟩, ⟨by decide, by decide⟩, z_mj1 (i := 1) rfl (by decide +kernel)⟩
theorem ln_Lw_98 : Cond.methodLink "IronpourLaw" 98 M_Ip_pig.1 ∈ z_gw := z_mj5 (i := 158) rfl (by decide +kernel)
theorem w_im_Ip_pig : Cond.instanceMethod M_Ip_pig.1 ∈ z_gw := z_mj5 (i := 159) rfl (by decide +kernel)
theorem w_se_Ip_pig : Cond.selects M_Ip_pig.1.cls M_Ip_pig.1 M_Ip_pig.1 ∈ z_gw := z_mj5 (i := 160) rfl (by decide +kernel)
theorem d_Lw_pig_11 : decode method_26_code 11 = .ok (.astore_n 2, 1) := zo_77 (zd_b zq_method_26_code_0 11 rfl rfl rfl)
theorem d_Lw_pig_12 : decode method_26_code 12 = .ok (.iconst 1, 1) := zo_4 (zd_b zq_method_26_code_0 12 rfl rfl rfl)
theorem d_Lw_pig_13 : decode method_26_code 13 = .ok (.ireturn, 1) := zo_172 (zd_b zq_method_26_code_0 13 rfl rfl rfl)
theorem d_Lw_pig_6 : decode method_26_code 6 = .ok (.i2l, 1) := zo_133 (zd_b zq_method_26_code_0 6 rfl rfl rfl)
theorem d_Lw_pig_7 : decode method_26_code 7 = .ok (.lastore, 1) := zo_80 (zd_b zq_method_26_code_0 7 rfl rfl rfl)
theorem d_Lw_pig_8 : decode method_26_code 8 = .ok (.goto 6, 3) := zo_167 (d := 0) (e := 6) (zd_b zq_method_26_code_0 8 rfl rfl rfl) (zd_b zq_method_26_code_0 9 rfl rfl rfl) (zd_b zq_method_26_code_0 10 rfl rfl rfl) (by decide +kernel)
theorem d_Lw_pig_14 : decode method_26_code 14 = .ok (.iconst 0, 1) := zo_3 (zd_b zq_method_26_code_0 14 rfl rfl rfl)
theorem d_Lw_pig_15 : decode method_26_code 15 = .ok (.ireturn, 1) := zo_172 (zd_b zq_method_26_code_0 15 rfl rfl rfl)
set_option maxHeartbeats 4000000 in
set_option maxRecDepth 100000 in
theorem W_pig {g : zG} {ad : Nat → Nat} {t : zTT} {u : zNN} {w : zW} (hI : IVm g ad t u w) : zMB g M_Lw_pig [.ref (ad 0), .ref (ad 69)] w (fun o w1 => MKx g ad (tK_Ip_pig t) u.1 o w1) 10 300 := by
  obtain ⟨s, hI⟩ := hI
  obtain ⟨e_a, wf_a, k_a⟩ := hI.1.2 0 (by decide)
  obtain rfl := kd_0.mp k_a
  obtain ⟨e_o1, wf_o1, k_o1⟩ := hI.1.2 69 (by decide)
  obtain rfl := kd_69.mp k_o1
  refine y_ofH (by decide) (by decide) (Nat.le_of_ble_eq_true rfl) (y_base (cs := [((ad 0), .inr (11, [.ref (ad 1), .ref (ad 5), .ref (ad 18), .ref (ad 31), .ref (ad 32), .ref (ad 36), .ref (ad 42), .ref (ad 45), .ref (ad 47), .ref (ad 49), .ref (ad 50), .ref (ad 51)])), ((ad 69), .inl (3, 1, .inr (.inl (((mg t s).1 69).2.1))))]) (hI.1.I [0, 69] _ rfl (by decide) (by decide) (List.forall_mem_cons.mpr ⟨wf_a, (List.forall_mem_cons.mpr ⟨wf_o1, (fun _ h => nomatch h)⟩)⟩)) ?_)
  refine y_lvE (lv2 := [(0, .ref (ad 0)), (1, .ref (ad 69))]) rfl ?_
  refine y_aload_n d_Lw_pig_0 rfl 1 rfl ?_
  refine y_iconst d_Lw_pig_1 (v := 0) (by decide) ?_
  refine y_aload_n d_Lw_pig_2 rfl 0 rfl ?_
  refine yw_callVH (As := []) (rest := [.int 0, .ref (ad 69)]) (q0 := 0) rfl rfl ln_Lw_98 w_im_Ip_pig w_se_Ip_pig ok_Lw_pig_Ip_pig d_Lw_pig_3 (fun wA hA => K_Ip_pig ⟨_, (hI.gen (t2 := (mg t s)) (is := [0, 69]) (L2 := []) hA rfl ⟨kd_0.mpr rfl, kd_69.mpr rfl, trivial⟩ (by decide) (by decide) (fun _ h => nomatch h) (fun _ h => nomatch h) (fun _ _ _ => rfl) (fun h => h) rfl)⟩) rfl rfl (Nat.le_of_ble_eq_true rfl) (by omega) (by omega) (fun wA3 hA3 E wB3 hx => ?_) (fun wA3 hA3 v wB3 hx => ?_)
  · obtain ⟨h1, u2, hu, hI2⟩ := hx
    obtain rfl := List.mem_singleton.mp (zriE h1)
    refine ⟨"java/lang/IllegalStateException", [], [], (0, 8, 11, 69), rfl, (fun z hz => nomatch hz), by decide, by decide, lx_Lw_69, ce_69, fun qx => ?_⟩
    refine y_base (cs := []) (z_I.nil wB3) ?_
    refine y_astore_n (lv' := [(2, .ref qx), (0, .ref (ad 0)), (1, .ref (ad 69))]) d_Lw_pig_11 rfl (by decide) rfl ?_
    refine y_iconst d_Lw_pig_12 (v := 1) (by decide) ?_
    refine y_iret d_Lw_pig_13 rfl rfl ?_
    exact fun w1 h1 => ⟨⟨_, rfl⟩, u2, hu, (z_I.same (z_I.nil _) h1).symm ▸ hI2⟩
  · obtain ⟨h1, u2, hu, hI2⟩ := hx
    obtain ⟨v9, rfl⟩ := zriV h1
    refine yw_st (st2 := [.int v9, .int 0, .ref (ad 69)]) rfl ?_
    obtain ⟨s9, hI⟩ := hI2
    obtain ⟨e_o1, wf_o1, k_o1⟩ := hI.1.2 69 (by decide)
    obtain rfl := kd_69.mp k_o1
    refine y_base (cs := [((ad 69), .inl (3, 1, .inr (.inl (((mg (tK_Ip_pig t) s9).1 69).2.1))))]) (hI.1.I [69] _ rfl (by decide) (by decide) (List.forall_mem_cons.mpr ⟨wf_o1, (fun _ h => nomatch h)⟩)) ?_
    refine y_i2l d_Lw_pig_6 (v := v9.toInt64) rfl ?_
    refine y_last d_Lw_pig_7 (q0 := 0) rfl (fun q => q.elim (by decide) (by decide)) (f' := vp_updL (((mg (tK_Ip_pig t) s9).1 69).2.1) 0 v9.toInt64) rfl (cs' := [((ad 69), .inl (3, 1, .inr (.inl (vp_updL (((mg (tK_Ip_pig t) s9).1 69).2.1) 0 v9.toInt64))))]) rfl ?_
    refine y_goto (tgt := 14) d_Lw_pig_8 (by decide) ?_
    refine y_iconst d_Lw_pig_14 (v := 0) (by decide) ?_
    refine y_iret d_Lw_pig_15 rfl rfl ?_
    exact fun w1 h1 => ⟨⟨_, rfl⟩, u2, hu, IVm.tz ((hI.gen (t2 := (zup (mg (tK_Ip_pig t) s9).1 [(69, (((mg (tK_Ip_pig t) s9).1 69).1, vp_updL (((mg (tK_Ip_pig t) s9).1 69).2.1) 0 v9.toInt64, ((mg (tK_Ip_pig t) s9).1 69).2.2))], (mg (tK_Ip_pig t) s9).2)) (is := [69]) (L2 := []) h1 rfl ⟨kd_69.mpr rfl, trivial⟩ (by decide) (by decide) (fun _ h => nomatch h) (fun _ h => nomatch h) (fun i hi hn => zup_out (fun q => hn ((by decide : ∀ j ∈ ([69] : List Nat), j ∈ ([69] : List Nat)) i q))) (fun h => h) rfl)) (tx_all rfl)⟩
abbrev M_Lw_pool : zM := (⟨"IronpourLaw", "pool", "(LIronpour;C[J)I"⟩, method_27_code, 4, (Option.some FieldType.int), 7, 122, [((0 : Nat), (9 : Nat), (12 : Nat), (13 : Nat))])
theorem d_Lw_pool_0 : decode method_27_code 0 = .ok (.aload_n 2, 1) := zo_44 (zd_b zq_method_27_code_0 0 rfl rfl rfl)
theorem d_Lw_pool_1 : decode method_27_code 1 = .ok (.iconst 0, 1) := zo_3 (zd_b zq_method_27_code_0 1 rfl rfl rfl)
theorem d_Lw_pool_2 : decode method_27_code 2 = .ok (.aload_n 0, 1) := zo_42 (zd_b zq_method_27_code_0 2 rfl rfl rfl)
theorem d_Lw_pool_3 : decode method_27_code 3 = .ok (.iload_n 1, 1) := zo_27 (zd_b zq_method_27_code_0 3 rfl rfl rfl)
theorem d_Lw_pool_4 : decode method_27_code 4 = .ok (.invokevirtual 101, 3) := zo_182 (d := 0) (e := 101) (zd_b zq_method_27_code_0 4 rfl rfl rfl) (zd_b zq_method_27_code_0 5 rfl rfl rfl) (zd_b zq_method_27_code_0 6 rfl rfl rfl)
theorem ok_Lw_pool_Ip_pool : z_okH M_Lw_pool M_Ip_pool 1 := ⟨z_mj5 (i := 168) rfl (by decide +kernel), rfl, ⟨by decide +kernel, by decide +kernel, by decide +kernel⟩, ⟨by decide, by decide⟩, z_mj1 (i := 1) rfl (by decide +kernel)⟩
theorem ln_Lw_101 : Cond.methodLink "IronpourLaw" 101 M_Ip_pool.1 ∈ z_gw := z_mj5 (i := 165) rfl (by decide +kernel)
theorem w_im_Ip_pool : Cond.instanceMethod M_Ip_pool.1 ∈ z_gw := z_mj5 (i := 166) rfl (by decide +kernel)
theorem w_se_Ip_pool : Cond.selects M_Ip_pool.1.cls M_Ip_pool.1 M_Ip_pool.1 ∈ z_gw := z_mj5 (i := 167) rfl (by decide +kernel)
theorem d_Lw_pool_12 : decode method_27_code 12 = .ok (.astore_n 3, 1) := zo_78 (zd_b zq_method_27_code_0 12 rfl rfl rfl)
theorem d_Lw_pool_13 : decode method_27_code 13 = .ok (.iconst 1, 1) := zo_4 (zd_b zq_method_27_code_0 13 rfl rfl rfl)
theorem d_Lw_pool_14 : decode method_27_code 14 = .ok (.ireturn, 1) := zo_172 (zd_b zq_method_27_code_0 14 rfl rfl rfl)
theorem d_Lw_pool_7 : decode method_27_code 7 = .ok (.i2l, 1) := zo_133 (zd_b zq_method_27_code_0 7 rfl rfl rfl)
theorem d_Lw_pool_8 : decode method_27_code 8 = .ok (.lastore, 1) := zo_80 (zd_b zq_method_27_code_0 8 rfl rfl rfl)
theorem d_Lw_pool_9 : decode method_27_code 9 = .ok (.goto 6, 3) := zo_167 (d := 0) (e := 6) (zd_b zq_method_27_code_0 9 rfl rfl rfl) (zd_b zq_method_27_code_0 10 rfl rfl rfl) (zd_b zq_method_27_code_0 11 rfl rfl rfl) (by decide +kernel)
theorem d_Lw_pool_15 : decode method_27_code 15 = .ok (.iconst 0, 1) := zo_3 (zd_b zq_method_27_code_0 15 rfl rfl rfl)
theorem d_Lw_pool_16 : decode method_27_code 16 = .ok (.ireturn, 1) := zo_172 (zd_b zq_method_27_code_0 16 rfl rfl rfl)
set_option maxHeartbeats 4000000 in
set_option maxRecDepth 100000 in
theorem W_pool {g : zG} {ad : Nat → Nat} {t : zTT} {u : zNN} {w : zW} (hI : IVm g ad t u w) (k : Int32) : zMB g M_Lw_pool [.ref (ad 0), .int k, .ref (ad 69)] w (fun o w1 => MKx g ad t u.1 o w1) 10 300 := by
  obtain ⟨s, hI⟩ := hI
  obtain ⟨e_a, wf_a, k_a⟩ := hI.1.2 0 (by decide)
  obtain rfl := kd_0.mp k_a
  obtain ⟨e_o1, wf_o1, k_o1⟩ := hI.1.2 69 (by decide)
  obtain rfl := kd_69.mp k_o1
  refine y_ofH (by decide) (by decide) (Nat.le_of_ble_eq_true rfl) (y_base (cs := [((ad 0), .inr (11, [.ref (ad 1), .ref (ad 5), .ref (ad 18), .ref (ad 31), .ref (ad 32), .ref (ad 36), .ref (ad 42), .ref (ad 45), .ref (ad 47), .ref (ad 49), .ref (ad 50), .ref (ad 51)])), ((ad 69), .inl (3, 1, .inr (.inl (((mg t s).1 69).2.1))))]) (hI.1.I [0, 69] _ rfl (by decide) (by decide) (List.forall_mem_cons.mpr ⟨wf_a, (List.forall_mem_cons.mpr ⟨wf_o1, (fun _ h => nomatch h)⟩)⟩)) ?_)
  refine y_lvE (lv2 := [(0, .ref (ad 0)), (1, .int k), (2, .ref (ad 69))]) rfl ?_
  refine y_aload_n d_Lw_pool_0 rfl 2 rfl ?_
  refine y_iconst d_Lw_pool_1 (v := 0) (by decide) ?_
  refine y_aload_n d_Lw_pool_2 rfl 0 rfl ?_
  refine y_iload_n d_Lw_pool_3 rfl 1 rfl ?_
  refine yw_callVH (As := [.int k]) (rest := [.int 0, .ref (ad 69)]) (q0 := 0) rfl rfl ln_Lw_101 w_im_Ip_pool w_se_Ip_pool ok_Lw_pool_Ip_pool d_Lw_pool_4 (fun wA hA => K_Ip_pool ⟨_, (hI.gen (t2 := (mg t s)) (is := [0, 69]) (L2 := []) hA rfl ⟨kd_0.mpr rfl, kd_69.mpr rfl, trivial⟩ (by decide) (by decide) (fun _ h => nomatch h) (fun _ h => nomatch h) (fun _ _ _ => rfl) (fun h => h) rfl)⟩ k) rfl rfl (Nat.le_of_ble_eq_true rfl) (by omega) (by omega) (fun wA4 hA4 E wB4 hx => ?_) (fun wA4 hA4 v wB4 hx => ?_)
  · obtain ⟨h1, u2, hu, hI2⟩ := hx
    obtain rfl := List.mem_singleton.mp (zriE h1)
    refine ⟨"java/lang/IllegalArgumentException", [], [], (0, 9, 12, 13), rfl, (fun z hz => nomatch hz), by decide, by decide, lx_Lw_13, ce_13, fun qx => ?_⟩
    refine y_base (cs := []) (z_I.nil wB4) ?_
    refine y_astore_n (lv' := [(3, .ref qx), (0, .ref (ad 0)), (1, .int k), (2, .ref (ad 69))]) d_Lw_pool_12 rfl (by decide) rfl ?_
    refine y_iconst d_Lw_pool_13 (v := 1) (by decide) ?_
    refine y_iret d_Lw_pool_14 rfl rfl ?_
    exact fun w1 h1 => ⟨⟨_, rfl⟩, u2, hu, (z_I.same (z_I.nil _) h1).symm ▸ hI2⟩
  · obtain ⟨h1, u2, hu, hI2⟩ := hx
    obtain ⟨v9, rfl⟩ := zriV h1
    refine yw_st (st2 := [.int v9, .int 0, .ref (ad 69)]) rfl ?_
    obtain ⟨s9, hI⟩ := hI2
    obtain ⟨e_o1, wf_o1, k_o1⟩ := hI.1.2 69 (by decide)
    obtain rfl := kd_69.mp k_o1
    refine y_base (cs := [((ad 69), .inl (3, 1, .inr (.inl (((mg t s9).1 69).2.1))))]) (hI.1.I [69] _ rfl (by decide) (by decide) (List.forall_mem_cons.mpr ⟨wf_o1, (fun _ h => nomatch h)⟩)) ?_
    refine y_i2l d_Lw_pool_7 (v := v9.toInt64) rfl ?_
    refine y_last d_Lw_pool_8 (q0 := 0) rfl (fun q => q.elim (by decide) (by decide)) (f' := vp_updL (((mg t s9).1 69).2.1) 0 v9.toInt64) rfl (cs' := [((ad 69), .inl (3, 1, .inr (.inl (vp_updL (((mg t s9).1 69).2.1) 0 v9.toInt64))))]) rfl ?_
    refine y_goto (tgt := 15) d_Lw_pool_9 (by decide) ?_
    refine y_iconst d_Lw_pool_15 (v := 0) (by decide) ?_
    refine y_iret d_Lw_pool_16 rfl rfl ?_
    exact fun w1 h1 => ⟨⟨_, rfl⟩, u2, hu, IVm.tz ((hI.gen (t2 := (zup (mg t s9).1 [(69, (((mg t s9).1 69).1, vp_updL (((mg t s9).1 69).2.1) 0 v9.toInt64, ((mg t s9).1 69).2.2))], (mg t s9).2)) (is := [69]) (L2 := []) h1 rfl ⟨kd_69.mpr rfl, trivial⟩ (by decide) (by decide) (fun _ h => nomatch h) (fun _ h => nomatch h) (fun i hi hn => zup_out (fun q => hn ((by decide : ∀ j ∈ ([69] : List Nat), j ∈ ([69] : List Nat)) i q))) (fun h => h) rfl)) (tx_all rfl)⟩
abbrev M_Lw_poolHas : zM := (⟨"IronpourLaw", "poolHas", "(LIronpour;CC[J)I"⟩, method_28_code, 5, (Option.some FieldType.int), 10, 224, [((0 : Nat), (10 : Nat), (13 : Nat), (13 : Nat)), ((0 : Nat), (10 : Nat), (17 : Nat), (33 : Nat))])
theorem d_Lw_poolHas_0 : decode method_28_code 0 = .ok (.aload_n 3, 1) := zo_45 (zd_b zq_method_28_code_0 0 rfl rfl rfl)
theorem d_Lw_poolHas_1 : decode method_28_code 1 = .ok (.iconst 0, 1) := zo_3 (zd_b zq_method_28_code_0 1 rfl rfl rfl)
theorem d_Lw_poolHas_2 : decode method_28_code 2 = .ok (.aload_n 0, 1) := zo_42 (zd_b zq_method_28_code_0 2 rfl rfl rfl)
theorem d_Lw_poolHas_3 : decode method_28_code 3 = .ok (.iload_n 1, 1) := zo_27 (zd_b zq_method_28_code_0 3 rfl rfl rfl)
theorem d_Lw_poolHas_4 : decode method_28_code 4 = .ok (.iload_n 2, 1) := zo_28 (zd_b zq_method_28_code_0 4 rfl rfl rfl)
theorem d_Lw_poolHas_5 : decode method_28_code 5 = .ok (.invokevirtual 104, 3) := zo_182 (d := 0) (e := 104) (zd_b zq_method_28_code_0 5 rfl rfl rfl) (zd_b zq_method_28_code_0 6 rfl rfl rfl) (zd_b zq_method_28_code_0 7 rfl rfl rfl)
theorem ok_Lw_poolHas_Ip_poolHas : z_okH M_Lw_poolHas M_Ip_poolHas 2 := ⟨z_mj5 (i := 176) rfl (by decide +kernel), rfl, ⟨by decide +kernel, by decide +kernel, by decide +kernel⟩, ⟨by decide, by decide⟩, z_mj1 (i := 1) rfl (by decide +kernel)⟩
theorem ln_Lw_104 : Cond.methodLink "IronpourLaw" 104 M_Ip_poolHas.1 ∈ z_gw := z_mj5 (i := 173) rfl (by decide +kernel)
theorem w_im_Ip_poolHas : Cond.instanceMethod M_Ip_poolHas.1 ∈ z_gw := z_mj5 (i := 174) rfl (by decide +kernel)
theorem w_se_Ip_poolHas : Cond.selects M_Ip_poolHas.1.cls M_Ip_poolHas.1 M_Ip_poolHas.1 ∈ z_gw := z_mj5 (i := 175) rfl (by decide +kernel)
theorem d_Lw_poolHas_13 : decode method_28_code 13 = .ok (.astore 4, 2) := zo_58 (d := 4) (zd_b zq_method_28_code_0 13 rfl rfl rfl) (zd_b zq_method_28_code_0 14 rfl rfl rfl)
theorem d_Lw_poolHas_15 : decode method_28_code 15 = .ok (.iconst 1, 1) := zo_4 (zd_b zq_method_28_code_0 15 rfl rfl rfl)
theorem d_Lw_poolHas_16 : decode method_28_code 16 = .ok (.ireturn, 1) := zo_172 (zd_b zq_method_28_code_0 16 rfl rfl rfl)
theorem d_Lw_poolHas_17 : decode method_28_code 17 = .ok (.astore 4, 2) := zo_58 (d := 4) (zd_b zq_method_28_code_0 17 rfl rfl rfl) (zd_b zq_method_28_code_0 18 rfl rfl rfl)
theorem d_Lw_poolHas_19 : decode method_28_code 19 = .ok (.iconst 2, 1) := zo_5 (zd_b zq_method_28_code_0 19 rfl rfl rfl)
theorem d_Lw_poolHas_20 : decode method_28_code 20 = .ok (.ireturn, 1) := zo_172 (zd_b zq_method_28_code_0 20 rfl rfl rfl)
theorem d_Lw_poolHas_8 : decode method_28_code 8 = .ok (.i2l, 1) := zo_133 (zd_b zq_method_28_code_0 8 rfl rfl rfl)
theorem d_Lw_poolHas_9 : decode method_28_code 9 = .ok (.lastore, 1) := zo_80 (zd_b zq_method_28_code_0 9 rfl rfl rfl)
theorem d_Lw_poolHas_10 : decode method_28_code 10 = .ok (.goto 11, 3) := zo_167 (d := 0) (e := 11) (zd_b zq_method_28_code_0 10 rfl rfl rfl) (zd_b zq_method_28_code_0 11 rfl rfl rfl) (zd_b zq_method_28_code_0 12 rfl rfl rfl) (by decide +kernel)
theorem d_Lw_poolHas_21 : decode method_28_code 21 = .ok (.iconst 0, 1) := zo_3 (zd_b zq_method_28_code_0 21 rfl rfl rfl)
theorem d_Lw_poolHas_22 : decode method_28_code 22 = .ok (.ireturn, 1) := zo_172 (zd_b zq_method_28_code_0 22 rfl rfl rfl)
abbrev M_Lw_leastCost : zM := (⟨"IronpourLaw", "leastCost", "(LIronpour;IIIIII[J)I"⟩, method_29_code, 9, (Option.some FieldType.int), 7, 127, [((0 : Nat), (18 : Nat), (21 : Nat), (13 : Nat)), ((0 : Nat), (18 : Nat), (25 : Nat), (33 : Nat))])
theorem d_Lw_leastCost_0 : decode method_29_code 0 = .ok (.aload 7, 2) := zo_25 (d := 7) (zd_b zq_method_29_code_0 0 rfl rfl rfl) (zd_b zq_method_29_code_0 1 rfl rfl rfl)
theorem d_Lw_leastCost_2 : decode method_29_code 2 = .ok (.iconst 0, 1) := zo_3 (zd_b zq_method_29_code_0 2 rfl rfl rfl)
theorem d_Lw_leastCost_3 : decode method_29_code 3 = .ok (.aload_n 0, 1) := zo_42 (zd_b zq_method_29_code_0 3 rfl rfl rfl)
theorem d_Lw_leastCost_4 : decode method_29_code 4 = .ok (.iload_n 1, 1) := zo_27 (zd_b zq_method_29_code_0 4 rfl rfl rfl)
theorem d_Lw_leastCost_5 : decode method_29_code 5 = .ok (.iload_n 2, 1) := zo_28 (zd_b zq_method_29_code_0 5 rfl rfl rfl)
theorem d_Lw_leastCost_6 : decode method_29_code 6 = .ok (.iload_n 3, 1) := zo_29 (zd_b zq_method_29_code_0 6 rfl rfl rfl)
theorem d_Lw_leastCost_7 : decode method_29_code 7 = .ok (.iload 4, 2) := zo_21 (d := 4) (zd_b zq_method_29_code_0 7 rfl rfl rfl) (zd_b zq_method_29_code_0 8 rfl rfl rfl)
theorem d_Lw_leastCost_9 : decode method_29_code 9 = .ok (.iload 5, 2) := zo_21 (d := 5) (zd_b zq_method_29_code_0 9 rfl rfl rfl) (zd_b zq_method_29_code_0 10 rfl rfl rfl)
theorem d_Lw_leastCost_11 : decode method_29_code 11 = .ok (.iload 6, 2) := zo_21 (d := 6) (zd_b zq_method_29_code_0 11 rfl rfl rfl) (zd_b zq_method_29_code_0 12 rfl rfl rfl)
theorem d_Lw_leastCost_13 : decode method_29_code 13 = .ok (.invokevirtual 108, 3) := zo_182 (d := 0) (e := 108) (zd_b zq_method_29_code_0 13 rfl rfl rfl) (zd_b zq_method_29_code_0 14 rfl rfl rfl) (zd_b zq_method_29_code_0 15 rfl rfl rfl)
theorem ok_Lw_leastCost_Ip_leastCost : z_okH M_Lw_leastCost M_Ip_leastCost 6 := ⟨z_mj5 (i := 184) rfl (by decide +kernel), rfl, ⟨by decide +kernel, by decide +kernel, by decide +kernel⟩, ⟨by decide, by decide⟩, z_mj1 (i := 1) rfl (by decide +kernel)⟩
theorem ln_Lw_108 : Cond.methodLink "IronpourLaw" 108 M_Ip_leastCost.1 ∈ z_gw := z_mj5 (i := 181) rfl (by decide +kernel)
theorem w_im_Ip_leastCost : Cond.instanceMethod M_Ip_leastCost.1 ∈ z_gw := z_mj5 (i := 182) rfl (by decide +kernel)
theorem w_se_Ip_leastCost : Cond.selects M_Ip_leastCost.1.cls M_Ip_leastCost.1 M_Ip_leastCost.1 ∈ z_gw := z_mj5 (i := 183) rfl (by decide +kernel)
theorem d_Lw_leastCost_21 : decode method_29_code 21 = .ok (.astore 8, 2) := zo_58 (d := 8) (zd_b zq_method_29_code_0 21 rfl rfl rfl) (zd_b zq_method_29_code_0 22 rfl rfl rfl)
theorem d_Lw_leastCost_23 : decode method_29_code 23 = .ok (.iconst 1, 1) := zo_4 (zd_b zq_method_29_code_0 23 rfl rfl rfl)
theorem d_Lw_leastCost_24 : decode method_29_code 24 = .ok (.ireturn, 1) := zo_172 (zd_b zq_method_29_code_0 24 rfl rfl rfl)
theorem d_Lw_leastCost_25 : decode method_29_code 25 = .ok (.astore 8, 2) := zo_58 (d := 8) (zd_b zq_method_29_code_0 25 rfl rfl rfl) (zd_b zq_method_29_code_0 26 rfl rfl rfl)
theorem d_Lw_leastCost_27 : decode method_29_code 27 = .ok (.iconst 2, 1) := zo_5 (zd_b zq_method_29_code_0 27 rfl rfl rfl)
theorem d_Lw_leastCost_28 : decode method_29_code 28 = .ok (.ireturn, 1) := zo_172 (zd_b zq_method_29_code_0 28 rfl rfl rfl)
theorem d_Lw_leastCost_16 : decode method_29_code 16 = .ok (.i2l, 1) := zo_133 (zd_b zq_method_29_code_0 16 rfl rfl rfl)
theorem d_Lw_leastCost_17 : decode method_29_code 17 = .ok (.lastore, 1) := zo_80 (zd_b zq_method_29_code_0 17 rfl rfl rfl)
theorem d_Lw_leastCost_18 : decode method_29_code 18 = .ok (.goto 11, 3) := zo_167 (d := 0) (e := 11) (zd_b zq_method_29_code_0 18 rfl rfl rfl) (zd_b zq_method_29_code_0 19 rfl rfl rfl) (zd_b zq_method_29_code_0 20 rfl rfl rfl) (by decide +kernel)
theorem d_Lw_leastCost_29 : decode method_29_code 29 = .ok (.iconst 0, 1) := zo_3 (zd_b zq_method_29_code_0 29 rfl rfl rfl)
theorem d_Lw_leastCost_30 : decode method_29_code 30 = .ok (.ireturn, 1) := zo_172 (zd_b zq_method_29_code_0 30 rfl rfl rfl)
set_option maxHeartbeats 4000000 in
set_option maxRecDepth 100000 in
theorem W_leastCost {g : zG} {ad : Nat → Nat} {t : zTT} {u : zNN} {w : zW} (hI : IVm g ad t u w) (x1 x2 x3 x4 x5 x6 : Int32) : zMB g M_Lw_leastCost [.ref (ad 0), .int x1, .int x2, .int x3, .int x4, .int x5, .int x6, .ref (ad 69)] w (fun o w1 => MKx g ad (tK_Ip_leastCost x1 x2 x3 x4 x5 x6 t) u.1 o w1) 10 300 := by
  obtain ⟨s, hI⟩ := hI
  obtain ⟨e_a, wf_a, k_a⟩ := hI.1.2 0 (by decide)
  obtain rfl := kd_0.mp k_a
  obtain ⟨e_o1, wf_o1, k_o1⟩ := hI.1.2 69 (by decide)
  obtain rfl := kd_69.mp k_o1
  refine y_ofH (by decide) (by decide) (Nat.le_of_ble_eq_true rfl) (y_base (cs := [((ad 0), .inr (11, [.ref (ad 1), .ref (ad 5), .ref (ad 18), .ref (ad 31), .ref (ad 32), .ref (ad 36), .ref (ad 42), .ref (ad 45), .ref (ad 47), .ref (ad 49), .ref (ad 50), .ref (ad 51)])), ((ad 69), .inl (3, 1, .inr (.inl (((mg t s).1 69).2.1))))]) (hI.1.I [0, 69] _ rfl (by decide) (by decide) (List.forall_mem_cons.mpr ⟨wf_a, (List.forall_mem_cons.mpr ⟨wf_o1, (fun _ h => nomatch h)⟩)⟩)) ?_)
  refine y_lvE (lv2 := [(0, .ref (ad 0)), (1, .int x1), (2, .int x2), (3, .int x3), (4, .int x4), (5, .int x5), (6, .int x6), (7, .ref (ad 69))]) rfl ?_
  refine y_aload d_Lw_leastCost_0 7 rfl ?_
  refine y_iconst d_Lw_leastCost_2 (v := 0) (by decide) ?_
  refine y_aload_n d_Lw_leastCost_3 rfl 0 rfl ?_
  refine y_iload_n d_Lw_leastCost_4 rfl 1 rfl ?_
  refine y_iload_n d_Lw_leastCost_5 rfl 2 rfl ?_
  refine y_iload_n d_Lw_leastCost_6 rfl 3 rfl ?_
  refine y_iload d_Lw_leastCost_7 4 rfl ?_
  refine y_iload d_Lw_leastCost_9 5 rfl ?_
  refine y_iload d_Lw_leastCost_11 6 rfl ?_
  refine yw_callVH (As := [.int x1, .int x2, .int x3, .int x4, .int x5, .int x6]) (rest := [.int 0, .ref (ad 69)]) (q0 := 0) rfl rfl ln_Lw_108 w_im_Ip_leastCost w_se_Ip_leastCost ok_Lw_leastCost_Ip_leastCost d_Lw_leastCost_13 (fun wA hA => K_Ip_leastCost ⟨_, (hI.gen (t2 := (mg t s)) (is := [0, 69]) (L2 := []) hA rfl ⟨kd_0.mpr rfl, kd_69.mpr rfl, trivial⟩ (by decide) (by decide) (fun _ h => nomatch h) (fun _ h => nomatch h) (fun _ _ _ => rfl) (fun h => h) rfl)⟩ x1 x2 x3 x4 x5 x6) rfl rfl (Nat.le_of_ble_eq_true rfl) (by omega) (by omega) (fun wA13 hA13 E wB13 hx => ?_) (fun wA13 hA13 v wB13 hx => ?_)
  · obtain ⟨h1, u2, hu, hI2⟩ := hx
    rcases List.mem_cons.mp (zriE h1) with rfl | g2
    · refine ⟨"java/lang/IllegalArgumentException", [], [(0, 18, 25, 33)], (0, 18, 21, 13), rfl, (fun z hz => nomatch hz), by decide, by decide, lx_Lw_13, ce_13, fun qx => ?_⟩
      refine y_base (cs := []) (z_I.nil wB13) ?_
      refine y_astore (lv' := [(8, .ref qx), (0, .ref (ad 0)), (1, .int x1), (2, .int x2), (3, .int x3), (4, .int x4), (5, .int x5), (6, .int x6), (7, .ref (ad 69))]) d_Lw_leastCost_21 (by decide) rfl ?_
      refine y_iconst d_Lw_leastCost_23 (v := 1) (by decide) ?_
      refine y_iret d_Lw_leastCost_24 rfl rfl ?_
      exact fun w1 h1 => ⟨⟨_, rfl⟩, u2, hu, (z_I.same (z_I.nil _) h1).symm ▸ hI2⟩
    · obtain rfl := List.mem_singleton.mp g2
      refine ⟨"java/util/NoSuchElementException", [(0, 18, 21, 13)], [], (0, 18, 25, 33), rfl, (fun z hz => by simp only [List.mem_cons, List.not_mem_nil, or_false] at hz; rcases hz with rfl; exact Or.inr ⟨by decide, _, lx_Lw_13, by decide⟩), by decide, by decide, lx_Lw_33, ce_33, fun qx => ?_⟩
      refine y_base (cs := []) (z_I.nil wB13) ?_
      refine y_astore (lv' := [(8, .ref qx), (0, .ref (ad 0)), (1, .int x1), (2, .int x2), (3, .int x3), (4, .int x4), (5, .int x5), (6, .int x6), (7, .ref (ad 69))]) d_Lw_leastCost_25 (by decide) rfl ?_
      refine y_iconst d_Lw_leastCost_27 (v := 2) (by decide) ?_
      refine y_iret d_Lw_leastCost_28 rfl rfl ?_
      exact fun w1 h1 => ⟨⟨_, rfl⟩, u2, hu, (z_I.same (z_I.nil _) h1).symm ▸ hI2⟩
  · obtain ⟨h1, u2, hu, hI2⟩ := hx
    obtain ⟨v9, rfl⟩ := zriV h1
    refine yw_st (st2 := [.int v9, .int 0, .ref (ad 69)]) rfl ?_
    obtain ⟨s9, hI⟩ := hI2
    obtain ⟨e_o1, wf_o1, k_o1⟩ := hI.1.2 69 (by decide)
    obtain rfl := kd_69.mp k_o1
    refine y_base (cs := [((ad 69), .inl (3, 1, .inr (.inl (((mg (tK_Ip_leastCost x1 x2 x3 x4 x5 x6 t) s9).1 69).2.1))))]) (hI.1.I [69] _ rfl (by decide) (by decide) (List.forall_mem_cons.mpr ⟨wf_o1, (fun _ h => nomatch h)⟩)) ?_
    refine y_i2l d_Lw_leastCost_16 (v := v9.toInt64) rfl ?_
    refine y_last d_Lw_leastCost_17 (q0 := 0) rfl (fun q => q.elim (by decide) (by decide)) (f' := vp_updL (((mg (tK_Ip_leastCost x1 x2 x3 x4 x5 x6 t) s9).1 69).2.1) 0 v9.toInt64) rfl (cs' := [((ad 69), .inl (3, 1, .inr (.inl (vp_updL (((mg (tK_Ip_leastCost x1 x2 x3 x4 x5 x6 t) s9).1 69).2.1) 0 v9.toInt64))))]) rfl ?_
    refine y_goto (tgt := 29) d_Lw_leastCost_18 (by decide) ?_
    refine y_iconst d_Lw_leastCost_29 (v := 0) (by decide) ?_
    refine y_iret d_Lw_leastCost_30 rfl rfl ?_
    exact fun w1 h1 => ⟨⟨_, rfl⟩, u2, hu, IVm.tz ((hI.gen (t2 := (zup (mg (tK_Ip_leastCost x1 x2 x3 x4 x5 x6 t) s9).1 [(69, (((mg (tK_Ip_leastCost x1 x2 x3 x4 x5 x6 t) s9).1 69).1, vp_updL (((mg (tK_Ip_leastCost x1 x2 x3 x4 x5 x6 t) s9).1 69).2.1) 0 v9.toInt64, ((mg (tK_Ip_leastCost x1 x2 x3 x4 x5 x6 t) s9).1 69).2.2))], (mg (tK_Ip_leastCost x1 x2 x3 x4 x5 x6 t) s9).2)) (is := [69]) (L2 := []) h1 rfl ⟨kd_69.mpr rfl, trivial⟩ (by decide) (by decide) (fun _ h => nomatch h) (fun _ h => nomatch h) (fun i hi hn => zup_out (fun q => hn ((by decide : ∀ j ∈ ([69] : List Nat), j ∈ ([69] : List Nat)) i q))) (fun h => h) rfl)) (tx_all rfl)⟩
abbrev M_Lw_cheapest : zM := (⟨"IronpourLaw", "cheapest", "(LIronpour;C[J)I"⟩, method_30_code, 4, (Option.some FieldType.int), 9, 200, [((0 : Nat), (9 : Nat), (12 : Nat), (13 : Nat)), ((0 : Nat), (9 : Nat), (15 : Nat), (69 : Nat))])
theorem d_Lw_cheapest_0 : decode method_30_code 0 = .ok (.aload_n 2, 1) := zo_44 (zd_b zq_method_30_code_0 0 rfl rfl rfl)
theorem d_Lw_cheapest_1 : decode method_30_code 1 = .ok (.iconst 0, 1) := zo_3 (zd_b zq_method_30_code_0 1 rfl rfl rfl)
theorem d_Lw_cheapest_2 : decode method_30_code 2 = .ok (.aload_n 0, 1) := zo_42 (zd_b zq_method_30_code_0 2 rfl rfl rfl)
theorem d_Lw_cheapest_3 : decode method_30_code 3 = .ok (.iload_n 1, 1) := zo_27 (zd_b zq_method_30_code_0 3 rfl rfl rfl)
theorem d_Lw_cheapest_4 : decode method_30_code 4 = .ok (.invokevirtual 112, 3) := zo_182 (d := 0) (e := 112) (zd_b zq_method_30_code_0 4 rfl rfl rfl) (zd_b zq_method_30_code_0 5 rfl rfl rfl) (zd_b zq_method_30_code_0 6 rfl rfl rfl)
theorem ok_Lw_cheapest_Ip_cheapest : z_okH M_Lw_cheapest M_Ip_cheapest 1 := ⟨z_mj5 (i := 204) rfl (by decide +kernel), rfl, ⟨by decide +kernel, by decide +kernel, by decide +kernel⟩, ⟨by decide, by decide⟩, z_mj1 (i := 1) rfl (by decide +kernel)⟩
theorem ln_Lw_112 : Cond.methodLink "IronpourLaw" 112 M_Ip_cheapest.1 ∈ z_gw := z_mj5 (i := 201) rfl (by decide +kernel)
theorem w_im_Ip_cheapest : Cond.instanceMethod M_Ip_cheapest.1 ∈ z_gw := z_mj5 (i := 202) rfl (by decide +kernel)
theorem w_se_Ip_cheapest : Cond.selects M_Ip_cheapest.1.cls M_Ip_cheapest.1 M_Ip_cheapest.1 ∈ z_gw := z_mj5 (i := 203) rfl (by decide +kernel)
theorem d_Lw_cheapest_12 : decode method_30_code 12 = .ok (.astore_n 3, 1) := zo_78 (zd_b zq_method_30_code_0 12 rfl rfl rfl)
theorem d_Lw_cheapest_13 : decode method_30_code 13 = .ok (.iconst 1, 1) := zo_4 (zd_b zq_method_30_code_0 13 rfl rfl rfl)
theorem d_Lw_cheapest_14 : decode method_30_code 14 = .ok (.ireturn, 1) := zo_172 (zd_b zq_method_30_code_0 14 rfl rfl rfl)
theorem d_Lw_cheapest_15 : decode method_30_code 15 = .ok (.astore_n 3, 1) := zo_78 (zd_b zq_method_30_code_0 15 rfl rfl rfl)
theorem d_Lw_cheapest_16 : decode method_30_code 16 = .ok (.iconst 2, 1) := zo_5 (zd_b zq_method_30_code_0 16 rfl rfl rfl)
theorem d_Lw_cheapest_17 : decode method_30_code 17 = .ok (.ireturn, 1) := zo_172 (zd_b zq_method_30_code_0 17 rfl rfl rfl)
theorem d_Lw_cheapest_7 : decode method_30_code 7 = .ok (.i2l, 1) := zo_133 (zd_b zq_method_30_code_0 7 rfl rfl rfl)
theorem d_Lw_cheapest_8 : decode method_30_code 8 = .ok (.lastore, 1) := zo_80 (zd_b zq_method_30_code_0 8 rfl rfl rfl)
theorem d_Lw_cheapest_9 : decode method_30_code 9 = .ok (.goto 9, 3) := zo_167 (d := 0) (e := 9) (zd_b zq_method_30_code_0 9 rfl rfl rfl) (zd_b zq_method_30_code_0 10 rfl rfl rfl) (zd_b zq_method_30_code_0 11 rfl rfl rfl) (by decide +kernel)
theorem d_Lw_cheapest_18 : decode method_30_code 18 = .ok (.iconst 0, 1) := zo_3 (zd_b zq_method_30_code_0 18 rfl rfl rfl)
theorem d_Lw_cheapest_19 : decode method_30_code 19 = .ok (.ireturn, 1) := zo_172 (zd_b zq_method_30_code_0 19 rfl rfl rfl)
set_option maxHeartbeats 4000000 in
set_option maxRecDepth 100000 in
theorem W_cheapest {g : zG} {ad : Nat → Nat} {t : zTT} {u : zNN} {w : zW} (hI : IVm g ad t u w) (c : Int32) : zMB g M_Lw_cheapest [.ref (ad 0), .int c, .ref (ad 69)] w (fun o w1 => MKx g ad t u.1 o w1) 10 300 := by
  obtain ⟨s, hI⟩ := hI
  obtain ⟨e_a, wf_a, k_a⟩ := hI.1.2 0 (by decide)
  obtain rfl := kd_0.mp k_a
  obtain ⟨e_o1, wf_o1, k_o1⟩ := hI.1.2 69 (by decide)
  obtain rfl := kd_69.mp k_o1
  refine y_ofH (by decide) (by decide) (Nat.le_of_ble_eq_true rfl) (y_base (cs := [((ad 0), .inr (11, [.ref (ad 1), .ref (ad 5), .ref (ad 18), .ref (ad 31), .ref (ad 32), .ref (ad 36), .ref (ad 42), .ref (ad 45), .ref (ad 47), .ref (ad 49), .ref (ad 50), .ref (ad 51)])), ((ad 69), .inl (3, 1, .inr (.inl (((mg t s).1 69).2.1))))]) (hI.1.I [0, 69] _ rfl (by decide) (by decide) (List.forall_mem_cons.mpr ⟨wf_a, (List.forall_mem_cons.mpr ⟨wf_o1, (fun _ h => nomatch h)⟩)⟩)) ?_)
  refine y_lvE (lv2 := [(0, .ref (ad 0)), (1, .int c), (2, .ref (ad 69))]) rfl ?_
  refine y_aload_n d_Lw_cheapest_0 rfl 2 rfl ?_
  refine y_iconst d_Lw_cheapest_1 (v := 0) (by decide) ?_
  refine y_aload_n d_Lw_cheapest_2 rfl 0 rfl ?_
  refine y_iload_n d_Lw_cheapest_3 rfl 1 rfl ?_
  refine yw_callVH (As := [.int c]) (rest := [.int 0, .ref (ad 69)]) (q0 := 0) rfl rfl ln_Lw_112 w_im_Ip_cheapest w_se_Ip_cheapest ok_Lw_cheapest_Ip_cheapest d_Lw_cheapest_4 (fun wA hA => K_Ip_cheapest ⟨_, (hI.gen (t2 := (mg t s)) (is := [0, 69]) (L2 := []) hA rfl ⟨kd_0.mpr rfl, kd_69.mpr rfl, trivial⟩ (by decide) (by decide) (fun _ h => nomatch h) (fun _ h => nomatch h) (fun _ _ _ => rfl) (fun h => h) rfl)⟩ c) rfl rfl (Nat.le_of_ble_eq_true rfl) (by omega) (by omega) (fun wA4 hA4 E wB4 hx => ?_) (fun wA4 hA4 v wB4 hx => ?_)
  · obtain ⟨h1, u2, hu, hI2⟩ := hx
    rcases List.mem_cons.mp (zriE h1) with rfl | g2
    · refine ⟨"java/lang/IllegalArgumentException", [], [(0, 9, 15, 69)], (0, 9, 12, 13), rfl, (fun z hz => nomatch hz), by decide, by decide, lx_Lw_13, ce_13, fun qx => ?_⟩
      refine y_base (cs := []) (z_I.nil wB4) ?_
      refine y_astore_n (lv' := [(3, .ref qx), (0, .ref (ad 0)), (1, .int c), (2, .ref (ad 69))]) d_Lw_cheapest_12 rfl (by decide) rfl ?_
      refine y_iconst d_Lw_cheapest_13 (v := 1) (by decide) ?_
      refine y_iret d_Lw_cheapest_14 rfl rfl ?_
      exact fun w1 h1 => ⟨⟨_, rfl⟩, u2, hu, (z_I.same (z_I.nil _) h1).symm ▸ hI2⟩
    · obtain rfl := List.mem_singleton.mp g2
      refine ⟨"java/lang/IllegalStateException", [(0, 9, 12, 13)], [], (0, 9, 15, 69), rfl, (fun z hz => by simp only [List.mem_cons, List.not_mem_nil, or_false] at hz; rcases hz with rfl; exact Or.inr ⟨by decide, _, lx_Lw_13, by decide⟩), by decide, by decide, lx_Lw_69, ce_69, fun qx => ?_⟩
      refine y_base (cs := []) (z_I.nil wB4) ?_
      refine y_astore_n (lv' := [(3, .ref qx), (0, .ref (ad 0)), (1, .int c), (2, .ref (ad 69))]) d_Lw_cheapest_15 rfl (by decide) rfl ?_
      refine y_iconst d_Lw_cheapest_16 (v := 2) (by decide) ?_
      refine y_iret d_Lw_cheapest_17 rfl rfl ?_
      exact fun w1 h1 => ⟨⟨_, rfl⟩, u2, hu, (z_I.same (z_I.nil _) h1).symm ▸ hI2⟩
  · obtain ⟨h1, u2, hu, hI2⟩ := hx
    obtain ⟨v9, rfl⟩ := zriV h1
    refine yw_st (st2 := [.int v9, .int 0, .ref (ad 69)]) rfl ?_
    obtain ⟨s9, hI⟩ := hI2
    obtain ⟨e_o1, wf_o1, k_o1⟩ := hI.1.2 69 (by decide)
    obtain rfl := kd_69.mp k_o1
    refine y_base (cs := [((ad 69), .inl (3, 1, .inr (.inl (((mg t s9).1 69).2.1))))]) (hI.1.I [69] _ rfl (by decide) (by decide) (List.forall_mem_cons.mpr ⟨wf_o1, (fun _ h => nomatch h)⟩)) ?_
    refine y_i2l d_Lw_cheapest_7 (v := v9.toInt64) rfl ?_
    refine y_last d_Lw_cheapest_8 (q0 := 0) rfl (fun q => q.elim (by decide) (by decide)) (f' := vp_updL (((mg t s9).1 69).2.1) 0 v9.toInt64) rfl (cs' := [((ad 69), .inl (3, 1, .inr (.inl (vp_updL (((mg t s9).1 69).2.1) 0 v9.toInt64))))]) rfl ?_
    refine y_goto (tgt := 18) d_Lw_cheapest_9 (by decide) ?_
    refine y_iconst d_Lw_cheapest_18 (v := 0) (by decide) ?_
    refine y_iret d_Lw_cheapest_19 rfl rfl ?_
    exact fun w1 h1 => ⟨⟨_, rfl⟩, u2, hu, IVm.tz ((hI.gen (t2 := (zup (mg t s9).1 [(69, (((mg t s9).1 69).1, vp_updL (((mg t s9).1 69).2.1) 0 v9.toInt64, ((mg t s9).1 69).2.2))], (mg t s9).2)) (is := [69]) (L2 := []) h1 rfl ⟨kd_69.mpr rfl, trivial⟩ (by decide) (by decide) (fun _ h => nomatch h) (fun _ h => nomatch h) (fun i hi hn => zup_out (fun q => hn ((by decide : ∀ j ∈ ([69] : List Nat), j ∈ ([69] : List Nat)) i q))) (fun h => h) rfl)) (tx_all rfl)⟩
abbrev M_Lw_mould : zM := (⟨"IronpourLaw", "mould", "(LIronpour;[J)I"⟩, method_31_code, 3, (Option.some FieldType.int), 9, 252, [((0 : Nat), (8 : Nat), (11 : Nat), (33 : Nat)), ((0 : Nat), (8 : Nat), (14 : Nat), (78 : Nat)), ((0 : Nat), (8 : Nat), (17 : Nat), (69 : Nat))])
theorem d_Lw_mould_0 : decode method_31_code 0 = .ok (.aload_n 1, 1) := zo_43 (zd_b zq_method_31_code_0 0 rfl rfl rfl)
theorem d_Lw_mould_1 : decode method_31_code 1 = .ok (.iconst 0, 1) := zo_3 (zd_b zq_method_31_code_0 1 rfl rfl rfl)
theorem d_Lw_mould_2 : decode method_31_code 2 = .ok (.aload_n 0, 1) := zo_42 (zd_b zq_method_31_code_0 2 rfl rfl rfl)
theorem d_Lw_mould_3 : decode method_31_code 3 = .ok (.invokevirtual 115, 3) := zo_182 (d := 0) (e := 115) (zd_b zq_method_31_code_0 3 rfl rfl rfl) (zd_b zq_method_31_code_0 4 rfl rfl rfl) (zd_b zq_method_31_code_0 5 rfl rfl rfl)
theorem ok_Lw_mould_Ip_mould : z_okH M_Lw_mould M_Ip_mould 0 := ⟨z_mj5 (i := 218) rfl (by decide +kernel), rfl, ⟨by decide +kernel, by decide +kernel, by decide +kernel⟩, ⟨by decide, by decide⟩, z_mj1 (i := 1) rfl (by decide +kernel)⟩
theorem ln_Lw_115 : Cond.methodLink "IronpourLaw" 115 M_Ip_mould.1 ∈ z_gw := z_mj5 (i := 215) rfl (by decide +kernel)
theorem w_im_Ip_mould : Cond.instanceMethod M_Ip_mould.1 ∈ z_gw := z_mj5 (i := 216) rfl (by decide +kernel)
theorem w_se_Ip_mould : Cond.selects M_Ip_mould.1.cls M_Ip_mould.1 M_Ip_mould.1 ∈ z_gw := z_mj5 (i := 217) rfl (by decide +kernel)
theorem d_Lw_mould_11 : decode method_31_code 11 = .ok (.astore_n 2, 1) := zo_77 (zd_b zq_method_31_code_0 11 rfl rfl rfl)
theorem d_Lw_mould_12 : decode method_31_code 12 = .ok (.iconst 1, 1) := zo_4 (zd_b zq_method_31_code_0 12 rfl rfl rfl)
theorem d_Lw_mould_13 : decode method_31_code 13 = .ok (.ireturn, 1) := zo_172 (zd_b zq_method_31_code_0 13 rfl rfl rfl)
theorem d_Lw_mould_14 : decode method_31_code 14 = .ok (.astore_n 2, 1) := zo_77 (zd_b zq_method_31_code_0 14 rfl rfl rfl)
theorem d_Lw_mould_15 : decode method_31_code 15 = .ok (.iconst 2, 1) := zo_5 (zd_b zq_method_31_code_0 15 rfl rfl rfl)
theorem d_Lw_mould_16 : decode method_31_code 16 = .ok (.ireturn, 1) := zo_172 (zd_b zq_method_31_code_0 16 rfl rfl rfl)
theorem d_Lw_mould_17 : decode method_31_code 17 = .ok (.astore_n 2, 1) := zo_77 (zd_b zq_method_31_code_0 17 rfl rfl rfl)
theorem d_Lw_mould_18 : decode method_31_code 18 = .ok (.iconst 3, 1) := zo_6 (zd_b zq_method_31_code_0 18 rfl rfl rfl)
theorem d_Lw_mould_19 : decode method_31_code 19 = .ok (.ireturn, 1) := zo_172 (zd_b zq_method_31_code_0 19 rfl rfl rfl)
theorem d_Lw_mould_6 : decode method_31_code 6 = .ok (.i2l, 1) := zo_133 (zd_b zq_method_31_code_0 6 rfl rfl rfl)
theorem d_Lw_mould_7 : decode method_31_code 7 = .ok (.lastore, 1) := zo_80 (zd_b zq_method_31_code_0 7 rfl rfl rfl)
theorem d_Lw_mould_8 : decode method_31_code 8 = .ok (.goto 12, 3) := zo_167 (d := 0) (e := 12) (zd_b zq_method_31_code_0 8 rfl rfl rfl) (zd_b zq_method_31_code_0 9 rfl rfl rfl) (zd_b zq_method_31_code_0 10 rfl rfl rfl) (by decide +kernel)
theorem d_Lw_mould_20 : decode method_31_code 20 = .ok (.iconst 0, 1) := zo_3 (zd_b zq_method_31_code_0 20 rfl rfl rfl)
theorem d_Lw_mould_21 : decode method_31_code 21 = .ok (.ireturn, 1) := zo_172 (zd_b zq_method_31_code_0 21 rfl rfl rfl)
set_option maxHeartbeats 4000000 in
set_option maxRecDepth 100000 in
theorem W_mould {g : zG} {ad : Nat → Nat} {t : zTT} {u : zNN} {w : zW} (hI : IVm g ad t u w) : zMB g M_Lw_mould [.ref (ad 0), .ref (ad 69)] w (fun o w1 => MKx g ad (tK_Ip_mould t u.1) (nK_Ip_mould t u.1) o w1) 10 300 := by
  obtain ⟨s, hI⟩ := hI
  obtain ⟨e_a, wf_a, k_a⟩ := hI.1.2 0 (by decide)
  obtain rfl := kd_0.mp k_a
  obtain ⟨e_o1, wf_o1, k_o1⟩ := hI.1.2 69 (by decide)
  obtain rfl := kd_69.mp k_o1
  refine y_ofH (by decide) (by decide) (Nat.le_of_ble_eq_true rfl) (y_base (cs := [((ad 0), .inr (11, [.ref (ad 1), .ref (ad 5), .ref (ad 18), .ref (ad 31), .ref (ad 32), .ref (ad 36), .ref (ad 42), .ref (ad 45), .ref (ad 47), .ref (ad 49), .ref (ad 50), .ref (ad 51)])), ((ad 69), .inl (3, 1, .inr (.inl (((mg t s).1 69).2.1))))]) (hI.1.I [0, 69] _ rfl (by decide) (by decide) (List.forall_mem_cons.mpr ⟨wf_a, (List.forall_mem_cons.mpr ⟨wf_o1, (fun _ h => nomatch h)⟩)⟩)) ?_)
  refine y_lvE (lv2 := [(0, .ref (ad 0)), (1, .ref (ad 69))]) rfl ?_
  refine y_aload_n d_Lw_mould_0 rfl 1 rfl ?_
  refine y_iconst d_Lw_mould_1 (v := 0) (by decide) ?_
  refine y_aload_n d_Lw_mould_2 rfl 0 rfl ?_
  refine yw_callVH (As := []) (rest := [.int 0, .ref (ad 69)]) (q0 := 0) rfl rfl ln_Lw_115 w_im_Ip_mould w_se_Ip_mould ok_Lw_mould_Ip_mould d_Lw_mould_3 (fun wA hA => K_Ip_mould ⟨_, (hI.gen (t2 := (mg t s)) (is := [0, 69]) (L2 := []) hA rfl ⟨kd_0.mpr rfl, kd_69.mpr rfl, trivial⟩ (by decide) (by decide) (fun _ h => nomatch h) (fun _ h => nomatch h) (fun _ _ _ => rfl) (fun h => h) rfl)⟩) rfl rfl (Nat.le_of_ble_eq_true rfl) (by omega) (by omega) (fun wA3 hA3 E wB3 hx => ?_) (fun wA3 hA3 v wB3 hx => ?_)
  · obtain ⟨h1, u2, hu, hI2⟩ := hx
    rcases List.mem_cons.mp (zriE h1) with rfl | g3
    · refine ⟨"java/util/NoSuchElementException", [], [(0, 8, 14, 78), (0, 8, 17, 69)], (0, 8, 11, 33), rfl, (fun z hz => nomatch hz), by decide, by decide, lx_Lw_33, ce_33, fun qx => ?_⟩
      refine y_base (cs := []) (z_I.nil wB3) ?_
      refine y_astore_n (lv' := [(2, .ref qx), (0, .ref (ad 0)), (1, .ref (ad 69))]) d_Lw_mould_11 rfl (by decide) rfl ?_
      refine y_iconst d_Lw_mould_12 (v := 1) (by decide) ?_
      refine y_iret d_Lw_mould_13 rfl rfl ?_
      exact fun w1 h1 => ⟨⟨_, rfl⟩, u2, hu, (z_I.same (z_I.nil _) h1).symm ▸ hI2⟩
    · rcases List.mem_cons.mp g3 with rfl | g2
      · refine ⟨"java/lang/UnsupportedOperationException", [(0, 8, 11, 33)], [(0, 8, 17, 69)], (0, 8, 14, 78), rfl, (fun z hz => by simp only [List.mem_cons, List.not_mem_nil, or_false] at hz; rcases hz with rfl; exact Or.inr ⟨by decide, _, lx_Lw_33, by decide⟩), by decide, by decide, lx_Lw_78, ce_78, fun qx => ?_⟩
        refine y_base (cs := []) (z_I.nil wB3) ?_
        refine y_astore_n (lv' := [(2, .ref qx), (0, .ref (ad 0)), (1, .ref (ad 69))]) d_Lw_mould_14 rfl (by decide) rfl ?_
        refine y_iconst d_Lw_mould_15 (v := 2) (by decide) ?_
        refine y_iret d_Lw_mould_16 rfl rfl ?_
        exact fun w1 h1 => ⟨⟨_, rfl⟩, u2, hu, (z_I.same (z_I.nil _) h1).symm ▸ hI2⟩
      · obtain rfl := List.mem_singleton.mp g2
        refine ⟨"java/lang/IllegalStateException", [(0, 8, 11, 33), (0, 8, 14, 78)], [], (0, 8, 17, 69), rfl, (fun z hz => by simp only [List.mem_cons, List.not_mem_nil, or_false] at hz; rcases hz with rfl | rfl <;> first | exact Or.inr ⟨by decide, _, lx_Lw_33, by decide⟩ | exact Or.inr ⟨by decide, _, lx_Lw_78, by decide⟩), by decide, by decide, lx_Lw_69, ce_69, fun qx => ?_⟩
        refine y_base (cs := []) (z_I.nil wB3) ?_
        refine y_astore_n (lv' := [(2, .ref qx), (0, .ref (ad 0)), (1, .ref (ad 69))]) d_Lw_mould_17 rfl (by decide) rfl ?_
        refine y_iconst d_Lw_mould_18 (v := 3) (by decide) ?_
        refine y_iret d_Lw_mould_19 rfl rfl ?_
        exact fun w1 h1 => ⟨⟨_, rfl⟩, u2, hu, (z_I.same (z_I.nil _) h1).symm ▸ hI2⟩
  · obtain ⟨h1, u2, hu, hI2⟩ := hx
    obtain ⟨v9, rfl⟩ := zriV h1
    refine yw_st (st2 := [.int v9, .int 0, .ref (ad 69)]) rfl ?_
    obtain ⟨s9, hI⟩ := hI2
    obtain ⟨e_o1, wf_o1, k_o1⟩ := hI.1.2 69 (by decide)
    obtain rfl := kd_69.mp k_o1
    refine y_base (cs := [((ad 69), .inl (3, 1, .inr (.inl (((mg (tK_Ip_mould t u.1) s9).1 69).2.1))))]) (hI.1.I [69] _ rfl (by decide) (by decide) (List.forall_mem_cons.mpr ⟨wf_o1, (fun _ h => nomatch h)⟩)) ?_
    refine y_i2l d_Lw_mould_6 (v := v9.toInt64) rfl ?_
    refine y_last d_Lw_mould_7 (q0 := 0) rfl (fun q => q.elim (by decide) (by decide)) (f' := vp_updL (((mg (tK_Ip_mould t u.1) s9).1 69).2.1) 0 v9.toInt64) rfl (cs' := [((ad 69), .inl (3, 1, .inr (.inl (vp_updL (((mg (tK_Ip_mould t u.1) s9).1 69).2.1) 0 v9.toInt64))))]) rfl ?_
    refine y_goto (tgt := 20) d_Lw_mould_8 (by decide) ?_
    refine y_iconst d_Lw_mould_20 (v := 0) (by decide) ?_
    refine y_iret d_Lw_mould_21 rfl rfl ?_
    exact fun w1 h1 => ⟨⟨_, rfl⟩, u2, hu, IVm.tz ((hI.gen (t2 := (zup (mg (tK_Ip_mould t u.1) s9).1 [(69, (((mg (tK_Ip_mould t u.1) s9).1 69).1, vp_updL (((mg (tK_Ip_mould t u.1) s9).1 69).2.1) 0 v9.toInt64, ((mg (tK_Ip_mould t u.1) s9).1 69).2.2))], (mg (tK_Ip_mould t u.1) s9).2)) (is := [69]) (L2 := []) h1 rfl ⟨kd_69.mpr rfl, trivial⟩ (by decide) (by decide) (fun _ h => nomatch h) (fun _ h => nomatch h) (fun i hi hn => zup_out (fun q => hn ((by decide : ∀ j ∈ ([69] : List Nat), j ∈ ([69] : List Nat)) i q))) (fun h => h) rfl)) (tx_all rfl)⟩
abbrev M_Lw_waiting : zM := (⟨"IronpourLaw", "waiting", "(LIronpour;I[J)I"⟩, method_32_code, 4, (Option.some FieldType.int), 7, 121, [((0 : Nat), (9 : Nat), (12 : Nat), (33 : Nat))])
theorem d_Lw_waiting_0 : decode method_32_code 0 = .ok (.aload_n 2, 1) := zo_44 (zd_b zq_method_32_code_0 0 rfl rfl rfl)
theorem d_Lw_waiting_1 : decode method_32_code 1 = .ok (.iconst 0, 1) := zo_3 (zd_b zq_method_32_code_0 1 rfl rfl rfl)
theorem d_Lw_waiting_2 : decode method_32_code 2 = .ok (.aload_n 0, 1) := zo_42 (zd_b zq_method_32_code_0 2 rfl rfl rfl)
theorem d_Lw_waiting_3 : decode method_32_code 3 = .ok (.iload_n 1, 1) := zo_27 (zd_b zq_method_32_code_0 3 rfl rfl rfl)
theorem d_Lw_waiting_4 : decode method_32_code 4 = .ok (.invokevirtual 118, 3) := zo_182 (d := 0) (e := 118) (zd_b zq_method_32_code_0 4 rfl rfl rfl) (zd_b zq_method_32_code_0 5 rfl rfl rfl) (zd_b zq_method_32_code_0 6 rfl rfl rfl)
theorem ok_Lw_waiting_Ip_waiting : z_okH M_Lw_waiting M_Ip_waiting 1 := ⟨z_mj6 (i := 103) rfl (by decide +kernel), rfl, ⟨by decide +kernel, by decide +kernel, by decide +kernel⟩, ⟨by decide, by decide⟩, z_mj1 (i := 1) rfl (by decide +kernel)⟩
theorem ln_Lw_118 : Cond.methodLink "IronpourLaw" 118 M_Ip_waiting.1 ∈ z_gw := z_mj6 (i := 100) rfl (by decide +kernel)
theorem w_im_Ip_waiting : Cond.instanceMethod M_Ip_waiting.1 ∈ z_gw := z_mj6 (i := 101) rfl (by decide +kernel)
theorem w_se_Ip_waiting : Cond.selects M_Ip_waiting.1.cls M_Ip_waiting.1 M_Ip_waiting.1 ∈ z_gw := z_mj6 (i := 102) rfl (by decide +kernel)
theorem d_Lw_waiting_12 : decode method_32_code 12 = .ok (.astore_n 3, 1) := zo_78 (zd_b zq_method_32_code_0 12 rfl rfl rfl)
theorem d_Lw_waiting_13 : decode method_32_code 13 = .ok (.iconst 1, 1) := zo_4 (zd_b zq_method_32_code_0 13 rfl rfl rfl)
theorem d_Lw_waiting_14 : decode method_32_code 14 = .ok (.ireturn, 1) := zo_172 (zd_b zq_method_32_code_0 14 rfl rfl rfl)
theorem d_Lw_waiting_7 : decode method_32_code 7 = .ok (.i2l, 1) := zo_133 (zd_b zq_method_32_code_0 7 rfl rfl rfl)
theorem d_Lw_waiting_8 : decode method_32_code 8 = .ok (.lastore, 1) := zo_80 (zd_b zq_method_32_code_0 8 rfl rfl rfl)
theorem d_Lw_waiting_9 : decode method_32_code 9 = .ok (.goto 6, 3) := zo_167 (d := 0) (e := 6) (zd_b zq_method_32_code_0 9 rfl rfl rfl) (zd_b zq_method_32_code_0 10 rfl rfl rfl) (zd_b zq_method_32_code_0 11 rfl rfl rfl) (by decide +kernel)
theorem d_Lw_waiting_15 : decode method_32_code 15 = .ok (.iconst 0, 1) := zo_3 (zd_b zq_method_32_code_0 15 rfl rfl rfl)
theorem d_Lw_waiting_16 : decode method_32_code 16 = .ok (.ireturn, 1) := zo_172 (zd_b zq_method_32_code_0 16 rfl rfl rfl)
set_option maxHeartbeats 4000000 in
set_option maxRecDepth 100000 in
theorem W_waiting {g : zG} {ad : Nat → Nat} {t : zTT} {u : zNN} {w : zW} (hI : IVm g ad t u w) (x : Int32) : zMB g M_Lw_waiting [.ref (ad 0), .int x, .ref (ad 69)] w (fun o w1 => MKx g ad t u.1 o w1) 10 300 := by
  obtain ⟨s, hI⟩ := hI
  obtain ⟨e_a, wf_a, k_a⟩ := hI.1.2 0 (by decide)
  obtain rfl := kd_0.mp k_a
  obtain ⟨e_o1, wf_o1, k_o1⟩ := hI.1.2 69 (by decide)
  obtain rfl := kd_69.mp k_o1
  refine y_ofH (by decide) (by decide) (Nat.le_of_ble_eq_true rfl) (y_base (cs := [((ad 0), .inr (11, [.ref (ad 1), .ref (ad 5), .ref (ad 18), .ref (ad 31), .ref (ad 32), .ref (ad 36), .ref (ad 42), .ref (ad 45), .ref (ad 47), .ref (ad 49), .ref (ad 50), .ref (ad 51)])), ((ad 69), .inl (3, 1, .inr (.inl (((mg t s).1 69).2.1))))]) (hI.1.I [0, 69] _ rfl (by decide) (by decide) (List.forall_mem_cons.mpr ⟨wf_a, (List.forall_mem_cons.mpr ⟨wf_o1, (fun _ h => nomatch h)⟩)⟩)) ?_)
  refine y_lvE (lv2 := [(0, .ref (ad 0)), (1, .int x), (2, .ref (ad 69))]) rfl ?_
  refine y_aload_n d_Lw_waiting_0 rfl 2 rfl ?_
  refine y_iconst d_Lw_waiting_1 (v := 0) (by decide) ?_
  refine y_aload_n d_Lw_waiting_2 rfl 0 rfl ?_
  refine y_iload_n d_Lw_waiting_3 rfl 1 rfl ?_
  refine yw_callVH (As := [.int x]) (rest := [.int 0, .ref (ad 69)]) (q0 := 0) rfl rfl ln_Lw_118 w_im_Ip_waiting w_se_Ip_waiting ok_Lw_waiting_Ip_waiting d_Lw_waiting_4 (fun wA hA => K_Ip_waiting ⟨_, (hI.gen (t2 := (mg t s)) (is := [0, 69]) (L2 := []) hA rfl ⟨kd_0.mpr rfl, kd_69.mpr rfl, trivial⟩ (by decide) (by decide) (fun _ h => nomatch h) (fun _ h => nomatch h) (fun _ _ _ => rfl) (fun h => h) rfl)⟩ x) rfl rfl (Nat.le_of_ble_eq_true rfl) (by omega) (by omega) (fun wA4 hA4 E wB4 hx => ?_) (fun wA4 hA4 v wB4 hx => ?_)
  · obtain ⟨h1, u2, hu, hI2⟩ := hx
    obtain rfl := List.mem_singleton.mp (zriE h1)
    refine ⟨"java/util/NoSuchElementException", [], [], (0, 9, 12, 33), rfl, (fun z hz => nomatch hz), by decide, by decide, lx_Lw_33, ce_33, fun qx => ?_⟩
    refine y_base (cs := []) (z_I.nil wB4) ?_
    refine y_astore_n (lv' := [(3, .ref qx), (0, .ref (ad 0)), (1, .int x), (2, .ref (ad 69))]) d_Lw_waiting_12 rfl (by decide) rfl ?_
    refine y_iconst d_Lw_waiting_13 (v := 1) (by decide) ?_
    refine y_iret d_Lw_waiting_14 rfl rfl ?_
    exact fun w1 h1 => ⟨⟨_, rfl⟩, u2, hu, (z_I.same (z_I.nil _) h1).symm ▸ hI2⟩
  · obtain ⟨h1, u2, hu, hI2⟩ := hx
    obtain ⟨v9, rfl⟩ := zriV h1
    refine yw_st (st2 := [.int v9, .int 0, .ref (ad 69)]) rfl ?_
    obtain ⟨s9, hI⟩ := hI2
    obtain ⟨e_o1, wf_o1, k_o1⟩ := hI.1.2 69 (by decide)
    obtain rfl := kd_69.mp k_o1
    refine y_base (cs := [((ad 69), .inl (3, 1, .inr (.inl (((mg t s9).1 69).2.1))))]) (hI.1.I [69] _ rfl (by decide) (by decide) (List.forall_mem_cons.mpr ⟨wf_o1, (fun _ h => nomatch h)⟩)) ?_
    refine y_i2l d_Lw_waiting_7 (v := v9.toInt64) rfl ?_
    refine y_last d_Lw_waiting_8 (q0 := 0) rfl (fun q => q.elim (by decide) (by decide)) (f' := vp_updL (((mg t s9).1 69).2.1) 0 v9.toInt64) rfl (cs' := [((ad 69), .inl (3, 1, .inr (.inl (vp_updL (((mg t s9).1 69).2.1) 0 v9.toInt64))))]) rfl ?_
    refine y_goto (tgt := 15) d_Lw_waiting_9 (by decide) ?_
    refine y_iconst d_Lw_waiting_15 (v := 0) (by decide) ?_
    refine y_iret d_Lw_waiting_16 rfl rfl ?_
    exact fun w1 h1 => ⟨⟨_, rfl⟩, u2, hu, IVm.tz ((hI.gen (t2 := (zup (mg t s9).1 [(69, (((mg t s9).1 69).1, vp_updL (((mg t s9).1 69).2.1) 0 v9.toInt64, ((mg t s9).1 69).2.2))], (mg t s9).2)) (is := [69]) (L2 := []) h1 rfl ⟨kd_69.mpr rfl, trivial⟩ (by decide) (by decide) (fun _ h => nomatch h) (fun _ h => nomatch h) (fun i hi hn => zup_out (fun q => hn ((by decide : ∀ j ∈ ([69] : List Nat), j ∈ ([69] : List Nat)) i q))) (fun h => h) rfl)) (tx_all rfl)⟩
abbrev M_Lw_pour : zM := (⟨"IronpourLaw", "pour", "(LIronpour;[J)I"⟩, method_33_code, 3, (Option.some FieldType.int), 9, 251, [((0 : Nat), (8 : Nat), (11 : Nat), (33 : Nat)), ((0 : Nat), (8 : Nat), (14 : Nat), (69 : Nat)), ((0 : Nat), (8 : Nat), (17 : Nat), (78 : Nat))])
theorem d_Lw_pour_0 : decode method_33_code 0 = .ok (.aload_n 1, 1) := zo_43 (zd_b zq_method_33_code_0 0 rfl rfl rfl)
theorem d_Lw_pour_1 : decode method_33_code 1 = .ok (.iconst 0, 1) := zo_3 (zd_b zq_method_33_code_0 1 rfl rfl rfl)
theorem d_Lw_pour_2 : decode method_33_code 2 = .ok (.aload_n 0, 1) := zo_42 (zd_b zq_method_33_code_0 2 rfl rfl rfl)
theorem d_Lw_pour_3 : decode method_33_code 3 = .ok (.invokevirtual 121, 3) := zo_182 (d := 0) (e := 121) (zd_b zq_method_33_code_0 3 rfl rfl rfl) (zd_b zq_method_33_code_0 4 rfl rfl rfl) (zd_b zq_method_33_code_0 5 rfl rfl rfl)
theorem ok_Lw_pour_Ip_pour : z_okH M_Lw_pour M_Ip_pour 0 := ⟨z_mj6 (i := 111) rfl (by decide +kernel), rfl, ⟨by decide +kernel, by decide +kernel, by decide +kernel⟩, ⟨by decide, by decide⟩, z_mj1 (i := 1) rfl (by decide +kernel)⟩
theorem ln_Lw_121 : Cond.methodLink "IronpourLaw" 121 M_Ip_pour.1 ∈ z_gw := z_mj6 (i := 108) rfl (by decide +kernel)
theorem w_im_Ip_pour : Cond.instanceMethod M_Ip_pour.1 ∈ z_gw := z_mj6 (i := 109) rfl (by decide +kernel)
theorem w_se_Ip_pour : Cond.selects M_Ip_pour.1.cls M_Ip_pour.1 M_Ip_pour.1 ∈ z_gw := z_mj6 (i := 110) rfl (by decide +kernel)
theorem d_Lw_pour_11 : decode method_33_code 11 = .ok (.astore_n 2, 1) := zo_77 (zd_b zq_method_33_code_0 11 rfl rfl rfl)
theorem d_Lw_pour_12 : decode method_33_code 12 = .ok (.iconst 1, 1) := zo_4 (zd_b zq_method_33_code_0 12 rfl rfl rfl)
theorem d_Lw_pour_13 : decode method_33_code 13 = .ok (.ireturn, 1) := zo_172 (zd_b zq_method_33_code_0 13 rfl rfl rfl)
theorem d_Lw_pour_14 : decode method_33_code 14 = .ok (.astore_n 2, 1) := zo_77 (zd_b zq_method_33_code_0 14 rfl rfl rfl)
theorem d_Lw_pour_15 : decode method_33_code 15 = .ok (.iconst 2, 1) := zo_5 (zd_b zq_method_33_code_0 15 rfl rfl rfl)
theorem d_Lw_pour_16 : decode method_33_code 16 = .ok (.ireturn, 1) := zo_172 (zd_b zq_method_33_code_0 16 rfl rfl rfl)
theorem d_Lw_pour_17 : decode method_33_code 17 = .ok (.astore_n 2, 1) := zo_77 (zd_b zq_method_33_code_0 17 rfl rfl rfl)
theorem d_Lw_pour_18 : decode method_33_code 18 = .ok (.iconst 3, 1) := zo_6 (zd_b zq_method_33_code_0 18 rfl rfl rfl)
theorem d_Lw_pour_19 : decode method_33_code 19 = .ok (.ireturn, 1) := zo_172 (zd_b zq_method_33_code_0 19 rfl rfl rfl)
theorem d_Lw_pour_6 : decode method_33_code 6 = .ok (.i2l, 1) := zo_133 (zd_b zq_method_33_code_0 6 rfl rfl rfl)
theorem d_Lw_pour_7 : decode method_33_code 7 = .ok (.lastore, 1) := zo_80 (zd_b zq_method_33_code_0 7 rfl rfl rfl)
theorem d_Lw_pour_8 : decode method_33_code 8 = .ok (.goto 12, 3) := zo_167 (d := 0) (e := 12) (zd_b zq_method_33_code_0 8 rfl rfl rfl) (zd_b zq_method_33_code_0 9 rfl rfl rfl) (zd_b zq_method_33_code_0 10 rfl rfl rfl) (by decide +kernel)
theorem d_Lw_pour_20 : decode method_33_code 20 = .ok (.iconst 0, 1) := zo_3 (zd_b zq_method_33_code_0 20 rfl rfl rfl)
theorem d_Lw_pour_21 : decode method_33_code 21 = .ok (.ireturn, 1) := zo_172 (zd_b zq_method_33_code_0 21 rfl rfl rfl)
set_option maxHeartbeats 4000000 in
set_option maxRecDepth 100000 in
theorem W_pour {g : zG} {ad : Nat → Nat} {t : zTT} {u : zNN} {w : zW} (hI : IVm g ad t u w) : zMB g M_Lw_pour [.ref (ad 0), .ref (ad 69)] w (fun o w1 => ∃ (X9 : zTr), MKx g ad (tK_Ip_pour X9 t u.1) (nK_Ip_pour t u.1) o w1) 10 300 := by
  obtain ⟨s, hI⟩ := hI
  obtain ⟨e_a, wf_a, k_a⟩ := hI.1.2 0 (by decide)
  obtain rfl := kd_0.mp k_a
  obtain ⟨e_o1, wf_o1, k_o1⟩ := hI.1.2 69 (by decide)
  obtain rfl := kd_69.mp k_o1
  refine y_ofH (by decide) (by decide) (Nat.le_of_ble_eq_true rfl) (y_base (cs := [((ad 0), .inr (11, [.ref (ad 1), .ref (ad 5), .ref (ad 18), .ref (ad 31), .ref (ad 32), .ref (ad 36), .ref (ad 42), .ref (ad 45), .ref (ad 47), .ref (ad 49), .ref (ad 50), .ref (ad 51)])), ((ad 69), .inl (3, 1, .inr (.inl (((mg t s).1 69).2.1))))]) (hI.1.I [0, 69] _ rfl (by decide) (by decide) (List.forall_mem_cons.mpr ⟨wf_a, (List.forall_mem_cons.mpr ⟨wf_o1, (fun _ h => nomatch h)⟩)⟩)) ?_)
  refine y_lvE (lv2 := [(0, .ref (ad 0)), (1, .ref (ad 69))]) rfl ?_
  refine y_aload_n d_Lw_pour_0 rfl 1 rfl ?_
  refine y_iconst d_Lw_pour_1 (v := 0) (by decide) ?_
  refine y_aload_n d_Lw_pour_2 rfl 0 rfl ?_
  refine yw_callVH (As := []) (rest := [.int 0, .ref (ad 69)]) (q0 := 0) rfl rfl ln_Lw_121 w_im_Ip_pour w_se_Ip_pour ok_Lw_pour_Ip_pour d_Lw_pour_3 (fun wA hA => K_Ip_pour ⟨_, (hI.gen (t2 := (mg t s)) (is := [0, 69]) (L2 := []) hA rfl ⟨kd_0.mpr rfl, kd_69.mpr rfl, trivial⟩ (by decide) (by decide) (fun _ h => nomatch h) (fun _ h => nomatch h) (fun _ _ _ => rfl) (fun h => h) rfl)⟩) rfl rfl (Nat.le_of_ble_eq_true rfl) (by omega) (by omega) (fun wA3 hA3 E wB3 hx => ?_) (fun wA3 hA3 v wB3 hx => ?_)
  · obtain ⟨X9, h1, u2, hu, hI2⟩ := hx
    rcases List.mem_cons.mp (zriE h1) with rfl | g3
    · refine ⟨"java/util/NoSuchElementException", [], [(0, 8, 14, 69), (0, 8, 17, 78)], (0, 8, 11, 33), rfl, (fun z hz => nomatch hz), by decide, by decide, lx_Lw_33, ce_33, fun qx => ?_⟩
      refine y_base (cs := []) (z_I.nil wB3) ?_
      refine y_astore_n (lv' := [(2, .ref qx), (0, .ref (ad 0)), (1, .ref (ad 69))]) d_Lw_pour_11 rfl (by decide) rfl ?_
      refine y_iconst d_Lw_pour_12 (v := 1) (by decide) ?_
      refine y_iret d_Lw_pour_13 rfl rfl ?_
      exact fun w1 h1 => ⟨X9, ⟨_, rfl⟩, u2, hu, (z_I.same (z_I.nil _) h1).symm ▸ hI2⟩
    · rcases List.mem_cons.mp g3 with rfl | g2
      · refine ⟨"java/lang/IllegalStateException", [(0, 8, 11, 33)], [(0, 8, 17, 78)], (0, 8, 14, 69), rfl, (fun z hz => by simp only [List.mem_cons, List.not_mem_nil, or_false] at hz; rcases hz with rfl; exact Or.inr ⟨by decide, _, lx_Lw_33, by decide⟩), by decide, by decide, lx_Lw_69, ce_69, fun qx => ?_⟩
        refine y_base (cs := []) (z_I.nil wB3) ?_
        refine y_astore_n (lv' := [(2, .ref qx), (0, .ref (ad 0)), (1, .ref (ad 69))]) d_Lw_pour_14 rfl (by decide) rfl ?_
        refine y_iconst d_Lw_pour_15 (v := 2) (by decide) ?_
        refine y_iret d_Lw_pour_16 rfl rfl ?_
        exact fun w1 h1 => ⟨X9, ⟨_, rfl⟩, u2, hu, (z_I.same (z_I.nil _) h1).symm ▸ hI2⟩
      · obtain rfl := List.mem_singleton.mp g2
        refine ⟨"java/lang/UnsupportedOperationException", [(0, 8, 11, 33), (0, 8, 14, 69)], [], (0, 8, 17, 78), rfl, (fun z hz => by simp only [List.mem_cons, List.not_mem_nil, or_false] at hz; rcases hz with rfl | rfl <;> first | exact Or.inr ⟨by decide, _, lx_Lw_33, by decide⟩ | exact Or.inr ⟨by decide, _, lx_Lw_69, by decide⟩), by decide, by decide, lx_Lw_78, ce_78, fun qx => ?_⟩
        refine y_base (cs := []) (z_I.nil wB3) ?_
        refine y_astore_n (lv' := [(2, .ref qx), (0, .ref (ad 0)), (1, .ref (ad 69))]) d_Lw_pour_17 rfl (by decide) rfl ?_
        refine y_iconst d_Lw_pour_18 (v := 3) (by decide) ?_
        refine y_iret d_Lw_pour_19 rfl rfl ?_
        exact fun w1 h1 => ⟨X9, ⟨_, rfl⟩, u2, hu, (z_I.same (z_I.nil _) h1).symm ▸ hI2⟩
  · obtain ⟨X9, h1, u2, hu, hI2⟩ := hx
    obtain ⟨v9, rfl⟩ := zriV h1
    refine yw_st (st2 := [.int v9, .int 0, .ref (ad 69)]) rfl ?_
    obtain ⟨s9, hI⟩ := hI2
    obtain ⟨e_o1, wf_o1, k_o1⟩ := hI.1.2 69 (by decide)
    obtain rfl := kd_69.mp k_o1
    refine y_base (cs := [((ad 69), .inl (3, 1, .inr (.inl (((mg (tK_Ip_pour X9 t u.1) s9).1 69).2.1))))]) (hI.1.I [69] _ rfl (by decide) (by decide) (List.forall_mem_cons.mpr ⟨wf_o1, (fun _ h => nomatch h)⟩)) ?_
    refine y_i2l d_Lw_pour_6 (v := v9.toInt64) rfl ?_
    refine y_last d_Lw_pour_7 (q0 := 0) rfl (fun q => q.elim (by decide) (by decide)) (f' := vp_updL (((mg (tK_Ip_pour X9 t u.1) s9).1 69).2.1) 0 v9.toInt64) rfl (cs' := [((ad 69), .inl (3, 1, .inr (.inl (vp_updL (((mg (tK_Ip_pour X9 t u.1) s9).1 69).2.1) 0 v9.toInt64))))]) rfl ?_
    refine y_goto (tgt := 20) d_Lw_pour_8 (by decide) ?_
    refine y_iconst d_Lw_pour_20 (v := 0) (by decide) ?_
    refine y_iret d_Lw_pour_21 rfl rfl ?_
    exact fun w1 h1 => ⟨X9, ⟨_, rfl⟩, u2, hu, IVm.tz ((hI.gen (t2 := (zup (mg (tK_Ip_pour X9 t u.1) s9).1 [(69, (((mg (tK_Ip_pour X9 t u.1) s9).1 69).1, vp_updL (((mg (tK_Ip_pour X9 t u.1) s9).1 69).2.1) 0 v9.toInt64, ((mg (tK_Ip_pour X9 t u.1) s9).1 69).2.2))], (mg (tK_Ip_pour X9 t u.1) s9).2)) (is := [69]) (L2 := []) h1 rfl ⟨kd_69.mpr rfl, trivial⟩ (by decide) (by decide) (fun _ h => nomatch h) (fun _ h => nomatch h) (fun i hi hn => zup_out (fun q => hn ((by decide : ∀ j ∈ ([69] : List Nat), j ∈ ([69] : List Nat)) i q))) (fun h => h) rfl)) (tx_all rfl)⟩
abbrev M_Lw_alloy : zM := (⟨"IronpourLaw", "alloy", "(LIronpour;I[J)I"⟩, method_34_code, 4, (Option.some FieldType.int), 8, 142, [((0 : Nat), (9 : Nat), (12 : Nat), (19 : Nat))])
theorem d_Lw_alloy_0 : decode method_34_code 0 = .ok (.aload_n 2, 1) := zo_44 (zd_b zq_method_34_code_0 0 rfl rfl rfl)
theorem d_Lw_alloy_1 : decode method_34_code 1 = .ok (.iconst 0, 1) := zo_3 (zd_b zq_method_34_code_0 1 rfl rfl rfl)
theorem d_Lw_alloy_2 : decode method_34_code 2 = .ok (.aload_n 0, 1) := zo_42 (zd_b zq_method_34_code_0 2 rfl rfl rfl)
theorem d_Lw_alloy_3 : decode method_34_code 3 = .ok (.iload_n 1, 1) := zo_27 (zd_b zq_method_34_code_0 3 rfl rfl rfl)
theorem d_Lw_alloy_4 : decode method_34_code 4 = .ok (.invokevirtual 124, 3) := zo_182 (d := 0) (e := 124) (zd_b zq_method_34_code_0 4 rfl rfl rfl) (zd_b zq_method_34_code_0 5 rfl rfl rfl) (zd_b zq_method_34_code_0 6 rfl rfl rfl)
theorem ok_Lw_alloy_Ip_alloy : z_okH M_Lw_alloy M_Ip_alloy 1 := ⟨z_mj6 (i := 189) rfl (by decide +kernel), rfl, ⟨by decide +kernel, by decide +kernel, by decide +kernel⟩, ⟨by decide, by decide⟩, z_mj1 (i := 1) rfl (by decide +kernel)⟩
theorem ln_Lw_124 : Cond.methodLink "IronpourLaw" 124 M_Ip_alloy.1 ∈ z_gw := z_mj6 (i := 186) rfl (by decide +kernel)
theorem w_im_Ip_alloy : Cond.instanceMethod M_Ip_alloy.1 ∈ z_gw := z_mj6 (i := 187) rfl (by decide +kernel)
theorem w_se_Ip_alloy : Cond.selects M_Ip_alloy.1.cls M_Ip_alloy.1 M_Ip_alloy.1 ∈ z_gw := z_mj6 (i := 188) rfl (by decide +kernel)
theorem d_Lw_alloy_12 : decode method_34_code 12 = .ok (.astore_n 3, 1) := zo_78 (zd_b zq_method_34_code_0 12 rfl rfl rfl)
theorem d_Lw_alloy_13 : decode method_34_code 13 = .ok (.iconst 1, 1) := zo_4 (zd_b zq_method_34_code_0 13 rfl rfl rfl)
theorem d_Lw_alloy_14 : decode method_34_code 14 = .ok (.ireturn, 1) := zo_172 (zd_b zq_method_34_code_0 14 rfl rfl rfl)
theorem d_Lw_alloy_7 : decode method_34_code 7 = .ok (.i2l, 1) := zo_133 (zd_b zq_method_34_code_0 7 rfl rfl rfl)
theorem d_Lw_alloy_8 : decode method_34_code 8 = .ok (.lastore, 1) := zo_80 (zd_b zq_method_34_code_0 8 rfl rfl rfl)
theorem d_Lw_alloy_9 : decode method_34_code 9 = .ok (.goto 6, 3) := zo_167 (d := 0) (e := 6) (zd_b zq_method_34_code_0 9 rfl rfl rfl) (zd_b zq_method_34_code_0 10 rfl rfl rfl) (zd_b zq_method_34_code_0 11 rfl rfl rfl) (by decide +kernel)
theorem d_Lw_alloy_15 : decode method_34_code 15 = .ok (.iconst 0, 1) := zo_3 (zd_b zq_method_34_code_0 15 rfl rfl rfl)
theorem d_Lw_alloy_16 : decode method_34_code 16 = .ok (.ireturn, 1) := zo_172 (zd_b zq_method_34_code_0 16 rfl rfl rfl)
set_option maxHeartbeats 4000000 in
set_option maxRecDepth 100000 in
theorem W_alloy {g : zG} {ad : Nat → Nat} {t : zTT} {u : zNN} {w : zW} (hI : IVm g ad t u w) (x : Int32) : zMB g M_Lw_alloy [.ref (ad 0), .int x, .ref (ad 69)] w (fun o w1 => MKx g ad t u.1 o w1) 10 300 := by
  obtain ⟨s, hI⟩ := hI
  obtain ⟨e_a, wf_a, k_a⟩ := hI.1.2 0 (by decide)
  obtain rfl := kd_0.mp k_a
  obtain ⟨e_o1, wf_o1, k_o1⟩ := hI.1.2 69 (by decide)
  obtain rfl := kd_69.mp k_o1
  refine y_ofH (by decide) (by decide) (Nat.le_of_ble_eq_true rfl) (y_base (cs := [((ad 0), .inr (11, [.ref (ad 1), .ref (ad 5), .ref (ad 18), .ref (ad 31), .ref (ad 32), .ref (ad 36), .ref (ad 42), .ref (ad 45), .ref (ad 47), .ref (ad 49), .ref (ad 50), .ref (ad 51)])), ((ad 69), .inl (3, 1, .inr (.inl (((mg t s).1 69).2.1))))]) (hI.1.I [0, 69] _ rfl (by decide) (by decide) (List.forall_mem_cons.mpr ⟨wf_a, (List.forall_mem_cons.mpr ⟨wf_o1, (fun _ h => nomatch h)⟩)⟩)) ?_)
  refine y_lvE (lv2 := [(0, .ref (ad 0)), (1, .int x), (2, .ref (ad 69))]) rfl ?_
  refine y_aload_n d_Lw_alloy_0 rfl 2 rfl ?_
  refine y_iconst d_Lw_alloy_1 (v := 0) (by decide) ?_
  refine y_aload_n d_Lw_alloy_2 rfl 0 rfl ?_
  refine y_iload_n d_Lw_alloy_3 rfl 1 rfl ?_
  refine yw_callVH (As := [.int x]) (rest := [.int 0, .ref (ad 69)]) (q0 := 0) rfl rfl ln_Lw_124 w_im_Ip_alloy w_se_Ip_alloy ok_Lw_alloy_Ip_alloy d_Lw_alloy_4 (fun wA hA => K_Ip_alloy ⟨_, (hI.gen (t2 := (mg t s)) (is := [0, 69]) (L2 := []) hA rfl ⟨kd_0.mpr rfl, kd_69.mpr rfl, trivial⟩ (by decide) (by decide) (fun _ h => nomatch h) (fun _ h => nomatch h) (fun _ _ _ => rfl) (fun h => h) rfl)⟩ x) rfl rfl (Nat.le_of_ble_eq_true rfl) (by omega) (by omega) (fun wA4 hA4 E wB4 hx => ?_) (fun wA4 hA4 v wB4 hx => ?_)
  · obtain ⟨h1, u2, hu, hI2⟩ := hx
    obtain rfl := List.mem_singleton.mp (zriE h1)
    refine ⟨"java/lang/IndexOutOfBoundsException", [], [], (0, 9, 12, 19), rfl, (fun z hz => nomatch hz), by decide, by decide, lx_Lw_19, ce_19, fun qx => ?_⟩
    refine y_base (cs := []) (z_I.nil wB4) ?_
    refine y_astore_n (lv' := [(3, .ref qx), (0, .ref (ad 0)), (1, .int x), (2, .ref (ad 69))]) d_Lw_alloy_12 rfl (by decide) rfl ?_
    refine y_iconst d_Lw_alloy_13 (v := 1) (by decide) ?_
    refine y_iret d_Lw_alloy_14 rfl rfl ?_
    exact fun w1 h1 => ⟨⟨_, rfl⟩, u2, hu, (z_I.same (z_I.nil _) h1).symm ▸ hI2⟩
  · obtain ⟨h1, u2, hu, hI2⟩ := hx
    obtain ⟨v9, rfl⟩ := zriV h1
    refine yw_st (st2 := [.int v9, .int 0, .ref (ad 69)]) rfl ?_
    obtain ⟨s9, hI⟩ := hI2
    obtain ⟨e_o1, wf_o1, k_o1⟩ := hI.1.2 69 (by decide)
    obtain rfl := kd_69.mp k_o1
    refine y_base (cs := [((ad 69), .inl (3, 1, .inr (.inl (((mg t s9).1 69).2.1))))]) (hI.1.I [69] _ rfl (by decide) (by decide) (List.forall_mem_cons.mpr ⟨wf_o1, (fun _ h => nomatch h)⟩)) ?_
    refine y_i2l d_Lw_alloy_7 (v := v9.toInt64) rfl ?_
    refine y_last d_Lw_alloy_8 (q0 := 0) rfl (fun q => q.elim (by decide) (by decide)) (f' := vp_updL (((mg t s9).1 69).2.1) 0 v9.toInt64) rfl (cs' := [((ad 69), .inl (3, 1, .inr (.inl (vp_updL (((mg t s9).1 69).2.1) 0 v9.toInt64))))]) rfl ?_
    refine y_goto (tgt := 15) d_Lw_alloy_9 (by decide) ?_
    refine y_iconst d_Lw_alloy_15 (v := 0) (by decide) ?_
    refine y_iret d_Lw_alloy_16 rfl rfl ?_
    exact fun w1 h1 => ⟨⟨_, rfl⟩, u2, hu, IVm.tz ((hI.gen (t2 := (zup (mg t s9).1 [(69, (((mg t s9).1 69).1, vp_updL (((mg t s9).1 69).2.1) 0 v9.toInt64, ((mg t s9).1 69).2.2))], (mg t s9).2)) (is := [69]) (L2 := []) h1 rfl ⟨kd_69.mpr rfl, trivial⟩ (by decide) (by decide) (fun _ h => nomatch h) (fun _ h => nomatch h) (fun i hi hn => zup_out (fun q => hn ((by decide : ∀ j ∈ ([69] : List Nat), j ∈ ([69] : List Nat)) i q))) (fun h => h) rfl)) (tx_all rfl)⟩
abbrev M_Lw_faults : zM := (⟨"IronpourLaw", "faults", "(LIronpour;I[J)I"⟩, method_35_code, 4, (Option.some FieldType.int), 8, 142, [((0 : Nat), (9 : Nat), (12 : Nat), (19 : Nat))])
theorem d_Lw_faults_0 : decode method_35_code 0 = .ok (.aload_n 2, 1) := zo_44 (zd_b zq_method_35_code_0 0 rfl rfl rfl)
theorem d_Lw_faults_1 : decode method_35_code 1 = .ok (.iconst 0, 1) := zo_3 (zd_b zq_method_35_code_0 1 rfl rfl rfl)
theorem d_Lw_faults_2 : decode method_35_code 2 = .ok (.aload_n 0, 1) := zo_42 (zd_b zq_method_35_code_0 2 rfl rfl rfl)
theorem d_Lw_faults_3 : decode method_35_code 3 = .ok (.iload_n 1, 1) := zo_27 (zd_b zq_method_35_code_0 3 rfl rfl rfl)
theorem d_Lw_faults_4 : decode method_35_code 4 = .ok (.invokevirtual 128, 3) := zo_182 (d := 0) (e := 128) (zd_b zq_method_35_code_0 4 rfl rfl rfl) (zd_b zq_method_35_code_0 5 rfl rfl rfl) (zd_b zq_method_35_code_0 6 rfl rfl rfl)
theorem ok_Lw_faults_Ip_faults : z_okH M_Lw_faults M_Ip_faults 1 := ⟨z_mj6 (i := 202) rfl (by decide +kernel), rfl, ⟨by decide +kernel, by decide +kernel, by decide +kernel⟩, ⟨by decide, by decide⟩, z_mj1 (i := 1) rfl (by decide +kernel)⟩
theorem ln_Lw_128 : Cond.methodLink "IronpourLaw" 128 M_Ip_faults.1 ∈ z_gw := z_mj6 (i := 199) rfl (by decide +kernel)
theorem w_im_Ip_faults : Cond.instanceMethod M_Ip_faults.1 ∈ z_gw := z_mj6 (i := 200) rfl (by decide +kernel)
theorem w_se_Ip_faults : Cond.selects M_Ip_faults.1.cls M_Ip_faults.1 M_Ip_faults.1 ∈ z_gw := z_mj6 (i := 201) rfl (by decide +kernel)
theorem d_Lw_faults_12 : decode method_35_code 12 = .ok (.astore_n 3, 1) := zo_78 (zd_b zq_method_35_code_0 12 rfl rfl rfl)
theorem d_Lw_faults_13 : decode method_35_code 13 = .ok (.iconst 1, 1) := zo_4 (zd_b zq_method_35_code_0 13 rfl rfl rfl)
theorem d_Lw_faults_14 : decode method_35_code 14 = .ok (.ireturn, 1) := zo_172 (zd_b zq_method_35_code_0 14 rfl rfl rfl)
theorem d_Lw_faults_7 : decode method_35_code 7 = .ok (.i2l, 1) := zo_133 (zd_b zq_method_35_code_0 7 rfl rfl rfl)
theorem d_Lw_faults_8 : decode method_35_code 8 = .ok (.lastore, 1) := zo_80 (zd_b zq_method_35_code_0 8 rfl rfl rfl)
theorem d_Lw_faults_9 : decode method_35_code 9 = .ok (.goto 6, 3) := zo_167 (d := 0) (e := 6) (zd_b zq_method_35_code_0 9 rfl rfl rfl) (zd_b zq_method_35_code_0 10 rfl rfl rfl) (zd_b zq_method_35_code_0 11 rfl rfl rfl) (by decide +kernel)
theorem d_Lw_faults_15 : decode method_35_code 15 = .ok (.iconst 0, 1) := zo_3 (zd_b zq_method_35_code_0 15 rfl rfl rfl)
theorem d_Lw_faults_16 : decode method_35_code 16 = .ok (.ireturn, 1) := zo_172 (zd_b zq_method_35_code_0 16 rfl rfl rfl)
set_option maxHeartbeats 4000000 in
set_option maxRecDepth 100000 in
theorem W_faults {g : zG} {ad : Nat → Nat} {t : zTT} {u : zNN} {w : zW} (hI : IVm g ad t u w) (x : Int32) : zMB g M_Lw_faults [.ref (ad 0), .int x, .ref (ad 69)] w (fun o w1 => MKx g ad t u.1 o w1) 10 300 := by
  obtain ⟨s, hI⟩ := hI
  obtain ⟨e_a, wf_a, k_a⟩ := hI.1.2 0 (by decide)
  obtain rfl := kd_0.mp k_a
  obtain ⟨e_o1, wf_o1, k_o1⟩ := hI.1.2 69 (by decide)
  obtain rfl := kd_69.mp k_o1
  refine y_ofH (by decide) (by decide) (Nat.le_of_ble_eq_true rfl) (y_base (cs := [((ad 0), .inr (11, [.ref (ad 1), .ref (ad 5), .ref (ad 18), .ref (ad 31), .ref (ad 32), .ref (ad 36), .ref (ad 42), .ref (ad 45), .ref (ad 47), .ref (ad 49), .ref (ad 50), .ref (ad 51)])), ((ad 69), .inl (3, 1, .inr (.inl (((mg t s).1 69).2.1))))]) (hI.1.I [0, 69] _ rfl (by decide) (by decide) (List.forall_mem_cons.mpr ⟨wf_a, (List.forall_mem_cons.mpr ⟨wf_o1, (fun _ h => nomatch h)⟩)⟩)) ?_)
  refine y_lvE (lv2 := [(0, .ref (ad 0)), (1, .int x), (2, .ref (ad 69))]) rfl ?_
  refine y_aload_n d_Lw_faults_0 rfl 2 rfl ?_
  refine y_iconst d_Lw_faults_1 (v := 0) (by decide) ?_
  refine y_aload_n d_Lw_faults_2 rfl 0 rfl ?_
  refine y_iload_n d_Lw_faults_3 rfl 1 rfl ?_
  refine yw_callVH (As := [.int x]) (rest := [.int 0, .ref (ad 69)]) (q0 := 0) rfl rfl ln_Lw_128 w_im_Ip_faults w_se_Ip_faults ok_Lw_faults_Ip_faults d_Lw_faults_4 (fun wA hA => K_Ip_faults ⟨_, (hI.gen (t2 := (mg t s)) (is := [0, 69]) (L2 := []) hA rfl ⟨kd_0.mpr rfl, kd_69.mpr rfl, trivial⟩ (by decide) (by decide) (fun _ h => nomatch h) (fun _ h => nomatch h) (fun _ _ _ => rfl) (fun h => h) rfl)⟩ x) rfl rfl (Nat.le_of_ble_eq_true rfl) (by omega) (by omega) (fun wA4 hA4 E wB4 hx => ?_) (fun wA4 hA4 v wB4 hx => ?_)
  · obtain ⟨h1, u2, hu, hI2⟩ := hx
    obtain rfl := List.mem_singleton.mp (zriE h1)
    refine ⟨"java/lang/IndexOutOfBoundsException", [], [], (0, 9, 12, 19), rfl, (fun z hz => nomatch hz), by decide, by decide, lx_Lw_19, ce_19, fun qx => ?_⟩
    refine y_base (cs := []) (z_I.nil wB4) ?_
    refine y_astore_n (lv' := [(3, .ref qx), (0, .ref (ad 0)), (1, .int x), (2, .ref (ad 69))]) d_Lw_faults_12 rfl (by decide) rfl ?_
    refine y_iconst d_Lw_faults_13 (v := 1) (by decide) ?_
    refine y_iret d_Lw_faults_14 rfl rfl ?_
    exact fun w1 h1 => ⟨⟨_, rfl⟩, u2, hu, (z_I.same (z_I.nil _) h1).symm ▸ hI2⟩
  · obtain ⟨h1, u2, hu, hI2⟩ := hx
    obtain ⟨v9, rfl⟩ := zriV h1
    refine yw_st (st2 := [.int v9, .int 0, .ref (ad 69)]) rfl ?_
    obtain ⟨s9, hI⟩ := hI2
    obtain ⟨e_o1, wf_o1, k_o1⟩ := hI.1.2 69 (by decide)
    obtain rfl := kd_69.mp k_o1
    refine y_base (cs := [((ad 69), .inl (3, 1, .inr (.inl (((mg t s9).1 69).2.1))))]) (hI.1.I [69] _ rfl (by decide) (by decide) (List.forall_mem_cons.mpr ⟨wf_o1, (fun _ h => nomatch h)⟩)) ?_
    refine y_i2l d_Lw_faults_7 (v := v9.toInt64) rfl ?_
    refine y_last d_Lw_faults_8 (q0 := 0) rfl (fun q => q.elim (by decide) (by decide)) (f' := vp_updL (((mg t s9).1 69).2.1) 0 v9.toInt64) rfl (cs' := [((ad 69), .inl (3, 1, .inr (.inl (vp_updL (((mg t s9).1 69).2.1) 0 v9.toInt64))))]) rfl ?_
    refine y_goto (tgt := 15) d_Lw_faults_9 (by decide) ?_
    refine y_iconst d_Lw_faults_15 (v := 0) (by decide) ?_
    refine y_iret d_Lw_faults_16 rfl rfl ?_
    exact fun w1 h1 => ⟨⟨_, rfl⟩, u2, hu, IVm.tz ((hI.gen (t2 := (zup (mg t s9).1 [(69, (((mg t s9).1 69).1, vp_updL (((mg t s9).1 69).2.1) 0 v9.toInt64, ((mg t s9).1 69).2.2))], (mg t s9).2)) (is := [69]) (L2 := []) h1 rfl ⟨kd_69.mpr rfl, trivial⟩ (by decide) (by decide) (fun _ h => nomatch h) (fun _ h => nomatch h) (fun i hi hn => zup_out (fun q => hn ((by decide : ∀ j ∈ ([69] : List Nat), j ∈ ([69] : List Nat)) i q))) (fun h => h) rfl)) (tx_all rfl)⟩
abbrev M_Lw_shrunkIn : zM := (⟨"IronpourLaw", "shrunkIn", "(LIronpour;I[J)I"⟩, method_36_code, 4, (Option.some FieldType.int), 8, 142, [((0 : Nat), (9 : Nat), (12 : Nat), (19 : Nat))])
theorem d_Lw_shrunkIn_0 : decode method_36_code 0 = .ok (.aload_n 2, 1) := zo_44 (zd_b zq_method_36_code_0 0 rfl rfl rfl)
theorem d_Lw_shrunkIn_1 : decode method_36_code 1 = .ok (.iconst 0, 1) := zo_3 (zd_b zq_method_36_code_0 1 rfl rfl rfl)
theorem d_Lw_shrunkIn_2 : decode method_36_code 2 = .ok (.aload_n 0, 1) := zo_42 (zd_b zq_method_36_code_0 2 rfl rfl rfl)
theorem d_Lw_shrunkIn_3 : decode method_36_code 3 = .ok (.iload_n 1, 1) := zo_27 (zd_b zq_method_36_code_0 3 rfl rfl rfl)
theorem d_Lw_shrunkIn_4 : decode method_36_code 4 = .ok (.invokevirtual 131, 3) := zo_182 (d := 0) (e := 131) (zd_b zq_method_36_code_0 4 rfl rfl rfl) (zd_b zq_method_36_code_0 5 rfl rfl rfl) (zd_b zq_method_36_code_0 6 rfl rfl rfl)
theorem ok_Lw_shrunkIn_Ip_shrunkIn : z_okH M_Lw_shrunkIn M_Ip_shrunkIn 1 := ⟨z_mj6 (i := 209) rfl (by decide +kernel), rfl, ⟨by decide +kernel, by decide +kernel, by decide +kernel⟩, ⟨by decide, by decide⟩, z_mj1 (i := 1) rfl (by decide +kernel)⟩
theorem ln_Lw_131 : Cond.methodLink "IronpourLaw" 131 M_Ip_shrunkIn.1 ∈ z_gw := z_mj6 (i := 206) rfl (by decide +kernel)
theorem w_im_Ip_shrunkIn : Cond.instanceMethod M_Ip_shrunkIn.1 ∈ z_gw := z_mj6 (i := 207) rfl (by decide +kernel)
theorem w_se_Ip_shrunkIn : Cond.selects M_Ip_shrunkIn.1.cls M_Ip_shrunkIn.1 M_Ip_shrunkIn.1 ∈ z_gw := z_mj6 (i := 208) rfl (by decide +kernel)
theorem d_Lw_shrunkIn_12 : decode method_36_code 12 = .ok (.astore_n 3, 1) := zo_78 (zd_b zq_method_36_code_0 12 rfl rfl rfl)
theorem d_Lw_shrunkIn_13 : decode method_36_code 13 = .ok (.iconst 1, 1) := zo_4 (zd_b zq_method_36_code_0 13 rfl rfl rfl)
theorem d_Lw_shrunkIn_14 : decode method_36_code 14 = .ok (.ireturn, 1) := zo_172 (zd_b zq_method_36_code_0 14 rfl rfl rfl)
theorem d_Lw_shrunkIn_7 : decode method_36_code 7 = .ok (.i2l, 1) := zo_133 (zd_b zq_method_36_code_0 7 rfl rfl rfl)
theorem d_Lw_shrunkIn_8 : decode method_36_code 8 = .ok (.lastore, 1) := zo_80 (zd_b zq_method_36_code_0 8 rfl rfl rfl)
theorem d_Lw_shrunkIn_9 : decode method_36_code 9 = .ok (.goto 6, 3) := zo_167 (d := 0) (e := 6) (zd_b zq_method_36_code_0 9 rfl rfl rfl) (zd_b zq_method_36_code_0 10 rfl rfl rfl) (zd_b zq_method_36_code_0 11 rfl rfl rfl) (by decide +kernel)
theorem d_Lw_shrunkIn_15 : decode method_36_code 15 = .ok (.iconst 0, 1) := zo_3 (zd_b zq_method_36_code_0 15 rfl rfl rfl)
theorem d_Lw_shrunkIn_16 : decode method_36_code 16 = .ok (.ireturn, 1) := zo_172 (zd_b zq_method_36_code_0 16 rfl rfl rfl)
set_option maxHeartbeats 4000000 in
set_option maxRecDepth 100000 in
theorem W_shrunkIn {g : zG} {ad : Nat → Nat} {t : zTT} {u : zNN} {w : zW} (hI : IVm g ad t u w) (x : Int32) : zMB g M_Lw_shrunkIn [.ref (ad 0), .int x, .ref (ad 69)] w (fun o w1 => MKx g ad t u.1 o w1) 10 300 := by
  obtain ⟨s, hI⟩ := hI
  obtain ⟨e_a, wf_a, k_a⟩ := hI.1.2 0 (by decide)
  obtain rfl := kd_0.mp k_a
  obtain ⟨e_o1, wf_o1, k_o1⟩ := hI.1.2 69 (by decide)
  obtain rfl := kd_69.mp k_o1
  refine y_ofH (by decide) (by decide) (Nat.le_of_ble_eq_true rfl) (y_base (cs := [((ad 0), .inr (11, [.ref (ad 1), .ref (ad 5), .ref (ad 18), .ref (ad 31), .ref (ad 32), .ref (ad 36), .ref (ad 42), .ref (ad 45), .ref (ad 47), .ref (ad 49), .ref (ad 50), .ref (ad 51)])), ((ad 69), .inl (3, 1, .inr (.inl (((mg t s).1 69).2.1))))]) (hI.1.I [0, 69] _ rfl (by decide) (by decide) (List.forall_mem_cons.mpr ⟨wf_a, (List.forall_mem_cons.mpr ⟨wf_o1, (fun _ h => nomatch h)⟩)⟩)) ?_)
  refine y_lvE (lv2 := [(0, .ref (ad 0)), (1, .int x), (2, .ref (ad 69))]) rfl ?_
  refine y_aload_n d_Lw_shrunkIn_0 rfl 2 rfl ?_
  refine y_iconst d_Lw_shrunkIn_1 (v := 0) (by decide) ?_
  refine y_aload_n d_Lw_shrunkIn_2 rfl 0 rfl ?_
  refine y_iload_n d_Lw_shrunkIn_3 rfl 1 rfl ?_
  refine yw_callVH (As := [.int x]) (rest := [.int 0, .ref (ad 69)]) (q0 := 0) rfl rfl ln_Lw_131 w_im_Ip_shrunkIn w_se_Ip_shrunkIn ok_Lw_shrunkIn_Ip_shrunkIn d_Lw_shrunkIn_4 (fun wA hA => K_Ip_shrunkIn ⟨_, (hI.gen (t2 := (mg t s)) (is := [0, 69]) (L2 := []) hA rfl ⟨kd_0.mpr rfl, kd_69.mpr rfl, trivial⟩ (by decide) (by decide) (fun _ h => nomatch h) (fun _ h => nomatch h) (fun _ _ _ => rfl) (fun h => h) rfl)⟩ x) rfl rfl (Nat.le_of_ble_eq_true rfl) (by omega) (by omega) (fun wA4 hA4 E wB4 hx => ?_) (fun wA4 hA4 v wB4 hx => ?_)
  · obtain ⟨h1, u2, hu, hI2⟩ := hx
    obtain rfl := List.mem_singleton.mp (zriE h1)
    refine ⟨"java/lang/IndexOutOfBoundsException", [], [], (0, 9, 12, 19), rfl, (fun z hz => nomatch hz), by decide, by decide, lx_Lw_19, ce_19, fun qx => ?_⟩
    refine y_base (cs := []) (z_I.nil wB4) ?_
    refine y_astore_n (lv' := [(3, .ref qx), (0, .ref (ad 0)), (1, .int x), (2, .ref (ad 69))]) d_Lw_shrunkIn_12 rfl (by decide) rfl ?_
    refine y_iconst d_Lw_shrunkIn_13 (v := 1) (by decide) ?_
    refine y_iret d_Lw_shrunkIn_14 rfl rfl ?_
    exact fun w1 h1 => ⟨⟨_, rfl⟩, u2, hu, (z_I.same (z_I.nil _) h1).symm ▸ hI2⟩
  · obtain ⟨h1, u2, hu, hI2⟩ := hx
    obtain ⟨v9, rfl⟩ := zriV h1
    refine yw_st (st2 := [.int v9, .int 0, .ref (ad 69)]) rfl ?_
    obtain ⟨s9, hI⟩ := hI2
    obtain ⟨e_o1, wf_o1, k_o1⟩ := hI.1.2 69 (by decide)
    obtain rfl := kd_69.mp k_o1
    refine y_base (cs := [((ad 69), .inl (3, 1, .inr (.inl (((mg t s9).1 69).2.1))))]) (hI.1.I [69] _ rfl (by decide) (by decide) (List.forall_mem_cons.mpr ⟨wf_o1, (fun _ h => nomatch h)⟩)) ?_
    refine y_i2l d_Lw_shrunkIn_7 (v := v9.toInt64) rfl ?_
    refine y_last d_Lw_shrunkIn_8 (q0 := 0) rfl (fun q => q.elim (by decide) (by decide)) (f' := vp_updL (((mg t s9).1 69).2.1) 0 v9.toInt64) rfl (cs' := [((ad 69), .inl (3, 1, .inr (.inl (vp_updL (((mg t s9).1 69).2.1) 0 v9.toInt64))))]) rfl ?_
    refine y_goto (tgt := 15) d_Lw_shrunkIn_9 (by decide) ?_
    refine y_iconst d_Lw_shrunkIn_15 (v := 0) (by decide) ?_
    refine y_iret d_Lw_shrunkIn_16 rfl rfl ?_
    exact fun w1 h1 => ⟨⟨_, rfl⟩, u2, hu, IVm.tz ((hI.gen (t2 := (zup (mg t s9).1 [(69, (((mg t s9).1 69).1, vp_updL (((mg t s9).1 69).2.1) 0 v9.toInt64, ((mg t s9).1 69).2.2))], (mg t s9).2)) (is := [69]) (L2 := []) h1 rfl ⟨kd_69.mpr rfl, trivial⟩ (by decide) (by decide) (fun _ h => nomatch h) (fun _ h => nomatch h) (fun i hi hn => zup_out (fun q => hn ((by decide : ∀ j ∈ ([69] : List Nat), j ∈ ([69] : List Nat)) i q))) (fun h => h) rfl)) (tx_all rfl)⟩
abbrev M_Lw_has : zM := (⟨"IronpourLaw", "has", "(LIronpour;IC[J)I"⟩, method_37_code, 5, (Option.some FieldType.int), 10, 223, [((0 : Nat), (10 : Nat), (13 : Nat), (19 : Nat)), ((0 : Nat), (10 : Nat), (17 : Nat), (13 : Nat))])
theorem d_Lw_has_0 : decode method_37_code 0 = .ok (.aload_n 3, 1) := zo_45 (zd_b zq_method_37_code_0 0 rfl rfl rfl)
theorem d_Lw_has_1 : decode method_37_code 1 = .ok (.iconst 0, 1) := zo_3 (zd_b zq_method_37_code_0 1 rfl rfl rfl)
theorem d_Lw_has_2 : decode method_37_code 2 = .ok (.aload_n 0, 1) := zo_42 (zd_b zq_method_37_code_0 2 rfl rfl rfl)
theorem d_Lw_has_3 : decode method_37_code 3 = .ok (.iload_n 1, 1) := zo_27 (zd_b zq_method_37_code_0 3 rfl rfl rfl)
theorem d_Lw_has_4 : decode method_37_code 4 = .ok (.iload_n 2, 1) := zo_28 (zd_b zq_method_37_code_0 4 rfl rfl rfl)
theorem d_Lw_has_5 : decode method_37_code 5 = .ok (.invokevirtual 134, 3) := zo_182 (d := 0) (e := 134) (zd_b zq_method_37_code_0 5 rfl rfl rfl) (zd_b zq_method_37_code_0 6 rfl rfl rfl) (zd_b zq_method_37_code_0 7 rfl rfl rfl)
theorem ok_Lw_has_Ip_has : z_okH M_Lw_has M_Ip_has 2 := ⟨z_mj6 (i := 216) rfl (by decide +kernel), rfl, ⟨by decide +kernel, by decide +kernel, by decide +kernel⟩, ⟨by decide, by decide⟩, z_mj1 (i := 1) rfl (by decide +kernel)⟩
theorem ln_Lw_134 : Cond.methodLink "IronpourLaw" 134 M_Ip_has.1 ∈ z_gw := z_mj6 (i := 213) rfl (by decide +kernel)
theorem w_im_Ip_has : Cond.instanceMethod M_Ip_has.1 ∈ z_gw := z_mj6 (i := 214) rfl (by decide +kernel)
theorem w_se_Ip_has : Cond.selects M_Ip_has.1.cls M_Ip_has.1 M_Ip_has.1 ∈ z_gw := z_mj6 (i := 215) rfl (by decide +kernel)
theorem d_Lw_has_13 : decode method_37_code 13 = .ok (.astore 4, 2) := zo_58 (d := 4) (zd_b zq_method_37_code_0 13 rfl rfl rfl) (zd_b zq_method_37_code_0 14 rfl rfl rfl)
theorem d_Lw_has_15 : decode method_37_code 15 = .ok (.iconst 1, 1) := zo_4 (zd_b zq_method_37_code_0 15 rfl rfl rfl)
theorem d_Lw_has_16 : decode method_37_code 16 = .ok (.ireturn, 1) := zo_172 (zd_b zq_method_37_code_0 16 rfl rfl rfl)
theorem d_Lw_has_17 : decode method_37_code 17 = .ok (.astore 4, 2) := zo_58 (d := 4) (zd_b zq_method_37_code_0 17 rfl rfl rfl) (zd_b zq_method_37_code_0 18 rfl rfl rfl)
theorem d_Lw_has_19 : decode method_37_code 19 = .ok (.iconst 2, 1) := zo_5 (zd_b zq_method_37_code_0 19 rfl rfl rfl)
theorem d_Lw_has_20 : decode method_37_code 20 = .ok (.ireturn, 1) := zo_172 (zd_b zq_method_37_code_0 20 rfl rfl rfl)
theorem d_Lw_has_8 : decode method_37_code 8 = .ok (.i2l, 1) := zo_133 (zd_b zq_method_37_code_0 8 rfl rfl rfl)
theorem d_Lw_has_9 : decode method_37_code 9 = .ok (.lastore, 1) := zo_80 (zd_b zq_method_37_code_0 9 rfl rfl rfl)
theorem d_Lw_has_10 : decode method_37_code 10 = .ok (.goto 11, 3) := zo_167 (d := 0) (e := 11) (zd_b zq_method_37_code_0 10 rfl rfl rfl) (zd_b zq_method_37_code_0 11 rfl rfl rfl) (zd_b zq_method_37_code_0 12 rfl rfl rfl) (by decide +kernel)
theorem d_Lw_has_21 : decode method_37_code 21 = .ok (.iconst 0, 1) := zo_3 (zd_b zq_method_37_code_0 21 rfl rfl rfl)
theorem d_Lw_has_22 : decode method_37_code 22 = .ok (.ireturn, 1) := zo_172 (zd_b zq_method_37_code_0 22 rfl rfl rfl)
set_option maxHeartbeats 4000000 in
set_option maxRecDepth 100000 in
theorem W_has {g : zG} {ad : Nat → Nat} {t : zTT} {u : zNN} {w : zW} (hI : IVm g ad t u w) (x c : Int32) : zMB g M_Lw_has [.ref (ad 0), .int x, .int c, .ref (ad 69)] w (fun o w1 => MKx g ad t u.1 o w1) 10 300 := by
  obtain ⟨s, hI⟩ := hI
  obtain ⟨e_a, wf_a, k_a⟩ := hI.1.2 0 (by decide)
  obtain rfl := kd_0.mp k_a
  obtain ⟨e_o1, wf_o1, k_o1⟩ := hI.1.2 69 (by decide)
  obtain rfl := kd_69.mp k_o1
  refine y_ofH (by decide) (by decide) (Nat.le_of_ble_eq_true rfl) (y_base (cs := [((ad 0), .inr (11, [.ref (ad 1), .ref (ad 5), .ref (ad 18), .ref (ad 31), .ref (ad 32), .ref (ad 36), .ref (ad 42), .ref (ad 45), .ref (ad 47), .ref (ad 49), .ref (ad 50), .ref (ad 51)])), ((ad 69), .inl (3, 1, .inr (.inl (((mg t s).1 69).2.1))))]) (hI.1.I [0, 69] _ rfl (by decide) (by decide) (List.forall_mem_cons.mpr ⟨wf_a, (List.forall_mem_cons.mpr ⟨wf_o1, (fun _ h => nomatch h)⟩)⟩)) ?_)
  refine y_lvE (lv2 := [(0, .ref (ad 0)), (1, .int x), (2, .int c), (3, .ref (ad 69))]) rfl ?_
  refine y_aload_n d_Lw_has_0 rfl 3 rfl ?_
  refine y_iconst d_Lw_has_1 (v := 0) (by decide) ?_
  refine y_aload_n d_Lw_has_2 rfl 0 rfl ?_
  refine y_iload_n d_Lw_has_3 rfl 1 rfl ?_
  refine y_iload_n d_Lw_has_4 rfl 2 rfl ?_
  refine yw_callVH (As := [.int x, .int c]) (rest := [.int 0, .ref (ad 69)]) (q0 := 0) rfl rfl ln_Lw_134 w_im_Ip_has w_se_Ip_has ok_Lw_has_Ip_has d_Lw_has_5 (fun wA hA => K_Ip_has ⟨_, (hI.gen (t2 := (mg t s)) (is := [0, 69]) (L2 := []) hA rfl ⟨kd_0.mpr rfl, kd_69.mpr rfl, trivial⟩ (by decide) (by decide) (fun _ h => nomatch h) (fun _ h => nomatch h) (fun _ _ _ => rfl) (fun h => h) rfl)⟩ x c) rfl rfl (Nat.le_of_ble_eq_true rfl) (by omega) (by omega) (fun wA5 hA5 E wB5 hx => ?_) (fun wA5 hA5 v wB5 hx => ?_)
  · obtain ⟨h1, u2, hu, hI2⟩ := hx
    rcases List.mem_cons.mp (zriE h1) with rfl | g2
    · refine ⟨"java/lang/IndexOutOfBoundsException", [], [(0, 10, 17, 13)], (0, 10, 13, 19), rfl, (fun z hz => nomatch hz), by decide, by decide, lx_Lw_19, ce_19, fun qx => ?_⟩
      refine y_base (cs := []) (z_I.nil wB5) ?_
      refine y_astore (lv' := [(4, .ref qx), (0, .ref (ad 0)), (1, .int x), (2, .int c), (3, .ref (ad 69))]) d_Lw_has_13 (by decide) rfl ?_
      refine y_iconst d_Lw_has_15 (v := 1) (by decide) ?_
      refine y_iret d_Lw_has_16 rfl rfl ?_
      exact fun w1 h1 => ⟨⟨_, rfl⟩, u2, hu, (z_I.same (z_I.nil _) h1).symm ▸ hI2⟩
    · obtain rfl := List.mem_singleton.mp g2
      refine ⟨"java/lang/IllegalArgumentException", [(0, 10, 13, 19)], [], (0, 10, 17, 13), rfl, (fun z hz => by simp only [List.mem_cons, List.not_mem_nil, or_false] at hz; rcases hz with rfl; exact Or.inr ⟨by decide, _, lx_Lw_19, by decide⟩), by decide, by decide, lx_Lw_13, ce_13, fun qx => ?_⟩
      refine y_base (cs := []) (z_I.nil wB5) ?_
      refine y_astore (lv' := [(4, .ref qx), (0, .ref (ad 0)), (1, .int x), (2, .int c), (3, .ref (ad 69))]) d_Lw_has_17 (by decide) rfl ?_
      refine y_iconst d_Lw_has_19 (v := 2) (by decide) ?_
      refine y_iret d_Lw_has_20 rfl rfl ?_
      exact fun w1 h1 => ⟨⟨_, rfl⟩, u2, hu, (z_I.same (z_I.nil _) h1).symm ▸ hI2⟩
  · obtain ⟨h1, u2, hu, hI2⟩ := hx
    obtain ⟨v9, rfl⟩ := zriV h1
    refine yw_st (st2 := [.int v9, .int 0, .ref (ad 69)]) rfl ?_
    obtain ⟨s9, hI⟩ := hI2
    obtain ⟨e_o1, wf_o1, k_o1⟩ := hI.1.2 69 (by decide)
    obtain rfl := kd_69.mp k_o1
    refine y_base (cs := [((ad 69), .inl (3, 1, .inr (.inl (((mg t s9).1 69).2.1))))]) (hI.1.I [69] _ rfl (by decide) (by decide) (List.forall_mem_cons.mpr ⟨wf_o1, (fun _ h => nomatch h)⟩)) ?_
    refine y_i2l d_Lw_has_8 (v := v9.toInt64) rfl ?_
    refine y_last d_Lw_has_9 (q0 := 0) rfl (fun q => q.elim (by decide) (by decide)) (f' := vp_updL (((mg t s9).1 69).2.1) 0 v9.toInt64) rfl (cs' := [((ad 69), .inl (3, 1, .inr (.inl (vp_updL (((mg t s9).1 69).2.1) 0 v9.toInt64))))]) rfl ?_
    refine y_goto (tgt := 21) d_Lw_has_10 (by decide) ?_
    refine y_iconst d_Lw_has_21 (v := 0) (by decide) ?_
    refine y_iret d_Lw_has_22 rfl rfl ?_
    exact fun w1 h1 => ⟨⟨_, rfl⟩, u2, hu, IVm.tz ((hI.gen (t2 := (zup (mg t s9).1 [(69, (((mg t s9).1 69).1, vp_updL (((mg t s9).1 69).2.1) 0 v9.toInt64, ((mg t s9).1 69).2.2))], (mg t s9).2)) (is := [69]) (L2 := []) h1 rfl ⟨kd_69.mpr rfl, trivial⟩ (by decide) (by decide) (fun _ h => nomatch h) (fun _ h => nomatch h) (fun i hi hn => zup_out (fun q => hn ((by decide : ∀ j ∈ ([69] : List Nat), j ∈ ([69] : List Nat)) i q))) (fun h => h) rfl)) (tx_all rfl)⟩
abbrev M_Lw_bar : zM := (⟨"IronpourLaw", "bar", "(LIronpour;I[J)I"⟩, method_38_code, 4, (Option.some FieldType.int), 8, 142, [((0 : Nat), (9 : Nat), (12 : Nat), (19 : Nat))])
theorem d_Lw_bar_0 : decode method_38_code 0 = .ok (.aload_n 2, 1) := zo_44 (zd_b zq_method_38_code_0 0 rfl rfl rfl)
theorem d_Lw_bar_1 : decode method_38_code 1 = .ok (.iconst 0, 1) := zo_3 (zd_b zq_method_38_code_0 1 rfl rfl rfl)
theorem d_Lw_bar_2 : decode method_38_code 2 = .ok (.aload_n 0, 1) := zo_42 (zd_b zq_method_38_code_0 2 rfl rfl rfl)
theorem d_Lw_bar_3 : decode method_38_code 3 = .ok (.iload_n 1, 1) := zo_27 (zd_b zq_method_38_code_0 3 rfl rfl rfl)
theorem d_Lw_bar_4 : decode method_38_code 4 = .ok (.invokevirtual 138, 3) := zo_182 (d := 0) (e := 138) (zd_b zq_method_38_code_0 4 rfl rfl rfl) (zd_b zq_method_38_code_0 5 rfl rfl rfl) (zd_b zq_method_38_code_0 6 rfl rfl rfl)
theorem ok_Lw_bar_Ip_bar : z_okH M_Lw_bar M_Ip_bar 1 := ⟨z_mj6 (i := 223) rfl (by decide +kernel), rfl, ⟨by decide +kernel, by decide +kernel, by decide +kernel⟩, ⟨by decide, by decide⟩, z_mj1 (i := 1) rfl (by decide +kernel)⟩
theorem ln_Lw_138 : Cond.methodLink "IronpourLaw" 138 M_Ip_bar.1 ∈ z_gw := z_mj6 (i := 220) rfl (by decide +kernel)
theorem w_im_Ip_bar : Cond.instanceMethod M_Ip_bar.1 ∈ z_gw := z_mj6 (i := 221) rfl (by decide +kernel)
theorem w_se_Ip_bar : Cond.selects M_Ip_bar.1.cls M_Ip_bar.1 M_Ip_bar.1 ∈ z_gw := z_mj6 (i := 222) rfl (by decide +kernel)
theorem d_Lw_bar_12 : decode method_38_code 12 = .ok (.astore_n 3, 1) := zo_78 (zd_b zq_method_38_code_0 12 rfl rfl rfl)
theorem d_Lw_bar_13 : decode method_38_code 13 = .ok (.iconst 1, 1) := zo_4 (zd_b zq_method_38_code_0 13 rfl rfl rfl)
theorem d_Lw_bar_14 : decode method_38_code 14 = .ok (.ireturn, 1) := zo_172 (zd_b zq_method_38_code_0 14 rfl rfl rfl)
theorem d_Lw_bar_7 : decode method_38_code 7 = .ok (.i2l, 1) := zo_133 (zd_b zq_method_38_code_0 7 rfl rfl rfl)
theorem d_Lw_bar_8 : decode method_38_code 8 = .ok (.lastore, 1) := zo_80 (zd_b zq_method_38_code_0 8 rfl rfl rfl)
theorem d_Lw_bar_9 : decode method_38_code 9 = .ok (.goto 6, 3) := zo_167 (d := 0) (e := 6) (zd_b zq_method_38_code_0 9 rfl rfl rfl) (zd_b zq_method_38_code_0 10 rfl rfl rfl) (zd_b zq_method_38_code_0 11 rfl rfl rfl) (by decide +kernel)
theorem d_Lw_bar_15 : decode method_38_code 15 = .ok (.iconst 0, 1) := zo_3 (zd_b zq_method_38_code_0 15 rfl rfl rfl)
theorem d_Lw_bar_16 : decode method_38_code 16 = .ok (.ireturn, 1) := zo_172 (zd_b zq_method_38_code_0 16 rfl rfl rfl)
set_option maxHeartbeats 4000000 in
set_option maxRecDepth 100000 in
theorem W_bar {g : zG} {ad : Nat → Nat} {t : zTT} {u : zNN} {w : zW} (hI : IVm g ad t u w) (x : Int32) : zMB g M_Lw_bar [.ref (ad 0), .int x, .ref (ad 69)] w (fun o w1 => MKx g ad t u.1 o w1) 10 300 := by
  obtain ⟨s, hI⟩ := hI
  obtain ⟨e_a, wf_a, k_a⟩ := hI.1.2 0 (by decide)
  obtain rfl := kd_0.mp k_a
  obtain ⟨e_o1, wf_o1, k_o1⟩ := hI.1.2 69 (by decide)
  obtain rfl := kd_69.mp k_o1
  refine y_ofH (by decide) (by decide) (Nat.le_of_ble_eq_true rfl) (y_base (cs := [((ad 0), .inr (11, [.ref (ad 1), .ref (ad 5), .ref (ad 18), .ref (ad 31), .ref (ad 32), .ref (ad 36), .ref (ad 42), .ref (ad 45), .ref (ad 47), .ref (ad 49), .ref (ad 50), .ref (ad 51)])), ((ad 69), .inl (3, 1, .inr (.inl (((mg t s).1 69).2.1))))]) (hI.1.I [0, 69] _ rfl (by decide) (by decide) (List.forall_mem_cons.mpr ⟨wf_a, (List.forall_mem_cons.mpr ⟨wf_o1, (fun _ h => nomatch h)⟩)⟩)) ?_)
  refine y_lvE (lv2 := [(0, .ref (ad 0)), (1, .int x), (2, .ref (ad 69))]) rfl ?_
  refine y_aload_n d_Lw_bar_0 rfl 2 rfl ?_
  refine y_iconst d_Lw_bar_1 (v := 0) (by decide) ?_
  refine y_aload_n d_Lw_bar_2 rfl 0 rfl ?_
  refine y_iload_n d_Lw_bar_3 rfl 1 rfl ?_
  refine yw_callVH (As := [.int x]) (rest := [.int 0, .ref (ad 69)]) (q0 := 0) rfl rfl ln_Lw_138 w_im_Ip_bar w_se_Ip_bar ok_Lw_bar_Ip_bar d_Lw_bar_4 (fun wA hA => K_Ip_bar ⟨_, (hI.gen (t2 := (mg t s)) (is := [0, 69]) (L2 := []) hA rfl ⟨kd_0.mpr rfl, kd_69.mpr rfl, trivial⟩ (by decide) (by decide) (fun _ h => nomatch h) (fun _ h => nomatch h) (fun _ _ _ => rfl) (fun h => h) rfl)⟩ x) rfl rfl (Nat.le_of_ble_eq_true rfl) (by omega) (by omega) (fun wA4 hA4 E wB4 hx => ?_) (fun wA4 hA4 v wB4 hx => ?_)
  · obtain ⟨h1, u2, hu, hI2⟩ := hx
    obtain rfl := List.mem_singleton.mp (zriE h1)
    refine ⟨"java/lang/IndexOutOfBoundsException", [], [], (0, 9, 12, 19), rfl, (fun z hz => nomatch hz), by decide, by decide, lx_Lw_19, ce_19, fun qx => ?_⟩
    refine y_base (cs := []) (z_I.nil wB4) ?_
    refine y_astore_n (lv' := [(3, .ref qx), (0, .ref (ad 0)), (1, .int x), (2, .ref (ad 69))]) d_Lw_bar_12 rfl (by decide) rfl ?_
    refine y_iconst d_Lw_bar_13 (v := 1) (by decide) ?_
    refine y_iret d_Lw_bar_14 rfl rfl ?_
    exact fun w1 h1 => ⟨⟨_, rfl⟩, u2, hu, (z_I.same (z_I.nil _) h1).symm ▸ hI2⟩
  · obtain ⟨h1, u2, hu, hI2⟩ := hx
    obtain ⟨v9, rfl⟩ := zriV h1
    refine yw_st (st2 := [.int v9, .int 0, .ref (ad 69)]) rfl ?_
    obtain ⟨s9, hI⟩ := hI2
    obtain ⟨e_o1, wf_o1, k_o1⟩ := hI.1.2 69 (by decide)
    obtain rfl := kd_69.mp k_o1
    refine y_base (cs := [((ad 69), .inl (3, 1, .inr (.inl (((mg t s9).1 69).2.1))))]) (hI.1.I [69] _ rfl (by decide) (by decide) (List.forall_mem_cons.mpr ⟨wf_o1, (fun _ h => nomatch h)⟩)) ?_
    refine y_i2l d_Lw_bar_7 (v := v9.toInt64) rfl ?_
    refine y_last d_Lw_bar_8 (q0 := 0) rfl (fun q => q.elim (by decide) (by decide)) (f' := vp_updL (((mg t s9).1 69).2.1) 0 v9.toInt64) rfl (cs' := [((ad 69), .inl (3, 1, .inr (.inl (vp_updL (((mg t s9).1 69).2.1) 0 v9.toInt64))))]) rfl ?_
    refine y_goto (tgt := 15) d_Lw_bar_9 (by decide) ?_
    refine y_iconst d_Lw_bar_15 (v := 0) (by decide) ?_
    refine y_iret d_Lw_bar_16 rfl rfl ?_
    exact fun w1 h1 => ⟨⟨_, rfl⟩, u2, hu, IVm.tz ((hI.gen (t2 := (zup (mg t s9).1 [(69, (((mg t s9).1 69).1, vp_updL (((mg t s9).1 69).2.1) 0 v9.toInt64, ((mg t s9).1 69).2.2))], (mg t s9).2)) (is := [69]) (L2 := []) h1 rfl ⟨kd_69.mpr rfl, trivial⟩ (by decide) (by decide) (fun _ h => nomatch h) (fun _ h => nomatch h) (fun i hi hn => zup_out (fun q => hn ((by decide : ∀ j ∈ ([69] : List Nat), j ∈ ([69] : List Nat)) i q))) (fun h => h) rfl)) (tx_all rfl)⟩
abbrev M_Lw_weld : zM := (⟨"IronpourLaw", "weld", "(LIronpour;I[J)I"⟩, method_39_code, 4, (Option.some FieldType.int), 8, 144, [((0 : Nat), (16 : Nat), (19 : Nat), (19 : Nat)), ((0 : Nat), (16 : Nat), (22 : Nat), (78 : Nat)), ((0 : Nat), (16 : Nat), (25 : Nat), (69 : Nat))])
theorem d_Lw_weld_0 : decode method_39_code 0 = .ok (.aload_n 2, 1) := zo_44 (zd_b zq_method_39_code_0 0 rfl rfl rfl)
theorem d_Lw_weld_1 : decode method_39_code 1 = .ok (.iconst 0, 1) := zo_3 (zd_b zq_method_39_code_0 1 rfl rfl rfl)
theorem d_Lw_weld_2 : decode method_39_code 2 = .ok (.aload_n 0, 1) := zo_42 (zd_b zq_method_39_code_0 2 rfl rfl rfl)
theorem d_Lw_weld_3 : decode method_39_code 3 = .ok (.iload_n 1, 1) := zo_27 (zd_b zq_method_39_code_0 3 rfl rfl rfl)
theorem d_Lw_weld_4 : decode method_39_code 4 = .ok (.invokevirtual 141, 3) := zo_182 (d := 0) (e := 141) (zd_b zq_method_39_code_0 4 rfl rfl rfl) (zd_b zq_method_39_code_0 5 rfl rfl rfl) (zd_b zq_method_39_code_0 6 rfl rfl rfl)
theorem ok_Lw_weld_Ip_weld : z_okH M_Lw_weld M_Ip_weld 1 := ⟨z_mj7 (i := 1) rfl (by decide +kernel), rfl, ⟨by decide +kernel, by decide +kernel, by decide +kernel⟩, ⟨by decide, by decide⟩, z_mj1 (i := 1) rfl (by decide +kernel)⟩
theorem ln_Lw_141 : Cond.methodLink "IronpourLaw" 141 M_Ip_weld.1 ∈ z_gw := z_mj6 (i := 238) rfl (by decide +kernel)
theorem w_im_Ip_weld : Cond.instanceMethod M_Ip_weld.1 ∈ z_gw := z_mj6 (i := 239) rfl (by decide +kernel)
theorem w_se_Ip_weld : Cond.selects M_Ip_weld.1.cls M_Ip_weld.1 M_Ip_weld.1 ∈ z_gw := z_mj7 (i := 0) rfl (by decide +kernel)
theorem d_Lw_weld_19 : decode method_39_code 19 = .ok (.astore_n 3, 1) := zo_78 (zd_b zq_method_39_code_0 19 rfl rfl rfl)
theorem d_Lw_weld_20 : decode method_39_code 20 = .ok (.iconst 1, 1) := zo_4 (zd_b zq_method_39_code_0 20 rfl rfl rfl)
theorem d_Lw_weld_21 : decode method_39_code 21 = .ok (.ireturn, 1) := zo_172 (zd_b zq_method_39_code_0 21 rfl rfl rfl)
theorem d_Lw_weld_22 : decode method_39_code 22 = .ok (.astore_n 3, 1) := zo_78 (zd_b zq_method_39_code_0 22 rfl rfl rfl)
theorem d_Lw_weld_23 : decode method_39_code 23 = .ok (.iconst 2, 1) := zo_5 (zd_b zq_method_39_code_0 23 rfl rfl rfl)
theorem d_Lw_weld_24 : decode method_39_code 24 = .ok (.ireturn, 1) := zo_172 (zd_b zq_method_39_code_0 24 rfl rfl rfl)
theorem d_Lw_weld_25 : decode method_39_code 25 = .ok (.astore_n 3, 1) := zo_78 (zd_b zq_method_39_code_0 25 rfl rfl rfl)
theorem d_Lw_weld_26 : decode method_39_code 26 = .ok (.iconst 3, 1) := zo_6 (zd_b zq_method_39_code_0 26 rfl rfl rfl)
theorem d_Lw_weld_27 : decode method_39_code 27 = .ok (.ireturn, 1) := zo_172 (zd_b zq_method_39_code_0 27 rfl rfl rfl)
theorem d_Lw_weld_7 : decode method_39_code 7 = .ok (.ifCond .eq 7, 3) := zo_153 (d := 0) (e := 7) (zd_b zq_method_39_code_0 7 rfl rfl rfl) (zd_b zq_method_39_code_0 8 rfl rfl rfl) (zd_b zq_method_39_code_0 9 rfl rfl rfl) (by decide +kernel)
theorem d_Lw_weld_14 : decode method_39_code 14 = .ok (.lconst 0, 1) := zo_9 (zd_b zq_method_39_code_0 14 rfl rfl rfl)
theorem d_Lw_weld_15 : decode method_39_code 15 = .ok (.lastore, 1) := zo_80 (zd_b zq_method_39_code_0 15 rfl rfl rfl)
theorem d_Lw_weld_16 : decode method_39_code 16 = .ok (.goto 12, 3) := zo_167 (d := 0) (e := 12) (zd_b zq_method_39_code_0 16 rfl rfl rfl) (zd_b zq_method_39_code_0 17 rfl rfl rfl) (zd_b zq_method_39_code_0 18 rfl rfl rfl) (by decide +kernel)
theorem d_Lw_weld_28 : decode method_39_code 28 = .ok (.iconst 0, 1) := zo_3 (zd_b zq_method_39_code_0 28 rfl rfl rfl)
theorem d_Lw_weld_29 : decode method_39_code 29 = .ok (.ireturn, 1) := zo_172 (zd_b zq_method_39_code_0 29 rfl rfl rfl)
theorem d_Lw_weld_10 : decode method_39_code 10 = .ok (.lconst 1, 1) := zo_10 (zd_b zq_method_39_code_0 10 rfl rfl rfl)
theorem d_Lw_weld_11 : decode method_39_code 11 = .ok (.goto 4, 3) := zo_167 (d := 0) (e := 4) (zd_b zq_method_39_code_0 11 rfl rfl rfl) (zd_b zq_method_39_code_0 12 rfl rfl rfl) (zd_b zq_method_39_code_0 13 rfl rfl rfl) (by decide +kernel)
set_option maxHeartbeats 4000000 in
set_option maxRecDepth 100000 in
theorem W_weld {g : zG} {ad : Nat → Nat} {t : zTT} {u : zNN} {w : zW} (hI : IVm g ad t u w) (x : Int32) : zMB g M_Lw_weld [.ref (ad 0), .int x, .ref (ad 69)] w (fun o w1 => MKx g ad (tK_Ip_weld x t u.1) u.1 o w1) 10 300 := by
  obtain ⟨s, hI⟩ := hI
  obtain ⟨e_a, wf_a, k_a⟩ := hI.1.2 0 (by decide)
  obtain rfl := kd_0.mp k_a
  obtain ⟨e_o1, wf_o1, k_o1⟩ := hI.1.2 69 (by decide)
  obtain rfl := kd_69.mp k_o1
  refine y_ofH (by decide) (by decide) (Nat.le_of_ble_eq_true rfl) (y_base (cs := [((ad 0), .inr (11, [.ref (ad 1), .ref (ad 5), .ref (ad 18), .ref (ad 31), .ref (ad 32), .ref (ad 36), .ref (ad 42), .ref (ad 45), .ref (ad 47), .ref (ad 49), .ref (ad 50), .ref (ad 51)])), ((ad 69), .inl (3, 1, .inr (.inl (((mg t s).1 69).2.1))))]) (hI.1.I [0, 69] _ rfl (by decide) (by decide) (List.forall_mem_cons.mpr ⟨wf_a, (List.forall_mem_cons.mpr ⟨wf_o1, (fun _ h => nomatch h)⟩)⟩)) ?_)
  refine y_lvE (lv2 := [(0, .ref (ad 0)), (1, .int x), (2, .ref (ad 69))]) rfl ?_
  refine y_aload_n d_Lw_weld_0 rfl 2 rfl ?_
  refine y_iconst d_Lw_weld_1 (v := 0) (by decide) ?_
  refine y_aload_n d_Lw_weld_2 rfl 0 rfl ?_
  refine y_iload_n d_Lw_weld_3 rfl 1 rfl ?_
  refine yw_callVH (As := [.int x]) (rest := [.int 0, .ref (ad 69)]) (q0 := 0) rfl rfl ln_Lw_141 w_im_Ip_weld w_se_Ip_weld ok_Lw_weld_Ip_weld d_Lw_weld_4 (fun wA hA => K_Ip_weld ⟨_, (hI.gen (t2 := (mg t s)) (is := [0, 69]) (L2 := []) hA rfl ⟨kd_0.mpr rfl, kd_69.mpr rfl, trivial⟩ (by decide) (by decide) (fun _ h => nomatch h) (fun _ h => nomatch h) (fun _ _ _ => rfl) (fun h => h) rfl)⟩ x) rfl rfl (Nat.le_of_ble_eq_true rfl) (by omega) (by omega) (fun wA4 hA4 E wB4 hx => ?_) (fun wA4 hA4 v wB4 hx => ?_)
  · obtain ⟨h1, u2, hu, hI2⟩ := hx
    rcases List.mem_cons.mp (zriE h1) with rfl | g3
    · refine ⟨"java/lang/IndexOutOfBoundsException", [], [(0, 16, 22, 78), (0, 16, 25, 69)], (0, 16, 19, 19), rfl, (fun z hz => nomatch hz), by decide, by decide, lx_Lw_19, ce_19, fun qx => ?_⟩
      refine y_base (cs := []) (z_I.nil wB4) ?_
      refine y_astore_n (lv' := [(3, .ref qx), (0, .ref (ad 0)), (1, .int x), (2, .ref (ad 69))]) d_Lw_weld_19 rfl (by decide) rfl ?_
      refine y_iconst d_Lw_weld_20 (v := 1) (by decide) ?_
      refine y_iret d_Lw_weld_21 rfl rfl ?_
      exact fun w1 h1 => ⟨⟨_, rfl⟩, u2, hu, (z_I.same (z_I.nil _) h1).symm ▸ hI2⟩
    · rcases List.mem_cons.mp g3 with rfl | g2
      · refine ⟨"java/lang/UnsupportedOperationException", [(0, 16, 19, 19)], [(0, 16, 25, 69)], (0, 16, 22, 78), rfl, (fun z hz => by simp only [List.mem_cons, List.not_mem_nil, or_false] at hz; rcases hz with rfl; exact Or.inr ⟨by decide, _, lx_Lw_19, by decide⟩), by decide, by decide, lx_Lw_78, ce_78, fun qx => ?_⟩
        refine y_base (cs := []) (z_I.nil wB4) ?_
        refine y_astore_n (lv' := [(3, .ref qx), (0, .ref (ad 0)), (1, .int x), (2, .ref (ad 69))]) d_Lw_weld_22 rfl (by decide) rfl ?_
        refine y_iconst d_Lw_weld_23 (v := 2) (by decide) ?_
        refine y_iret d_Lw_weld_24 rfl rfl ?_
        exact fun w1 h1 => ⟨⟨_, rfl⟩, u2, hu, (z_I.same (z_I.nil _) h1).symm ▸ hI2⟩
      · obtain rfl := List.mem_singleton.mp g2
        refine ⟨"java/lang/IllegalStateException", [(0, 16, 19, 19), (0, 16, 22, 78)], [], (0, 16, 25, 69), rfl, (fun z hz => by simp only [List.mem_cons, List.not_mem_nil, or_false] at hz; rcases hz with rfl | rfl <;> first | exact Or.inr ⟨by decide, _, lx_Lw_19, by decide⟩ | exact Or.inr ⟨by decide, _, lx_Lw_78, by decide⟩), by decide, by decide, lx_Lw_69, ce_69, fun qx => ?_⟩
        refine y_base (cs := []) (z_I.nil wB4) ?_
        refine y_astore_n (lv' := [(3, .ref qx), (0, .ref (ad 0)), (1, .int x), (2, .ref (ad 69))]) d_Lw_weld_25 rfl (by decide) rfl ?_
        refine y_iconst d_Lw_weld_26 (v := 3) (by decide) ?_
        refine y_iret d_Lw_weld_27 rfl rfl ?_
        exact fun w1 h1 => ⟨⟨_, rfl⟩, u2, hu, (z_I.same (z_I.nil _) h1).symm ▸ hI2⟩
  · obtain ⟨h1, u2, hu, hI2⟩ := hx
    obtain ⟨v9, rfl⟩ := zriV h1
    refine yw_st (st2 := [.int v9, .int 0, .ref (ad 69)]) rfl ?_
    obtain ⟨s9, hI⟩ := hI2
    obtain ⟨e_o1, wf_o1, k_o1⟩ := hI.1.2 69 (by decide)
    obtain rfl := kd_69.mp k_o1
    refine y_base (cs := [((ad 69), .inl (3, 1, .inr (.inl (((mg (tK_Ip_weld x t u.1) s9).1 69).2.1))))]) (hI.1.I [69] _ rfl (by decide) (by decide) (List.forall_mem_cons.mpr ⟨wf_o1, (fun _ h => nomatch h)⟩)) ?_
    refine y_if_eq (tgt := 14) d_Lw_weld_7 (by decide) (fun c_7 => ?_) (fun c_7 => ?_)
    · refine y_lconst d_Lw_weld_14 (v := 0) (by decide) ?_
      refine y_last d_Lw_weld_15 (q0 := 0) rfl (fun q => q.elim (by decide) (by decide)) (f' := vp_updL (((mg (tK_Ip_weld x t u.1) s9).1 69).2.1) 0 0) rfl (cs' := [((ad 69), .inl (3, 1, .inr (.inl (vp_updL (((mg (tK_Ip_weld x t u.1) s9).1 69).2.1) 0 0))))]) rfl ?_
      refine y_goto (tgt := 28) d_Lw_weld_16 (by decide) ?_
      refine y_iconst d_Lw_weld_28 (v := 0) (by decide) ?_
      refine y_iret d_Lw_weld_29 rfl rfl ?_
      exact fun w1 h1 => ⟨⟨_, rfl⟩, u2, hu, IVm.tz ((hI.gen (t2 := (zup (mg (tK_Ip_weld x t u.1) s9).1 [(69, (((mg (tK_Ip_weld x t u.1) s9).1 69).1, vp_updL (((mg (tK_Ip_weld x t u.1) s9).1 69).2.1) 0 0, ((mg (tK_Ip_weld x t u.1) s9).1 69).2.2))], (mg (tK_Ip_weld x t u.1) s9).2)) (is := [69]) (L2 := []) h1 rfl ⟨kd_69.mpr rfl, trivial⟩ (by decide) (by decide) (fun _ h => nomatch h) (fun _ h => nomatch h) (fun i hi hn => zup_out (fun q => hn ((by decide : ∀ j ∈ ([69] : List Nat), j ∈ ([69] : List Nat)) i q))) (fun h => h) rfl)) (tx_all rfl)⟩
    · refine y_lconst d_Lw_weld_10 (v := 1) (by decide) ?_
      refine y_goto (tgt := 15) d_Lw_weld_11 (by decide) ?_
      refine y_last d_Lw_weld_15 (q0 := 0) rfl (fun q => q.elim (by decide) (by decide)) (f' := vp_updL (((mg (tK_Ip_weld x t u.1) s9).1 69).2.1) 0 1) rfl (cs' := [((ad 69), .inl (3, 1, .inr (.inl (vp_updL (((mg (tK_Ip_weld x t u.1) s9).1 69).2.1) 0 1))))]) rfl ?_
      refine y_goto (tgt := 28) d_Lw_weld_16 (by decide) ?_
      refine y_iconst d_Lw_weld_28 (v := 0) (by decide) ?_
      refine y_iret d_Lw_weld_29 rfl rfl ?_
      exact fun w1 h1 => ⟨⟨_, rfl⟩, u2, hu, IVm.tz ((hI.gen (t2 := (zup (mg (tK_Ip_weld x t u.1) s9).1 [(69, (((mg (tK_Ip_weld x t u.1) s9).1 69).1, vp_updL (((mg (tK_Ip_weld x t u.1) s9).1 69).2.1) 0 1, ((mg (tK_Ip_weld x t u.1) s9).1 69).2.2))], (mg (tK_Ip_weld x t u.1) s9).2)) (is := [69]) (L2 := []) h1 rfl ⟨kd_69.mpr rfl, trivial⟩ (by decide) (by decide) (fun _ h => nomatch h) (fun _ h => nomatch h) (fun i hi hn => zup_out (fun q => hn ((by decide : ∀ j ∈ ([69] : List Nat), j ∈ ([69] : List Nat)) i q))) (fun h => h) rfl)) (tx_all rfl)⟩
abbrev M_Lw_deliver : zM := (⟨"IronpourLaw", "deliver", "(LIronpour;I[J)I"⟩, method_40_code, 4, (Option.some FieldType.int), 8, 143, [((0 : Nat), (16 : Nat), (19 : Nat), (19 : Nat)), ((0 : Nat), (16 : Nat), (22 : Nat), (69 : Nat))])
theorem d_Lw_deliver_0 : decode method_40_code 0 = .ok (.aload_n 2, 1) := zo_44 (zd_b zq_method_40_code_0 0 rfl rfl rfl)
theorem d_Lw_deliver_1 : decode method_40_code 1 = .ok (.iconst 0, 1) := zo_3 (zd_b zq_method_40_code_0 1 rfl rfl rfl)
theorem d_Lw_deliver_2 : decode method_40_code 2 = .ok (.aload_n 0, 1) := zo_42 (zd_b zq_method_40_code_0 2 rfl rfl rfl)
theorem d_Lw_deliver_3 : decode method_40_code 3 = .ok (.iload_n 1, 1) := zo_27 (zd_b zq_method_40_code_0 3 rfl rfl rfl)
theorem d_Lw_deliver_4 : decode method_40_code 4 = .ok (.invokevirtual 145, 3) := zo_182 (d := 0) (e := 145) (zd_b zq_method_40_code_0 4 rfl rfl rfl) (zd_b zq_method_40_code_0 5 rfl rfl rfl) (zd_b zq_method_40_code_0 6 rfl rfl rfl)
theorem ok_Lw_deliver_Ip_deliver : z_okH M_Lw_deliver M_Ip_deliver 1 := ⟨z_mj7 (i := 17) rfl (by decide +kernel), rfl, ⟨by decide +kernel, by decide +kernel, by decide +kernel⟩, ⟨by decide, by decide⟩, z_mj1 (i := 1) rfl (by decide +kernel)⟩
theorem ln_Lw_145 : Cond.methodLink "IronpourLaw" 145 M_Ip_deliver.1 ∈ z_gw := z_mj7 (i := 14) rfl (by decide +kernel)
theorem w_im_Ip_deliver : Cond.instanceMethod M_Ip_deliver.1 ∈ z_gw := z_mj7 (i := 15) rfl (by decide +kernel)
theorem w_se_Ip_deliver : Cond.selects M_Ip_deliver.1.cls M_Ip_deliver.1 M_Ip_deliver.1 ∈ z_gw := z_mj7 (i := 16) rfl (by decide +kernel)
theorem d_Lw_deliver_19 : decode method_40_code 19 = .ok (.astore_n 3, 1) := zo_78 (zd_b zq_method_40_code_0 19 rfl rfl rfl)
theorem d_Lw_deliver_20 : decode method_40_code 20 = .ok (.iconst 1, 1) := zo_4 (zd_b zq_method_40_code_0 20 rfl rfl rfl)
theorem d_Lw_deliver_21 : decode method_40_code 21 = .ok (.ireturn, 1) := zo_172 (zd_b zq_method_40_code_0 21 rfl rfl rfl)
theorem d_Lw_deliver_22 : decode method_40_code 22 = .ok (.astore_n 3, 1) := zo_78 (zd_b zq_method_40_code_0 22 rfl rfl rfl)
theorem d_Lw_deliver_23 : decode method_40_code 23 = .ok (.iconst 2, 1) := zo_5 (zd_b zq_method_40_code_0 23 rfl rfl rfl)
theorem d_Lw_deliver_24 : decode method_40_code 24 = .ok (.ireturn, 1) := zo_172 (zd_b zq_method_40_code_0 24 rfl rfl rfl)
theorem d_Lw_deliver_7 : decode method_40_code 7 = .ok (.ifCond .eq 7, 3) := zo_153 (d := 0) (e := 7) (zd_b zq_method_40_code_0 7 rfl rfl rfl) (zd_b zq_method_40_code_0 8 rfl rfl rfl) (zd_b zq_method_40_code_0 9 rfl rfl rfl) (by decide +kernel)
theorem d_Lw_deliver_14 : decode method_40_code 14 = .ok (.lconst 0, 1) := zo_9 (zd_b zq_method_40_code_0 14 rfl rfl rfl)
theorem d_Lw_deliver_15 : decode method_40_code 15 = .ok (.lastore, 1) := zo_80 (zd_b zq_method_40_code_0 15 rfl rfl rfl)
theorem d_Lw_deliver_16 : decode method_40_code 16 = .ok (.goto 9, 3) := zo_167 (d := 0) (e := 9) (zd_b zq_method_40_code_0 16 rfl rfl rfl) (zd_b zq_method_40_code_0 17 rfl rfl rfl) (zd_b zq_method_40_code_0 18 rfl rfl rfl) (by decide +kernel)
theorem d_Lw_deliver_25 : decode method_40_code 25 = .ok (.iconst 0, 1) := zo_3 (zd_b zq_method_40_code_0 25 rfl rfl rfl)
theorem d_Lw_deliver_26 : decode method_40_code 26 = .ok (.ireturn, 1) := zo_172 (zd_b zq_method_40_code_0 26 rfl rfl rfl)
theorem d_Lw_deliver_10 : decode method_40_code 10 = .ok (.lconst 1, 1) := zo_10 (zd_b zq_method_40_code_0 10 rfl rfl rfl)
theorem d_Lw_deliver_11 : decode method_40_code 11 = .ok (.goto 4, 3) := zo_167 (d := 0) (e := 4) (zd_b zq_method_40_code_0 11 rfl rfl rfl) (zd_b zq_method_40_code_0 12 rfl rfl rfl) (zd_b zq_method_40_code_0 13 rfl rfl rfl) (by decide +kernel)
set_option maxHeartbeats 4000000 in
set_option maxRecDepth 100000 in
theorem W_deliver {g : zG} {ad : Nat → Nat} {t : zTT} {u : zNN} {w : zW} (hI : IVm g ad t u w) (x : Int32) : zMB g M_Lw_deliver [.ref (ad 0), .int x, .ref (ad 69)] w (fun o w1 => MKx g ad (tK_Ip_deliver x t u.1) u.1 o w1) 10 300 := by
  obtain ⟨s, hI⟩ := hI
  obtain ⟨e_a, wf_a, k_a⟩ := hI.1.2 0 (by decide)
  obtain rfl := kd_0.mp k_a
  obtain ⟨e_o1, wf_o1, k_o1⟩ := hI.1.2 69 (by decide)
  obtain rfl := kd_69.mp k_o1
  refine y_ofH (by decide) (by decide) (Nat.le_of_ble_eq_true rfl) (y_base (cs := [((ad 0), .inr (11, [.ref (ad 1), .ref (ad 5), .ref (ad 18), .ref (ad 31), .ref (ad 32), .ref (ad 36), .ref (ad 42), .ref (ad 45), .ref (ad 47), .ref (ad 49), .ref (ad 50), .ref (ad 51)])), ((ad 69), .inl (3, 1, .inr (.inl (((mg t s).1 69).2.1))))]) (hI.1.I [0, 69] _ rfl (by decide) (by decide) (List.forall_mem_cons.mpr ⟨wf_a, (List.forall_mem_cons.mpr ⟨wf_o1, (fun _ h => nomatch h)⟩)⟩)) ?_)
  refine y_lvE (lv2 := [(0, .ref (ad 0)), (1, .int x), (2, .ref (ad 69))]) rfl ?_
  refine y_aload_n d_Lw_deliver_0 rfl 2 rfl ?_
  refine y_iconst d_Lw_deliver_1 (v := 0) (by decide) ?_
  refine y_aload_n d_Lw_deliver_2 rfl 0 rfl ?_
  refine y_iload_n d_Lw_deliver_3 rfl 1 rfl ?_
  refine yw_callVH (As := [.int x]) (rest := [.int 0, .ref (ad 69)]) (q0 := 0) rfl rfl ln_Lw_145 w_im_Ip_deliver w_se_Ip_deliver ok_Lw_deliver_Ip_deliver d_Lw_deliver_4 (fun wA hA => K_Ip_deliver ⟨_, (hI.gen (t2 := (mg t s)) (is := [0, 69]) (L2 := []) hA rfl ⟨kd_0.mpr rfl, kd_69.mpr rfl, trivial⟩ (by decide) (by decide) (fun _ h => nomatch h) (fun _ h => nomatch h) (fun _ _ _ => rfl) (fun h => h) rfl)⟩ x) rfl rfl (Nat.le_of_ble_eq_true rfl) (by omega) (by omega) (fun wA4 hA4 E wB4 hx => ?_) (fun wA4 hA4 v wB4 hx => ?_)
  · obtain ⟨h1, u2, hu, hI2⟩ := hx
    rcases List.mem_cons.mp (zriE h1) with rfl | g2
    · refine ⟨"java/lang/IndexOutOfBoundsException", [], [(0, 16, 22, 69)], (0, 16, 19, 19), rfl, (fun z hz => nomatch hz), by decide, by decide, lx_Lw_19, ce_19, fun qx => ?_⟩
      refine y_base (cs := []) (z_I.nil wB4) ?_
      refine y_astore_n (lv' := [(3, .ref qx), (0, .ref (ad 0)), (1, .int x), (2, .ref (ad 69))]) d_Lw_deliver_19 rfl (by decide) rfl ?_
      refine y_iconst d_Lw_deliver_20 (v := 1) (by decide) ?_
      refine y_iret d_Lw_deliver_21 rfl rfl ?_
      exact fun w1 h1 => ⟨⟨_, rfl⟩, u2, hu, (z_I.same (z_I.nil _) h1).symm ▸ hI2⟩
    · obtain rfl := List.mem_singleton.mp g2
      refine ⟨"java/lang/IllegalStateException", [(0, 16, 19, 19)], [], (0, 16, 22, 69), rfl, (fun z hz => by simp only [List.mem_cons, List.not_mem_nil, or_false] at hz; rcases hz with rfl; exact Or.inr ⟨by decide, _, lx_Lw_19, by decide⟩), by decide, by decide, lx_Lw_69, ce_69, fun qx => ?_⟩
      refine y_base (cs := []) (z_I.nil wB4) ?_
      refine y_astore_n (lv' := [(3, .ref qx), (0, .ref (ad 0)), (1, .int x), (2, .ref (ad 69))]) d_Lw_deliver_22 rfl (by decide) rfl ?_
      refine y_iconst d_Lw_deliver_23 (v := 2) (by decide) ?_
      refine y_iret d_Lw_deliver_24 rfl rfl ?_
      exact fun w1 h1 => ⟨⟨_, rfl⟩, u2, hu, (z_I.same (z_I.nil _) h1).symm ▸ hI2⟩
  · obtain ⟨h1, u2, hu, hI2⟩ := hx
    obtain ⟨v9, rfl⟩ := zriV h1
    refine yw_st (st2 := [.int v9, .int 0, .ref (ad 69)]) rfl ?_
    obtain ⟨s9, hI⟩ := hI2
    obtain ⟨e_o1, wf_o1, k_o1⟩ := hI.1.2 69 (by decide)
    obtain rfl := kd_69.mp k_o1
    refine y_base (cs := [((ad 69), .inl (3, 1, .inr (.inl (((mg (tK_Ip_deliver x t u.1) s9).1 69).2.1))))]) (hI.1.I [69] _ rfl (by decide) (by decide) (List.forall_mem_cons.mpr ⟨wf_o1, (fun _ h => nomatch h)⟩)) ?_
    refine y_if_eq (tgt := 14) d_Lw_deliver_7 (by decide) (fun c_7 => ?_) (fun c_7 => ?_)
    · refine y_lconst d_Lw_deliver_14 (v := 0) (by decide) ?_
      refine y_last d_Lw_deliver_15 (q0 := 0) rfl (fun q => q.elim (by decide) (by decide)) (f' := vp_updL (((mg (tK_Ip_deliver x t u.1) s9).1 69).2.1) 0 0) rfl (cs' := [((ad 69), .inl (3, 1, .inr (.inl (vp_updL (((mg (tK_Ip_deliver x t u.1) s9).1 69).2.1) 0 0))))]) rfl ?_
      refine y_goto (tgt := 25) d_Lw_deliver_16 (by decide) ?_
      refine y_iconst d_Lw_deliver_25 (v := 0) (by decide) ?_
      refine y_iret d_Lw_deliver_26 rfl rfl ?_
      exact fun w1 h1 => ⟨⟨_, rfl⟩, u2, hu, IVm.tz ((hI.gen (t2 := (zup (mg (tK_Ip_deliver x t u.1) s9).1 [(69, (((mg (tK_Ip_deliver x t u.1) s9).1 69).1, vp_updL (((mg (tK_Ip_deliver x t u.1) s9).1 69).2.1) 0 0, ((mg (tK_Ip_deliver x t u.1) s9).1 69).2.2))], (mg (tK_Ip_deliver x t u.1) s9).2)) (is := [69]) (L2 := []) h1 rfl ⟨kd_69.mpr rfl, trivial⟩ (by decide) (by decide) (fun _ h => nomatch h) (fun _ h => nomatch h) (fun i hi hn => zup_out (fun q => hn ((by decide : ∀ j ∈ ([69] : List Nat), j ∈ ([69] : List Nat)) i q))) (fun h => h) rfl)) (tx_all rfl)⟩
    · refine y_lconst d_Lw_deliver_10 (v := 1) (by decide) ?_
      refine y_goto (tgt := 15) d_Lw_deliver_11 (by decide) ?_
      refine y_last d_Lw_deliver_15 (q0 := 0) rfl (fun q => q.elim (by decide) (by decide)) (f' := vp_updL (((mg (tK_Ip_deliver x t u.1) s9).1 69).2.1) 0 1) rfl (cs' := [((ad 69), .inl (3, 1, .inr (.inl (vp_updL (((mg (tK_Ip_deliver x t u.1) s9).1 69).2.1) 0 1))))]) rfl ?_
      refine y_goto (tgt := 25) d_Lw_deliver_16 (by decide) ?_
      refine y_iconst d_Lw_deliver_25 (v := 0) (by decide) ?_
      refine y_iret d_Lw_deliver_26 rfl rfl ?_
      exact fun w1 h1 => ⟨⟨_, rfl⟩, u2, hu, IVm.tz ((hI.gen (t2 := (zup (mg (tK_Ip_deliver x t u.1) s9).1 [(69, (((mg (tK_Ip_deliver x t u.1) s9).1 69).1, vp_updL (((mg (tK_Ip_deliver x t u.1) s9).1 69).2.1) 0 1, ((mg (tK_Ip_deliver x t u.1) s9).1 69).2.2))], (mg (tK_Ip_deliver x t u.1) s9).2)) (is := [69]) (L2 := []) h1 rfl ⟨kd_69.mpr rfl, trivial⟩ (by decide) (by decide) (fun _ h => nomatch h) (fun _ h => nomatch h) (fun i hi hn => zup_out (fun q => hn ((by decide : ∀ j ∈ ([69] : List Nat), j ∈ ([69] : List Nat)) i q))) (fun h => h) rfl)) (tx_all rfl)⟩
abbrev M_Lw_breakUp : zM := (⟨"IronpourLaw", "breakUp", "(LIronpour;I[J)I"⟩, method_41_code, 4, (Option.some FieldType.int), 8, 144, [((0 : Nat), (9 : Nat), (12 : Nat), (19 : Nat)), ((0 : Nat), (9 : Nat), (15 : Nat), (69 : Nat))])
theorem d_Lw_breakUp_0 : decode method_41_code 0 = .ok (.aload_n 2, 1) := zo_44 (zd_b zq_method_41_code_0 0 rfl rfl rfl)
theorem d_Lw_breakUp_1 : decode method_41_code 1 = .ok (.iconst 0, 1) := zo_3 (zd_b zq_method_41_code_0 1 rfl rfl rfl)
theorem d_Lw_breakUp_2 : decode method_41_code 2 = .ok (.aload_n 0, 1) := zo_42 (zd_b zq_method_41_code_0 2 rfl rfl rfl)
theorem d_Lw_breakUp_3 : decode method_41_code 3 = .ok (.iload_n 1, 1) := zo_27 (zd_b zq_method_41_code_0 3 rfl rfl rfl)
theorem d_Lw_breakUp_4 : decode method_41_code 4 = .ok (.invokevirtual 148, 3) := zo_182 (d := 0) (e := 148) (zd_b zq_method_41_code_0 4 rfl rfl rfl) (zd_b zq_method_41_code_0 5 rfl rfl rfl) (zd_b zq_method_41_code_0 6 rfl rfl rfl)
theorem ok_Lw_breakUp_Ip_breakUp : z_okH M_Lw_breakUp M_Ip_breakUp 1 := ⟨z_mj7 (i := 24) rfl (by decide +kernel), rfl, ⟨by decide +kernel, by decide +kernel, by decide +kernel⟩, ⟨by decide, by decide⟩, z_mj1 (i := 1) rfl (by decide +kernel)⟩
theorem ln_Lw_148 : Cond.methodLink "IronpourLaw" 148 M_Ip_breakUp.1 ∈ z_gw := z_mj7 (i := 21) rfl (by decide +kernel)
theorem w_im_Ip_breakUp : Cond.instanceMethod M_Ip_breakUp.1 ∈ z_gw := z_mj7 (i := 22) rfl (by decide +kernel)
theorem w_se_Ip_breakUp : Cond.selects M_Ip_breakUp.1.cls M_Ip_breakUp.1 M_Ip_breakUp.1 ∈ z_gw := z_mj7 (i := 23) rfl (by decide +kernel)
theorem d_Lw_breakUp_12 : decode method_41_code 12 = .ok (.astore_n 3, 1) := zo_78 (zd_b zq_method_41_code_0 12 rfl rfl rfl)
theorem d_Lw_breakUp_13 : decode method_41_code 13 = .ok (.iconst 1, 1) := zo_4 (zd_b zq_method_41_code_0 13 rfl rfl rfl)
theorem d_Lw_breakUp_14 : decode method_41_code 14 = .ok (.ireturn, 1) := zo_172 (zd_b zq_method_41_code_0 14 rfl rfl rfl)
theorem d_Lw_breakUp_15 : decode method_41_code 15 = .ok (.astore_n 3, 1) := zo_78 (zd_b zq_method_41_code_0 15 rfl rfl rfl)
theorem d_Lw_breakUp_16 : decode method_41_code 16 = .ok (.iconst 2, 1) := zo_5 (zd_b zq_method_41_code_0 16 rfl rfl rfl)
theorem d_Lw_breakUp_17 : decode method_41_code 17 = .ok (.ireturn, 1) := zo_172 (zd_b zq_method_41_code_0 17 rfl rfl rfl)
theorem d_Lw_breakUp_7 : decode method_41_code 7 = .ok (.i2l, 1) := zo_133 (zd_b zq_method_41_code_0 7 rfl rfl rfl)
theorem d_Lw_breakUp_8 : decode method_41_code 8 = .ok (.lastore, 1) := zo_80 (zd_b zq_method_41_code_0 8 rfl rfl rfl)
theorem d_Lw_breakUp_9 : decode method_41_code 9 = .ok (.goto 9, 3) := zo_167 (d := 0) (e := 9) (zd_b zq_method_41_code_0 9 rfl rfl rfl) (zd_b zq_method_41_code_0 10 rfl rfl rfl) (zd_b zq_method_41_code_0 11 rfl rfl rfl) (by decide +kernel)
theorem d_Lw_breakUp_18 : decode method_41_code 18 = .ok (.iconst 0, 1) := zo_3 (zd_b zq_method_41_code_0 18 rfl rfl rfl)
theorem d_Lw_breakUp_19 : decode method_41_code 19 = .ok (.ireturn, 1) := zo_172 (zd_b zq_method_41_code_0 19 rfl rfl rfl)
set_option maxHeartbeats 4000000 in
set_option maxRecDepth 100000 in
theorem W_breakUp {g : zG} {ad : Nat → Nat} {t : zTT} {u : zNN} {w : zW} (hI : IVm g ad t u w) (x : Int32) : zMB g M_Lw_breakUp [.ref (ad 0), .int x, .ref (ad 69)] w (fun o w1 => MKx g ad (tK_Ip_breakUp x t u.1) u.1 o w1) 10 300 := by
  obtain ⟨s, hI⟩ := hI
  obtain ⟨e_a, wf_a, k_a⟩ := hI.1.2 0 (by decide)
  obtain rfl := kd_0.mp k_a
  obtain ⟨e_o1, wf_o1, k_o1⟩ := hI.1.2 69 (by decide)
  obtain rfl := kd_69.mp k_o1
  refine y_ofH (by decide) (by decide) (Nat.le_of_ble_eq_true rfl) (y_base (cs := [((ad 0), .inr (11, [.ref (ad 1), .ref (ad 5), .ref (ad 18), .ref (ad 31), .ref (ad 32), .ref (ad 36), .ref (ad 42), .ref (ad 45), .ref (ad 47), .ref (ad 49), .ref (ad 50), .ref (ad 51)])), ((ad 69), .inl (3, 1, .inr (.inl (((mg t s).1 69).2.1))))]) (hI.1.I [0, 69] _ rfl (by decide) (by decide) (List.forall_mem_cons.mpr ⟨wf_a, (List.forall_mem_cons.mpr ⟨wf_o1, (fun _ h => nomatch h)⟩)⟩)) ?_)
  refine y_lvE (lv2 := [(0, .ref (ad 0)), (1, .int x), (2, .ref (ad 69))]) rfl ?_
  refine y_aload_n d_Lw_breakUp_0 rfl 2 rfl ?_
  refine y_iconst d_Lw_breakUp_1 (v := 0) (by decide) ?_
  refine y_aload_n d_Lw_breakUp_2 rfl 0 rfl ?_
  refine y_iload_n d_Lw_breakUp_3 rfl 1 rfl ?_
  refine yw_callVH (As := [.int x]) (rest := [.int 0, .ref (ad 69)]) (q0 := 0) rfl rfl ln_Lw_148 w_im_Ip_breakUp w_se_Ip_breakUp ok_Lw_breakUp_Ip_breakUp d_Lw_breakUp_4 (fun wA hA => K_Ip_breakUp ⟨_, (hI.gen (t2 := (mg t s)) (is := [0, 69]) (L2 := []) hA rfl ⟨kd_0.mpr rfl, kd_69.mpr rfl, trivial⟩ (by decide) (by decide) (fun _ h => nomatch h) (fun _ h => nomatch h) (fun _ _ _ => rfl) (fun h => h) rfl)⟩ x) rfl rfl (Nat.le_of_ble_eq_true rfl) (by omega) (by omega) (fun wA4 hA4 E wB4 hx => ?_) (fun wA4 hA4 v wB4 hx => ?_)
  · obtain ⟨h1, u2, hu, hI2⟩ := hx
    rcases List.mem_cons.mp (zriE h1) with rfl | g2
    · refine ⟨"java/lang/IndexOutOfBoundsException", [], [(0, 9, 15, 69)], (0, 9, 12, 19), rfl, (fun z hz => nomatch hz), by decide, by decide, lx_Lw_19, ce_19, fun qx => ?_⟩
      refine y_base (cs := []) (z_I.nil wB4) ?_
      refine y_astore_n (lv' := [(3, .ref qx), (0, .ref (ad 0)), (1, .int x), (2, .ref (ad 69))]) d_Lw_breakUp_12 rfl (by decide) rfl ?_
      refine y_iconst d_Lw_breakUp_13 (v := 1) (by decide) ?_
      refine y_iret d_Lw_breakUp_14 rfl rfl ?_
      exact fun w1 h1 => ⟨⟨_, rfl⟩, u2, hu, (z_I.same (z_I.nil _) h1).symm ▸ hI2⟩
    · obtain rfl := List.mem_singleton.mp g2
      refine ⟨"java/lang/IllegalStateException", [(0, 9, 12, 19)], [], (0, 9, 15, 69), rfl, (fun z hz => by simp only [List.mem_cons, List.not_mem_nil, or_false] at hz; rcases hz with rfl; exact Or.inr ⟨by decide, _, lx_Lw_19, by decide⟩), by decide, by decide, lx_Lw_69, ce_69, fun qx => ?_⟩
      refine y_base (cs := []) (z_I.nil wB4) ?_
      refine y_astore_n (lv' := [(3, .ref qx), (0, .ref (ad 0)), (1, .int x), (2, .ref (ad 69))]) d_Lw_breakUp_15 rfl (by decide) rfl ?_
      refine y_iconst d_Lw_breakUp_16 (v := 2) (by decide) ?_
      refine y_iret d_Lw_breakUp_17 rfl rfl ?_
      exact fun w1 h1 => ⟨⟨_, rfl⟩, u2, hu, (z_I.same (z_I.nil _) h1).symm ▸ hI2⟩
  · obtain ⟨h1, u2, hu, hI2⟩ := hx
    obtain ⟨v9, rfl⟩ := zriV h1
    refine yw_st (st2 := [.int v9, .int 0, .ref (ad 69)]) rfl ?_
    obtain ⟨s9, hI⟩ := hI2
    obtain ⟨e_o1, wf_o1, k_o1⟩ := hI.1.2 69 (by decide)
    obtain rfl := kd_69.mp k_o1
    refine y_base (cs := [((ad 69), .inl (3, 1, .inr (.inl (((mg (tK_Ip_breakUp x t u.1) s9).1 69).2.1))))]) (hI.1.I [69] _ rfl (by decide) (by decide) (List.forall_mem_cons.mpr ⟨wf_o1, (fun _ h => nomatch h)⟩)) ?_
    refine y_i2l d_Lw_breakUp_7 (v := v9.toInt64) rfl ?_
    refine y_last d_Lw_breakUp_8 (q0 := 0) rfl (fun q => q.elim (by decide) (by decide)) (f' := vp_updL (((mg (tK_Ip_breakUp x t u.1) s9).1 69).2.1) 0 v9.toInt64) rfl (cs' := [((ad 69), .inl (3, 1, .inr (.inl (vp_updL (((mg (tK_Ip_breakUp x t u.1) s9).1 69).2.1) 0 v9.toInt64))))]) rfl ?_
    refine y_goto (tgt := 18) d_Lw_breakUp_9 (by decide) ?_
    refine y_iconst d_Lw_breakUp_18 (v := 0) (by decide) ?_
    refine y_iret d_Lw_breakUp_19 rfl rfl ?_
    exact fun w1 h1 => ⟨⟨_, rfl⟩, u2, hu, IVm.tz ((hI.gen (t2 := (zup (mg (tK_Ip_breakUp x t u.1) s9).1 [(69, (((mg (tK_Ip_breakUp x t u.1) s9).1 69).1, vp_updL (((mg (tK_Ip_breakUp x t u.1) s9).1 69).2.1) 0 v9.toInt64, ((mg (tK_Ip_breakUp x t u.1) s9).1 69).2.2))], (mg (tK_Ip_breakUp x t u.1) s9).2)) (is := [69]) (L2 := []) h1 rfl ⟨kd_69.mpr rfl, trivial⟩ (by decide) (by decide) (fun _ h => nomatch h) (fun _ h => nomatch h) (fun i hi hn => zup_out (fun q => hn ((by decide : ∀ j ∈ ([69] : List Nat), j ∈ ([69] : List Nat)) i q))) (fun h => h) rfl)) (tx_all rfl)⟩
abbrev M_Lw_worst : zM := (⟨"IronpourLaw", "worst", "(LIronpour;[J)I"⟩, method_42_code, 3, (Option.some FieldType.int), 7, 132, [((0 : Nat), (8 : Nat), (11 : Nat), (33 : Nat))])
theorem d_Lw_worst_0 : decode method_42_code 0 = .ok (.aload_n 1, 1) := zo_43 (zd_b zq_method_42_code_0 0 rfl rfl rfl)
theorem d_Lw_worst_1 : decode method_42_code 1 = .ok (.iconst 0, 1) := zo_3 (zd_b zq_method_42_code_0 1 rfl rfl rfl)
theorem d_Lw_worst_2 : decode method_42_code 2 = .ok (.aload_n 0, 1) := zo_42 (zd_b zq_method_42_code_0 2 rfl rfl rfl)
theorem d_Lw_worst_3 : decode method_42_code 3 = .ok (.invokevirtual 151, 3) := zo_182 (d := 0) (e := 151) (zd_b zq_method_42_code_0 3 rfl rfl rfl) (zd_b zq_method_42_code_0 4 rfl rfl rfl) (zd_b zq_method_42_code_0 5 rfl rfl rfl)
theorem ok_Lw_worst_Ip_worst : z_okH M_Lw_worst M_Ip_worst 0 := ⟨z_mj7 (i := 35) rfl (by decide +kernel), rfl, ⟨by decide +kernel, by decide +kernel, by decide +kernel⟩, ⟨by decide, by decide⟩, z_mj1 (i := 1) rfl (by decide +kernel)⟩
theorem ln_Lw_151 : Cond.methodLink "IronpourLaw" 151 M_Ip_worst.1 ∈ z_gw := z_mj7 (i := 32) rfl (by decide +kernel)
theorem w_im_Ip_worst : Cond.instanceMethod M_Ip_worst.1 ∈ z_gw := z_mj7 (i := 33) rfl (by decide +kernel)
theorem w_se_Ip_worst : Cond.selects M_Ip_worst.1.cls M_Ip_worst.1 M_Ip_worst.1 ∈ z_gw := z_mj7 (i := 34) rfl (by decide +kernel)
theorem d_Lw_worst_11 : decode method_42_code 11 = .ok (.astore_n 2, 1) := zo_77 (zd_b zq_method_42_code_0 11 rfl rfl rfl)
theorem d_Lw_worst_12 : decode method_42_code 12 = .ok (.iconst 1, 1) := zo_4 (zd_b zq_method_42_code_0 12 rfl rfl rfl)
theorem d_Lw_worst_13 : decode method_42_code 13 = .ok (.ireturn, 1) := zo_172 (zd_b zq_method_42_code_0 13 rfl rfl rfl)
theorem d_Lw_worst_6 : decode method_42_code 6 = .ok (.i2l, 1) := zo_133 (zd_b zq_method_42_code_0 6 rfl rfl rfl)
theorem d_Lw_worst_7 : decode method_42_code 7 = .ok (.lastore, 1) := zo_80 (zd_b zq_method_42_code_0 7 rfl rfl rfl)
theorem d_Lw_worst_8 : decode method_42_code 8 = .ok (.goto 6, 3) := zo_167 (d := 0) (e := 6) (zd_b zq_method_42_code_0 8 rfl rfl rfl) (zd_b zq_method_42_code_0 9 rfl rfl rfl) (zd_b zq_method_42_code_0 10 rfl rfl rfl) (by decide +kernel)
theorem d_Lw_worst_14 : decode method_42_code 14 = .ok (.iconst 0, 1) := zo_3 (zd_b zq_method_42_code_0 14 rfl rfl rfl)
theorem d_Lw_worst_15 : decode method_42_code 15 = .ok (.ireturn, 1) := zo_172 (zd_b zq_method_42_code_0 15 rfl rfl rfl)
set_option maxHeartbeats 4000000 in
set_option maxRecDepth 100000 in
theorem W_worst {g : zG} {ad : Nat → Nat} {t : zTT} {u : zNN} {w : zW} (hI : IVm g ad t u w) : zMB g M_Lw_worst [.ref (ad 0), .ref (ad 69)] w (fun o w1 => MKx g ad t u.1 o w1) 10 300 := by
  obtain ⟨s, hI⟩ := hI
  obtain ⟨e_a, wf_a, k_a⟩ := hI.1.2 0 (by decide)
  obtain rfl := kd_0.mp k_a
  obtain ⟨e_o1, wf_o1, k_o1⟩ := hI.1.2 69 (by decide)
  obtain rfl := kd_69.mp k_o1
  refine y_ofH (by decide) (by decide) (Nat.le_of_ble_eq_true rfl) (y_base (cs := [((ad 0), .inr (11, [.ref (ad 1), .ref (ad 5), .ref (ad 18), .ref (ad 31), .ref (ad 32), .ref (ad 36), .ref (ad 42), .ref (ad 45), .ref (ad 47), .ref (ad 49), .ref (ad 50), .ref (ad 51)])), ((ad 69), .inl (3, 1, .inr (.inl (((mg t s).1 69).2.1))))]) (hI.1.I [0, 69] _ rfl (by decide) (by decide) (List.forall_mem_cons.mpr ⟨wf_a, (List.forall_mem_cons.mpr ⟨wf_o1, (fun _ h => nomatch h)⟩)⟩)) ?_)
  refine y_lvE (lv2 := [(0, .ref (ad 0)), (1, .ref (ad 69))]) rfl ?_
  refine y_aload_n d_Lw_worst_0 rfl 1 rfl ?_
  refine y_iconst d_Lw_worst_1 (v := 0) (by decide) ?_
  refine y_aload_n d_Lw_worst_2 rfl 0 rfl ?_
  refine yw_callVH (As := []) (rest := [.int 0, .ref (ad 69)]) (q0 := 0) rfl rfl ln_Lw_151 w_im_Ip_worst w_se_Ip_worst ok_Lw_worst_Ip_worst d_Lw_worst_3 (fun wA hA => K_Ip_worst ⟨_, (hI.gen (t2 := (mg t s)) (is := [0, 69]) (L2 := []) hA rfl ⟨kd_0.mpr rfl, kd_69.mpr rfl, trivial⟩ (by decide) (by decide) (fun _ h => nomatch h) (fun _ h => nomatch h) (fun _ _ _ => rfl) (fun h => h) rfl)⟩) rfl rfl (Nat.le_of_ble_eq_true rfl) (by omega) (by omega) (fun wA3 hA3 E wB3 hx => ?_) (fun wA3 hA3 v wB3 hx => ?_)
  · obtain ⟨h1, u2, hu, hI2⟩ := hx
    obtain rfl := List.mem_singleton.mp (zriE h1)
    refine ⟨"java/util/NoSuchElementException", [], [], (0, 8, 11, 33), rfl, (fun z hz => nomatch hz), by decide, by decide, lx_Lw_33, ce_33, fun qx => ?_⟩
    refine y_base (cs := []) (z_I.nil wB3) ?_
    refine y_astore_n (lv' := [(2, .ref qx), (0, .ref (ad 0)), (1, .ref (ad 69))]) d_Lw_worst_11 rfl (by decide) rfl ?_
    refine y_iconst d_Lw_worst_12 (v := 1) (by decide) ?_
    refine y_iret d_Lw_worst_13 rfl rfl ?_
    exact fun w1 h1 => ⟨⟨_, rfl⟩, u2, hu, (z_I.same (z_I.nil _) h1).symm ▸ hI2⟩
  · obtain ⟨h1, u2, hu, hI2⟩ := hx
    obtain ⟨v9, rfl⟩ := zriV h1
    refine yw_st (st2 := [.int v9, .int 0, .ref (ad 69)]) rfl ?_
    obtain ⟨s9, hI⟩ := hI2
    obtain ⟨e_o1, wf_o1, k_o1⟩ := hI.1.2 69 (by decide)
    obtain rfl := kd_69.mp k_o1
    refine y_base (cs := [((ad 69), .inl (3, 1, .inr (.inl (((mg t s9).1 69).2.1))))]) (hI.1.I [69] _ rfl (by decide) (by decide) (List.forall_mem_cons.mpr ⟨wf_o1, (fun _ h => nomatch h)⟩)) ?_
    refine y_i2l d_Lw_worst_6 (v := v9.toInt64) rfl ?_
    refine y_last d_Lw_worst_7 (q0 := 0) rfl (fun q => q.elim (by decide) (by decide)) (f' := vp_updL (((mg t s9).1 69).2.1) 0 v9.toInt64) rfl (cs' := [((ad 69), .inl (3, 1, .inr (.inl (vp_updL (((mg t s9).1 69).2.1) 0 v9.toInt64))))]) rfl ?_
    refine y_goto (tgt := 14) d_Lw_worst_8 (by decide) ?_
    refine y_iconst d_Lw_worst_14 (v := 0) (by decide) ?_
    refine y_iret d_Lw_worst_15 rfl rfl ?_
    exact fun w1 h1 => ⟨⟨_, rfl⟩, u2, hu, IVm.tz ((hI.gen (t2 := (zup (mg t s9).1 [(69, (((mg t s9).1 69).1, vp_updL (((mg t s9).1 69).2.1) 0 v9.toInt64, ((mg t s9).1 69).2.2))], (mg t s9).2)) (is := [69]) (L2 := []) h1 rfl ⟨kd_69.mpr rfl, trivial⟩ (by decide) (by decide) (fun _ h => nomatch h) (fun _ h => nomatch h) (fun i hi hn => zup_out (fun q => hn ((by decide : ∀ j ∈ ([69] : List Nat), j ∈ ([69] : List Nat)) i q))) (fun h => h) rfl)) (tx_all rfl)⟩
abbrev M_Lw_goodShare : zM := (⟨"IronpourLaw", "goodShare", "(LIronpour;[D)I"⟩, method_43_code, 3, (Option.some FieldType.int), 7, 131, [((0 : Nat), (8 : Nat), (11 : Nat), (159 : Nat))])
theorem d_Lw_goodShare_0 : decode method_43_code 0 = .ok (.aload_n 1, 1) := zo_43 (zd_b zq_method_43_code_0 0 rfl rfl rfl)
theorem d_Lw_goodShare_1 : decode method_43_code 1 = .ok (.iconst 0, 1) := zo_3 (zd_b zq_method_43_code_0 1 rfl rfl rfl)
theorem d_Lw_goodShare_2 : decode method_43_code 2 = .ok (.aload_n 0, 1) := zo_42 (zd_b zq_method_43_code_0 2 rfl rfl rfl)
theorem d_Lw_goodShare_3 : decode method_43_code 3 = .ok (.invokevirtual 155, 3) := zo_182 (d := 0) (e := 155) (zd_b zq_method_43_code_0 3 rfl rfl rfl) (zd_b zq_method_43_code_0 4 rfl rfl rfl) (zd_b zq_method_43_code_0 5 rfl rfl rfl)
theorem ok_Lw_goodShare_Ip_goodShare : z_okH M_Lw_goodShare M_Ip_goodShare 0 := ⟨z_mj7 (i := 62) rfl (by decide +kernel), rfl, ⟨by decide +kernel, by decide +kernel, by decide +kernel⟩, ⟨by decide, by decide⟩, z_mj1 (i := 1) rfl (by decide +kernel)⟩
theorem ln_Lw_155 : Cond.methodLink "IronpourLaw" 155 M_Ip_goodShare.1 ∈ z_gw := z_mj7 (i := 59) rfl (by decide +kernel)
theorem w_im_Ip_goodShare : Cond.instanceMethod M_Ip_goodShare.1 ∈ z_gw := z_mj7 (i := 60) rfl (by decide +kernel)
theorem w_se_Ip_goodShare : Cond.selects M_Ip_goodShare.1.cls M_Ip_goodShare.1 M_Ip_goodShare.1 ∈ z_gw := z_mj7 (i := 61) rfl (by decide +kernel)
theorem ce_159 : Cond.castable "java/lang/ArithmeticException" "java/lang/ArithmeticException" ∈ z_nw := z_mk7 (i := 57) rfl (by decide +kernel)
theorem lx_Lw_159 : Cond.classLink "IronpourLaw" 159 "java/lang/ArithmeticException" ∈ z_gw := z_mj7 (i := 45) rfl (by decide +kernel)
theorem d_Lw_goodShare_11 : decode method_43_code 11 = .ok (.astore_n 2, 1) := zo_77 (zd_b zq_method_43_code_0 11 rfl rfl rfl)
theorem d_Lw_goodShare_12 : decode method_43_code 12 = .ok (.iconst 1, 1) := zo_4 (zd_b zq_method_43_code_0 12 rfl rfl rfl)
theorem d_Lw_goodShare_13 : decode method_43_code 13 = .ok (.ireturn, 1) := zo_172 (zd_b zq_method_43_code_0 13 rfl rfl rfl)
theorem d_Lw_goodShare_6 : decode method_43_code 6 = .ok (.f2d, 1) := zo_141 (zd_b zq_method_43_code_0 6 rfl rfl rfl)
theorem d_Lw_goodShare_7 : decode method_43_code 7 = .ok (.dastore, 1) := zo_82 (zd_b zq_method_43_code_0 7 rfl rfl rfl)
theorem d_Lw_goodShare_8 : decode method_43_code 8 = .ok (.goto 6, 3) := zo_167 (d := 0) (e := 6) (zd_b zq_method_43_code_0 8 rfl rfl rfl) (zd_b zq_method_43_code_0 9 rfl rfl rfl) (zd_b zq_method_43_code_0 10 rfl rfl rfl) (by decide +kernel)
theorem d_Lw_goodShare_14 : decode method_43_code 14 = .ok (.iconst 0, 1) := zo_3 (zd_b zq_method_43_code_0 14 rfl rfl rfl)
theorem d_Lw_goodShare_15 : decode method_43_code 15 = .ok (.ireturn, 1) := zo_172 (zd_b zq_method_43_code_0 15 rfl rfl rfl)
set_option maxHeartbeats 4000000 in
set_option maxRecDepth 100000 in
theorem W_goodShare {g : zG} {ad : Nat → Nat} {t : zTT} {u : zNN} {w : zW} (hI : IVm g ad t u w) : zMB g M_Lw_goodShare [.ref (ad 0), .ref (ad 70)] w (fun o w1 => (∃ v : Int32, o = .inl (some (.int v))) ∧ IVm g ad t u w1) 10 300 := by
  obtain ⟨s, hI⟩ := hI
  obtain ⟨e_a, wf_a, k_a⟩ := hI.1.2 0 (by decide)
  obtain rfl := kd_0.mp k_a
  obtain ⟨e_o2, wf_o2, k_o2⟩ := hI.1.2 70 (by decide)
  obtain ⟨v_o2_f, rfl⟩ := kd_70.mp k_o2
  refine y_ofH (by decide) (by decide) (Nat.le_of_ble_eq_true rfl) (y_base (cs := [((ad 0), .inr (11, [.ref (ad 1), .ref (ad 5), .ref (ad 18), .ref (ad 31), .ref (ad 32), .ref (ad 36), .ref (ad 42), .ref (ad 45), .ref (ad 47), .ref (ad 49), .ref (ad 50), .ref (ad 51)])), ((ad 70), .inl (4, 1, .inr (.inr (.inr (.inl v_o2_f)))))]) (hI.1.I [0, 70] _ rfl (by decide) (by decide) (List.forall_mem_cons.mpr ⟨wf_a, (List.forall_mem_cons.mpr ⟨wf_o2, (fun _ h => nomatch h)⟩)⟩)) ?_)
  refine y_lvE (lv2 := [(0, .ref (ad 0)), (1, .ref (ad 70))]) rfl ?_
  refine y_aload_n d_Lw_goodShare_0 rfl 1 rfl ?_
  refine y_iconst d_Lw_goodShare_1 (v := 0) (by decide) ?_
  refine y_aload_n d_Lw_goodShare_2 rfl 0 rfl ?_
  refine yw_callVH (As := []) (rest := [.int 0, .ref (ad 70)]) (q0 := 0) rfl rfl ln_Lw_155 w_im_Ip_goodShare w_se_Ip_goodShare ok_Lw_goodShare_Ip_goodShare d_Lw_goodShare_3 (fun wA hA => Q_Ip_goodShare (hI.gen (t2 := (mg t s)) (is := [0, 70]) (L2 := []) hA rfl ⟨kd_0.mpr rfl, kd_70.mpr ⟨_, rfl⟩, trivial⟩ (by decide) (by decide) (fun _ h => nomatch h) (fun _ h => nomatch h) (fun _ _ _ => rfl) (fun h => h) rfl)) rfl rfl (Nat.le_of_ble_eq_true rfl) (by omega) (by omega) (fun wA3 hA3 E wB3 hx => ?_) (fun wA3 hA3 v wB3 hx => ?_)
  · obtain ⟨h1, hI2⟩ := hx
    obtain rfl : E = "java/lang/ArithmeticException" := by
      rcases h1 with ⟨v, e9, -⟩ | e9
      · cases e9
      · cases e9; rfl
    refine ⟨"java/lang/ArithmeticException", [], [], (0, 8, 11, 159), rfl, (fun z hz => nomatch hz), by decide, by decide, lx_Lw_159, ce_159, fun qx => ?_⟩
    refine y_base (cs := []) (z_I.nil wB3) ?_
    refine y_astore_n (lv' := [(2, .ref qx), (0, .ref (ad 0)), (1, .ref (ad 70))]) d_Lw_goodShare_11 rfl (by decide) rfl ?_
    refine y_iconst d_Lw_goodShare_12 (v := 1) (by decide) ?_
    refine y_iret d_Lw_goodShare_13 rfl rfl ?_
    exact fun w1 h1 => ⟨⟨_, rfl⟩, ⟨s, (z_I.same (z_I.nil _) h1).symm ▸ hI2⟩⟩
  · obtain ⟨h1, hI2⟩ := hx
    obtain ⟨v9, rfl, hn9⟩ : ∃ v9 : UInt32, v = some (.float v9) ∧ Jvm.FP.Core.fIsNaN v9 = false := by
      rcases h1 with ⟨v9, e9, h9⟩ | e9
      · cases e9; exact ⟨v9, rfl, h9⟩
      · cases e9
    refine yw_st (st2 := [.float v9, .int 0, .ref (ad 70)]) rfl ?_
    have hI := hI2
    obtain ⟨e_o2, wf_o2, k_o2⟩ := hI.1.2 70 (by decide)
    obtain ⟨v_o2_f, rfl⟩ := kd_70.mp k_o2
    refine y_base (cs := [((ad 70), .inl (4, 1, .inr (.inr (.inr (.inl v_o2_f)))))]) (hI.1.I [70] _ rfl (by decide) (by decide) (List.forall_mem_cons.mpr ⟨wf_o2, (fun _ h => nomatch h)⟩)) ?_
    refine y_f2d d_Lw_goodShare_6 (vf_f2d hn9) ?_
    refine y_dast d_Lw_goodShare_7 (q0 := 0) rfl (fun q => q.elim (by decide) (by decide)) (f' := vf_upd v_o2_f 0 (FP.f2d v9)) rfl (cs' := [((ad 70), .inl (4, 1, .inr (.inr (.inr (.inl (vf_upd v_o2_f 0 (FP.f2d v9)))))))]) rfl ?_
    refine y_goto (tgt := 14) d_Lw_goodShare_8 (by decide) ?_
    refine y_iconst d_Lw_goodShare_14 (v := 0) (by decide) ?_
    refine y_iret d_Lw_goodShare_15 rfl rfl ?_
    exact fun w1 h1 => ⟨⟨_, rfl⟩, ⟨_, (hI.gen (t2 := (mg t s)) (is := [70]) (L2 := []) h1 rfl ⟨kd_70.mpr ⟨_, rfl⟩, trivial⟩ (by decide) (by decide) (fun _ h => nomatch h) (fun _ h => nomatch h) (fun _ _ _ => rfl) (fun h => h) rfl)⟩⟩
abbrev M_Lw_meanBar : zM := (⟨"IronpourLaw", "meanBar", "(LIronpour;[D)I"⟩, method_44_code, 3, (Option.some FieldType.int), 7, 124, [((0 : Nat), (7 : Nat), (10 : Nat), (159 : Nat))])
theorem d_Lw_meanBar_0 : decode method_44_code 0 = .ok (.aload_n 1, 1) := zo_43 (zd_b zq_method_44_code_0 0 rfl rfl rfl)
theorem d_Lw_meanBar_1 : decode method_44_code 1 = .ok (.iconst 0, 1) := zo_3 (zd_b zq_method_44_code_0 1 rfl rfl rfl)
theorem d_Lw_meanBar_2 : decode method_44_code 2 = .ok (.aload_n 0, 1) := zo_42 (zd_b zq_method_44_code_0 2 rfl rfl rfl)
theorem d_Lw_meanBar_3 : decode method_44_code 3 = .ok (.invokevirtual 161, 3) := zo_182 (d := 0) (e := 161) (zd_b zq_method_44_code_0 3 rfl rfl rfl) (zd_b zq_method_44_code_0 4 rfl rfl rfl) (zd_b zq_method_44_code_0 5 rfl rfl rfl)
theorem ok_Lw_meanBar_Ip_meanBar : z_okH M_Lw_meanBar M_Ip_meanBar 0 := ⟨z_mj7 (i := 73) rfl (by decide +kernel), rfl, ⟨by decide +kernel, by decide +kernel, by decide +kernel⟩, ⟨by decide, by decide⟩, z_mj1 (i := 1) rfl (by decide +kernel)⟩
theorem ln_Lw_161 : Cond.methodLink "IronpourLaw" 161 M_Ip_meanBar.1 ∈ z_gw := z_mj7 (i := 70) rfl (by decide +kernel)
theorem w_im_Ip_meanBar : Cond.instanceMethod M_Ip_meanBar.1 ∈ z_gw := z_mj7 (i := 71) rfl (by decide +kernel)
theorem w_se_Ip_meanBar : Cond.selects M_Ip_meanBar.1.cls M_Ip_meanBar.1 M_Ip_meanBar.1 ∈ z_gw := z_mj7 (i := 72) rfl (by decide +kernel)
theorem d_Lw_meanBar_10 : decode method_44_code 10 = .ok (.astore_n 2, 1) := zo_77 (zd_b zq_method_44_code_0 10 rfl rfl rfl)
theorem d_Lw_meanBar_11 : decode method_44_code 11 = .ok (.iconst 1, 1) := zo_4 (zd_b zq_method_44_code_0 11 rfl rfl rfl)
theorem d_Lw_meanBar_12 : decode method_44_code 12 = .ok (.ireturn, 1) := zo_172 (zd_b zq_method_44_code_0 12 rfl rfl rfl)
theorem d_Lw_meanBar_6 : decode method_44_code 6 = .ok (.dastore, 1) := zo_82 (zd_b zq_method_44_code_0 6 rfl rfl rfl)
theorem d_Lw_meanBar_7 : decode method_44_code 7 = .ok (.goto 6, 3) := zo_167 (d := 0) (e := 6) (zd_b zq_method_44_code_0 7 rfl rfl rfl) (zd_b zq_method_44_code_0 8 rfl rfl rfl) (zd_b zq_method_44_code_0 9 rfl rfl rfl) (by decide +kernel)
theorem d_Lw_meanBar_13 : decode method_44_code 13 = .ok (.iconst 0, 1) := zo_3 (zd_b zq_method_44_code_0 13 rfl rfl rfl)
theorem d_Lw_meanBar_14 : decode method_44_code 14 = .ok (.ireturn, 1) := zo_172 (zd_b zq_method_44_code_0 14 rfl rfl rfl)
set_option maxHeartbeats 4000000 in
set_option maxRecDepth 100000 in
theorem W_meanBar {g : zG} {ad : Nat → Nat} {t : zTT} {u : zNN} {w : zW} (hI : IVm g ad t u w) : zMB g M_Lw_meanBar [.ref (ad 0), .ref (ad 70)] w (fun o w1 => (∃ v : Int32, o = .inl (some (.int v))) ∧ IVm g ad t u w1) 10 300 := by
  obtain ⟨s, hI⟩ := hI
  obtain ⟨e_a, wf_a, k_a⟩ := hI.1.2 0 (by decide)
  obtain rfl := kd_0.mp k_a
  obtain ⟨e_o2, wf_o2, k_o2⟩ := hI.1.2 70 (by decide)
  obtain ⟨v_o2_f, rfl⟩ := kd_70.mp k_o2
  refine y_ofH (by decide) (by decide) (Nat.le_of_ble_eq_true rfl) (y_base (cs := [((ad 0), .inr (11, [.ref (ad 1), .ref (ad 5), .ref (ad 18), .ref (ad 31), .ref (ad 32), .ref (ad 36), .ref (ad 42), .ref (ad 45), .ref (ad 47), .ref (ad 49), .ref (ad 50), .ref (ad 51)])), ((ad 70), .inl (4, 1, .inr (.inr (.inr (.inl v_o2_f)))))]) (hI.1.I [0, 70] _ rfl (by decide) (by decide) (List.forall_mem_cons.mpr ⟨wf_a, (List.forall_mem_cons.mpr ⟨wf_o2, (fun _ h => nomatch h)⟩)⟩)) ?_)
  refine y_lvE (lv2 := [(0, .ref (ad 0)), (1, .ref (ad 70))]) rfl ?_
  refine y_aload_n d_Lw_meanBar_0 rfl 1 rfl ?_
  refine y_iconst d_Lw_meanBar_1 (v := 0) (by decide) ?_
  refine y_aload_n d_Lw_meanBar_2 rfl 0 rfl ?_
  refine yw_callVH (As := []) (rest := [.int 0, .ref (ad 70)]) (q0 := 0) rfl rfl ln_Lw_161 w_im_Ip_meanBar w_se_Ip_meanBar ok_Lw_meanBar_Ip_meanBar d_Lw_meanBar_3 (fun wA hA => Q_Ip_meanBar (hI.gen (t2 := (mg t s)) (is := [0, 70]) (L2 := []) hA rfl ⟨kd_0.mpr rfl, kd_70.mpr ⟨_, rfl⟩, trivial⟩ (by decide) (by decide) (fun _ h => nomatch h) (fun _ h => nomatch h) (fun _ _ _ => rfl) (fun h => h) rfl)) rfl rfl (Nat.le_of_ble_eq_true rfl) (by omega) (by omega) (fun wA3 hA3 E wB3 hx => ?_) (fun wA3 hA3 v wB3 hx => ?_)
  · obtain ⟨h1, hI2⟩ := hx
    obtain rfl : E = "java/lang/ArithmeticException" := by
      rcases h1 with ⟨v, e9⟩ | e9
      · cases e9
      · cases e9; rfl
    refine ⟨"java/lang/ArithmeticException", [], [], (0, 7, 10, 159), rfl, (fun z hz => nomatch hz), by decide, by decide, lx_Lw_159, ce_159, fun qx => ?_⟩
    refine y_base (cs := []) (z_I.nil wB3) ?_
    refine y_astore_n (lv' := [(2, .ref qx), (0, .ref (ad 0)), (1, .ref (ad 70))]) d_Lw_meanBar_10 rfl (by decide) rfl ?_
    refine y_iconst d_Lw_meanBar_11 (v := 1) (by decide) ?_
    refine y_iret d_Lw_meanBar_12 rfl rfl ?_
    exact fun w1 h1 => ⟨⟨_, rfl⟩, ⟨s, (z_I.same (z_I.nil _) h1).symm ▸ hI2⟩⟩
  · obtain ⟨h1, hI2⟩ := hx
    obtain ⟨v9, rfl⟩ : ∃ v9 : UInt64, v = some (.double v9) := by
      rcases h1 with ⟨v9, e9⟩ | e9
      · cases e9; exact ⟨v9, rfl⟩
      · cases e9
    refine yw_st (st2 := [.double v9, .int 0, .ref (ad 70)]) rfl ?_
    have hI := hI2
    obtain ⟨e_o2, wf_o2, k_o2⟩ := hI.1.2 70 (by decide)
    obtain ⟨v_o2_f, rfl⟩ := kd_70.mp k_o2
    refine y_base (cs := [((ad 70), .inl (4, 1, .inr (.inr (.inr (.inl v_o2_f)))))]) (hI.1.I [70] _ rfl (by decide) (by decide) (List.forall_mem_cons.mpr ⟨wf_o2, (fun _ h => nomatch h)⟩)) ?_
    refine y_dast d_Lw_meanBar_6 (q0 := 0) rfl (fun q => q.elim (by decide) (by decide)) (f' := vf_upd v_o2_f 0 v9) rfl (cs' := [((ad 70), .inl (4, 1, .inr (.inr (.inr (.inl (vf_upd v_o2_f 0 v9))))))]) rfl ?_
    refine y_goto (tgt := 13) d_Lw_meanBar_7 (by decide) ?_
    refine y_iconst d_Lw_meanBar_13 (v := 0) (by decide) ?_
    refine y_iret d_Lw_meanBar_14 rfl rfl ?_
    exact fun w1 h1 => ⟨⟨_, rfl⟩, ⟨_, (hI.gen (t2 := (mg t s)) (is := [70]) (L2 := []) h1 rfl ⟨kd_70.mpr ⟨_, rfl⟩, trivial⟩ (by decide) (by decide) (fun _ h => nomatch h) (fun _ h => nomatch h) (fun _ _ _ => rfl) (fun h => h) rfl)⟩⟩
end
section
theorem IVo.th {g : zG} {ad : Nat → Nat} {v : Int64} {t : zTT} {u : zNN} {w : zW} {c : Int32} (hI : IVo g ad v t u w) (hT : TH ad c w) : zMB g M_Mm_thrown [.ref (ad 52)] w (fun o w1 => o = .inl (some (.int c)) ∧ w1 = w) 0 0 := by
  obtain ⟨s, -, hI⟩ := hI
  obtain ⟨fs, hT⟩ := hT
  obtain ⟨e_m, wf_m, k_m⟩ := hI.1.2 52 (by decide)
  obtain ⟨v_m_th, rfl⟩ := kd_52.mp k_m
  rw [wf_m] at hT
  cases hT
  have hJ := hI.1.I [52] [((ad 52), .inr (12, [.int c, .ref (ad 53), .int (nI (((mg t s).1 52).2.2 0)), .ref (ad 54), .ref (ad 55), .ref (ad 56), .ref (ad 57), .ref (ad 58), .ref (ad 59), .ref (ad 60), .ref (ad 61), .int (((mg t s).1 52).1 0), .int (((mg t s).1 52).1 1), .int (((mg t s).1 52).1 2), .int (((mg t s).1 52).1 3), .int (((mg t s).1 52).1 4), .int (((mg t s).1 52).1 5), .ref (ad 62), .ref (ad 63), .ref (ad 64), .int (((mg t s).1 52).1 6), .int (((mg t s).1 52).1 7), .int (((mg t s).1 52).1 8), .int (((mg t s).1 52).1 9), .int (((mg t s).1 52).1 10), .ref (ad 65), .ref (ad 66), .ref (ad 67), .ref (ad 68), .long (((mg t s).1 52).2.1 0), .long (((mg t s).1 52).2.1 1)]))] rfl (by decide) (by decide) (List.forall_mem_cons.mpr ⟨wf_m, (fun _ h => nomatch h)⟩)
  refine ((C_Mm_thrown g _ _ _ _ _ _ _ _ _ _ _ _ _ _ _ _ _ _ _ _ _ _ _ _ _ _ _ _ _ _ _ _).at hJ).mono (Nat.le_refl _) (Nat.le_refl _) (fun o w1 hp => ?_)
  obtain ⟨cs1, hp, hi9⟩ := hp
  obtain ⟨e1, e2⟩ := hp
  subst e2
  exact ⟨e1, z_I.same hJ hi9⟩
theorem TH.nil {ad : Nat → Nat} {c : Int32} {w w1 : zW} (h1 : z_I w w1 0 []) (hT : TH ad c w) : TH ad c w1 := (z_I.same (z_I.nil w) h1).symm ▸ hT
set_option maxHeartbeats 4000000 in
set_option maxRecDepth 100000 in
theorem WE_poolHas {g : zG} {ad : Nat → Nat} {t : zTT} {u : zNN} {w : zW} (hI : IVm g ad t u w) (k0 k : Int32) : zMB g M_Lw_poolHas [.ref (ad 0), .int k0, .int k, .ref (ad 69)] w (fun o w1 => o = .inl (some (.int (vK_Ip_poolHas ad k0 k t).1)) ∧ ∃ (u2 : zNN) (v9 : Int64), u2.1 = u.1 ∧ IVo g ad v9 t u2 w1 ∧ ((vK_Ip_poolHas ad k0 k t).1 = 0 → v9 = (vK_Ip_poolHas ad k0 k t).2.toInt64)) 10 300 := by
  obtain ⟨s, hI⟩ := hI
  obtain ⟨e_a, wf_a, k_a⟩ := hI.1.2 0 (by decide)
  obtain rfl := kd_0.mp k_a
  obtain ⟨e_o1, wf_o1, k_o1⟩ := hI.1.2 69 (by decide)
  obtain rfl := kd_69.mp k_o1
  refine y_ofH (by decide) (by decide) (Nat.le_of_ble_eq_true rfl) (y_base (cs := [((ad 0), .inr (11, [.ref (ad 1), .ref (ad 5), .ref (ad 18), .ref (ad 31), .ref (ad 32), .ref (ad 36), .ref (ad 42), .ref (ad 45), .ref (ad 47), .ref (ad 49), .ref (ad 50), .ref (ad 51)])), ((ad 69), .inl (3, 1, .inr (.inl (((mg t s).1 69).2.1))))]) (hI.1.I [0, 69] _ rfl (by decide) (by decide) (List.forall_mem_cons.mpr ⟨wf_a, (List.forall_mem_cons.mpr ⟨wf_o1, (fun _ h => nomatch h)⟩)⟩)) ?_)
  refine y_lvE (lv2 := [(0, .ref (ad 0)), (1, .int k0), (2, .int k), (3, .ref (ad 69))]) rfl ?_
  refine y_aload_n d_Lw_poolHas_0 rfl 3 rfl ?_
  refine y_iconst d_Lw_poolHas_1 (v := 0) (by decide) ?_
  refine y_aload_n d_Lw_poolHas_2 rfl 0 rfl ?_
  refine y_iload_n d_Lw_poolHas_3 rfl 1 rfl ?_
  refine y_iload_n d_Lw_poolHas_4 rfl 2 rfl ?_
  refine yw_callVH (As := [.int k0, .int k]) (rest := [.int 0, .ref (ad 69)]) (q0 := 0) rfl rfl ln_Lw_104 w_im_Ip_poolHas w_se_Ip_poolHas ok_Lw_poolHas_Ip_poolHas d_Lw_poolHas_5 (fun wA hA => KE_Ip_poolHas ⟨_, (hI.gen (t2 := (mg t s)) (is := [0, 69]) (L2 := []) hA rfl ⟨kd_0.mpr rfl, kd_69.mpr rfl, trivial⟩ (by decide) (by decide) (fun _ h => nomatch h) (fun _ h => nomatch h) (fun _ _ _ => rfl) (fun h => h) rfl)⟩ k0 k) rfl rfl (Nat.le_of_ble_eq_true rfl) (by omega) (by omega) (fun wA5 hA5 E wB5 hx => ?_) (fun wA5 hA5 v wB5 hx => ?_)
  · obtain ⟨h1, u2, hu, hI2⟩ := hx
    obtain ⟨s9, hI3⟩ := hI2
    obtain ⟨k9, hk9, hp9⟩ := h1.X
    rcases k9 with _ | _ | k9
    · obtain rfl : "java/lang/IllegalArgumentException" = E := Option.some.inj hk9
      have hq9 : (vK_Ip_poolHas ad k0 k t).1 = 1 := hp9
      refine ⟨"java/lang/IllegalArgumentException", [], [(0, 10, 17, 33)], (0, 10, 13, 13), rfl, (fun z hz => nomatch hz), by decide, by decide, lx_Lw_13, ce_13, fun qx => ?_⟩
      refine y_base (cs := []) (z_I.nil wB5) ?_
      refine y_astore (lv' := [(4, .ref qx), (0, .ref (ad 0)), (1, .int k0), (2, .int k), (3, .ref (ad 69))]) d_Lw_poolHas_13 (by decide) rfl ?_
      refine y_iconst d_Lw_poolHas_15 (v := 1) (by decide) ?_
      refine y_iret d_Lw_poolHas_16 rfl rfl ?_
      exact fun w1 h1 => ⟨by rw [hq9], u2, _, hu, ⟨s9, rfl, (z_I.same (z_I.nil _) h1).symm ▸ hI3⟩, fun e => absurd (hq9.symm.trans e) (by decide)⟩
    · obtain rfl : "java/util/NoSuchElementException" = E := Option.some.inj hk9
      have hq9 : (vK_Ip_poolHas ad k0 k t).1 = 2 := hp9
      refine ⟨"java/util/NoSuchElementException", [(0, 10, 13, 13)], [], (0, 10, 17, 33), rfl, (fun z hz => by simp only [List.mem_cons, List.not_mem_nil, or_false] at hz; rcases hz with rfl; exact Or.inr ⟨by decide, _, lx_Lw_13, by decide⟩), by decide, by decide, lx_Lw_33, ce_33, fun qx => ?_⟩
      refine y_base (cs := []) (z_I.nil wB5) ?_
      refine y_astore (lv' := [(4, .ref qx), (0, .ref (ad 0)), (1, .int k0), (2, .int k), (3, .ref (ad 69))]) d_Lw_poolHas_17 (by decide) rfl ?_
      refine y_iconst d_Lw_poolHas_19 (v := 2) (by decide) ?_
      refine y_iret d_Lw_poolHas_20 rfl rfl ?_
      exact fun w1 h1 => ⟨by rw [hq9], u2, _, hu, ⟨s9, rfl, (z_I.same (z_I.nil _) h1).symm ▸ hI3⟩, fun e => absurd (hq9.symm.trans e) (by decide)⟩
    · exact absurd hk9 (by simp)
  · obtain ⟨h1, u2, hu, hI2⟩ := hx
    obtain ⟨v9, rfl, hp9, hq9⟩ := h1.V
    refine yw_st (st2 := [.int v9, .int 0, .ref (ad 69)]) rfl ?_
    obtain ⟨s9, hI⟩ := hI2
    obtain ⟨e_o1, wf_o1, k_o1⟩ := hI.1.2 69 (by decide)
    obtain rfl := kd_69.mp k_o1
    refine y_base (cs := [((ad 69), .inl (3, 1, .inr (.inl (((mg t s9).1 69).2.1))))]) (hI.1.I [69] _ rfl (by decide) (by decide) (List.forall_mem_cons.mpr ⟨wf_o1, (fun _ h => nomatch h)⟩)) ?_
    refine y_i2l d_Lw_poolHas_8 (v := v9.toInt64) rfl ?_
    refine y_last d_Lw_poolHas_9 (q0 := 0) rfl (fun q => q.elim (by decide) (by decide)) (f' := vp_updL (((mg t s9).1 69).2.1) 0 v9.toInt64) rfl (cs' := [((ad 69), .inl (3, 1, .inr (.inl (vp_updL (((mg t s9).1 69).2.1) 0 v9.toInt64))))]) rfl ?_
    refine y_goto (tgt := 21) d_Lw_poolHas_10 (by decide) ?_
    refine y_iconst d_Lw_poolHas_21 (v := 0) (by decide) ?_
    refine y_iret d_Lw_poolHas_22 rfl rfl ?_
    exact fun w1 h1 => ⟨by rw [hp9], u2, v9.toInt64, hu, IVo.tz ((hI.gen (t2 := (zup (mg t s9).1 [(69, (((mg t s9).1 69).1, vp_updL (((mg t s9).1 69).2.1) 0 v9.toInt64, ((mg t s9).1 69).2.2))], (mg t s9).2)) (is := [69]) (L2 := []) h1 rfl ⟨kd_69.mpr rfl, trivial⟩ (by decide) (by decide) (fun _ h => nomatch h) (fun _ h => nomatch h) (fun i hi hn => zup_out (fun q => hn ((by decide : ∀ j ∈ ([69] : List Nat), j ∈ ([69] : List Nat)) i q))) (fun h => h) rfl)) (tx_all rfl) rfl, fun _ => (congrArg Int32.toInt64 hq9).symm⟩
end
section
theorem y_pop2 {g : zG} {M : zM} {Ψ : zO → zW → Prop} {w0 : zW} {n pc : Nat} {lv : List (Nat × Value)} {st : List Value} {cs : zC} {kc ks : Nat} {v : Value} (hd : decode M.2.1 pc = .ok (.pop2, 1)) (hv : v.category = 2) (k : DU g M Ψ w0 n (pc + 1) lv st cs kc ks) : DU g M Ψ w0 n pc lv (v :: st) cs kc ks := fun w p l e R s m args below meth c A mc ms H locs cells slots ls ws I C T => lv_pop2_2 C.1.1 C.1.2.1 hd hv (k w p l e R s m args below meth c A mc ms H locs cells slots ls ws I C T)
def zs (g : zG) (k : Nat) : Int32 := Int32.ofNat (g.2.2 (100 + k))
def zc (g : zG) (k : Nat) : Int32 := ((zs g k).toUInt32 % 65536).toInt32
def lwQ : zO → zW → Prop := fun o _ => o = .inl (some (.int 1))
theorem z_shL {L : Nat} (h : L < 7) : nI L - 7 < (0 : Int32) := by
  have h9 : L = 0 ∨ L = 1 ∨ L = 2 ∨ L = 3 ∨ L = 4 ∨ L = 5 ∨ L = 6 := by omega
  rcases h9 with rfl | rfl | rfl | rfl | rfl | rfl | rfl <;> decide
theorem z_shl {L k : Nat} (h : ¬ k + 7 ≤ L) (hL : L < 2 ^ 31) (hk : k < 2 ^ 31) : nI L - 7 < nI k := by
  by_cases h7 : L < 7
  · exact Int32.lt_of_lt_of_le (z_shL h7) (Int32.not_lt.mp (nI_nneg hk))
  · rw [show nI L - 7 = nI (L - 7) from pk_sub (a := L) (b := 7) (by omega)]
    exact (nI_ltI (by omega) hk).mpr (by omega)
abbrev M_Lw_law : zM := (⟨"IronpourLaw", "law", "([I)Z"⟩, code, 9, (Option.some FieldType.boolean), 11, 274, [])
theorem d_Lw_law_1808 : decode code 1808 = .ok (.iinc 5 7, 3) := by decide +kernel
theorem d_Lw_law_1811 : decode code 1811 = .ok (.goto (-1783), 3) := zo_167 (d := 249) (e := 9) (zd_b zq_code_56 19 rfl rfl rfl) (zd_b zq_code_56 20 rfl rfl rfl) (zd_b zq_code_56 21 rfl rfl rfl) (by decide +kernel)
def LWI (g : zG) (ad : Nat → Nat) (j r : Nat) : Prop := ∀ (t : zTT) (u : zNN) (w : zW), IVm g ad t u w → REY t u.1 (48 * (j + 1)) → DW g M_Lw_law lwQ w 28 [(5, .int (nI (7 * (j + 1)))), (4, .ref (ad 70)), (3, .ref (ad 69)), (2, .ref (ad 52)), (1, .ref (ad 0)), (0, .ref (g.2.2 40))] [] (100 * r) (1000 * r)
set_option maxHeartbeats 4000000 in
set_option maxRecDepth 100000 in
theorem LC_next {g : zG} {ad : Nat → Nat} {t : zTT} {u : zNN} {w : zW} {j : Nat} (hI : IVm g ad t u w) (hR : REY t u.1 (48 * (j + 1))) {r : Nat} (hJ : 7 * j + 7 ≤ g.2.2 41) (hL : g.2.2 41 ≤ 3584) (ih : LWI g ad j r) {kc ks : Nat} (h1 : 100 * r ≤ kc) (h2 : 1000 * r ≤ ks) : DW g M_Lw_law lwQ w 1808 [(5, .int (nI (7 * j))), (4, .ref (ad 70)), (3, .ref (ad 69)), (2, .ref (ad 52)), (1, .ref (ad 0)), (0, .ref (g.2.2 40))] [] kc ks := by
  refine y_base (cs := []) (z_I.nil w) ?_
  refine y_iinc (lv' := [(5, .int (nI ((7 * j) + 7))), (4, .ref (ad 70)), (3, .ref (ad 69)), (2, .ref (ad 52)), (1, .ref (ad 0)), (0, .ref (g.2.2 40))]) (v := nI ((7 * j) + 7)) d_Lw_law_1808 (j := 0) rfl (nI_add _ _) (by decide) rfl ?_
  refine y_goto (tgt := 28) d_Lw_law_1811 (by decide) ?_
  refine y_lv (lv' := [(5, .int (nI ((7 * j) + 7))), (4, .ref (ad 70)), (3, .ref (ad 69)), (2, .ref (ad 52)), (1, .ref (ad 0)), (0, .ref (g.2.2 40))]) [0, 1, 2, 3, 4, 5] rfl ?_
  refine y_end (fun wC hC => ?_)
  exact yw_bud h1 h2 (ih _ _ _ (IVm.nil hC hI) hR)
theorem d_Lw_law_1229 : decode code 1229 = .ok (.aload_n 1, 1) := zo_43 (zd_b zq_code_38 13 rfl rfl rfl)
theorem d_Lw_law_1230 : decode code 1230 = .ok (.aload_n 0, 1) := zo_42 (zd_b zq_code_38 14 rfl rfl rfl)
theorem d_Lw_law_1231 : decode code 1231 = .ok (.iload 5, 2) := zo_21 (d := 5) (zd_b zq_code_38 15 rfl rfl rfl) (zd_b zq_code_38 16 rfl rfl rfl)
theorem d_Lw_law_1233 : decode code 1233 = .ok (.iconst 1, 1) := zo_4 (zd_b zq_code_38 17 rfl rfl rfl)
theorem d_Lw_law_1234 : decode code 1234 = .ok (.iadd, 1) := zo_96 (zd_b zq_code_38 18 rfl rfl rfl)
theorem d_Lw_law_1235 : decode code 1235 = .ok (.iaload, 1) := zo_46 (zd_b zq_code_38 19 rfl rfl rfl)
theorem d_Lw_law_1236 : decode code 1236 = .ok (.i2c, 1) := zo_146 (zd_b zq_code_38 20 rfl rfl rfl)
theorem d_Lw_law_1237 : decode code 1237 = .ok (.aload_n 0, 1) := zo_42 (zd_b zq_code_38 21 rfl rfl rfl)
theorem d_Lw_law_1238 : decode code 1238 = .ok (.iload 5, 2) := zo_21 (d := 5) (zd_b zq_code_38 22 rfl rfl rfl) (zd_b zq_code_38 23 rfl rfl rfl)
theorem d_Lw_law_1240 : decode code 1240 = .ok (.iconst 2, 1) := zo_5 (zd_b zq_code_38 24 rfl rfl rfl)
theorem d_Lw_law_1241 : decode code 1241 = .ok (.iadd, 1) := zo_96 (zd_b zq_code_38 25 rfl rfl rfl)
theorem d_Lw_law_1242 : decode code 1242 = .ok (.iaload, 1) := zo_46 (zd_b zq_code_38 26 rfl rfl rfl)
theorem d_Lw_law_1243 : decode code 1243 = .ok (.i2c, 1) := zo_146 (zd_b zq_code_38 27 rfl rfl rfl)
theorem d_Lw_law_1244 : decode code 1244 = .ok (.aload_n 3, 1) := zo_45 (zd_b zq_code_38 28 rfl rfl rfl)
theorem d_Lw_law_1245 : decode code 1245 = .ok (.invokestatic 274, 3) := zo_184 (d := 1) (e := 18) (zd_b zq_code_38 29 rfl rfl rfl) (zd_b zq_code_38 30 rfl rfl rfl) (zd_b zq_code_38 31 rfl rfl rfl)
theorem ok_Lw_law_Lw_poolHas : z_okX M_Lw_law M_Lw_poolHas 4 := ⟨z_mj5 (i := 172) rfl (by decide +kernel), by decide, ⟨by decide +kernel, by decide +kernel, by decide +kernel⟩, ⟨by decide, by decide⟩, z_mj1 (i := 0) rfl (by decide +kernel), rfl⟩
theorem ln_Lw_274 : Cond.methodLink "IronpourLaw" 274 M_Lw_poolHas.1 ∈ z_gw := z_mj5 (i := 170) rfl (by decide +kernel)
theorem w_st_Lw_poolHas : Cond.static M_Lw_poolHas.1 ∈ z_gw := z_mj5 (i := 171) rfl (by decide +kernel)
theorem d_Lw_law_1248 : decode code 1248 = .ok (.istore 6, 2) := zo_54 (d := 6) (zd_b zq_code_39 0 rfl rfl rfl) (zd_b zq_code_39 1 rfl rfl rfl)
theorem d_Lw_law_1250 : decode code 1250 = .ok (.aload_n 2, 1) := zo_44 (zd_b zq_code_39 2 rfl rfl rfl)
theorem d_Lw_law_1251 : decode code 1251 = .ok (.aload_n 0, 1) := zo_42 (zd_b zq_code_39 3 rfl rfl rfl)
theorem d_Lw_law_1252 : decode code 1252 = .ok (.iload 5, 2) := zo_21 (d := 5) (zd_b zq_code_39 4 rfl rfl rfl) (zd_b zq_code_39 5 rfl rfl rfl)
theorem d_Lw_law_1254 : decode code 1254 = .ok (.iconst 1, 1) := zo_4 (zd_b zq_code_39 6 rfl rfl rfl)
theorem d_Lw_law_1255 : decode code 1255 = .ok (.iadd, 1) := zo_96 (zd_b zq_code_39 7 rfl rfl rfl)
theorem d_Lw_law_1256 : decode code 1256 = .ok (.iaload, 1) := zo_46 (zd_b zq_code_39 8 rfl rfl rfl)
theorem d_Lw_law_1257 : decode code 1257 = .ok (.i2c, 1) := zo_146 (zd_b zq_code_39 9 rfl rfl rfl)
theorem d_Lw_law_1258 : decode code 1258 = .ok (.aload_n 0, 1) := zo_42 (zd_b zq_code_39 10 rfl rfl rfl)
theorem d_Lw_law_1259 : decode code 1259 = .ok (.iload 5, 2) := zo_21 (d := 5) (zd_b zq_code_39 11 rfl rfl rfl) (zd_b zq_code_39 12 rfl rfl rfl)
theorem d_Lw_law_1261 : decode code 1261 = .ok (.iconst 2, 1) := zo_5 (zd_b zq_code_39 13 rfl rfl rfl)
theorem d_Lw_law_1262 : decode code 1262 = .ok (.iadd, 1) := zo_96 (zd_b zq_code_39 14 rfl rfl rfl)
theorem d_Lw_law_1263 : decode code 1263 = .ok (.iaload, 1) := zo_46 (zd_b zq_code_39 15 rfl rfl rfl)
theorem d_Lw_law_1264 : decode code 1264 = .ok (.i2c, 1) := zo_146 (zd_b zq_code_39 16 rfl rfl rfl)
theorem d_Lw_law_1265 : decode code 1265 = .ok (.invokevirtual 277, 3) := zo_182 (d := 1) (e := 21) (zd_b zq_code_39 17 rfl rfl rfl) (zd_b zq_code_39 18 rfl rfl rfl) (zd_b zq_code_39 19 rfl rfl rfl)
theorem ok_Lw_law_Mm_poolHas : z_ok M_Lw_law M_Mm_poolHas 2 := ⟨z_mj8 (i := 207) rfl (by decide +kernel), rfl, ⟨by decide +kernel, by decide +kernel, by decide +kernel⟩, ⟨by decide, by decide⟩, z_mj1 (i := 14) rfl (by decide +kernel), rfl⟩
theorem ln_Lw_277 : Cond.methodLink "IronpourLaw" 277 M_Mm_poolHas.1 ∈ z_gw := z_mj8 (i := 204) rfl (by decide +kernel)
theorem w_im_Mm_poolHas : Cond.instanceMethod M_Mm_poolHas.1 ∈ z_gw := z_mj8 (i := 205) rfl (by decide +kernel)
theorem w_se_Mm_poolHas : Cond.selects M_Mm_poolHas.1.cls M_Mm_poolHas.1 M_Mm_poolHas.1 ∈ z_gw := z_mj8 (i := 206) rfl (by decide +kernel)
theorem d_Lw_law_1268 : decode code 1268 = .ok (.istore 7, 2) := zo_54 (d := 7) (zd_b zq_code_39 20 rfl rfl rfl) (zd_b zq_code_39 21 rfl rfl rfl)
theorem d_Lw_law_1270 : decode code 1270 = .ok (.aload_n 2, 1) := zo_44 (zd_b zq_code_39 22 rfl rfl rfl)
theorem d_Lw_law_1271 : decode code 1271 = .ok (.invokevirtual 278, 3) := zo_182 (d := 1) (e := 22) (zd_b zq_code_39 23 rfl rfl rfl) (zd_b zq_code_39 24 rfl rfl rfl) (zd_b zq_code_39 25 rfl rfl rfl)
theorem ok_Lw_law_Mm_thrown : z_ok M_Lw_law M_Mm_thrown 0 := ⟨z_mj7 (i := 180) rfl (by decide +kernel), rfl, ⟨by decide +kernel, by decide +kernel, by decide +kernel⟩, ⟨by decide, by decide⟩, z_mj1 (i := 14) rfl (by decide +kernel), rfl⟩
theorem ln_Lw_278 : Cond.methodLink "IronpourLaw" 278 M_Mm_thrown.1 ∈ z_gw := z_mj7 (i := 177) rfl (by decide +kernel)
theorem w_im_Mm_thrown : Cond.instanceMethod M_Mm_thrown.1 ∈ z_gw := z_mj7 (i := 178) rfl (by decide +kernel)
theorem w_se_Mm_thrown : Cond.selects M_Mm_thrown.1.cls M_Mm_thrown.1 M_Mm_thrown.1 ∈ z_gw := z_mj7 (i := 179) rfl (by decide +kernel)
theorem d_Lw_law_1274 : decode code 1274 = .ok (.iload 6, 2) := zo_21 (d := 6) (zd_b zq_code_39 26 rfl rfl rfl) (zd_b zq_code_39 27 rfl rfl rfl)
theorem d_Lw_law_1276 : decode code 1276 = .ok (.if_icmp .eq 5, 3) := zo_159 (d := 0) (e := 5) (zd_b zq_code_39 28 rfl rfl rfl) (zd_b zq_code_39 29 rfl rfl rfl) (zd_b zq_code_39 30 rfl rfl rfl) (by decide +kernel)
theorem d_Lw_law_1281 : decode code 1281 = .ok (.iload 6, 2) := zo_21 (d := 6) (zd_b zq_code_40 1 rfl rfl rfl) (zd_b zq_code_40 2 rfl rfl rfl)
theorem d_Lw_law_1283 : decode code 1283 = .ok (.ifCond .ne 15, 3) := zo_154 (d := 0) (e := 15) (zd_b zq_code_40 3 rfl rfl rfl) (zd_b zq_code_40 4 rfl rfl rfl) (zd_b zq_code_40 5 rfl rfl rfl) (by decide +kernel)
theorem d_Lw_law_1298 : decode code 1298 = .ok (.goto 510, 3) := zo_167 (d := 1) (e := 254) (zd_b zq_code_40 18 rfl rfl rfl) (zd_b zq_code_40 19 rfl rfl rfl) (zd_b zq_code_40 20 rfl rfl rfl) (by decide +kernel)
theorem d_Lw_law_1286 : decode code 1286 = .ok (.aload_n 3, 1) := zo_45 (zd_b zq_code_40 6 rfl rfl rfl)
theorem d_Lw_law_1287 : decode code 1287 = .ok (.iconst 0, 1) := zo_3 (zd_b zq_code_40 7 rfl rfl rfl)
theorem d_Lw_law_1288 : decode code 1288 = .ok (.laload, 1) := zo_47 (zd_b zq_code_40 8 rfl rfl rfl)
theorem d_Lw_law_1289 : decode code 1289 = .ok (.iload 7, 2) := zo_21 (d := 7) (zd_b zq_code_40 9 rfl rfl rfl) (zd_b zq_code_40 10 rfl rfl rfl)
theorem d_Lw_law_1291 : decode code 1291 = .ok (.i2l, 1) := zo_133 (zd_b zq_code_40 11 rfl rfl rfl)
theorem d_Lw_law_1292 : decode code 1292 = .ok (.lcmp, 1) := zo_148 (zd_b zq_code_40 12 rfl rfl rfl)
theorem d_Lw_law_1293 : decode code 1293 = .ok (.ifCond .eq 5, 3) := zo_153 (d := 0) (e := 5) (zd_b zq_code_40 13 rfl rfl rfl) (zd_b zq_code_40 14 rfl rfl rfl) (zd_b zq_code_40 15 rfl rfl rfl) (by decide +kernel)
set_option maxHeartbeats 4000000 in
set_option maxRecDepth 100000 in
theorem LC_poolHas {g : zG} {ad : Nat → Nat} {t : zTT} {u : zNN} {w : zW} {j : Nat} (hI : IVm g ad t u w) (hR : REY t u.1 (48 * j)) {r : Nat} (hJ : 7 * j + 7 ≤ g.2.2 41) (hL : g.2.2 41 ≤ 3584) (ih : LWI g ad j r) : DW g M_Lw_law lwQ w 1229 [(5, .int (nI (7 * j))), (4, .ref (ad 70)), (3, .ref (ad 69)), (2, .ref (ad 52)), (1, .ref (ad 0)), (0, .ref (g.2.2 40))] [] (100 * (r + 1)) (1000 * (r + 1)) := by
  have hI0 := hI
  refine y_base (cs := []) (z_I.nil w) ?_
  refine y_aload_n d_Lw_law_1229 rfl 4 rfl ?_
  refine y_aload_n d_Lw_law_1230 rfl 5 rfl ?_
  refine y_iload d_Lw_law_1231 0 rfl ?_
  refine y_iconst d_Lw_law_1233 (v := 1) (by decide) ?_
  refine y_iadd d_Lw_law_1234 (v := nI ((7 * j) + 1)) (nI_add _ _) ?_
  refine y_sld (v := zs g (7 * j + 1)) d_Lw_law_1235 (vp_in_nI (by omega) (by omega)) (by rw [nI_clamp (by omega)]; rfl) ?_
  refine y_i2c d_Lw_law_1236 (v := zc g (7 * j + 1)) rfl ?_
  refine y_aload_n d_Lw_law_1237 rfl 5 rfl ?_
  refine y_iload d_Lw_law_1238 0 rfl ?_
  refine y_iconst d_Lw_law_1240 (v := 2) (by decide) ?_
  refine y_iadd d_Lw_law_1241 (v := nI ((7 * j) + 2)) (nI_add _ _) ?_
  refine y_sld (v := zs g (7 * j + 2)) d_Lw_law_1242 (vp_in_nI (by omega) (by omega)) (by rw [nI_clamp (by omega)]; rfl) ?_
  refine y_i2c d_Lw_law_1243 (v := zc g (7 * j + 2)) rfl ?_
  refine y_aload_n d_Lw_law_1244 rfl 2 rfl ?_
  refine yw_callSX (As := [.ref (ad 0), .int (zc g (7 * j + 1)), .int (zc g (7 * j + 2)), .ref (ad 69)]) (rest := []) ln_Lw_274 w_st_Lw_poolHas ok_Lw_law_Lw_poolHas d_Lw_law_1245 (fun wA hA => WE_poolHas (IVm.nil hA hI) (zc g (7 * j + 1)) (zc g (7 * j + 2))) rfl rfl (Nat.le_of_ble_eq_true rfl) (by omega) (by omega) (fun wA1245 hA1245 E wB1245 hx => ?_) (fun wA1245 hA1245 v wB1245 hx => ?_)
  · obtain ⟨e0, -⟩ := hx
    cases e0
  · obtain ⟨e0, uC, vo, huC, hI2, hvo⟩ := hx
    cases e0
    refine yw_st (st2 := [.int ((vK_Ip_poolHas ad (zc g (7 * j + 1)) (zc g (7 * j + 2)) t).1)]) rfl ?_
    have hI := hI2
    refine y_base (cs := []) (z_I.nil _) ?_
    refine y_istore (lv' := [(6, .int ((vK_Ip_poolHas ad (zc g (7 * j + 1)) (zc g (7 * j + 2)) t).1)), (5, .int (nI (7 * j))), (4, .ref (ad 70)), (3, .ref (ad 69)), (2, .ref (ad 52)), (1, .ref (ad 0)), (0, .ref (g.2.2 40))]) d_Lw_law_1248 (by decide) rfl ?_
    refine y_aload_n d_Lw_law_1250 rfl 4 rfl ?_
    refine y_aload_n d_Lw_law_1251 rfl 6 rfl ?_
    refine y_iload d_Lw_law_1252 1 rfl ?_
    refine y_iconst d_Lw_law_1254 (v := 1) (by decide) ?_
    refine y_iadd d_Lw_law_1255 (v := nI ((7 * j) + 1)) (nI_add _ _) ?_
    refine y_sld (v := zs g (7 * j + 1)) d_Lw_law_1256 (vp_in_nI (by omega) (by omega)) (by rw [nI_clamp (by omega)]; rfl) ?_
    refine y_i2c d_Lw_law_1257 (v := zc g (7 * j + 1)) rfl ?_
    refine y_aload_n d_Lw_law_1258 rfl 6 rfl ?_
    refine y_iload d_Lw_law_1259 1 rfl ?_
    refine y_iconst d_Lw_law_1261 (v := 2) (by decide) ?_
    refine y_iadd d_Lw_law_1262 (v := nI ((7 * j) + 2)) (nI_add _ _) ?_
    refine y_sld (v := zs g (7 * j + 2)) d_Lw_law_1263 (vp_in_nI (by omega) (by omega)) (by rw [nI_clamp (by omega)]; rfl) ?_
    refine y_i2c d_Lw_law_1264 (v := zc g (7 * j + 2)) rfl ?_
    refine yw_callVL (As := [.int (zc g (7 * j + 1)), .int (zc g (7 * j + 2))]) (rest := []) (ci := 12) rfl (fun wA hA => (IVo.nil hA hI).m.rm) ln_Lw_277 w_im_Mm_poolHas w_se_Mm_poolHas ok_Lw_law_Mm_poolHas d_Lw_law_1265 (fun wA hA => KE_Mm_poolHas (IVo.nil hA hI) (zc g (7 * j + 1)) (zc g (7 * j + 2))) rfl rfl (Nat.le_of_ble_eq_true rfl) (by omega) (by omega) (fun wA1265 hA1265 E wB1265 hx => ?_) (fun wA1265 hA1265 v wB1265 hx => ?_)
    · obtain ⟨e0, -⟩ := hx
      cases e0
    · obtain ⟨e0, hT, uM, huM, hI2⟩ := hx
      cases e0
      refine yw_st (st2 := [.int ((vK_Mm_poolHas ad (zc g (7 * j + 1)) (zc g (7 * j + 2)) t).2)]) rfl ?_
      have hI := hI2
      refine y_base (cs := []) (z_I.nil _) ?_
      refine y_istore (lv' := [(7, .int ((vK_Mm_poolHas ad (zc g (7 * j + 1)) (zc g (7 * j + 2)) t).2)), (6, .int ((vK_Ip_poolHas ad (zc g (7 * j + 1)) (zc g (7 * j + 2)) t).1)), (5, .int (nI (7 * j))), (4, .ref (ad 70)), (3, .ref (ad 69)), (2, .ref (ad 52)), (1, .ref (ad 0)), (0, .ref (g.2.2 40))]) d_Lw_law_1268 (by decide) rfl ?_
      refine y_aload_n d_Lw_law_1270 rfl 5 rfl ?_
      refine yw_callVL (As := []) (rest := []) (ci := 12) rfl (fun wA hA => (IVo.nil hA hI).m.rm) ln_Lw_278 w_im_Mm_thrown w_se_Mm_thrown ok_Lw_law_Mm_thrown d_Lw_law_1271 (fun wA hA => (IVo.nil hA hI).th (TH.nil hA hT)) rfl rfl (Nat.le_of_ble_eq_true rfl) (by omega) (by omega) (fun wA1271 hA1271 E wB1271 hx => ?_) (fun wA1271 hA1271 v wB1271 hx => ?_)
      · exact absurd hx.1 (by simp)
      · obtain ⟨e1, e2⟩ := hx
        cases e1
        refine yw_st (st2 := [.int ((vK_Mm_poolHas ad (zc g (7 * j + 1)) (zc g (7 * j + 2)) t).1)]) rfl ?_
        subst e2
        obtain ⟨s9, hv9, hI⟩ := IVo.nil hA1271 hI
        obtain ⟨e_o1, wf_o1, k_o1⟩ := hI.1.2 69 (by decide)
        obtain rfl := kd_69.mp k_o1
        refine y_base (cs := [((ad 69), .inl (3, 1, .inr (.inl (((mg t s9).1 69).2.1))))]) (hI.1.I [69] _ rfl (by decide) (by decide) (List.forall_mem_cons.mpr ⟨wf_o1, (fun _ h => nomatch h)⟩)) ?_
        refine y_iload d_Lw_law_1274 1 rfl ?_
        refine y_icmp_eq (tgt := 1281) d_Lw_law_1276 (by decide) (fun c_1276 => ?_) (fun c_1276 => ?_)
        · refine y_iload d_Lw_law_1281 1 rfl ?_
          refine y_if_ne (tgt := 1298) d_Lw_law_1283 (by decide) (fun c_1283 => ?_) (fun c_1283 => ?_)
          · refine y_goto (tgt := 1808) d_Lw_law_1298 (by decide) ?_
            refine y_lv (lv' := [(5, .int (nI (7 * j))), (4, .ref (ad 70)), (3, .ref (ad 69)), (2, .ref (ad 52)), (1, .ref (ad 0)), (0, .ref (g.2.2 40))]) [2, 3, 4, 5, 6, 7] rfl ?_
            refine y_end (fun wC hC => ?_)
            exact LC_next ⟨_, (hI.gen (t2 := (mg t s9)) (is := [69]) (L2 := []) hC rfl ⟨kd_69.mpr rfl, trivial⟩ (by decide) (by decide) (fun _ h => nomatch h) (fun _ h => nomatch h) (fun _ _ _ => rfl) (fun h => h) rfl)⟩ ((hR.n (huM.trans huC)).up (by omega)) hJ hL ih (by omega) (by omega)
          · refine y_aload_n d_Lw_law_1286 rfl 4 rfl ?_
            refine y_iconst d_Lw_law_1287 (v := 0) (by decide) ?_
            refine y_lald d_Lw_law_1288 (q0 := 0) rfl (fun q => q.elim (by decide) (by decide)) (v := (((mg t s9).1 69).2.1) 0) rfl ?_
            refine y_iload d_Lw_law_1289 0 rfl ?_
            refine y_i2l d_Lw_law_1291 (v := ((vK_Mm_poolHas ad (zc g (7 * j + 1)) (zc g (7 * j + 2)) t).2).toInt64) rfl ?_
            refine y_lcmp d_Lw_law_1292 (v := 0) (by rw [show (((mg t s9).1 69).2.1) 0 = _ from hv9.trans (hvo c_1283)]; exact zl_cmp ((V_poolHas (ad := ad) (zc g (7 * j + 1)) (zc g (7 * j + 2)) hR).2 c_1283)) ?_
            refine y_if_eq (tgt := 1298) d_Lw_law_1293 (by decide) (fun c_1293 => ?_) (fun c_1293 => ?_)
            · refine y_goto (tgt := 1808) d_Lw_law_1298 (by decide) ?_
              refine y_lv (lv' := [(5, .int (nI (7 * j))), (4, .ref (ad 70)), (3, .ref (ad 69)), (2, .ref (ad 52)), (1, .ref (ad 0)), (0, .ref (g.2.2 40))]) [2, 3, 4, 5, 6, 7] rfl ?_
              refine y_end (fun wC hC => ?_)
              exact LC_next ⟨_, (hI.gen (t2 := (mg t s9)) (is := [69]) (L2 := []) hC rfl ⟨kd_69.mpr rfl, trivial⟩ (by decide) (by decide) (fun _ h => nomatch h) (fun _ h => nomatch h) (fun _ _ _ => rfl) (fun h => h) rfl)⟩ ((hR.n (huM.trans huC)).up (by omega)) hJ hL ih (by omega) (by omega)
            · exact absurd c_1293 (by decide)
        · exact absurd (V_poolHas (ad := ad) (zc g (7 * j + 1)) (zc g (7 * j + 2)) hR).1.symm c_1276
theorem d_Lw_law_1748 : decode code 1748 = .ok (.aload_n 1, 1) := zo_43 (zd_b zq_code_54 20 rfl rfl rfl)
theorem d_Lw_law_1749 : decode code 1749 = .ok (.invokevirtual 329, 3) := zo_182 (d := 1) (e := 73) (zd_b zq_code_54 21 rfl rfl rfl) (zd_b zq_code_54 22 rfl rfl rfl) (zd_b zq_code_54 23 rfl rfl rfl)
theorem ok_Lw_law_Ip_delivered : z_ok M_Lw_law M_Ip_delivered 0 := ⟨z_mj2 (i := 176) rfl (by decide +kernel), rfl, ⟨by decide +kernel, by decide +kernel, by decide +kernel⟩, ⟨by decide, by decide⟩, z_mj1 (i := 1) rfl (by decide +kernel), rfl⟩
theorem ln_Lw_329 : Cond.methodLink "IronpourLaw" 329 M_Ip_delivered.1 ∈ z_gw := z_mj2 (i := 173) rfl (by decide +kernel)
theorem d_Lw_law_1752 : decode code 1752 = .ok (.pop2, 1) := zo_88 (zd_b zq_code_54 24 rfl rfl rfl)
theorem d_Lw_law_1753 : decode code 1753 = .ok (.aload_n 2, 1) := zo_44 (zd_b zq_code_54 25 rfl rfl rfl)
theorem d_Lw_law_1754 : decode code 1754 = .ok (.invokevirtual 333, 3) := zo_182 (d := 1) (e := 77) (zd_b zq_code_54 26 rfl rfl rfl) (zd_b zq_code_54 27 rfl rfl rfl) (zd_b zq_code_54 28 rfl rfl rfl)
theorem ok_Lw_law_Mm_delivered : z_ok M_Lw_law M_Mm_delivered 0 := ⟨z_mj9 (i := 67) rfl (by decide +kernel), rfl, ⟨by decide +kernel, by decide +kernel, by decide +kernel⟩, ⟨by decide, by decide⟩, z_mj1 (i := 14) rfl (by decide +kernel), rfl⟩
theorem ln_Lw_333 : Cond.methodLink "IronpourLaw" 333 M_Mm_delivered.1 ∈ z_gw := z_mj9 (i := 64) rfl (by decide +kernel)
theorem w_im_Mm_delivered : Cond.instanceMethod M_Mm_delivered.1 ∈ z_gw := z_mj9 (i := 65) rfl (by decide +kernel)
theorem w_se_Mm_delivered : Cond.selects M_Mm_delivered.1.cls M_Mm_delivered.1 M_Mm_delivered.1 ∈ z_gw := z_mj9 (i := 66) rfl (by decide +kernel)
theorem d_Lw_law_1757 : decode code 1757 = .ok (.pop2, 1) := zo_88 (zd_b zq_code_54 29 rfl rfl rfl)
theorem d_Lw_law_1758 : decode code 1758 = .ok (.goto 50, 3) := zo_167 (d := 0) (e := 50) (zd_b zq_code_54 30 rfl rfl rfl) (zd_b zq_code_54 31 rfl rfl rfl) (zd_b zq_code_55 0 rfl rfl rfl) (by decide +kernel)
set_option maxHeartbeats 4000000 in
set_option maxRecDepth 100000 in
theorem LC_delivered {g : zG} {ad : Nat → Nat} {t : zTT} {u : zNN} {w : zW} {j : Nat} (hI : IVm g ad t u w) (hR : REY t u.1 (48 * j)) {r : Nat} (hJ : 7 * j + 7 ≤ g.2.2 41) (hL : g.2.2 41 ≤ 3584) (ih : LWI g ad j r) : DW g M_Lw_law lwQ w 1748 [(5, .int (nI (7 * j))), (4, .ref (ad 70)), (3, .ref (ad 69)), (2, .ref (ad 52)), (1, .ref (ad 0)), (0, .ref (g.2.2 40))] [] (100 * (r + 1)) (1000 * (r + 1)) := by
  refine y_base (cs := []) (z_I.nil w) ?_
  refine y_aload_n d_Lw_law_1748 rfl 4 rfl ?_
  refine yw_callVL (As := []) (rest := []) (ci := 11) rfl (fun wA hA => (IVm.nil hA hI).ra) ln_Lw_329 w_im_Ip_delivered w_se_Ip_delivered ok_Lw_law_Ip_delivered d_Lw_law_1749 (fun wA hA => K_Ip_delivered (IVm.nil hA hI)) rfl rfl (Nat.le_of_ble_eq_true rfl) (by omega) (by omega) (fun wA1749 hA1749 E wB1749 hx => ?_) (fun wA1749 hA1749 v wB1749 hx => ?_)
  · obtain ⟨⟨v9, e1⟩, -⟩ := hx
    cases e1
  · obtain ⟨⟨v9, e1⟩, hI2⟩ := hx
    cases e1
    refine yw_st (st2 := [.long v9]) rfl ?_
    have hI := hI2
    refine y_base (cs := []) (z_I.nil _) ?_
    refine y_pop2 d_Lw_law_1752 rfl ?_
    refine y_aload_n d_Lw_law_1753 rfl 3 rfl ?_
    refine yw_callVL (As := []) (rest := []) (ci := 12) rfl (fun wA hA => (IVm.nil hA hI).rm) ln_Lw_333 w_im_Mm_delivered w_se_Mm_delivered ok_Lw_law_Mm_delivered d_Lw_law_1754 (fun wA hA => K_Mm_delivered (IVm.nil hA hI)) rfl rfl (Nat.le_of_ble_eq_true rfl) (by omega) (by omega) (fun wA1754 hA1754 E wB1754 hx => ?_) (fun wA1754 hA1754 v wB1754 hx => ?_)
    · obtain ⟨⟨v9, e1⟩, -⟩ := hx
      cases e1
    · obtain ⟨⟨v8, e1⟩, hI2⟩ := hx
      cases e1
      refine yw_st (st2 := [.long v8]) rfl ?_
      have hI := hI2
      refine y_base (cs := []) (z_I.nil _) ?_
      refine y_pop2 d_Lw_law_1757 rfl ?_
      refine y_goto (tgt := 1808) d_Lw_law_1758 (by decide) ?_
      refine y_lv (lv' := [(5, .int (nI (7 * j))), (4, .ref (ad 70)), (3, .ref (ad 69)), (2, .ref (ad 52)), (1, .ref (ad 0)), (0, .ref (g.2.2 40))]) [0, 1, 2, 3, 4, 5] rfl ?_
      refine y_end (fun wC hC => ?_)
      exact LC_next (IVm.nil hC hI) (hR.up (by omega)) hJ hL ih (by omega) (by omega)
theorem d_Lw_law_1761 : decode code 1761 = .ok (.aload_n 1, 1) := zo_43 (zd_b zq_code_55 1 rfl rfl rfl)
theorem d_Lw_law_1762 : decode code 1762 = .ok (.aload 4, 2) := zo_25 (d := 4) (zd_b zq_code_55 2 rfl rfl rfl) (zd_b zq_code_55 3 rfl rfl rfl)
theorem d_Lw_law_1764 : decode code 1764 = .ok (.invokestatic 334, 3) := zo_184 (d := 1) (e := 78) (zd_b zq_code_55 4 rfl rfl rfl) (zd_b zq_code_55 5 rfl rfl rfl) (zd_b zq_code_55 6 rfl rfl rfl)
theorem ok_Lw_law_Lw_goodShare : z_okX M_Lw_law M_Lw_goodShare 2 := ⟨z_mj7 (i := 44) rfl (by decide +kernel), by decide, ⟨by decide +kernel, by decide +kernel, by decide +kernel⟩, ⟨by decide, by decide⟩, z_mj1 (i := 0) rfl (by decide +kernel), rfl⟩
theorem ln_Lw_334 : Cond.methodLink "IronpourLaw" 334 M_Lw_goodShare.1 ∈ z_gw := z_mj7 (i := 42) rfl (by decide +kernel)
theorem w_st_Lw_goodShare : Cond.static M_Lw_goodShare.1 ∈ z_gw := z_mj7 (i := 43) rfl (by decide +kernel)
theorem d_Lw_law_1767 : decode code 1767 = .ok (.istore 6, 2) := zo_54 (d := 6) (zd_b zq_code_55 7 rfl rfl rfl) (zd_b zq_code_55 8 rfl rfl rfl)
theorem d_Lw_law_1769 : decode code 1769 = .ok (.aload_n 2, 1) := zo_44 (zd_b zq_code_55 9 rfl rfl rfl)
theorem d_Lw_law_1770 : decode code 1770 = .ok (.invokevirtual 337, 3) := zo_182 (d := 1) (e := 81) (zd_b zq_code_55 10 rfl rfl rfl) (zd_b zq_code_55 11 rfl rfl rfl) (zd_b zq_code_55 12 rfl rfl rfl)
theorem ok_Lw_law_Mm_goodShare : z_ok M_Lw_law M_Mm_goodShare 0 := ⟨z_mj9 (i := 71) rfl (by decide +kernel), rfl, ⟨by decide +kernel, by decide +kernel, by decide +kernel⟩, ⟨by decide, by decide⟩, z_mj1 (i := 14) rfl (by decide +kernel), rfl⟩
theorem ln_Lw_337 : Cond.methodLink "IronpourLaw" 337 M_Mm_goodShare.1 ∈ z_gw := z_mj9 (i := 68) rfl (by decide +kernel)
theorem w_im_Mm_goodShare : Cond.instanceMethod M_Mm_goodShare.1 ∈ z_gw := z_mj9 (i := 69) rfl (by decide +kernel)
theorem w_se_Mm_goodShare : Cond.selects M_Mm_goodShare.1.cls M_Mm_goodShare.1 M_Mm_goodShare.1 ∈ z_gw := z_mj9 (i := 70) rfl (by decide +kernel)
theorem d_Lw_law_1773 : decode code 1773 = .ok (.fstore 7, 2) := zo_56 (d := 7) (zd_b zq_code_55 13 rfl rfl rfl) (zd_b zq_code_55 14 rfl rfl rfl)
theorem d_Lw_law_1775 : decode code 1775 = .ok (.goto 33, 3) := zo_167 (d := 0) (e := 33) (zd_b zq_code_55 15 rfl rfl rfl) (zd_b zq_code_55 16 rfl rfl rfl) (zd_b zq_code_55 17 rfl rfl rfl) (by decide +kernel)
set_option maxHeartbeats 4000000 in
set_option maxRecDepth 100000 in
theorem LC_goodShare {g : zG} {ad : Nat → Nat} {t : zTT} {u : zNN} {w : zW} {j : Nat} (hI : IVm g ad t u w) (hR : REY t u.1 (48 * j)) {r : Nat} (hJ : 7 * j + 7 ≤ g.2.2 41) (hL : g.2.2 41 ≤ 3584) (ih : LWI g ad j r) : DW g M_Lw_law lwQ w 1761 [(5, .int (nI (7 * j))), (4, .ref (ad 70)), (3, .ref (ad 69)), (2, .ref (ad 52)), (1, .ref (ad 0)), (0, .ref (g.2.2 40))] [] (100 * (r + 1)) (1000 * (r + 1)) := by
  refine y_base (cs := []) (z_I.nil w) ?_
  refine y_aload_n d_Lw_law_1761 rfl 4 rfl ?_
  refine y_aload d_Lw_law_1762 1 rfl ?_
  refine yw_callSX (As := [.ref (ad 0), .ref (ad 70)]) (rest := []) ln_Lw_334 w_st_Lw_goodShare ok_Lw_law_Lw_goodShare d_Lw_law_1764 (fun wA hA => W_goodShare (IVm.nil hA hI)) rfl rfl (Nat.le_of_ble_eq_true rfl) (by omega) (by omega) (fun wA1764 hA1764 E wB1764 hx => ?_) (fun wA1764 hA1764 v wB1764 hx => ?_)
  · obtain ⟨⟨v9, e1⟩, -⟩ := hx
    cases e1
  · obtain ⟨⟨v9, e1⟩, hI2⟩ := hx
    cases e1
    refine yw_st (st2 := [.int v9]) rfl ?_
    have hI := hI2
    refine y_base (cs := []) (z_I.nil _) ?_
    refine y_istore (lv' := [(6, .int v9), (5, .int (nI (7 * j))), (4, .ref (ad 70)), (3, .ref (ad 69)), (2, .ref (ad 52)), (1, .ref (ad 0)), (0, .ref (g.2.2 40))]) d_Lw_law_1767 (by decide) rfl ?_
    refine y_aload_n d_Lw_law_1769 rfl 4 rfl ?_
    refine yw_callVL (As := []) (rest := []) (ci := 12) rfl (fun wA hA => (IVm.nil hA hI).rm) ln_Lw_337 w_im_Mm_goodShare w_se_Mm_goodShare ok_Lw_law_Mm_goodShare d_Lw_law_1770 (fun wA hA => K_Mm_goodShare (IVm.nil hA hI)) rfl rfl (Nat.le_of_ble_eq_true rfl) (by omega) (by omega) (fun wA1770 hA1770 E wB1770 hx => ?_) (fun wA1770 hA1770 v wB1770 hx => ?_)
    · obtain ⟨⟨v9, e1⟩, -⟩ := hx
      cases e1
    · obtain ⟨⟨v8, e1⟩, hI2⟩ := hx
      cases e1
      refine yw_st (st2 := [.float v8]) rfl ?_
      have hI := hI2
      refine y_base (cs := []) (z_I.nil _) ?_
      refine y_fstore (lv' := [(7, .float v8), (6, .int v9), (5, .int (nI (7 * j))), (4, .ref (ad 70)), (3, .ref (ad 69)), (2, .ref (ad 52)), (1, .ref (ad 0)), (0, .ref (g.2.2 40))]) d_Lw_law_1773 (by decide) rfl ?_
      refine y_goto (tgt := 1808) d_Lw_law_1775 (by decide) ?_
      refine y_lv (lv' := [(5, .int (nI (7 * j))), (4, .ref (ad 70)), (3, .ref (ad 69)), (2, .ref (ad 52)), (1, .ref (ad 0)), (0, .ref (g.2.2 40))]) [2, 3, 4, 5, 6, 7] rfl ?_
      refine y_end (fun wC hC => ?_)
      exact LC_next (IVm.nil hC hI) (hR.up (by omega)) hJ hL ih (by omega) (by omega)
theorem d_Lw_law_1778 : decode code 1778 = .ok (.aload_n 1, 1) := zo_43 (zd_b zq_code_55 18 rfl rfl rfl)
theorem d_Lw_law_1779 : decode code 1779 = .ok (.aload 4, 2) := zo_25 (d := 4) (zd_b zq_code_55 19 rfl rfl rfl) (zd_b zq_code_55 20 rfl rfl rfl)
theorem d_Lw_law_1781 : decode code 1781 = .ok (.invokestatic 338, 3) := zo_184 (d := 1) (e := 82) (zd_b zq_code_55 21 rfl rfl rfl) (zd_b zq_code_55 22 rfl rfl rfl) (zd_b zq_code_55 23 rfl rfl rfl)
theorem ok_Lw_law_Lw_meanBar : z_okX M_Lw_law M_Lw_meanBar 2 := ⟨z_mj7 (i := 69) rfl (by decide +kernel), by decide, ⟨by decide +kernel, by decide +kernel, by decide +kernel⟩, ⟨by decide, by decide⟩, z_mj1 (i := 0) rfl (by decide +kernel), rfl⟩
theorem ln_Lw_338 : Cond.methodLink "IronpourLaw" 338 M_Lw_meanBar.1 ∈ z_gw := z_mj7 (i := 67) rfl (by decide +kernel)
theorem w_st_Lw_meanBar : Cond.static M_Lw_meanBar.1 ∈ z_gw := z_mj7 (i := 68) rfl (by decide +kernel)
theorem d_Lw_law_1784 : decode code 1784 = .ok (.istore 6, 2) := zo_54 (d := 6) (zd_b zq_code_55 24 rfl rfl rfl) (zd_b zq_code_55 25 rfl rfl rfl)
theorem d_Lw_law_1786 : decode code 1786 = .ok (.aload_n 2, 1) := zo_44 (zd_b zq_code_55 26 rfl rfl rfl)
theorem d_Lw_law_1787 : decode code 1787 = .ok (.invokevirtual 340, 3) := zo_182 (d := 1) (e := 84) (zd_b zq_code_55 27 rfl rfl rfl) (zd_b zq_code_55 28 rfl rfl rfl) (zd_b zq_code_55 29 rfl rfl rfl)
theorem ok_Lw_law_Mm_meanBar : z_ok M_Lw_law M_Mm_meanBar 0 := ⟨z_mj9 (i := 75) rfl (by decide +kernel), rfl, ⟨by decide +kernel, by decide +kernel, by decide +kernel⟩, ⟨by decide, by decide⟩, z_mj1 (i := 14) rfl (by decide +kernel), rfl⟩
theorem ln_Lw_340 : Cond.methodLink "IronpourLaw" 340 M_Mm_meanBar.1 ∈ z_gw := z_mj9 (i := 72) rfl (by decide +kernel)
theorem w_im_Mm_meanBar : Cond.instanceMethod M_Mm_meanBar.1 ∈ z_gw := z_mj9 (i := 73) rfl (by decide +kernel)
theorem w_se_Mm_meanBar : Cond.selects M_Mm_meanBar.1.cls M_Mm_meanBar.1 M_Mm_meanBar.1 ∈ z_gw := z_mj9 (i := 74) rfl (by decide +kernel)
theorem d_Lw_law_1790 : decode code 1790 = .ok (.dstore 7, 2) := zo_57 (d := 7) (zd_b zq_code_55 30 rfl rfl rfl) (zd_b zq_code_55 31 rfl rfl rfl)
theorem d_Lw_law_1792 : decode code 1792 = .ok (.goto 16, 3) := zo_167 (d := 0) (e := 16) (zd_b zq_code_56 0 rfl rfl rfl) (zd_b zq_code_56 1 rfl rfl rfl) (zd_b zq_code_56 2 rfl rfl rfl) (by decide +kernel)
set_option maxHeartbeats 4000000 in
set_option maxRecDepth 100000 in
theorem LC_meanBar {g : zG} {ad : Nat → Nat} {t : zTT} {u : zNN} {w : zW} {j : Nat} (hI : IVm g ad t u w) (hR : REY t u.1 (48 * j)) {r : Nat} (hJ : 7 * j + 7 ≤ g.2.2 41) (hL : g.2.2 41 ≤ 3584) (ih : LWI g ad j r) : DW g M_Lw_law lwQ w 1778 [(5, .int (nI (7 * j))), (4, .ref (ad 70)), (3, .ref (ad 69)), (2, .ref (ad 52)), (1, .ref (ad 0)), (0, .ref (g.2.2 40))] [] (100 * (r + 1)) (1000 * (r + 1)) := by
  refine y_base (cs := []) (z_I.nil w) ?_
  refine y_aload_n d_Lw_law_1778 rfl 4 rfl ?_
  refine y_aload d_Lw_law_1779 1 rfl ?_
  refine yw_callSX (As := [.ref (ad 0), .ref (ad 70)]) (rest := []) ln_Lw_338 w_st_Lw_meanBar ok_Lw_law_Lw_meanBar d_Lw_law_1781 (fun wA hA => W_meanBar (IVm.nil hA hI)) rfl rfl (Nat.le_of_ble_eq_true rfl) (by omega) (by omega) (fun wA1781 hA1781 E wB1781 hx => ?_) (fun wA1781 hA1781 v wB1781 hx => ?_)
  · obtain ⟨⟨v9, e1⟩, -⟩ := hx
    cases e1
  · obtain ⟨⟨v9, e1⟩, hI2⟩ := hx
    cases e1
    refine yw_st (st2 := [.int v9]) rfl ?_
    have hI := hI2
    refine y_base (cs := []) (z_I.nil _) ?_
    refine y_istore (lv' := [(6, .int v9), (5, .int (nI (7 * j))), (4, .ref (ad 70)), (3, .ref (ad 69)), (2, .ref (ad 52)), (1, .ref (ad 0)), (0, .ref (g.2.2 40))]) d_Lw_law_1784 (by decide) rfl ?_
    refine y_aload_n d_Lw_law_1786 rfl 4 rfl ?_
    refine yw_callVL (As := []) (rest := []) (ci := 12) rfl (fun wA hA => (IVm.nil hA hI).rm) ln_Lw_340 w_im_Mm_meanBar w_se_Mm_meanBar ok_Lw_law_Mm_meanBar d_Lw_law_1787 (fun wA hA => K_Mm_meanBar (IVm.nil hA hI)) rfl rfl (Nat.le_of_ble_eq_true rfl) (by omega) (by omega) (fun wA1787 hA1787 E wB1787 hx => ?_) (fun wA1787 hA1787 v wB1787 hx => ?_)
    · obtain ⟨⟨v9, e1⟩, -⟩ := hx
      cases e1
    · obtain ⟨⟨v8, e1⟩, hI2⟩ := hx
      cases e1
      refine yw_st (st2 := [.double v8]) rfl ?_
      have hI := hI2
      refine y_base (cs := []) (z_I.nil _) ?_
      refine y_dstore (lv' := [(7, .double v8), (6, .int v9), (5, .int (nI (7 * j))), (4, .ref (ad 70)), (3, .ref (ad 69)), (2, .ref (ad 52)), (1, .ref (ad 0)), (0, .ref (g.2.2 40))]) d_Lw_law_1790 (by decide) rfl ?_
      refine y_goto (tgt := 1808) d_Lw_law_1792 (by decide) ?_
      refine y_lv (lv' := [(5, .int (nI (7 * j))), (4, .ref (ad 70)), (3, .ref (ad 69)), (2, .ref (ad 52)), (1, .ref (ad 0)), (0, .ref (g.2.2 40))]) [2, 3, 4, 5, 6, 7] rfl ?_
      refine y_end (fun wC hC => ?_)
      exact LC_next (IVm.nil hC hI) (hR.up (by omega)) hJ hL ih (by omega) (by omega)
end
section
theorem d_Lw_law_260 : decode code 260 = .ok (.aload_n 1, 1) := zo_43 (zd_b zq_code_8 4 rfl rfl rfl)
theorem d_Lw_law_261 : decode code 261 = .ok (.aload_n 0, 1) := zo_42 (zd_b zq_code_8 5 rfl rfl rfl)
theorem d_Lw_law_262 : decode code 262 = .ok (.iload 5, 2) := zo_21 (d := 5) (zd_b zq_code_8 6 rfl rfl rfl) (zd_b zq_code_8 7 rfl rfl rfl)
theorem d_Lw_law_264 : decode code 264 = .ok (.iconst 1, 1) := zo_4 (zd_b zq_code_8 8 rfl rfl rfl)
theorem d_Lw_law_265 : decode code 265 = .ok (.iadd, 1) := zo_96 (zd_b zq_code_8 9 rfl rfl rfl)
theorem d_Lw_law_266 : decode code 266 = .ok (.iaload, 1) := zo_46 (zd_b zq_code_8 10 rfl rfl rfl)
theorem d_Lw_law_267 : decode code 267 = .ok (.i2c, 1) := zo_146 (zd_b zq_code_8 11 rfl rfl rfl)
theorem d_Lw_law_268 : decode code 268 = .ok (.aload_n 0, 1) := zo_42 (zd_b zq_code_8 12 rfl rfl rfl)
theorem d_Lw_law_269 : decode code 269 = .ok (.iload 5, 2) := zo_21 (d := 5) (zd_b zq_code_8 13 rfl rfl rfl) (zd_b zq_code_8 14 rfl rfl rfl)
theorem d_Lw_law_271 : decode code 271 = .ok (.iconst 2, 1) := zo_5 (zd_b zq_code_8 15 rfl rfl rfl)
theorem d_Lw_law_272 : decode code 272 = .ok (.iadd, 1) := zo_96 (zd_b zq_code_8 16 rfl rfl rfl)
theorem d_Lw_law_273 : decode code 273 = .ok (.iaload, 1) := zo_46 (zd_b zq_code_8 17 rfl rfl rfl)
theorem d_Lw_law_274 : decode code 274 = .ok (.aload_n 0, 1) := zo_42 (zd_b zq_code_8 18 rfl rfl rfl)
theorem d_Lw_law_275 : decode code 275 = .ok (.iload 5, 2) := zo_21 (d := 5) (zd_b zq_code_8 19 rfl rfl rfl) (zd_b zq_code_8 20 rfl rfl rfl)
theorem d_Lw_law_277 : decode code 277 = .ok (.iconst 3, 1) := zo_6 (zd_b zq_code_8 21 rfl rfl rfl)
theorem d_Lw_law_278 : decode code 278 = .ok (.iadd, 1) := zo_96 (zd_b zq_code_8 22 rfl rfl rfl)
theorem d_Lw_law_279 : decode code 279 = .ok (.iaload, 1) := zo_46 (zd_b zq_code_8 23 rfl rfl rfl)
theorem d_Lw_law_280 : decode code 280 = .ok (.aload_n 0, 1) := zo_42 (zd_b zq_code_8 24 rfl rfl rfl)
theorem d_Lw_law_281 : decode code 281 = .ok (.iload 5, 2) := zo_21 (d := 5) (zd_b zq_code_8 25 rfl rfl rfl) (zd_b zq_code_8 26 rfl rfl rfl)
theorem d_Lw_law_283 : decode code 283 = .ok (.iconst 4, 1) := zo_7 (zd_b zq_code_8 27 rfl rfl rfl)
theorem d_Lw_law_284 : decode code 284 = .ok (.iadd, 1) := zo_96 (zd_b zq_code_8 28 rfl rfl rfl)
theorem d_Lw_law_285 : decode code 285 = .ok (.iaload, 1) := zo_46 (zd_b zq_code_8 29 rfl rfl rfl)
theorem d_Lw_law_286 : decode code 286 = .ok (.aload_n 0, 1) := zo_42 (zd_b zq_code_8 30 rfl rfl rfl)
theorem d_Lw_law_287 : decode code 287 = .ok (.iload 5, 2) := zo_21 (d := 5) (zd_b zq_code_8 31 rfl rfl rfl) (zd_b zq_code_9 0 rfl rfl rfl)
theorem d_Lw_law_289 : decode code 289 = .ok (.iconst 5, 1) := zo_8 (zd_b zq_code_9 1 rfl rfl rfl)
theorem d_Lw_law_290 : decode code 290 = .ok (.iadd, 1) := zo_96 (zd_b zq_code_9 2 rfl rfl rfl)
theorem d_Lw_law_291 : decode code 291 = .ok (.iaload, 1) := zo_46 (zd_b zq_code_9 3 rfl rfl rfl)
theorem d_Lw_law_292 : decode code 292 = .ok (.aload_n 3, 1) := zo_45 (zd_b zq_code_9 4 rfl rfl rfl)
theorem d_Lw_law_293 : decode code 293 = .ok (.invokestatic 169, 3) := zo_184 (d := 0) (e := 169) (zd_b zq_code_9 5 rfl rfl rfl) (zd_b zq_code_9 6 rfl rfl rfl) (zd_b zq_code_9 7 rfl rfl rfl)
theorem ok_Lw_law_Lw_draw : z_okX M_Lw_law M_Lw_draw 7 := ⟨z_mj3 (i := 48) rfl (by decide +kernel), by decide, ⟨by decide +kernel, by decide +kernel, by decide +kernel⟩, ⟨by decide, by decide⟩, z_mj1 (i := 0) rfl (by decide +kernel), rfl⟩
theorem ln_Lw_169 : Cond.methodLink "IronpourLaw" 169 M_Lw_draw.1 ∈ z_gw := z_mj3 (i := 46) rfl (by decide +kernel)
theorem w_st_Lw_draw : Cond.static M_Lw_draw.1 ∈ z_gw := z_mj3 (i := 47) rfl (by decide +kernel)
theorem d_Lw_law_296 : decode code 296 = .ok (.istore 6, 2) := zo_54 (d := 6) (zd_b zq_code_9 8 rfl rfl rfl) (zd_b zq_code_9 9 rfl rfl rfl)
theorem d_Lw_law_298 : decode code 298 = .ok (.aload_n 2, 1) := zo_44 (zd_b zq_code_9 10 rfl rfl rfl)
theorem d_Lw_law_299 : decode code 299 = .ok (.aload_n 0, 1) := zo_42 (zd_b zq_code_9 11 rfl rfl rfl)
theorem d_Lw_law_300 : decode code 300 = .ok (.iload 5, 2) := zo_21 (d := 5) (zd_b zq_code_9 12 rfl rfl rfl) (zd_b zq_code_9 13 rfl rfl rfl)
theorem d_Lw_law_302 : decode code 302 = .ok (.iconst 1, 1) := zo_4 (zd_b zq_code_9 14 rfl rfl rfl)
theorem d_Lw_law_303 : decode code 303 = .ok (.iadd, 1) := zo_96 (zd_b zq_code_9 15 rfl rfl rfl)
theorem d_Lw_law_304 : decode code 304 = .ok (.iaload, 1) := zo_46 (zd_b zq_code_9 16 rfl rfl rfl)
theorem d_Lw_law_305 : decode code 305 = .ok (.i2c, 1) := zo_146 (zd_b zq_code_9 17 rfl rfl rfl)
theorem d_Lw_law_306 : decode code 306 = .ok (.aload_n 0, 1) := zo_42 (zd_b zq_code_9 18 rfl rfl rfl)
theorem d_Lw_law_307 : decode code 307 = .ok (.iload 5, 2) := zo_21 (d := 5) (zd_b zq_code_9 19 rfl rfl rfl) (zd_b zq_code_9 20 rfl rfl rfl)
theorem d_Lw_law_309 : decode code 309 = .ok (.iconst 2, 1) := zo_5 (zd_b zq_code_9 21 rfl rfl rfl)
theorem d_Lw_law_310 : decode code 310 = .ok (.iadd, 1) := zo_96 (zd_b zq_code_9 22 rfl rfl rfl)
theorem d_Lw_law_311 : decode code 311 = .ok (.iaload, 1) := zo_46 (zd_b zq_code_9 23 rfl rfl rfl)
theorem d_Lw_law_312 : decode code 312 = .ok (.aload_n 0, 1) := zo_42 (zd_b zq_code_9 24 rfl rfl rfl)
theorem d_Lw_law_313 : decode code 313 = .ok (.iload 5, 2) := zo_21 (d := 5) (zd_b zq_code_9 25 rfl rfl rfl) (zd_b zq_code_9 26 rfl rfl rfl)
theorem d_Lw_law_315 : decode code 315 = .ok (.iconst 3, 1) := zo_6 (zd_b zq_code_9 27 rfl rfl rfl)
theorem d_Lw_law_316 : decode code 316 = .ok (.iadd, 1) := zo_96 (zd_b zq_code_9 28 rfl rfl rfl)
theorem d_Lw_law_317 : decode code 317 = .ok (.iaload, 1) := zo_46 (zd_b zq_code_9 29 rfl rfl rfl)
theorem d_Lw_law_318 : decode code 318 = .ok (.aload_n 0, 1) := zo_42 (zd_b zq_code_9 30 rfl rfl rfl)
theorem d_Lw_law_319 : decode code 319 = .ok (.iload 5, 2) := zo_21 (d := 5) (zd_b zq_code_9 31 rfl rfl rfl) (zd_b zq_code_10 0 rfl rfl rfl)
theorem d_Lw_law_321 : decode code 321 = .ok (.iconst 4, 1) := zo_7 (zd_b zq_code_10 1 rfl rfl rfl)
theorem d_Lw_law_322 : decode code 322 = .ok (.iadd, 1) := zo_96 (zd_b zq_code_10 2 rfl rfl rfl)
theorem d_Lw_law_323 : decode code 323 = .ok (.iaload, 1) := zo_46 (zd_b zq_code_10 3 rfl rfl rfl)
theorem d_Lw_law_324 : decode code 324 = .ok (.aload_n 0, 1) := zo_42 (zd_b zq_code_10 4 rfl rfl rfl)
theorem d_Lw_law_325 : decode code 325 = .ok (.iload 5, 2) := zo_21 (d := 5) (zd_b zq_code_10 5 rfl rfl rfl) (zd_b zq_code_10 6 rfl rfl rfl)
theorem d_Lw_law_327 : decode code 327 = .ok (.iconst 5, 1) := zo_8 (zd_b zq_code_10 7 rfl rfl rfl)
theorem d_Lw_law_328 : decode code 328 = .ok (.iadd, 1) := zo_96 (zd_b zq_code_10 8 rfl rfl rfl)
theorem d_Lw_law_329 : decode code 329 = .ok (.iaload, 1) := zo_46 (zd_b zq_code_10 9 rfl rfl rfl)
theorem d_Lw_law_330 : decode code 330 = .ok (.invokevirtual 174, 3) := zo_182 (d := 0) (e := 174) (zd_b zq_code_10 10 rfl rfl rfl) (zd_b zq_code_10 11 rfl rfl rfl) (zd_b zq_code_10 12 rfl rfl rfl)
theorem ok_Lw_law_Mm_draw : z_ok M_Lw_law M_Mm_draw 5 := ⟨z_mj7 (i := 184) rfl (by decide +kernel), rfl, ⟨by decide +kernel, by decide +kernel, by decide +kernel⟩, ⟨by decide, by decide⟩, z_mj1 (i := 14) rfl (by decide +kernel), rfl⟩
theorem ln_Lw_174 : Cond.methodLink "IronpourLaw" 174 M_Mm_draw.1 ∈ z_gw := z_mj7 (i := 181) rfl (by decide +kernel)
theorem w_im_Mm_draw : Cond.instanceMethod M_Mm_draw.1 ∈ z_gw := z_mj7 (i := 182) rfl (by decide +kernel)
theorem w_se_Mm_draw : Cond.selects M_Mm_draw.1.cls M_Mm_draw.1 M_Mm_draw.1 ∈ z_gw := z_mj7 (i := 183) rfl (by decide +kernel)
theorem d_Lw_law_333 : decode code 333 = .ok (.istore 7, 2) := zo_54 (d := 7) (zd_b zq_code_10 13 rfl rfl rfl) (zd_b zq_code_10 14 rfl rfl rfl)
theorem d_Lw_law_335 : decode code 335 = .ok (.goto 1473, 3) := zo_167 (d := 5) (e := 193) (zd_b zq_code_10 15 rfl rfl rfl) (zd_b zq_code_10 16 rfl rfl rfl) (zd_b zq_code_10 17 rfl rfl rfl) (by decide +kernel)
set_option maxHeartbeats 4000000 in
set_option maxRecDepth 100000 in
theorem LC_draw {g : zG} {ad : Nat → Nat} {t : zTT} {u : zNN} {w : zW} {j : Nat} (hI : IVm g ad t u w) (hR : REY t u.1 (48 * j)) {r : Nat} (hJ : 7 * j + 7 ≤ g.2.2 41) (hL : g.2.2 41 ≤ 3584) (ih : LWI g ad j r) : DW g M_Lw_law lwQ w 260 [(5, .int (nI (7 * j))), (4, .ref (ad 70)), (3, .ref (ad 69)), (2, .ref (ad 52)), (1, .ref (ad 0)), (0, .ref (g.2.2 40))] [] (100 * (r + 1)) (1000 * (r + 1)) := by
  refine y_base (cs := []) (z_I.nil w) ?_
  refine y_aload_n d_Lw_law_260 rfl 4 rfl ?_
  refine y_aload_n d_Lw_law_261 rfl 5 rfl ?_
  refine y_iload d_Lw_law_262 0 rfl ?_
  refine y_iconst d_Lw_law_264 (v := 1) (by decide) ?_
  refine y_iadd d_Lw_law_265 (v := nI ((7 * j) + 1)) (nI_add _ _) ?_
  refine y_sld (v := zs g (7 * j + 1)) d_Lw_law_266 (vp_in_nI (by omega) (by omega)) (by rw [nI_clamp (by omega)]; rfl) ?_
  refine y_i2c d_Lw_law_267 (v := zc g (7 * j + 1)) rfl ?_
  refine y_aload_n d_Lw_law_268 rfl 5 rfl ?_
  refine y_iload d_Lw_law_269 0 rfl ?_
  refine y_iconst d_Lw_law_271 (v := 2) (by decide) ?_
  refine y_iadd d_Lw_law_272 (v := nI ((7 * j) + 2)) (nI_add _ _) ?_
  refine y_sld (v := zs g (7 * j + 2)) d_Lw_law_273 (vp_in_nI (by omega) (by omega)) (by rw [nI_clamp (by omega)]; rfl) ?_
  refine y_aload_n d_Lw_law_274 rfl 5 rfl ?_
  refine y_iload d_Lw_law_275 0 rfl ?_
  refine y_iconst d_Lw_law_277 (v := 3) (by decide) ?_
  refine y_iadd d_Lw_law_278 (v := nI ((7 * j) + 3)) (nI_add _ _) ?_
  refine y_sld (v := zs g (7 * j + 3)) d_Lw_law_279 (vp_in_nI (by omega) (by omega)) (by rw [nI_clamp (by omega)]; rfl) ?_
  refine y_aload_n d_Lw_law_280 rfl 5 rfl ?_
  refine y_iload d_Lw_law_281 0 rfl ?_
  refine y_iconst d_Lw_law_283 (v := 4) (by decide) ?_
  refine y_iadd d_Lw_law_284 (v := nI ((7 * j) + 4)) (nI_add _ _) ?_
  refine y_sld (v := zs g (7 * j + 4)) d_Lw_law_285 (vp_in_nI (by omega) (by omega)) (by rw [nI_clamp (by omega)]; rfl) ?_
  refine y_aload_n d_Lw_law_286 rfl 5 rfl ?_
  refine y_iload d_Lw_law_287 0 rfl ?_
  refine y_iconst d_Lw_law_289 (v := 5) (by decide) ?_
  refine y_iadd d_Lw_law_290 (v := nI ((7 * j) + 5)) (nI_add _ _) ?_
  refine y_sld (v := zs g (7 * j + 5)) d_Lw_law_291 (vp_in_nI (by omega) (by omega)) (by rw [nI_clamp (by omega)]; rfl) ?_
  refine y_aload_n d_Lw_law_292 rfl 2 rfl ?_
  refine yw_callSX (As := [.ref (ad 0), .int (zc g (7 * j + 1)), .int (zs g (7 * j + 2)), .int (zs g (7 * j + 3)), .int (zs g (7 * j + 4)), .int (zs g (7 * j + 5)), .ref (ad 69)]) (rest := []) ln_Lw_169 w_st_Lw_draw ok_Lw_law_Lw_draw d_Lw_law_293 (fun wA hA => W_draw (IVm.nil hA hI) _ _ _ _ _) rfl rfl (Nat.le_of_ble_eq_true rfl) (by omega) (by omega) (fun wA293 hA293 E wB293 hx => ?_) (fun wA293 hA293 v wB293 hx => ?_)
  · obtain ⟨⟨v9, e1⟩, -⟩ := hx
    cases e1
  · obtain ⟨⟨v9, e1⟩, uC, huC, hI2⟩ := hx
    cases e1
    refine yw_st (st2 := [.int v9]) rfl ?_
    have hI := hI2
    refine y_base (cs := []) (z_I.nil _) ?_
    refine y_istore (lv' := [(6, .int v9), (5, .int (nI (7 * j))), (4, .ref (ad 70)), (3, .ref (ad 69)), (2, .ref (ad 52)), (1, .ref (ad 0)), (0, .ref (g.2.2 40))]) d_Lw_law_296 (by decide) rfl ?_
    refine y_aload_n d_Lw_law_298 rfl 4 rfl ?_
    refine y_aload_n d_Lw_law_299 rfl 6 rfl ?_
    refine y_iload d_Lw_law_300 1 rfl ?_
    refine y_iconst d_Lw_law_302 (v := 1) (by decide) ?_
    refine y_iadd d_Lw_law_303 (v := nI ((7 * j) + 1)) (nI_add _ _) ?_
    refine y_sld (v := zs g (7 * j + 1)) d_Lw_law_304 (vp_in_nI (by omega) (by omega)) (by rw [nI_clamp (by omega)]; rfl) ?_
    refine y_i2c d_Lw_law_305 (v := zc g (7 * j + 1)) rfl ?_
    refine y_aload_n d_Lw_law_306 rfl 6 rfl ?_
    refine y_iload d_Lw_law_307 1 rfl ?_
    refine y_iconst d_Lw_law_309 (v := 2) (by decide) ?_
    refine y_iadd d_Lw_law_310 (v := nI ((7 * j) + 2)) (nI_add _ _) ?_
    refine y_sld (v := zs g (7 * j + 2)) d_Lw_law_311 (vp_in_nI (by omega) (by omega)) (by rw [nI_clamp (by omega)]; rfl) ?_
    refine y_aload_n d_Lw_law_312 rfl 6 rfl ?_
    refine y_iload d_Lw_law_313 1 rfl ?_
    refine y_iconst d_Lw_law_315 (v := 3) (by decide) ?_
    refine y_iadd d_Lw_law_316 (v := nI ((7 * j) + 3)) (nI_add _ _) ?_
    refine y_sld (v := zs g (7 * j + 3)) d_Lw_law_317 (vp_in_nI (by omega) (by omega)) (by rw [nI_clamp (by omega)]; rfl) ?_
    refine y_aload_n d_Lw_law_318 rfl 6 rfl ?_
    refine y_iload d_Lw_law_319 1 rfl ?_
    refine y_iconst d_Lw_law_321 (v := 4) (by decide) ?_
    refine y_iadd d_Lw_law_322 (v := nI ((7 * j) + 4)) (nI_add _ _) ?_
    refine y_sld (v := zs g (7 * j + 4)) d_Lw_law_323 (vp_in_nI (by omega) (by omega)) (by rw [nI_clamp (by omega)]; rfl) ?_
    refine y_aload_n d_Lw_law_324 rfl 6 rfl ?_
    refine y_iload d_Lw_law_325 1 rfl ?_
    refine y_iconst d_Lw_law_327 (v := 5) (by decide) ?_
    refine y_iadd d_Lw_law_328 (v := nI ((7 * j) + 5)) (nI_add _ _) ?_
    refine y_sld (v := zs g (7 * j + 5)) d_Lw_law_329 (vp_in_nI (by omega) (by omega)) (by rw [nI_clamp (by omega)]; rfl) ?_
    refine yw_callVL (As := [.int (zc g (7 * j + 1)), .int (zs g (7 * j + 2)), .int (zs g (7 * j + 3)), .int (zs g (7 * j + 4)), .int (zs g (7 * j + 5))]) (rest := []) (ci := 12) rfl (fun wA hA => (IVm.nil hA hI).rm) ln_Lw_174 w_im_Mm_draw w_se_Mm_draw ok_Lw_law_Mm_draw d_Lw_law_330 (fun wA hA => K_Mm_draw (IVm.nil hA hI) _ _ _ _ _) rfl rfl (Nat.le_of_ble_eq_true rfl) (by omega) (by omega) (fun wA330 hA330 E wB330 hx => ?_) (fun wA330 hA330 v wB330 hx => ?_)
    · obtain ⟨⟨v8, e1⟩, -⟩ := hx
      cases e1
    · obtain ⟨⟨v8, e1⟩, uM, huM, hI2⟩ := hx
      cases e1
      refine yw_st (st2 := [.int v8]) rfl ?_
      have hI := hI2
      refine y_base (cs := []) (z_I.nil _) ?_
      refine y_istore (lv' := [(7, .int v8), (6, .int v9), (5, .int (nI (7 * j))), (4, .ref (ad 70)), (3, .ref (ad 69)), (2, .ref (ad 52)), (1, .ref (ad 0)), (0, .ref (g.2.2 40))]) d_Lw_law_333 (by decide) rfl ?_
      refine y_goto (tgt := 1808) d_Lw_law_335 (by decide) ?_
      refine y_lv (lv' := [(5, .int (nI (7 * j))), (4, .ref (ad 70)), (3, .ref (ad 69)), (2, .ref (ad 52)), (1, .ref (ad 0)), (0, .ref (g.2.2 40))]) [2, 3, 4, 5, 6, 7] rfl ?_
      refine y_end (fun wC hC => ?_)
      exact LC_next (IVm.nil hC hI) ((RY_draw (b := 48 * j) (by omega) _ _ _ _ _ hR huC huM).up (by omega)) hJ hL ih (by omega) (by omega)
theorem d_Lw_law_338 : decode code 338 = .ok (.aload_n 1, 1) := zo_43 (zd_b zq_code_10 18 rfl rfl rfl)
theorem d_Lw_law_339 : decode code 339 = .ok (.aload_n 0, 1) := zo_42 (zd_b zq_code_10 19 rfl rfl rfl)
theorem d_Lw_law_340 : decode code 340 = .ok (.iload 5, 2) := zo_21 (d := 5) (zd_b zq_code_10 20 rfl rfl rfl) (zd_b zq_code_10 21 rfl rfl rfl)
theorem d_Lw_law_342 : decode code 342 = .ok (.iconst 1, 1) := zo_4 (zd_b zq_code_10 22 rfl rfl rfl)
theorem d_Lw_law_343 : decode code 343 = .ok (.iadd, 1) := zo_96 (zd_b zq_code_10 23 rfl rfl rfl)
theorem d_Lw_law_344 : decode code 344 = .ok (.iaload, 1) := zo_46 (zd_b zq_code_10 24 rfl rfl rfl)
theorem d_Lw_law_345 : decode code 345 = .ok (.aload_n 0, 1) := zo_42 (zd_b zq_code_10 25 rfl rfl rfl)
theorem d_Lw_law_346 : decode code 346 = .ok (.iload 5, 2) := zo_21 (d := 5) (zd_b zq_code_10 26 rfl rfl rfl) (zd_b zq_code_10 27 rfl rfl rfl)
theorem d_Lw_law_348 : decode code 348 = .ok (.iconst 2, 1) := zo_5 (zd_b zq_code_10 28 rfl rfl rfl)
theorem d_Lw_law_349 : decode code 349 = .ok (.iadd, 1) := zo_96 (zd_b zq_code_10 29 rfl rfl rfl)
theorem d_Lw_law_350 : decode code 350 = .ok (.iaload, 1) := zo_46 (zd_b zq_code_10 30 rfl rfl rfl)
theorem d_Lw_law_351 : decode code 351 = .ok (.aload_n 3, 1) := zo_45 (zd_b zq_code_10 31 rfl rfl rfl)
theorem d_Lw_law_352 : decode code 352 = .ok (.invokestatic 175, 3) := zo_184 (d := 0) (e := 175) (zd_b zq_code_11 0 rfl rfl rfl) (zd_b zq_code_11 1 rfl rfl rfl) (zd_b zq_code_11 2 rfl rfl rfl)
theorem ok_Lw_law_Lw_cell : z_okX M_Lw_law M_Lw_cell 4 := ⟨z_mj3 (i := 231) rfl (by decide +kernel), by decide, ⟨by decide +kernel, by decide +kernel, by decide +kernel⟩, ⟨by decide, by decide⟩, z_mj1 (i := 0) rfl (by decide +kernel), rfl⟩
theorem ln_Lw_175 : Cond.methodLink "IronpourLaw" 175 M_Lw_cell.1 ∈ z_gw := z_mj3 (i := 229) rfl (by decide +kernel)
theorem w_st_Lw_cell : Cond.static M_Lw_cell.1 ∈ z_gw := z_mj3 (i := 230) rfl (by decide +kernel)
theorem d_Lw_law_355 : decode code 355 = .ok (.istore 6, 2) := zo_54 (d := 6) (zd_b zq_code_11 3 rfl rfl rfl) (zd_b zq_code_11 4 rfl rfl rfl)
theorem d_Lw_law_357 : decode code 357 = .ok (.aload_n 2, 1) := zo_44 (zd_b zq_code_11 5 rfl rfl rfl)
theorem d_Lw_law_358 : decode code 358 = .ok (.aload_n 0, 1) := zo_42 (zd_b zq_code_11 6 rfl rfl rfl)
theorem d_Lw_law_359 : decode code 359 = .ok (.iload 5, 2) := zo_21 (d := 5) (zd_b zq_code_11 7 rfl rfl rfl) (zd_b zq_code_11 8 rfl rfl rfl)
theorem d_Lw_law_361 : decode code 361 = .ok (.iconst 1, 1) := zo_4 (zd_b zq_code_11 9 rfl rfl rfl)
theorem d_Lw_law_362 : decode code 362 = .ok (.iadd, 1) := zo_96 (zd_b zq_code_11 10 rfl rfl rfl)
theorem d_Lw_law_363 : decode code 363 = .ok (.iaload, 1) := zo_46 (zd_b zq_code_11 11 rfl rfl rfl)
theorem d_Lw_law_364 : decode code 364 = .ok (.aload_n 0, 1) := zo_42 (zd_b zq_code_11 12 rfl rfl rfl)
theorem d_Lw_law_365 : decode code 365 = .ok (.iload 5, 2) := zo_21 (d := 5) (zd_b zq_code_11 13 rfl rfl rfl) (zd_b zq_code_11 14 rfl rfl rfl)
theorem d_Lw_law_367 : decode code 367 = .ok (.iconst 2, 1) := zo_5 (zd_b zq_code_11 15 rfl rfl rfl)
theorem d_Lw_law_368 : decode code 368 = .ok (.iadd, 1) := zo_96 (zd_b zq_code_11 16 rfl rfl rfl)
theorem d_Lw_law_369 : decode code 369 = .ok (.iaload, 1) := zo_46 (zd_b zq_code_11 17 rfl rfl rfl)
theorem d_Lw_law_370 : decode code 370 = .ok (.invokevirtual 178, 3) := zo_182 (d := 0) (e := 178) (zd_b zq_code_11 18 rfl rfl rfl) (zd_b zq_code_11 19 rfl rfl rfl) (zd_b zq_code_11 20 rfl rfl rfl)
theorem ok_Lw_law_Mm_cell : z_ok M_Lw_law M_Mm_cell 2 := ⟨z_mj7 (i := 200) rfl (by decide +kernel), rfl, ⟨by decide +kernel, by decide +kernel, by decide +kernel⟩, ⟨by decide, by decide⟩, z_mj1 (i := 14) rfl (by decide +kernel), rfl⟩
theorem ln_Lw_178 : Cond.methodLink "IronpourLaw" 178 M_Mm_cell.1 ∈ z_gw := z_mj7 (i := 197) rfl (by decide +kernel)
theorem w_im_Mm_cell : Cond.instanceMethod M_Mm_cell.1 ∈ z_gw := z_mj7 (i := 198) rfl (by decide +kernel)
theorem w_se_Mm_cell : Cond.selects M_Mm_cell.1.cls M_Mm_cell.1 M_Mm_cell.1 ∈ z_gw := z_mj7 (i := 199) rfl (by decide +kernel)
theorem d_Lw_law_373 : decode code 373 = .ok (.istore 7, 2) := zo_54 (d := 7) (zd_b zq_code_11 21 rfl rfl rfl) (zd_b zq_code_11 22 rfl rfl rfl)
theorem d_Lw_law_375 : decode code 375 = .ok (.goto 1433, 3) := zo_167 (d := 5) (e := 153) (zd_b zq_code_11 23 rfl rfl rfl) (zd_b zq_code_11 24 rfl rfl rfl) (zd_b zq_code_11 25 rfl rfl rfl) (by decide +kernel)
set_option maxHeartbeats 4000000 in
set_option maxRecDepth 100000 in
theorem LC_cell {g : zG} {ad : Nat → Nat} {t : zTT} {u : zNN} {w : zW} {j : Nat} (hI : IVm g ad t u w) (hR : REY t u.1 (48 * j)) {r : Nat} (hJ : 7 * j + 7 ≤ g.2.2 41) (hL : g.2.2 41 ≤ 3584) (ih : LWI g ad j r) : DW g M_Lw_law lwQ w 338 [(5, .int (nI (7 * j))), (4, .ref (ad 70)), (3, .ref (ad 69)), (2, .ref (ad 52)), (1, .ref (ad 0)), (0, .ref (g.2.2 40))] [] (100 * (r + 1)) (1000 * (r + 1)) := by
  refine y_base (cs := []) (z_I.nil w) ?_
  refine y_aload_n d_Lw_law_338 rfl 4 rfl ?_
  refine y_aload_n d_Lw_law_339 rfl 5 rfl ?_
  refine y_iload d_Lw_law_340 0 rfl ?_
  refine y_iconst d_Lw_law_342 (v := 1) (by decide) ?_
  refine y_iadd d_Lw_law_343 (v := nI ((7 * j) + 1)) (nI_add _ _) ?_
  refine y_sld (v := zs g (7 * j + 1)) d_Lw_law_344 (vp_in_nI (by omega) (by omega)) (by rw [nI_clamp (by omega)]; rfl) ?_
  refine y_aload_n d_Lw_law_345 rfl 5 rfl ?_
  refine y_iload d_Lw_law_346 0 rfl ?_
  refine y_iconst d_Lw_law_348 (v := 2) (by decide) ?_
  refine y_iadd d_Lw_law_349 (v := nI ((7 * j) + 2)) (nI_add _ _) ?_
  refine y_sld (v := zs g (7 * j + 2)) d_Lw_law_350 (vp_in_nI (by omega) (by omega)) (by rw [nI_clamp (by omega)]; rfl) ?_
  refine y_aload_n d_Lw_law_351 rfl 2 rfl ?_
  refine yw_callSX (As := [.ref (ad 0), .int (zs g (7 * j + 1)), .int (zs g (7 * j + 2)), .ref (ad 69)]) (rest := []) ln_Lw_175 w_st_Lw_cell ok_Lw_law_Lw_cell d_Lw_law_352 (fun wA hA => W_cell (IVm.nil hA hI) _ _) rfl rfl (Nat.le_of_ble_eq_true rfl) (by omega) (by omega) (fun wA352 hA352 E wB352 hx => ?_) (fun wA352 hA352 v wB352 hx => ?_)
  · obtain ⟨⟨v9, e1⟩, -⟩ := hx
    cases e1
  · obtain ⟨⟨v9, e1⟩, uC, huC, hI2⟩ := hx
    cases e1
    refine yw_st (st2 := [.int v9]) rfl ?_
    have hI := hI2
    refine y_base (cs := []) (z_I.nil _) ?_
    refine y_istore (lv' := [(6, .int v9), (5, .int (nI (7 * j))), (4, .ref (ad 70)), (3, .ref (ad 69)), (2, .ref (ad 52)), (1, .ref (ad 0)), (0, .ref (g.2.2 40))]) d_Lw_law_355 (by decide) rfl ?_
    refine y_aload_n d_Lw_law_357 rfl 4 rfl ?_
    refine y_aload_n d_Lw_law_358 rfl 6 rfl ?_
    refine y_iload d_Lw_law_359 1 rfl ?_
    refine y_iconst d_Lw_law_361 (v := 1) (by decide) ?_
    refine y_iadd d_Lw_law_362 (v := nI ((7 * j) + 1)) (nI_add _ _) ?_
    refine y_sld (v := zs g (7 * j + 1)) d_Lw_law_363 (vp_in_nI (by omega) (by omega)) (by rw [nI_clamp (by omega)]; rfl) ?_
    refine y_aload_n d_Lw_law_364 rfl 6 rfl ?_
    refine y_iload d_Lw_law_365 1 rfl ?_
    refine y_iconst d_Lw_law_367 (v := 2) (by decide) ?_
    refine y_iadd d_Lw_law_368 (v := nI ((7 * j) + 2)) (nI_add _ _) ?_
    refine y_sld (v := zs g (7 * j + 2)) d_Lw_law_369 (vp_in_nI (by omega) (by omega)) (by rw [nI_clamp (by omega)]; rfl) ?_
    refine yw_callVL (As := [.int (zs g (7 * j + 1)), .int (zs g (7 * j + 2))]) (rest := []) (ci := 12) rfl (fun wA hA => (IVm.nil hA hI).rm) ln_Lw_178 w_im_Mm_cell w_se_Mm_cell ok_Lw_law_Mm_cell d_Lw_law_370 (fun wA hA => K_Mm_cell (IVm.nil hA hI) _ _) rfl rfl (Nat.le_of_ble_eq_true rfl) (by omega) (by omega) (fun wA370 hA370 E wB370 hx => ?_) (fun wA370 hA370 v wB370 hx => ?_)
    · obtain ⟨⟨v8, e1⟩, -⟩ := hx
      cases e1
    · obtain ⟨⟨v8, e1⟩, uM, huM, hI2⟩ := hx
      cases e1
      refine yw_st (st2 := [.int v8]) rfl ?_
      have hI := hI2
      refine y_base (cs := []) (z_I.nil _) ?_
      refine y_istore (lv' := [(7, .int v8), (6, .int v9), (5, .int (nI (7 * j))), (4, .ref (ad 70)), (3, .ref (ad 69)), (2, .ref (ad 52)), (1, .ref (ad 0)), (0, .ref (g.2.2 40))]) d_Lw_law_373 (by decide) rfl ?_
      refine y_goto (tgt := 1808) d_Lw_law_375 (by decide) ?_
      refine y_lv (lv' := [(5, .int (nI (7 * j))), (4, .ref (ad 70)), (3, .ref (ad 69)), (2, .ref (ad 52)), (1, .ref (ad 0)), (0, .ref (g.2.2 40))]) [2, 3, 4, 5, 6, 7] rfl ?_
      refine y_end (fun wC hC => ?_)
      exact LC_next (IVm.nil hC hI) ((hR.n (huM.trans huC)).up (by omega)) hJ hL ih (by omega) (by omega)
theorem d_Lw_law_378 : decode code 378 = .ok (.aload_n 1, 1) := zo_43 (zd_b zq_code_11 26 rfl rfl rfl)
theorem d_Lw_law_379 : decode code 379 = .ok (.aload_n 0, 1) := zo_42 (zd_b zq_code_11 27 rfl rfl rfl)
theorem d_Lw_law_380 : decode code 380 = .ok (.iload 5, 2) := zo_21 (d := 5) (zd_b zq_code_11 28 rfl rfl rfl) (zd_b zq_code_11 29 rfl rfl rfl)
theorem d_Lw_law_382 : decode code 382 = .ok (.iconst 1, 1) := zo_4 (zd_b zq_code_11 30 rfl rfl rfl)
theorem d_Lw_law_383 : decode code 383 = .ok (.iadd, 1) := zo_96 (zd_b zq_code_11 31 rfl rfl rfl)
theorem d_Lw_law_384 : decode code 384 = .ok (.iaload, 1) := zo_46 (zd_b zq_code_12 0 rfl rfl rfl)
theorem d_Lw_law_385 : decode code 385 = .ok (.aload_n 3, 1) := zo_45 (zd_b zq_code_12 1 rfl rfl rfl)
theorem d_Lw_law_386 : decode code 386 = .ok (.invokestatic 179, 3) := zo_184 (d := 0) (e := 179) (zd_b zq_code_12 2 rfl rfl rfl) (zd_b zq_code_12 3 rfl rfl rfl) (zd_b zq_code_12 4 rfl rfl rfl)
theorem ok_Lw_law_Lw_part : z_okX M_Lw_law M_Lw_part 3 := ⟨z_mj4 (i := 38) rfl (by decide +kernel), by decide, ⟨by decide +kernel, by decide +kernel, by decide +kernel⟩, ⟨by decide, by decide⟩, z_mj1 (i := 0) rfl (by decide +kernel), rfl⟩
theorem ln_Lw_179 : Cond.methodLink "IronpourLaw" 179 M_Lw_part.1 ∈ z_gw := z_mj4 (i := 36) rfl (by decide +kernel)
theorem w_st_Lw_part : Cond.static M_Lw_part.1 ∈ z_gw := z_mj4 (i := 37) rfl (by decide +kernel)
theorem d_Lw_law_389 : decode code 389 = .ok (.istore 6, 2) := zo_54 (d := 6) (zd_b zq_code_12 5 rfl rfl rfl) (zd_b zq_code_12 6 rfl rfl rfl)
theorem d_Lw_law_391 : decode code 391 = .ok (.aload_n 2, 1) := zo_44 (zd_b zq_code_12 7 rfl rfl rfl)
theorem d_Lw_law_392 : decode code 392 = .ok (.aload_n 0, 1) := zo_42 (zd_b zq_code_12 8 rfl rfl rfl)
theorem d_Lw_law_393 : decode code 393 = .ok (.iload 5, 2) := zo_21 (d := 5) (zd_b zq_code_12 9 rfl rfl rfl) (zd_b zq_code_12 10 rfl rfl rfl)
theorem d_Lw_law_395 : decode code 395 = .ok (.iconst 1, 1) := zo_4 (zd_b zq_code_12 11 rfl rfl rfl)
theorem d_Lw_law_396 : decode code 396 = .ok (.iadd, 1) := zo_96 (zd_b zq_code_12 12 rfl rfl rfl)
theorem d_Lw_law_397 : decode code 397 = .ok (.iaload, 1) := zo_46 (zd_b zq_code_12 13 rfl rfl rfl)
theorem d_Lw_law_398 : decode code 398 = .ok (.invokevirtual 182, 3) := zo_182 (d := 0) (e := 182) (zd_b zq_code_12 14 rfl rfl rfl) (zd_b zq_code_12 15 rfl rfl rfl) (zd_b zq_code_12 16 rfl rfl rfl)
theorem ok_Lw_law_Mm_part : z_ok M_Lw_law M_Mm_part 1 := ⟨z_mj7 (i := 204) rfl (by decide +kernel), rfl, ⟨by decide +kernel, by decide +kernel, by decide +kernel⟩, ⟨by decide, by decide⟩, z_mj1 (i := 14) rfl (by decide +kernel), rfl⟩
theorem ln_Lw_182 : Cond.methodLink "IronpourLaw" 182 M_Mm_part.1 ∈ z_gw := z_mj7 (i := 201) rfl (by decide +kernel)
theorem w_im_Mm_part : Cond.instanceMethod M_Mm_part.1 ∈ z_gw := z_mj7 (i := 202) rfl (by decide +kernel)
theorem w_se_Mm_part : Cond.selects M_Mm_part.1.cls M_Mm_part.1 M_Mm_part.1 ∈ z_gw := z_mj7 (i := 203) rfl (by decide +kernel)
theorem d_Lw_law_401 : decode code 401 = .ok (.istore 7, 2) := zo_54 (d := 7) (zd_b zq_code_12 17 rfl rfl rfl) (zd_b zq_code_12 18 rfl rfl rfl)
theorem d_Lw_law_403 : decode code 403 = .ok (.goto 1405, 3) := zo_167 (d := 5) (e := 125) (zd_b zq_code_12 19 rfl rfl rfl) (zd_b zq_code_12 20 rfl rfl rfl) (zd_b zq_code_12 21 rfl rfl rfl) (by decide +kernel)
set_option maxHeartbeats 4000000 in
set_option maxRecDepth 100000 in
theorem LC_part {g : zG} {ad : Nat → Nat} {t : zTT} {u : zNN} {w : zW} {j : Nat} (hI : IVm g ad t u w) (hR : REY t u.1 (48 * j)) {r : Nat} (hJ : 7 * j + 7 ≤ g.2.2 41) (hL : g.2.2 41 ≤ 3584) (ih : LWI g ad j r) : DW g M_Lw_law lwQ w 378 [(5, .int (nI (7 * j))), (4, .ref (ad 70)), (3, .ref (ad 69)), (2, .ref (ad 52)), (1, .ref (ad 0)), (0, .ref (g.2.2 40))] [] (100 * (r + 1)) (1000 * (r + 1)) := by
  refine y_base (cs := []) (z_I.nil w) ?_
  refine y_aload_n d_Lw_law_378 rfl 4 rfl ?_
  refine y_aload_n d_Lw_law_379 rfl 5 rfl ?_
  refine y_iload d_Lw_law_380 0 rfl ?_
  refine y_iconst d_Lw_law_382 (v := 1) (by decide) ?_
  refine y_iadd d_Lw_law_383 (v := nI ((7 * j) + 1)) (nI_add _ _) ?_
  refine y_sld (v := zs g (7 * j + 1)) d_Lw_law_384 (vp_in_nI (by omega) (by omega)) (by rw [nI_clamp (by omega)]; rfl) ?_
  refine y_aload_n d_Lw_law_385 rfl 2 rfl ?_
  refine yw_callSX (As := [.ref (ad 0), .int (zs g (7 * j + 1)), .ref (ad 69)]) (rest := []) ln_Lw_179 w_st_Lw_part ok_Lw_law_Lw_part d_Lw_law_386 (fun wA hA => W_part (IVm.nil hA hI) _) rfl rfl (Nat.le_of_ble_eq_true rfl) (by omega) (by omega) (fun wA386 hA386 E wB386 hx => ?_) (fun wA386 hA386 v wB386 hx => ?_)
  · obtain ⟨⟨v9, e1⟩, -⟩ := hx
    cases e1
  · obtain ⟨⟨v9, e1⟩, uC, huC, hI2⟩ := hx
    cases e1
    refine yw_st (st2 := [.int v9]) rfl ?_
    have hI := hI2
    refine y_base (cs := []) (z_I.nil _) ?_
    refine y_istore (lv' := [(6, .int v9), (5, .int (nI (7 * j))), (4, .ref (ad 70)), (3, .ref (ad 69)), (2, .ref (ad 52)), (1, .ref (ad 0)), (0, .ref (g.2.2 40))]) d_Lw_law_389 (by decide) rfl ?_
    refine y_aload_n d_Lw_law_391 rfl 4 rfl ?_
    refine y_aload_n d_Lw_law_392 rfl 6 rfl ?_
    refine y_iload d_Lw_law_393 1 rfl ?_
    refine y_iconst d_Lw_law_395 (v := 1) (by decide) ?_
    refine y_iadd d_Lw_law_396 (v := nI ((7 * j) + 1)) (nI_add _ _) ?_
    refine y_sld (v := zs g (7 * j + 1)) d_Lw_law_397 (vp_in_nI (by omega) (by omega)) (by rw [nI_clamp (by omega)]; rfl) ?_
    refine yw_callVL (As := [.int (zs g (7 * j + 1))]) (rest := []) (ci := 12) rfl (fun wA hA => (IVm.nil hA hI).rm) ln_Lw_182 w_im_Mm_part w_se_Mm_part ok_Lw_law_Mm_part d_Lw_law_398 (fun wA hA => K_Mm_part (IVm.nil hA hI) _) rfl rfl (Nat.le_of_ble_eq_true rfl) (by omega) (by omega) (fun wA398 hA398 E wB398 hx => ?_) (fun wA398 hA398 v wB398 hx => ?_)
    · obtain ⟨⟨v8, e1⟩, -⟩ := hx
      cases e1
    · obtain ⟨⟨v8, e1⟩, uM, huM, hI2⟩ := hx
      cases e1
      refine yw_st (st2 := [.int v8]) rfl ?_
      have hI := hI2
      refine y_base (cs := []) (z_I.nil _) ?_
      refine y_istore (lv' := [(7, .int v8), (6, .int v9), (5, .int (nI (7 * j))), (4, .ref (ad 70)), (3, .ref (ad 69)), (2, .ref (ad 52)), (1, .ref (ad 0)), (0, .ref (g.2.2 40))]) d_Lw_law_401 (by decide) rfl ?_
      refine y_goto (tgt := 1808) d_Lw_law_403 (by decide) ?_
      refine y_lv (lv' := [(5, .int (nI (7 * j))), (4, .ref (ad 70)), (3, .ref (ad 69)), (2, .ref (ad 52)), (1, .ref (ad 0)), (0, .ref (g.2.2 40))]) [2, 3, 4, 5, 6, 7] rfl ?_
      refine y_end (fun wC hC => ?_)
      exact LC_next (IVm.nil hC hI) ((RY_part (b := 48 * j) (by omega) _ hR huC huM).up (by omega)) hJ hL ih (by omega) (by omega)
theorem d_Lw_law_406 : decode code 406 = .ok (.aload_n 1, 1) := zo_43 (zd_b zq_code_12 22 rfl rfl rfl)
theorem d_Lw_law_407 : decode code 407 = .ok (.invokevirtual 183, 3) := zo_182 (d := 0) (e := 183) (zd_b zq_code_12 23 rfl rfl rfl) (zd_b zq_code_12 24 rfl rfl rfl) (zd_b zq_code_12 25 rfl rfl rfl)
theorem ok_Lw_law_Ip_undercut : z_ok M_Lw_law M_Ip_undercut 0 := ⟨z_mj2 (i := 103) rfl (by decide +kernel), rfl, ⟨by decide +kernel, by decide +kernel, by decide +kernel⟩, ⟨by decide, by decide⟩, z_mj1 (i := 1) rfl (by decide +kernel), rfl⟩
theorem ln_Lw_183 : Cond.methodLink "IronpourLaw" 183 M_Ip_undercut.1 ∈ z_gw := z_mj2 (i := 100) rfl (by decide +kernel)
theorem w_im_Ip_undercut : Cond.instanceMethod M_Ip_undercut.1 ∈ z_gw := z_mj2 (i := 101) rfl (by decide +kernel)
theorem w_se_Ip_undercut : Cond.selects M_Ip_undercut.1.cls M_Ip_undercut.1 M_Ip_undercut.1 ∈ z_gw := z_mj2 (i := 102) rfl (by decide +kernel)
theorem d_Lw_law_410 : decode code 410 = .ok (.pop, 1) := zo_87 (zd_b zq_code_12 26 rfl rfl rfl)
theorem d_Lw_law_411 : decode code 411 = .ok (.aload_n 2, 1) := zo_44 (zd_b zq_code_12 27 rfl rfl rfl)
theorem d_Lw_law_412 : decode code 412 = .ok (.invokevirtual 186, 3) := zo_182 (d := 0) (e := 186) (zd_b zq_code_12 28 rfl rfl rfl) (zd_b zq_code_12 29 rfl rfl rfl) (zd_b zq_code_12 30 rfl rfl rfl)
theorem ok_Lw_law_Mm_undercut : z_ok M_Lw_law M_Mm_undercut 0 := ⟨z_mj7 (i := 208) rfl (by decide +kernel), rfl, ⟨by decide +kernel, by decide +kernel, by decide +kernel⟩, ⟨by decide, by decide⟩, z_mj1 (i := 14) rfl (by decide +kernel), rfl⟩
theorem ln_Lw_186 : Cond.methodLink "IronpourLaw" 186 M_Mm_undercut.1 ∈ z_gw := z_mj7 (i := 205) rfl (by decide +kernel)
theorem w_im_Mm_undercut : Cond.instanceMethod M_Mm_undercut.1 ∈ z_gw := z_mj7 (i := 206) rfl (by decide +kernel)
theorem w_se_Mm_undercut : Cond.selects M_Mm_undercut.1.cls M_Mm_undercut.1 M_Mm_undercut.1 ∈ z_gw := z_mj7 (i := 207) rfl (by decide +kernel)
theorem d_Lw_law_415 : decode code 415 = .ok (.pop, 1) := zo_87 (zd_b zq_code_12 31 rfl rfl rfl)
theorem d_Lw_law_416 : decode code 416 = .ok (.goto 1392, 3) := zo_167 (d := 5) (e := 112) (zd_b zq_code_13 0 rfl rfl rfl) (zd_b zq_code_13 1 rfl rfl rfl) (zd_b zq_code_13 2 rfl rfl rfl) (by decide +kernel)
set_option maxHeartbeats 4000000 in
set_option maxRecDepth 100000 in
theorem LC_undercut {g : zG} {ad : Nat → Nat} {t : zTT} {u : zNN} {w : zW} {j : Nat} (hI : IVm g ad t u w) (hR : REY t u.1 (48 * j)) {r : Nat} (hJ : 7 * j + 7 ≤ g.2.2 41) (hL : g.2.2 41 ≤ 3584) (ih : LWI g ad j r) : DW g M_Lw_law lwQ w 406 [(5, .int (nI (7 * j))), (4, .ref (ad 70)), (3, .ref (ad 69)), (2, .ref (ad 52)), (1, .ref (ad 0)), (0, .ref (g.2.2 40))] [] (100 * (r + 1)) (1000 * (r + 1)) := by
  refine y_base (cs := []) (z_I.nil w) ?_
  refine y_aload_n d_Lw_law_406 rfl 4 rfl ?_
  refine yw_callVL (As := []) (rest := []) (ci := 11) rfl (fun wA hA => (IVm.nil hA hI).ra) ln_Lw_183 w_im_Ip_undercut w_se_Ip_undercut ok_Lw_law_Ip_undercut d_Lw_law_407 (fun wA hA => K_Ip_undercut (IVm.nil hA hI)) rfl rfl (Nat.le_of_ble_eq_true rfl) (by omega) (by omega) (fun wA407 hA407 E wB407 hx => ?_) (fun wA407 hA407 v wB407 hx => ?_)
  · obtain ⟨h1, -⟩ := hx
    cases zriE h1
  · obtain ⟨h1, uC, huC, hI2⟩ := hx
    obtain ⟨v9, rfl⟩ := zriV h1
    refine yw_st (st2 := [.int v9]) rfl ?_
    have hI := hI2
    refine y_base (cs := []) (z_I.nil _) ?_
    refine y_pop d_Lw_law_410 rfl ?_
    refine y_aload_n d_Lw_law_411 rfl 3 rfl ?_
    refine yw_callVL (As := []) (rest := []) (ci := 12) rfl (fun wA hA => (IVm.nil hA hI).rm) ln_Lw_186 w_im_Mm_undercut w_se_Mm_undercut ok_Lw_law_Mm_undercut d_Lw_law_412 (fun wA hA => K_Mm_undercut (IVm.nil hA hI)) rfl rfl (Nat.le_of_ble_eq_true rfl) (by omega) (by omega) (fun wA412 hA412 E wB412 hx => ?_) (fun wA412 hA412 v wB412 hx => ?_)
    · obtain ⟨⟨v8, e1⟩, -⟩ := hx
      cases e1
    · obtain ⟨⟨v8, e1⟩, uM, huM, hI2⟩ := hx
      cases e1
      refine yw_st (st2 := [.int v8]) rfl ?_
      have hI := hI2
      refine y_base (cs := []) (z_I.nil _) ?_
      refine y_pop d_Lw_law_415 rfl ?_
      refine y_goto (tgt := 1808) d_Lw_law_416 (by decide) ?_
      refine y_lv (lv' := [(5, .int (nI (7 * j))), (4, .ref (ad 70)), (3, .ref (ad 69)), (2, .ref (ad 52)), (1, .ref (ad 0)), (0, .ref (g.2.2 40))]) [0, 1, 2, 3, 4, 5] rfl ?_
      refine y_end (fun wC hC => ?_)
      exact LC_next (IVm.nil hC hI) ((hR.n (huM.trans huC)).up (by omega)) hJ hL ih (by omega) (by omega)
theorem d_Lw_law_419 : decode code 419 = .ok (.aload_n 1, 1) := zo_43 (zd_b zq_code_13 3 rfl rfl rfl)
theorem d_Lw_law_420 : decode code 420 = .ok (.invokevirtual 187, 3) := zo_182 (d := 0) (e := 187) (zd_b zq_code_13 4 rfl rfl rfl) (zd_b zq_code_13 5 rfl rfl rfl) (zd_b zq_code_13 6 rfl rfl rfl)
theorem ok_Lw_law_Ip_cores : z_ok M_Lw_law M_Ip_cores 0 := ⟨z_mj2 (i := 118) rfl (by decide +kernel), rfl, ⟨by decide +kernel, by decide +kernel, by decide +kernel⟩, ⟨by decide, by decide⟩, z_mj1 (i := 1) rfl (by decide +kernel), rfl⟩
theorem ln_Lw_187 : Cond.methodLink "IronpourLaw" 187 M_Ip_cores.1 ∈ z_gw := z_mj2 (i := 115) rfl (by decide +kernel)
theorem w_im_Ip_cores : Cond.instanceMethod M_Ip_cores.1 ∈ z_gw := z_mj2 (i := 116) rfl (by decide +kernel)
theorem w_se_Ip_cores : Cond.selects M_Ip_cores.1.cls M_Ip_cores.1 M_Ip_cores.1 ∈ z_gw := z_mj2 (i := 117) rfl (by decide +kernel)
theorem d_Lw_law_423 : decode code 423 = .ok (.pop, 1) := zo_87 (zd_b zq_code_13 7 rfl rfl rfl)
theorem d_Lw_law_424 : decode code 424 = .ok (.aload_n 2, 1) := zo_44 (zd_b zq_code_13 8 rfl rfl rfl)
theorem d_Lw_law_425 : decode code 425 = .ok (.invokevirtual 190, 3) := zo_182 (d := 0) (e := 190) (zd_b zq_code_13 9 rfl rfl rfl) (zd_b zq_code_13 10 rfl rfl rfl) (zd_b zq_code_13 11 rfl rfl rfl)
theorem ok_Lw_law_Mm_cores : z_ok M_Lw_law M_Mm_cores 0 := ⟨z_mj7 (i := 218) rfl (by decide +kernel), rfl, ⟨by decide +kernel, by decide +kernel, by decide +kernel⟩, ⟨by decide, by decide⟩, z_mj1 (i := 14) rfl (by decide +kernel), rfl⟩
theorem ln_Lw_190 : Cond.methodLink "IronpourLaw" 190 M_Mm_cores.1 ∈ z_gw := z_mj7 (i := 215) rfl (by decide +kernel)
theorem w_im_Mm_cores : Cond.instanceMethod M_Mm_cores.1 ∈ z_gw := z_mj7 (i := 216) rfl (by decide +kernel)
theorem w_se_Mm_cores : Cond.selects M_Mm_cores.1.cls M_Mm_cores.1 M_Mm_cores.1 ∈ z_gw := z_mj7 (i := 217) rfl (by decide +kernel)
theorem d_Lw_law_428 : decode code 428 = .ok (.pop, 1) := zo_87 (zd_b zq_code_13 12 rfl rfl rfl)
theorem d_Lw_law_429 : decode code 429 = .ok (.goto 1379, 3) := zo_167 (d := 5) (e := 99) (zd_b zq_code_13 13 rfl rfl rfl) (zd_b zq_code_13 14 rfl rfl rfl) (zd_b zq_code_13 15 rfl rfl rfl) (by decide +kernel)
set_option maxHeartbeats 4000000 in
set_option maxRecDepth 100000 in
theorem LC_cores {g : zG} {ad : Nat → Nat} {t : zTT} {u : zNN} {w : zW} {j : Nat} (hI : IVm g ad t u w) (hR : REY t u.1 (48 * j)) {r : Nat} (hJ : 7 * j + 7 ≤ g.2.2 41) (hL : g.2.2 41 ≤ 3584) (ih : LWI g ad j r) : DW g M_Lw_law lwQ w 419 [(5, .int (nI (7 * j))), (4, .ref (ad 70)), (3, .ref (ad 69)), (2, .ref (ad 52)), (1, .ref (ad 0)), (0, .ref (g.2.2 40))] [] (100 * (r + 1)) (1000 * (r + 1)) := by
  refine y_base (cs := []) (z_I.nil w) ?_
  refine y_aload_n d_Lw_law_419 rfl 4 rfl ?_
  refine yw_callVL (As := []) (rest := []) (ci := 11) rfl (fun wA hA => (IVm.nil hA hI).ra) ln_Lw_187 w_im_Ip_cores w_se_Ip_cores ok_Lw_law_Ip_cores d_Lw_law_420 (fun wA hA => K_Ip_cores (IVm.nil hA hI)) rfl rfl (Nat.le_of_ble_eq_true rfl) (by omega) (by omega) (fun wA420 hA420 E wB420 hx => ?_) (fun wA420 hA420 v wB420 hx => ?_)
  · obtain ⟨h1, -⟩ := hx
    cases zriE h1
  · obtain ⟨h1, uC, huC, hI2⟩ := hx
    obtain ⟨v9, rfl⟩ := zriV h1
    refine yw_st (st2 := [.int v9]) rfl ?_
    have hI := hI2
    refine y_base (cs := []) (z_I.nil _) ?_
    refine y_pop d_Lw_law_423 rfl ?_
    refine y_aload_n d_Lw_law_424 rfl 3 rfl ?_
    refine yw_callVL (As := []) (rest := []) (ci := 12) rfl (fun wA hA => (IVm.nil hA hI).rm) ln_Lw_190 w_im_Mm_cores w_se_Mm_cores ok_Lw_law_Mm_cores d_Lw_law_425 (fun wA hA => K_Mm_cores (IVm.nil hA hI)) rfl rfl (Nat.le_of_ble_eq_true rfl) (by omega) (by omega) (fun wA425 hA425 E wB425 hx => ?_) (fun wA425 hA425 v wB425 hx => ?_)
    · obtain ⟨⟨v8, e1⟩, -⟩ := hx
      cases e1
    · obtain ⟨⟨v8, e1⟩, uM, huM, hI2⟩ := hx
      cases e1
      refine yw_st (st2 := [.int v8]) rfl ?_
      have hI := hI2
      refine y_base (cs := []) (z_I.nil _) ?_
      refine y_pop d_Lw_law_428 rfl ?_
      refine y_goto (tgt := 1808) d_Lw_law_429 (by decide) ?_
      refine y_lv (lv' := [(5, .int (nI (7 * j))), (4, .ref (ad 70)), (3, .ref (ad 69)), (2, .ref (ad 52)), (1, .ref (ad 0)), (0, .ref (g.2.2 40))]) [0, 1, 2, 3, 4, 5] rfl ?_
      refine y_end (fun wC hC => ?_)
      exact LC_next (IVm.nil hC hI) ((hR.n (huM.trans huC)).up (by omega)) hJ hL ih (by omega) (by omega)
theorem d_Lw_law_432 : decode code 432 = .ok (.aload_n 1, 1) := zo_43 (zd_b zq_code_13 16 rfl rfl rfl)
theorem d_Lw_law_433 : decode code 433 = .ok (.invokevirtual 191, 3) := zo_182 (d := 0) (e := 191) (zd_b zq_code_13 17 rfl rfl rfl) (zd_b zq_code_13 18 rfl rfl rfl) (zd_b zq_code_13 19 rfl rfl rfl)
theorem ok_Lw_law_Ip_loose : z_ok M_Lw_law M_Ip_loose 0 := ⟨z_mj2 (i := 137) rfl (by decide +kernel), rfl, ⟨by decide +kernel, by decide +kernel, by decide +kernel⟩, ⟨by decide, by decide⟩, z_mj1 (i := 1) rfl (by decide +kernel), rfl⟩
theorem ln_Lw_191 : Cond.methodLink "IronpourLaw" 191 M_Ip_loose.1 ∈ z_gw := z_mj2 (i := 134) rfl (by decide +kernel)
theorem w_im_Ip_loose : Cond.instanceMethod M_Ip_loose.1 ∈ z_gw := z_mj2 (i := 135) rfl (by decide +kernel)
theorem w_se_Ip_loose : Cond.selects M_Ip_loose.1.cls M_Ip_loose.1 M_Ip_loose.1 ∈ z_gw := z_mj2 (i := 136) rfl (by decide +kernel)
theorem d_Lw_law_436 : decode code 436 = .ok (.pop, 1) := zo_87 (zd_b zq_code_13 20 rfl rfl rfl)
theorem d_Lw_law_437 : decode code 437 = .ok (.aload_n 2, 1) := zo_44 (zd_b zq_code_13 21 rfl rfl rfl)
theorem d_Lw_law_438 : decode code 438 = .ok (.invokevirtual 194, 3) := zo_182 (d := 0) (e := 194) (zd_b zq_code_13 22 rfl rfl rfl) (zd_b zq_code_13 23 rfl rfl rfl) (zd_b zq_code_13 24 rfl rfl rfl)
theorem ok_Lw_law_Mm_loose : z_ok M_Lw_law M_Mm_loose 0 := ⟨z_mj7 (i := 233) rfl (by decide +kernel), rfl, ⟨by decide +kernel, by decide +kernel, by decide +kernel⟩, ⟨by decide, by decide⟩, z_mj1 (i := 14) rfl (by decide +kernel), rfl⟩
theorem ln_Lw_194 : Cond.methodLink "IronpourLaw" 194 M_Mm_loose.1 ∈ z_gw := z_mj7 (i := 230) rfl (by decide +kernel)
theorem w_im_Mm_loose : Cond.instanceMethod M_Mm_loose.1 ∈ z_gw := z_mj7 (i := 231) rfl (by decide +kernel)
theorem w_se_Mm_loose : Cond.selects M_Mm_loose.1.cls M_Mm_loose.1 M_Mm_loose.1 ∈ z_gw := z_mj7 (i := 232) rfl (by decide +kernel)
theorem d_Lw_law_441 : decode code 441 = .ok (.pop, 1) := zo_87 (zd_b zq_code_13 25 rfl rfl rfl)
theorem d_Lw_law_442 : decode code 442 = .ok (.goto 1366, 3) := zo_167 (d := 5) (e := 86) (zd_b zq_code_13 26 rfl rfl rfl) (zd_b zq_code_13 27 rfl rfl rfl) (zd_b zq_code_13 28 rfl rfl rfl) (by decide +kernel)
set_option maxHeartbeats 4000000 in
set_option maxRecDepth 100000 in
theorem LC_loose {g : zG} {ad : Nat → Nat} {t : zTT} {u : zNN} {w : zW} {j : Nat} (hI : IVm g ad t u w) (hR : REY t u.1 (48 * j)) {r : Nat} (hJ : 7 * j + 7 ≤ g.2.2 41) (hL : g.2.2 41 ≤ 3584) (ih : LWI g ad j r) : DW g M_Lw_law lwQ w 432 [(5, .int (nI (7 * j))), (4, .ref (ad 70)), (3, .ref (ad 69)), (2, .ref (ad 52)), (1, .ref (ad 0)), (0, .ref (g.2.2 40))] [] (100 * (r + 1)) (1000 * (r + 1)) := by
  refine y_base (cs := []) (z_I.nil w) ?_
  refine y_aload_n d_Lw_law_432 rfl 4 rfl ?_
  refine yw_callVL (As := []) (rest := []) (ci := 11) rfl (fun wA hA => (IVm.nil hA hI).ra) ln_Lw_191 w_im_Ip_loose w_se_Ip_loose ok_Lw_law_Ip_loose d_Lw_law_433 (fun wA hA => K_Ip_loose (IVm.nil hA hI)) rfl rfl (Nat.le_of_ble_eq_true rfl) (by omega) (by omega) (fun wA433 hA433 E wB433 hx => ?_) (fun wA433 hA433 v wB433 hx => ?_)
  · obtain ⟨h1, -⟩ := hx
    cases zriE h1
  · obtain ⟨h1, uC, huC, hI2⟩ := hx
    obtain ⟨v9, rfl⟩ := zriV h1
    refine yw_st (st2 := [.int v9]) rfl ?_
    have hI := hI2
    refine y_base (cs := []) (z_I.nil _) ?_
    refine y_pop d_Lw_law_436 rfl ?_
    refine y_aload_n d_Lw_law_437 rfl 3 rfl ?_
    refine yw_callVL (As := []) (rest := []) (ci := 12) rfl (fun wA hA => (IVm.nil hA hI).rm) ln_Lw_194 w_im_Mm_loose w_se_Mm_loose ok_Lw_law_Mm_loose d_Lw_law_438 (fun wA hA => K_Mm_loose (IVm.nil hA hI)) rfl rfl (Nat.le_of_ble_eq_true rfl) (by omega) (by omega) (fun wA438 hA438 E wB438 hx => ?_) (fun wA438 hA438 v wB438 hx => ?_)
    · obtain ⟨⟨v8, e1⟩, -⟩ := hx
      cases e1
    · obtain ⟨⟨v8, e1⟩, uM, huM, hI2⟩ := hx
      cases e1
      refine yw_st (st2 := [.int v8]) rfl ?_
      have hI := hI2
      refine y_base (cs := []) (z_I.nil _) ?_
      refine y_pop d_Lw_law_441 rfl ?_
      refine y_goto (tgt := 1808) d_Lw_law_442 (by decide) ?_
      refine y_lv (lv' := [(5, .int (nI (7 * j))), (4, .ref (ad 70)), (3, .ref (ad 69)), (2, .ref (ad 52)), (1, .ref (ad 0)), (0, .ref (g.2.2 40))]) [0, 1, 2, 3, 4, 5] rfl ?_
      refine y_end (fun wC hC => ?_)
      exact LC_next (IVm.nil hC hI) ((hR.n (huM.trans huC)).up (by omega)) hJ hL ih (by omega) (by omega)
theorem d_Lw_law_445 : decode code 445 = .ok (.aload_n 1, 1) := zo_43 (zd_b zq_code_13 29 rfl rfl rfl)
theorem d_Lw_law_446 : decode code 446 = .ok (.invokevirtual 195, 3) := zo_182 (d := 0) (e := 195) (zd_b zq_code_13 30 rfl rfl rfl) (zd_b zq_code_13 31 rfl rfl rfl) (zd_b zq_code_14 0 rfl rfl rfl)
theorem ok_Lw_law_Ip_weight : z_ok M_Lw_law M_Ip_weight 0 := ⟨z_mj2 (i := 145) rfl (by decide +kernel), rfl, ⟨by decide +kernel, by decide +kernel, by decide +kernel⟩, ⟨by decide, by decide⟩, z_mj1 (i := 1) rfl (by decide +kernel), rfl⟩
theorem ln_Lw_195 : Cond.methodLink "IronpourLaw" 195 M_Ip_weight.1 ∈ z_gw := z_mj2 (i := 142) rfl (by decide +kernel)
theorem w_im_Ip_weight : Cond.instanceMethod M_Ip_weight.1 ∈ z_gw := z_mj2 (i := 143) rfl (by decide +kernel)
theorem w_se_Ip_weight : Cond.selects M_Ip_weight.1.cls M_Ip_weight.1 M_Ip_weight.1 ∈ z_gw := z_mj2 (i := 144) rfl (by decide +kernel)
theorem d_Lw_law_449 : decode code 449 = .ok (.pop, 1) := zo_87 (zd_b zq_code_14 1 rfl rfl rfl)
theorem d_Lw_law_450 : decode code 450 = .ok (.aload_n 2, 1) := zo_44 (zd_b zq_code_14 2 rfl rfl rfl)
theorem d_Lw_law_451 : decode code 451 = .ok (.invokevirtual 198, 3) := zo_182 (d := 0) (e := 198) (zd_b zq_code_14 3 rfl rfl rfl) (zd_b zq_code_14 4 rfl rfl rfl) (zd_b zq_code_14 5 rfl rfl rfl)
theorem ok_Lw_law_Mm_weight : z_ok M_Lw_law M_Mm_weight 0 := ⟨z_mj8 (i := 4) rfl (by decide +kernel), rfl, ⟨by decide +kernel, by decide +kernel, by decide +kernel⟩, ⟨by decide, by decide⟩, z_mj1 (i := 14) rfl (by decide +kernel), rfl⟩
theorem ln_Lw_198 : Cond.methodLink "IronpourLaw" 198 M_Mm_weight.1 ∈ z_gw := z_mj8 (i := 1) rfl (by decide +kernel)
theorem w_im_Mm_weight : Cond.instanceMethod M_Mm_weight.1 ∈ z_gw := z_mj8 (i := 2) rfl (by decide +kernel)
theorem w_se_Mm_weight : Cond.selects M_Mm_weight.1.cls M_Mm_weight.1 M_Mm_weight.1 ∈ z_gw := z_mj8 (i := 3) rfl (by decide +kernel)
theorem d_Lw_law_454 : decode code 454 = .ok (.pop, 1) := zo_87 (zd_b zq_code_14 6 rfl rfl rfl)
theorem d_Lw_law_455 : decode code 455 = .ok (.goto 1353, 3) := zo_167 (d := 5) (e := 73) (zd_b zq_code_14 7 rfl rfl rfl) (zd_b zq_code_14 8 rfl rfl rfl) (zd_b zq_code_14 9 rfl rfl rfl) (by decide +kernel)
set_option maxHeartbeats 4000000 in
set_option maxRecDepth 100000 in
theorem LC_weight {g : zG} {ad : Nat → Nat} {t : zTT} {u : zNN} {w : zW} {j : Nat} (hI : IVm g ad t u w) (hR : REY t u.1 (48 * j)) {r : Nat} (hJ : 7 * j + 7 ≤ g.2.2 41) (hL : g.2.2 41 ≤ 3584) (ih : LWI g ad j r) : DW g M_Lw_law lwQ w 445 [(5, .int (nI (7 * j))), (4, .ref (ad 70)), (3, .ref (ad 69)), (2, .ref (ad 52)), (1, .ref (ad 0)), (0, .ref (g.2.2 40))] [] (100 * (r + 1)) (1000 * (r + 1)) := by
  refine y_base (cs := []) (z_I.nil w) ?_
  refine y_aload_n d_Lw_law_445 rfl 4 rfl ?_
  refine yw_callVL (As := []) (rest := []) (ci := 11) rfl (fun wA hA => (IVm.nil hA hI).ra) ln_Lw_195 w_im_Ip_weight w_se_Ip_weight ok_Lw_law_Ip_weight d_Lw_law_446 (fun wA hA => K_Ip_weight (IVm.nil hA hI)) rfl rfl (Nat.le_of_ble_eq_true rfl) (by omega) (by omega) (fun wA446 hA446 E wB446 hx => ?_) (fun wA446 hA446 v wB446 hx => ?_)
  · obtain ⟨h1, -⟩ := hx
    cases zriE h1
  · obtain ⟨h1, uC, huC, hI2⟩ := hx
    obtain ⟨v9, rfl⟩ := zriV h1
    refine yw_st (st2 := [.int v9]) rfl ?_
    have hI := hI2
    refine y_base (cs := []) (z_I.nil _) ?_
    refine y_pop d_Lw_law_449 rfl ?_
    refine y_aload_n d_Lw_law_450 rfl 3 rfl ?_
    refine yw_callVL (As := []) (rest := []) (ci := 12) rfl (fun wA hA => (IVm.nil hA hI).rm) ln_Lw_198 w_im_Mm_weight w_se_Mm_weight ok_Lw_law_Mm_weight d_Lw_law_451 (fun wA hA => K_Mm_weight (IVm.nil hA hI)) rfl rfl (Nat.le_of_ble_eq_true rfl) (by omega) (by omega) (fun wA451 hA451 E wB451 hx => ?_) (fun wA451 hA451 v wB451 hx => ?_)
    · obtain ⟨⟨v8, e1⟩, -⟩ := hx
      cases e1
    · obtain ⟨⟨v8, e1⟩, uM, huM, hI2⟩ := hx
      cases e1
      refine yw_st (st2 := [.int v8]) rfl ?_
      have hI := hI2
      refine y_base (cs := []) (z_I.nil _) ?_
      refine y_pop d_Lw_law_454 rfl ?_
      refine y_goto (tgt := 1808) d_Lw_law_455 (by decide) ?_
      refine y_lv (lv' := [(5, .int (nI (7 * j))), (4, .ref (ad 70)), (3, .ref (ad 69)), (2, .ref (ad 52)), (1, .ref (ad 0)), (0, .ref (g.2.2 40))]) [0, 1, 2, 3, 4, 5] rfl ?_
      refine y_end (fun wC hC => ?_)
      exact LC_next (IVm.nil hC hI) ((hR.n (huM.trans huC)).up (by omega)) hJ hL ih (by omega) (by omega)
theorem d_Lw_law_458 : decode code 458 = .ok (.aload_n 1, 1) := zo_43 (zd_b zq_code_14 10 rfl rfl rfl)
theorem d_Lw_law_459 : decode code 459 = .ok (.aload_n 0, 1) := zo_42 (zd_b zq_code_14 11 rfl rfl rfl)
theorem d_Lw_law_460 : decode code 460 = .ok (.iload 5, 2) := zo_21 (d := 5) (zd_b zq_code_14 12 rfl rfl rfl) (zd_b zq_code_14 13 rfl rfl rfl)
theorem d_Lw_law_462 : decode code 462 = .ok (.iconst 1, 1) := zo_4 (zd_b zq_code_14 14 rfl rfl rfl)
theorem d_Lw_law_463 : decode code 463 = .ok (.iadd, 1) := zo_96 (zd_b zq_code_14 15 rfl rfl rfl)
theorem d_Lw_law_464 : decode code 464 = .ok (.iaload, 1) := zo_46 (zd_b zq_code_14 16 rfl rfl rfl)
theorem d_Lw_law_465 : decode code 465 = .ok (.aload_n 0, 1) := zo_42 (zd_b zq_code_14 17 rfl rfl rfl)
theorem d_Lw_law_466 : decode code 466 = .ok (.iload 5, 2) := zo_21 (d := 5) (zd_b zq_code_14 18 rfl rfl rfl) (zd_b zq_code_14 19 rfl rfl rfl)
theorem d_Lw_law_468 : decode code 468 = .ok (.iconst 2, 1) := zo_5 (zd_b zq_code_14 20 rfl rfl rfl)
theorem d_Lw_law_469 : decode code 469 = .ok (.iadd, 1) := zo_96 (zd_b zq_code_14 21 rfl rfl rfl)
theorem d_Lw_law_470 : decode code 470 = .ok (.iaload, 1) := zo_46 (zd_b zq_code_14 22 rfl rfl rfl)
theorem d_Lw_law_471 : decode code 471 = .ok (.aload_n 3, 1) := zo_45 (zd_b zq_code_14 23 rfl rfl rfl)
theorem d_Lw_law_472 : decode code 472 = .ok (.invokestatic 199, 3) := zo_184 (d := 0) (e := 199) (zd_b zq_code_14 24 rfl rfl rfl) (zd_b zq_code_14 25 rfl rfl rfl) (zd_b zq_code_14 26 rfl rfl rfl)
theorem ok_Lw_law_Lw_filledIn : z_okX M_Lw_law M_Lw_filledIn 4 := ⟨z_mj4 (i := 46) rfl (by decide +kernel), by decide, ⟨by decide +kernel, by decide +kernel, by decide +kernel⟩, ⟨by decide, by decide⟩, z_mj1 (i := 0) rfl (by decide +kernel), rfl⟩
theorem ln_Lw_199 : Cond.methodLink "IronpourLaw" 199 M_Lw_filledIn.1 ∈ z_gw := z_mj4 (i := 44) rfl (by decide +kernel)
theorem w_st_Lw_filledIn : Cond.static M_Lw_filledIn.1 ∈ z_gw := z_mj4 (i := 45) rfl (by decide +kernel)
theorem d_Lw_law_475 : decode code 475 = .ok (.istore 6, 2) := zo_54 (d := 6) (zd_b zq_code_14 27 rfl rfl rfl) (zd_b zq_code_14 28 rfl rfl rfl)
theorem d_Lw_law_477 : decode code 477 = .ok (.aload_n 2, 1) := zo_44 (zd_b zq_code_14 29 rfl rfl rfl)
theorem d_Lw_law_478 : decode code 478 = .ok (.aload_n 0, 1) := zo_42 (zd_b zq_code_14 30 rfl rfl rfl)
theorem d_Lw_law_479 : decode code 479 = .ok (.iload 5, 2) := zo_21 (d := 5) (zd_b zq_code_14 31 rfl rfl rfl) (zd_b zq_code_15 0 rfl rfl rfl)
theorem d_Lw_law_481 : decode code 481 = .ok (.iconst 1, 1) := zo_4 (zd_b zq_code_15 1 rfl rfl rfl)
theorem d_Lw_law_482 : decode code 482 = .ok (.iadd, 1) := zo_96 (zd_b zq_code_15 2 rfl rfl rfl)
theorem d_Lw_law_483 : decode code 483 = .ok (.iaload, 1) := zo_46 (zd_b zq_code_15 3 rfl rfl rfl)
theorem d_Lw_law_484 : decode code 484 = .ok (.aload_n 0, 1) := zo_42 (zd_b zq_code_15 4 rfl rfl rfl)
theorem d_Lw_law_485 : decode code 485 = .ok (.iload 5, 2) := zo_21 (d := 5) (zd_b zq_code_15 5 rfl rfl rfl) (zd_b zq_code_15 6 rfl rfl rfl)
theorem d_Lw_law_487 : decode code 487 = .ok (.iconst 2, 1) := zo_5 (zd_b zq_code_15 7 rfl rfl rfl)
theorem d_Lw_law_488 : decode code 488 = .ok (.iadd, 1) := zo_96 (zd_b zq_code_15 8 rfl rfl rfl)
theorem d_Lw_law_489 : decode code 489 = .ok (.iaload, 1) := zo_46 (zd_b zq_code_15 9 rfl rfl rfl)
theorem d_Lw_law_490 : decode code 490 = .ok (.invokevirtual 201, 3) := zo_182 (d := 0) (e := 201) (zd_b zq_code_15 10 rfl rfl rfl) (zd_b zq_code_15 11 rfl rfl rfl) (zd_b zq_code_15 12 rfl rfl rfl)
theorem ok_Lw_law_Mm_filledIn : z_ok M_Lw_law M_Mm_filledIn 2 := ⟨z_mj8 (i := 11) rfl (by decide +kernel), rfl, ⟨by decide +kernel, by decide +kernel, by decide +kernel⟩, ⟨by decide, by decide⟩, z_mj1 (i := 14) rfl (by decide +kernel), rfl⟩
theorem ln_Lw_201 : Cond.methodLink "IronpourLaw" 201 M_Mm_filledIn.1 ∈ z_gw := z_mj8 (i := 8) rfl (by decide +kernel)
theorem w_im_Mm_filledIn : Cond.instanceMethod M_Mm_filledIn.1 ∈ z_gw := z_mj8 (i := 9) rfl (by decide +kernel)
theorem w_se_Mm_filledIn : Cond.selects M_Mm_filledIn.1.cls M_Mm_filledIn.1 M_Mm_filledIn.1 ∈ z_gw := z_mj8 (i := 10) rfl (by decide +kernel)
theorem d_Lw_law_493 : decode code 493 = .ok (.istore 7, 2) := zo_54 (d := 7) (zd_b zq_code_15 13 rfl rfl rfl) (zd_b zq_code_15 14 rfl rfl rfl)
theorem d_Lw_law_495 : decode code 495 = .ok (.goto 1313, 3) := zo_167 (d := 5) (e := 33) (zd_b zq_code_15 15 rfl rfl rfl) (zd_b zq_code_15 16 rfl rfl rfl) (zd_b zq_code_15 17 rfl rfl rfl) (by decide +kernel)
set_option maxHeartbeats 4000000 in
set_option maxRecDepth 100000 in
theorem LC_filledIn {g : zG} {ad : Nat → Nat} {t : zTT} {u : zNN} {w : zW} {j : Nat} (hI : IVm g ad t u w) (hR : REY t u.1 (48 * j)) {r : Nat} (hJ : 7 * j + 7 ≤ g.2.2 41) (hL : g.2.2 41 ≤ 3584) (ih : LWI g ad j r) : DW g M_Lw_law lwQ w 458 [(5, .int (nI (7 * j))), (4, .ref (ad 70)), (3, .ref (ad 69)), (2, .ref (ad 52)), (1, .ref (ad 0)), (0, .ref (g.2.2 40))] [] (100 * (r + 1)) (1000 * (r + 1)) := by
  refine y_base (cs := []) (z_I.nil w) ?_
  refine y_aload_n d_Lw_law_458 rfl 4 rfl ?_
  refine y_aload_n d_Lw_law_459 rfl 5 rfl ?_
  refine y_iload d_Lw_law_460 0 rfl ?_
  refine y_iconst d_Lw_law_462 (v := 1) (by decide) ?_
  refine y_iadd d_Lw_law_463 (v := nI ((7 * j) + 1)) (nI_add _ _) ?_
  refine y_sld (v := zs g (7 * j + 1)) d_Lw_law_464 (vp_in_nI (by omega) (by omega)) (by rw [nI_clamp (by omega)]; rfl) ?_
  refine y_aload_n d_Lw_law_465 rfl 5 rfl ?_
  refine y_iload d_Lw_law_466 0 rfl ?_
  refine y_iconst d_Lw_law_468 (v := 2) (by decide) ?_
  refine y_iadd d_Lw_law_469 (v := nI ((7 * j) + 2)) (nI_add _ _) ?_
  refine y_sld (v := zs g (7 * j + 2)) d_Lw_law_470 (vp_in_nI (by omega) (by omega)) (by rw [nI_clamp (by omega)]; rfl) ?_
  refine y_aload_n d_Lw_law_471 rfl 2 rfl ?_
  refine yw_callSX (As := [.ref (ad 0), .int (zs g (7 * j + 1)), .int (zs g (7 * j + 2)), .ref (ad 69)]) (rest := []) ln_Lw_199 w_st_Lw_filledIn ok_Lw_law_Lw_filledIn d_Lw_law_472 (fun wA hA => W_filledIn (IVm.nil hA hI) _ _) rfl rfl (Nat.le_of_ble_eq_true rfl) (by omega) (by omega) (fun wA472 hA472 E wB472 hx => ?_) (fun wA472 hA472 v wB472 hx => ?_)
  · obtain ⟨⟨v9, e1⟩, -⟩ := hx
    cases e1
  · obtain ⟨⟨v9, e1⟩, uC, huC, hI2⟩ := hx
    cases e1
    refine yw_st (st2 := [.int v9]) rfl ?_
    have hI := hI2
    refine y_base (cs := []) (z_I.nil _) ?_
    refine y_istore (lv' := [(6, .int v9), (5, .int (nI (7 * j))), (4, .ref (ad 70)), (3, .ref (ad 69)), (2, .ref (ad 52)), (1, .ref (ad 0)), (0, .ref (g.2.2 40))]) d_Lw_law_475 (by decide) rfl ?_
    refine y_aload_n d_Lw_law_477 rfl 4 rfl ?_
    refine y_aload_n d_Lw_law_478 rfl 6 rfl ?_
    refine y_iload d_Lw_law_479 1 rfl ?_
    refine y_iconst d_Lw_law_481 (v := 1) (by decide) ?_
    refine y_iadd d_Lw_law_482 (v := nI ((7 * j) + 1)) (nI_add _ _) ?_
    refine y_sld (v := zs g (7 * j + 1)) d_Lw_law_483 (vp_in_nI (by omega) (by omega)) (by rw [nI_clamp (by omega)]; rfl) ?_
    refine y_aload_n d_Lw_law_484 rfl 6 rfl ?_
    refine y_iload d_Lw_law_485 1 rfl ?_
    refine y_iconst d_Lw_law_487 (v := 2) (by decide) ?_
    refine y_iadd d_Lw_law_488 (v := nI ((7 * j) + 2)) (nI_add _ _) ?_
    refine y_sld (v := zs g (7 * j + 2)) d_Lw_law_489 (vp_in_nI (by omega) (by omega)) (by rw [nI_clamp (by omega)]; rfl) ?_
    refine yw_callVL (As := [.int (zs g (7 * j + 1)), .int (zs g (7 * j + 2))]) (rest := []) (ci := 12) rfl (fun wA hA => (IVm.nil hA hI).rm) ln_Lw_201 w_im_Mm_filledIn w_se_Mm_filledIn ok_Lw_law_Mm_filledIn d_Lw_law_490 (fun wA hA => K_Mm_filledIn (IVm.nil hA hI) _ _) rfl rfl (Nat.le_of_ble_eq_true rfl) (by omega) (by omega) (fun wA490 hA490 E wB490 hx => ?_) (fun wA490 hA490 v wB490 hx => ?_)
    · obtain ⟨⟨v8, e1⟩, -⟩ := hx
      cases e1
    · obtain ⟨⟨v8, e1⟩, uM, huM, hI2⟩ := hx
      cases e1
      refine yw_st (st2 := [.int v8]) rfl ?_
      have hI := hI2
      refine y_base (cs := []) (z_I.nil _) ?_
      refine y_istore (lv' := [(7, .int v8), (6, .int v9), (5, .int (nI (7 * j))), (4, .ref (ad 70)), (3, .ref (ad 69)), (2, .ref (ad 52)), (1, .ref (ad 0)), (0, .ref (g.2.2 40))]) d_Lw_law_493 (by decide) rfl ?_
      refine y_goto (tgt := 1808) d_Lw_law_495 (by decide) ?_
      refine y_lv (lv' := [(5, .int (nI (7 * j))), (4, .ref (ad 70)), (3, .ref (ad 69)), (2, .ref (ad 52)), (1, .ref (ad 0)), (0, .ref (g.2.2 40))]) [2, 3, 4, 5, 6, 7] rfl ?_
      refine y_end (fun wC hC => ?_)
      exact LC_next (IVm.nil hC hI) ((hR.n (huM.trans huC)).up (by omega)) hJ hL ih (by omega) (by omega)
end
section
theorem d_Lw_law_498 : decode code 498 = .ok (.aload_n 1, 1) := zo_43 (zd_b zq_code_15 18 rfl rfl rfl)
theorem d_Lw_law_499 : decode code 499 = .ok (.aload_n 3, 1) := zo_45 (zd_b zq_code_15 19 rfl rfl rfl)
theorem d_Lw_law_500 : decode code 500 = .ok (.invokestatic 202, 3) := zo_184 (d := 0) (e := 202) (zd_b zq_code_15 20 rfl rfl rfl) (zd_b zq_code_15 21 rfl rfl rfl) (zd_b zq_code_15 22 rfl rfl rfl)
theorem ok_Lw_law_Lw_speed : z_okX M_Lw_law M_Lw_speed 2 := ⟨z_mj4 (i := 54) rfl (by decide +kernel), by decide, ⟨by decide +kernel, by decide +kernel, by decide +kernel⟩, ⟨by decide, by decide⟩, z_mj1 (i := 0) rfl (by decide +kernel), rfl⟩
theorem ln_Lw_202 : Cond.methodLink "IronpourLaw" 202 M_Lw_speed.1 ∈ z_gw := z_mj4 (i := 52) rfl (by decide +kernel)
theorem w_st_Lw_speed : Cond.static M_Lw_speed.1 ∈ z_gw := z_mj4 (i := 53) rfl (by decide +kernel)
theorem d_Lw_law_503 : decode code 503 = .ok (.istore 6, 2) := zo_54 (d := 6) (zd_b zq_code_15 23 rfl rfl rfl) (zd_b zq_code_15 24 rfl rfl rfl)
theorem d_Lw_law_505 : decode code 505 = .ok (.aload_n 2, 1) := zo_44 (zd_b zq_code_15 25 rfl rfl rfl)
theorem d_Lw_law_506 : decode code 506 = .ok (.invokevirtual 205, 3) := zo_182 (d := 0) (e := 205) (zd_b zq_code_15 26 rfl rfl rfl) (zd_b zq_code_15 27 rfl rfl rfl) (zd_b zq_code_15 28 rfl rfl rfl)
theorem ok_Lw_law_Mm_speed : z_ok M_Lw_law M_Mm_speed 0 := ⟨z_mj8 (i := 26) rfl (by decide +kernel), rfl, ⟨by decide +kernel, by decide +kernel, by decide +kernel⟩, ⟨by decide, by decide⟩, z_mj1 (i := 14) rfl (by decide +kernel), rfl⟩
theorem ln_Lw_205 : Cond.methodLink "IronpourLaw" 205 M_Mm_speed.1 ∈ z_gw := z_mj8 (i := 23) rfl (by decide +kernel)
theorem w_im_Mm_speed : Cond.instanceMethod M_Mm_speed.1 ∈ z_gw := z_mj8 (i := 24) rfl (by decide +kernel)
theorem w_se_Mm_speed : Cond.selects M_Mm_speed.1.cls M_Mm_speed.1 M_Mm_speed.1 ∈ z_gw := z_mj8 (i := 25) rfl (by decide +kernel)
theorem d_Lw_law_509 : decode code 509 = .ok (.istore 7, 2) := zo_54 (d := 7) (zd_b zq_code_15 29 rfl rfl rfl) (zd_b zq_code_15 30 rfl rfl rfl)
theorem d_Lw_law_511 : decode code 511 = .ok (.goto 1297, 3) := zo_167 (d := 5) (e := 17) (zd_b zq_code_15 31 rfl rfl rfl) (zd_b zq_code_16 0 rfl rfl rfl) (zd_b zq_code_16 1 rfl rfl rfl) (by decide +kernel)
set_option maxHeartbeats 4000000 in
set_option maxRecDepth 100000 in
theorem LC_speed {g : zG} {ad : Nat → Nat} {t : zTT} {u : zNN} {w : zW} {j : Nat} (hI : IVm g ad t u w) (hR : REY t u.1 (48 * j)) {r : Nat} (hJ : 7 * j + 7 ≤ g.2.2 41) (hL : g.2.2 41 ≤ 3584) (ih : LWI g ad j r) : DW g M_Lw_law lwQ w 498 [(5, .int (nI (7 * j))), (4, .ref (ad 70)), (3, .ref (ad 69)), (2, .ref (ad 52)), (1, .ref (ad 0)), (0, .ref (g.2.2 40))] [] (100 * (r + 1)) (1000 * (r + 1)) := by
  refine y_base (cs := []) (z_I.nil w) ?_
  refine y_aload_n d_Lw_law_498 rfl 4 rfl ?_
  refine y_aload_n d_Lw_law_499 rfl 2 rfl ?_
  refine yw_callSX (As := [.ref (ad 0), .ref (ad 69)]) (rest := []) ln_Lw_202 w_st_Lw_speed ok_Lw_law_Lw_speed d_Lw_law_500 (fun wA hA => W_speed (IVm.nil hA hI)) rfl rfl (Nat.le_of_ble_eq_true rfl) (by omega) (by omega) (fun wA500 hA500 E wB500 hx => ?_) (fun wA500 hA500 v wB500 hx => ?_)
  · obtain ⟨⟨v9, e1⟩, -⟩ := hx
    cases e1
  · obtain ⟨⟨v9, e1⟩, uC, huC, hI2⟩ := hx
    cases e1
    refine yw_st (st2 := [.int v9]) rfl ?_
    have hI := hI2
    refine y_base (cs := []) (z_I.nil _) ?_
    refine y_istore (lv' := [(6, .int v9), (5, .int (nI (7 * j))), (4, .ref (ad 70)), (3, .ref (ad 69)), (2, .ref (ad 52)), (1, .ref (ad 0)), (0, .ref (g.2.2 40))]) d_Lw_law_503 (by decide) rfl ?_
    refine y_aload_n d_Lw_law_505 rfl 4 rfl ?_
    refine yw_callVL (As := []) (rest := []) (ci := 12) rfl (fun wA hA => (IVm.nil hA hI).rm) ln_Lw_205 w_im_Mm_speed w_se_Mm_speed ok_Lw_law_Mm_speed d_Lw_law_506 (fun wA hA => K_Mm_speed (IVm.nil hA hI)) rfl rfl (Nat.le_of_ble_eq_true rfl) (by omega) (by omega) (fun wA506 hA506 E wB506 hx => ?_) (fun wA506 hA506 v wB506 hx => ?_)
    · obtain ⟨⟨v8, e1⟩, -⟩ := hx
      cases e1
    · obtain ⟨⟨v8, e1⟩, uM, huM, hI2⟩ := hx
      cases e1
      refine yw_st (st2 := [.int v8]) rfl ?_
      have hI := hI2
      refine y_base (cs := []) (z_I.nil _) ?_
      refine y_istore (lv' := [(7, .int v8), (6, .int v9), (5, .int (nI (7 * j))), (4, .ref (ad 70)), (3, .ref (ad 69)), (2, .ref (ad 52)), (1, .ref (ad 0)), (0, .ref (g.2.2 40))]) d_Lw_law_509 (by decide) rfl ?_
      refine y_goto (tgt := 1808) d_Lw_law_511 (by decide) ?_
      refine y_lv (lv' := [(5, .int (nI (7 * j))), (4, .ref (ad 70)), (3, .ref (ad 69)), (2, .ref (ad 52)), (1, .ref (ad 0)), (0, .ref (g.2.2 40))]) [2, 3, 4, 5, 6, 7] rfl ?_
      refine y_end (fun wC hC => ?_)
      exact LC_next (IVm.nil hC hI) ((hR.n (huM.trans huC)).up (by omega)) hJ hL ih (by omega) (by omega)
theorem d_Lw_law_514 : decode code 514 = .ok (.aload_n 1, 1) := zo_43 (zd_b zq_code_16 2 rfl rfl rfl)
theorem d_Lw_law_515 : decode code 515 = .ok (.aload_n 0, 1) := zo_42 (zd_b zq_code_16 3 rfl rfl rfl)
theorem d_Lw_law_516 : decode code 516 = .ok (.iload 5, 2) := zo_21 (d := 5) (zd_b zq_code_16 4 rfl rfl rfl) (zd_b zq_code_16 5 rfl rfl rfl)
theorem d_Lw_law_518 : decode code 518 = .ok (.iconst 1, 1) := zo_4 (zd_b zq_code_16 6 rfl rfl rfl)
theorem d_Lw_law_519 : decode code 519 = .ok (.iadd, 1) := zo_96 (zd_b zq_code_16 7 rfl rfl rfl)
theorem d_Lw_law_520 : decode code 520 = .ok (.iaload, 1) := zo_46 (zd_b zq_code_16 8 rfl rfl rfl)
theorem d_Lw_law_521 : decode code 521 = .ok (.aload_n 0, 1) := zo_42 (zd_b zq_code_16 9 rfl rfl rfl)
theorem d_Lw_law_522 : decode code 522 = .ok (.iload 5, 2) := zo_21 (d := 5) (zd_b zq_code_16 10 rfl rfl rfl) (zd_b zq_code_16 11 rfl rfl rfl)
theorem d_Lw_law_524 : decode code 524 = .ok (.iconst 2, 1) := zo_5 (zd_b zq_code_16 12 rfl rfl rfl)
theorem d_Lw_law_525 : decode code 525 = .ok (.iadd, 1) := zo_96 (zd_b zq_code_16 13 rfl rfl rfl)
theorem d_Lw_law_526 : decode code 526 = .ok (.iaload, 1) := zo_46 (zd_b zq_code_16 14 rfl rfl rfl)
theorem d_Lw_law_527 : decode code 527 = .ok (.aload_n 0, 1) := zo_42 (zd_b zq_code_16 15 rfl rfl rfl)
theorem d_Lw_law_528 : decode code 528 = .ok (.iload 5, 2) := zo_21 (d := 5) (zd_b zq_code_16 16 rfl rfl rfl) (zd_b zq_code_16 17 rfl rfl rfl)
theorem d_Lw_law_530 : decode code 530 = .ok (.iconst 3, 1) := zo_6 (zd_b zq_code_16 18 rfl rfl rfl)
theorem d_Lw_law_531 : decode code 531 = .ok (.iadd, 1) := zo_96 (zd_b zq_code_16 19 rfl rfl rfl)
theorem d_Lw_law_532 : decode code 532 = .ok (.iaload, 1) := zo_46 (zd_b zq_code_16 20 rfl rfl rfl)
theorem d_Lw_law_533 : decode code 533 = .ok (.aload_n 3, 1) := zo_45 (zd_b zq_code_16 21 rfl rfl rfl)
theorem d_Lw_law_534 : decode code 534 = .ok (.invokestatic 206, 3) := zo_184 (d := 0) (e := 206) (zd_b zq_code_16 22 rfl rfl rfl) (zd_b zq_code_16 23 rfl rfl rfl) (zd_b zq_code_16 24 rfl rfl rfl)
theorem ok_Lw_law_Lw_frozenIn : z_okX M_Lw_law M_Lw_frozenIn 5 := ⟨z_mj4 (i := 87) rfl (by decide +kernel), by decide, ⟨by decide +kernel, by decide +kernel, by decide +kernel⟩, ⟨by decide, by decide⟩, z_mj1 (i := 0) rfl (by decide +kernel), rfl⟩
theorem ln_Lw_206 : Cond.methodLink "IronpourLaw" 206 M_Lw_frozenIn.1 ∈ z_gw := z_mj4 (i := 85) rfl (by decide +kernel)
theorem w_st_Lw_frozenIn : Cond.static M_Lw_frozenIn.1 ∈ z_gw := z_mj4 (i := 86) rfl (by decide +kernel)
theorem d_Lw_law_537 : decode code 537 = .ok (.istore 6, 2) := zo_54 (d := 6) (zd_b zq_code_16 25 rfl rfl rfl) (zd_b zq_code_16 26 rfl rfl rfl)
theorem d_Lw_law_539 : decode code 539 = .ok (.aload_n 2, 1) := zo_44 (zd_b zq_code_16 27 rfl rfl rfl)
theorem d_Lw_law_540 : decode code 540 = .ok (.aload_n 0, 1) := zo_42 (zd_b zq_code_16 28 rfl rfl rfl)
theorem d_Lw_law_541 : decode code 541 = .ok (.iload 5, 2) := zo_21 (d := 5) (zd_b zq_code_16 29 rfl rfl rfl) (zd_b zq_code_16 30 rfl rfl rfl)
theorem d_Lw_law_543 : decode code 543 = .ok (.iconst 1, 1) := zo_4 (zd_b zq_code_16 31 rfl rfl rfl)
theorem d_Lw_law_544 : decode code 544 = .ok (.iadd, 1) := zo_96 (zd_b zq_code_17 0 rfl rfl rfl)
theorem d_Lw_law_545 : decode code 545 = .ok (.iaload, 1) := zo_46 (zd_b zq_code_17 1 rfl rfl rfl)
theorem d_Lw_law_546 : decode code 546 = .ok (.aload_n 0, 1) := zo_42 (zd_b zq_code_17 2 rfl rfl rfl)
theorem d_Lw_law_547 : decode code 547 = .ok (.iload 5, 2) := zo_21 (d := 5) (zd_b zq_code_17 3 rfl rfl rfl) (zd_b zq_code_17 4 rfl rfl rfl)
theorem d_Lw_law_549 : decode code 549 = .ok (.iconst 2, 1) := zo_5 (zd_b zq_code_17 5 rfl rfl rfl)
theorem d_Lw_law_550 : decode code 550 = .ok (.iadd, 1) := zo_96 (zd_b zq_code_17 6 rfl rfl rfl)
theorem d_Lw_law_551 : decode code 551 = .ok (.iaload, 1) := zo_46 (zd_b zq_code_17 7 rfl rfl rfl)
theorem d_Lw_law_552 : decode code 552 = .ok (.aload_n 0, 1) := zo_42 (zd_b zq_code_17 8 rfl rfl rfl)
theorem d_Lw_law_553 : decode code 553 = .ok (.iload 5, 2) := zo_21 (d := 5) (zd_b zq_code_17 9 rfl rfl rfl) (zd_b zq_code_17 10 rfl rfl rfl)
theorem d_Lw_law_555 : decode code 555 = .ok (.iconst 3, 1) := zo_6 (zd_b zq_code_17 11 rfl rfl rfl)
theorem d_Lw_law_556 : decode code 556 = .ok (.iadd, 1) := zo_96 (zd_b zq_code_17 12 rfl rfl rfl)
theorem d_Lw_law_557 : decode code 557 = .ok (.iaload, 1) := zo_46 (zd_b zq_code_17 13 rfl rfl rfl)
theorem d_Lw_law_558 : decode code 558 = .ok (.invokevirtual 209, 3) := zo_182 (d := 0) (e := 209) (zd_b zq_code_17 14 rfl rfl rfl) (zd_b zq_code_17 15 rfl rfl rfl) (zd_b zq_code_17 16 rfl rfl rfl)
theorem ok_Lw_law_Mm_frozenIn : z_ok M_Lw_law M_Mm_frozenIn 3 := ⟨z_mj8 (i := 33) rfl (by decide +kernel), rfl, ⟨by decide +kernel, by decide +kernel, by decide +kernel⟩, ⟨by decide, by decide⟩, z_mj1 (i := 14) rfl (by decide +kernel), rfl⟩
theorem ln_Lw_209 : Cond.methodLink "IronpourLaw" 209 M_Mm_frozenIn.1 ∈ z_gw := z_mj8 (i := 30) rfl (by decide +kernel)
theorem w_im_Mm_frozenIn : Cond.instanceMethod M_Mm_frozenIn.1 ∈ z_gw := z_mj8 (i := 31) rfl (by decide +kernel)
theorem w_se_Mm_frozenIn : Cond.selects M_Mm_frozenIn.1.cls M_Mm_frozenIn.1 M_Mm_frozenIn.1 ∈ z_gw := z_mj8 (i := 32) rfl (by decide +kernel)
theorem d_Lw_law_561 : decode code 561 = .ok (.istore 7, 2) := zo_54 (d := 7) (zd_b zq_code_17 17 rfl rfl rfl) (zd_b zq_code_17 18 rfl rfl rfl)
theorem d_Lw_law_563 : decode code 563 = .ok (.goto 1245, 3) := zo_167 (d := 4) (e := 221) (zd_b zq_code_17 19 rfl rfl rfl) (zd_b zq_code_17 20 rfl rfl rfl) (zd_b zq_code_17 21 rfl rfl rfl) (by decide +kernel)
set_option maxHeartbeats 4000000 in
set_option maxRecDepth 100000 in
theorem LC_frozenIn {g : zG} {ad : Nat → Nat} {t : zTT} {u : zNN} {w : zW} {j : Nat} (hI : IVm g ad t u w) (hR : REY t u.1 (48 * j)) {r : Nat} (hJ : 7 * j + 7 ≤ g.2.2 41) (hL : g.2.2 41 ≤ 3584) (ih : LWI g ad j r) : DW g M_Lw_law lwQ w 514 [(5, .int (nI (7 * j))), (4, .ref (ad 70)), (3, .ref (ad 69)), (2, .ref (ad 52)), (1, .ref (ad 0)), (0, .ref (g.2.2 40))] [] (100 * (r + 1)) (1000 * (r + 1)) := by
  refine y_base (cs := []) (z_I.nil w) ?_
  refine y_aload_n d_Lw_law_514 rfl 4 rfl ?_
  refine y_aload_n d_Lw_law_515 rfl 5 rfl ?_
  refine y_iload d_Lw_law_516 0 rfl ?_
  refine y_iconst d_Lw_law_518 (v := 1) (by decide) ?_
  refine y_iadd d_Lw_law_519 (v := nI ((7 * j) + 1)) (nI_add _ _) ?_
  refine y_sld (v := zs g (7 * j + 1)) d_Lw_law_520 (vp_in_nI (by omega) (by omega)) (by rw [nI_clamp (by omega)]; rfl) ?_
  refine y_aload_n d_Lw_law_521 rfl 5 rfl ?_
  refine y_iload d_Lw_law_522 0 rfl ?_
  refine y_iconst d_Lw_law_524 (v := 2) (by decide) ?_
  refine y_iadd d_Lw_law_525 (v := nI ((7 * j) + 2)) (nI_add _ _) ?_
  refine y_sld (v := zs g (7 * j + 2)) d_Lw_law_526 (vp_in_nI (by omega) (by omega)) (by rw [nI_clamp (by omega)]; rfl) ?_
  refine y_aload_n d_Lw_law_527 rfl 5 rfl ?_
  refine y_iload d_Lw_law_528 0 rfl ?_
  refine y_iconst d_Lw_law_530 (v := 3) (by decide) ?_
  refine y_iadd d_Lw_law_531 (v := nI ((7 * j) + 3)) (nI_add _ _) ?_
  refine y_sld (v := zs g (7 * j + 3)) d_Lw_law_532 (vp_in_nI (by omega) (by omega)) (by rw [nI_clamp (by omega)]; rfl) ?_
  refine y_aload_n d_Lw_law_533 rfl 2 rfl ?_
  refine yw_callSX (As := [.ref (ad 0), .int (zs g (7 * j + 1)), .int (zs g (7 * j + 2)), .int (zs g (7 * j + 3)), .ref (ad 69)]) (rest := []) ln_Lw_206 w_st_Lw_frozenIn ok_Lw_law_Lw_frozenIn d_Lw_law_534 (fun wA hA => W_frozenIn (IVm.nil hA hI) _ _ _) rfl rfl (Nat.le_of_ble_eq_true rfl) (by omega) (by omega) (fun wA534 hA534 E wB534 hx => ?_) (fun wA534 hA534 v wB534 hx => ?_)
  · obtain ⟨⟨v9, e1⟩, -⟩ := hx
    cases e1
  · obtain ⟨⟨v9, e1⟩, uC, huC, hI2⟩ := hx
    cases e1
    refine yw_st (st2 := [.int v9]) rfl ?_
    have hI := hI2
    refine y_base (cs := []) (z_I.nil _) ?_
    refine y_istore (lv' := [(6, .int v9), (5, .int (nI (7 * j))), (4, .ref (ad 70)), (3, .ref (ad 69)), (2, .ref (ad 52)), (1, .ref (ad 0)), (0, .ref (g.2.2 40))]) d_Lw_law_537 (by decide) rfl ?_
    refine y_aload_n d_Lw_law_539 rfl 4 rfl ?_
    refine y_aload_n d_Lw_law_540 rfl 6 rfl ?_
    refine y_iload d_Lw_law_541 1 rfl ?_
    refine y_iconst d_Lw_law_543 (v := 1) (by decide) ?_
    refine y_iadd d_Lw_law_544 (v := nI ((7 * j) + 1)) (nI_add _ _) ?_
    refine y_sld (v := zs g (7 * j + 1)) d_Lw_law_545 (vp_in_nI (by omega) (by omega)) (by rw [nI_clamp (by omega)]; rfl) ?_
    refine y_aload_n d_Lw_law_546 rfl 6 rfl ?_
    refine y_iload d_Lw_law_547 1 rfl ?_
    refine y_iconst d_Lw_law_549 (v := 2) (by decide) ?_
    refine y_iadd d_Lw_law_550 (v := nI ((7 * j) + 2)) (nI_add _ _) ?_
    refine y_sld (v := zs g (7 * j + 2)) d_Lw_law_551 (vp_in_nI (by omega) (by omega)) (by rw [nI_clamp (by omega)]; rfl) ?_
    refine y_aload_n d_Lw_law_552 rfl 6 rfl ?_
    refine y_iload d_Lw_law_553 1 rfl ?_
    refine y_iconst d_Lw_law_555 (v := 3) (by decide) ?_
    refine y_iadd d_Lw_law_556 (v := nI ((7 * j) + 3)) (nI_add _ _) ?_
    refine y_sld (v := zs g (7 * j + 3)) d_Lw_law_557 (vp_in_nI (by omega) (by omega)) (by rw [nI_clamp (by omega)]; rfl) ?_
    refine yw_callVL (As := [.int (zs g (7 * j + 1)), .int (zs g (7 * j + 2)), .int (zs g (7 * j + 3))]) (rest := []) (ci := 12) rfl (fun wA hA => (IVm.nil hA hI).rm) ln_Lw_209 w_im_Mm_frozenIn w_se_Mm_frozenIn ok_Lw_law_Mm_frozenIn d_Lw_law_558 (fun wA hA => K_Mm_frozenIn (IVm.nil hA hI) _ _ _) rfl rfl (Nat.le_of_ble_eq_true rfl) (by omega) (by omega) (fun wA558 hA558 E wB558 hx => ?_) (fun wA558 hA558 v wB558 hx => ?_)
    · obtain ⟨⟨v8, e1⟩, -⟩ := hx
      cases e1
    · obtain ⟨⟨v8, e1⟩, uM, huM, hI2⟩ := hx
      cases e1
      refine yw_st (st2 := [.int v8]) rfl ?_
      have hI := hI2
      refine y_base (cs := []) (z_I.nil _) ?_
      refine y_istore (lv' := [(7, .int v8), (6, .int v9), (5, .int (nI (7 * j))), (4, .ref (ad 70)), (3, .ref (ad 69)), (2, .ref (ad 52)), (1, .ref (ad 0)), (0, .ref (g.2.2 40))]) d_Lw_law_561 (by decide) rfl ?_
      refine y_goto (tgt := 1808) d_Lw_law_563 (by decide) ?_
      refine y_lv (lv' := [(5, .int (nI (7 * j))), (4, .ref (ad 70)), (3, .ref (ad 69)), (2, .ref (ad 52)), (1, .ref (ad 0)), (0, .ref (g.2.2 40))]) [2, 3, 4, 5, 6, 7] rfl ?_
      refine y_end (fun wC hC => ?_)
      exact LC_next (IVm.nil hC hI) ((hR.n (huM.trans huC)).up (by omega)) hJ hL ih (by omega) (by omega)
theorem d_Lw_law_566 : decode code 566 = .ok (.aload_n 1, 1) := zo_43 (zd_b zq_code_17 22 rfl rfl rfl)
theorem d_Lw_law_567 : decode code 567 = .ok (.aload_n 0, 1) := zo_42 (zd_b zq_code_17 23 rfl rfl rfl)
theorem d_Lw_law_568 : decode code 568 = .ok (.iload 5, 2) := zo_21 (d := 5) (zd_b zq_code_17 24 rfl rfl rfl) (zd_b zq_code_17 25 rfl rfl rfl)
theorem d_Lw_law_570 : decode code 570 = .ok (.iconst 1, 1) := zo_4 (zd_b zq_code_17 26 rfl rfl rfl)
theorem d_Lw_law_571 : decode code 571 = .ok (.iadd, 1) := zo_96 (zd_b zq_code_17 27 rfl rfl rfl)
theorem d_Lw_law_572 : decode code 572 = .ok (.iaload, 1) := zo_46 (zd_b zq_code_17 28 rfl rfl rfl)
theorem d_Lw_law_573 : decode code 573 = .ok (.aload_n 0, 1) := zo_42 (zd_b zq_code_17 29 rfl rfl rfl)
theorem d_Lw_law_574 : decode code 574 = .ok (.iload 5, 2) := zo_21 (d := 5) (zd_b zq_code_17 30 rfl rfl rfl) (zd_b zq_code_17 31 rfl rfl rfl)
theorem d_Lw_law_576 : decode code 576 = .ok (.iconst 2, 1) := zo_5 (zd_b zq_code_18 0 rfl rfl rfl)
theorem d_Lw_law_577 : decode code 577 = .ok (.iadd, 1) := zo_96 (zd_b zq_code_18 1 rfl rfl rfl)
theorem d_Lw_law_578 : decode code 578 = .ok (.iaload, 1) := zo_46 (zd_b zq_code_18 2 rfl rfl rfl)
theorem d_Lw_law_579 : decode code 579 = .ok (.aload_n 0, 1) := zo_42 (zd_b zq_code_18 3 rfl rfl rfl)
theorem d_Lw_law_580 : decode code 580 = .ok (.iload 5, 2) := zo_21 (d := 5) (zd_b zq_code_18 4 rfl rfl rfl) (zd_b zq_code_18 5 rfl rfl rfl)
theorem d_Lw_law_582 : decode code 582 = .ok (.iconst 3, 1) := zo_6 (zd_b zq_code_18 6 rfl rfl rfl)
theorem d_Lw_law_583 : decode code 583 = .ok (.iadd, 1) := zo_96 (zd_b zq_code_18 7 rfl rfl rfl)
theorem d_Lw_law_584 : decode code 584 = .ok (.iaload, 1) := zo_46 (zd_b zq_code_18 8 rfl rfl rfl)
theorem d_Lw_law_585 : decode code 585 = .ok (.aload_n 0, 1) := zo_42 (zd_b zq_code_18 9 rfl rfl rfl)
theorem d_Lw_law_586 : decode code 586 = .ok (.iload 5, 2) := zo_21 (d := 5) (zd_b zq_code_18 10 rfl rfl rfl) (zd_b zq_code_18 11 rfl rfl rfl)
theorem d_Lw_law_588 : decode code 588 = .ok (.iconst 4, 1) := zo_7 (zd_b zq_code_18 12 rfl rfl rfl)
theorem d_Lw_law_589 : decode code 589 = .ok (.iadd, 1) := zo_96 (zd_b zq_code_18 13 rfl rfl rfl)
theorem d_Lw_law_590 : decode code 590 = .ok (.iaload, 1) := zo_46 (zd_b zq_code_18 14 rfl rfl rfl)
theorem d_Lw_law_591 : decode code 591 = .ok (.aload_n 3, 1) := zo_45 (zd_b zq_code_18 15 rfl rfl rfl)
theorem d_Lw_law_592 : decode code 592 = .ok (.invokestatic 210, 3) := zo_184 (d := 0) (e := 210) (zd_b zq_code_18 16 rfl rfl rfl) (zd_b zq_code_18 17 rfl rfl rfl) (zd_b zq_code_18 18 rfl rfl rfl)
theorem ok_Lw_law_Lw_heatAt : z_okX M_Lw_law M_Lw_heatAt 6 := ⟨z_mj4 (i := 101) rfl (by decide +kernel), by decide, ⟨by decide +kernel, by decide +kernel, by decide +kernel⟩, ⟨by decide, by decide⟩, z_mj1 (i := 0) rfl (by decide +kernel), rfl⟩
theorem ln_Lw_210 : Cond.methodLink "IronpourLaw" 210 M_Lw_heatAt.1 ∈ z_gw := z_mj4 (i := 99) rfl (by decide +kernel)
theorem w_st_Lw_heatAt : Cond.static M_Lw_heatAt.1 ∈ z_gw := z_mj4 (i := 100) rfl (by decide +kernel)
theorem d_Lw_law_595 : decode code 595 = .ok (.istore 6, 2) := zo_54 (d := 6) (zd_b zq_code_18 19 rfl rfl rfl) (zd_b zq_code_18 20 rfl rfl rfl)
theorem d_Lw_law_597 : decode code 597 = .ok (.aload_n 2, 1) := zo_44 (zd_b zq_code_18 21 rfl rfl rfl)
theorem d_Lw_law_598 : decode code 598 = .ok (.aload_n 0, 1) := zo_42 (zd_b zq_code_18 22 rfl rfl rfl)
theorem d_Lw_law_599 : decode code 599 = .ok (.iload 5, 2) := zo_21 (d := 5) (zd_b zq_code_18 23 rfl rfl rfl) (zd_b zq_code_18 24 rfl rfl rfl)
theorem d_Lw_law_601 : decode code 601 = .ok (.iconst 1, 1) := zo_4 (zd_b zq_code_18 25 rfl rfl rfl)
theorem d_Lw_law_602 : decode code 602 = .ok (.iadd, 1) := zo_96 (zd_b zq_code_18 26 rfl rfl rfl)
theorem d_Lw_law_603 : decode code 603 = .ok (.iaload, 1) := zo_46 (zd_b zq_code_18 27 rfl rfl rfl)
theorem d_Lw_law_604 : decode code 604 = .ok (.aload_n 0, 1) := zo_42 (zd_b zq_code_18 28 rfl rfl rfl)
theorem d_Lw_law_605 : decode code 605 = .ok (.iload 5, 2) := zo_21 (d := 5) (zd_b zq_code_18 29 rfl rfl rfl) (zd_b zq_code_18 30 rfl rfl rfl)
theorem d_Lw_law_607 : decode code 607 = .ok (.iconst 2, 1) := zo_5 (zd_b zq_code_18 31 rfl rfl rfl)
theorem d_Lw_law_608 : decode code 608 = .ok (.iadd, 1) := zo_96 (zd_b zq_code_19 0 rfl rfl rfl)
theorem d_Lw_law_609 : decode code 609 = .ok (.iaload, 1) := zo_46 (zd_b zq_code_19 1 rfl rfl rfl)
theorem d_Lw_law_610 : decode code 610 = .ok (.aload_n 0, 1) := zo_42 (zd_b zq_code_19 2 rfl rfl rfl)
theorem d_Lw_law_611 : decode code 611 = .ok (.iload 5, 2) := zo_21 (d := 5) (zd_b zq_code_19 3 rfl rfl rfl) (zd_b zq_code_19 4 rfl rfl rfl)
theorem d_Lw_law_613 : decode code 613 = .ok (.iconst 3, 1) := zo_6 (zd_b zq_code_19 5 rfl rfl rfl)
theorem d_Lw_law_614 : decode code 614 = .ok (.iadd, 1) := zo_96 (zd_b zq_code_19 6 rfl rfl rfl)
theorem d_Lw_law_615 : decode code 615 = .ok (.iaload, 1) := zo_46 (zd_b zq_code_19 7 rfl rfl rfl)
theorem d_Lw_law_616 : decode code 616 = .ok (.aload_n 0, 1) := zo_42 (zd_b zq_code_19 8 rfl rfl rfl)
theorem d_Lw_law_617 : decode code 617 = .ok (.iload 5, 2) := zo_21 (d := 5) (zd_b zq_code_19 9 rfl rfl rfl) (zd_b zq_code_19 10 rfl rfl rfl)
theorem d_Lw_law_619 : decode code 619 = .ok (.iconst 4, 1) := zo_7 (zd_b zq_code_19 11 rfl rfl rfl)
theorem d_Lw_law_620 : decode code 620 = .ok (.iadd, 1) := zo_96 (zd_b zq_code_19 12 rfl rfl rfl)
theorem d_Lw_law_621 : decode code 621 = .ok (.iaload, 1) := zo_46 (zd_b zq_code_19 13 rfl rfl rfl)
theorem d_Lw_law_622 : decode code 622 = .ok (.invokevirtual 213, 3) := zo_182 (d := 0) (e := 213) (zd_b zq_code_19 14 rfl rfl rfl) (zd_b zq_code_19 15 rfl rfl rfl) (zd_b zq_code_19 16 rfl rfl rfl)
theorem ok_Lw_law_Mm_heatAt : z_ok M_Lw_law M_Mm_heatAt 4 := ⟨z_mj8 (i := 60) rfl (by decide +kernel), rfl, ⟨by decide +kernel, by decide +kernel, by decide +kernel⟩, ⟨by decide, by decide⟩, z_mj1 (i := 14) rfl (by decide +kernel), rfl⟩
theorem ln_Lw_213 : Cond.methodLink "IronpourLaw" 213 M_Mm_heatAt.1 ∈ z_gw := z_mj8 (i := 57) rfl (by decide +kernel)
theorem w_im_Mm_heatAt : Cond.instanceMethod M_Mm_heatAt.1 ∈ z_gw := z_mj8 (i := 58) rfl (by decide +kernel)
theorem w_se_Mm_heatAt : Cond.selects M_Mm_heatAt.1.cls M_Mm_heatAt.1 M_Mm_heatAt.1 ∈ z_gw := z_mj8 (i := 59) rfl (by decide +kernel)
theorem d_Lw_law_625 : decode code 625 = .ok (.istore 7, 2) := zo_54 (d := 7) (zd_b zq_code_19 17 rfl rfl rfl) (zd_b zq_code_19 18 rfl rfl rfl)
theorem d_Lw_law_627 : decode code 627 = .ok (.goto 1181, 3) := zo_167 (d := 4) (e := 157) (zd_b zq_code_19 19 rfl rfl rfl) (zd_b zq_code_19 20 rfl rfl rfl) (zd_b zq_code_19 21 rfl rfl rfl) (by decide +kernel)
set_option maxHeartbeats 4000000 in
set_option maxRecDepth 100000 in
theorem LC_heatAt {g : zG} {ad : Nat → Nat} {t : zTT} {u : zNN} {w : zW} {j : Nat} (hI : IVm g ad t u w) (hR : REY t u.1 (48 * j)) {r : Nat} (hJ : 7 * j + 7 ≤ g.2.2 41) (hL : g.2.2 41 ≤ 3584) (ih : LWI g ad j r) : DW g M_Lw_law lwQ w 566 [(5, .int (nI (7 * j))), (4, .ref (ad 70)), (3, .ref (ad 69)), (2, .ref (ad 52)), (1, .ref (ad 0)), (0, .ref (g.2.2 40))] [] (100 * (r + 1)) (1000 * (r + 1)) := by
  refine y_base (cs := []) (z_I.nil w) ?_
  refine y_aload_n d_Lw_law_566 rfl 4 rfl ?_
  refine y_aload_n d_Lw_law_567 rfl 5 rfl ?_
  refine y_iload d_Lw_law_568 0 rfl ?_
  refine y_iconst d_Lw_law_570 (v := 1) (by decide) ?_
  refine y_iadd d_Lw_law_571 (v := nI ((7 * j) + 1)) (nI_add _ _) ?_
  refine y_sld (v := zs g (7 * j + 1)) d_Lw_law_572 (vp_in_nI (by omega) (by omega)) (by rw [nI_clamp (by omega)]; rfl) ?_
  refine y_aload_n d_Lw_law_573 rfl 5 rfl ?_
  refine y_iload d_Lw_law_574 0 rfl ?_
  refine y_iconst d_Lw_law_576 (v := 2) (by decide) ?_
  refine y_iadd d_Lw_law_577 (v := nI ((7 * j) + 2)) (nI_add _ _) ?_
  refine y_sld (v := zs g (7 * j + 2)) d_Lw_law_578 (vp_in_nI (by omega) (by omega)) (by rw [nI_clamp (by omega)]; rfl) ?_
  refine y_aload_n d_Lw_law_579 rfl 5 rfl ?_
  refine y_iload d_Lw_law_580 0 rfl ?_
  refine y_iconst d_Lw_law_582 (v := 3) (by decide) ?_
  refine y_iadd d_Lw_law_583 (v := nI ((7 * j) + 3)) (nI_add _ _) ?_
  refine y_sld (v := zs g (7 * j + 3)) d_Lw_law_584 (vp_in_nI (by omega) (by omega)) (by rw [nI_clamp (by omega)]; rfl) ?_
  refine y_aload_n d_Lw_law_585 rfl 5 rfl ?_
  refine y_iload d_Lw_law_586 0 rfl ?_
  refine y_iconst d_Lw_law_588 (v := 4) (by decide) ?_
  refine y_iadd d_Lw_law_589 (v := nI ((7 * j) + 4)) (nI_add _ _) ?_
  refine y_sld (v := zs g (7 * j + 4)) d_Lw_law_590 (vp_in_nI (by omega) (by omega)) (by rw [nI_clamp (by omega)]; rfl) ?_
  refine y_aload_n d_Lw_law_591 rfl 2 rfl ?_
  refine yw_callSX (As := [.ref (ad 0), .int (zs g (7 * j + 1)), .int (zs g (7 * j + 2)), .int (zs g (7 * j + 3)), .int (zs g (7 * j + 4)), .ref (ad 69)]) (rest := []) ln_Lw_210 w_st_Lw_heatAt ok_Lw_law_Lw_heatAt d_Lw_law_592 (fun wA hA => W_heatAt (IVm.nil hA hI) _ _ _ _) rfl rfl (Nat.le_of_ble_eq_true rfl) (by omega) (by omega) (fun wA592 hA592 E wB592 hx => ?_) (fun wA592 hA592 v wB592 hx => ?_)
  · obtain ⟨⟨v9, e1⟩, -⟩ := hx
    cases e1
  · obtain ⟨⟨v9, e1⟩, uC, huC, hI2⟩ := hx
    cases e1
    refine yw_st (st2 := [.int v9]) rfl ?_
    have hI := hI2
    refine y_base (cs := []) (z_I.nil _) ?_
    refine y_istore (lv' := [(6, .int v9), (5, .int (nI (7 * j))), (4, .ref (ad 70)), (3, .ref (ad 69)), (2, .ref (ad 52)), (1, .ref (ad 0)), (0, .ref (g.2.2 40))]) d_Lw_law_595 (by decide) rfl ?_
    refine y_aload_n d_Lw_law_597 rfl 4 rfl ?_
    refine y_aload_n d_Lw_law_598 rfl 6 rfl ?_
    refine y_iload d_Lw_law_599 1 rfl ?_
    refine y_iconst d_Lw_law_601 (v := 1) (by decide) ?_
    refine y_iadd d_Lw_law_602 (v := nI ((7 * j) + 1)) (nI_add _ _) ?_
    refine y_sld (v := zs g (7 * j + 1)) d_Lw_law_603 (vp_in_nI (by omega) (by omega)) (by rw [nI_clamp (by omega)]; rfl) ?_
    refine y_aload_n d_Lw_law_604 rfl 6 rfl ?_
    refine y_iload d_Lw_law_605 1 rfl ?_
    refine y_iconst d_Lw_law_607 (v := 2) (by decide) ?_
    refine y_iadd d_Lw_law_608 (v := nI ((7 * j) + 2)) (nI_add _ _) ?_
    refine y_sld (v := zs g (7 * j + 2)) d_Lw_law_609 (vp_in_nI (by omega) (by omega)) (by rw [nI_clamp (by omega)]; rfl) ?_
    refine y_aload_n d_Lw_law_610 rfl 6 rfl ?_
    refine y_iload d_Lw_law_611 1 rfl ?_
    refine y_iconst d_Lw_law_613 (v := 3) (by decide) ?_
    refine y_iadd d_Lw_law_614 (v := nI ((7 * j) + 3)) (nI_add _ _) ?_
    refine y_sld (v := zs g (7 * j + 3)) d_Lw_law_615 (vp_in_nI (by omega) (by omega)) (by rw [nI_clamp (by omega)]; rfl) ?_
    refine y_aload_n d_Lw_law_616 rfl 6 rfl ?_
    refine y_iload d_Lw_law_617 1 rfl ?_
    refine y_iconst d_Lw_law_619 (v := 4) (by decide) ?_
    refine y_iadd d_Lw_law_620 (v := nI ((7 * j) + 4)) (nI_add _ _) ?_
    refine y_sld (v := zs g (7 * j + 4)) d_Lw_law_621 (vp_in_nI (by omega) (by omega)) (by rw [nI_clamp (by omega)]; rfl) ?_
    refine yw_callVL (As := [.int (zs g (7 * j + 1)), .int (zs g (7 * j + 2)), .int (zs g (7 * j + 3)), .int (zs g (7 * j + 4))]) (rest := []) (ci := 12) rfl (fun wA hA => (IVm.nil hA hI).rm) ln_Lw_213 w_im_Mm_heatAt w_se_Mm_heatAt ok_Lw_law_Mm_heatAt d_Lw_law_622 (fun wA hA => K_Mm_heatAt (IVm.nil hA hI) _ _ _ _) rfl rfl (Nat.le_of_ble_eq_true rfl) (by omega) (by omega) (fun wA622 hA622 E wB622 hx => ?_) (fun wA622 hA622 v wB622 hx => ?_)
    · obtain ⟨⟨v8, e1⟩, -⟩ := hx
      cases e1
    · obtain ⟨⟨v8, e1⟩, uM, huM, hI2⟩ := hx
      cases e1
      refine yw_st (st2 := [.int v8]) rfl ?_
      have hI := hI2
      refine y_base (cs := []) (z_I.nil _) ?_
      refine y_istore (lv' := [(7, .int v8), (6, .int v9), (5, .int (nI (7 * j))), (4, .ref (ad 70)), (3, .ref (ad 69)), (2, .ref (ad 52)), (1, .ref (ad 0)), (0, .ref (g.2.2 40))]) d_Lw_law_625 (by decide) rfl ?_
      refine y_goto (tgt := 1808) d_Lw_law_627 (by decide) ?_
      refine y_lv (lv' := [(5, .int (nI (7 * j))), (4, .ref (ad 70)), (3, .ref (ad 69)), (2, .ref (ad 52)), (1, .ref (ad 0)), (0, .ref (g.2.2 40))]) [2, 3, 4, 5, 6, 7] rfl ?_
      refine y_end (fun wC hC => ?_)
      exact LC_next (IVm.nil hC hI) ((hR.n (huM.trans huC)).up (by omega)) hJ hL ih (by omega) (by omega)
theorem d_Lw_law_630 : decode code 630 = .ok (.aload_n 1, 1) := zo_43 (zd_b zq_code_19 22 rfl rfl rfl)
theorem d_Lw_law_631 : decode code 631 = .ok (.aload_n 0, 1) := zo_42 (zd_b zq_code_19 23 rfl rfl rfl)
theorem d_Lw_law_632 : decode code 632 = .ok (.iload 5, 2) := zo_21 (d := 5) (zd_b zq_code_19 24 rfl rfl rfl) (zd_b zq_code_19 25 rfl rfl rfl)
theorem d_Lw_law_634 : decode code 634 = .ok (.iconst 1, 1) := zo_4 (zd_b zq_code_19 26 rfl rfl rfl)
theorem d_Lw_law_635 : decode code 635 = .ok (.iadd, 1) := zo_96 (zd_b zq_code_19 27 rfl rfl rfl)
theorem d_Lw_law_636 : decode code 636 = .ok (.iaload, 1) := zo_46 (zd_b zq_code_19 28 rfl rfl rfl)
theorem d_Lw_law_637 : decode code 637 = .ok (.aload_n 0, 1) := zo_42 (zd_b zq_code_19 29 rfl rfl rfl)
theorem d_Lw_law_638 : decode code 638 = .ok (.iload 5, 2) := zo_21 (d := 5) (zd_b zq_code_19 30 rfl rfl rfl) (zd_b zq_code_19 31 rfl rfl rfl)
theorem d_Lw_law_640 : decode code 640 = .ok (.iconst 2, 1) := zo_5 (zd_b zq_code_20 0 rfl rfl rfl)
theorem d_Lw_law_641 : decode code 641 = .ok (.iadd, 1) := zo_96 (zd_b zq_code_20 1 rfl rfl rfl)
theorem d_Lw_law_642 : decode code 642 = .ok (.iaload, 1) := zo_46 (zd_b zq_code_20 2 rfl rfl rfl)
theorem d_Lw_law_643 : decode code 643 = .ok (.aload_n 0, 1) := zo_42 (zd_b zq_code_20 3 rfl rfl rfl)
theorem d_Lw_law_644 : decode code 644 = .ok (.iload 5, 2) := zo_21 (d := 5) (zd_b zq_code_20 4 rfl rfl rfl) (zd_b zq_code_20 5 rfl rfl rfl)
theorem d_Lw_law_646 : decode code 646 = .ok (.iconst 3, 1) := zo_6 (zd_b zq_code_20 6 rfl rfl rfl)
theorem d_Lw_law_647 : decode code 647 = .ok (.iadd, 1) := zo_96 (zd_b zq_code_20 7 rfl rfl rfl)
theorem d_Lw_law_648 : decode code 648 = .ok (.iaload, 1) := zo_46 (zd_b zq_code_20 8 rfl rfl rfl)
theorem d_Lw_law_649 : decode code 649 = .ok (.aload_n 3, 1) := zo_45 (zd_b zq_code_20 9 rfl rfl rfl)
theorem d_Lw_law_650 : decode code 650 = .ok (.invokestatic 214, 3) := zo_184 (d := 0) (e := 214) (zd_b zq_code_20 10 rfl rfl rfl) (zd_b zq_code_20 11 rfl rfl rfl) (zd_b zq_code_20 12 rfl rfl rfl)
theorem ok_Lw_law_Lw_isFed : z_okX M_Lw_law M_Lw_isFed 5 := ⟨z_mj4 (i := 113) rfl (by decide +kernel), by decide, ⟨by decide +kernel, by decide +kernel, by decide +kernel⟩, ⟨by decide, by decide⟩, z_mj1 (i := 0) rfl (by decide +kernel), rfl⟩
theorem ln_Lw_214 : Cond.methodLink "IronpourLaw" 214 M_Lw_isFed.1 ∈ z_gw := z_mj4 (i := 111) rfl (by decide +kernel)
theorem w_st_Lw_isFed : Cond.static M_Lw_isFed.1 ∈ z_gw := z_mj4 (i := 112) rfl (by decide +kernel)
theorem d_Lw_law_653 : decode code 653 = .ok (.istore 6, 2) := zo_54 (d := 6) (zd_b zq_code_20 13 rfl rfl rfl) (zd_b zq_code_20 14 rfl rfl rfl)
theorem d_Lw_law_655 : decode code 655 = .ok (.aload_n 2, 1) := zo_44 (zd_b zq_code_20 15 rfl rfl rfl)
theorem d_Lw_law_656 : decode code 656 = .ok (.aload_n 0, 1) := zo_42 (zd_b zq_code_20 16 rfl rfl rfl)
theorem d_Lw_law_657 : decode code 657 = .ok (.iload 5, 2) := zo_21 (d := 5) (zd_b zq_code_20 17 rfl rfl rfl) (zd_b zq_code_20 18 rfl rfl rfl)
theorem d_Lw_law_659 : decode code 659 = .ok (.iconst 1, 1) := zo_4 (zd_b zq_code_20 19 rfl rfl rfl)
theorem d_Lw_law_660 : decode code 660 = .ok (.iadd, 1) := zo_96 (zd_b zq_code_20 20 rfl rfl rfl)
theorem d_Lw_law_661 : decode code 661 = .ok (.iaload, 1) := zo_46 (zd_b zq_code_20 21 rfl rfl rfl)
theorem d_Lw_law_662 : decode code 662 = .ok (.aload_n 0, 1) := zo_42 (zd_b zq_code_20 22 rfl rfl rfl)
theorem d_Lw_law_663 : decode code 663 = .ok (.iload 5, 2) := zo_21 (d := 5) (zd_b zq_code_20 23 rfl rfl rfl) (zd_b zq_code_20 24 rfl rfl rfl)
theorem d_Lw_law_665 : decode code 665 = .ok (.iconst 2, 1) := zo_5 (zd_b zq_code_20 25 rfl rfl rfl)
theorem d_Lw_law_666 : decode code 666 = .ok (.iadd, 1) := zo_96 (zd_b zq_code_20 26 rfl rfl rfl)
theorem d_Lw_law_667 : decode code 667 = .ok (.iaload, 1) := zo_46 (zd_b zq_code_20 27 rfl rfl rfl)
theorem d_Lw_law_668 : decode code 668 = .ok (.aload_n 0, 1) := zo_42 (zd_b zq_code_20 28 rfl rfl rfl)
theorem d_Lw_law_669 : decode code 669 = .ok (.iload 5, 2) := zo_21 (d := 5) (zd_b zq_code_20 29 rfl rfl rfl) (zd_b zq_code_20 30 rfl rfl rfl)
theorem d_Lw_law_671 : decode code 671 = .ok (.iconst 3, 1) := zo_6 (zd_b zq_code_20 31 rfl rfl rfl)
theorem d_Lw_law_672 : decode code 672 = .ok (.iadd, 1) := zo_96 (zd_b zq_code_21 0 rfl rfl rfl)
theorem d_Lw_law_673 : decode code 673 = .ok (.iaload, 1) := zo_46 (zd_b zq_code_21 1 rfl rfl rfl)
theorem d_Lw_law_674 : decode code 674 = .ok (.invokevirtual 216, 3) := zo_182 (d := 0) (e := 216) (zd_b zq_code_21 2 rfl rfl rfl) (zd_b zq_code_21 3 rfl rfl rfl) (zd_b zq_code_21 4 rfl rfl rfl)
theorem ok_Lw_law_Mm_isFed : z_ok M_Lw_law M_Mm_isFed 3 := ⟨z_mj8 (i := 64) rfl (by decide +kernel), rfl, ⟨by decide +kernel, by decide +kernel, by decide +kernel⟩, ⟨by decide, by decide⟩, z_mj1 (i := 14) rfl (by decide +kernel), rfl⟩
theorem ln_Lw_216 : Cond.methodLink "IronpourLaw" 216 M_Mm_isFed.1 ∈ z_gw := z_mj8 (i := 61) rfl (by decide +kernel)
theorem w_im_Mm_isFed : Cond.instanceMethod M_Mm_isFed.1 ∈ z_gw := z_mj8 (i := 62) rfl (by decide +kernel)
theorem w_se_Mm_isFed : Cond.selects M_Mm_isFed.1.cls M_Mm_isFed.1 M_Mm_isFed.1 ∈ z_gw := z_mj8 (i := 63) rfl (by decide +kernel)
theorem d_Lw_law_677 : decode code 677 = .ok (.istore 7, 2) := zo_54 (d := 7) (zd_b zq_code_21 5 rfl rfl rfl) (zd_b zq_code_21 6 rfl rfl rfl)
theorem d_Lw_law_679 : decode code 679 = .ok (.goto 1129, 3) := zo_167 (d := 4) (e := 105) (zd_b zq_code_21 7 rfl rfl rfl) (zd_b zq_code_21 8 rfl rfl rfl) (zd_b zq_code_21 9 rfl rfl rfl) (by decide +kernel)
set_option maxHeartbeats 4000000 in
set_option maxRecDepth 100000 in
theorem LC_isFed {g : zG} {ad : Nat → Nat} {t : zTT} {u : zNN} {w : zW} {j : Nat} (hI : IVm g ad t u w) (hR : REY t u.1 (48 * j)) {r : Nat} (hJ : 7 * j + 7 ≤ g.2.2 41) (hL : g.2.2 41 ≤ 3584) (ih : LWI g ad j r) : DW g M_Lw_law lwQ w 630 [(5, .int (nI (7 * j))), (4, .ref (ad 70)), (3, .ref (ad 69)), (2, .ref (ad 52)), (1, .ref (ad 0)), (0, .ref (g.2.2 40))] [] (100 * (r + 1)) (1000 * (r + 1)) := by
  refine y_base (cs := []) (z_I.nil w) ?_
  refine y_aload_n d_Lw_law_630 rfl 4 rfl ?_
  refine y_aload_n d_Lw_law_631 rfl 5 rfl ?_
  refine y_iload d_Lw_law_632 0 rfl ?_
  refine y_iconst d_Lw_law_634 (v := 1) (by decide) ?_
  refine y_iadd d_Lw_law_635 (v := nI ((7 * j) + 1)) (nI_add _ _) ?_
  refine y_sld (v := zs g (7 * j + 1)) d_Lw_law_636 (vp_in_nI (by omega) (by omega)) (by rw [nI_clamp (by omega)]; rfl) ?_
  refine y_aload_n d_Lw_law_637 rfl 5 rfl ?_
  refine y_iload d_Lw_law_638 0 rfl ?_
  refine y_iconst d_Lw_law_640 (v := 2) (by decide) ?_
  refine y_iadd d_Lw_law_641 (v := nI ((7 * j) + 2)) (nI_add _ _) ?_
  refine y_sld (v := zs g (7 * j + 2)) d_Lw_law_642 (vp_in_nI (by omega) (by omega)) (by rw [nI_clamp (by omega)]; rfl) ?_
  refine y_aload_n d_Lw_law_643 rfl 5 rfl ?_
  refine y_iload d_Lw_law_644 0 rfl ?_
  refine y_iconst d_Lw_law_646 (v := 3) (by decide) ?_
  refine y_iadd d_Lw_law_647 (v := nI ((7 * j) + 3)) (nI_add _ _) ?_
  refine y_sld (v := zs g (7 * j + 3)) d_Lw_law_648 (vp_in_nI (by omega) (by omega)) (by rw [nI_clamp (by omega)]; rfl) ?_
  refine y_aload_n d_Lw_law_649 rfl 2 rfl ?_
  refine yw_callSX (As := [.ref (ad 0), .int (zs g (7 * j + 1)), .int (zs g (7 * j + 2)), .int (zs g (7 * j + 3)), .ref (ad 69)]) (rest := []) ln_Lw_214 w_st_Lw_isFed ok_Lw_law_Lw_isFed d_Lw_law_650 (fun wA hA => W_isFed (IVm.nil hA hI) _ _ _) rfl rfl (Nat.le_of_ble_eq_true rfl) (by omega) (by omega) (fun wA650 hA650 E wB650 hx => ?_) (fun wA650 hA650 v wB650 hx => ?_)
  · obtain ⟨⟨v9, e1⟩, -⟩ := hx
    cases e1
  · obtain ⟨⟨v9, e1⟩, uC, huC, hI2⟩ := hx
    cases e1
    refine yw_st (st2 := [.int v9]) rfl ?_
    have hI := hI2
    refine y_base (cs := []) (z_I.nil _) ?_
    refine y_istore (lv' := [(6, .int v9), (5, .int (nI (7 * j))), (4, .ref (ad 70)), (3, .ref (ad 69)), (2, .ref (ad 52)), (1, .ref (ad 0)), (0, .ref (g.2.2 40))]) d_Lw_law_653 (by decide) rfl ?_
    refine y_aload_n d_Lw_law_655 rfl 4 rfl ?_
    refine y_aload_n d_Lw_law_656 rfl 6 rfl ?_
    refine y_iload d_Lw_law_657 1 rfl ?_
    refine y_iconst d_Lw_law_659 (v := 1) (by decide) ?_
    refine y_iadd d_Lw_law_660 (v := nI ((7 * j) + 1)) (nI_add _ _) ?_
    refine y_sld (v := zs g (7 * j + 1)) d_Lw_law_661 (vp_in_nI (by omega) (by omega)) (by rw [nI_clamp (by omega)]; rfl) ?_
    refine y_aload_n d_Lw_law_662 rfl 6 rfl ?_
    refine y_iload d_Lw_law_663 1 rfl ?_
    refine y_iconst d_Lw_law_665 (v := 2) (by decide) ?_
    refine y_iadd d_Lw_law_666 (v := nI ((7 * j) + 2)) (nI_add _ _) ?_
    refine y_sld (v := zs g (7 * j + 2)) d_Lw_law_667 (vp_in_nI (by omega) (by omega)) (by rw [nI_clamp (by omega)]; rfl) ?_
    refine y_aload_n d_Lw_law_668 rfl 6 rfl ?_
    refine y_iload d_Lw_law_669 1 rfl ?_
    refine y_iconst d_Lw_law_671 (v := 3) (by decide) ?_
    refine y_iadd d_Lw_law_672 (v := nI ((7 * j) + 3)) (nI_add _ _) ?_
    refine y_sld (v := zs g (7 * j + 3)) d_Lw_law_673 (vp_in_nI (by omega) (by omega)) (by rw [nI_clamp (by omega)]; rfl) ?_
    refine yw_callVL (As := [.int (zs g (7 * j + 1)), .int (zs g (7 * j + 2)), .int (zs g (7 * j + 3))]) (rest := []) (ci := 12) rfl (fun wA hA => (IVm.nil hA hI).rm) ln_Lw_216 w_im_Mm_isFed w_se_Mm_isFed ok_Lw_law_Mm_isFed d_Lw_law_674 (fun wA hA => K_Mm_isFed (IVm.nil hA hI) _ _ _) rfl rfl (Nat.le_of_ble_eq_true rfl) (by omega) (by omega) (fun wA674 hA674 E wB674 hx => ?_) (fun wA674 hA674 v wB674 hx => ?_)
    · obtain ⟨⟨v8, e1⟩, -⟩ := hx
      cases e1
    · obtain ⟨⟨v8, e1⟩, uM, huM, hI2⟩ := hx
      cases e1
      refine yw_st (st2 := [.int v8]) rfl ?_
      have hI := hI2
      refine y_base (cs := []) (z_I.nil _) ?_
      refine y_istore (lv' := [(7, .int v8), (6, .int v9), (5, .int (nI (7 * j))), (4, .ref (ad 70)), (3, .ref (ad 69)), (2, .ref (ad 52)), (1, .ref (ad 0)), (0, .ref (g.2.2 40))]) d_Lw_law_677 (by decide) rfl ?_
      refine y_goto (tgt := 1808) d_Lw_law_679 (by decide) ?_
      refine y_lv (lv' := [(5, .int (nI (7 * j))), (4, .ref (ad 70)), (3, .ref (ad 69)), (2, .ref (ad 52)), (1, .ref (ad 0)), (0, .ref (g.2.2 40))]) [2, 3, 4, 5, 6, 7] rfl ?_
      refine y_end (fun wC hC => ?_)
      exact LC_next (IVm.nil hC hI) ((hR.n (huM.trans huC)).up (by omega)) hJ hL ih (by omega) (by omega)
theorem d_Lw_law_682 : decode code 682 = .ok (.aload_n 1, 1) := zo_43 (zd_b zq_code_21 10 rfl rfl rfl)
theorem d_Lw_law_683 : decode code 683 = .ok (.aload_n 0, 1) := zo_42 (zd_b zq_code_21 11 rfl rfl rfl)
theorem d_Lw_law_684 : decode code 684 = .ok (.iload 5, 2) := zo_21 (d := 5) (zd_b zq_code_21 12 rfl rfl rfl) (zd_b zq_code_21 13 rfl rfl rfl)
theorem d_Lw_law_686 : decode code 686 = .ok (.iconst 1, 1) := zo_4 (zd_b zq_code_21 14 rfl rfl rfl)
theorem d_Lw_law_687 : decode code 687 = .ok (.iadd, 1) := zo_96 (zd_b zq_code_21 15 rfl rfl rfl)
theorem d_Lw_law_688 : decode code 688 = .ok (.iaload, 1) := zo_46 (zd_b zq_code_21 16 rfl rfl rfl)
theorem d_Lw_law_689 : decode code 689 = .ok (.aload_n 3, 1) := zo_45 (zd_b zq_code_21 17 rfl rfl rfl)
theorem d_Lw_law_690 : decode code 690 = .ok (.invokestatic 217, 3) := zo_184 (d := 0) (e := 217) (zd_b zq_code_21 18 rfl rfl rfl) (zd_b zq_code_21 19 rfl rfl rfl) (zd_b zq_code_21 20 rfl rfl rfl)
theorem ok_Lw_law_Lw_shrunk : z_okX M_Lw_law M_Lw_shrunk 3 := ⟨z_mj4 (i := 120) rfl (by decide +kernel), by decide, ⟨by decide +kernel, by decide +kernel, by decide +kernel⟩, ⟨by decide, by decide⟩, z_mj1 (i := 0) rfl (by decide +kernel), rfl⟩
theorem ln_Lw_217 : Cond.methodLink "IronpourLaw" 217 M_Lw_shrunk.1 ∈ z_gw := z_mj4 (i := 118) rfl (by decide +kernel)
theorem w_st_Lw_shrunk : Cond.static M_Lw_shrunk.1 ∈ z_gw := z_mj4 (i := 119) rfl (by decide +kernel)
theorem d_Lw_law_693 : decode code 693 = .ok (.istore 6, 2) := zo_54 (d := 6) (zd_b zq_code_21 21 rfl rfl rfl) (zd_b zq_code_21 22 rfl rfl rfl)
theorem d_Lw_law_695 : decode code 695 = .ok (.aload_n 2, 1) := zo_44 (zd_b zq_code_21 23 rfl rfl rfl)
theorem d_Lw_law_696 : decode code 696 = .ok (.aload_n 0, 1) := zo_42 (zd_b zq_code_21 24 rfl rfl rfl)
theorem d_Lw_law_697 : decode code 697 = .ok (.iload 5, 2) := zo_21 (d := 5) (zd_b zq_code_21 25 rfl rfl rfl) (zd_b zq_code_21 26 rfl rfl rfl)
theorem d_Lw_law_699 : decode code 699 = .ok (.iconst 1, 1) := zo_4 (zd_b zq_code_21 27 rfl rfl rfl)
theorem d_Lw_law_700 : decode code 700 = .ok (.iadd, 1) := zo_96 (zd_b zq_code_21 28 rfl rfl rfl)
theorem d_Lw_law_701 : decode code 701 = .ok (.iaload, 1) := zo_46 (zd_b zq_code_21 29 rfl rfl rfl)
theorem d_Lw_law_702 : decode code 702 = .ok (.invokevirtual 219, 3) := zo_182 (d := 0) (e := 219) (zd_b zq_code_21 30 rfl rfl rfl) (zd_b zq_code_21 31 rfl rfl rfl) (zd_b zq_code_22 0 rfl rfl rfl)
theorem ok_Lw_law_Mm_shrunk : z_ok M_Lw_law M_Mm_shrunk 1 := ⟨z_mj8 (i := 72) rfl (by decide +kernel), rfl, ⟨by decide +kernel, by decide +kernel, by decide +kernel⟩, ⟨by decide, by decide⟩, z_mj1 (i := 14) rfl (by decide +kernel), rfl⟩
theorem ln_Lw_219 : Cond.methodLink "IronpourLaw" 219 M_Mm_shrunk.1 ∈ z_gw := z_mj8 (i := 69) rfl (by decide +kernel)
theorem w_im_Mm_shrunk : Cond.instanceMethod M_Mm_shrunk.1 ∈ z_gw := z_mj8 (i := 70) rfl (by decide +kernel)
theorem w_se_Mm_shrunk : Cond.selects M_Mm_shrunk.1.cls M_Mm_shrunk.1 M_Mm_shrunk.1 ∈ z_gw := z_mj8 (i := 71) rfl (by decide +kernel)
theorem d_Lw_law_705 : decode code 705 = .ok (.istore 7, 2) := zo_54 (d := 7) (zd_b zq_code_22 1 rfl rfl rfl) (zd_b zq_code_22 2 rfl rfl rfl)
theorem d_Lw_law_707 : decode code 707 = .ok (.goto 1101, 3) := zo_167 (d := 4) (e := 77) (zd_b zq_code_22 3 rfl rfl rfl) (zd_b zq_code_22 4 rfl rfl rfl) (zd_b zq_code_22 5 rfl rfl rfl) (by decide +kernel)
set_option maxHeartbeats 4000000 in
set_option maxRecDepth 100000 in
theorem LC_shrunk {g : zG} {ad : Nat → Nat} {t : zTT} {u : zNN} {w : zW} {j : Nat} (hI : IVm g ad t u w) (hR : REY t u.1 (48 * j)) {r : Nat} (hJ : 7 * j + 7 ≤ g.2.2 41) (hL : g.2.2 41 ≤ 3584) (ih : LWI g ad j r) : DW g M_Lw_law lwQ w 682 [(5, .int (nI (7 * j))), (4, .ref (ad 70)), (3, .ref (ad 69)), (2, .ref (ad 52)), (1, .ref (ad 0)), (0, .ref (g.2.2 40))] [] (100 * (r + 1)) (1000 * (r + 1)) := by
  refine y_base (cs := []) (z_I.nil w) ?_
  refine y_aload_n d_Lw_law_682 rfl 4 rfl ?_
  refine y_aload_n d_Lw_law_683 rfl 5 rfl ?_
  refine y_iload d_Lw_law_684 0 rfl ?_
  refine y_iconst d_Lw_law_686 (v := 1) (by decide) ?_
  refine y_iadd d_Lw_law_687 (v := nI ((7 * j) + 1)) (nI_add _ _) ?_
  refine y_sld (v := zs g (7 * j + 1)) d_Lw_law_688 (vp_in_nI (by omega) (by omega)) (by rw [nI_clamp (by omega)]; rfl) ?_
  refine y_aload_n d_Lw_law_689 rfl 2 rfl ?_
  refine yw_callSX (As := [.ref (ad 0), .int (zs g (7 * j + 1)), .ref (ad 69)]) (rest := []) ln_Lw_217 w_st_Lw_shrunk ok_Lw_law_Lw_shrunk d_Lw_law_690 (fun wA hA => W_shrunk (IVm.nil hA hI) _) rfl rfl (Nat.le_of_ble_eq_true rfl) (by omega) (by omega) (fun wA690 hA690 E wB690 hx => ?_) (fun wA690 hA690 v wB690 hx => ?_)
  · obtain ⟨⟨v9, e1⟩, -⟩ := hx
    cases e1
  · obtain ⟨⟨v9, e1⟩, uC, huC, hI2⟩ := hx
    cases e1
    refine yw_st (st2 := [.int v9]) rfl ?_
    have hI := hI2
    refine y_base (cs := []) (z_I.nil _) ?_
    refine y_istore (lv' := [(6, .int v9), (5, .int (nI (7 * j))), (4, .ref (ad 70)), (3, .ref (ad 69)), (2, .ref (ad 52)), (1, .ref (ad 0)), (0, .ref (g.2.2 40))]) d_Lw_law_693 (by decide) rfl ?_
    refine y_aload_n d_Lw_law_695 rfl 4 rfl ?_
    refine y_aload_n d_Lw_law_696 rfl 6 rfl ?_
    refine y_iload d_Lw_law_697 1 rfl ?_
    refine y_iconst d_Lw_law_699 (v := 1) (by decide) ?_
    refine y_iadd d_Lw_law_700 (v := nI ((7 * j) + 1)) (nI_add _ _) ?_
    refine y_sld (v := zs g (7 * j + 1)) d_Lw_law_701 (vp_in_nI (by omega) (by omega)) (by rw [nI_clamp (by omega)]; rfl) ?_
    refine yw_callVL (As := [.int (zs g (7 * j + 1))]) (rest := []) (ci := 12) rfl (fun wA hA => (IVm.nil hA hI).rm) ln_Lw_219 w_im_Mm_shrunk w_se_Mm_shrunk ok_Lw_law_Mm_shrunk d_Lw_law_702 (fun wA hA => K_Mm_shrunk (IVm.nil hA hI) _) rfl rfl (Nat.le_of_ble_eq_true rfl) (by omega) (by omega) (fun wA702 hA702 E wB702 hx => ?_) (fun wA702 hA702 v wB702 hx => ?_)
    · obtain ⟨⟨v8, e1⟩, -⟩ := hx
      cases e1
    · obtain ⟨⟨v8, e1⟩, uM, huM, hI2⟩ := hx
      cases e1
      refine yw_st (st2 := [.int v8]) rfl ?_
      have hI := hI2
      refine y_base (cs := []) (z_I.nil _) ?_
      refine y_istore (lv' := [(7, .int v8), (6, .int v9), (5, .int (nI (7 * j))), (4, .ref (ad 70)), (3, .ref (ad 69)), (2, .ref (ad 52)), (1, .ref (ad 0)), (0, .ref (g.2.2 40))]) d_Lw_law_705 (by decide) rfl ?_
      refine y_goto (tgt := 1808) d_Lw_law_707 (by decide) ?_
      refine y_lv (lv' := [(5, .int (nI (7 * j))), (4, .ref (ad 70)), (3, .ref (ad 69)), (2, .ref (ad 52)), (1, .ref (ad 0)), (0, .ref (g.2.2 40))]) [2, 3, 4, 5, 6, 7] rfl ?_
      refine y_end (fun wC hC => ?_)
      exact LC_next (IVm.nil hC hI) ((hR.n (huM.trans huC)).up (by omega)) hJ hL ih (by omega) (by omega)
theorem d_Lw_law_710 : decode code 710 = .ok (.aload_n 1, 1) := zo_43 (zd_b zq_code_22 6 rfl rfl rfl)
theorem d_Lw_law_711 : decode code 711 = .ok (.aload_n 0, 1) := zo_42 (zd_b zq_code_22 7 rfl rfl rfl)
theorem d_Lw_law_712 : decode code 712 = .ok (.iload 5, 2) := zo_21 (d := 5) (zd_b zq_code_22 8 rfl rfl rfl) (zd_b zq_code_22 9 rfl rfl rfl)
theorem d_Lw_law_714 : decode code 714 = .ok (.iconst 1, 1) := zo_4 (zd_b zq_code_22 10 rfl rfl rfl)
theorem d_Lw_law_715 : decode code 715 = .ok (.iadd, 1) := zo_96 (zd_b zq_code_22 11 rfl rfl rfl)
theorem d_Lw_law_716 : decode code 716 = .ok (.iaload, 1) := zo_46 (zd_b zq_code_22 12 rfl rfl rfl)
theorem d_Lw_law_717 : decode code 717 = .ok (.aload_n 3, 1) := zo_45 (zd_b zq_code_22 13 rfl rfl rfl)
theorem d_Lw_law_718 : decode code 718 = .ok (.invokestatic 220, 3) := zo_184 (d := 0) (e := 220) (zd_b zq_code_22 14 rfl rfl rfl) (zd_b zq_code_22 15 rfl rfl rfl) (zd_b zq_code_22 16 rfl rfl rfl)
theorem ok_Lw_law_Lw_shrunkAnew : z_okX M_Lw_law M_Lw_shrunkAnew 3 := ⟨z_mj4 (i := 131) rfl (by decide +kernel), by decide, ⟨by decide +kernel, by decide +kernel, by decide +kernel⟩, ⟨by decide, by decide⟩, z_mj1 (i := 0) rfl (by decide +kernel), rfl⟩
theorem ln_Lw_220 : Cond.methodLink "IronpourLaw" 220 M_Lw_shrunkAnew.1 ∈ z_gw := z_mj4 (i := 129) rfl (by decide +kernel)
theorem w_st_Lw_shrunkAnew : Cond.static M_Lw_shrunkAnew.1 ∈ z_gw := z_mj4 (i := 130) rfl (by decide +kernel)
theorem d_Lw_law_721 : decode code 721 = .ok (.istore 6, 2) := zo_54 (d := 6) (zd_b zq_code_22 17 rfl rfl rfl) (zd_b zq_code_22 18 rfl rfl rfl)
theorem d_Lw_law_723 : decode code 723 = .ok (.aload_n 2, 1) := zo_44 (zd_b zq_code_22 19 rfl rfl rfl)
theorem d_Lw_law_724 : decode code 724 = .ok (.aload_n 0, 1) := zo_42 (zd_b zq_code_22 20 rfl rfl rfl)
theorem d_Lw_law_725 : decode code 725 = .ok (.iload 5, 2) := zo_21 (d := 5) (zd_b zq_code_22 21 rfl rfl rfl) (zd_b zq_code_22 22 rfl rfl rfl)
theorem d_Lw_law_727 : decode code 727 = .ok (.iconst 1, 1) := zo_4 (zd_b zq_code_22 23 rfl rfl rfl)
theorem d_Lw_law_728 : decode code 728 = .ok (.iadd, 1) := zo_96 (zd_b zq_code_22 24 rfl rfl rfl)
theorem d_Lw_law_729 : decode code 729 = .ok (.iaload, 1) := zo_46 (zd_b zq_code_22 25 rfl rfl rfl)
theorem d_Lw_law_730 : decode code 730 = .ok (.invokevirtual 222, 3) := zo_182 (d := 0) (e := 222) (zd_b zq_code_22 26 rfl rfl rfl) (zd_b zq_code_22 27 rfl rfl rfl) (zd_b zq_code_22 28 rfl rfl rfl)
theorem ok_Lw_law_Mm_shrunkAnew : z_ok M_Lw_law M_Mm_shrunkAnew 1 := ⟨z_mj8 (i := 80) rfl (by decide +kernel), rfl, ⟨by decide +kernel, by decide +kernel, by decide +kernel⟩, ⟨by decide, by decide⟩, z_mj1 (i := 14) rfl (by decide +kernel), rfl⟩
theorem ln_Lw_222 : Cond.methodLink "IronpourLaw" 222 M_Mm_shrunkAnew.1 ∈ z_gw := z_mj8 (i := 77) rfl (by decide +kernel)
theorem w_im_Mm_shrunkAnew : Cond.instanceMethod M_Mm_shrunkAnew.1 ∈ z_gw := z_mj8 (i := 78) rfl (by decide +kernel)
theorem w_se_Mm_shrunkAnew : Cond.selects M_Mm_shrunkAnew.1.cls M_Mm_shrunkAnew.1 M_Mm_shrunkAnew.1 ∈ z_gw := z_mj8 (i := 79) rfl (by decide +kernel)
theorem d_Lw_law_733 : decode code 733 = .ok (.istore 7, 2) := zo_54 (d := 7) (zd_b zq_code_22 29 rfl rfl rfl) (zd_b zq_code_22 30 rfl rfl rfl)
theorem d_Lw_law_735 : decode code 735 = .ok (.goto 1073, 3) := zo_167 (d := 4) (e := 49) (zd_b zq_code_22 31 rfl rfl rfl) (zd_b zq_code_23 0 rfl rfl rfl) (zd_b zq_code_23 1 rfl rfl rfl) (by decide +kernel)
set_option maxHeartbeats 4000000 in
set_option maxRecDepth 100000 in
theorem LC_shrunkAnew {g : zG} {ad : Nat → Nat} {t : zTT} {u : zNN} {w : zW} {j : Nat} (hI : IVm g ad t u w) (hR : REY t u.1 (48 * j)) {r : Nat} (hJ : 7 * j + 7 ≤ g.2.2 41) (hL : g.2.2 41 ≤ 3584) (ih : LWI g ad j r) : DW g M_Lw_law lwQ w 710 [(5, .int (nI (7 * j))), (4, .ref (ad 70)), (3, .ref (ad 69)), (2, .ref (ad 52)), (1, .ref (ad 0)), (0, .ref (g.2.2 40))] [] (100 * (r + 1)) (1000 * (r + 1)) := by
  refine y_base (cs := []) (z_I.nil w) ?_
  refine y_aload_n d_Lw_law_710 rfl 4 rfl ?_
  refine y_aload_n d_Lw_law_711 rfl 5 rfl ?_
  refine y_iload d_Lw_law_712 0 rfl ?_
  refine y_iconst d_Lw_law_714 (v := 1) (by decide) ?_
  refine y_iadd d_Lw_law_715 (v := nI ((7 * j) + 1)) (nI_add _ _) ?_
  refine y_sld (v := zs g (7 * j + 1)) d_Lw_law_716 (vp_in_nI (by omega) (by omega)) (by rw [nI_clamp (by omega)]; rfl) ?_
  refine y_aload_n d_Lw_law_717 rfl 2 rfl ?_
  refine yw_callSX (As := [.ref (ad 0), .int (zs g (7 * j + 1)), .ref (ad 69)]) (rest := []) ln_Lw_220 w_st_Lw_shrunkAnew ok_Lw_law_Lw_shrunkAnew d_Lw_law_718 (fun wA hA => W_shrunkAnew (IVm.nil hA hI) _) rfl rfl (Nat.le_of_ble_eq_true rfl) (by omega) (by omega) (fun wA718 hA718 E wB718 hx => ?_) (fun wA718 hA718 v wB718 hx => ?_)
  · obtain ⟨⟨v9, e1⟩, -⟩ := hx
    cases e1
  · obtain ⟨⟨v9, e1⟩, uC, huC, hI2⟩ := hx
    cases e1
    refine yw_st (st2 := [.int v9]) rfl ?_
    have hI := hI2
    refine y_base (cs := []) (z_I.nil _) ?_
    refine y_istore (lv' := [(6, .int v9), (5, .int (nI (7 * j))), (4, .ref (ad 70)), (3, .ref (ad 69)), (2, .ref (ad 52)), (1, .ref (ad 0)), (0, .ref (g.2.2 40))]) d_Lw_law_721 (by decide) rfl ?_
    refine y_aload_n d_Lw_law_723 rfl 4 rfl ?_
    refine y_aload_n d_Lw_law_724 rfl 6 rfl ?_
    refine y_iload d_Lw_law_725 1 rfl ?_
    refine y_iconst d_Lw_law_727 (v := 1) (by decide) ?_
    refine y_iadd d_Lw_law_728 (v := nI ((7 * j) + 1)) (nI_add _ _) ?_
    refine y_sld (v := zs g (7 * j + 1)) d_Lw_law_729 (vp_in_nI (by omega) (by omega)) (by rw [nI_clamp (by omega)]; rfl) ?_
    refine yw_callVL (As := [.int (zs g (7 * j + 1))]) (rest := []) (ci := 12) rfl (fun wA hA => (IVm.nil hA hI).rm) ln_Lw_222 w_im_Mm_shrunkAnew w_se_Mm_shrunkAnew ok_Lw_law_Mm_shrunkAnew d_Lw_law_730 (fun wA hA => K_Mm_shrunkAnew (IVm.nil hA hI) _) rfl rfl (Nat.le_of_ble_eq_true rfl) (by omega) (by omega) (fun wA730 hA730 E wB730 hx => ?_) (fun wA730 hA730 v wB730 hx => ?_)
    · obtain ⟨⟨v8, e1⟩, -⟩ := hx
      cases e1
    · obtain ⟨⟨v8, e1⟩, uM, huM, hI2⟩ := hx
      cases e1
      refine yw_st (st2 := [.int v8]) rfl ?_
      have hI := hI2
      refine y_base (cs := []) (z_I.nil _) ?_
      refine y_istore (lv' := [(7, .int v8), (6, .int v9), (5, .int (nI (7 * j))), (4, .ref (ad 70)), (3, .ref (ad 69)), (2, .ref (ad 52)), (1, .ref (ad 0)), (0, .ref (g.2.2 40))]) d_Lw_law_733 (by decide) rfl ?_
      refine y_goto (tgt := 1808) d_Lw_law_735 (by decide) ?_
      refine y_lv (lv' := [(5, .int (nI (7 * j))), (4, .ref (ad 70)), (3, .ref (ad 69)), (2, .ref (ad 52)), (1, .ref (ad 0)), (0, .ref (g.2.2 40))]) [2, 3, 4, 5, 6, 7] rfl ?_
      refine y_end (fun wC hC => ?_)
      exact LC_next (IVm.nil hC hI) ((hR.n (huM.trans huC)).up (by omega)) hJ hL ih (by omega) (by omega)
theorem d_Lw_law_738 : decode code 738 = .ok (.aload_n 1, 1) := zo_43 (zd_b zq_code_23 2 rfl rfl rfl)
theorem d_Lw_law_739 : decode code 739 = .ok (.aload_n 0, 1) := zo_42 (zd_b zq_code_23 3 rfl rfl rfl)
theorem d_Lw_law_740 : decode code 740 = .ok (.iload 5, 2) := zo_21 (d := 5) (zd_b zq_code_23 4 rfl rfl rfl) (zd_b zq_code_23 5 rfl rfl rfl)
theorem d_Lw_law_742 : decode code 742 = .ok (.iconst 1, 1) := zo_4 (zd_b zq_code_23 6 rfl rfl rfl)
theorem d_Lw_law_743 : decode code 743 = .ok (.iadd, 1) := zo_96 (zd_b zq_code_23 7 rfl rfl rfl)
theorem d_Lw_law_744 : decode code 744 = .ok (.iaload, 1) := zo_46 (zd_b zq_code_23 8 rfl rfl rfl)
theorem d_Lw_law_745 : decode code 745 = .ok (.aload_n 3, 1) := zo_45 (zd_b zq_code_23 9 rfl rfl rfl)
theorem d_Lw_law_746 : decode code 746 = .ok (.invokestatic 223, 3) := zo_184 (d := 0) (e := 223) (zd_b zq_code_23 10 rfl rfl rfl) (zd_b zq_code_23 11 rfl rfl rfl) (zd_b zq_code_23 12 rfl rfl rfl)
theorem ok_Lw_law_Lw_lastPlace : z_okX M_Lw_law M_Lw_lastPlace 3 := ⟨z_mj4 (i := 142) rfl (by decide +kernel), by decide, ⟨by decide +kernel, by decide +kernel, by decide +kernel⟩, ⟨by decide, by decide⟩, z_mj1 (i := 0) rfl (by decide +kernel), rfl⟩
theorem ln_Lw_223 : Cond.methodLink "IronpourLaw" 223 M_Lw_lastPlace.1 ∈ z_gw := z_mj4 (i := 140) rfl (by decide +kernel)
theorem w_st_Lw_lastPlace : Cond.static M_Lw_lastPlace.1 ∈ z_gw := z_mj4 (i := 141) rfl (by decide +kernel)
theorem d_Lw_law_749 : decode code 749 = .ok (.istore 6, 2) := zo_54 (d := 6) (zd_b zq_code_23 13 rfl rfl rfl) (zd_b zq_code_23 14 rfl rfl rfl)
theorem d_Lw_law_751 : decode code 751 = .ok (.aload_n 2, 1) := zo_44 (zd_b zq_code_23 15 rfl rfl rfl)
theorem d_Lw_law_752 : decode code 752 = .ok (.aload_n 0, 1) := zo_42 (zd_b zq_code_23 16 rfl rfl rfl)
theorem d_Lw_law_753 : decode code 753 = .ok (.iload 5, 2) := zo_21 (d := 5) (zd_b zq_code_23 17 rfl rfl rfl) (zd_b zq_code_23 18 rfl rfl rfl)
theorem d_Lw_law_755 : decode code 755 = .ok (.iconst 1, 1) := zo_4 (zd_b zq_code_23 19 rfl rfl rfl)
theorem d_Lw_law_756 : decode code 756 = .ok (.iadd, 1) := zo_96 (zd_b zq_code_23 20 rfl rfl rfl)
theorem d_Lw_law_757 : decode code 757 = .ok (.iaload, 1) := zo_46 (zd_b zq_code_23 21 rfl rfl rfl)
theorem d_Lw_law_758 : decode code 758 = .ok (.invokevirtual 225, 3) := zo_182 (d := 0) (e := 225) (zd_b zq_code_23 22 rfl rfl rfl) (zd_b zq_code_23 23 rfl rfl rfl) (zd_b zq_code_23 24 rfl rfl rfl)
theorem ok_Lw_law_Mm_lastPlace : z_ok M_Lw_law M_Mm_lastPlace 1 := ⟨z_mj8 (i := 88) rfl (by decide +kernel), rfl, ⟨by decide +kernel, by decide +kernel, by decide +kernel⟩, ⟨by decide, by decide⟩, z_mj1 (i := 14) rfl (by decide +kernel), rfl⟩
theorem ln_Lw_225 : Cond.methodLink "IronpourLaw" 225 M_Mm_lastPlace.1 ∈ z_gw := z_mj8 (i := 85) rfl (by decide +kernel)
theorem w_im_Mm_lastPlace : Cond.instanceMethod M_Mm_lastPlace.1 ∈ z_gw := z_mj8 (i := 86) rfl (by decide +kernel)
theorem w_se_Mm_lastPlace : Cond.selects M_Mm_lastPlace.1.cls M_Mm_lastPlace.1 M_Mm_lastPlace.1 ∈ z_gw := z_mj8 (i := 87) rfl (by decide +kernel)
theorem d_Lw_law_761 : decode code 761 = .ok (.istore 7, 2) := zo_54 (d := 7) (zd_b zq_code_23 25 rfl rfl rfl) (zd_b zq_code_23 26 rfl rfl rfl)
theorem d_Lw_law_763 : decode code 763 = .ok (.goto 1045, 3) := zo_167 (d := 4) (e := 21) (zd_b zq_code_23 27 rfl rfl rfl) (zd_b zq_code_23 28 rfl rfl rfl) (zd_b zq_code_23 29 rfl rfl rfl) (by decide +kernel)
set_option maxHeartbeats 4000000 in
set_option maxRecDepth 100000 in
theorem LC_lastPlace {g : zG} {ad : Nat → Nat} {t : zTT} {u : zNN} {w : zW} {j : Nat} (hI : IVm g ad t u w) (hR : REY t u.1 (48 * j)) {r : Nat} (hJ : 7 * j + 7 ≤ g.2.2 41) (hL : g.2.2 41 ≤ 3584) (ih : LWI g ad j r) : DW g M_Lw_law lwQ w 738 [(5, .int (nI (7 * j))), (4, .ref (ad 70)), (3, .ref (ad 69)), (2, .ref (ad 52)), (1, .ref (ad 0)), (0, .ref (g.2.2 40))] [] (100 * (r + 1)) (1000 * (r + 1)) := by
  refine y_base (cs := []) (z_I.nil w) ?_
  refine y_aload_n d_Lw_law_738 rfl 4 rfl ?_
  refine y_aload_n d_Lw_law_739 rfl 5 rfl ?_
  refine y_iload d_Lw_law_740 0 rfl ?_
  refine y_iconst d_Lw_law_742 (v := 1) (by decide) ?_
  refine y_iadd d_Lw_law_743 (v := nI ((7 * j) + 1)) (nI_add _ _) ?_
  refine y_sld (v := zs g (7 * j + 1)) d_Lw_law_744 (vp_in_nI (by omega) (by omega)) (by rw [nI_clamp (by omega)]; rfl) ?_
  refine y_aload_n d_Lw_law_745 rfl 2 rfl ?_
  refine yw_callSX (As := [.ref (ad 0), .int (zs g (7 * j + 1)), .ref (ad 69)]) (rest := []) ln_Lw_223 w_st_Lw_lastPlace ok_Lw_law_Lw_lastPlace d_Lw_law_746 (fun wA hA => W_lastPlace (IVm.nil hA hI) _) rfl rfl (Nat.le_of_ble_eq_true rfl) (by omega) (by omega) (fun wA746 hA746 E wB746 hx => ?_) (fun wA746 hA746 v wB746 hx => ?_)
  · obtain ⟨⟨v9, e1⟩, -⟩ := hx
    cases e1
  · obtain ⟨⟨v9, e1⟩, uC, huC, hI2⟩ := hx
    cases e1
    refine yw_st (st2 := [.int v9]) rfl ?_
    have hI := hI2
    refine y_base (cs := []) (z_I.nil _) ?_
    refine y_istore (lv' := [(6, .int v9), (5, .int (nI (7 * j))), (4, .ref (ad 70)), (3, .ref (ad 69)), (2, .ref (ad 52)), (1, .ref (ad 0)), (0, .ref (g.2.2 40))]) d_Lw_law_749 (by decide) rfl ?_
    refine y_aload_n d_Lw_law_751 rfl 4 rfl ?_
    refine y_aload_n d_Lw_law_752 rfl 6 rfl ?_
    refine y_iload d_Lw_law_753 1 rfl ?_
    refine y_iconst d_Lw_law_755 (v := 1) (by decide) ?_
    refine y_iadd d_Lw_law_756 (v := nI ((7 * j) + 1)) (nI_add _ _) ?_
    refine y_sld (v := zs g (7 * j + 1)) d_Lw_law_757 (vp_in_nI (by omega) (by omega)) (by rw [nI_clamp (by omega)]; rfl) ?_
    refine yw_callVL (As := [.int (zs g (7 * j + 1))]) (rest := []) (ci := 12) rfl (fun wA hA => (IVm.nil hA hI).rm) ln_Lw_225 w_im_Mm_lastPlace w_se_Mm_lastPlace ok_Lw_law_Mm_lastPlace d_Lw_law_758 (fun wA hA => K_Mm_lastPlace (IVm.nil hA hI) _) rfl rfl (Nat.le_of_ble_eq_true rfl) (by omega) (by omega) (fun wA758 hA758 E wB758 hx => ?_) (fun wA758 hA758 v wB758 hx => ?_)
    · obtain ⟨⟨v8, e1⟩, -⟩ := hx
      cases e1
    · obtain ⟨⟨v8, e1⟩, uM, huM, hI2⟩ := hx
      cases e1
      refine yw_st (st2 := [.int v8]) rfl ?_
      have hI := hI2
      refine y_base (cs := []) (z_I.nil _) ?_
      refine y_istore (lv' := [(7, .int v8), (6, .int v9), (5, .int (nI (7 * j))), (4, .ref (ad 70)), (3, .ref (ad 69)), (2, .ref (ad 52)), (1, .ref (ad 0)), (0, .ref (g.2.2 40))]) d_Lw_law_761 (by decide) rfl ?_
      refine y_goto (tgt := 1808) d_Lw_law_763 (by decide) ?_
      refine y_lv (lv' := [(5, .int (nI (7 * j))), (4, .ref (ad 70)), (3, .ref (ad 69)), (2, .ref (ad 52)), (1, .ref (ad 0)), (0, .ref (g.2.2 40))]) [2, 3, 4, 5, 6, 7] rfl ?_
      refine y_end (fun wC hC => ?_)
      exact LC_next (IVm.nil hC hI) ((hR.n (huM.trans huC)).up (by omega)) hJ hL ih (by omega) (by omega)
theorem d_Lw_law_766 : decode code 766 = .ok (.aload_n 1, 1) := zo_43 (zd_b zq_code_23 30 rfl rfl rfl)
theorem d_Lw_law_767 : decode code 767 = .ok (.aload_n 0, 1) := zo_42 (zd_b zq_code_23 31 rfl rfl rfl)
theorem d_Lw_law_768 : decode code 768 = .ok (.iload 5, 2) := zo_21 (d := 5) (zd_b zq_code_24 0 rfl rfl rfl) (zd_b zq_code_24 1 rfl rfl rfl)
theorem d_Lw_law_770 : decode code 770 = .ok (.iconst 1, 1) := zo_4 (zd_b zq_code_24 2 rfl rfl rfl)
theorem d_Lw_law_771 : decode code 771 = .ok (.iadd, 1) := zo_96 (zd_b zq_code_24 3 rfl rfl rfl)
theorem d_Lw_law_772 : decode code 772 = .ok (.iaload, 1) := zo_46 (zd_b zq_code_24 4 rfl rfl rfl)
theorem d_Lw_law_773 : decode code 773 = .ok (.aload_n 3, 1) := zo_45 (zd_b zq_code_24 5 rfl rfl rfl)
theorem d_Lw_law_774 : decode code 774 = .ok (.invokestatic 226, 3) := zo_184 (d := 0) (e := 226) (zd_b zq_code_24 6 rfl rfl rfl) (zd_b zq_code_24 7 rfl rfl rfl) (zd_b zq_code_24 8 rfl rfl rfl)
theorem ok_Lw_law_Lw_bestFeeder : z_okX M_Lw_law M_Lw_bestFeeder 3 := ⟨z_mj4 (i := 154) rfl (by decide +kernel), by decide, ⟨by decide +kernel, by decide +kernel, by decide +kernel⟩, ⟨by decide, by decide⟩, z_mj1 (i := 0) rfl (by decide +kernel), rfl⟩
theorem ln_Lw_226 : Cond.methodLink "IronpourLaw" 226 M_Lw_bestFeeder.1 ∈ z_gw := z_mj4 (i := 152) rfl (by decide +kernel)
theorem w_st_Lw_bestFeeder : Cond.static M_Lw_bestFeeder.1 ∈ z_gw := z_mj4 (i := 153) rfl (by decide +kernel)
theorem d_Lw_law_777 : decode code 777 = .ok (.istore 6, 2) := zo_54 (d := 6) (zd_b zq_code_24 9 rfl rfl rfl) (zd_b zq_code_24 10 rfl rfl rfl)
theorem d_Lw_law_779 : decode code 779 = .ok (.aload_n 2, 1) := zo_44 (zd_b zq_code_24 11 rfl rfl rfl)
theorem d_Lw_law_780 : decode code 780 = .ok (.aload_n 0, 1) := zo_42 (zd_b zq_code_24 12 rfl rfl rfl)
theorem d_Lw_law_781 : decode code 781 = .ok (.iload 5, 2) := zo_21 (d := 5) (zd_b zq_code_24 13 rfl rfl rfl) (zd_b zq_code_24 14 rfl rfl rfl)
theorem d_Lw_law_783 : decode code 783 = .ok (.iconst 1, 1) := zo_4 (zd_b zq_code_24 15 rfl rfl rfl)
theorem d_Lw_law_784 : decode code 784 = .ok (.iadd, 1) := zo_96 (zd_b zq_code_24 16 rfl rfl rfl)
theorem d_Lw_law_785 : decode code 785 = .ok (.iaload, 1) := zo_46 (zd_b zq_code_24 17 rfl rfl rfl)
theorem d_Lw_law_786 : decode code 786 = .ok (.invokevirtual 228, 3) := zo_182 (d := 0) (e := 228) (zd_b zq_code_24 18 rfl rfl rfl) (zd_b zq_code_24 19 rfl rfl rfl) (zd_b zq_code_24 20 rfl rfl rfl)
theorem ok_Lw_law_Mm_bestFeeder : z_ok M_Lw_law M_Mm_bestFeeder 1 := ⟨z_mj8 (i := 92) rfl (by decide +kernel), rfl, ⟨by decide +kernel, by decide +kernel, by decide +kernel⟩, ⟨by decide, by decide⟩, z_mj1 (i := 14) rfl (by decide +kernel), rfl⟩
theorem ln_Lw_228 : Cond.methodLink "IronpourLaw" 228 M_Mm_bestFeeder.1 ∈ z_gw := z_mj8 (i := 89) rfl (by decide +kernel)
theorem w_im_Mm_bestFeeder : Cond.instanceMethod M_Mm_bestFeeder.1 ∈ z_gw := z_mj8 (i := 90) rfl (by decide +kernel)
theorem w_se_Mm_bestFeeder : Cond.selects M_Mm_bestFeeder.1.cls M_Mm_bestFeeder.1 M_Mm_bestFeeder.1 ∈ z_gw := z_mj8 (i := 91) rfl (by decide +kernel)
theorem d_Lw_law_789 : decode code 789 = .ok (.istore 7, 2) := zo_54 (d := 7) (zd_b zq_code_24 21 rfl rfl rfl) (zd_b zq_code_24 22 rfl rfl rfl)
theorem d_Lw_law_791 : decode code 791 = .ok (.goto 1017, 3) := zo_167 (d := 3) (e := 249) (zd_b zq_code_24 23 rfl rfl rfl) (zd_b zq_code_24 24 rfl rfl rfl) (zd_b zq_code_24 25 rfl rfl rfl) (by decide +kernel)
set_option maxHeartbeats 4000000 in
set_option maxRecDepth 100000 in
theorem LC_bestFeeder {g : zG} {ad : Nat → Nat} {t : zTT} {u : zNN} {w : zW} {j : Nat} (hI : IVm g ad t u w) (hR : REY t u.1 (48 * j)) {r : Nat} (hJ : 7 * j + 7 ≤ g.2.2 41) (hL : g.2.2 41 ≤ 3584) (ih : LWI g ad j r) : DW g M_Lw_law lwQ w 766 [(5, .int (nI (7 * j))), (4, .ref (ad 70)), (3, .ref (ad 69)), (2, .ref (ad 52)), (1, .ref (ad 0)), (0, .ref (g.2.2 40))] [] (100 * (r + 1)) (1000 * (r + 1)) := by
  refine y_base (cs := []) (z_I.nil w) ?_
  refine y_aload_n d_Lw_law_766 rfl 4 rfl ?_
  refine y_aload_n d_Lw_law_767 rfl 5 rfl ?_
  refine y_iload d_Lw_law_768 0 rfl ?_
  refine y_iconst d_Lw_law_770 (v := 1) (by decide) ?_
  refine y_iadd d_Lw_law_771 (v := nI ((7 * j) + 1)) (nI_add _ _) ?_
  refine y_sld (v := zs g (7 * j + 1)) d_Lw_law_772 (vp_in_nI (by omega) (by omega)) (by rw [nI_clamp (by omega)]; rfl) ?_
  refine y_aload_n d_Lw_law_773 rfl 2 rfl ?_
  refine yw_callSX (As := [.ref (ad 0), .int (zs g (7 * j + 1)), .ref (ad 69)]) (rest := []) ln_Lw_226 w_st_Lw_bestFeeder ok_Lw_law_Lw_bestFeeder d_Lw_law_774 (fun wA hA => W_bestFeeder (IVm.nil hA hI) _) rfl rfl (Nat.le_of_ble_eq_true rfl) (by omega) (by omega) (fun wA774 hA774 E wB774 hx => ?_) (fun wA774 hA774 v wB774 hx => ?_)
  · obtain ⟨⟨v9, e1⟩, -⟩ := hx
    cases e1
  · obtain ⟨⟨v9, e1⟩, uC, huC, hI2⟩ := hx
    cases e1
    refine yw_st (st2 := [.int v9]) rfl ?_
    have hI := hI2
    refine y_base (cs := []) (z_I.nil _) ?_
    refine y_istore (lv' := [(6, .int v9), (5, .int (nI (7 * j))), (4, .ref (ad 70)), (3, .ref (ad 69)), (2, .ref (ad 52)), (1, .ref (ad 0)), (0, .ref (g.2.2 40))]) d_Lw_law_777 (by decide) rfl ?_
    refine y_aload_n d_Lw_law_779 rfl 4 rfl ?_
    refine y_aload_n d_Lw_law_780 rfl 6 rfl ?_
    refine y_iload d_Lw_law_781 1 rfl ?_
    refine y_iconst d_Lw_law_783 (v := 1) (by decide) ?_
    refine y_iadd d_Lw_law_784 (v := nI ((7 * j) + 1)) (nI_add _ _) ?_
    refine y_sld (v := zs g (7 * j + 1)) d_Lw_law_785 (vp_in_nI (by omega) (by omega)) (by rw [nI_clamp (by omega)]; rfl) ?_
    refine yw_callVL (As := [.int (zs g (7 * j + 1))]) (rest := []) (ci := 12) rfl (fun wA hA => (IVm.nil hA hI).rm) ln_Lw_228 w_im_Mm_bestFeeder w_se_Mm_bestFeeder ok_Lw_law_Mm_bestFeeder d_Lw_law_786 (fun wA hA => K_Mm_bestFeeder (IVm.nil hA hI) _) rfl rfl (Nat.le_of_ble_eq_true rfl) (by omega) (by omega) (fun wA786 hA786 E wB786 hx => ?_) (fun wA786 hA786 v wB786 hx => ?_)
    · obtain ⟨⟨v8, e1⟩, -⟩ := hx
      cases e1
    · obtain ⟨⟨v8, e1⟩, uM, huM, hI2⟩ := hx
      cases e1
      refine yw_st (st2 := [.int v8]) rfl ?_
      have hI := hI2
      refine y_base (cs := []) (z_I.nil _) ?_
      refine y_istore (lv' := [(7, .int v8), (6, .int v9), (5, .int (nI (7 * j))), (4, .ref (ad 70)), (3, .ref (ad 69)), (2, .ref (ad 52)), (1, .ref (ad 0)), (0, .ref (g.2.2 40))]) d_Lw_law_789 (by decide) rfl ?_
      refine y_goto (tgt := 1808) d_Lw_law_791 (by decide) ?_
      refine y_lv (lv' := [(5, .int (nI (7 * j))), (4, .ref (ad 70)), (3, .ref (ad 69)), (2, .ref (ad 52)), (1, .ref (ad 0)), (0, .ref (g.2.2 40))]) [2, 3, 4, 5, 6, 7] rfl ?_
      refine y_end (fun wC hC => ?_)
      exact LC_next (IVm.nil hC hI) ((hR.n (huM.trans huC)).up (by omega)) hJ hL ih (by omega) (by omega)
end
