theorem IVm.nil {g : zG} {ad : Nat → Nat} {t : zTT} {u : zNN} {w w1 : zW} (h1 : z_I w w1 0 []) (hI : IVm g ad t u w) : IVm g ad t u w1 := (z_I.same (z_I.nil w) h1).symm ▸ hI
theorem IVm.ra {g : zG} {ad : Nat → Nat} {t : zTT} {u : zNN} {w : zW} (hI : IVm g ad t u w) : ∃ fs : List Value, w (ad 0) = some (.inr (11, fs)) := by
  obtain ⟨s, hI⟩ := hI
  obtain ⟨e_a, wf_a, k_a⟩ := hI.1.2 0 (by decide)
  obtain rfl := kd_0.mp k_a
  exact ⟨_, wf_a⟩
theorem IVm.rm {g : zG} {ad : Nat → Nat} {t : zTT} {u : zNN} {w : zW} (hI : IVm g ad t u w) : ∃ fs : List Value, w (ad 52) = some (.inr (12, fs)) := by
  obtain ⟨s, hI⟩ := hI
  obtain ⟨e_m, wf_m, k_m⟩ := hI.1.2 52 (by decide)
  obtain ⟨v_m_th, rfl⟩ := kd_52.mp k_m
  exact ⟨_, wf_m⟩
abbrev M_Lw_draw : zM := (⟨"IronpourLaw", "draw", "(LIronpour;CIIII[J)I"⟩, method_3_code, 8, (Option.some FieldType.int), 9, 205, [((0 : Nat), (16 : Nat), (19 : Nat), (13 : Nat))])
theorem d_Lw_draw_0 : decode method_3_code 0 = .ok (.aload 6, 2) := zo_25 (d := 6) (zd_b zq_method_3_code_0 0 rfl rfl rfl) (zd_b zq_method_3_code_0 1 rfl rfl rfl)
theorem d_Lw_draw_2 : decode method_3_code 2 = .ok (.iconst 0, 1) := zo_3 (zd_b zq_method_3_code_0 2 rfl rfl rfl)
theorem d_Lw_draw_3 : decode method_3_code 3 = .ok (.aload_n 0, 1) := zo_42 (zd_b zq_method_3_code_0 3 rfl rfl rfl)
theorem d_Lw_draw_4 : decode method_3_code 4 = .ok (.iload_n 1, 1) := zo_27 (zd_b zq_method_3_code_0 4 rfl rfl rfl)
theorem d_Lw_draw_5 : decode method_3_code 5 = .ok (.iload_n 2, 1) := zo_28 (zd_b zq_method_3_code_0 5 rfl rfl rfl)
theorem d_Lw_draw_6 : decode method_3_code 6 = .ok (.iload_n 3, 1) := zo_29 (zd_b zq_method_3_code_0 6 rfl rfl rfl)
theorem d_Lw_draw_7 : decode method_3_code 7 = .ok (.iload 4, 2) := zo_21 (d := 4) (zd_b zq_method_3_code_0 7 rfl rfl rfl) (zd_b zq_method_3_code_0 8 rfl rfl rfl)
theorem d_Lw_draw_9 : decode method_3_code 9 = .ok (.iload 5, 2) := zo_21 (d := 5) (zd_b zq_method_3_code_0 9 rfl rfl rfl) (zd_b zq_method_3_code_0 10 rfl rfl rfl)
theorem d_Lw_draw_11 : decode method_3_code 11 = .ok (.invokevirtual 7, 3) := zo_182 (d := 0) (e := 7) (zd_b zq_method_3_code_0 11 rfl rfl rfl) (zd_b zq_method_3_code_0 12 rfl rfl rfl) (zd_b zq_method_3_code_0 13 rfl rfl rfl)
theorem ok_Lw_draw_Ip_draw : z_okH M_Lw_draw M_Ip_draw 5 := ⟨z_mj3 (i := 53) rfl (by decide +kernel), rfl, ⟨by decide +kernel, by decide +kernel, by decide +kernel⟩, ⟨by decide, by decide⟩, z_mj1 (i := 1) rfl (by decide +kernel)⟩
theorem ln_Lw_7 : Cond.methodLink "IronpourLaw" 7 M_Ip_draw.1 ∈ z_gw := z_mj3 (i := 50) rfl (by decide +kernel)
theorem w_im_Ip_draw : Cond.instanceMethod M_Ip_draw.1 ∈ z_gw := z_mj3 (i := 51) rfl (by decide +kernel)
theorem w_se_Ip_draw : Cond.selects M_Ip_draw.1.cls M_Ip_draw.1 M_Ip_draw.1 ∈ z_gw := z_mj3 (i := 52) rfl (by decide +kernel)
theorem ce_13 : Cond.castable "java/lang/IllegalArgumentException" "java/lang/IllegalArgumentException" ∈ z_nw := z_mk3 (i := 143) rfl (by decide +kernel)
theorem lx_Lw_13 : Cond.classLink "IronpourLaw" 13 "java/lang/IllegalArgumentException" ∈ z_gw := z_mj3 (i := 49) rfl (by decide +kernel)
theorem d_Lw_draw_19 : decode method_3_code 19 = .ok (.astore 7, 2) := zo_58 (d := 7) (zd_b zq_method_3_code_0 19 rfl rfl rfl) (zd_b zq_method_3_code_0 20 rfl rfl rfl)
theorem d_Lw_draw_21 : decode method_3_code 21 = .ok (.iconst 1, 1) := zo_4 (zd_b zq_method_3_code_0 21 rfl rfl rfl)
theorem d_Lw_draw_22 : decode method_3_code 22 = .ok (.ireturn, 1) := zo_172 (zd_b zq_method_3_code_0 22 rfl rfl rfl)
theorem d_Lw_draw_14 : decode method_3_code 14 = .ok (.i2l, 1) := zo_133 (zd_b zq_method_3_code_0 14 rfl rfl rfl)
theorem d_Lw_draw_15 : decode method_3_code 15 = .ok (.lastore, 1) := zo_80 (zd_b zq_method_3_code_0 15 rfl rfl rfl)
theorem d_Lw_draw_16 : decode method_3_code 16 = .ok (.goto 7, 3) := zo_167 (d := 0) (e := 7) (zd_b zq_method_3_code_0 16 rfl rfl rfl) (zd_b zq_method_3_code_0 17 rfl rfl rfl) (zd_b zq_method_3_code_0 18 rfl rfl rfl) (by decide +kernel)
theorem d_Lw_draw_23 : decode method_3_code 23 = .ok (.iconst 0, 1) := zo_3 (zd_b zq_method_3_code_0 23 rfl rfl rfl)
theorem d_Lw_draw_24 : decode method_3_code 24 = .ok (.ireturn, 1) := zo_172 (zd_b zq_method_3_code_0 24 rfl rfl rfl)
set_option maxHeartbeats 4000000 in
set_option maxRecDepth 100000 in
theorem W_draw {g : zG} {ad : Nat → Nat} {t : zTT} {u : zNN} {w : zW} (hI : IVm g ad t u w) (k x y p q : Int32) : zMB g M_Lw_draw [.ref (ad 0), .int k, .int x, .int y, .int p, .int q, .ref (ad 69)] w (fun o w1 => MKx g ad (tK_Ip_draw k x y p q t) u.1 o w1) 10 300 := by
  obtain ⟨s, hI⟩ := hI
  obtain ⟨e_a, wf_a, k_a⟩ := hI.1.2 0 (by decide)
  obtain rfl := kd_0.mp k_a
  obtain ⟨e_o1, wf_o1, k_o1⟩ := hI.1.2 69 (by decide)
  obtain rfl := kd_69.mp k_o1
  refine y_ofH (by decide) (by decide) (Nat.le_of_ble_eq_true rfl) (y_base (cs := [((ad 0), .inr (11, [.ref (ad 1), .ref (ad 5), .ref (ad 18), .ref (ad 31), .ref (ad 32), .ref (ad 36), .ref (ad 42), .ref (ad 45), .ref (ad 47), .ref (ad 49), .ref (ad 50), .ref (ad 51)])), ((ad 69), .inl (3, 1, .inr (.inl (((mg t s).1 69).2.1))))]) (hI.1.I [0, 69] _ rfl (by decide) (by decide) (List.forall_mem_cons.mpr ⟨wf_a, (List.forall_mem_cons.mpr ⟨wf_o1, (fun _ h => nomatch h)⟩)⟩)) ?_)
  refine y_lvE (lv2 := [(0, .ref (ad 0)), (1, .int k), (2, .int x), (3, .int y), (4, .int p), (5, .int q), (6, .ref (ad 69))]) rfl ?_
  refine y_aload d_Lw_draw_0 6 rfl ?_
  refine y_iconst d_Lw_draw_2 (v := 0) (by decide) ?_
  refine y_aload_n d_Lw_draw_3 rfl 0 rfl ?_
  refine y_iload_n d_Lw_draw_4 rfl 1 rfl ?_
  refine y_iload_n d_Lw_draw_5 rfl 2 rfl ?_
  refine y_iload_n d_Lw_draw_6 rfl 3 rfl ?_
  refine y_iload d_Lw_draw_7 4 rfl ?_
  refine y_iload d_Lw_draw_9 5 rfl ?_
  refine yw_callVH (As := [.int k, .int x, .int y, .int p, .int q]) (rest := [.int 0, .ref (ad 69)]) (q0 := 0) rfl rfl ln_Lw_7 w_im_Ip_draw w_se_Ip_draw ok_Lw_draw_Ip_draw d_Lw_draw_11 (fun wA hA => K_Ip_draw ⟨_, (hI.gen (t2 := (mg t s)) (is := [0, 69]) (L2 := []) hA rfl ⟨kd_0.mpr rfl, kd_69.mpr rfl, trivial⟩ (by decide) (by decide) (fun _ h => nomatch h) (fun _ h => nomatch h) (fun _ _ _ => rfl) (fun h => h) rfl)⟩ k x y p q) rfl rfl (Nat.le_of_ble_eq_true rfl) (by omega) (by omega) (fun wA11 hA11 E wB11 hx => ?_) (fun wA11 hA11 v wB11 hx => ?_)
  · obtain ⟨h1, u2, hu, hI2⟩ := hx
    obtain rfl := List.mem_singleton.mp (zriE h1)
    refine ⟨"java/lang/IllegalArgumentException", [], [], (0, 16, 19, 13), rfl, (fun z hz => nomatch hz), by decide, by decide, lx_Lw_13, ce_13, fun qx => ?_⟩
    refine y_base (cs := []) (z_I.nil wB11) ?_
    refine y_astore (lv' := [(7, .ref qx), (0, .ref (ad 0)), (1, .int k), (2, .int x), (3, .int y), (4, .int p), (5, .int q), (6, .ref (ad 69))]) d_Lw_draw_19 (by decide) rfl ?_
    refine y_iconst d_Lw_draw_21 (v := 1) (by decide) ?_
    refine y_iret d_Lw_draw_22 rfl rfl ?_
    exact fun w1 h1 => ⟨⟨_, rfl⟩, u2, hu, (z_I.same (z_I.nil _) h1).symm ▸ hI2⟩
  · obtain ⟨h1, u2, hu, hI2⟩ := hx
    obtain ⟨v9, rfl⟩ := zriV h1
    refine yw_st (st2 := [.int v9, .int 0, .ref (ad 69)]) rfl ?_
    obtain ⟨s9, hI⟩ := hI2
    obtain ⟨e_o1, wf_o1, k_o1⟩ := hI.1.2 69 (by decide)
    obtain rfl := kd_69.mp k_o1
    refine y_base (cs := [((ad 69), .inl (3, 1, .inr (.inl (((mg (tK_Ip_draw k x y p q t) s9).1 69).2.1))))]) (hI.1.I [69] _ rfl (by decide) (by decide) (List.forall_mem_cons.mpr ⟨wf_o1, (fun _ h => nomatch h)⟩)) ?_
    refine y_i2l d_Lw_draw_14 (v := v9.toInt64) rfl ?_
    refine y_last d_Lw_draw_15 (q0 := 0) rfl (fun q => q.elim (by decide) (by decide)) (f' := vp_updL (((mg (tK_Ip_draw k x y p q t) s9).1 69).2.1) 0 v9.toInt64) rfl (cs' := [((ad 69), .inl (3, 1, .inr (.inl (vp_updL (((mg (tK_Ip_draw k x y p q t) s9).1 69).2.1) 0 v9.toInt64))))]) rfl ?_
    refine y_goto (tgt := 23) d_Lw_draw_16 (by decide) ?_
    refine y_iconst d_Lw_draw_23 (v := 0) (by decide) ?_
    refine y_iret d_Lw_draw_24 rfl rfl ?_
    exact fun w1 h1 => ⟨⟨_, rfl⟩, u2, hu, IVm.tz ((hI.gen (t2 := (zup (mg (tK_Ip_draw k x y p q t) s9).1 [(69, (((mg (tK_Ip_draw k x y p q t) s9).1 69).1, vp_updL (((mg (tK_Ip_draw k x y p q t) s9).1 69).2.1) 0 v9.toInt64, ((mg (tK_Ip_draw k x y p q t) s9).1 69).2.2))], (mg (tK_Ip_draw k x y p q t) s9).2)) (is := [69]) (L2 := []) h1 rfl ⟨kd_69.mpr rfl, trivial⟩ (by decide) (by decide) (fun _ h => nomatch h) (fun _ h => nomatch h) (fun i hi hn => zup_out (fun q => hn ((by decide : ∀ j ∈ ([69] : List Nat), j ∈ ([69] : List Nat)) i q))) (fun h => h) rfl)) (tx_all rfl)⟩
abbrev M_Lw_cell : zM := (⟨"IronpourLaw", "cell", "(LIronpour;II[J)I"⟩, method_4_code, 5, (Option.some FieldType.int), 8, 143, [((0 : Nat), (10 : Nat), (13 : Nat), (19 : Nat))])
theorem d_Lw_cell_0 : decode method_4_code 0 = .ok (.aload_n 3, 1) := zo_45 (zd_b zq_method_4_code_0 0 rfl rfl rfl)
theorem d_Lw_cell_1 : decode method_4_code 1 = .ok (.iconst 0, 1) := zo_3 (zd_b zq_method_4_code_0 1 rfl rfl rfl)
theorem d_Lw_cell_2 : decode method_4_code 2 = .ok (.aload_n 0, 1) := zo_42 (zd_b zq_method_4_code_0 2 rfl rfl rfl)
theorem d_Lw_cell_3 : decode method_4_code 3 = .ok (.iload_n 1, 1) := zo_27 (zd_b zq_method_4_code_0 3 rfl rfl rfl)
theorem d_Lw_cell_4 : decode method_4_code 4 = .ok (.iload_n 2, 1) := zo_28 (zd_b zq_method_4_code_0 4 rfl rfl rfl)
theorem d_Lw_cell_5 : decode method_4_code 5 = .ok (.invokevirtual 15, 3) := zo_182 (d := 0) (e := 15) (zd_b zq_method_4_code_0 5 rfl rfl rfl) (zd_b zq_method_4_code_0 6 rfl rfl rfl) (zd_b zq_method_4_code_0 7 rfl rfl rfl)
theorem ok_Lw_cell_Ip_cell : z_okH M_Lw_cell M_Ip_cell 2 := ⟨z_mj4 (i := 19) rfl (by decide +kernel), rfl, ⟨by decide +kernel, by decide +kernel, by decide +kernel⟩, ⟨by decide, by decide⟩, z_mj1 (i := 1) rfl (by decide +kernel)⟩
theorem ln_Lw_15 : Cond.methodLink "IronpourLaw" 15 M_Ip_cell.1 ∈ z_gw := z_mj4 (i := 16) rfl (by decide +kernel)
theorem w_im_Ip_cell : Cond.instanceMethod M_Ip_cell.1 ∈ z_gw := z_mj4 (i := 17) rfl (by decide +kernel)
theorem w_se_Ip_cell : Cond.selects M_Ip_cell.1.cls M_Ip_cell.1 M_Ip_cell.1 ∈ z_gw := z_mj4 (i := 18) rfl (by decide +kernel)
theorem ce_19 : Cond.castable "java/lang/IndexOutOfBoundsException" "java/lang/IndexOutOfBoundsException" ∈ z_nw := z_mk4 (i := 25) rfl (by decide +kernel)
theorem lx_Lw_19 : Cond.classLink "IronpourLaw" 19 "java/lang/IndexOutOfBoundsException" ∈ z_gw := z_mj3 (i := 232) rfl (by decide +kernel)
theorem d_Lw_cell_13 : decode method_4_code 13 = .ok (.astore 4, 2) := zo_58 (d := 4) (zd_b zq_method_4_code_0 13 rfl rfl rfl) (zd_b zq_method_4_code_0 14 rfl rfl rfl)
theorem d_Lw_cell_15 : decode method_4_code 15 = .ok (.iconst 1, 1) := zo_4 (zd_b zq_method_4_code_0 15 rfl rfl rfl)
theorem d_Lw_cell_16 : decode method_4_code 16 = .ok (.ireturn, 1) := zo_172 (zd_b zq_method_4_code_0 16 rfl rfl rfl)
theorem d_Lw_cell_8 : decode method_4_code 8 = .ok (.i2l, 1) := zo_133 (zd_b zq_method_4_code_0 8 rfl rfl rfl)
theorem d_Lw_cell_9 : decode method_4_code 9 = .ok (.lastore, 1) := zo_80 (zd_b zq_method_4_code_0 9 rfl rfl rfl)
theorem d_Lw_cell_10 : decode method_4_code 10 = .ok (.goto 7, 3) := zo_167 (d := 0) (e := 7) (zd_b zq_method_4_code_0 10 rfl rfl rfl) (zd_b zq_method_4_code_0 11 rfl rfl rfl) (zd_b zq_method_4_code_0 12 rfl rfl rfl) (by decide +kernel)
theorem d_Lw_cell_17 : decode method_4_code 17 = .ok (.iconst 0, 1) := zo_3 (zd_b zq_method_4_code_0 17 rfl rfl rfl)
theorem d_Lw_cell_18 : decode method_4_code 18 = .ok (.ireturn, 1) := zo_172 (zd_b zq_method_4_code_0 18 rfl rfl rfl)
set_option maxHeartbeats 4000000 in
set_option maxRecDepth 100000 in
theorem W_cell {g : zG} {ad : Nat → Nat} {t : zTT} {u : zNN} {w : zW} (hI : IVm g ad t u w) (x y : Int32) : zMB g M_Lw_cell [.ref (ad 0), .int x, .int y, .ref (ad 69)] w (fun o w1 => MKx g ad t u.1 o w1) 10 300 := by
  obtain ⟨s, hI⟩ := hI
  obtain ⟨e_a, wf_a, k_a⟩ := hI.1.2 0 (by decide)
  obtain rfl := kd_0.mp k_a
  obtain ⟨e_o1, wf_o1, k_o1⟩ := hI.1.2 69 (by decide)
  obtain rfl := kd_69.mp k_o1
  refine y_ofH (by decide) (by decide) (Nat.le_of_ble_eq_true rfl) (y_base (cs := [((ad 0), .inr (11, [.ref (ad 1), .ref (ad 5), .ref (ad 18), .ref (ad 31), .ref (ad 32), .ref (ad 36), .ref (ad 42), .ref (ad 45), .ref (ad 47), .ref (ad 49), .ref (ad 50), .ref (ad 51)])), ((ad 69), .inl (3, 1, .inr (.inl (((mg t s).1 69).2.1))))]) (hI.1.I [0, 69] _ rfl (by decide) (by decide) (List.forall_mem_cons.mpr ⟨wf_a, (List.forall_mem_cons.mpr ⟨wf_o1, (fun _ h => nomatch h)⟩)⟩)) ?_)
  refine y_lvE (lv2 := [(0, .ref (ad 0)), (1, .int x), (2, .int y), (3, .ref (ad 69))]) rfl ?_
  refine y_aload_n d_Lw_cell_0 rfl 3 rfl ?_
  refine y_iconst d_Lw_cell_1 (v := 0) (by decide) ?_
  refine y_aload_n d_Lw_cell_2 rfl 0 rfl ?_
  refine y_iload_n d_Lw_cell_3 rfl 1 rfl ?_
  refine y_iload_n d_Lw_cell_4 rfl 2 rfl ?_
  refine yw_callVH (As := [.int x, .int y]) (rest := [.int 0, .ref (ad 69)]) (q0 := 0) rfl rfl ln_Lw_15 w_im_Ip_cell w_se_Ip_cell ok_Lw_cell_Ip_cell d_Lw_cell_5 (fun wA hA => K_Ip_cell ⟨_, (hI.gen (t2 := (mg t s)) (is := [0, 69]) (L2 := []) hA rfl ⟨kd_0.mpr rfl, kd_69.mpr rfl, trivial⟩ (by decide) (by decide) (fun _ h => nomatch h) (fun _ h => nomatch h) (fun _ _ _ => rfl) (fun h => h) rfl)⟩ x y) rfl rfl (Nat.le_of_ble_eq_true rfl) (by omega) (by omega) (fun wA5 hA5 E wB5 hx => ?_) (fun wA5 hA5 v wB5 hx => ?_)
  · obtain ⟨h1, u2, hu, hI2⟩ := hx
    obtain rfl := List.mem_singleton.mp (zriE h1)
    refine ⟨"java/lang/IndexOutOfBoundsException", [], [], (0, 10, 13, 19), rfl, (fun z hz => nomatch hz), by decide, by decide, lx_Lw_19, ce_19, fun qx => ?_⟩
    refine y_base (cs := []) (z_I.nil wB5) ?_
    refine y_astore (lv' := [(4, .ref qx), (0, .ref (ad 0)), (1, .int x), (2, .int y), (3, .ref (ad 69))]) d_Lw_cell_13 (by decide) rfl ?_
    refine y_iconst d_Lw_cell_15 (v := 1) (by decide) ?_
    refine y_iret d_Lw_cell_16 rfl rfl ?_
    exact fun w1 h1 => ⟨⟨_, rfl⟩, u2, hu, (z_I.same (z_I.nil _) h1).symm ▸ hI2⟩
  · obtain ⟨h1, u2, hu, hI2⟩ := hx
    obtain ⟨v9, rfl⟩ := zriV h1
    refine yw_st (st2 := [.int v9, .int 0, .ref (ad 69)]) rfl ?_
    obtain ⟨s9, hI⟩ := hI2
    obtain ⟨e_o1, wf_o1, k_o1⟩ := hI.1.2 69 (by decide)
    obtain rfl := kd_69.mp k_o1
    refine y_base (cs := [((ad 69), .inl (3, 1, .inr (.inl (((mg t s9).1 69).2.1))))]) (hI.1.I [69] _ rfl (by decide) (by decide) (List.forall_mem_cons.mpr ⟨wf_o1, (fun _ h => nomatch h)⟩)) ?_
    refine y_i2l d_Lw_cell_8 (v := v9.toInt64) rfl ?_
    refine y_last d_Lw_cell_9 (q0 := 0) rfl (fun q => q.elim (by decide) (by decide)) (f' := vp_updL (((mg t s9).1 69).2.1) 0 v9.toInt64) rfl (cs' := [((ad 69), .inl (3, 1, .inr (.inl (vp_updL (((mg t s9).1 69).2.1) 0 v9.toInt64))))]) rfl ?_
    refine y_goto (tgt := 17) d_Lw_cell_10 (by decide) ?_
    refine y_iconst d_Lw_cell_17 (v := 0) (by decide) ?_
    refine y_iret d_Lw_cell_18 rfl rfl ?_
    exact fun w1 h1 => ⟨⟨_, rfl⟩, u2, hu, IVm.tz ((hI.gen (t2 := (zup (mg t s9).1 [(69, (((mg t s9).1 69).1, vp_updL (((mg t s9).1 69).2.1) 0 v9.toInt64, ((mg t s9).1 69).2.2))], (mg t s9).2)) (is := [69]) (L2 := []) h1 rfl ⟨kd_69.mpr rfl, trivial⟩ (by decide) (by decide) (fun _ h => nomatch h) (fun _ h => nomatch h) (fun i hi hn => zup_out (fun q => hn ((by decide : ∀ j ∈ ([69] : List Nat), j ∈ ([69] : List Nat)) i q))) (fun h => h) rfl)) (tx_all rfl)⟩
abbrev M_Lw_part : zM := (⟨"IronpourLaw", "part", "(LIronpour;I[J)I"⟩, method_5_code, 4, (Option.some FieldType.int), 7, 122, [((0 : Nat), (9 : Nat), (12 : Nat), (13 : Nat))])
theorem d_Lw_part_0 : decode method_5_code 0 = .ok (.aload_n 2, 1) := zo_44 (zd_b zq_method_5_code_0 0 rfl rfl rfl)
theorem d_Lw_part_1 : decode method_5_code 1 = .ok (.iconst 0, 1) := zo_3 (zd_b zq_method_5_code_0 1 rfl rfl rfl)
theorem d_Lw_part_2 : decode method_5_code 2 = .ok (.aload_n 0, 1) := zo_42 (zd_b zq_method_5_code_0 2 rfl rfl rfl)
theorem d_Lw_part_3 : decode method_5_code 3 = .ok (.iload_n 1, 1) := zo_27 (zd_b zq_method_5_code_0 3 rfl rfl rfl)
theorem d_Lw_part_4 : decode method_5_code 4 = .ok (.invokevirtual 21, 3) := zo_182 (d := 0) (e := 21) (zd_b zq_method_5_code_0 4 rfl rfl rfl) (zd_b zq_method_5_code_0 5 rfl rfl rfl) (zd_b zq_method_5_code_0 6 rfl rfl rfl)
theorem ok_Lw_part_Ip_part : z_okH M_Lw_part M_Ip_part 1 := ⟨z_mj4 (i := 42) rfl (by decide +kernel), rfl, ⟨by decide +kernel, by decide +kernel, by decide +kernel⟩, ⟨by decide, by decide⟩, z_mj1 (i := 1) rfl (by decide +kernel)⟩
theorem ln_Lw_21 : Cond.methodLink "IronpourLaw" 21 M_Ip_part.1 ∈ z_gw := z_mj4 (i := 39) rfl (by decide +kernel)
theorem w_im_Ip_part : Cond.instanceMethod M_Ip_part.1 ∈ z_gw := z_mj4 (i := 40) rfl (by decide +kernel)
theorem w_se_Ip_part : Cond.selects M_Ip_part.1.cls M_Ip_part.1 M_Ip_part.1 ∈ z_gw := z_mj4 (i := 41) rfl (by decide +kernel)
theorem d_Lw_part_12 : decode method_5_code 12 = .ok (.astore_n 3, 1) := zo_78 (zd_b zq_method_5_code_0 12 rfl rfl rfl)
theorem d_Lw_part_13 : decode method_5_code 13 = .ok (.iconst 1, 1) := zo_4 (zd_b zq_method_5_code_0 13 rfl rfl rfl)
theorem d_Lw_part_14 : decode method_5_code 14 = .ok (.ireturn, 1) := zo_172 (zd_b zq_method_5_code_0 14 rfl rfl rfl)
theorem d_Lw_part_7 : decode method_5_code 7 = .ok (.i2l, 1) := zo_133 (zd_b zq_method_5_code_0 7 rfl rfl rfl)
theorem d_Lw_part_8 : decode method_5_code 8 = .ok (.lastore, 1) := zo_80 (zd_b zq_method_5_code_0 8 rfl rfl rfl)
theorem d_Lw_part_9 : decode method_5_code 9 = .ok (.goto 6, 3) := zo_167 (d := 0) (e := 6) (zd_b zq_method_5_code_0 9 rfl rfl rfl) (zd_b zq_method_5_code_0 10 rfl rfl rfl) (zd_b zq_method_5_code_0 11 rfl rfl rfl) (by decide +kernel)
theorem d_Lw_part_15 : decode method_5_code 15 = .ok (.iconst 0, 1) := zo_3 (zd_b zq_method_5_code_0 15 rfl rfl rfl)
theorem d_Lw_part_16 : decode method_5_code 16 = .ok (.ireturn, 1) := zo_172 (zd_b zq_method_5_code_0 16 rfl rfl rfl)
set_option maxHeartbeats 4000000 in
set_option maxRecDepth 100000 in
theorem W_part {g : zG} {ad : Nat → Nat} {t : zTT} {u : zNN} {w : zW} (hI : IVm g ad t u w) (r : Int32) : zMB g M_Lw_part [.ref (ad 0), .int r, .ref (ad 69)] w (fun o w1 => MKx g ad (tK_Ip_part r t) u.1 o w1) 10 300 := by
  obtain ⟨s, hI⟩ := hI
  obtain ⟨e_a, wf_a, k_a⟩ := hI.1.2 0 (by decide)
  obtain rfl := kd_0.mp k_a
  obtain ⟨e_o1, wf_o1, k_o1⟩ := hI.1.2 69 (by decide)
  obtain rfl := kd_69.mp k_o1
  refine y_ofH (by decide) (by decide) (Nat.le_of_ble_eq_true rfl) (y_base (cs := [((ad 0), .inr (11, [.ref (ad 1), .ref (ad 5), .ref (ad 18), .ref (ad 31), .ref (ad 32), .ref (ad 36), .ref (ad 42), .ref (ad 45), .ref (ad 47), .ref (ad 49), .ref (ad 50), .ref (ad 51)])), ((ad 69), .inl (3, 1, .inr (.inl (((mg t s).1 69).2.1))))]) (hI.1.I [0, 69] _ rfl (by decide) (by decide) (List.forall_mem_cons.mpr ⟨wf_a, (List.forall_mem_cons.mpr ⟨wf_o1, (fun _ h => nomatch h)⟩)⟩)) ?_)
  refine y_lvE (lv2 := [(0, .ref (ad 0)), (1, .int r), (2, .ref (ad 69))]) rfl ?_
  refine y_aload_n d_Lw_part_0 rfl 2 rfl ?_
  refine y_iconst d_Lw_part_1 (v := 0) (by decide) ?_
  refine y_aload_n d_Lw_part_2 rfl 0 rfl ?_
  refine y_iload_n d_Lw_part_3 rfl 1 rfl ?_
  refine yw_callVH (As := [.int r]) (rest := [.int 0, .ref (ad 69)]) (q0 := 0) rfl rfl ln_Lw_21 w_im_Ip_part w_se_Ip_part ok_Lw_part_Ip_part d_Lw_part_4 (fun wA hA => K_Ip_part ⟨_, (hI.gen (t2 := (mg t s)) (is := [0, 69]) (L2 := []) hA rfl ⟨kd_0.mpr rfl, kd_69.mpr rfl, trivial⟩ (by decide) (by decide) (fun _ h => nomatch h) (fun _ h => nomatch h) (fun _ _ _ => rfl) (fun h => h) rfl)⟩ r) rfl rfl (Nat.le_of_ble_eq_true rfl) (by omega) (by omega) (fun wA4 hA4 E wB4 hx => ?_) (fun wA4 hA4 v wB4 hx => ?_)
  · obtain ⟨h1, u2, hu, hI2⟩ := hx
    obtain rfl := List.mem_singleton.mp (zriE h1)
    refine ⟨"java/lang/IllegalArgumentException", [], [], (0, 9, 12, 13), rfl, (fun z hz => nomatch hz), by decide, by decide, lx_Lw_13, ce_13, fun qx => ?_⟩
    refine y_base (cs := []) (z_I.nil wB4) ?_
    refine y_astore_n (lv' := [(3, .ref qx), (0, .ref (ad 0)), (1, .int r), (2, .ref (ad 69))]) d_Lw_part_12 rfl (by decide) rfl ?_
    refine y_iconst d_Lw_part_13 (v := 1) (by decide) ?_
    refine y_iret d_Lw_part_14 rfl rfl ?_
    exact fun w1 h1 => ⟨⟨_, rfl⟩, u2, hu, (z_I.same (z_I.nil _) h1).symm ▸ hI2⟩
  · obtain ⟨h1, u2, hu, hI2⟩ := hx
    obtain ⟨v9, rfl⟩ := zriV h1
    refine yw_st (st2 := [.int v9, .int 0, .ref (ad 69)]) rfl ?_
    obtain ⟨s9, hI⟩ := hI2
    obtain ⟨e_o1, wf_o1, k_o1⟩ := hI.1.2 69 (by decide)
    obtain rfl := kd_69.mp k_o1
    refine y_base (cs := [((ad 69), .inl (3, 1, .inr (.inl (((mg (tK_Ip_part r t) s9).1 69).2.1))))]) (hI.1.I [69] _ rfl (by decide) (by decide) (List.forall_mem_cons.mpr ⟨wf_o1, (fun _ h => nomatch h)⟩)) ?_
    refine y_i2l d_Lw_part_7 (v := v9.toInt64) rfl ?_
    refine y_last d_Lw_part_8 (q0 := 0) rfl (fun q => q.elim (by decide) (by decide)) (f' := vp_updL (((mg (tK_Ip_part r t) s9).1 69).2.1) 0 v9.toInt64) rfl (cs' := [((ad 69), .inl (3, 1, .inr (.inl (vp_updL (((mg (tK_Ip_part r t) s9).1 69).2.1) 0 v9.toInt64))))]) rfl ?_
    refine y_goto (tgt := 15) d_Lw_part_9 (by decide) ?_
    refine y_iconst d_Lw_part_15 (v := 0) (by decide) ?_
    refine y_iret d_Lw_part_16 rfl rfl ?_
    exact fun w1 h1 => ⟨⟨_, rfl⟩, u2, hu, IVm.tz ((hI.gen (t2 := (zup (mg (tK_Ip_part r t) s9).1 [(69, (((mg (tK_Ip_part r t) s9).1 69).1, vp_updL (((mg (tK_Ip_part r t) s9).1 69).2.1) 0 v9.toInt64, ((mg (tK_Ip_part r t) s9).1 69).2.2))], (mg (tK_Ip_part r t) s9).2)) (is := [69]) (L2 := []) h1 rfl ⟨kd_69.mpr rfl, trivial⟩ (by decide) (by decide) (fun _ h => nomatch h) (fun _ h => nomatch h) (fun i hi hn => zup_out (fun q => hn ((by decide : ∀ j ∈ ([69] : List Nat), j ∈ ([69] : List Nat)) i q))) (fun h => h) rfl)) (tx_all rfl)⟩
abbrev M_Lw_filledIn : zM := (⟨"IronpourLaw", "filledIn", "(LIronpour;II[J)I"⟩, method_6_code, 5, (Option.some FieldType.int), 8, 144, [((0 : Nat), (10 : Nat), (13 : Nat), (19 : Nat))])
theorem d_Lw_filledIn_0 : decode method_6_code 0 = .ok (.aload_n 3, 1) := zo_45 (zd_b zq_method_6_code_0 0 rfl rfl rfl)
theorem d_Lw_filledIn_1 : decode method_6_code 1 = .ok (.iconst 0, 1) := zo_3 (zd_b zq_method_6_code_0 1 rfl rfl rfl)
theorem d_Lw_filledIn_2 : decode method_6_code 2 = .ok (.aload_n 0, 1) := zo_42 (zd_b zq_method_6_code_0 2 rfl rfl rfl)
theorem d_Lw_filledIn_3 : decode method_6_code 3 = .ok (.iload_n 1, 1) := zo_27 (zd_b zq_method_6_code_0 3 rfl rfl rfl)
theorem d_Lw_filledIn_4 : decode method_6_code 4 = .ok (.iload_n 2, 1) := zo_28 (zd_b zq_method_6_code_0 4 rfl rfl rfl)
theorem d_Lw_filledIn_5 : decode method_6_code 5 = .ok (.invokevirtual 25, 3) := zo_182 (d := 0) (e := 25) (zd_b zq_method_6_code_0 5 rfl rfl rfl) (zd_b zq_method_6_code_0 6 rfl rfl rfl) (zd_b zq_method_6_code_0 7 rfl rfl rfl)
theorem ok_Lw_filledIn_Ip_filledIn : z_okH M_Lw_filledIn M_Ip_filledIn 2 := ⟨z_mj4 (i := 50) rfl (by decide +kernel), rfl, ⟨by decide +kernel, by decide +kernel, by decide +kernel⟩, ⟨by decide, by decide⟩, z_mj1 (i := 1) rfl (by decide +kernel)⟩
theorem ln_Lw_25 : Cond.methodLink "IronpourLaw" 25 M_Ip_filledIn.1 ∈ z_gw := z_mj4 (i := 47) rfl (by decide +kernel)
theorem w_im_Ip_filledIn : Cond.instanceMethod M_Ip_filledIn.1 ∈ z_gw := z_mj4 (i := 48) rfl (by decide +kernel)
theorem w_se_Ip_filledIn : Cond.selects M_Ip_filledIn.1.cls M_Ip_filledIn.1 M_Ip_filledIn.1 ∈ z_gw := z_mj4 (i := 49) rfl (by decide +kernel)
theorem d_Lw_filledIn_13 : decode method_6_code 13 = .ok (.astore 4, 2) := zo_58 (d := 4) (zd_b zq_method_6_code_0 13 rfl rfl rfl) (zd_b zq_method_6_code_0 14 rfl rfl rfl)
theorem d_Lw_filledIn_15 : decode method_6_code 15 = .ok (.iconst 1, 1) := zo_4 (zd_b zq_method_6_code_0 15 rfl rfl rfl)
theorem d_Lw_filledIn_16 : decode method_6_code 16 = .ok (.ireturn, 1) := zo_172 (zd_b zq_method_6_code_0 16 rfl rfl rfl)
theorem d_Lw_filledIn_8 : decode method_6_code 8 = .ok (.i2l, 1) := zo_133 (zd_b zq_method_6_code_0 8 rfl rfl rfl)
theorem d_Lw_filledIn_9 : decode method_6_code 9 = .ok (.lastore, 1) := zo_80 (zd_b zq_method_6_code_0 9 rfl rfl rfl)
theorem d_Lw_filledIn_10 : decode method_6_code 10 = .ok (.goto 7, 3) := zo_167 (d := 0) (e := 7) (zd_b zq_method_6_code_0 10 rfl rfl rfl) (zd_b zq_method_6_code_0 11 rfl rfl rfl) (zd_b zq_method_6_code_0 12 rfl rfl rfl) (by decide +kernel)
theorem d_Lw_filledIn_17 : decode method_6_code 17 = .ok (.iconst 0, 1) := zo_3 (zd_b zq_method_6_code_0 17 rfl rfl rfl)
theorem d_Lw_filledIn_18 : decode method_6_code 18 = .ok (.ireturn, 1) := zo_172 (zd_b zq_method_6_code_0 18 rfl rfl rfl)
