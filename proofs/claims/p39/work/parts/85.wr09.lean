theorem d_Lw_mould_8 : decode method_31_code 8 = .ok (.goto 12, 3) := zo_167 (d := 0) (e := 12) (zd_b zq_method_31_code_0 8 rfl rfl rfl) (zd_b zq_method_31_code_0 9 rfl rfl rfl) (zd_b zq_method_31_code_0 10 rfl rfl rfl) (by decide +kernel)
theorem d_Lw_mould_20 : decode method_31_code 20 = .ok (.iconst 0, 1) := zo_3 (zd_b zq_method_31_code_0 20 rfl rfl rfl)
theorem d_Lw_mould_21 : decode method_31_code 21 = .ok (.ireturn, 1) := zo_172 (zd_b zq_method_31_code_0 21 rfl rfl rfl)
set_option maxHeartbeats 4000000 in
set_option maxRecDepth 100000 in
theorem W_mould {g : zG} {ad : Nat → Nat} {t : zTT} {u : zNN} {w : zW} (hI : IVm g ad t u w) : zMB g M_Lw_mould [.ref (ad 0), .ref (ad 69)] w (fun o w1 => MKx g ad (tK_Ip_mould t u.1) (nK_Ip_mould t u.1) o w1) 10 300 := by
  obtain ⟨s, hI⟩ := hI
  obtain ⟨e_a, wf_a, k_a⟩ := hI.1.2 0 (by decide)
  obtain rfl := kd_0.mp k_a
  obtain ⟨e_o1, wf_o1, k_o1⟩ := hI.1.2 69 (by decide)
  obtain rfl := kd_69.mp k_o1
  refine y_ofH (by decide) (by decide) (Nat.le_of_ble_eq_true rfl) (y_base (cs := [((ad 0), .inr (11, [.ref (ad 1), .ref (ad 5), .ref (ad 18), .ref (ad 31), .ref (ad 32), .ref (ad 36), .ref (ad 42), .ref (ad 45), .ref (ad 47), .ref (ad 49), .ref (ad 50), .ref (ad 51)])), ((ad 69), .inl (3, 1, .inr (.inl (((mg t s).1 69).2.1))))]) (hI.1.I [0, 69] _ rfl (by decide) (by decide) (List.forall_mem_cons.mpr ⟨wf_a, (List.forall_mem_cons.mpr ⟨wf_o1, (fun _ h => nomatch h)⟩)⟩)) ?_)
  refine y_lvE (lv2 := [(0, .ref (ad 0)), (1, .ref (ad 69))]) rfl ?_
  refine y_aload_n d_Lw_mould_0 rfl 1 rfl ?_
  refine y_iconst d_Lw_mould_1 (v := 0) (by decide) ?_
  refine y_aload_n d_Lw_mould_2 rfl 0 rfl ?_
  refine yw_callVH (As := []) (rest := [.int 0, .ref (ad 69)]) (q0 := 0) rfl rfl ln_Lw_115 w_im_Ip_mould w_se_Ip_mould ok_Lw_mould_Ip_mould d_Lw_mould_3 (fun wA hA => K_Ip_mould ⟨_, (hI.gen (t2 := (mg t s)) (is := [0, 69]) (L2 := []) hA rfl ⟨kd_0.mpr rfl, kd_69.mpr rfl, trivial⟩ (by decide) (by decide) (fun _ h => nomatch h) (fun _ h => nomatch h) (fun _ _ _ => rfl) (fun h => h) rfl)⟩) rfl rfl (Nat.le_of_ble_eq_true rfl) (by omega) (by omega) (fun wA3 hA3 E wB3 hx => ?_) (fun wA3 hA3 v wB3 hx => ?_)
  · obtain ⟨h1, u2, hu, hI2⟩ := hx
    rcases List.mem_cons.mp (zriE h1) with rfl | g3
    · refine ⟨"java/util/NoSuchElementException", [], [(0, 8, 14, 78), (0, 8, 17, 69)], (0, 8, 11, 33), rfl, (fun z hz => nomatch hz), by decide, by decide, lx_Lw_33, ce_33, fun qx => ?_⟩
      refine y_base (cs := []) (z_I.nil wB3) ?_
      refine y_astore_n (lv' := [(2, .ref qx), (0, .ref (ad 0)), (1, .ref (ad 69))]) d_Lw_mould_11 rfl (by decide) rfl ?_
      refine y_iconst d_Lw_mould_12 (v := 1) (by decide) ?_
      refine y_iret d_Lw_mould_13 rfl rfl ?_
      exact fun w1 h1 => ⟨⟨_, rfl⟩, u2, hu, (z_I.same (z_I.nil _) h1).symm ▸ hI2⟩
    · rcases List.mem_cons.mp g3 with rfl | g2
      · refine ⟨"java/lang/UnsupportedOperationException", [(0, 8, 11, 33)], [(0, 8, 17, 69)], (0, 8, 14, 78), rfl, (fun z hz => by simp only [List.mem_cons, List.not_mem_nil, or_false] at hz; rcases hz with rfl; exact Or.inr ⟨by decide, _, lx_Lw_33, by decide⟩), by decide, by decide, lx_Lw_78, ce_78, fun qx => ?_⟩
        refine y_base (cs := []) (z_I.nil wB3) ?_
        refine y_astore_n (lv' := [(2, .ref qx), (0, .ref (ad 0)), (1, .ref (ad 69))]) d_Lw_mould_14 rfl (by decide) rfl ?_
        refine y_iconst d_Lw_mould_15 (v := 2) (by decide) ?_
        refine y_iret d_Lw_mould_16 rfl rfl ?_
        exact fun w1 h1 => ⟨⟨_, rfl⟩, u2, hu, (z_I.same (z_I.nil _) h1).symm ▸ hI2⟩
      · obtain rfl := List.mem_singleton.mp g2
        refine ⟨"java/lang/IllegalStateException", [(0, 8, 11, 33), (0, 8, 14, 78)], [], (0, 8, 17, 69), rfl, (fun z hz => by simp only [List.mem_cons, List.not_mem_nil, or_false] at hz; rcases hz with rfl | rfl <;> first | exact Or.inr ⟨by decide, _, lx_Lw_33, by decide⟩ | exact Or.inr ⟨by decide, _, lx_Lw_78, by decide⟩), by decide, by decide, lx_Lw_69, ce_69, fun qx => ?_⟩
        refine y_base (cs := []) (z_I.nil wB3) ?_
        refine y_astore_n (lv' := [(2, .ref qx), (0, .ref (ad 0)), (1, .ref (ad 69))]) d_Lw_mould_17 rfl (by decide) rfl ?_
        refine y_iconst d_Lw_mould_18 (v := 3) (by decide) ?_
        refine y_iret d_Lw_mould_19 rfl rfl ?_
        exact fun w1 h1 => ⟨⟨_, rfl⟩, u2, hu, (z_I.same (z_I.nil _) h1).symm ▸ hI2⟩
  · obtain ⟨h1, u2, hu, hI2⟩ := hx
    obtain ⟨v9, rfl⟩ := zriV h1
    refine yw_st (st2 := [.int v9, .int 0, .ref (ad 69)]) rfl ?_
    obtain ⟨s9, hI⟩ := hI2
    obtain ⟨e_o1, wf_o1, k_o1⟩ := hI.1.2 69 (by decide)
    obtain rfl := kd_69.mp k_o1
    refine y_base (cs := [((ad 69), .inl (3, 1, .inr (.inl (((mg (tK_Ip_mould t u.1) s9).1 69).2.1))))]) (hI.1.I [69] _ rfl (by decide) (by decide) (List.forall_mem_cons.mpr ⟨wf_o1, (fun _ h => nomatch h)⟩)) ?_
    refine y_i2l d_Lw_mould_6 (v := v9.toInt64) rfl ?_
    refine y_last d_Lw_mould_7 (q0 := 0) rfl (fun q => q.elim (by decide) (by decide)) (f' := vp_updL (((mg (tK_Ip_mould t u.1) s9).1 69).2.1) 0 v9.toInt64) rfl (cs' := [((ad 69), .inl (3, 1, .inr (.inl (vp_updL (((mg (tK_Ip_mould t u.1) s9).1 69).2.1) 0 v9.toInt64))))]) rfl ?_
    refine y_goto (tgt := 20) d_Lw_mould_8 (by decide) ?_
    refine y_iconst d_Lw_mould_20 (v := 0) (by decide) ?_
    refine y_iret d_Lw_mould_21 rfl rfl ?_
    exact fun w1 h1 => ⟨⟨_, rfl⟩, u2, hu, IVm.tz ((hI.gen (t2 := (zup (mg (tK_Ip_mould t u.1) s9).1 [(69, (((mg (tK_Ip_mould t u.1) s9).1 69).1, vp_updL (((mg (tK_Ip_mould t u.1) s9).1 69).2.1) 0 v9.toInt64, ((mg (tK_Ip_mould t u.1) s9).1 69).2.2))], (mg (tK_Ip_mould t u.1) s9).2)) (is := [69]) (L2 := []) h1 rfl ⟨kd_69.mpr rfl, trivial⟩ (by decide) (by decide) (fun _ h => nomatch h) (fun _ h => nomatch h) (fun i hi hn => zup_out (fun q => hn ((by decide : ∀ j ∈ ([69] : List Nat), j ∈ ([69] : List Nat)) i q))) (fun h => h) rfl)) (tx_all rfl)⟩
abbrev M_Lw_waiting : zM := (⟨"IronpourLaw", "waiting", "(LIronpour;I[J)I"⟩, method_32_code, 4, (Option.some FieldType.int), 7, 121, [((0 : Nat), (9 : Nat), (12 : Nat), (33 : Nat))])
theorem d_Lw_waiting_0 : decode method_32_code 0 = .ok (.aload_n 2, 1) := zo_44 (zd_b zq_method_32_code_0 0 rfl rfl rfl)
theorem d_Lw_waiting_1 : decode method_32_code 1 = .ok (.iconst 0, 1) := zo_3 (zd_b zq_method_32_code_0 1 rfl rfl rfl)
theorem d_Lw_waiting_2 : decode method_32_code 2 = .ok (.aload_n 0, 1) := zo_42 (zd_b zq_method_32_code_0 2 rfl rfl rfl)
theorem d_Lw_waiting_3 : decode method_32_code 3 = .ok (.iload_n 1, 1) := zo_27 (zd_b zq_method_32_code_0 3 rfl rfl rfl)
theorem d_Lw_waiting_4 : decode method_32_code 4 = .ok (.invokevirtual 118, 3) := zo_182 (d := 0) (e := 118) (zd_b zq_method_32_code_0 4 rfl rfl rfl) (zd_b zq_method_32_code_0 5 rfl rfl rfl) (zd_b zq_method_32_code_0 6 rfl rfl rfl)
theorem ok_Lw_waiting_Ip_waiting : z_okH M_Lw_waiting M_Ip_waiting 1 := ⟨z_mj6 (i := 103) rfl (by decide +kernel), rfl, ⟨by decide +kernel, by decide +kernel, by decide +kernel⟩, ⟨by decide, by decide⟩, z_mj1 (i := 1) rfl (by decide +kernel)⟩
theorem ln_Lw_118 : Cond.methodLink "IronpourLaw" 118 M_Ip_waiting.1 ∈ z_gw := z_mj6 (i := 100) rfl (by decide +kernel)
theorem w_im_Ip_waiting : Cond.instanceMethod M_Ip_waiting.1 ∈ z_gw := z_mj6 (i := 101) rfl (by decide +kernel)
theorem w_se_Ip_waiting : Cond.selects M_Ip_waiting.1.cls M_Ip_waiting.1 M_Ip_waiting.1 ∈ z_gw := z_mj6 (i := 102) rfl (by decide +kernel)
theorem d_Lw_waiting_12 : decode method_32_code 12 = .ok (.astore_n 3, 1) := zo_78 (zd_b zq_method_32_code_0 12 rfl rfl rfl)
theorem d_Lw_waiting_13 : decode method_32_code 13 = .ok (.iconst 1, 1) := zo_4 (zd_b zq_method_32_code_0 13 rfl rfl rfl)
theorem d_Lw_waiting_14 : decode method_32_code 14 = .ok (.ireturn, 1) := zo_172 (zd_b zq_method_32_code_0 14 rfl rfl rfl)
theorem d_Lw_waiting_7 : decode method_32_code 7 = .ok (.i2l, 1) := zo_133 (zd_b zq_method_32_code_0 7 rfl rfl rfl)
theorem d_Lw_waiting_8 : decode method_32_code 8 = .ok (.lastore, 1) := zo_80 (zd_b zq_method_32_code_0 8 rfl rfl rfl)
theorem d_Lw_waiting_9 : decode method_32_code 9 = .ok (.goto 6, 3) := zo_167 (d := 0) (e := 6) (zd_b zq_method_32_code_0 9 rfl rfl rfl) (zd_b zq_method_32_code_0 10 rfl rfl rfl) (zd_b zq_method_32_code_0 11 rfl rfl rfl) (by decide +kernel)
theorem d_Lw_waiting_15 : decode method_32_code 15 = .ok (.iconst 0, 1) := zo_3 (zd_b zq_method_32_code_0 15 rfl rfl rfl)
theorem d_Lw_waiting_16 : decode method_32_code 16 = .ok (.ireturn, 1) := zo_172 (zd_b zq_method_32_code_0 16 rfl rfl rfl)
set_option maxHeartbeats 4000000 in
set_option maxRecDepth 100000 in
theorem W_waiting {g : zG} {ad : Nat → Nat} {t : zTT} {u : zNN} {w : zW} (hI : IVm g ad t u w) (x : Int32) : zMB g M_Lw_waiting [.ref (ad 0), .int x, .ref (ad 69)] w (fun o w1 => MKx g ad t u.1 o w1) 10 300 := by
  obtain ⟨s, hI⟩ := hI
  obtain ⟨e_a, wf_a, k_a⟩ := hI.1.2 0 (by decide)
  obtain rfl := kd_0.mp k_a
  obtain ⟨e_o1, wf_o1, k_o1⟩ := hI.1.2 69 (by decide)
  obtain rfl := kd_69.mp k_o1
  refine y_ofH (by decide) (by decide) (Nat.le_of_ble_eq_true rfl) (y_base (cs := [((ad 0), .inr (11, [.ref (ad 1), .ref (ad 5), .ref (ad 18), .ref (ad 31), .ref (ad 32), .ref (ad 36), .ref (ad 42), .ref (ad 45), .ref (ad 47), .ref (ad 49), .ref (ad 50), .ref (ad 51)])), ((ad 69), .inl (3, 1, .inr (.inl (((mg t s).1 69).2.1))))]) (hI.1.I [0, 69] _ rfl (by decide) (by decide) (List.forall_mem_cons.mpr ⟨wf_a, (List.forall_mem_cons.mpr ⟨wf_o1, (fun _ h => nomatch h)⟩)⟩)) ?_)
  refine y_lvE (lv2 := [(0, .ref (ad 0)), (1, .int x), (2, .ref (ad 69))]) rfl ?_
  refine y_aload_n d_Lw_waiting_0 rfl 2 rfl ?_
  refine y_iconst d_Lw_waiting_1 (v := 0) (by decide) ?_
  refine y_aload_n d_Lw_waiting_2 rfl 0 rfl ?_
  refine y_iload_n d_Lw_waiting_3 rfl 1 rfl ?_
  refine yw_callVH (As := [.int x]) (rest := [.int 0, .ref (ad 69)]) (q0 := 0) rfl rfl ln_Lw_118 w_im_Ip_waiting w_se_Ip_waiting ok_Lw_waiting_Ip_waiting d_Lw_waiting_4 (fun wA hA => K_Ip_waiting ⟨_, (hI.gen (t2 := (mg t s)) (is := [0, 69]) (L2 := []) hA rfl ⟨kd_0.mpr rfl, kd_69.mpr rfl, trivial⟩ (by decide) (by decide) (fun _ h => nomatch h) (fun _ h => nomatch h) (fun _ _ _ => rfl) (fun h => h) rfl)⟩ x) rfl rfl (Nat.le_of_ble_eq_true rfl) (by omega) (by omega) (fun wA4 hA4 E wB4 hx => ?_) (fun wA4 hA4 v wB4 hx => ?_)
  · obtain ⟨h1, u2, hu, hI2⟩ := hx
    obtain rfl := List.mem_singleton.mp (zriE h1)
    refine ⟨"java/util/NoSuchElementException", [], [], (0, 9, 12, 33), rfl, (fun z hz => nomatch hz), by decide, by decide, lx_Lw_33, ce_33, fun qx => ?_⟩
    refine y_base (cs := []) (z_I.nil wB4) ?_
    refine y_astore_n (lv' := [(3, .ref qx), (0, .ref (ad 0)), (1, .int x), (2, .ref (ad 69))]) d_Lw_waiting_12 rfl (by decide) rfl ?_
    refine y_iconst d_Lw_waiting_13 (v := 1) (by decide) ?_
    refine y_iret d_Lw_waiting_14 rfl rfl ?_
    exact fun w1 h1 => ⟨⟨_, rfl⟩, u2, hu, (z_I.same (z_I.nil _) h1).symm ▸ hI2⟩
  · obtain ⟨h1, u2, hu, hI2⟩ := hx
    obtain ⟨v9, rfl⟩ := zriV h1
    refine yw_st (st2 := [.int v9, .int 0, .ref (ad 69)]) rfl ?_
    obtain ⟨s9, hI⟩ := hI2
    obtain ⟨e_o1, wf_o1, k_o1⟩ := hI.1.2 69 (by decide)
    obtain rfl := kd_69.mp k_o1
    refine y_base (cs := [((ad 69), .inl (3, 1, .inr (.inl (((mg t s9).1 69).2.1))))]) (hI.1.I [69] _ rfl (by decide) (by decide) (List.forall_mem_cons.mpr ⟨wf_o1, (fun _ h => nomatch h)⟩)) ?_
    refine y_i2l d_Lw_waiting_7 (v := v9.toInt64) rfl ?_
    refine y_last d_Lw_waiting_8 (q0 := 0) rfl (fun q => q.elim (by decide) (by decide)) (f' := vp_updL (((mg t s9).1 69).2.1) 0 v9.toInt64) rfl (cs' := [((ad 69), .inl (3, 1, .inr (.inl (vp_updL (((mg t s9).1 69).2.1) 0 v9.toInt64))))]) rfl ?_
    refine y_goto (tgt := 15) d_Lw_waiting_9 (by decide) ?_
    refine y_iconst d_Lw_waiting_15 (v := 0) (by decide) ?_
    refine y_iret d_Lw_waiting_16 rfl rfl ?_
    exact fun w1 h1 => ⟨⟨_, rfl⟩, u2, hu, IVm.tz ((hI.gen (t2 := (zup (mg t s9).1 [(69, (((mg t s9).1 69).1, vp_updL (((mg t s9).1 69).2.1) 0 v9.toInt64, ((mg t s9).1 69).2.2))], (mg t s9).2)) (is := [69]) (L2 := []) h1 rfl ⟨kd_69.mpr rfl, trivial⟩ (by decide) (by decide) (fun _ h => nomatch h) (fun _ h => nomatch h) (fun i hi hn => zup_out (fun q => hn ((by decide : ∀ j ∈ ([69] : List Nat), j ∈ ([69] : List Nat)) i q))) (fun h => h) rfl)) (tx_all rfl)⟩
abbrev M_Lw_pour : zM := (⟨"IronpourLaw", "pour", "(LIronpour;[J)I"⟩, method_33_code, 3, (Option.some FieldType.int), 9, 251, [((0 : Nat), (8 : Nat), (11 : Nat), (33 : Nat)), ((0 : Nat), (8 : Nat), (14 : Nat), (69 : Nat)), ((0 : Nat), (8 : Nat), (17 : Nat), (78 : Nat))])
theorem d_Lw_pour_0 : decode method_33_code 0 = .ok (.aload_n 1, 1) := zo_43 (zd_b zq_method_33_code_0 0 rfl rfl rfl)
theorem d_Lw_pour_1 : decode method_33_code 1 = .ok (.iconst 0, 1) := zo_3 (zd_b zq_method_33_code_0 1 rfl rfl rfl)
theorem d_Lw_pour_2 : decode method_33_code 2 = .ok (.aload_n 0, 1) := zo_42 (zd_b zq_method_33_code_0 2 rfl rfl rfl)
theorem d_Lw_pour_3 : decode method_33_code 3 = .ok (.invokevirtual 121, 3) := zo_182 (d := 0) (e := 121) (zd_b zq_method_33_code_0 3 rfl rfl rfl) (zd_b zq_method_33_code_0 4 rfl rfl rfl) (zd_b zq_method_33_code_0 5 rfl rfl rfl)
theorem ok_Lw_pour_Ip_pour : z_okH M_Lw_pour M_Ip_pour 0 := ⟨z_mj6 (i := 111) rfl (by decide +kernel), rfl, ⟨by decide +kernel, by decide +kernel, by decide +kernel⟩, ⟨by decide, by decide⟩, z_mj1 (i := 1) rfl (by decide +kernel)⟩
theorem ln_Lw_121 : Cond.methodLink "IronpourLaw" 121 M_Ip_pour.1 ∈ z_gw := z_mj6 (i := 108) rfl (by decide +kernel)
theorem w_im_Ip_pour : Cond.instanceMethod M_Ip_pour.1 ∈ z_gw := z_mj6 (i := 109) rfl (by decide +kernel)
theorem w_se_Ip_pour : Cond.selects M_Ip_pour.1.cls M_Ip_pour.1 M_Ip_pour.1 ∈ z_gw := z_mj6 (i := 110) rfl (by decide +kernel)
theorem d_Lw_pour_11 : decode method_33_code 11 = .ok (.astore_n 2, 1) := zo_77 (zd_b zq_method_33_code_0 11 rfl rfl rfl)
theorem d_Lw_pour_12 : decode method_33_code 12 = .ok (.iconst 1, 1) := zo_4 (zd_b zq_method_33_code_0 12 rfl rfl rfl)
theorem d_Lw_pour_13 : decode method_33_code 13 = .ok (.ireturn, 1) := zo_172 (zd_b zq_method_33_code_0 13 rfl rfl rfl)
theorem d_Lw_pour_14 : decode method_33_code 14 = .ok (.astore_n 2, 1) := zo_77 (zd_b zq_method_33_code_0 14 rfl rfl rfl)
theorem d_Lw_pour_15 : decode method_33_code 15 = .ok (.iconst 2, 1) := zo_5 (zd_b zq_method_33_code_0 15 rfl rfl rfl)
theorem d_Lw_pour_16 : decode method_33_code 16 = .ok (.ireturn, 1) := zo_172 (zd_b zq_method_33_code_0 16 rfl rfl rfl)
theorem d_Lw_pour_17 : decode method_33_code 17 = .ok (.astore_n 2, 1) := zo_77 (zd_b zq_method_33_code_0 17 rfl rfl rfl)
theorem d_Lw_pour_18 : decode method_33_code 18 = .ok (.iconst 3, 1) := zo_6 (zd_b zq_method_33_code_0 18 rfl rfl rfl)
theorem d_Lw_pour_19 : decode method_33_code 19 = .ok (.ireturn, 1) := zo_172 (zd_b zq_method_33_code_0 19 rfl rfl rfl)
theorem d_Lw_pour_6 : decode method_33_code 6 = .ok (.i2l, 1) := zo_133 (zd_b zq_method_33_code_0 6 rfl rfl rfl)
theorem d_Lw_pour_7 : decode method_33_code 7 = .ok (.lastore, 1) := zo_80 (zd_b zq_method_33_code_0 7 rfl rfl rfl)
theorem d_Lw_pour_8 : decode method_33_code 8 = .ok (.goto 12, 3) := zo_167 (d := 0) (e := 12) (zd_b zq_method_33_code_0 8 rfl rfl rfl) (zd_b zq_method_33_code_0 9 rfl rfl rfl) (zd_b zq_method_33_code_0 10 rfl rfl rfl) (by decide +kernel)
theorem d_Lw_pour_20 : decode method_33_code 20 = .ok (.iconst 0, 1) := zo_3 (zd_b zq_method_33_code_0 20 rfl rfl rfl)
theorem d_Lw_pour_21 : decode method_33_code 21 = .ok (.ireturn, 1) := zo_172 (zd_b zq_method_33_code_0 21 rfl rfl rfl)
set_option maxHeartbeats 4000000 in
set_option maxRecDepth 100000 in
theorem W_pour {g : zG} {ad : Nat → Nat} {t : zTT} {u : zNN} {w : zW} (hI : IVm g ad t u w) : zMB g M_Lw_pour [.ref (ad 0), .ref (ad 69)] w (fun o w1 => ∃ (X9 : zTr), MKx g ad (tK_Ip_pour X9 t u.1) (nK_Ip_pour t u.1) o w1) 10 300 := by
  obtain ⟨s, hI⟩ := hI
  obtain ⟨e_a, wf_a, k_a⟩ := hI.1.2 0 (by decide)
  obtain rfl := kd_0.mp k_a
  obtain ⟨e_o1, wf_o1, k_o1⟩ := hI.1.2 69 (by decide)
  obtain rfl := kd_69.mp k_o1
  refine y_ofH (by decide) (by decide) (Nat.le_of_ble_eq_true rfl) (y_base (cs := [((ad 0), .inr (11, [.ref (ad 1), .ref (ad 5), .ref (ad 18), .ref (ad 31), .ref (ad 32), .ref (ad 36), .ref (ad 42), .ref (ad 45), .ref (ad 47), .ref (ad 49), .ref (ad 50), .ref (ad 51)])), ((ad 69), .inl (3, 1, .inr (.inl (((mg t s).1 69).2.1))))]) (hI.1.I [0, 69] _ rfl (by decide) (by decide) (List.forall_mem_cons.mpr ⟨wf_a, (List.forall_mem_cons.mpr ⟨wf_o1, (fun _ h => nomatch h)⟩)⟩)) ?_)
  refine y_lvE (lv2 := [(0, .ref (ad 0)), (1, .ref (ad 69))]) rfl ?_
  refine y_aload_n d_Lw_pour_0 rfl 1 rfl ?_
  refine y_iconst d_Lw_pour_1 (v := 0) (by decide) ?_
  refine y_aload_n d_Lw_pour_2 rfl 0 rfl ?_
  refine yw_callVH (As := []) (rest := [.int 0, .ref (ad 69)]) (q0 := 0) rfl rfl ln_Lw_121 w_im_Ip_pour w_se_Ip_pour ok_Lw_pour_Ip_pour d_Lw_pour_3 (fun wA hA => K_Ip_pour ⟨_, (hI.gen (t2 := (mg t s)) (is := [0, 69]) (L2 := []) hA rfl ⟨kd_0.mpr rfl, kd_69.mpr rfl, trivial⟩ (by decide) (by decide) (fun _ h => nomatch h) (fun _ h => nomatch h) (fun _ _ _ => rfl) (fun h => h) rfl)⟩) rfl rfl (Nat.le_of_ble_eq_true rfl) (by omega) (by omega) (fun wA3 hA3 E wB3 hx => ?_) (fun wA3 hA3 v wB3 hx => ?_)
  · obtain ⟨X9, h1, u2, hu, hI2⟩ := hx
    rcases List.mem_cons.mp (zriE h1) with rfl | g3
    · refine ⟨"java/util/NoSuchElementException", [], [(0, 8, 14, 69), (0, 8, 17, 78)], (0, 8, 11, 33), rfl, (fun z hz => nomatch hz), by decide, by decide, lx_Lw_33, ce_33, fun qx => ?_⟩
      refine y_base (cs := []) (z_I.nil wB3) ?_
      refine y_astore_n (lv' := [(2, .ref qx), (0, .ref (ad 0)), (1, .ref (ad 69))]) d_Lw_pour_11 rfl (by decide) rfl ?_
      refine y_iconst d_Lw_pour_12 (v := 1) (by decide) ?_
      refine y_iret d_Lw_pour_13 rfl rfl ?_
      exact fun w1 h1 => ⟨X9, ⟨_, rfl⟩, u2, hu, (z_I.same (z_I.nil _) h1).symm ▸ hI2⟩
    · rcases List.mem_cons.mp g3 with rfl | g2
      · refine ⟨"java/lang/IllegalStateException", [(0, 8, 11, 33)], [(0, 8, 17, 78)], (0, 8, 14, 69), rfl, (fun z hz => by simp only [List.mem_cons, List.not_mem_nil, or_false] at hz; rcases hz with rfl; exact Or.inr ⟨by decide, _, lx_Lw_33, by decide⟩), by decide, by decide, lx_Lw_69, ce_69, fun qx => ?_⟩
        refine y_base (cs := []) (z_I.nil wB3) ?_
        refine y_astore_n (lv' := [(2, .ref qx), (0, .ref (ad 0)), (1, .ref (ad 69))]) d_Lw_pour_14 rfl (by decide) rfl ?_
        refine y_iconst d_Lw_pour_15 (v := 2) (by decide) ?_
        refine y_iret d_Lw_pour_16 rfl rfl ?_
        exact fun w1 h1 => ⟨X9, ⟨_, rfl⟩, u2, hu, (z_I.same (z_I.nil _) h1).symm ▸ hI2⟩
      · obtain rfl := List.mem_singleton.mp g2
        refine ⟨"java/lang/UnsupportedOperationException", [(0, 8, 11, 33), (0, 8, 14, 69)], [], (0, 8, 17, 78), rfl, (fun z hz => by simp only [List.mem_cons, List.not_mem_nil, or_false] at hz; rcases hz with rfl | rfl <;> first | exact Or.inr ⟨by decide, _, lx_Lw_33, by decide⟩ | exact Or.inr ⟨by decide, _, lx_Lw_69, by decide⟩), by decide, by decide, lx_Lw_78, ce_78, fun qx => ?_⟩
        refine y_base (cs := []) (z_I.nil wB3) ?_
        refine y_astore_n (lv' := [(2, .ref qx), (0, .ref (ad 0)), (1, .ref (ad 69))]) d_Lw_pour_17 rfl (by decide) rfl ?_
        refine y_iconst d_Lw_pour_18 (v := 3) (by decide) ?_
        refine y_iret d_Lw_pour_19 rfl rfl ?_
        exact fun w1 h1 => ⟨X9, ⟨_, rfl⟩, u2, hu, (z_I.same (z_I.nil _) h1).symm ▸ hI2⟩
  · obtain ⟨X9, h1, u2, hu, hI2⟩ := hx
    obtain ⟨v9, rfl⟩ := zriV h1
    refine yw_st (st2 := [.int v9, .int 0, .ref (ad 69)]) rfl ?_
    obtain ⟨s9, hI⟩ := hI2
    obtain ⟨e_o1, wf_o1, k_o1⟩ := hI.1.2 69 (by decide)
    obtain rfl := kd_69.mp k_o1
    refine y_base (cs := [((ad 69), .inl (3, 1, .inr (.inl (((mg (tK_Ip_pour X9 t u.1) s9).1 69).2.1))))]) (hI.1.I [69] _ rfl (by decide) (by decide) (List.forall_mem_cons.mpr ⟨wf_o1, (fun _ h => nomatch h)⟩)) ?_
    refine y_i2l d_Lw_pour_6 (v := v9.toInt64) rfl ?_
    refine y_last d_Lw_pour_7 (q0 := 0) rfl (fun q => q.elim (by decide) (by decide)) (f' := vp_updL (((mg (tK_Ip_pour X9 t u.1) s9).1 69).2.1) 0 v9.toInt64) rfl (cs' := [((ad 69), .inl (3, 1, .inr (.inl (vp_updL (((mg (tK_Ip_pour X9 t u.1) s9).1 69).2.1) 0 v9.toInt64))))]) rfl ?_
    refine y_goto (tgt := 20) d_Lw_pour_8 (by decide) ?_
    refine y_iconst d_Lw_pour_20 (v := 0) (by decide) ?_
    refine y_iret d_Lw_pour_21 rfl rfl ?_
    exact fun w1 h1 => ⟨X9, ⟨_, rfl⟩, u2, hu, IVm.tz ((hI.gen (t2 := (zup (mg (tK_Ip_pour X9 t u.1) s9).1 [(69, (((mg (tK_Ip_pour X9 t u.1) s9).1 69).1, vp_updL (((mg (tK_Ip_pour X9 t u.1) s9).1 69).2.1) 0 v9.toInt64, ((mg (tK_Ip_pour X9 t u.1) s9).1 69).2.2))], (mg (tK_Ip_pour X9 t u.1) s9).2)) (is := [69]) (L2 := []) h1 rfl ⟨kd_69.mpr rfl, trivial⟩ (by decide) (by decide) (fun _ h => nomatch h) (fun _ h => nomatch h) (fun i hi hn => zup_out (fun q => hn ((by decide : ∀ j ∈ ([69] : List Nat), j ∈ ([69] : List Nat)) i q))) (fun h => h) rfl)) (tx_all rfl)⟩
abbrev M_Lw_alloy : zM := (⟨"IronpourLaw", "alloy", "(LIronpour;I[J)I"⟩, method_34_code, 4, (Option.some FieldType.int), 8, 142, [((0 : Nat), (9 : Nat), (12 : Nat), (19 : Nat))])
theorem d_Lw_alloy_0 : decode method_34_code 0 = .ok (.aload_n 2, 1) := zo_44 (zd_b zq_method_34_code_0 0 rfl rfl rfl)
theorem d_Lw_alloy_1 : decode method_34_code 1 = .ok (.iconst 0, 1) := zo_3 (zd_b zq_method_34_code_0 1 rfl rfl rfl)
theorem d_Lw_alloy_2 : decode method_34_code 2 = .ok (.aload_n 0, 1) := zo_42 (zd_b zq_method_34_code_0 2 rfl rfl rfl)
theorem d_Lw_alloy_3 : decode method_34_code 3 = .ok (.iload_n 1, 1) := zo_27 (zd_b zq_method_34_code_0 3 rfl rfl rfl)
theorem d_Lw_alloy_4 : decode method_34_code 4 = .ok (.invokevirtual 124, 3) := zo_182 (d := 0) (e := 124) (zd_b zq_method_34_code_0 4 rfl rfl rfl) (zd_b zq_method_34_code_0 5 rfl rfl rfl) (zd_b zq_method_34_code_0 6 rfl rfl rfl)
theorem ok_Lw_alloy_Ip_alloy : z_okH M_Lw_alloy M_Ip_alloy 1 := ⟨z_mj6 (i := 189) rfl (by decide +kernel), rfl, ⟨by decide +kernel, by decide +kernel, by decide +kernel⟩, ⟨by decide, by decide⟩, z_mj1 (i := 1) rfl (by decide +kernel)⟩
theorem ln_Lw_124 : Cond.methodLink "IronpourLaw" 124 M_Ip_alloy.1 ∈ z_gw := z_mj6 (i := 186) rfl (by decide +kernel)
theorem w_im_Ip_alloy : Cond.instanceMethod M_Ip_alloy.1 ∈ z_gw := z_mj6 (i := 187) rfl (by decide +kernel)
theorem w_se_Ip_alloy : Cond.selects M_Ip_alloy.1.cls M_Ip_alloy.1 M_Ip_alloy.1 ∈ z_gw := z_mj6 (i := 188) rfl (by decide +kernel)
theorem d_Lw_alloy_12 : decode method_34_code 12 = .ok (.astore_n 3, 1) := zo_78 (zd_b zq_method_34_code_0 12 rfl rfl rfl)
theorem d_Lw_alloy_13 : decode method_34_code 13 = .ok (.iconst 1, 1) := zo_4 (zd_b zq_method_34_code_0 13 rfl rfl rfl)
theorem d_Lw_alloy_14 : decode method_34_code 14 = .ok (.ireturn, 1) := zo_172 (zd_b zq_method_34_code_0 14 rfl rfl rfl)
theorem d_Lw_alloy_7 : decode method_34_code 7 = .ok (.i2l, 1) := zo_133 (zd_b zq_method_34_code_0 7 rfl rfl rfl)
theorem d_Lw_alloy_8 : decode method_34_code 8 = .ok (.lastore, 1) := zo_80 (zd_b zq_method_34_code_0 8 rfl rfl rfl)
theorem d_Lw_alloy_9 : decode method_34_code 9 = .ok (.goto 6, 3) := zo_167 (d := 0) (e := 6) (zd_b zq_method_34_code_0 9 rfl rfl rfl) (zd_b zq_method_34_code_0 10 rfl rfl rfl) (zd_b zq_method_34_code_0 11 rfl rfl rfl) (by decide +kernel)
theorem d_Lw_alloy_15 : decode method_34_code 15 = .ok (.iconst 0, 1) := zo_3 (zd_b zq_method_34_code_0 15 rfl rfl rfl)
theorem d_Lw_alloy_16 : decode method_34_code 16 = .ok (.ireturn, 1) := zo_172 (zd_b zq_method_34_code_0 16 rfl rfl rfl)
abbrev M_Lw_faults : zM := (⟨"IronpourLaw", "faults", "(LIronpour;I[J)I"⟩, method_35_code, 4, (Option.some FieldType.int), 8, 142, [((0 : Nat), (9 : Nat), (12 : Nat), (19 : Nat))])
theorem d_Lw_faults_0 : decode method_35_code 0 = .ok (.aload_n 2, 1) := zo_44 (zd_b zq_method_35_code_0 0 rfl rfl rfl)
theorem d_Lw_faults_1 : decode method_35_code 1 = .ok (.iconst 0, 1) := zo_3 (zd_b zq_method_35_code_0 1 rfl rfl rfl)
theorem d_Lw_faults_2 : decode method_35_code 2 = .ok (.aload_n 0, 1) := zo_42 (zd_b zq_method_35_code_0 2 rfl rfl rfl)
theorem d_Lw_faults_3 : decode method_35_code 3 = .ok (.iload_n 1, 1) := zo_27 (zd_b zq_method_35_code_0 3 rfl rfl rfl)
theorem d_Lw_faults_4 : decode method_35_code 4 = .ok (.invokevirtual 128, 3) := zo_182 (d := 0) (e := 128) (zd_b zq_method_35_code_0 4 rfl rfl rfl) (zd_b zq_method_35_code_0 5 rfl rfl rfl) (zd_b zq_method_35_code_0 6 rfl rfl rfl)
theorem ok_Lw_faults_Ip_faults : z_okH M_Lw_faults M_Ip_faults 1 := ⟨z_mj6 (i := 202) rfl (by decide +kernel), rfl, ⟨by decide +kernel, by decide +kernel, by decide +kernel⟩, ⟨by decide, by decide⟩, z_mj1 (i := 1) rfl (by decide +kernel)⟩
theorem ln_Lw_128 : Cond.methodLink "IronpourLaw" 128 M_Ip_faults.1 ∈ z_gw := z_mj6 (i := 199) rfl (by decide +kernel)
theorem w_im_Ip_faults : Cond.instanceMethod M_Ip_faults.1 ∈ z_gw := z_mj6 (i := 200) rfl (by decide +kernel)
theorem w_se_Ip_faults : Cond.selects M_Ip_faults.1.cls M_Ip_faults.1 M_Ip_faults.1 ∈ z_gw := z_mj6 (i := 201) rfl (by decide +kernel)
theorem d_Lw_faults_12 : decode method_35_code 12 = .ok (.astore_n 3, 1) := zo_78 (zd_b zq_method_35_code_0 12 rfl rfl rfl)
