abbrev M_Lw_weld : zM := (⟨"IronpourLaw", "weld", "(LIronpour;I[J)I"⟩, method_39_code, 4, (Option.some FieldType.int), 8, 144, [((0 : Nat), (16 : Nat), (19 : Nat), (19 : Nat)), ((0 : Nat), (16 : Nat), (22 : Nat), (78 : Nat)), ((0 : Nat), (16 : Nat), (25 : Nat), (69 : Nat))])
theorem d_Lw_weld_0 : decode method_39_code 0 = .ok (.aload_n 2, 1) := zo_44 (zd_b zq_method_39_code_0 0 rfl rfl rfl)
theorem d_Lw_weld_1 : decode method_39_code 1 = .ok (.iconst 0, 1) := zo_3 (zd_b zq_method_39_code_0 1 rfl rfl rfl)
theorem d_Lw_weld_2 : decode method_39_code 2 = .ok (.aload_n 0, 1) := zo_42 (zd_b zq_method_39_code_0 2 rfl rfl rfl)
theorem d_Lw_weld_3 : decode method_39_code 3 = .ok (.iload_n 1, 1) := zo_27 (zd_b zq_method_39_code_0 3 rfl rfl rfl)
theorem d_Lw_weld_4 : decode method_39_code 4 = .ok (.invokevirtual 141, 3) := zo_182 (d := 0) (e := 141) (zd_b zq_method_39_code_0 4 rfl rfl rfl) (zd_b zq_method_39_code_0 5 rfl rfl rfl) (zd_b zq_method_39_code_0 6 rfl rfl rfl)
theorem ok_Lw_weld_Ip_weld : z_okH M_Lw_weld M_Ip_weld 1 := ⟨z_mj7 (i := 1) rfl (by decide +kernel), rfl, ⟨by decide +kernel, by decide +kernel, by decide +kernel⟩, ⟨by decide, by decide⟩, z_mj1 (i := 1) rfl (by decide +kernel)⟩
theorem ln_Lw_141 : Cond.methodLink "IronpourLaw" 141 M_Ip_weld.1 ∈ z_gw := z_mj6 (i := 238) rfl (by decide +kernel)
theorem w_im_Ip_weld : Cond.instanceMethod M_Ip_weld.1 ∈ z_gw := z_mj6 (i := 239) rfl (by decide +kernel)
theorem w_se_Ip_weld : Cond.selects M_Ip_weld.1.cls M_Ip_weld.1 M_Ip_weld.1 ∈ z_gw := z_mj7 (i := 0) rfl (by decide +kernel)
theorem d_Lw_weld_19 : decode method_39_code 19 = .ok (.astore_n 3, 1) := zo_78 (zd_b zq_method_39_code_0 19 rfl rfl rfl)
theorem d_Lw_weld_20 : decode method_39_code 20 = .ok (.iconst 1, 1) := zo_4 (zd_b zq_method_39_code_0 20 rfl rfl rfl)
theorem d_Lw_weld_21 : decode method_39_code 21 = .ok (.ireturn, 1) := zo_172 (zd_b zq_method_39_code_0 21 rfl rfl rfl)
theorem d_Lw_weld_22 : decode method_39_code 22 = .ok (.astore_n 3, 1) := zo_78 (zd_b zq_method_39_code_0 22 rfl rfl rfl)
theorem d_Lw_weld_23 : decode method_39_code 23 = .ok (.iconst 2, 1) := zo_5 (zd_b zq_method_39_code_0 23 rfl rfl rfl)
theorem d_Lw_weld_24 : decode method_39_code 24 = .ok (.ireturn, 1) := zo_172 (zd_b zq_method_39_code_0 24 rfl rfl rfl)
theorem d_Lw_weld_25 : decode method_39_code 25 = .ok (.astore_n 3, 1) := zo_78 (zd_b zq_method_39_code_0 25 rfl rfl rfl)
theorem d_Lw_weld_26 : decode method_39_code 26 = .ok (.iconst 3, 1) := zo_6 (zd_b zq_method_39_code_0 26 rfl rfl rfl)
theorem d_Lw_weld_27 : decode method_39_code 27 = .ok (.ireturn, 1) := zo_172 (zd_b zq_method_39_code_0 27 rfl rfl rfl)
theorem d_Lw_weld_7 : decode method_39_code 7 = .ok (.ifCond .eq 7, 3) := zo_153 (d := 0) (e := 7) (zd_b zq_method_39_code_0 7 rfl rfl rfl) (zd_b zq_method_39_code_0 8 rfl rfl rfl) (zd_b zq_method_39_code_0 9 rfl rfl rfl) (by decide +kernel)
theorem d_Lw_weld_14 : decode method_39_code 14 = .ok (.lconst 0, 1) := zo_9 (zd_b zq_method_39_code_0 14 rfl rfl rfl)
theorem d_Lw_weld_15 : decode method_39_code 15 = .ok (.lastore, 1) := zo_80 (zd_b zq_method_39_code_0 15 rfl rfl rfl)
theorem d_Lw_weld_16 : decode method_39_code 16 = .ok (.goto 12, 3) := zo_167 (d := 0) (e := 12) (zd_b zq_method_39_code_0 16 rfl rfl rfl) (zd_b zq_method_39_code_0 17 rfl rfl rfl) (zd_b zq_method_39_code_0 18 rfl rfl rfl) (by decide +kernel)
theorem d_Lw_weld_28 : decode method_39_code 28 = .ok (.iconst 0, 1) := zo_3 (zd_b zq_method_39_code_0 28 rfl rfl rfl)
theorem d_Lw_weld_29 : decode method_39_code 29 = .ok (.ireturn, 1) := zo_172 (zd_b zq_method_39_code_0 29 rfl rfl rfl)
theorem d_Lw_weld_10 : decode method_39_code 10 = .ok (.lconst 1, 1) := zo_10 (zd_b zq_method_39_code_0 10 rfl rfl rfl)
theorem d_Lw_weld_11 : decode method_39_code 11 = .ok (.goto 4, 3) := zo_167 (d := 0) (e := 4) (zd_b zq_method_39_code_0 11 rfl rfl rfl) (zd_b zq_method_39_code_0 12 rfl rfl rfl) (zd_b zq_method_39_code_0 13 rfl rfl rfl) (by decide +kernel)
set_option maxHeartbeats 4000000 in
set_option maxRecDepth 100000 in
theorem W_weld {g : zG} {ad : Nat → Nat} {t : zTT} {u : zNN} {w : zW} (hI : IVm g ad t u w) (x : Int32) : zMB g M_Lw_weld [.ref (ad 0), .int x, .ref (ad 69)] w (fun o w1 => MKx g ad (tK_Ip_weld x t u.1) u.1 o w1) 10 300 := by
  obtain ⟨s, hI⟩ := hI
  obtain ⟨e_a, wf_a, k_a⟩ := hI.1.2 0 (by decide)
  obtain rfl := kd_0.mp k_a
  obtain ⟨e_o1, wf_o1, k_o1⟩ := hI.1.2 69 (by decide)
  obtain rfl := kd_69.mp k_o1
  refine y_ofH (by decide) (by decide) (Nat.le_of_ble_eq_true rfl) (y_base (cs := [((ad 0), .inr (11, [.ref (ad 1), .ref (ad 5), .ref (ad 18), .ref (ad 31), .ref (ad 32), .ref (ad 36), .ref (ad 42), .ref (ad 45), .ref (ad 47), .ref (ad 49), .ref (ad 50), .ref (ad 51)])), ((ad 69), .inl (3, 1, .inr (.inl (((mg t s).1 69).2.1))))]) (hI.1.I [0, 69] _ rfl (by decide) (by decide) (List.forall_mem_cons.mpr ⟨wf_a, (List.forall_mem_cons.mpr ⟨wf_o1, (fun _ h => nomatch h)⟩)⟩)) ?_)
  refine y_lvE (lv2 := [(0, .ref (ad 0)), (1, .int x), (2, .ref (ad 69))]) rfl ?_
  refine y_aload_n d_Lw_weld_0 rfl 2 rfl ?_
  refine y_iconst d_Lw_weld_1 (v := 0) (by decide) ?_
  refine y_aload_n d_Lw_weld_2 rfl 0 rfl ?_
  refine y_iload_n d_Lw_weld_3 rfl 1 rfl ?_
  refine yw_callVH (As := [.int x]) (rest := [.int 0, .ref (ad 69)]) (q0 := 0) rfl rfl ln_Lw_141 w_im_Ip_weld w_se_Ip_weld ok_Lw_weld_Ip_weld d_Lw_weld_4 (fun wA hA => K_Ip_weld ⟨_, (hI.gen (t2 := (mg t s)) (is := [0, 69]) (L2 := []) hA rfl ⟨kd_0.mpr rfl, kd_69.mpr rfl, trivial⟩ (by decide) (by decide) (fun _ h => nomatch h) (fun _ h => nomatch h) (fun _ _ _ => rfl) (fun h => h) rfl)⟩ x) rfl rfl (Nat.le_of_ble_eq_true rfl) (by omega) (by omega) (fun wA4 hA4 E wB4 hx => ?_) (fun wA4 hA4 v wB4 hx => ?_)
  · obtain ⟨h1, u2, hu, hI2⟩ := hx
    rcases List.mem_cons.mp (zriE h1) with rfl | g3
    · refine ⟨"java/lang/IndexOutOfBoundsException", [], [(0, 16, 22, 78), (0, 16, 25, 69)], (0, 16, 19, 19), rfl, (fun z hz => nomatch hz), by decide, by decide, lx_Lw_19, ce_19, fun qx => ?_⟩
      refine y_base (cs := []) (z_I.nil wB4) ?_
      refine y_astore_n (lv' := [(3, .ref qx), (0, .ref (ad 0)), (1, .int x), (2, .ref (ad 69))]) d_Lw_weld_19 rfl (by decide) rfl ?_
      refine y_iconst d_Lw_weld_20 (v := 1) (by decide) ?_
      refine y_iret d_Lw_weld_21 rfl rfl ?_
      exact fun w1 h1 => ⟨⟨_, rfl⟩, u2, hu, (z_I.same (z_I.nil _) h1).symm ▸ hI2⟩
    · rcases List.mem_cons.mp g3 with rfl | g2
      · refine ⟨"java/lang/UnsupportedOperationException", [(0, 16, 19, 19)], [(0, 16, 25, 69)], (0, 16, 22, 78), rfl, (fun z hz => by simp only [List.mem_cons, List.not_mem_nil, or_false] at hz; rcases hz with rfl; exact Or.inr ⟨by decide, _, lx_Lw_19, by decide⟩), by decide, by decide, lx_Lw_78, ce_78, fun qx => ?_⟩
        refine y_base (cs := []) (z_I.nil wB4) ?_
        refine y_astore_n (lv' := [(3, .ref qx), (0, .ref (ad 0)), (1, .int x), (2, .ref (ad 69))]) d_Lw_weld_22 rfl (by decide) rfl ?_
        refine y_iconst d_Lw_weld_23 (v := 2) (by decide) ?_
        refine y_iret d_Lw_weld_24 rfl rfl ?_
        exact fun w1 h1 => ⟨⟨_, rfl⟩, u2, hu, (z_I.same (z_I.nil _) h1).symm ▸ hI2⟩
      · obtain rfl := List.mem_singleton.mp g2
        refine ⟨"java/lang/IllegalStateException", [(0, 16, 19, 19), (0, 16, 22, 78)], [], (0, 16, 25, 69), rfl, (fun z hz => by simp only [List.mem_cons, List.not_mem_nil, or_false] at hz; rcases hz with rfl | rfl <;> first | exact Or.inr ⟨by decide, _, lx_Lw_19, by decide⟩ | exact Or.inr ⟨by decide, _, lx_Lw_78, by decide⟩), by decide, by decide, lx_Lw_69, ce_69, fun qx => ?_⟩
        refine y_base (cs := []) (z_I.nil wB4) ?_
        refine y_astore_n (lv' := [(3, .ref qx), (0, .ref (ad 0)), (1, .int x), (2, .ref (ad 69))]) d_Lw_weld_25 rfl (by decide) rfl ?_
        refine y_iconst d_Lw_weld_26 (v := 3) (by decide) ?_
        refine y_iret d_Lw_weld_27 rfl rfl ?_
        exact fun w1 h1 => ⟨⟨_, rfl⟩, u2, hu, (z_I.same (z_I.nil _) h1).symm ▸ hI2⟩
  · obtain ⟨h1, u2, hu, hI2⟩ := hx
    obtain ⟨v9, rfl⟩ := zriV h1
    refine yw_st (st2 := [.int v9, .int 0, .ref (ad 69)]) rfl ?_
    obtain ⟨s9, hI⟩ := hI2
    obtain ⟨e_o1, wf_o1, k_o1⟩ := hI.1.2 69 (by decide)
    obtain rfl := kd_69.mp k_o1
    refine y_base (cs := [((ad 69), .inl (3, 1, .inr (.inl (((mg (tK_Ip_weld x t u.1) s9).1 69).2.1))))]) (hI.1.I [69] _ rfl (by decide) (by decide) (List.forall_mem_cons.mpr ⟨wf_o1, (fun _ h => nomatch h)⟩)) ?_
    refine y_if_eq (tgt := 14) d_Lw_weld_7 (by decide) (fun c_7 => ?_) (fun c_7 => ?_)
    · refine y_lconst d_Lw_weld_14 (v := 0) (by decide) ?_
      refine y_last d_Lw_weld_15 (q0 := 0) rfl (fun q => q.elim (by decide) (by decide)) (f' := vp_updL (((mg (tK_Ip_weld x t u.1) s9).1 69).2.1) 0 0) rfl (cs' := [((ad 69), .inl (3, 1, .inr (.inl (vp_updL (((mg (tK_Ip_weld x t u.1) s9).1 69).2.1) 0 0))))]) rfl ?_
      refine y_goto (tgt := 28) d_Lw_weld_16 (by decide) ?_
      refine y_iconst d_Lw_weld_28 (v := 0) (by decide) ?_
      refine y_iret d_Lw_weld_29 rfl rfl ?_
      exact fun w1 h1 => ⟨⟨_, rfl⟩, u2, hu, IVm.tz ((hI.gen (t2 := (zup (mg (tK_Ip_weld x t u.1) s9).1 [(69, (((mg (tK_Ip_weld x t u.1) s9).1 69).1, vp_updL (((mg (tK_Ip_weld x t u.1) s9).1 69).2.1) 0 0, ((mg (tK_Ip_weld x t u.1) s9).1 69).2.2))], (mg (tK_Ip_weld x t u.1) s9).2)) (is := [69]) (L2 := []) h1 rfl ⟨kd_69.mpr rfl, trivial⟩ (by decide) (by decide) (fun _ h => nomatch h) (fun _ h => nomatch h) (fun i hi hn => zup_out (fun q => hn ((by decide : ∀ j ∈ ([69] : List Nat), j ∈ ([69] : List Nat)) i q))) (fun h => h) rfl)) (tx_all rfl)⟩
    · refine y_lconst d_Lw_weld_10 (v := 1) (by decide) ?_
      refine y_goto (tgt := 15) d_Lw_weld_11 (by decide) ?_
      refine y_last d_Lw_weld_15 (q0 := 0) rfl (fun q => q.elim (by decide) (by decide)) (f' := vp_updL (((mg (tK_Ip_weld x t u.1) s9).1 69).2.1) 0 1) rfl (cs' := [((ad 69), .inl (3, 1, .inr (.inl (vp_updL (((mg (tK_Ip_weld x t u.1) s9).1 69).2.1) 0 1))))]) rfl ?_
      refine y_goto (tgt := 28) d_Lw_weld_16 (by decide) ?_
      refine y_iconst d_Lw_weld_28 (v := 0) (by decide) ?_
      refine y_iret d_Lw_weld_29 rfl rfl ?_
      exact fun w1 h1 => ⟨⟨_, rfl⟩, u2, hu, IVm.tz ((hI.gen (t2 := (zup (mg (tK_Ip_weld x t u.1) s9).1 [(69, (((mg (tK_Ip_weld x t u.1) s9).1 69).1, vp_updL (((mg (tK_Ip_weld x t u.1) s9).1 69).2.1) 0 1, ((mg (tK_Ip_weld x t u.1) s9).1 69).2.2))], (mg (tK_Ip_weld x t u.1) s9).2)) (is := [69]) (L2 := []) h1 rfl ⟨kd_69.mpr rfl, trivial⟩ (by decide) (by decide) (fun _ h => nomatch h) (fun _ h => nomatch h) (fun i hi hn => zup_out (fun q => hn ((by decide : ∀ j ∈ ([69] : List Nat), j ∈ ([69] : List Nat)) i q))) (fun h => h) rfl)) (tx_all rfl)⟩
abbrev M_Lw_deliver : zM := (⟨"IronpourLaw", "deliver", "(LIronpour;I[J)I"⟩, method_40_code, 4, (Option.some FieldType.int), 8, 143, [((0 : Nat), (16 : Nat), (19 : Nat), (19 : Nat)), ((0 : Nat), (16 : Nat), (22 : Nat), (69 : Nat))])
theorem d_Lw_deliver_0 : decode method_40_code 0 = .ok (.aload_n 2, 1) := zo_44 (zd_b zq_method_40_code_0 0 rfl rfl rfl)
theorem d_Lw_deliver_1 : decode method_40_code 1 = .ok (.iconst 0, 1) := zo_3 (zd_b zq_method_40_code_0 1 rfl rfl rfl)
theorem d_Lw_deliver_2 : decode method_40_code 2 = .ok (.aload_n 0, 1) := zo_42 (zd_b zq_method_40_code_0 2 rfl rfl rfl)
theorem d_Lw_deliver_3 : decode method_40_code 3 = .ok (.iload_n 1, 1) := zo_27 (zd_b zq_method_40_code_0 3 rfl rfl rfl)
theorem d_Lw_deliver_4 : decode method_40_code 4 = .ok (.invokevirtual 145, 3) := zo_182 (d := 0) (e := 145) (zd_b zq_method_40_code_0 4 rfl rfl rfl) (zd_b zq_method_40_code_0 5 rfl rfl rfl) (zd_b zq_method_40_code_0 6 rfl rfl rfl)
theorem ok_Lw_deliver_Ip_deliver : z_okH M_Lw_deliver M_Ip_deliver 1 := ⟨z_mj7 (i := 17) rfl (by decide +kernel), rfl, ⟨by decide +kernel, by decide +kernel, by decide +kernel⟩, ⟨by decide, by decide⟩, z_mj1 (i := 1) rfl (by decide +kernel)⟩
theorem ln_Lw_145 : Cond.methodLink "IronpourLaw" 145 M_Ip_deliver.1 ∈ z_gw := z_mj7 (i := 14) rfl (by decide +kernel)
theorem w_im_Ip_deliver : Cond.instanceMethod M_Ip_deliver.1 ∈ z_gw := z_mj7 (i := 15) rfl (by decide +kernel)
theorem w_se_Ip_deliver : Cond.selects M_Ip_deliver.1.cls M_Ip_deliver.1 M_Ip_deliver.1 ∈ z_gw := z_mj7 (i := 16) rfl (by decide +kernel)
theorem d_Lw_deliver_19 : decode method_40_code 19 = .ok (.astore_n 3, 1) := zo_78 (zd_b zq_method_40_code_0 19 rfl rfl rfl)
theorem d_Lw_deliver_20 : decode method_40_code 20 = .ok (.iconst 1, 1) := zo_4 (zd_b zq_method_40_code_0 20 rfl rfl rfl)
theorem d_Lw_deliver_21 : decode method_40_code 21 = .ok (.ireturn, 1) := zo_172 (zd_b zq_method_40_code_0 21 rfl rfl rfl)
theorem d_Lw_deliver_22 : decode method_40_code 22 = .ok (.astore_n 3, 1) := zo_78 (zd_b zq_method_40_code_0 22 rfl rfl rfl)
theorem d_Lw_deliver_23 : decode method_40_code 23 = .ok (.iconst 2, 1) := zo_5 (zd_b zq_method_40_code_0 23 rfl rfl rfl)
theorem d_Lw_deliver_24 : decode method_40_code 24 = .ok (.ireturn, 1) := zo_172 (zd_b zq_method_40_code_0 24 rfl rfl rfl)
theorem d_Lw_deliver_7 : decode method_40_code 7 = .ok (.ifCond .eq 7, 3) := zo_153 (d := 0) (e := 7) (zd_b zq_method_40_code_0 7 rfl rfl rfl) (zd_b zq_method_40_code_0 8 rfl rfl rfl) (zd_b zq_method_40_code_0 9 rfl rfl rfl) (by decide +kernel)
theorem d_Lw_deliver_14 : decode method_40_code 14 = .ok (.lconst 0, 1) := zo_9 (zd_b zq_method_40_code_0 14 rfl rfl rfl)
theorem d_Lw_deliver_15 : decode method_40_code 15 = .ok (.lastore, 1) := zo_80 (zd_b zq_method_40_code_0 15 rfl rfl rfl)
theorem d_Lw_deliver_16 : decode method_40_code 16 = .ok (.goto 9, 3) := zo_167 (d := 0) (e := 9) (zd_b zq_method_40_code_0 16 rfl rfl rfl) (zd_b zq_method_40_code_0 17 rfl rfl rfl) (zd_b zq_method_40_code_0 18 rfl rfl rfl) (by decide +kernel)
theorem d_Lw_deliver_25 : decode method_40_code 25 = .ok (.iconst 0, 1) := zo_3 (zd_b zq_method_40_code_0 25 rfl rfl rfl)
theorem d_Lw_deliver_26 : decode method_40_code 26 = .ok (.ireturn, 1) := zo_172 (zd_b zq_method_40_code_0 26 rfl rfl rfl)
theorem d_Lw_deliver_10 : decode method_40_code 10 = .ok (.lconst 1, 1) := zo_10 (zd_b zq_method_40_code_0 10 rfl rfl rfl)
theorem d_Lw_deliver_11 : decode method_40_code 11 = .ok (.goto 4, 3) := zo_167 (d := 0) (e := 4) (zd_b zq_method_40_code_0 11 rfl rfl rfl) (zd_b zq_method_40_code_0 12 rfl rfl rfl) (zd_b zq_method_40_code_0 13 rfl rfl rfl) (by decide +kernel)
set_option maxHeartbeats 4000000 in
set_option maxRecDepth 100000 in
theorem W_deliver {g : zG} {ad : Nat → Nat} {t : zTT} {u : zNN} {w : zW} (hI : IVm g ad t u w) (x : Int32) : zMB g M_Lw_deliver [.ref (ad 0), .int x, .ref (ad 69)] w (fun o w1 => MKx g ad (tK_Ip_deliver x t u.1) u.1 o w1) 10 300 := by
  obtain ⟨s, hI⟩ := hI
  obtain ⟨e_a, wf_a, k_a⟩ := hI.1.2 0 (by decide)
  obtain rfl := kd_0.mp k_a
  obtain ⟨e_o1, wf_o1, k_o1⟩ := hI.1.2 69 (by decide)
  obtain rfl := kd_69.mp k_o1
  refine y_ofH (by decide) (by decide) (Nat.le_of_ble_eq_true rfl) (y_base (cs := [((ad 0), .inr (11, [.ref (ad 1), .ref (ad 5), .ref (ad 18), .ref (ad 31), .ref (ad 32), .ref (ad 36), .ref (ad 42), .ref (ad 45), .ref (ad 47), .ref (ad 49), .ref (ad 50), .ref (ad 51)])), ((ad 69), .inl (3, 1, .inr (.inl (((mg t s).1 69).2.1))))]) (hI.1.I [0, 69] _ rfl (by decide) (by decide) (List.forall_mem_cons.mpr ⟨wf_a, (List.forall_mem_cons.mpr ⟨wf_o1, (fun _ h => nomatch h)⟩)⟩)) ?_)
  refine y_lvE (lv2 := [(0, .ref (ad 0)), (1, .int x), (2, .ref (ad 69))]) rfl ?_
  refine y_aload_n d_Lw_deliver_0 rfl 2 rfl ?_
  refine y_iconst d_Lw_deliver_1 (v := 0) (by decide) ?_
  refine y_aload_n d_Lw_deliver_2 rfl 0 rfl ?_
  refine y_iload_n d_Lw_deliver_3 rfl 1 rfl ?_
  refine yw_callVH (As := [.int x]) (rest := [.int 0, .ref (ad 69)]) (q0 := 0) rfl rfl ln_Lw_145 w_im_Ip_deliver w_se_Ip_deliver ok_Lw_deliver_Ip_deliver d_Lw_deliver_4 (fun wA hA => K_Ip_deliver ⟨_, (hI.gen (t2 := (mg t s)) (is := [0, 69]) (L2 := []) hA rfl ⟨kd_0.mpr rfl, kd_69.mpr rfl, trivial⟩ (by decide) (by decide) (fun _ h => nomatch h) (fun _ h => nomatch h) (fun _ _ _ => rfl) (fun h => h) rfl)⟩ x) rfl rfl (Nat.le_of_ble_eq_true rfl) (by omega) (by omega) (fun wA4 hA4 E wB4 hx => ?_) (fun wA4 hA4 v wB4 hx => ?_)
  · obtain ⟨h1, u2, hu, hI2⟩ := hx
    rcases List.mem_cons.mp (zriE h1) with rfl | g2
    · refine ⟨"java/lang/IndexOutOfBoundsException", [], [(0, 16, 22, 69)], (0, 16, 19, 19), rfl, (fun z hz => nomatch hz), by decide, by decide, lx_Lw_19, ce_19, fun qx => ?_⟩
      refine y_base (cs := []) (z_I.nil wB4) ?_
      refine y_astore_n (lv' := [(3, .ref qx), (0, .ref (ad 0)), (1, .int x), (2, .ref (ad 69))]) d_Lw_deliver_19 rfl (by decide) rfl ?_
      refine y_iconst d_Lw_deliver_20 (v := 1) (by decide) ?_
      refine y_iret d_Lw_deliver_21 rfl rfl ?_
      exact fun w1 h1 => ⟨⟨_, rfl⟩, u2, hu, (z_I.same (z_I.nil _) h1).symm ▸ hI2⟩
    · obtain rfl := List.mem_singleton.mp g2
      refine ⟨"java/lang/IllegalStateException", [(0, 16, 19, 19)], [], (0, 16, 22, 69), rfl, (fun z hz => by simp only [List.mem_cons, List.not_mem_nil, or_false] at hz; rcases hz with rfl; exact Or.inr ⟨by decide, _, lx_Lw_19, by decide⟩), by decide, by decide, lx_Lw_69, ce_69, fun qx => ?_⟩
      refine y_base (cs := []) (z_I.nil wB4) ?_
      refine y_astore_n (lv' := [(3, .ref qx), (0, .ref (ad 0)), (1, .int x), (2, .ref (ad 69))]) d_Lw_deliver_22 rfl (by decide) rfl ?_
      refine y_iconst d_Lw_deliver_23 (v := 2) (by decide) ?_
      refine y_iret d_Lw_deliver_24 rfl rfl ?_
      exact fun w1 h1 => ⟨⟨_, rfl⟩, u2, hu, (z_I.same (z_I.nil _) h1).symm ▸ hI2⟩
  · obtain ⟨h1, u2, hu, hI2⟩ := hx
    obtain ⟨v9, rfl⟩ := zriV h1
    refine yw_st (st2 := [.int v9, .int 0, .ref (ad 69)]) rfl ?_
    obtain ⟨s9, hI⟩ := hI2
    obtain ⟨e_o1, wf_o1, k_o1⟩ := hI.1.2 69 (by decide)
    obtain rfl := kd_69.mp k_o1
    refine y_base (cs := [((ad 69), .inl (3, 1, .inr (.inl (((mg (tK_Ip_deliver x t u.1) s9).1 69).2.1))))]) (hI.1.I [69] _ rfl (by decide) (by decide) (List.forall_mem_cons.mpr ⟨wf_o1, (fun _ h => nomatch h)⟩)) ?_
    refine y_if_eq (tgt := 14) d_Lw_deliver_7 (by decide) (fun c_7 => ?_) (fun c_7 => ?_)
    · refine y_lconst d_Lw_deliver_14 (v := 0) (by decide) ?_
      refine y_last d_Lw_deliver_15 (q0 := 0) rfl (fun q => q.elim (by decide) (by decide)) (f' := vp_updL (((mg (tK_Ip_deliver x t u.1) s9).1 69).2.1) 0 0) rfl (cs' := [((ad 69), .inl (3, 1, .inr (.inl (vp_updL (((mg (tK_Ip_deliver x t u.1) s9).1 69).2.1) 0 0))))]) rfl ?_
      refine y_goto (tgt := 25) d_Lw_deliver_16 (by decide) ?_
      refine y_iconst d_Lw_deliver_25 (v := 0) (by decide) ?_
      refine y_iret d_Lw_deliver_26 rfl rfl ?_
      exact fun w1 h1 => ⟨⟨_, rfl⟩, u2, hu, IVm.tz ((hI.gen (t2 := (zup (mg (tK_Ip_deliver x t u.1) s9).1 [(69, (((mg (tK_Ip_deliver x t u.1) s9).1 69).1, vp_updL (((mg (tK_Ip_deliver x t u.1) s9).1 69).2.1) 0 0, ((mg (tK_Ip_deliver x t u.1) s9).1 69).2.2))], (mg (tK_Ip_deliver x t u.1) s9).2)) (is := [69]) (L2 := []) h1 rfl ⟨kd_69.mpr rfl, trivial⟩ (by decide) (by decide) (fun _ h => nomatch h) (fun _ h => nomatch h) (fun i hi hn => zup_out (fun q => hn ((by decide : ∀ j ∈ ([69] : List Nat), j ∈ ([69] : List Nat)) i q))) (fun h => h) rfl)) (tx_all rfl)⟩
    · refine y_lconst d_Lw_deliver_10 (v := 1) (by decide) ?_
      refine y_goto (tgt := 15) d_Lw_deliver_11 (by decide) ?_
      refine y_last d_Lw_deliver_15 (q0 := 0) rfl (fun q => q.elim (by decide) (by decide)) (f' := vp_updL (((mg (tK_Ip_deliver x t u.1) s9).1 69).2.1) 0 1) rfl (cs' := [((ad 69), .inl (3, 1, .inr (.inl (vp_updL (((mg (tK_Ip_deliver x t u.1) s9).1 69).2.1) 0 1))))]) rfl ?_
      refine y_goto (tgt := 25) d_Lw_deliver_16 (by decide) ?_
      refine y_iconst d_Lw_deliver_25 (v := 0) (by decide) ?_
      refine y_iret d_Lw_deliver_26 rfl rfl ?_
      exact fun w1 h1 => ⟨⟨_, rfl⟩, u2, hu, IVm.tz ((hI.gen (t2 := (zup (mg (tK_Ip_deliver x t u.1) s9).1 [(69, (((mg (tK_Ip_deliver x t u.1) s9).1 69).1, vp_updL (((mg (tK_Ip_deliver x t u.1) s9).1 69).2.1) 0 1, ((mg (tK_Ip_deliver x t u.1) s9).1 69).2.2))], (mg (tK_Ip_deliver x t u.1) s9).2)) (is := [69]) (L2 := []) h1 rfl ⟨kd_69.mpr rfl, trivial⟩ (by decide) (by decide) (fun _ h => nomatch h) (fun _ h => nomatch h) (fun i hi hn => zup_out (fun q => hn ((by decide : ∀ j ∈ ([69] : List Nat), j ∈ ([69] : List Nat)) i q))) (fun h => h) rfl)) (tx_all rfl)⟩
abbrev M_Lw_breakUp : zM := (⟨"IronpourLaw", "breakUp", "(LIronpour;I[J)I"⟩, method_41_code, 4, (Option.some FieldType.int), 8, 144, [((0 : Nat), (9 : Nat), (12 : Nat), (19 : Nat)), ((0 : Nat), (9 : Nat), (15 : Nat), (69 : Nat))])
theorem d_Lw_breakUp_0 : decode method_41_code 0 = .ok (.aload_n 2, 1) := zo_44 (zd_b zq_method_41_code_0 0 rfl rfl rfl)
theorem d_Lw_breakUp_1 : decode method_41_code 1 = .ok (.iconst 0, 1) := zo_3 (zd_b zq_method_41_code_0 1 rfl rfl rfl)
theorem d_Lw_breakUp_2 : decode method_41_code 2 = .ok (.aload_n 0, 1) := zo_42 (zd_b zq_method_41_code_0 2 rfl rfl rfl)
theorem d_Lw_breakUp_3 : decode method_41_code 3 = .ok (.iload_n 1, 1) := zo_27 (zd_b zq_method_41_code_0 3 rfl rfl rfl)
theorem d_Lw_breakUp_4 : decode method_41_code 4 = .ok (.invokevirtual 148, 3) := zo_182 (d := 0) (e := 148) (zd_b zq_method_41_code_0 4 rfl rfl rfl) (zd_b zq_method_41_code_0 5 rfl rfl rfl) (zd_b zq_method_41_code_0 6 rfl rfl rfl)
theorem ok_Lw_breakUp_Ip_breakUp : z_okH M_Lw_breakUp M_Ip_breakUp 1 := ⟨z_mj7 (i := 24) rfl (by decide +kernel), rfl, ⟨by decide +kernel, by decide +kernel, by decide +kernel⟩, ⟨by decide, by decide⟩, z_mj1 (i := 1) rfl (by decide +kernel)⟩
theorem ln_Lw_148 : Cond.methodLink "IronpourLaw" 148 M_Ip_breakUp.1 ∈ z_gw := z_mj7 (i := 21) rfl (by decide +kernel)
theorem w_im_Ip_breakUp : Cond.instanceMethod M_Ip_breakUp.1 ∈ z_gw := z_mj7 (i := 22) rfl (by decide +kernel)
theorem w_se_Ip_breakUp : Cond.selects M_Ip_breakUp.1.cls M_Ip_breakUp.1 M_Ip_breakUp.1 ∈ z_gw := z_mj7 (i := 23) rfl (by decide +kernel)
theorem d_Lw_breakUp_12 : decode method_41_code 12 = .ok (.astore_n 3, 1) := zo_78 (zd_b zq_method_41_code_0 12 rfl rfl rfl)
theorem d_Lw_breakUp_13 : decode method_41_code 13 = .ok (.iconst 1, 1) := zo_4 (zd_b zq_method_41_code_0 13 rfl rfl rfl)
theorem d_Lw_breakUp_14 : decode method_41_code 14 = .ok (.ireturn, 1) := zo_172 (zd_b zq_method_41_code_0 14 rfl rfl rfl)
theorem d_Lw_breakUp_15 : decode method_41_code 15 = .ok (.astore_n 3, 1) := zo_78 (zd_b zq_method_41_code_0 15 rfl rfl rfl)
theorem d_Lw_breakUp_16 : decode method_41_code 16 = .ok (.iconst 2, 1) := zo_5 (zd_b zq_method_41_code_0 16 rfl rfl rfl)
theorem d_Lw_breakUp_17 : decode method_41_code 17 = .ok (.ireturn, 1) := zo_172 (zd_b zq_method_41_code_0 17 rfl rfl rfl)
theorem d_Lw_breakUp_7 : decode method_41_code 7 = .ok (.i2l, 1) := zo_133 (zd_b zq_method_41_code_0 7 rfl rfl rfl)
theorem d_Lw_breakUp_8 : decode method_41_code 8 = .ok (.lastore, 1) := zo_80 (zd_b zq_method_41_code_0 8 rfl rfl rfl)
theorem d_Lw_breakUp_9 : decode method_41_code 9 = .ok (.goto 9, 3) := zo_167 (d := 0) (e := 9) (zd_b zq_method_41_code_0 9 rfl rfl rfl) (zd_b zq_method_41_code_0 10 rfl rfl rfl) (zd_b zq_method_41_code_0 11 rfl rfl rfl) (by decide +kernel)
theorem d_Lw_breakUp_18 : decode method_41_code 18 = .ok (.iconst 0, 1) := zo_3 (zd_b zq_method_41_code_0 18 rfl rfl rfl)
theorem d_Lw_breakUp_19 : decode method_41_code 19 = .ok (.ireturn, 1) := zo_172 (zd_b zq_method_41_code_0 19 rfl rfl rfl)
