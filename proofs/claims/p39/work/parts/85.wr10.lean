theorem d_Lw_faults_13 : decode method_35_code 13 = .ok (.iconst 1, 1) := zo_4 (zd_b zq_method_35_code_0 13 rfl rfl rfl)
theorem d_Lw_faults_14 : decode method_35_code 14 = .ok (.ireturn, 1) := zo_172 (zd_b zq_method_35_code_0 14 rfl rfl rfl)
theorem d_Lw_faults_7 : decode method_35_code 7 = .ok (.i2l, 1) := zo_133 (zd_b zq_method_35_code_0 7 rfl rfl rfl)
theorem d_Lw_faults_8 : decode method_35_code 8 = .ok (.lastore, 1) := zo_80 (zd_b zq_method_35_code_0 8 rfl rfl rfl)
theorem d_Lw_faults_9 : decode method_35_code 9 = .ok (.goto 6, 3) := zo_167 (d := 0) (e := 6) (zd_b zq_method_35_code_0 9 rfl rfl rfl) (zd_b zq_method_35_code_0 10 rfl rfl rfl) (zd_b zq_method_35_code_0 11 rfl rfl rfl) (by decide +kernel)
theorem d_Lw_faults_15 : decode method_35_code 15 = .ok (.iconst 0, 1) := zo_3 (zd_b zq_method_35_code_0 15 rfl rfl rfl)
theorem d_Lw_faults_16 : decode method_35_code 16 = .ok (.ireturn, 1) := zo_172 (zd_b zq_method_35_code_0 16 rfl rfl rfl)
set_option maxHeartbeats 4000000 in
set_option maxRecDepth 100000 in
theorem W_faults {g : zG} {ad : Nat → Nat} {t : zTT} {u : zNN} {w : zW} (hI : IVm g ad t u w) (x : Int32) : zMB g M_Lw_faults [.ref (ad 0), .int x, .ref (ad 69)] w (fun o w1 => MKx g ad t u.1 o w1) 10 300 := by
  obtain ⟨s, hI⟩ := hI
  obtain ⟨e_a, wf_a, k_a⟩ := hI.1.2 0 (by decide)
  obtain rfl := kd_0.mp k_a
  obtain ⟨e_o1, wf_o1, k_o1⟩ := hI.1.2 69 (by decide)
  obtain rfl := kd_69.mp k_o1
  refine y_ofH (by decide) (by decide) (Nat.le_of_ble_eq_true rfl) (y_base (cs := [((ad 0), .inr (11, [.ref (ad 1), .ref (ad 5), .ref (ad 18), .ref (ad 31), .ref (ad 32), .ref (ad 36), .ref (ad 42), .ref (ad 45), .ref (ad 47), .ref (ad 49), .ref (ad 50), .ref (ad 51)])), ((ad 69), .inl (3, 1, .inr (.inl (((mg t s).1 69).2.1))))]) (hI.1.I [0, 69] _ rfl (by decide) (by decide) (List.forall_mem_cons.mpr ⟨wf_a, (List.forall_mem_cons.mpr ⟨wf_o1, (fun _ h => nomatch h)⟩)⟩)) ?_)
  refine y_lvE (lv2 := [(0, .ref (ad 0)), (1, .int x), (2, .ref (ad 69))]) rfl ?_
  refine y_aload_n d_Lw_faults_0 rfl 2 rfl ?_
  refine y_iconst d_Lw_faults_1 (v := 0) (by decide) ?_
  refine y_aload_n d_Lw_faults_2 rfl 0 rfl ?_
  refine y_iload_n d_Lw_faults_3 rfl 1 rfl ?_
  refine yw_callVH (As := [.int x]) (rest := [.int 0, .ref (ad 69)]) (q0 := 0) rfl rfl ln_Lw_128 w_im_Ip_faults w_se_Ip_faults ok_Lw_faults_Ip_faults d_Lw_faults_4 (fun wA hA => K_Ip_faults ⟨_, (hI.gen (t2 := (mg t s)) (is := [0, 69]) (L2 := []) hA rfl ⟨kd_0.mpr rfl, kd_69.mpr rfl, trivial⟩ (by decide) (by decide) (fun _ h => nomatch h) (fun _ h => nomatch h) (fun _ _ _ => rfl) (fun h => h) rfl)⟩ x) rfl rfl (Nat.le_of_ble_eq_true rfl) (by omega) (by omega) (fun wA4 hA4 E wB4 hx => ?_) (fun wA4 hA4 v wB4 hx => ?_)
  · obtain ⟨h1, u2, hu, hI2⟩ := hx
    obtain rfl := List.mem_singleton.mp (zriE h1)
    refine ⟨"java/lang/IndexOutOfBoundsException", [], [], (0, 9, 12, 19), rfl, (fun z hz => nomatch hz), by decide, by decide, lx_Lw_19, ce_19, fun qx => ?_⟩
    refine y_base (cs := []) (z_I.nil wB4) ?_
    refine y_astore_n (lv' := [(3, .ref qx), (0, .ref (ad 0)), (1, .int x), (2, .ref (ad 69))]) d_Lw_faults_12 rfl (by decide) rfl ?_
    refine y_iconst d_Lw_faults_13 (v := 1) (by decide) ?_
    refine y_iret d_Lw_faults_14 rfl rfl ?_
    exact fun w1 h1 => ⟨⟨_, rfl⟩, u2, hu, (z_I.same (z_I.nil _) h1).symm ▸ hI2⟩
  · obtain ⟨h1, u2, hu, hI2⟩ := hx
    obtain ⟨v9, rfl⟩ := zriV h1
    refine yw_st (st2 := [.int v9, .int 0, .ref (ad 69)]) rfl ?_
    obtain ⟨s9, hI⟩ := hI2
    obtain ⟨e_o1, wf_o1, k_o1⟩ := hI.1.2 69 (by decide)
    obtain rfl := kd_69.mp k_o1
    refine y_base (cs := [((ad 69), .inl (3, 1, .inr (.inl (((mg t s9).1 69).2.1))))]) (hI.1.I [69] _ rfl (by decide) (by decide) (List.forall_mem_cons.mpr ⟨wf_o1, (fun _ h => nomatch h)⟩)) ?_
    refine y_i2l d_Lw_faults_7 (v := v9.toInt64) rfl ?_
    refine y_last d_Lw_faults_8 (q0 := 0) rfl (fun q => q.elim (by decide) (by decide)) (f' := vp_updL (((mg t s9).1 69).2.1) 0 v9.toInt64) rfl (cs' := [((ad 69), .inl (3, 1, .inr (.inl (vp_updL (((mg t s9).1 69).2.1) 0 v9.toInt64))))]) rfl ?_
    refine y_goto (tgt := 15) d_Lw_faults_9 (by decide) ?_
    refine y_iconst d_Lw_faults_15 (v := 0) (by decide) ?_
    refine y_iret d_Lw_faults_16 rfl rfl ?_
    exact fun w1 h1 => ⟨⟨_, rfl⟩, u2, hu, IVm.tz ((hI.gen (t2 := (zup (mg t s9).1 [(69, (((mg t s9).1 69).1, vp_updL (((mg t s9).1 69).2.1) 0 v9.toInt64, ((mg t s9).1 69).2.2))], (mg t s9).2)) (is := [69]) (L2 := []) h1 rfl ⟨kd_69.mpr rfl, trivial⟩ (by decide) (by decide) (fun _ h => nomatch h) (fun _ h => nomatch h) (fun i hi hn => zup_out (fun q => hn ((by decide : ∀ j ∈ ([69] : List Nat), j ∈ ([69] : List Nat)) i q))) (fun h => h) rfl)) (tx_all rfl)⟩
abbrev M_Lw_shrunkIn : zM := (⟨"IronpourLaw", "shrunkIn", "(LIronpour;I[J)I"⟩, method_36_code, 4, (Option.some FieldType.int), 8, 142, [((0 : Nat), (9 : Nat), (12 : Nat), (19 : Nat))])
theorem d_Lw_shrunkIn_0 : decode method_36_code 0 = .ok (.aload_n 2, 1) := zo_44 (zd_b zq_method_36_code_0 0 rfl rfl rfl)
theorem d_Lw_shrunkIn_1 : decode method_36_code 1 = .ok (.iconst 0, 1) := zo_3 (zd_b zq_method_36_code_0 1 rfl rfl rfl)
theorem d_Lw_shrunkIn_2 : decode method_36_code 2 = .ok (.aload_n 0, 1) := zo_42 (zd_b zq_method_36_code_0 2 rfl rfl rfl)
theorem d_Lw_shrunkIn_3 : decode method_36_code 3 = .ok (.iload_n 1, 1) := zo_27 (zd_b zq_method_36_code_0 3 rfl rfl rfl)
theorem d_Lw_shrunkIn_4 : decode method_36_code 4 = .ok (.invokevirtual 131, 3) := zo_182 (d := 0) (e := 131) (zd_b zq_method_36_code_0 4 rfl rfl rfl) (zd_b zq_method_36_code_0 5 rfl rfl rfl) (zd_b zq_method_36_code_0 6 rfl rfl rfl)
theorem ok_Lw_shrunkIn_Ip_shrunkIn : z_okH M_Lw_shrunkIn M_Ip_shrunkIn 1 := ⟨z_mj6 (i := 209) rfl (by decide +kernel), rfl, ⟨by decide +kernel, by decide +kernel, by decide +kernel⟩, ⟨by decide, by decide⟩, z_mj1 (i := 1) rfl (by decide +kernel)⟩
theorem ln_Lw_131 : Cond.methodLink "IronpourLaw" 131 M_Ip_shrunkIn.1 ∈ z_gw := z_mj6 (i := 206) rfl (by decide +kernel)
theorem w_im_Ip_shrunkIn : Cond.instanceMethod M_Ip_shrunkIn.1 ∈ z_gw := z_mj6 (i := 207) rfl (by decide +kernel)
theorem w_se_Ip_shrunkIn : Cond.selects M_Ip_shrunkIn.1.cls M_Ip_shrunkIn.1 M_Ip_shrunkIn.1 ∈ z_gw := z_mj6 (i := 208) rfl (by decide +kernel)
theorem d_Lw_shrunkIn_12 : decode method_36_code 12 = .ok (.astore_n 3, 1) := zo_78 (zd_b zq_method_36_code_0 12 rfl rfl rfl)
theorem d_Lw_shrunkIn_13 : decode method_36_code 13 = .ok (.iconst 1, 1) := zo_4 (zd_b zq_method_36_code_0 13 rfl rfl rfl)
theorem d_Lw_shrunkIn_14 : decode method_36_code 14 = .ok (.ireturn, 1) := zo_172 (zd_b zq_method_36_code_0 14 rfl rfl rfl)
theorem d_Lw_shrunkIn_7 : decode method_36_code 7 = .ok (.i2l, 1) := zo_133 (zd_b zq_method_36_code_0 7 rfl rfl rfl)
theorem d_Lw_shrunkIn_8 : decode method_36_code 8 = .ok (.lastore, 1) := zo_80 (zd_b zq_method_36_code_0 8 rfl rfl rfl)
theorem d_Lw_shrunkIn_9 : decode method_36_code 9 = .ok (.goto 6, 3) := zo_167 (d := 0) (e := 6) (zd_b zq_method_36_code_0 9 rfl rfl rfl) (zd_b zq_method_36_code_0 10 rfl rfl rfl) (zd_b zq_method_36_code_0 11 rfl rfl rfl) (by decide +kernel)
theorem d_Lw_shrunkIn_15 : decode method_36_code 15 = .ok (.iconst 0, 1) := zo_3 (zd_b zq_method_36_code_0 15 rfl rfl rfl)
theorem d_Lw_shrunkIn_16 : decode method_36_code 16 = .ok (.ireturn, 1) := zo_172 (zd_b zq_method_36_code_0 16 rfl rfl rfl)
set_option maxHeartbeats 4000000 in
set_option maxRecDepth 100000 in
theorem W_shrunkIn {g : zG} {ad : Nat → Nat} {t : zTT} {u : zNN} {w : zW} (hI : IVm g ad t u w) (x : Int32) : zMB g M_Lw_shrunkIn [.ref (ad 0), .int x, .ref (ad 69)] w (fun o w1 => MKx g ad t u.1 o w1) 10 300 := by
  obtain ⟨s, hI⟩ := hI
  obtain ⟨e_a, wf_a, k_a⟩ := hI.1.2 0 (by decide)
  obtain rfl := kd_0.mp k_a
  obtain ⟨e_o1, wf_o1, k_o1⟩ := hI.1.2 69 (by decide)
  obtain rfl := kd_69.mp k_o1
  refine y_ofH (by decide) (by decide) (Nat.le_of_ble_eq_true rfl) (y_base (cs := [((ad 0), .inr (11, [.ref (ad 1), .ref (ad 5), .ref (ad 18), .ref (ad 31), .ref (ad 32), .ref (ad 36), .ref (ad 42), .ref (ad 45), .ref (ad 47), .ref (ad 49), .ref (ad 50), .ref (ad 51)])), ((ad 69), .inl (3, 1, .inr (.inl (((mg t s).1 69).2.1))))]) (hI.1.I [0, 69] _ rfl (by decide) (by decide) (List.forall_mem_cons.mpr ⟨wf_a, (List.forall_mem_cons.mpr ⟨wf_o1, (fun _ h => nomatch h)⟩)⟩)) ?_)
  refine y_lvE (lv2 := [(0, .ref (ad 0)), (1, .int x), (2, .ref (ad 69))]) rfl ?_
  refine y_aload_n d_Lw_shrunkIn_0 rfl 2 rfl ?_
  refine y_iconst d_Lw_shrunkIn_1 (v := 0) (by decide) ?_
  refine y_aload_n d_Lw_shrunkIn_2 rfl 0 rfl ?_
  refine y_iload_n d_Lw_shrunkIn_3 rfl 1 rfl ?_
  refine yw_callVH (As := [.int x]) (rest := [.int 0, .ref (ad 69)]) (q0 := 0) rfl rfl ln_Lw_131 w_im_Ip_shrunkIn w_se_Ip_shrunkIn ok_Lw_shrunkIn_Ip_shrunkIn d_Lw_shrunkIn_4 (fun wA hA => K_Ip_shrunkIn ⟨_, (hI.gen (t2 := (mg t s)) (is := [0, 69]) (L2 := []) hA rfl ⟨kd_0.mpr rfl, kd_69.mpr rfl, trivial⟩ (by decide) (by decide) (fun _ h => nomatch h) (fun _ h => nomatch h) (fun _ _ _ => rfl) (fun h => h) rfl)⟩ x) rfl rfl (Nat.le_of_ble_eq_true rfl) (by omega) (by omega) (fun wA4 hA4 E wB4 hx => ?_) (fun wA4 hA4 v wB4 hx => ?_)
  · obtain ⟨h1, u2, hu, hI2⟩ := hx
    obtain rfl := List.mem_singleton.mp (zriE h1)
    refine ⟨"java/lang/IndexOutOfBoundsException", [], [], (0, 9, 12, 19), rfl, (fun z hz => nomatch hz), by decide, by decide, lx_Lw_19, ce_19, fun qx => ?_⟩
    refine y_base (cs := []) (z_I.nil wB4) ?_
    refine y_astore_n (lv' := [(3, .ref qx), (0, .ref (ad 0)), (1, .int x), (2, .ref (ad 69))]) d_Lw_shrunkIn_12 rfl (by decide) rfl ?_
    refine y_iconst d_Lw_shrunkIn_13 (v := 1) (by decide) ?_
    refine y_iret d_Lw_shrunkIn_14 rfl rfl ?_
    exact fun w1 h1 => ⟨⟨_, rfl⟩, u2, hu, (z_I.same (z_I.nil _) h1).symm ▸ hI2⟩
  · obtain ⟨h1, u2, hu, hI2⟩ := hx
    obtain ⟨v9, rfl⟩ := zriV h1
    refine yw_st (st2 := [.int v9, .int 0, .ref (ad 69)]) rfl ?_
    obtain ⟨s9, hI⟩ := hI2
    obtain ⟨e_o1, wf_o1, k_o1⟩ := hI.1.2 69 (by decide)
    obtain rfl := kd_69.mp k_o1
    refine y_base (cs := [((ad 69), .inl (3, 1, .inr (.inl (((mg t s9).1 69).2.1))))]) (hI.1.I [69] _ rfl (by decide) (by decide) (List.forall_mem_cons.mpr ⟨wf_o1, (fun _ h => nomatch h)⟩)) ?_
    refine y_i2l d_Lw_shrunkIn_7 (v := v9.toInt64) rfl ?_
    refine y_last d_Lw_shrunkIn_8 (q0 := 0) rfl (fun q => q.elim (by decide) (by decide)) (f' := vp_updL (((mg t s9).1 69).2.1) 0 v9.toInt64) rfl (cs' := [((ad 69), .inl (3, 1, .inr (.inl (vp_updL (((mg t s9).1 69).2.1) 0 v9.toInt64))))]) rfl ?_
    refine y_goto (tgt := 15) d_Lw_shrunkIn_9 (by decide) ?_
    refine y_iconst d_Lw_shrunkIn_15 (v := 0) (by decide) ?_
    refine y_iret d_Lw_shrunkIn_16 rfl rfl ?_
    exact fun w1 h1 => ⟨⟨_, rfl⟩, u2, hu, IVm.tz ((hI.gen (t2 := (zup (mg t s9).1 [(69, (((mg t s9).1 69).1, vp_updL (((mg t s9).1 69).2.1) 0 v9.toInt64, ((mg t s9).1 69).2.2))], (mg t s9).2)) (is := [69]) (L2 := []) h1 rfl ⟨kd_69.mpr rfl, trivial⟩ (by decide) (by decide) (fun _ h => nomatch h) (fun _ h => nomatch h) (fun i hi hn => zup_out (fun q => hn ((by decide : ∀ j ∈ ([69] : List Nat), j ∈ ([69] : List Nat)) i q))) (fun h => h) rfl)) (tx_all rfl)⟩
abbrev M_Lw_has : zM := (⟨"IronpourLaw", "has", "(LIronpour;IC[J)I"⟩, method_37_code, 5, (Option.some FieldType.int), 10, 223, [((0 : Nat), (10 : Nat), (13 : Nat), (19 : Nat)), ((0 : Nat), (10 : Nat), (17 : Nat), (13 : Nat))])
theorem d_Lw_has_0 : decode method_37_code 0 = .ok (.aload_n 3, 1) := zo_45 (zd_b zq_method_37_code_0 0 rfl rfl rfl)
theorem d_Lw_has_1 : decode method_37_code 1 = .ok (.iconst 0, 1) := zo_3 (zd_b zq_method_37_code_0 1 rfl rfl rfl)
theorem d_Lw_has_2 : decode method_37_code 2 = .ok (.aload_n 0, 1) := zo_42 (zd_b zq_method_37_code_0 2 rfl rfl rfl)
theorem d_Lw_has_3 : decode method_37_code 3 = .ok (.iload_n 1, 1) := zo_27 (zd_b zq_method_37_code_0 3 rfl rfl rfl)
theorem d_Lw_has_4 : decode method_37_code 4 = .ok (.iload_n 2, 1) := zo_28 (zd_b zq_method_37_code_0 4 rfl rfl rfl)
theorem d_Lw_has_5 : decode method_37_code 5 = .ok (.invokevirtual 134, 3) := zo_182 (d := 0) (e := 134) (zd_b zq_method_37_code_0 5 rfl rfl rfl) (zd_b zq_method_37_code_0 6 rfl rfl rfl) (zd_b zq_method_37_code_0 7 rfl rfl rfl)
theorem ok_Lw_has_Ip_has : z_okH M_Lw_has M_Ip_has 2 := ⟨z_mj6 (i := 216) rfl (by decide +kernel), rfl, ⟨by decide +kernel, by decide +kernel, by decide +kernel⟩, ⟨by decide, by decide⟩, z_mj1 (i := 1) rfl (by decide +kernel)⟩
theorem ln_Lw_134 : Cond.methodLink "IronpourLaw" 134 M_Ip_has.1 ∈ z_gw := z_mj6 (i := 213) rfl (by decide +kernel)
theorem w_im_Ip_has : Cond.instanceMethod M_Ip_has.1 ∈ z_gw := z_mj6 (i := 214) rfl (by decide +kernel)
theorem w_se_Ip_has : Cond.selects M_Ip_has.1.cls M_Ip_has.1 M_Ip_has.1 ∈ z_gw := z_mj6 (i := 215) rfl (by decide +kernel)
theorem d_Lw_has_13 : decode method_37_code 13 = .ok (.astore 4, 2) := zo_58 (d := 4) (zd_b zq_method_37_code_0 13 rfl rfl rfl) (zd_b zq_method_37_code_0 14 rfl rfl rfl)
theorem d_Lw_has_15 : decode method_37_code 15 = .ok (.iconst 1, 1) := zo_4 (zd_b zq_method_37_code_0 15 rfl rfl rfl)
theorem d_Lw_has_16 : decode method_37_code 16 = .ok (.ireturn, 1) := zo_172 (zd_b zq_method_37_code_0 16 rfl rfl rfl)
theorem d_Lw_has_17 : decode method_37_code 17 = .ok (.astore 4, 2) := zo_58 (d := 4) (zd_b zq_method_37_code_0 17 rfl rfl rfl) (zd_b zq_method_37_code_0 18 rfl rfl rfl)
theorem d_Lw_has_19 : decode method_37_code 19 = .ok (.iconst 2, 1) := zo_5 (zd_b zq_method_37_code_0 19 rfl rfl rfl)
theorem d_Lw_has_20 : decode method_37_code 20 = .ok (.ireturn, 1) := zo_172 (zd_b zq_method_37_code_0 20 rfl rfl rfl)
theorem d_Lw_has_8 : decode method_37_code 8 = .ok (.i2l, 1) := zo_133 (zd_b zq_method_37_code_0 8 rfl rfl rfl)
theorem d_Lw_has_9 : decode method_37_code 9 = .ok (.lastore, 1) := zo_80 (zd_b zq_method_37_code_0 9 rfl rfl rfl)
theorem d_Lw_has_10 : decode method_37_code 10 = .ok (.goto 11, 3) := zo_167 (d := 0) (e := 11) (zd_b zq_method_37_code_0 10 rfl rfl rfl) (zd_b zq_method_37_code_0 11 rfl rfl rfl) (zd_b zq_method_37_code_0 12 rfl rfl rfl) (by decide +kernel)
theorem d_Lw_has_21 : decode method_37_code 21 = .ok (.iconst 0, 1) := zo_3 (zd_b zq_method_37_code_0 21 rfl rfl rfl)
theorem d_Lw_has_22 : decode method_37_code 22 = .ok (.ireturn, 1) := zo_172 (zd_b zq_method_37_code_0 22 rfl rfl rfl)
set_option maxHeartbeats 4000000 in
set_option maxRecDepth 100000 in
theorem W_has {g : zG} {ad : Nat → Nat} {t : zTT} {u : zNN} {w : zW} (hI : IVm g ad t u w) (x c : Int32) : zMB g M_Lw_has [.ref (ad 0), .int x, .int c, .ref (ad 69)] w (fun o w1 => MKx g ad t u.1 o w1) 10 300 := by
  obtain ⟨s, hI⟩ := hI
  obtain ⟨e_a, wf_a, k_a⟩ := hI.1.2 0 (by decide)
  obtain rfl := kd_0.mp k_a
  obtain ⟨e_o1, wf_o1, k_o1⟩ := hI.1.2 69 (by decide)
  obtain rfl := kd_69.mp k_o1
  refine y_ofH (by decide) (by decide) (Nat.le_of_ble_eq_true rfl) (y_base (cs := [((ad 0), .inr (11, [.ref (ad 1), .ref (ad 5), .ref (ad 18), .ref (ad 31), .ref (ad 32), .ref (ad 36), .ref (ad 42), .ref (ad 45), .ref (ad 47), .ref (ad 49), .ref (ad 50), .ref (ad 51)])), ((ad 69), .inl (3, 1, .inr (.inl (((mg t s).1 69).2.1))))]) (hI.1.I [0, 69] _ rfl (by decide) (by decide) (List.forall_mem_cons.mpr ⟨wf_a, (List.forall_mem_cons.mpr ⟨wf_o1, (fun _ h => nomatch h)⟩)⟩)) ?_)
  refine y_lvE (lv2 := [(0, .ref (ad 0)), (1, .int x), (2, .int c), (3, .ref (ad 69))]) rfl ?_
  refine y_aload_n d_Lw_has_0 rfl 3 rfl ?_
  refine y_iconst d_Lw_has_1 (v := 0) (by decide) ?_
  refine y_aload_n d_Lw_has_2 rfl 0 rfl ?_
  refine y_iload_n d_Lw_has_3 rfl 1 rfl ?_
  refine y_iload_n d_Lw_has_4 rfl 2 rfl ?_
  refine yw_callVH (As := [.int x, .int c]) (rest := [.int 0, .ref (ad 69)]) (q0 := 0) rfl rfl ln_Lw_134 w_im_Ip_has w_se_Ip_has ok_Lw_has_Ip_has d_Lw_has_5 (fun wA hA => K_Ip_has ⟨_, (hI.gen (t2 := (mg t s)) (is := [0, 69]) (L2 := []) hA rfl ⟨kd_0.mpr rfl, kd_69.mpr rfl, trivial⟩ (by decide) (by decide) (fun _ h => nomatch h) (fun _ h => nomatch h) (fun _ _ _ => rfl) (fun h => h) rfl)⟩ x c) rfl rfl (Nat.le_of_ble_eq_true rfl) (by omega) (by omega) (fun wA5 hA5 E wB5 hx => ?_) (fun wA5 hA5 v wB5 hx => ?_)
  · obtain ⟨h1, u2, hu, hI2⟩ := hx
    rcases List.mem_cons.mp (zriE h1) with rfl | g2
    · refine ⟨"java/lang/IndexOutOfBoundsException", [], [(0, 10, 17, 13)], (0, 10, 13, 19), rfl, (fun z hz => nomatch hz), by decide, by decide, lx_Lw_19, ce_19, fun qx => ?_⟩
      refine y_base (cs := []) (z_I.nil wB5) ?_
      refine y_astore (lv' := [(4, .ref qx), (0, .ref (ad 0)), (1, .int x), (2, .int c), (3, .ref (ad 69))]) d_Lw_has_13 (by decide) rfl ?_
      refine y_iconst d_Lw_has_15 (v := 1) (by decide) ?_
      refine y_iret d_Lw_has_16 rfl rfl ?_
      exact fun w1 h1 => ⟨⟨_, rfl⟩, u2, hu, (z_I.same (z_I.nil _) h1).symm ▸ hI2⟩
    · obtain rfl := List.mem_singleton.mp g2
      refine ⟨"java/lang/IllegalArgumentException", [(0, 10, 13, 19)], [], (0, 10, 17, 13), rfl, (fun z hz => by simp only [List.mem_cons, List.not_mem_nil, or_false] at hz; rcases hz with rfl; exact Or.inr ⟨by decide, _, lx_Lw_19, by decide⟩), by decide, by decide, lx_Lw_13, ce_13, fun qx => ?_⟩
      refine y_base (cs := []) (z_I.nil wB5) ?_
      refine y_astore (lv' := [(4, .ref qx), (0, .ref (ad 0)), (1, .int x), (2, .int c), (3, .ref (ad 69))]) d_Lw_has_17 (by decide) rfl ?_
      refine y_iconst d_Lw_has_19 (v := 2) (by decide) ?_
      refine y_iret d_Lw_has_20 rfl rfl ?_
      exact fun w1 h1 => ⟨⟨_, rfl⟩, u2, hu, (z_I.same (z_I.nil _) h1).symm ▸ hI2⟩
  · obtain ⟨h1, u2, hu, hI2⟩ := hx
    obtain ⟨v9, rfl⟩ := zriV h1
    refine yw_st (st2 := [.int v9, .int 0, .ref (ad 69)]) rfl ?_
    obtain ⟨s9, hI⟩ := hI2
    obtain ⟨e_o1, wf_o1, k_o1⟩ := hI.1.2 69 (by decide)
    obtain rfl := kd_69.mp k_o1
    refine y_base (cs := [((ad 69), .inl (3, 1, .inr (.inl (((mg t s9).1 69).2.1))))]) (hI.1.I [69] _ rfl (by decide) (by decide) (List.forall_mem_cons.mpr ⟨wf_o1, (fun _ h => nomatch h)⟩)) ?_
    refine y_i2l d_Lw_has_8 (v := v9.toInt64) rfl ?_
    refine y_last d_Lw_has_9 (q0 := 0) rfl (fun q => q.elim (by decide) (by decide)) (f' := vp_updL (((mg t s9).1 69).2.1) 0 v9.toInt64) rfl (cs' := [((ad 69), .inl (3, 1, .inr (.inl (vp_updL (((mg t s9).1 69).2.1) 0 v9.toInt64))))]) rfl ?_
    refine y_goto (tgt := 21) d_Lw_has_10 (by decide) ?_
    refine y_iconst d_Lw_has_21 (v := 0) (by decide) ?_
    refine y_iret d_Lw_has_22 rfl rfl ?_
    exact fun w1 h1 => ⟨⟨_, rfl⟩, u2, hu, IVm.tz ((hI.gen (t2 := (zup (mg t s9).1 [(69, (((mg t s9).1 69).1, vp_updL (((mg t s9).1 69).2.1) 0 v9.toInt64, ((mg t s9).1 69).2.2))], (mg t s9).2)) (is := [69]) (L2 := []) h1 rfl ⟨kd_69.mpr rfl, trivial⟩ (by decide) (by decide) (fun _ h => nomatch h) (fun _ h => nomatch h) (fun i hi hn => zup_out (fun q => hn ((by decide : ∀ j ∈ ([69] : List Nat), j ∈ ([69] : List Nat)) i q))) (fun h => h) rfl)) (tx_all rfl)⟩
abbrev M_Lw_bar : zM := (⟨"IronpourLaw", "bar", "(LIronpour;I[J)I"⟩, method_38_code, 4, (Option.some FieldType.int), 8, 142, [((0 : Nat), (9 : Nat), (12 : Nat), (19 : Nat))])
theorem d_Lw_bar_0 : decode method_38_code 0 = .ok (.aload_n 2, 1) := zo_44 (zd_b zq_method_38_code_0 0 rfl rfl rfl)
theorem d_Lw_bar_1 : decode method_38_code 1 = .ok (.iconst 0, 1) := zo_3 (zd_b zq_method_38_code_0 1 rfl rfl rfl)
theorem d_Lw_bar_2 : decode method_38_code 2 = .ok (.aload_n 0, 1) := zo_42 (zd_b zq_method_38_code_0 2 rfl rfl rfl)
theorem d_Lw_bar_3 : decode method_38_code 3 = .ok (.iload_n 1, 1) := zo_27 (zd_b zq_method_38_code_0 3 rfl rfl rfl)
theorem d_Lw_bar_4 : decode method_38_code 4 = .ok (.invokevirtual 138, 3) := zo_182 (d := 0) (e := 138) (zd_b zq_method_38_code_0 4 rfl rfl rfl) (zd_b zq_method_38_code_0 5 rfl rfl rfl) (zd_b zq_method_38_code_0 6 rfl rfl rfl)
theorem ok_Lw_bar_Ip_bar : z_okH M_Lw_bar M_Ip_bar 1 := ⟨z_mj6 (i := 223) rfl (by decide +kernel), rfl, ⟨by decide +kernel, by decide +kernel, by decide +kernel⟩, ⟨by decide, by decide⟩, z_mj1 (i := 1) rfl (by decide +kernel)⟩
theorem ln_Lw_138 : Cond.methodLink "IronpourLaw" 138 M_Ip_bar.1 ∈ z_gw := z_mj6 (i := 220) rfl (by decide +kernel)
theorem w_im_Ip_bar : Cond.instanceMethod M_Ip_bar.1 ∈ z_gw := z_mj6 (i := 221) rfl (by decide +kernel)
theorem w_se_Ip_bar : Cond.selects M_Ip_bar.1.cls M_Ip_bar.1 M_Ip_bar.1 ∈ z_gw := z_mj6 (i := 222) rfl (by decide +kernel)
theorem d_Lw_bar_12 : decode method_38_code 12 = .ok (.astore_n 3, 1) := zo_78 (zd_b zq_method_38_code_0 12 rfl rfl rfl)
theorem d_Lw_bar_13 : decode method_38_code 13 = .ok (.iconst 1, 1) := zo_4 (zd_b zq_method_38_code_0 13 rfl rfl rfl)
theorem d_Lw_bar_14 : decode method_38_code 14 = .ok (.ireturn, 1) := zo_172 (zd_b zq_method_38_code_0 14 rfl rfl rfl)
theorem d_Lw_bar_7 : decode method_38_code 7 = .ok (.i2l, 1) := zo_133 (zd_b zq_method_38_code_0 7 rfl rfl rfl)
theorem d_Lw_bar_8 : decode method_38_code 8 = .ok (.lastore, 1) := zo_80 (zd_b zq_method_38_code_0 8 rfl rfl rfl)
theorem d_Lw_bar_9 : decode method_38_code 9 = .ok (.goto 6, 3) := zo_167 (d := 0) (e := 6) (zd_b zq_method_38_code_0 9 rfl rfl rfl) (zd_b zq_method_38_code_0 10 rfl rfl rfl) (zd_b zq_method_38_code_0 11 rfl rfl rfl) (by decide +kernel)
theorem d_Lw_bar_15 : decode method_38_code 15 = .ok (.iconst 0, 1) := zo_3 (zd_b zq_method_38_code_0 15 rfl rfl rfl)
theorem d_Lw_bar_16 : decode method_38_code 16 = .ok (.ireturn, 1) := zo_172 (zd_b zq_method_38_code_0 16 rfl rfl rfl)
set_option maxHeartbeats 4000000 in
set_option maxRecDepth 100000 in
theorem W_bar {g : zG} {ad : Nat → Nat} {t : zTT} {u : zNN} {w : zW} (hI : IVm g ad t u w) (x : Int32) : zMB g M_Lw_bar [.ref (ad 0), .int x, .ref (ad 69)] w (fun o w1 => MKx g ad t u.1 o w1) 10 300 := by
  obtain ⟨s, hI⟩ := hI
  obtain ⟨e_a, wf_a, k_a⟩ := hI.1.2 0 (by decide)
  obtain rfl := kd_0.mp k_a
  obtain ⟨e_o1, wf_o1, k_o1⟩ := hI.1.2 69 (by decide)
  obtain rfl := kd_69.mp k_o1
  refine y_ofH (by decide) (by decide) (Nat.le_of_ble_eq_true rfl) (y_base (cs := [((ad 0), .inr (11, [.ref (ad 1), .ref (ad 5), .ref (ad 18), .ref (ad 31), .ref (ad 32), .ref (ad 36), .ref (ad 42), .ref (ad 45), .ref (ad 47), .ref (ad 49), .ref (ad 50), .ref (ad 51)])), ((ad 69), .inl (3, 1, .inr (.inl (((mg t s).1 69).2.1))))]) (hI.1.I [0, 69] _ rfl (by decide) (by decide) (List.forall_mem_cons.mpr ⟨wf_a, (List.forall_mem_cons.mpr ⟨wf_o1, (fun _ h => nomatch h)⟩)⟩)) ?_)
  refine y_lvE (lv2 := [(0, .ref (ad 0)), (1, .int x), (2, .ref (ad 69))]) rfl ?_
  refine y_aload_n d_Lw_bar_0 rfl 2 rfl ?_
  refine y_iconst d_Lw_bar_1 (v := 0) (by decide) ?_
  refine y_aload_n d_Lw_bar_2 rfl 0 rfl ?_
  refine y_iload_n d_Lw_bar_3 rfl 1 rfl ?_
  refine yw_callVH (As := [.int x]) (rest := [.int 0, .ref (ad 69)]) (q0 := 0) rfl rfl ln_Lw_138 w_im_Ip_bar w_se_Ip_bar ok_Lw_bar_Ip_bar d_Lw_bar_4 (fun wA hA => K_Ip_bar ⟨_, (hI.gen (t2 := (mg t s)) (is := [0, 69]) (L2 := []) hA rfl ⟨kd_0.mpr rfl, kd_69.mpr rfl, trivial⟩ (by decide) (by decide) (fun _ h => nomatch h) (fun _ h => nomatch h) (fun _ _ _ => rfl) (fun h => h) rfl)⟩ x) rfl rfl (Nat.le_of_ble_eq_true rfl) (by omega) (by omega) (fun wA4 hA4 E wB4 hx => ?_) (fun wA4 hA4 v wB4 hx => ?_)
  · obtain ⟨h1, u2, hu, hI2⟩ := hx
    obtain rfl := List.mem_singleton.mp (zriE h1)
    refine ⟨"java/lang/IndexOutOfBoundsException", [], [], (0, 9, 12, 19), rfl, (fun z hz => nomatch hz), by decide, by decide, lx_Lw_19, ce_19, fun qx => ?_⟩
    refine y_base (cs := []) (z_I.nil wB4) ?_
    refine y_astore_n (lv' := [(3, .ref qx), (0, .ref (ad 0)), (1, .int x), (2, .ref (ad 69))]) d_Lw_bar_12 rfl (by decide) rfl ?_
    refine y_iconst d_Lw_bar_13 (v := 1) (by decide) ?_
    refine y_iret d_Lw_bar_14 rfl rfl ?_
    exact fun w1 h1 => ⟨⟨_, rfl⟩, u2, hu, (z_I.same (z_I.nil _) h1).symm ▸ hI2⟩
  · obtain ⟨h1, u2, hu, hI2⟩ := hx
    obtain ⟨v9, rfl⟩ := zriV h1
    refine yw_st (st2 := [.int v9, .int 0, .ref (ad 69)]) rfl ?_
    obtain ⟨s9, hI⟩ := hI2
    obtain ⟨e_o1, wf_o1, k_o1⟩ := hI.1.2 69 (by decide)
    obtain rfl := kd_69.mp k_o1
    refine y_base (cs := [((ad 69), .inl (3, 1, .inr (.inl (((mg t s9).1 69).2.1))))]) (hI.1.I [69] _ rfl (by decide) (by decide) (List.forall_mem_cons.mpr ⟨wf_o1, (fun _ h => nomatch h)⟩)) ?_
    refine y_i2l d_Lw_bar_7 (v := v9.toInt64) rfl ?_
    refine y_last d_Lw_bar_8 (q0 := 0) rfl (fun q => q.elim (by decide) (by decide)) (f' := vp_updL (((mg t s9).1 69).2.1) 0 v9.toInt64) rfl (cs' := [((ad 69), .inl (3, 1, .inr (.inl (vp_updL (((mg t s9).1 69).2.1) 0 v9.toInt64))))]) rfl ?_
    refine y_goto (tgt := 15) d_Lw_bar_9 (by decide) ?_
    refine y_iconst d_Lw_bar_15 (v := 0) (by decide) ?_
    refine y_iret d_Lw_bar_16 rfl rfl ?_
    exact fun w1 h1 => ⟨⟨_, rfl⟩, u2, hu, IVm.tz ((hI.gen (t2 := (zup (mg t s9).1 [(69, (((mg t s9).1 69).1, vp_updL (((mg t s9).1 69).2.1) 0 v9.toInt64, ((mg t s9).1 69).2.2))], (mg t s9).2)) (is := [69]) (L2 := []) h1 rfl ⟨kd_69.mpr rfl, trivial⟩ (by decide) (by decide) (fun _ h => nomatch h) (fun _ h => nomatch h) (fun i hi hn => zup_out (fun q => hn ((by decide : ∀ j ∈ ([69] : List Nat), j ∈ ([69] : List Nat)) i q))) (fun h => h) rfl)) (tx_all rfl)⟩
