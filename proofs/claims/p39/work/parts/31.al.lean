abbrev M_AL_grow_1 : zM := (⟨"java/util/ArrayList", "grow", "(I)[Ljava/lang/Object;"⟩, prog_40_method_6_code, 4, (Option.some (FieldType.array (FieldType.object "java/lang/Object"))), 4, 144, [])
theorem d_AL_grow_1_0 : decode prog_40_method_6_code 0 = .ok (.aload_n 0, 1) := zo_42 (zd_b zq_prog_40_method_6_code_0 0 rfl rfl rfl)
theorem d_AL_grow_1_1 : decode prog_40_method_6_code 1 = .ok (.getfield 9, 3) := zo_180 (d := 0) (e := 9) (zd_b zq_prog_40_method_6_code_0 1 rfl rfl rfl) (zd_b zq_prog_40_method_6_code_0 2 rfl rfl rfl) (zd_b zq_prog_40_method_6_code_0 3 rfl rfl rfl)
theorem fs_AL_9 : z_fs "java/util/ArrayList" 9 13 1 := ⟨R_AL, "java/util/ArrayList", F_AL, 3, rfl, u_AL, by decide, Or.inl ⟨z_mj2 (i := 51) rfl (by decide +kernel), Or.inl rfl⟩⟩
theorem d_AL_grow_1_4 : decode prog_40_method_6_code 4 = .ok (.arraylength, 1) := zo_190 (zd_b zq_prog_40_method_6_code_0 4 rfl rfl rfl)
theorem d_AL_grow_1_5 : decode prog_40_method_6_code 5 = .ok (.istore_n 2, 1) := zo_61 (zd_b zq_prog_40_method_6_code_0 5 rfl rfl rfl)
theorem d_AL_grow_1_6 : decode prog_40_method_6_code 6 = .ok (.iload_n 2, 1) := zo_28 (zd_b zq_prog_40_method_6_code_0 6 rfl rfl rfl)
theorem d_AL_grow_1_7 : decode prog_40_method_6_code 7 = .ok (.ifCond .gt 13, 3) := zo_157 (d := 0) (e := 13) (zd_b zq_prog_40_method_6_code_0 7 rfl rfl rfl) (zd_b zq_prog_40_method_6_code_0 8 rfl rfl rfl) (zd_b zq_prog_40_method_6_code_0 9 rfl rfl rfl) (by decide +kernel)
theorem d_AL_grow_1_10 : decode prog_40_method_6_code 10 = .ok (.aload_n 0, 1) := zo_42 (zd_b zq_prog_40_method_6_code_0 10 rfl rfl rfl)
theorem d_AL_grow_1_11 : decode prog_40_method_6_code 11 = .ok (.getfield 9, 3) := zo_180 (d := 0) (e := 9) (zd_b zq_prog_40_method_6_code_0 11 rfl rfl rfl) (zd_b zq_prog_40_method_6_code_0 12 rfl rfl rfl) (zd_b zq_prog_40_method_6_code_0 13 rfl rfl rfl)
theorem d_AL_grow_1_14 : decode prog_40_method_6_code 14 = .ok (.getstatic 39, 3) := zo_178 (d := 0) (e := 39) (zd_b zq_prog_40_method_6_code_0 14 rfl rfl rfl) (zd_b zq_prog_40_method_6_code_0 15 rfl rfl rfl) (zd_b zq_prog_40_method_6_code_0 16 rfl rfl rfl)
theorem d_AL_grow_1_17 : decode prog_40_method_6_code 17 = .ok (.if_acmp .eq 28, 3) := zo_165 (d := 0) (e := 28) (zd_b zq_prog_40_method_6_code_0 17 rfl rfl rfl) (zd_b zq_prog_40_method_6_code_0 18 rfl rfl rfl) (zd_b zq_prog_40_method_6_code_0 19 rfl rfl rfl) (by decide +kernel)
theorem d_AL_grow_1_45 : decode prog_40_method_6_code 45 = .ok (.aload_n 0, 1) := zo_42 (zd_b zq_prog_40_method_6_code_1 13 rfl rfl rfl)
theorem d_AL_grow_1_46 : decode prog_40_method_6_code 46 = .ok (.bipush 10, 2) := zo_16 (d := 10) (zd_b zq_prog_40_method_6_code_1 14 rfl rfl rfl) (zd_b zq_prog_40_method_6_code_1 15 rfl rfl rfl) (by decide +kernel)
theorem d_AL_grow_1_48 : decode prog_40_method_6_code 48 = .ok (.iload_n 1, 1) := zo_27 (zd_b zq_prog_40_method_6_code_1 16 rfl rfl rfl)
theorem d_AL_grow_1_49 : decode prog_40_method_6_code 49 = .ok (.invokestatic 79, 3) := zo_184 (d := 0) (e := 79) (zd_b zq_prog_40_method_6_code_1 17 rfl rfl rfl) (zd_b zq_prog_40_method_6_code_1 18 rfl rfl rfl) (zd_b zq_prog_40_method_6_code_1 19 rfl rfl rfl)
theorem ln_AL_79 : Cond.methodLink "java/util/ArrayList" 79 Lib.Math.max.name ∈ z_gw := z_mj6 (i := 91) rfl (by decide +kernel)
theorem d_AL_grow_1_52 : decode prog_40_method_6_code 52 = .ok (.anewarray 7, 3) := zo_189 (d := 0) (e := 7) (zd_b zq_prog_40_method_6_code_1 20 rfl rfl rfl) (zd_b zq_prog_40_method_6_code_1 21 rfl rfl rfl) (zd_b zq_prog_40_method_6_code_1 22 rfl rfl rfl)
theorem lo_AL_7 : Cond.classLink "java/util/ArrayList" 7 "java/lang/Object" ∈ z_gw := z_mj6 (i := 92) rfl (by decide +kernel)
theorem d_AL_grow_1_55 : decode prog_40_method_6_code 55 = .ok (.dup_x1, 1) := zo_90 (zd_b zq_prog_40_method_6_code_1 23 rfl rfl rfl)
theorem d_AL_grow_1_56 : decode prog_40_method_6_code 56 = .ok (.putfield 9, 3) := zo_181 (d := 0) (e := 9) (zd_b zq_prog_40_method_6_code_1 24 rfl rfl rfl) (zd_b zq_prog_40_method_6_code_1 25 rfl rfl rfl) (zd_b zq_prog_40_method_6_code_1 26 rfl rfl rfl)
theorem d_AL_grow_1_59 : decode prog_40_method_6_code 59 = .ok (.areturn, 1) := zo_176 (zd_b zq_prog_40_method_6_code_1 27 rfl rfl rfl)
set_option maxHeartbeats 4000000 in
set_option maxRecDepth 100000 in
theorem C_AL_grow0I (g : zG) (a : Nat) (md : Int32) : CT g M_AL_grow_1 [.ref a, .int 1] [(a, .inr (13, [.int md, .ref (g.2.2 4), .int 0]))] (fun o cs1 => ∃ q, o = .inl (some (.ref q)) ∧ cs1 = [(a, .inr (13, [.int md, .ref q, .int 0])), (q, .inl (5, 10, .inr (.inr (.inr (.inr (fun _ => none))))))]) 1 10 := by
  refine z_of (by decide) rfl (Nat.le_of_ble_eq_true rfl) (fun w0 => ?_)
  refine r_lvE (lv2 := [(0, .ref a), (1, .int 1)]) rfl ?_
  refine r_aload_n d_AL_grow_1_0 rfl 0 rfl ?_
  refine r_get fs_AL_9 d_AL_grow_1_1 (q0 := 0) rfl rfl ?_
  refine r_tlenD d_AL_grow_1_4 ?_
  refine r_istore_n (lv' := [(2, .int 0), (0, .ref a), (1, .int 1)]) d_AL_grow_1_5 rfl (by decide) rfl ?_
  refine r_iload_n d_AL_grow_1_6 rfl 0 rfl ?_
  refine r_if_gt (tgt := 20) d_AL_grow_1_7 (by decide) (fun c_7 => ?_) (fun c_7 => ?_)
  · exact absurd c_7 (by decide)
  · refine r_aload_n d_AL_grow_1_10 rfl 1 rfl ?_
    refine r_get fs_AL_9 d_AL_grow_1_11 (q0 := 0) rfl rfl ?_
    refine r_getsD ls_AL_39 d_AL_grow_1_14 ?_
    refine r_acmp_eq (tgt := 45) d_AL_grow_1_17 (by decide) (fun c_17 => ?_) (fun c_17 => ?_)
    · refine r_aload_n d_AL_grow_1_45 rfl 1 rfl ?_
      refine r_bipush d_AL_grow_1_46 (v := 10) (by decide) ?_
      refine r_iload_n d_AL_grow_1_48 rfl 2 rfl ?_
      refine r_max (v := 10) ln_AL_79 w_mmax w_mi w_cmax d_AL_grow_1_49 (by decide) (by decide) (Nat.le_of_ble_eq_true rfl) rfl ?_
      refine r_anewa (N := 10) lo_AL_7 d_AL_grow_1_52 (by decide) (by decide) (by decide) (by omega) (by omega) (fun q => ?_)
      refine r_cs (cs2 := [(a, .inr (13, [.int md, .ref (g.2.2 4), .int 0])), (q, .inl (5, 10, .inr (.inr (.inr (.inr (fun _ => none))))))]) rfl ?_
      refine r_dupx1 d_AL_grow_1_55 rfl rfl ?_
      refine r_put fp_AL_9 d_AL_grow_1_56 (fun h => nomatch h) rfl rfl (q0 := 0) rfl (Nat.le_of_ble_eq_true rfl) (cs' := [(a, .inr (13, [.int md, .ref q, .int 0])), (q, .inl (5, 10, .inr (.inr (.inr (.inr (fun _ => none))))))]) rfl ?_
      refine r_aret d_AL_grow_1_59 rfl (Or.inr ⟨_, rfl⟩) (Or.inr ⟨_, rfl⟩) ?_
      exact ⟨q, rfl, rfl⟩
    · exact absurd rfl c_17
abbrev M_AL_grow_0 : zM := (⟨"java/util/ArrayList", "grow", "()[Ljava/lang/Object;"⟩, prog_40_method_7_code, 1, (Option.some (FieldType.array (FieldType.object "java/lang/Object"))), 5, 167, [])
theorem d_AL_grow_0_0 : decode prog_40_method_7_code 0 = .ok (.aload_n 0, 1) := zo_42 (zd_b zq_prog_40_method_7_code_0 0 rfl rfl rfl)
theorem d_AL_grow_0_1 : decode prog_40_method_7_code 1 = .ok (.aload_n 0, 1) := zo_42 (zd_b zq_prog_40_method_7_code_0 1 rfl rfl rfl)
theorem d_AL_grow_0_2 : decode prog_40_method_7_code 2 = .ok (.getfield 48, 3) := zo_180 (d := 0) (e := 48) (zd_b zq_prog_40_method_7_code_0 2 rfl rfl rfl) (zd_b zq_prog_40_method_7_code_0 3 rfl rfl rfl) (zd_b zq_prog_40_method_7_code_0 4 rfl rfl rfl)
theorem d_AL_grow_0_5 : decode prog_40_method_7_code 5 = .ok (.iconst 1, 1) := zo_4 (zd_b zq_prog_40_method_7_code_0 5 rfl rfl rfl)
theorem d_AL_grow_0_6 : decode prog_40_method_7_code 6 = .ok (.iadd, 1) := zo_96 (zd_b zq_prog_40_method_7_code_0 6 rfl rfl rfl)
theorem d_AL_grow_0_7 : decode prog_40_method_7_code 7 = .ok (.invokevirtual 69, 3) := zo_182 (d := 0) (e := 69) (zd_b zq_prog_40_method_7_code_0 7 rfl rfl rfl) (zd_b zq_prog_40_method_7_code_0 8 rfl rfl rfl) (zd_b zq_prog_40_method_7_code_0 9 rfl rfl rfl)
theorem ok_AL_grow_0_AL_grow_1 : z_ok M_AL_grow_0 M_AL_grow_1 1 := ⟨z_mj6 (i := 46) rfl (by decide +kernel), rfl, ⟨by decide +kernel, by decide +kernel, by decide +kernel⟩, ⟨by decide, by decide⟩, z_mj1 (i := 13) rfl (by decide +kernel), rfl⟩
theorem ln_AL_69 : Cond.methodLink "java/util/ArrayList" 69 M_AL_grow_1.1 ∈ z_gw := z_mj6 (i := 43) rfl (by decide +kernel)
theorem w_im_AL_grow_1 : Cond.instanceMethod M_AL_grow_1.1 ∈ z_gw := z_mj6 (i := 45) rfl (by decide +kernel)
theorem w_se_AL_grow_1 : Cond.selects M_AL_grow_1.1.cls M_AL_grow_1.1 M_AL_grow_1.1 ∈ z_gw := z_mem (i := 24) (by decide +kernel) (by decide +kernel)
theorem d_AL_grow_0_10 : decode prog_40_method_7_code 10 = .ok (.areturn, 1) := zo_176 (zd_b zq_prog_40_method_7_code_0 10 rfl rfl rfl)
set_option maxHeartbeats 4000000 in
set_option maxRecDepth 100000 in
theorem C_AL_grow0 (g : zG) (a : Nat) (md : Int32) : CT g M_AL_grow_0 [.ref a] [(a, .inr (13, [.int md, .ref (g.2.2 4), .int 0]))] (fun o cs1 => ∃ q, o = .inl (some (.ref q)) ∧ cs1 = [(a, .inr (13, [.int md, .ref q, .int 0])), (q, .inl (5, 10, .inr (.inr (.inr (.inr (fun _ => none))))))]) 1 10 := by
  refine z_of (by decide) rfl (Nat.le_of_ble_eq_true rfl) (fun w0 => ?_)
  refine r_lvE (lv2 := [(0, .ref a)]) rfl ?_
  refine r_aload_n d_AL_grow_0_0 rfl 0 rfl ?_
  refine r_aload_n d_AL_grow_0_1 rfl 0 rfl ?_
  refine r_get fs_AL_48 d_AL_grow_0_2 (q0 := 0) rfl rfl ?_
  refine r_iconst d_AL_grow_0_5 (v := 1) (by decide) ?_
  refine r_iadd d_AL_grow_0_6 (v := 1) rfl ?_
  refine r_callV (As := [.int 1]) (rest := []) (csC := [(a, .inr (13, [.int md, .ref (g.2.2 4), .int 0]))]) (is := [0]) (q0 := 0) rfl rfl ln_AL_69 w_im_AL_grow_1 w_se_AL_grow_1 ok_AL_grow_0_AL_grow_1 d_AL_grow_0_7 (C_AL_grow0I g a md) rfl rfl (Nat.le_of_ble_eq_true rfl) rfl (by decide) (by omega) (by omega) (fun E cs1 hx => ?_) (fun v cs1 hx => ?_)
  · obtain ⟨q, e1, -⟩ := hx
    cases e1
  · obtain ⟨q, e1, rfl⟩ := hx
    cases e1
    refine ⟨rfl, ?_⟩
    refine r_st (st2 := [.ref q]) rfl ?_
    refine r_cs (cs2 := [(a, .inr (13, [.int md, .ref q, .int 0])), (q, .inl (5, 10, .inr (.inr (.inr (.inr (fun _ => none))))))]) rfl ?_
    refine r_aret d_AL_grow_0_10 rfl (Or.inr ⟨_, rfl⟩) (Or.inr ⟨_, rfl⟩) ?_
    exact ⟨q, rfl, rfl⟩
abbrev M_AL_add_1 : zM := (⟨"java/util/ArrayList", "add", "(Ljava/lang/Object;[Ljava/lang/Object;I)V"⟩, prog_40_method_24_code, 4, (Option.none : Option FieldType), 6, 187, [])
theorem d_AL_add_1_0 : decode prog_40_method_24_code 0 = .ok (.iload_n 3, 1) := zo_29 (zd_b zq_prog_40_method_24_code_0 0 rfl rfl rfl)
theorem d_AL_add_1_1 : decode prog_40_method_24_code 1 = .ok (.aload_n 2, 1) := zo_44 (zd_b zq_prog_40_method_24_code_0 1 rfl rfl rfl)
theorem d_AL_add_1_2 : decode prog_40_method_24_code 2 = .ok (.arraylength, 1) := zo_190 (zd_b zq_prog_40_method_24_code_0 2 rfl rfl rfl)
theorem d_AL_add_1_3 : decode prog_40_method_24_code 3 = .ok (.if_icmp .ne 8, 3) := zo_160 (d := 0) (e := 8) (zd_b zq_prog_40_method_24_code_0 3 rfl rfl rfl) (zd_b zq_prog_40_method_24_code_0 4 rfl rfl rfl) (zd_b zq_prog_40_method_24_code_0 5 rfl rfl rfl) (by decide +kernel)
theorem d_AL_add_1_6 : decode prog_40_method_24_code 6 = .ok (.aload_n 0, 1) := zo_42 (zd_b zq_prog_40_method_24_code_0 6 rfl rfl rfl)
theorem d_AL_add_1_7 : decode prog_40_method_24_code 7 = .ok (.invokevirtual 129, 3) := zo_182 (d := 0) (e := 129) (zd_b zq_prog_40_method_24_code_0 7 rfl rfl rfl) (zd_b zq_prog_40_method_24_code_0 8 rfl rfl rfl) (zd_b zq_prog_40_method_24_code_0 9 rfl rfl rfl)
theorem ok_AL_add_1_AL_grow_0 : z_ok M_AL_add_1 M_AL_grow_0 0 := ⟨z_mj6 (i := 42) rfl (by decide +kernel), rfl, ⟨by decide +kernel, by decide +kernel, by decide +kernel⟩, ⟨by decide, by decide⟩, z_mj1 (i := 13) rfl (by decide +kernel), rfl⟩
theorem ln_AL_129 : Cond.methodLink "java/util/ArrayList" 129 M_AL_grow_0.1 ∈ z_gw := z_mj6 (i := 39) rfl (by decide +kernel)
theorem w_im_AL_grow_0 : Cond.instanceMethod M_AL_grow_0.1 ∈ z_gw := z_mj6 (i := 41) rfl (by decide +kernel)
theorem w_se_AL_grow_0 : Cond.selects M_AL_grow_0.1.cls M_AL_grow_0.1 M_AL_grow_0.1 ∈ z_gw := z_mem (i := 23) (by decide +kernel) (by decide +kernel)
theorem d_AL_add_1_10 : decode prog_40_method_24_code 10 = .ok (.astore_n 2, 1) := zo_77 (zd_b zq_prog_40_method_24_code_0 10 rfl rfl rfl)
theorem d_AL_add_1_11 : decode prog_40_method_24_code 11 = .ok (.aload_n 2, 1) := zo_44 (zd_b zq_prog_40_method_24_code_0 11 rfl rfl rfl)
theorem d_AL_add_1_12 : decode prog_40_method_24_code 12 = .ok (.iload_n 3, 1) := zo_29 (zd_b zq_prog_40_method_24_code_0 12 rfl rfl rfl)
theorem d_AL_add_1_13 : decode prog_40_method_24_code 13 = .ok (.aload_n 1, 1) := zo_43 (zd_b zq_prog_40_method_24_code_0 13 rfl rfl rfl)
theorem d_AL_add_1_14 : decode prog_40_method_24_code 14 = .ok (.aastore, 1) := zo_83 (zd_b zq_prog_40_method_24_code_0 14 rfl rfl rfl)
theorem d_AL_add_1_15 : decode prog_40_method_24_code 15 = .ok (.aload_n 0, 1) := zo_42 (zd_b zq_prog_40_method_24_code_0 15 rfl rfl rfl)
theorem d_AL_add_1_16 : decode prog_40_method_24_code 16 = .ok (.iload_n 3, 1) := zo_29 (zd_b zq_prog_40_method_24_code_0 16 rfl rfl rfl)
theorem d_AL_add_1_17 : decode prog_40_method_24_code 17 = .ok (.iconst 1, 1) := zo_4 (zd_b zq_prog_40_method_24_code_0 17 rfl rfl rfl)
theorem d_AL_add_1_18 : decode prog_40_method_24_code 18 = .ok (.iadd, 1) := zo_96 (zd_b zq_prog_40_method_24_code_0 18 rfl rfl rfl)
theorem d_AL_add_1_19 : decode prog_40_method_24_code 19 = .ok (.putfield 48, 3) := zo_181 (d := 0) (e := 48) (zd_b zq_prog_40_method_24_code_0 19 rfl rfl rfl) (zd_b zq_prog_40_method_24_code_0 20 rfl rfl rfl) (zd_b zq_prog_40_method_24_code_0 21 rfl rfl rfl)
theorem fp_AL_48 : z_fp "java/util/ArrayList" 48 13 2 false .int := ⟨R_AL, "java/util/ArrayList", F_AL, 3, t_AL, rfl, u_AL, by decide, t_AL_ok, n_AL, rfl, rfl, Or.inl ⟨z_mj2 (i := 52) rfl (by decide +kernel), Or.inl rfl, fun h => nomatch h⟩⟩
theorem d_AL_add_1_22 : decode prog_40_method_24_code 22 = .ok (.return_, 1) := zo_177 (zd_b zq_prog_40_method_24_code_0 22 rfl rfl rfl)
set_option maxHeartbeats 4000000 in
set_option maxRecDepth 100000 in
theorem C_AL_addA0 (g : zG) (a v : Nat) (md : Int32) (ek : zE) (ho : z_ob ek) : CT g M_AL_add_1 [.ref a, .ref v, .ref (g.2.2 4), .int 0] [(a, .inr (13, [.int md, .ref (g.2.2 4), .int 0])), (v, ek)] (fun o cs1 => ∃ q, o = .inl none ∧ cs1 = [(a, .inr (13, [.int md, .ref q, .int 1])), (v, ek), (q, .inl (5, 10, .inr (.inr (.inr (.inr (va_up (fun _ => none) 0 (some v)))))))]) 1 10 := by
  refine z_of (by decide) rfl (Nat.le_of_ble_eq_true rfl) (fun w0 => ?_)
  refine r_lvE (lv2 := [(0, .ref a), (1, .ref v), (2, .ref (g.2.2 4)), (3, .int 0)]) rfl ?_
  refine r_iload_n d_AL_add_1_0 rfl 3 rfl ?_
  refine r_aload_n d_AL_add_1_1 rfl 2 rfl ?_
  refine r_tlenD d_AL_add_1_2 ?_
  refine r_icmp_ne (tgt := 11) d_AL_add_1_3 (by decide) (fun c_3 => ?_) (fun c_3 => ?_)
  · exact absurd c_3 (by decide)
  · refine r_aload_n d_AL_add_1_6 rfl 0 rfl ?_
    refine r_callV (As := []) (rest := []) (csC := [(a, .inr (13, [.int md, .ref (g.2.2 4), .int 0]))]) (is := [0]) (q0 := 0) rfl rfl ln_AL_129 w_im_AL_grow_0 w_se_AL_grow_0 ok_AL_add_1_AL_grow_0 d_AL_add_1_7 (C_AL_grow0 g a md) rfl rfl (Nat.le_of_ble_eq_true rfl) rfl (by decide) (by omega) (by omega) (fun E cs1 hx => ?_) (fun v cs1 hx => ?_)
    · obtain ⟨q, e1, -⟩ := hx
      cases e1
    · obtain ⟨q, e1, rfl⟩ := hx
      cases e1
      refine ⟨rfl, ?_⟩
      refine r_st (st2 := [.ref q]) rfl ?_
      refine r_cs (cs2 := [(a, .inr (13, [.int md, .ref q, .int 0])), (v, ek), (q, .inl (5, 10, .inr (.inr (.inr (.inr (fun _ => none))))))]) rfl ?_
      refine r_astore_n (lv' := [(2, .ref q), (0, .ref a), (1, .ref v), (3, .int 0)]) d_AL_add_1_10 rfl (by decide) rfl ?_
      refine r_aload_n d_AL_add_1_11 rfl 0 rfl ?_
      refine r_iload_n d_AL_add_1_12 rfl 3 rfl ?_
      refine r_aload_n d_AL_add_1_13 rfl 2 rfl ?_
      refine r_aast d_AL_add_1_14 (q0 := 2) (qk := 1) rfl rfl ho (fun q => q.elim (by decide) (by decide)) (f' := va_up (fun _ => none) 0 (some v)) rfl (cs' := [(a, .inr (13, [.int md, .ref q, .int 0])), (v, ek), (q, .inl (5, 10, .inr (.inr (.inr (.inr (va_up (fun _ => none) 0 (some v)))))))]) rfl ?_
      refine r_aload_n d_AL_add_1_15 rfl 1 rfl ?_
      refine r_iload_n d_AL_add_1_16 rfl 3 rfl ?_
      refine r_iconst d_AL_add_1_17 (v := 1) (by decide) ?_
      refine r_iadd d_AL_add_1_18 (v := 1) rfl ?_
      refine r_put fp_AL_48 d_AL_add_1_19 (fun h => nomatch h) rfl rfl (q0 := 0) rfl (Nat.le_of_ble_eq_true rfl) (cs' := [(a, .inr (13, [.int md, .ref q, .int 1])), (v, ek), (q, .inl (5, 10, .inr (.inr (.inr (.inr (va_up (fun _ => none) 0 (some v)))))))]) rfl ?_
      refine r_vret d_AL_add_1_22 rfl ?_
      exact ⟨q, rfl, rfl⟩
abbrev M_AL_add_0 : zM := (⟨"java/util/ArrayList", "add", "(Ljava/lang/Object;)Z"⟩, prog_40_method_25_code, 2, (Option.some FieldType.boolean), 7, 210, [])
theorem d_AL_add_0_0 : decode prog_40_method_25_code 0 = .ok (.aload_n 0, 1) := zo_42 (zd_b zq_prog_40_method_25_code_0 0 rfl rfl rfl)
theorem d_AL_add_0_1 : decode prog_40_method_25_code 1 = .ok (.dup, 1) := zo_89 (zd_b zq_prog_40_method_25_code_0 1 rfl rfl rfl)
theorem d_AL_add_0_2 : decode prog_40_method_25_code 2 = .ok (.getfield 63, 3) := zo_180 (d := 0) (e := 63) (zd_b zq_prog_40_method_25_code_0 2 rfl rfl rfl) (zd_b zq_prog_40_method_25_code_0 3 rfl rfl rfl) (zd_b zq_prog_40_method_25_code_0 4 rfl rfl rfl)
theorem fs_AL_63 : z_fs "java/util/ArrayList" 63 13 0 := ⟨R_AL, "java/util/ArrayList", F_AL, 3, rfl, u_AL, by decide, Or.inl ⟨z_mj2 (i := 54) rfl (by decide +kernel), Or.inr (z_mj2 (i := 55) rfl (by decide +kernel))⟩⟩
theorem d_AL_add_0_5 : decode prog_40_method_25_code 5 = .ok (.iconst 1, 1) := zo_4 (zd_b zq_prog_40_method_25_code_0 5 rfl rfl rfl)
theorem d_AL_add_0_6 : decode prog_40_method_25_code 6 = .ok (.iadd, 1) := zo_96 (zd_b zq_prog_40_method_25_code_0 6 rfl rfl rfl)
theorem d_AL_add_0_7 : decode prog_40_method_25_code 7 = .ok (.putfield 63, 3) := zo_181 (d := 0) (e := 63) (zd_b zq_prog_40_method_25_code_0 7 rfl rfl rfl) (zd_b zq_prog_40_method_25_code_0 8 rfl rfl rfl) (zd_b zq_prog_40_method_25_code_0 9 rfl rfl rfl)
theorem fp_AL_63 : z_fp "java/util/ArrayList" 63 13 0 false .int := ⟨R_AL, "java/util/ArrayList", F_AL, 3, t_AL, rfl, u_AL, by decide, t_AL_ok, n_AL, rfl, rfl, Or.inl ⟨z_mj2 (i := 54) rfl (by decide +kernel), Or.inr (z_mj2 (i := 55) rfl (by decide +kernel)), fun h => nomatch h⟩⟩
theorem d_AL_add_0_10 : decode prog_40_method_25_code 10 = .ok (.aload_n 0, 1) := zo_42 (zd_b zq_prog_40_method_25_code_0 10 rfl rfl rfl)
theorem d_AL_add_0_11 : decode prog_40_method_25_code 11 = .ok (.aload_n 1, 1) := zo_43 (zd_b zq_prog_40_method_25_code_0 11 rfl rfl rfl)
theorem d_AL_add_0_12 : decode prog_40_method_25_code 12 = .ok (.aload_n 0, 1) := zo_42 (zd_b zq_prog_40_method_25_code_0 12 rfl rfl rfl)
theorem d_AL_add_0_13 : decode prog_40_method_25_code 13 = .ok (.getfield 9, 3) := zo_180 (d := 0) (e := 9) (zd_b zq_prog_40_method_25_code_0 13 rfl rfl rfl) (zd_b zq_prog_40_method_25_code_0 14 rfl rfl rfl) (zd_b zq_prog_40_method_25_code_0 15 rfl rfl rfl)
theorem d_AL_add_0_16 : decode prog_40_method_25_code 16 = .ok (.aload_n 0, 1) := zo_42 (zd_b zq_prog_40_method_25_code_0 16 rfl rfl rfl)
theorem d_AL_add_0_17 : decode prog_40_method_25_code 17 = .ok (.getfield 48, 3) := zo_180 (d := 0) (e := 48) (zd_b zq_prog_40_method_25_code_0 17 rfl rfl rfl) (zd_b zq_prog_40_method_25_code_0 18 rfl rfl rfl) (zd_b zq_prog_40_method_25_code_0 19 rfl rfl rfl)
theorem d_AL_add_0_20 : decode prog_40_method_25_code 20 = .ok (.invokevirtual 131, 3) := zo_182 (d := 0) (e := 131) (zd_b zq_prog_40_method_25_code_0 20 rfl rfl rfl) (zd_b zq_prog_40_method_25_code_0 21 rfl rfl rfl) (zd_b zq_prog_40_method_25_code_0 22 rfl rfl rfl)
theorem ok_AL_add_0_AL_add_1 : z_ok M_AL_add_0 M_AL_add_1 3 := ⟨z_mj6 (i := 38) rfl (by decide +kernel), rfl, ⟨by decide +kernel, by decide +kernel, by decide +kernel⟩, ⟨by decide, by decide⟩, z_mj1 (i := 13) rfl (by decide +kernel), rfl⟩
theorem ln_AL_131 : Cond.methodLink "java/util/ArrayList" 131 M_AL_add_1.1 ∈ z_gw := z_mj6 (i := 35) rfl (by decide +kernel)
theorem w_im_AL_add_1 : Cond.instanceMethod M_AL_add_1.1 ∈ z_gw := z_mj6 (i := 37) rfl (by decide +kernel)
theorem w_se_AL_add_1 : Cond.selects M_AL_add_1.1.cls M_AL_add_1.1 M_AL_add_1.1 ∈ z_gw := z_mem (i := 22) (by decide +kernel) (by decide +kernel)
theorem d_AL_add_0_23 : decode prog_40_method_25_code 23 = .ok (.iconst 1, 1) := zo_4 (zd_b zq_prog_40_method_25_code_0 23 rfl rfl rfl)
theorem d_AL_add_0_24 : decode prog_40_method_25_code 24 = .ok (.ireturn, 1) := zo_172 (zd_b zq_prog_40_method_25_code_0 24 rfl rfl rfl)
set_option maxHeartbeats 4000000 in
set_option maxRecDepth 100000 in
theorem C_AL_add0 (g : zG) (a v : Nat) (md : Int32) (ek : zE) (ho : z_ob ek) : CT g M_AL_add_0 [.ref a, .ref v] [(a, .inr (13, [.int md, .ref (g.2.2 4), .int 0])), (v, ek)] (fun o cs1 => ∃ q, o = .inl (some (.int 1)) ∧ cs1 = [(a, .inr (13, [.int (md + 1), .ref q, .int 1])), (v, ek), (q, .inl (5, 10, .inr (.inr (.inr (.inr (va_up (fun _ => none) 0 (some v)))))))]) 1 10 := by
  refine z_of (by decide) rfl (Nat.le_of_ble_eq_true rfl) (fun w0 => ?_)
  refine r_lvE (lv2 := [(0, .ref a), (1, .ref v)]) rfl ?_
  refine r_aload_n d_AL_add_0_0 rfl 0 rfl ?_
  refine r_dup d_AL_add_0_1 rfl ?_
  refine r_get fs_AL_63 d_AL_add_0_2 (q0 := 0) rfl rfl ?_
  refine r_iconst d_AL_add_0_5 (v := 1) (by decide) ?_
  refine r_iadd d_AL_add_0_6 (v := md + 1) rfl ?_
  refine r_put fp_AL_63 d_AL_add_0_7 (fun h => nomatch h) rfl rfl (q0 := 0) rfl (Nat.le_of_ble_eq_true rfl) (cs' := [(a, .inr (13, [.int (md + 1), .ref (g.2.2 4), .int 0])), (v, ek)]) rfl ?_
  refine r_aload_n d_AL_add_0_10 rfl 0 rfl ?_
  refine r_aload_n d_AL_add_0_11 rfl 1 rfl ?_
  refine r_aload_n d_AL_add_0_12 rfl 0 rfl ?_
  refine r_get fs_AL_9 d_AL_add_0_13 (q0 := 0) rfl rfl ?_
  refine r_aload_n d_AL_add_0_16 rfl 0 rfl ?_
  refine r_get fs_AL_48 d_AL_add_0_17 (q0 := 0) rfl rfl ?_
  refine r_callV (As := [.ref v, .ref (g.2.2 4), .int 0]) (rest := []) (csC := [(a, .inr (13, [.int (md + 1), .ref (g.2.2 4), .int 0])), (v, ek)]) (is := [0, 1]) (q0 := 0) rfl rfl ln_AL_131 w_im_AL_add_1 w_se_AL_add_1 ok_AL_add_0_AL_add_1 d_AL_add_0_20 (C_AL_addA0 g a v (md + 1) ek ho) rfl rfl (Nat.le_of_ble_eq_true rfl) rfl (by decide) (by omega) (by omega) (fun E cs1 hx => ?_) (fun v cs1 hx => ?_)
  · obtain ⟨q, e1, -⟩ := hx
    cases e1
  · obtain ⟨q, e1, rfl⟩ := hx
    cases e1
    refine ⟨rfl, ?_⟩
    refine r_st (st2 := []) rfl ?_
    refine r_cs (cs2 := [(a, .inr (13, [.int (md + 1), .ref q, .int 1])), (v, ek), (q, .inl (5, 10, .inr (.inr (.inr (.inr (va_up (fun _ => none) 0 (some v)))))))]) rfl ?_
    refine r_iconst d_AL_add_0_23 (v := 1) (by decide) ?_
    refine r_iret d_AL_add_0_24 rfl rfl ?_
    exact ⟨q, rfl, rfl⟩
abbrev M_Preconditions_checkIndex : zM := (⟨"jdk/internal/util/Preconditions", "checkIndex", "(IILjava/util/function/BiFunction;)I"⟩, prog_49_method_11_code, 3, (Option.some FieldType.int), 1, 20, [])
theorem d_Preconditions_checkIndex_0 : decode prog_49_method_11_code 0 = .ok (.iload_n 0, 1) := zo_26 (zd_b zq_prog_49_method_11_code_0 0 rfl rfl rfl)
theorem d_Preconditions_checkIndex_1 : decode prog_49_method_11_code 1 = .ok (.ifCond .lt 8, 3) := zo_155 (d := 0) (e := 8) (zd_b zq_prog_49_method_11_code_0 1 rfl rfl rfl) (zd_b zq_prog_49_method_11_code_0 2 rfl rfl rfl) (zd_b zq_prog_49_method_11_code_0 3 rfl rfl rfl) (by decide +kernel)
theorem d_Preconditions_checkIndex_4 : decode prog_49_method_11_code 4 = .ok (.iload_n 0, 1) := zo_26 (zd_b zq_prog_49_method_11_code_0 4 rfl rfl rfl)
theorem d_Preconditions_checkIndex_5 : decode prog_49_method_11_code 5 = .ok (.iload_n 1, 1) := zo_27 (zd_b zq_prog_49_method_11_code_0 5 rfl rfl rfl)
theorem d_Preconditions_checkIndex_6 : decode prog_49_method_11_code 6 = .ok (.if_icmp .lt 10, 3) := zo_161 (d := 0) (e := 10) (zd_b zq_prog_49_method_11_code_0 6 rfl rfl rfl) (zd_b zq_prog_49_method_11_code_0 7 rfl rfl rfl) (zd_b zq_prog_49_method_11_code_0 8 rfl rfl rfl) (by decide +kernel)
theorem d_Preconditions_checkIndex_16 : decode prog_49_method_11_code 16 = .ok (.iload_n 0, 1) := zo_26 (zd_b zq_prog_49_method_11_code_0 16 rfl rfl rfl)
theorem d_Preconditions_checkIndex_17 : decode prog_49_method_11_code 17 = .ok (.ireturn, 1) := zo_172 (zd_b zq_prog_49_method_11_code_0 17 rfl rfl rfl)
set_option maxHeartbeats 4000000 in
set_option maxRecDepth 100000 in
theorem C_Pr_checkIndex (g : zG) (x sz : Int32) (h0 : ¬ x < 0) (h1 : x < sz) : CT g M_Preconditions_checkIndex [.int x, .int sz, .null] [] (fun o cs1 => o = .inl (some (.int x)) ∧ cs1 = []) 0 0 := by
  refine z_of (by decide) rfl (Nat.le_of_ble_eq_true rfl) (fun w0 => ?_)
  refine r_lvE (lv2 := [(0, .int x), (1, .int sz), (2, .null)]) rfl ?_
  refine r_iload_n d_Preconditions_checkIndex_0 rfl 0 rfl ?_
  refine r_if_lt (tgt := 9) d_Preconditions_checkIndex_1 (by decide) (fun c_1 => ?_) (fun c_1 => ?_)
  · exact absurd c_1 h0
  · refine r_iload_n d_Preconditions_checkIndex_4 rfl 0 rfl ?_
    refine r_iload_n d_Preconditions_checkIndex_5 rfl 1 rfl ?_
    refine r_icmp_lt (tgt := 16) d_Preconditions_checkIndex_6 (by decide) (fun c_6 => ?_) (fun c_6 => ?_)
    · refine r_iload_n d_Preconditions_checkIndex_16 rfl 0 rfl ?_
      refine r_iret d_Preconditions_checkIndex_17 rfl rfl ?_
      exact ⟨rfl, rfl⟩
    · exact absurd h1 c_6
abbrev M_Objects_checkIndex : zM := (⟨"java/util/Objects", "checkIndex", "(II)I"⟩, prog_45_method_17_code, 2, (Option.some FieldType.int), 2, 42, [])
theorem d_Objects_checkIndex_0 : decode prog_45_method_17_code 0 = .ok (.iload_n 0, 1) := zo_26 (zd_b zq_prog_45_method_17_code_0 0 rfl rfl rfl)
theorem d_Objects_checkIndex_1 : decode prog_45_method_17_code 1 = .ok (.iload_n 1, 1) := zo_27 (zd_b zq_prog_45_method_17_code_0 1 rfl rfl rfl)
theorem d_Objects_checkIndex_2 : decode prog_45_method_17_code 2 = .ok (.aconst_null, 1) := zo_1 (zd_b zq_prog_45_method_17_code_0 2 rfl rfl rfl)
theorem d_Objects_checkIndex_3 : decode prog_45_method_17_code 3 = .ok (.invokestatic 105, 3) := zo_184 (d := 0) (e := 105) (zd_b zq_prog_45_method_17_code_0 3 rfl rfl rfl) (zd_b zq_prog_45_method_17_code_0 4 rfl rfl rfl) (zd_b zq_prog_45_method_17_code_0 5 rfl rfl rfl)
theorem ok_Objects_checkIndex_Preconditions_checkIndex : z_ok M_Objects_checkIndex M_Preconditions_checkIndex 3 := ⟨z_mj2 (i := 186) rfl (by decide +kernel), rfl, ⟨by decide +kernel, by decide +kernel, by decide +kernel⟩, ⟨by decide, by decide⟩, z_mj1 (i := 19) rfl (by decide +kernel), rfl⟩
theorem ln_Objects_105 : Cond.methodLink "java/util/Objects" 105 M_Preconditions_checkIndex.1 ∈ z_gw := z_mj2 (i := 184) rfl (by decide +kernel)
theorem w_st_Preconditions_checkIndex : Cond.static M_Preconditions_checkIndex.1 ∈ z_gw := z_mj2 (i := 185) rfl (by decide +kernel)
theorem d_Objects_checkIndex_6 : decode prog_45_method_17_code 6 = .ok (.ireturn, 1) := zo_172 (zd_b zq_prog_45_method_17_code_0 6 rfl rfl rfl)
set_option maxHeartbeats 4000000 in
set_option maxRecDepth 100000 in
theorem C_Ob_checkIndex (g : zG) (x sz : Int32) (h0 : ¬ x < 0) (h1 : x < sz) : CT g M_Objects_checkIndex [.int x, .int sz] [] (fun o cs1 => o = .inl (some (.int x)) ∧ cs1 = []) 0 0 := by
  refine z_of (by decide) rfl (Nat.le_of_ble_eq_true rfl) (fun w0 => ?_)
  refine r_lvE (lv2 := [(0, .int x), (1, .int sz)]) rfl ?_
  refine r_iload_n d_Objects_checkIndex_0 rfl 0 rfl ?_
  refine r_iload_n d_Objects_checkIndex_1 rfl 1 rfl ?_
  refine r_null d_Objects_checkIndex_2 ?_
  refine r_callS (As := [.int x, .int sz, .null]) (rest := []) (csC := []) (is := []) ln_Objects_105 w_st_Preconditions_checkIndex ok_Objects_checkIndex_Preconditions_checkIndex d_Objects_checkIndex_3 (C_Pr_checkIndex g x sz h0 h1) rfl rfl (Nat.le_of_ble_eq_true rfl) rfl (by decide) (by omega) (by omega) (fun E cs1 hx => ?_) (fun v cs1 hx => ?_)
  · exact absurd hx.1 (by simp)
  · obtain ⟨e1, rfl⟩ := hx
    cases e1
    refine ⟨rfl, ?_⟩
    refine r_st (st2 := [.int x]) rfl ?_
    refine r_cs (cs2 := []) rfl ?_
    refine r_iret d_Objects_checkIndex_6 rfl rfl ?_
    exact ⟨rfl, rfl⟩
abbrev M_AL_elementData : zM := (⟨"java/util/ArrayList", "elementData", "(I)Ljava/lang/Object;"⟩, prog_40_method_18_code, 2, (Option.some (FieldType.object "java/lang/Object")), 1, 20, [])
theorem d_AL_elementData_0 : decode prog_40_method_18_code 0 = .ok (.aload_n 0, 1) := zo_42 (zd_b zq_prog_40_method_18_code_0 0 rfl rfl rfl)
theorem d_AL_elementData_1 : decode prog_40_method_18_code 1 = .ok (.getfield 9, 3) := zo_180 (d := 0) (e := 9) (zd_b zq_prog_40_method_18_code_0 1 rfl rfl rfl) (zd_b zq_prog_40_method_18_code_0 2 rfl rfl rfl) (zd_b zq_prog_40_method_18_code_0 3 rfl rfl rfl)
theorem d_AL_elementData_4 : decode prog_40_method_18_code 4 = .ok (.iload_n 1, 1) := zo_27 (zd_b zq_prog_40_method_18_code_0 4 rfl rfl rfl)
theorem d_AL_elementData_5 : decode prog_40_method_18_code 5 = .ok (.aaload, 1) := zo_50 (zd_b zq_prog_40_method_18_code_0 5 rfl rfl rfl)
theorem d_AL_elementData_6 : decode prog_40_method_18_code 6 = .ok (.areturn, 1) := zo_176 (zd_b zq_prog_40_method_18_code_0 6 rfl rfl rfl)
set_option maxHeartbeats 4000000 in
set_option maxRecDepth 100000 in
theorem C_AL_elementData (g : zG) (a dd N : Nat) (md sz : Int32) (f : Nat → Option Nat) (x : Int32) (v : Nat) (hin : vp_in x N) (hv : f x.toNatClampNeg = some v) : CT g M_AL_elementData [.ref a, .int x] [(a, .inr (13, [.int md, .ref dd, .int sz])), (dd, .inl (5, N, .inr (.inr (.inr (.inr f)))))] (fun o cs1 => o = .inl (some (.ref v)) ∧ cs1 = [(a, .inr (13, [.int md, .ref dd, .int sz])), (dd, .inl (5, N, .inr (.inr (.inr (.inr f)))))]) 0 0 := by
  refine z_of (by decide) rfl (Nat.le_of_ble_eq_true rfl) (fun w0 => ?_)
  refine r_lvE (lv2 := [(0, .ref a), (1, .int x)]) rfl ?_
  refine r_aload_n d_AL_elementData_0 rfl 0 rfl ?_
  refine r_get fs_AL_9 d_AL_elementData_1 (q0 := 0) rfl rfl ?_
  refine r_iload_n d_AL_elementData_4 rfl 1 rfl ?_
  refine r_aald d_AL_elementData_5 (q0 := 1) rfl hin (v := .ref v) (by rw [hv]; rfl) ?_
  refine r_aret d_AL_elementData_6 rfl (Or.inl ⟨_, rfl⟩) (Or.inr ⟨_, rfl⟩) ?_
  exact ⟨rfl, rfl⟩
abbrev M_AL_get : zM := (⟨"java/util/ArrayList", "get", "(I)Ljava/lang/Object;"⟩, prog_40_method_20_code, 2, (Option.some (FieldType.object "java/lang/Object")), 3, 63, [])
theorem d_AL_get_0 : decode prog_40_method_20_code 0 = .ok (.iload_n 1, 1) := zo_27 (zd_b zq_prog_40_method_20_code_0 0 rfl rfl rfl)
theorem d_AL_get_1 : decode prog_40_method_20_code 1 = .ok (.aload_n 0, 1) := zo_42 (zd_b zq_prog_40_method_20_code_0 1 rfl rfl rfl)
theorem d_AL_get_2 : decode prog_40_method_20_code 2 = .ok (.getfield 48, 3) := zo_180 (d := 0) (e := 48) (zd_b zq_prog_40_method_20_code_0 2 rfl rfl rfl) (zd_b zq_prog_40_method_20_code_0 3 rfl rfl rfl) (zd_b zq_prog_40_method_20_code_0 4 rfl rfl rfl)
theorem d_AL_get_5 : decode prog_40_method_20_code 5 = .ok (.invokestatic 118, 3) := zo_184 (d := 0) (e := 118) (zd_b zq_prog_40_method_20_code_0 5 rfl rfl rfl) (zd_b zq_prog_40_method_20_code_0 6 rfl rfl rfl) (zd_b zq_prog_40_method_20_code_0 7 rfl rfl rfl)
theorem ok_AL_get_Objects_checkIndex : z_ok M_AL_get M_Objects_checkIndex 2 := ⟨z_mj2 (i := 183) rfl (by decide +kernel), rfl, ⟨by decide +kernel, by decide +kernel, by decide +kernel⟩, ⟨by decide, by decide⟩, z_mj1 (i := 32) rfl (by decide +kernel), rfl⟩
theorem ln_AL_118 : Cond.methodLink "java/util/ArrayList" 118 M_Objects_checkIndex.1 ∈ z_gw := z_mj2 (i := 181) rfl (by decide +kernel)
theorem w_st_Objects_checkIndex : Cond.static M_Objects_checkIndex.1 ∈ z_gw := z_mj2 (i := 182) rfl (by decide +kernel)
theorem d_AL_get_8 : decode prog_40_method_20_code 8 = .ok (.pop, 1) := zo_87 (zd_b zq_prog_40_method_20_code_0 8 rfl rfl rfl)
theorem d_AL_get_9 : decode prog_40_method_20_code 9 = .ok (.aload_n 0, 1) := zo_42 (zd_b zq_prog_40_method_20_code_0 9 rfl rfl rfl)
theorem d_AL_get_10 : decode prog_40_method_20_code 10 = .ok (.iload_n 1, 1) := zo_27 (zd_b zq_prog_40_method_20_code_0 10 rfl rfl rfl)
theorem d_AL_get_11 : decode prog_40_method_20_code 11 = .ok (.invokevirtual 123, 3) := zo_182 (d := 0) (e := 123) (zd_b zq_prog_40_method_20_code_0 11 rfl rfl rfl) (zd_b zq_prog_40_method_20_code_0 12 rfl rfl rfl) (zd_b zq_prog_40_method_20_code_0 13 rfl rfl rfl)
theorem ok_AL_get_AL_elementData : z_ok M_AL_get M_AL_elementData 1 := ⟨z_mj2 (i := 190) rfl (by decide +kernel), rfl, ⟨by decide +kernel, by decide +kernel, by decide +kernel⟩, ⟨by decide, by decide⟩, z_mj1 (i := 13) rfl (by decide +kernel), rfl⟩
theorem ln_AL_123 : Cond.methodLink "java/util/ArrayList" 123 M_AL_elementData.1 ∈ z_gw := z_mj2 (i := 187) rfl (by decide +kernel)
theorem w_im_AL_elementData : Cond.instanceMethod M_AL_elementData.1 ∈ z_gw := z_mj2 (i := 188) rfl (by decide +kernel)
theorem w_se_AL_elementData : Cond.selects M_AL_elementData.1.cls M_AL_elementData.1 M_AL_elementData.1 ∈ z_gw := z_mj2 (i := 189) rfl (by decide +kernel)
theorem d_AL_get_14 : decode prog_40_method_20_code 14 = .ok (.areturn, 1) := zo_176 (zd_b zq_prog_40_method_20_code_0 14 rfl rfl rfl)
set_option maxHeartbeats 4000000 in
set_option maxRecDepth 100000 in
theorem C_AL_get (g : zG) (a dd N : Nat) (md sz : Int32) (f : Nat → Option Nat) (x : Int32) (v : Nat) (hin : vp_in x N) (hv : f x.toNatClampNeg = some v) (h0 : ¬ x < 0) (h1 : x < sz) : CT g M_AL_get [.ref a, .int x] [(a, .inr (13, [.int md, .ref dd, .int sz])), (dd, .inl (5, N, .inr (.inr (.inr (.inr f)))))] (fun o cs1 => o = .inl (some (.ref v)) ∧ cs1 = [(a, .inr (13, [.int md, .ref dd, .int sz])), (dd, .inl (5, N, .inr (.inr (.inr (.inr f)))))]) 0 0 := by
  refine z_of (by decide) rfl (Nat.le_of_ble_eq_true rfl) (fun w0 => ?_)
  refine r_lvE (lv2 := [(0, .ref a), (1, .int x)]) rfl ?_
  refine r_iload_n d_AL_get_0 rfl 1 rfl ?_
  refine r_aload_n d_AL_get_1 rfl 0 rfl ?_
  refine r_get fs_AL_48 d_AL_get_2 (q0 := 0) rfl rfl ?_
  refine r_callS (As := [.int x, .int sz]) (rest := []) (csC := []) (is := []) ln_AL_118 w_st_Objects_checkIndex ok_AL_get_Objects_checkIndex d_AL_get_5 (C_Ob_checkIndex g x sz h0 h1) rfl rfl (Nat.le_of_ble_eq_true rfl) rfl (by decide) (by omega) (by omega) (fun E cs1 hx => ?_) (fun v cs1 hx => ?_)
  · exact absurd hx.1 (by simp)
  · obtain ⟨e1, rfl⟩ := hx
    cases e1
    refine ⟨rfl, ?_⟩
    refine r_st (st2 := [.int x]) rfl ?_
    refine r_cs (cs2 := [(a, .inr (13, [.int md, .ref dd, .int sz])), (dd, .inl (5, N, .inr (.inr (.inr (.inr f)))))]) rfl ?_
    refine r_pop d_AL_get_8 rfl ?_
    refine r_aload_n d_AL_get_9 rfl 0 rfl ?_
    refine r_iload_n d_AL_get_10 rfl 1 rfl ?_
    refine r_callV (As := [.int x]) (rest := []) (csC := [(a, .inr (13, [.int md, .ref dd, .int sz])), (dd, .inl (5, N, .inr (.inr (.inr (.inr f)))))]) (is := [0, 1]) (q0 := 0) rfl rfl ln_AL_123 w_im_AL_elementData w_se_AL_elementData ok_AL_get_AL_elementData d_AL_get_11 (C_AL_elementData g a dd N md sz f x v hin hv) rfl rfl (Nat.le_of_ble_eq_true rfl) rfl (by decide) (by omega) (by omega) (fun E cs1 hx => ?_) (fun v cs1 hx => ?_)
    · exact absurd hx.1 (by simp)
    · obtain ⟨e1, rfl⟩ := hx
      cases e1
      refine ⟨rfl, ?_⟩
      refine r_st (st2 := [.ref v]) rfl ?_
      refine r_cs (cs2 := [(a, .inr (13, [.int md, .ref dd, .int sz])), (dd, .inl (5, N, .inr (.inr (.inr (.inr f)))))]) rfl ?_
      refine r_aret d_AL_get_14 rfl (Or.inl ⟨_, rfl⟩) (Or.inr ⟨_, rfl⟩) ?_
      exact ⟨rfl, rfl⟩
