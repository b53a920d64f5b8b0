set_option maxHeartbeats 4000000 in
set_option maxRecDepth 100000 in
theorem Qx_Ip_pourE {g : zG} {ad : Nat → Nat} {t : zTT} {u : zNN} {w : zW} (hI : IV g ad t u w) (h0 : u.1 0 = 0) : zMB g M_Ip_pour [.ref (ad 0)] w (fun o w1 => o = .inr "java/util/NoSuchElementException" ∧ IV g ad t u w1) 1 6 := by
  obtain ⟨e_a, wf_a, k_a⟩ := hI.1.2 0 (by decide)
  obtain rfl := kd_0.mp k_a
  refine y_of (by decide) rfl (Nat.le_of_ble_eq_true rfl) (y_base (cs := [((ad 0), .inr (11, [.ref (ad 1), .ref (ad 5), .ref (ad 18), .ref (ad 31), .ref (ad 32), .ref (ad 36), .ref (ad 42), .ref (ad 45), .ref (ad 47), .ref (ad 49), .ref (ad 50), .ref (ad 51)]))]) (hI.1.I [0] _ rfl (by decide) (by decide) (List.forall_mem_cons.mpr ⟨wf_a, (fun _ h => nomatch h)⟩)) ?_)
  refine y_lvE (lv2 := [(0, .ref (ad 0))]) rfl ?_
  refine y_aload_n d_Ip_pour_0 rfl 0 rfl ?_
  refine y_get fs_Ip_74 d_Ip_pour_1 (q0 := 0) rfl rfl ?_
  refine yw_callVL (As := []) (rest := []) (ci := 13) rfl (fun wA hA => ((hI.gen (t2 := t) (is := [0]) (L2 := []) hA rfl ⟨kd_0.mpr rfl, trivial⟩ (by decide) (by decide) (fun _ h => nomatch h) (fun _ h => nomatch h) (fun _ _ _ => rfl) (fun h => h) rfl).2.1.1 0 (by decide)).ob) ln_Ip_422 w_im_AL_isEmpty w_se_AL_isEmpty ok_Ip_pour_AL_isEmpty d_Ip_pour_4 (fun wA hA => Q_isEmpty ((hI.gen (t2 := t) (is := [0]) (L2 := []) hA rfl ⟨kd_0.mpr rfl, trivial⟩ (by decide) (by decide) (fun _ h => nomatch h) (fun _ h => nomatch h) (fun _ _ _ => rfl) (fun h => h) rfl).2.1.1 0 (by decide))) rfl rfl (Nat.le_of_ble_eq_true rfl) (by omega) (by omega) (fun wA4 hA4 E wB4 hx => ?_) (fun wA4 hA4 v wB4 hx => ?_)
  · exact absurd hx.1 (by simp)
  · obtain ⟨e1, e2⟩ := hx
    rw [if_pos h0] at e1
    cases e1
    refine yw_st (st2 := [.int 1]) rfl ?_
    subst e2
    refine y_go hA4 ?_
    refine y_if_eq (tgt := 21) d_Ip_pour_7 (by decide) (fun c_7 => ?_) (fun c_7 => ?_)
    · exact absurd c_7 (by decide)
    · refine y_throwXW tb_Ip_150_154 sr_Ip_423 d_Ip_pour_10 d_Ip_pour_13 d_Ip_pour_14 d_Ip_pour_17 d_Ip_pour_20 rfl (by decide) (by decide) (Nat.le_of_ble_eq_true rfl) (by omega) (by omega) ?_
      exact fun w1 h1 => ⟨rfl, (hI.gen (t2 := t) (is := [0]) (L2 := []) h1 rfl ⟨kd_0.mpr rfl, trivial⟩ (by decide) (by decide) (fun _ h => nomatch h) (fun _ h => nomatch h) (fun _ _ _ => rfl) (fun h => h) rfl)⟩
theorem d_Ip_pour_21 : decode prog_1_method_37_code 21 = .ok (.aload_n 0, 1) := zo_42 (zd_b zq_prog_1_method_37_code_0 21 rfl rfl rfl)
theorem d_Ip_pour_22 : decode prog_1_method_37_code 22 = .ok (.getfield 50, 3) := zo_180 (d := 0) (e := 50) (zd_b zq_prog_1_method_37_code_0 22 rfl rfl rfl) (zd_b zq_prog_1_method_37_code_0 23 rfl rfl rfl) (zd_b zq_prog_1_method_37_code_0 24 rfl rfl rfl)
theorem d_Ip_pour_25 : decode prog_1_method_37_code 25 = .ok (.invokevirtual 314, 3) := zo_182 (d := 1) (e := 58) (zd_b zq_prog_1_method_37_code_0 25 rfl rfl rfl) (zd_b zq_prog_1_method_37_code_0 26 rfl rfl rfl) (zd_b zq_prog_1_method_37_code_0 27 rfl rfl rfl)
theorem ok_Ip_pour_La_isEmpty : z_ok M_Ip_pour M_La_isEmpty 0 := ⟨z_mj5 (i := 110) rfl (by decide +kernel), rfl, ⟨by decide +kernel, by decide +kernel, by decide +kernel⟩, ⟨by decide, by decide⟩, z_mj1 (i := 9) rfl (by decide +kernel), rfl⟩
theorem d_Ip_pour_28 : decode prog_1_method_37_code 28 = .ok (.ifCond .ne 16, 3) := zo_154 (d := 0) (e := 16) (zd_b zq_prog_1_method_37_code_0 28 rfl rfl rfl) (zd_b zq_prog_1_method_37_code_0 29 rfl rfl rfl) (zd_b zq_prog_1_method_37_code_0 30 rfl rfl rfl) (by decide +kernel)
theorem d_Ip_pour_44 : decode prog_1_method_37_code 44 = .ok (.new 242, 3) := zo_187 (d := 0) (e := 242) (zd_b zq_prog_1_method_37_code_1 12 rfl rfl rfl) (zd_b zq_prog_1_method_37_code_1 13 rfl rfl rfl) (zd_b zq_prog_1_method_37_code_1 14 rfl rfl rfl)
theorem sr_Ip_425 : Cond.stringRef "Ironpour" 425 "the ladle is empty or too cold" ∈ lw_tbl := z_tb6 (i := 117) rfl
theorem d_Ip_pour_47 : decode prog_1_method_37_code 47 = .ok (.dup, 1) := zo_89 (zd_b zq_prog_1_method_37_code_1 15 rfl rfl rfl)
theorem d_Ip_pour_48 : decode prog_1_method_37_code 48 = .ok (.ldc_w 425, 3) := zo_19 (d := 1) (e := 169) (zd_b zq_prog_1_method_37_code_1 16 rfl rfl rfl) (zd_b zq_prog_1_method_37_code_1 17 rfl rfl rfl) (zd_b zq_prog_1_method_37_code_1 18 rfl rfl rfl)
theorem d_Ip_pour_51 : decode prog_1_method_37_code 51 = .ok (.invokespecial 246, 3) := zo_183 (d := 0) (e := 246) (zd_b zq_prog_1_method_37_code_1 19 rfl rfl rfl) (zd_b zq_prog_1_method_37_code_1 20 rfl rfl rfl) (zd_b zq_prog_1_method_37_code_1 21 rfl rfl rfl)
theorem d_Ip_pour_54 : decode prog_1_method_37_code 54 = .ok (.athrow, 1) := zo_191 (zd_b zq_prog_1_method_37_code_1 22 rfl rfl rfl)
theorem d_Ip_pour_31 : decode prog_1_method_37_code 31 = .ok (.aload_n 0, 1) := zo_42 (zd_b zq_prog_1_method_37_code_0 31 rfl rfl rfl)
theorem d_Ip_pour_32 : decode prog_1_method_37_code 32 = .ok (.getfield 50, 3) := zo_180 (d := 0) (e := 50) (zd_b zq_prog_1_method_37_code_1 0 rfl rfl rfl) (zd_b zq_prog_1_method_37_code_1 1 rfl rfl rfl) (zd_b zq_prog_1_method_37_code_1 2 rfl rfl rfl)
theorem d_Ip_pour_35 : decode prog_1_method_37_code 35 = .ok (.getfield 353, 3) := zo_180 (d := 1) (e := 97) (zd_b zq_prog_1_method_37_code_1 3 rfl rfl rfl) (zd_b zq_prog_1_method_37_code_1 4 rfl rfl rfl) (zd_b zq_prog_1_method_37_code_1 5 rfl rfl rfl)
theorem d_Ip_pour_38 : decode prog_1_method_37_code 38 = .ok (.sipush 1250, 3) := zo_17 (d := 4) (e := 226) (zd_b zq_prog_1_method_37_code_1 6 rfl rfl rfl) (zd_b zq_prog_1_method_37_code_1 7 rfl rfl rfl) (zd_b zq_prog_1_method_37_code_1 8 rfl rfl rfl) (by decide +kernel)
theorem d_Ip_pour_41 : decode prog_1_method_37_code 41 = .ok (.if_icmp .ge 14, 3) := zo_162 (d := 0) (e := 14) (zd_b zq_prog_1_method_37_code_1 9 rfl rfl rfl) (zd_b zq_prog_1_method_37_code_1 10 rfl rfl rfl) (zd_b zq_prog_1_method_37_code_1 11 rfl rfl rfl) (by decide +kernel)
set_option maxHeartbeats 4000000 in
set_option maxRecDepth 100000 in
theorem Qx_Ip_pourF {g : zG} {ad : Nat → Nat} {t : zTT} {u : zNN} {w : zW} (hI : IV g ad t u w) (h0 : ¬ u.1 0 = 0) (h1 : ¬ (¬ (t.1 43).1 0 = 0 ∧ 1250 ≤ (t.1 42).1 0)) : zMB g M_Ip_pour [.ref (ad 0)] w (fun o w1 => o = .inr "java/lang/IllegalStateException" ∧ IV g ad t u w1) 6 60 := by
  obtain ⟨e_a, wf_a, k_a⟩ := hI.1.2 0 (by decide)
  obtain rfl := kd_0.mp k_a
  obtain ⟨e_la, wf_la, k_la⟩ := hI.1.2 42 (by decide)
  obtain ⟨c_la_0, rfl⟩ := kd_42.mp k_la
  obtain ⟨e_lab, wf_lab, k_lab⟩ := hI.1.2 43 (by decide)
  obtain ⟨c_lab_0, rfl⟩ := kd_43.mp k_lab
  obtain ⟨e_labg, wf_labg, k_labg⟩ := hI.1.2 44 (by decide)
  obtain rfl := kd_44.mp k_labg
  have hsz0 := hI.sz
  have h33 := hI.n5 1 (by decide)
  obtain ⟨m9, hm9⟩ : ∃ m9, u.1 0 = m9 + 1 := ⟨u.1 0 - 1, by omega⟩
  refine y_of (by decide) rfl (Nat.le_of_ble_eq_true rfl) (y_base (cs := [((ad 0), .inr (11, [.ref (ad 1), .ref (ad 5), .ref (ad 18), .ref (ad 31), .ref (ad 32), .ref (ad 36), .ref (ad 42), .ref (ad 45), .ref (ad 47), .ref (ad 49), .ref (ad 50), .ref (ad 51)])), ((ad 42), .inr (5, [.ref (ad 43), .int ((t.1 42).1 0), .int ((t.1 42).1 1), .int ((t.1 42).1 2)])), ((ad 43), .inr (6, [.ref (ad 44), .int ((t.1 43).1 0)])), ((ad 44), .inl (3, 4, .inr (.inl ((t.1 44).2.1))))]) (hI.1.I [0, 42, 43, 44] _ rfl (by decide) (by decide) (List.forall_mem_cons.mpr ⟨wf_a, (List.forall_mem_cons.mpr ⟨wf_la, (List.forall_mem_cons.mpr ⟨wf_lab, (List.forall_mem_cons.mpr ⟨wf_labg, (fun _ h => nomatch h)⟩)⟩)⟩)⟩)) ?_)
  refine y_lvE (lv2 := [(0, .ref (ad 0))]) rfl ?_
  refine y_aload_n d_Ip_pour_0 rfl 0 rfl ?_
  refine y_get fs_Ip_74 d_Ip_pour_1 (q0 := 0) rfl rfl ?_
  refine yw_callVL (As := []) (rest := []) (ci := 13) rfl (fun wA hA => ((hI.gen (t2 := t) (is := [0, 42, 43, 44]) (L2 := []) hA rfl ⟨kd_0.mpr rfl, kd_42.mpr ⟨c_la_0, rfl⟩, kd_43.mpr ⟨c_lab_0, rfl⟩, kd_44.mpr rfl, trivial⟩ (by decide) (by decide) (fun _ h => nomatch h) (fun _ h => nomatch h) (fun _ _ _ => rfl) (fun h => h) rfl).2.1.1 0 (by decide)).ob) ln_Ip_422 w_im_AL_isEmpty w_se_AL_isEmpty ok_Ip_pour_AL_isEmpty d_Ip_pour_4 (fun wA hA => Q_isEmpty ((hI.gen (t2 := t) (is := [0, 42, 43, 44]) (L2 := []) hA rfl ⟨kd_0.mpr rfl, kd_42.mpr ⟨c_la_0, rfl⟩, kd_43.mpr ⟨c_lab_0, rfl⟩, kd_44.mpr rfl, trivial⟩ (by decide) (by decide) (fun _ h => nomatch h) (fun _ h => nomatch h) (fun _ _ _ => rfl) (fun h => h) rfl).2.1.1 0 (by decide))) rfl rfl (Nat.le_of_ble_eq_true rfl) (by omega) (by omega) (fun wA4 hA4 E wB4 hx => ?_) (fun wA4 hA4 v wB4 hx => ?_)
  · exact absurd hx.1 (by simp)
  · obtain ⟨e1, e2⟩ := hx
    rw [if_neg h0] at e1
    cases e1
    refine yw_st (st2 := [.int 0]) rfl ?_
    subst e2
    refine y_go hA4 ?_
    refine y_if_eq (tgt := 21) d_Ip_pour_7 (by decide) (fun c_7 => ?_) (fun c_7 => ?_)
    · refine y_aload_n d_Ip_pour_21 rfl 0 rfl ?_
      refine y_get fs_Ip_50 d_Ip_pour_22 (q0 := 0) rfl rfl ?_
      refine y_callV (As := []) (rest := []) (csC := [((ad 42), .inr (5, [.ref (ad 43), .int ((t.1 42).1 0), .int ((t.1 42).1 1), .int ((t.1 42).1 2)])), ((ad 43), .inr (6, [.ref (ad 44), .int ((t.1 43).1 0)])), ((ad 44), .inl (3, 4, .inr (.inl ((t.1 44).2.1))))]) (is := [1, 2, 3]) (q0 := 1) rfl rfl ln_Ip_314 w_im_La_isEmpty w_se_La_isEmpty ok_Ip_pour_La_isEmpty d_Ip_pour_25 (C_La_isEmpty g (ad 42) (ad 43) (ad 44) ((t.1 44).2.1) ((t.1 42).1 0) ((t.1 42).1 1) ((t.1 42).1 2) ((t.1 43).1 0)) rfl rfl (Nat.le_of_ble_eq_true rfl) rfl (by decide) (by omega) (by omega) (fun E cs1 hx => ?_) (fun v cs1 hx => ?_)
      · exact absurd hx.1 (by simp)
      · obtain ⟨e1, rfl⟩ := hx
        cases e1
        refine ⟨rfl, ?_⟩
        refine y_st (st2 := [.int (if ((t.1 43).1 0) = 0 then 1 else 0)]) rfl ?_
        refine y_cs (cs2 := [((ad 0), .inr (11, [.ref (ad 1), .ref (ad 5), .ref (ad 18), .ref (ad 31), .ref (ad 32), .ref (ad 36), .ref (ad 42), .ref (ad 45), .ref (ad 47), .ref (ad 49), .ref (ad 50), .ref (ad 51)])), ((ad 42), .inr (5, [.ref (ad 43), .int ((t.1 42).1 0), .int ((t.1 42).1 1), .int ((t.1 42).1 2)])), ((ad 43), .inr (6, [.ref (ad 44), .int ((t.1 43).1 0)])), ((ad 44), .inl (3, 4, .inr (.inl ((t.1 44).2.1))))]) rfl ?_
        refine y_if_ne (tgt := 44) d_Ip_pour_28 (by decide) (fun c_28 => ?_) (fun c_28 => ?_)
        · refine y_throwW tb_Ip_242_246 sr_Ip_425 d_Ip_pour_44 d_Ip_pour_47 d_Ip_pour_48 d_Ip_pour_51 d_Ip_pour_54 rfl (by decide) (by decide) (Nat.le_of_ble_eq_true rfl) (by omega) (by omega) ?_
          exact fun w1 h1 => ⟨rfl, (hI.gen (t2 := t) (is := [0, 42, 43, 44]) (L2 := []) h1 rfl ⟨kd_0.mpr rfl, kd_42.mpr ⟨c_la_0, rfl⟩, kd_43.mpr ⟨c_lab_0, rfl⟩, kd_44.mpr rfl, trivial⟩ (by decide) (by decide) (fun _ h => nomatch h) (fun _ h => nomatch h) (fun _ _ _ => rfl) (fun h => h) rfl)⟩
        · refine y_aload_n d_Ip_pour_31 rfl 0 rfl ?_
          refine y_get fs_Ip_50 d_Ip_pour_32 (q0 := 0) rfl rfl ?_
          refine y_get fs_Ip_353 d_Ip_pour_35 (q0 := 1) rfl rfl ?_
          refine y_sipush d_Ip_pour_38 (v := 1250) (by decide) ?_
          refine y_icmp_ge (tgt := 55) d_Ip_pour_41 (by decide) (fun c_41 => ?_) (fun c_41 => ?_)
          · exact absurd ⟨z_b0 c_28, c_41⟩ h1
          · refine y_throwW tb_Ip_242_246 sr_Ip_425 d_Ip_pour_44 d_Ip_pour_47 d_Ip_pour_48 d_Ip_pour_51 d_Ip_pour_54 rfl (by decide) (by decide) (Nat.le_of_ble_eq_true rfl) (by omega) (by omega) ?_
            exact fun w1 h1 => ⟨rfl, (hI.gen (t2 := t) (is := [0, 42, 43, 44]) (L2 := []) h1 rfl ⟨kd_0.mpr rfl, kd_42.mpr ⟨c_la_0, rfl⟩, kd_43.mpr ⟨c_lab_0, rfl⟩, kd_44.mpr rfl, trivial⟩ (by decide) (by decide) (fun _ h => nomatch h) (fun _ h => nomatch h) (fun _ _ _ => rfl) (fun h => h) rfl)⟩
    · exact absurd c_7 (by decide)
theorem d_Ip_pour_55 : decode prog_1_method_37_code 55 = .ok (.aload_n 0, 1) := zo_42 (zd_b zq_prog_1_method_37_code_1 23 rfl rfl rfl)
theorem d_Ip_pour_56 : decode prog_1_method_37_code 56 = .ok (.getfield 78, 3) := zo_180 (d := 0) (e := 78) (zd_b zq_prog_1_method_37_code_1 24 rfl rfl rfl) (zd_b zq_prog_1_method_37_code_1 25 rfl rfl rfl) (zd_b zq_prog_1_method_37_code_1 26 rfl rfl rfl)
theorem d_Ip_pour_59 : decode prog_1_method_37_code 59 = .ok (.invokevirtual 341, 3) := zo_182 (d := 1) (e := 85) (zd_b zq_prog_1_method_37_code_1 27 rfl rfl rfl) (zd_b zq_prog_1_method_37_code_1 28 rfl rfl rfl) (zd_b zq_prog_1_method_37_code_1 29 rfl rfl rfl)
theorem ok_Ip_pour_AL_size : z_ok M_Ip_pour M_AL_size 0 := ⟨z_mj2 (i := 172) rfl (by decide +kernel), rfl, ⟨by decide +kernel, by decide +kernel, by decide +kernel⟩, ⟨by decide, by decide⟩, z_mj1 (i := 13) rfl (by decide +kernel), rfl⟩
theorem d_Ip_pour_62 : decode prog_1_method_37_code 62 = .ok (.bipush 30, 2) := zo_16 (d := 30) (zd_b zq_prog_1_method_37_code_1 30 rfl rfl rfl) (zd_b zq_prog_1_method_37_code_1 31 rfl rfl rfl) (by decide +kernel)
theorem d_Ip_pour_64 : decode prog_1_method_37_code 64 = .ok (.if_icmp .lt 14, 3) := zo_161 (d := 0) (e := 14) (zd_b zq_prog_1_method_37_code_2 0 rfl rfl rfl) (zd_b zq_prog_1_method_37_code_2 1 rfl rfl rfl) (zd_b zq_prog_1_method_37_code_2 2 rfl rfl rfl) (by decide +kernel)
theorem d_Ip_pour_67 : decode prog_1_method_37_code 67 = .ok (.new 272, 3) := zo_187 (d := 1) (e := 16) (zd_b zq_prog_1_method_37_code_2 3 rfl rfl rfl) (zd_b zq_prog_1_method_37_code_2 4 rfl rfl rfl) (zd_b zq_prog_1_method_37_code_2 5 rfl rfl rfl)
theorem sr_Ip_427 : Cond.stringRef "Ironpour" 427 "there are 30 castings" ∈ lw_tbl := z_tb6 (i := 118) rfl
theorem d_Ip_pour_70 : decode prog_1_method_37_code 70 = .ok (.dup, 1) := zo_89 (zd_b zq_prog_1_method_37_code_2 6 rfl rfl rfl)
theorem d_Ip_pour_71 : decode prog_1_method_37_code 71 = .ok (.ldc_w 427, 3) := zo_19 (d := 1) (e := 171) (zd_b zq_prog_1_method_37_code_2 7 rfl rfl rfl) (zd_b zq_prog_1_method_37_code_2 8 rfl rfl rfl) (zd_b zq_prog_1_method_37_code_2 9 rfl rfl rfl)
theorem d_Ip_pour_74 : decode prog_1_method_37_code 74 = .ok (.invokespecial 276, 3) := zo_183 (d := 1) (e := 20) (zd_b zq_prog_1_method_37_code_2 10 rfl rfl rfl) (zd_b zq_prog_1_method_37_code_2 11 rfl rfl rfl) (zd_b zq_prog_1_method_37_code_2 12 rfl rfl rfl)
theorem d_Ip_pour_77 : decode prog_1_method_37_code 77 = .ok (.athrow, 1) := zo_191 (zd_b zq_prog_1_method_37_code_2 13 rfl rfl rfl)
set_option maxHeartbeats 4000000 in
set_option maxRecDepth 100000 in
theorem Qx_Ip_pourG {g : zG} {ad : Nat → Nat} {t : zTT} {u : zNN} {w : zW} (hI : IV g ad t u w) (h0 : ¬ u.1 0 = 0) (h1 : ¬ (t.1 43).1 0 = 0) (h2 : 1250 ≤ (t.1 42).1 0) (h3 : ¬ u.1 1 < 30) : zMB g M_Ip_pour [.ref (ad 0)] w (fun o w1 => o = .inr "java/lang/UnsupportedOperationException" ∧ IV g ad t u w1) 6 60 := by
  obtain ⟨e_a, wf_a, k_a⟩ := hI.1.2 0 (by decide)
  obtain rfl := kd_0.mp k_a
  obtain ⟨e_la, wf_la, k_la⟩ := hI.1.2 42 (by decide)
  obtain ⟨c_la_0, rfl⟩ := kd_42.mp k_la
  obtain ⟨e_lab, wf_lab, k_lab⟩ := hI.1.2 43 (by decide)
  obtain ⟨c_lab_0, rfl⟩ := kd_43.mp k_lab
  obtain ⟨e_labg, wf_labg, k_labg⟩ := hI.1.2 44 (by decide)
  obtain rfl := kd_44.mp k_labg
  have hsz0 := hI.sz
  have h33 := hI.n5 1 (by decide)
  obtain ⟨m9, hm9⟩ : ∃ m9, u.1 0 = m9 + 1 := ⟨u.1 0 - 1, by omega⟩
  refine y_of (by decide) rfl (Nat.le_of_ble_eq_true rfl) (y_base (cs := [((ad 0), .inr (11, [.ref (ad 1), .ref (ad 5), .ref (ad 18), .ref (ad 31), .ref (ad 32), .ref (ad 36), .ref (ad 42), .ref (ad 45), .ref (ad 47), .ref (ad 49), .ref (ad 50), .ref (ad 51)])), ((ad 42), .inr (5, [.ref (ad 43), .int ((t.1 42).1 0), .int ((t.1 42).1 1), .int ((t.1 42).1 2)])), ((ad 43), .inr (6, [.ref (ad 44), .int ((t.1 43).1 0)])), ((ad 44), .inl (3, 4, .inr (.inl ((t.1 44).2.1))))]) (hI.1.I [0, 42, 43, 44] _ rfl (by decide) (by decide) (List.forall_mem_cons.mpr ⟨wf_a, (List.forall_mem_cons.mpr ⟨wf_la, (List.forall_mem_cons.mpr ⟨wf_lab, (List.forall_mem_cons.mpr ⟨wf_labg, (fun _ h => nomatch h)⟩)⟩)⟩)⟩)) ?_)
  refine y_lvE (lv2 := [(0, .ref (ad 0))]) rfl ?_
  refine y_aload_n d_Ip_pour_0 rfl 0 rfl ?_
  refine y_get fs_Ip_74 d_Ip_pour_1 (q0 := 0) rfl rfl ?_
  refine yw_callVL (As := []) (rest := []) (ci := 13) rfl (fun wA hA => ((hI.gen (t2 := t) (is := [0, 42, 43, 44]) (L2 := []) hA rfl ⟨kd_0.mpr rfl, kd_42.mpr ⟨c_la_0, rfl⟩, kd_43.mpr ⟨c_lab_0, rfl⟩, kd_44.mpr rfl, trivial⟩ (by decide) (by decide) (fun _ h => nomatch h) (fun _ h => nomatch h) (fun _ _ _ => rfl) (fun h => h) rfl).2.1.1 0 (by decide)).ob) ln_Ip_422 w_im_AL_isEmpty w_se_AL_isEmpty ok_Ip_pour_AL_isEmpty d_Ip_pour_4 (fun wA hA => Q_isEmpty ((hI.gen (t2 := t) (is := [0, 42, 43, 44]) (L2 := []) hA rfl ⟨kd_0.mpr rfl, kd_42.mpr ⟨c_la_0, rfl⟩, kd_43.mpr ⟨c_lab_0, rfl⟩, kd_44.mpr rfl, trivial⟩ (by decide) (by decide) (fun _ h => nomatch h) (fun _ h => nomatch h) (fun _ _ _ => rfl) (fun h => h) rfl).2.1.1 0 (by decide))) rfl rfl (Nat.le_of_ble_eq_true rfl) (by omega) (by omega) (fun wA4 hA4 E wB4 hx => ?_) (fun wA4 hA4 v wB4 hx => ?_)
  · exact absurd hx.1 (by simp)
  · obtain ⟨e1, e2⟩ := hx
    rw [if_neg h0] at e1
    cases e1
    refine yw_st (st2 := [.int 0]) rfl ?_
    subst e2
    refine y_go hA4 ?_
    refine y_if_eq (tgt := 21) d_Ip_pour_7 (by decide) (fun c_7 => ?_) (fun c_7 => ?_)
    · refine y_aload_n d_Ip_pour_21 rfl 0 rfl ?_
      refine y_get fs_Ip_50 d_Ip_pour_22 (q0 := 0) rfl rfl ?_
      refine y_callV (As := []) (rest := []) (csC := [((ad 42), .inr (5, [.ref (ad 43), .int ((t.1 42).1 0), .int ((t.1 42).1 1), .int ((t.1 42).1 2)])), ((ad 43), .inr (6, [.ref (ad 44), .int ((t.1 43).1 0)])), ((ad 44), .inl (3, 4, .inr (.inl ((t.1 44).2.1))))]) (is := [1, 2, 3]) (q0 := 1) rfl rfl ln_Ip_314 w_im_La_isEmpty w_se_La_isEmpty ok_Ip_pour_La_isEmpty d_Ip_pour_25 (C_La_isEmpty g (ad 42) (ad 43) (ad 44) ((t.1 44).2.1) ((t.1 42).1 0) ((t.1 42).1 1) ((t.1 42).1 2) ((t.1 43).1 0)) rfl rfl (Nat.le_of_ble_eq_true rfl) rfl (by decide) (by omega) (by omega) (fun E cs1 hx => ?_) (fun v cs1 hx => ?_)
      · exact absurd hx.1 (by simp)
      · obtain ⟨e1, rfl⟩ := hx
        cases e1
        refine ⟨rfl, ?_⟩
        refine y_st (st2 := [.int (if ((t.1 43).1 0) = 0 then 1 else 0)]) rfl ?_
        refine y_cs (cs2 := [((ad 0), .inr (11, [.ref (ad 1), .ref (ad 5), .ref (ad 18), .ref (ad 31), .ref (ad 32), .ref (ad 36), .ref (ad 42), .ref (ad 45), .ref (ad 47), .ref (ad 49), .ref (ad 50), .ref (ad 51)])), ((ad 42), .inr (5, [.ref (ad 43), .int ((t.1 42).1 0), .int ((t.1 42).1 1), .int ((t.1 42).1 2)])), ((ad 43), .inr (6, [.ref (ad 44), .int ((t.1 43).1 0)])), ((ad 44), .inl (3, 4, .inr (.inl ((t.1 44).2.1))))]) rfl ?_
        refine y_if_ne (tgt := 44) d_Ip_pour_28 (by decide) (fun c_28 => ?_) (fun c_28 => ?_)
        · exact absurd (z_b1 c_28) h1
        · refine y_aload_n d_Ip_pour_31 rfl 0 rfl ?_
          refine y_get fs_Ip_50 d_Ip_pour_32 (q0 := 0) rfl rfl ?_
          refine y_get fs_Ip_353 d_Ip_pour_35 (q0 := 1) rfl rfl ?_
          refine y_sipush d_Ip_pour_38 (v := 1250) (by decide) ?_
          refine y_icmp_ge (tgt := 55) d_Ip_pour_41 (by decide) (fun c_41 => ?_) (fun c_41 => ?_)
          · refine y_aload_n d_Ip_pour_55 rfl 0 rfl ?_
            refine y_get fs_Ip_78 d_Ip_pour_56 (q0 := 0) rfl rfl ?_
            refine yw_callVL (As := []) (rest := []) (ci := 13) rfl (fun wA hA => ((hI.gen (t2 := t) (is := [0, 42, 43, 44]) (L2 := []) hA rfl ⟨kd_0.mpr rfl, kd_42.mpr ⟨c_la_0, rfl⟩, kd_43.mpr ⟨c_lab_0, rfl⟩, kd_44.mpr rfl, trivial⟩ (by decide) (by decide) (fun _ h => nomatch h) (fun _ h => nomatch h) (fun _ _ _ => rfl) (fun h => h) rfl).2.1.1 1 (by decide)).ob) ln_Ip_341 w_im_AL_size w_se_AL_size ok_Ip_pour_AL_size d_Ip_pour_59 (fun wA hA => Q_size ((hI.gen (t2 := t) (is := [0, 42, 43, 44]) (L2 := []) hA rfl ⟨kd_0.mpr rfl, kd_42.mpr ⟨c_la_0, rfl⟩, kd_43.mpr ⟨c_lab_0, rfl⟩, kd_44.mpr rfl, trivial⟩ (by decide) (by decide) (fun _ h => nomatch h) (fun _ h => nomatch h) (fun _ _ _ => rfl) (fun h => h) rfl).2.1.1 1 (by decide))) rfl rfl (Nat.le_of_ble_eq_true rfl) (by omega) (by omega) (fun wA59 hA59 E wB59 hx => ?_) (fun wA59 hA59 v wB59 hx => ?_)
            · exact absurd hx.1 (by simp)
            · obtain ⟨e1, e2⟩ := hx
              cases e1
              refine yw_st (st2 := [.int (nI (u.1 1))]) rfl ?_
              subst e2
              refine y_go hA59 ?_
              refine y_bipush d_Ip_pour_62 (v := 30) (by decide) ?_
              refine y_icmp_lt (tgt := 78) d_Ip_pour_64 (by decide) (fun c_64 => ?_) (fun c_64 => ?_)
              · exact absurd (z_lt (a := u.1 1) (b := 30) (by decide) (by omega) c_64) h3
              · refine y_throwW tb_Ip_272_276 sr_Ip_427 d_Ip_pour_67 d_Ip_pour_70 d_Ip_pour_71 d_Ip_pour_74 d_Ip_pour_77 rfl (by decide) (by decide) (Nat.le_of_ble_eq_true rfl) (by omega) (by omega) ?_
                exact fun w1 h1 => ⟨rfl, (hI.gen (t2 := t) (is := [0, 42, 43, 44]) (L2 := []) h1 rfl ⟨kd_0.mpr rfl, kd_42.mpr ⟨c_la_0, rfl⟩, kd_43.mpr ⟨c_lab_0, rfl⟩, kd_44.mpr rfl, trivial⟩ (by decide) (by decide) (fun _ h => nomatch h) (fun _ h => nomatch h) (fun _ _ _ => rfl) (fun h => h) rfl)⟩
          · exact absurd h2 c_41
    · exact absurd c_7 (by decide)
theorem d_Ip_pour_78 : decode prog_1_method_37_code 78 = .ok (.aload_n 0, 1) := zo_42 (zd_b zq_prog_1_method_37_code_2 14 rfl rfl rfl)
theorem d_Ip_pour_79 : decode prog_1_method_37_code 79 = .ok (.getfield 78, 3) := zo_180 (d := 0) (e := 78) (zd_b zq_prog_1_method_37_code_2 15 rfl rfl rfl) (zd_b zq_prog_1_method_37_code_2 16 rfl rfl rfl) (zd_b zq_prog_1_method_37_code_2 17 rfl rfl rfl)
theorem d_Ip_pour_82 : decode prog_1_method_37_code 82 = .ok (.aload_n 0, 1) := zo_42 (zd_b zq_prog_1_method_37_code_2 18 rfl rfl rfl)
theorem d_Ip_pour_83 : decode prog_1_method_37_code 83 = .ok (.aload_n 0, 1) := zo_42 (zd_b zq_prog_1_method_37_code_2 19 rfl rfl rfl)
theorem d_Ip_pour_84 : decode prog_1_method_37_code 84 = .ok (.getfield 74, 3) := zo_180 (d := 0) (e := 74) (zd_b zq_prog_1_method_37_code_2 20 rfl rfl rfl) (zd_b zq_prog_1_method_37_code_2 21 rfl rfl rfl) (zd_b zq_prog_1_method_37_code_2 22 rfl rfl rfl)
theorem d_Ip_pour_87 : decode prog_1_method_37_code 87 = .ok (.iconst 0, 1) := zo_3 (zd_b zq_prog_1_method_37_code_2 23 rfl rfl rfl)
theorem d_Ip_pour_88 : decode prog_1_method_37_code 88 = .ok (.invokevirtual 429, 3) := zo_182 (d := 1) (e := 173) (zd_b zq_prog_1_method_37_code_2 24 rfl rfl rfl) (zd_b zq_prog_1_method_37_code_2 25 rfl rfl rfl) (zd_b zq_prog_1_method_37_code_2 26 rfl rfl rfl)
theorem ok_Ip_pour_AL_remove : z_ok M_Ip_pour M_AL_remove 1 := ⟨z_mj6 (i := 122) rfl (by decide +kernel), rfl, ⟨by decide +kernel, by decide +kernel, by decide +kernel⟩, ⟨by decide, by decide⟩, z_mj1 (i := 13) rfl (by decide +kernel), rfl⟩
theorem ln_Ip_429 : Cond.methodLink "Ironpour" 429 M_AL_remove.1 ∈ z_gw := z_mj6 (i := 119) rfl (by decide +kernel)
theorem d_Ip_pour_91 : decode prog_1_method_37_code 91 = .ok (.checkcast 348, 3) := zo_192 (d := 1) (e := 92) (zd_b zq_prog_1_method_37_code_2 27 rfl rfl rfl) (zd_b zq_prog_1_method_37_code_2 28 rfl rfl rfl) (zd_b zq_prog_1_method_37_code_2 29 rfl rfl rfl)
theorem d_Ip_pour_94 : decode prog_1_method_37_code 94 = .ok (.invokevirtual 432, 3) := zo_182 (d := 1) (e := 176) (zd_b zq_prog_1_method_37_code_2 30 rfl rfl rfl) (zd_b zq_prog_1_method_37_code_2 31 rfl rfl rfl) (zd_b zq_prog_1_method_37_code_3 0 rfl rfl rfl)
theorem ok_Ip_pour_Ip_cast : z_ok M_Ip_pour M_Ip_cast 1 := ⟨z_mj6 (i := 131) rfl (by decide +kernel), rfl, ⟨by decide +kernel, by decide +kernel, by decide +kernel⟩, ⟨by decide, by decide⟩, z_mj1 (i := 1) rfl (by decide +kernel), rfl⟩
theorem ln_Ip_432 : Cond.methodLink "Ironpour" 432 M_Ip_cast.1 ∈ z_gw := z_mj6 (i := 128) rfl (by decide +kernel)
theorem w_im_Ip_cast : Cond.instanceMethod M_Ip_cast.1 ∈ z_gw := z_mj6 (i := 130) rfl (by decide +kernel)
theorem w_se_Ip_cast : Cond.selects M_Ip_cast.1.cls M_Ip_cast.1 M_Ip_cast.1 ∈ z_gw := z_mem (i := 26) (by decide +kernel) (by decide +kernel)
theorem d_Ip_pour_97 : decode prog_1_method_37_code 97 = .ok (.invokevirtual 413, 3) := zo_182 (d := 1) (e := 157) (zd_b zq_prog_1_method_37_code_3 1 rfl rfl rfl) (zd_b zq_prog_1_method_37_code_3 2 rfl rfl rfl) (zd_b zq_prog_1_method_37_code_3 3 rfl rfl rfl)
theorem ok_Ip_pour_AL_add_0 : z_ok M_Ip_pour M_AL_add_0 1 := ⟨z_mj6 (i := 34) rfl (by decide +kernel), rfl, ⟨by decide +kernel, by decide +kernel, by decide +kernel⟩, ⟨by decide, by decide⟩, z_mj1 (i := 13) rfl (by decide +kernel), rfl⟩
theorem d_Ip_pour_100 : decode prog_1_method_37_code 100 = .ok (.pop, 1) := zo_87 (zd_b zq_prog_1_method_37_code_3 4 rfl rfl rfl)
theorem d_Ip_pour_101 : decode prog_1_method_37_code 101 = .ok (.aload_n 0, 1) := zo_42 (zd_b zq_prog_1_method_37_code_3 5 rfl rfl rfl)
theorem d_Ip_pour_102 : decode prog_1_method_37_code 102 = .ok (.getfield 78, 3) := zo_180 (d := 0) (e := 78) (zd_b zq_prog_1_method_37_code_3 6 rfl rfl rfl) (zd_b zq_prog_1_method_37_code_3 7 rfl rfl rfl) (zd_b zq_prog_1_method_37_code_3 8 rfl rfl rfl)
theorem d_Ip_pour_105 : decode prog_1_method_37_code 105 = .ok (.invokevirtual 341, 3) := zo_182 (d := 1) (e := 85) (zd_b zq_prog_1_method_37_code_3 9 rfl rfl rfl) (zd_b zq_prog_1_method_37_code_3 10 rfl rfl rfl) (zd_b zq_prog_1_method_37_code_3 11 rfl rfl rfl)
theorem d_Ip_pour_108 : decode prog_1_method_37_code 108 = .ok (.iconst 1, 1) := zo_4 (zd_b zq_prog_1_method_37_code_3 12 rfl rfl rfl)
theorem d_Ip_pour_109 : decode prog_1_method_37_code 109 = .ok (.isub, 1) := zo_100 (zd_b zq_prog_1_method_37_code_3 13 rfl rfl rfl)
