theorem z_narB (b : Bool) : narrow .boolean (Value.int (z_bi b)) = .int (z_bi b) := by
  cases b <;> rfl
theorem tx_all {l : List (Nat × zP2)} (h : (l.map Prod.fst).all (fun i => decide (tx i)) = true) : ∀ i ∈ l.map Prod.fst, tx i := fun i hi => of_decide_eq_true (List.all_eq_true.mp h i hi)
theorem hf_0 {a k : Int32} (h : z_bi (hfB a k) = 0) : a &&& k = 0 := by
  have h1 := z_bi0 h
  unfold hfB at h1
  simpa using h1
theorem hf_1 {a k : Int32} (h : ¬ z_bi (hfB a k) = 0) : ¬ a &&& k = 0 := by
  have h1 := z_bi1 h
  unfold hfB at h1
  simpa using h1
theorem du_0 {p : Prop} [Decidable p] (h : (if p then (0 : Int32) else 1) = 0) : p := Classical.byContradiction (fun q => by rw [if_neg q] at h; exact absurd h (by decide))
theorem du_1 {p : Prop} [Decidable p] (h : ¬ (if p then (0 : Int32) else 1) = 0) : ¬ p := fun q => h (if_pos q)
def fdT (t : zTT) (m9 : Nat) : zTT := (zup t.1 [(42, ((upd (upd ((t.1 42).1) 0 (if 20 < (t.1 42).1 0 - 4 * nI m9 then (t.1 42).1 0 - 4 * nI m9 else 20)) 1 (mgS ((t.1 42).1 1) m9)), (t.1 42).2.1, (t.1 42).2.2))], t.2)
def wtV9 (x : Int32) (v : zV) : zV := (upd v.1 5 (v.1 5 + x), v.2)
abbrev M_Ip_checkStands : zM := (⟨"Ironpour", "checkStands", "(LIronpour$Casting;)V"⟩, prog_1_method_65_code, 1, (Option.none : Option FieldType), 6, 100, [])
theorem d_Ip_checkStands_0 : decode prog_1_method_65_code 0 = .ok (.aload_n 0, 1) := zo_42 (zd_b zq_prog_1_method_65_code_0 0 rfl rfl rfl)
theorem d_Ip_checkStands_1 : decode prog_1_method_65_code 1 = .ok (.getfield 466, 3) := zo_180 (d := 1) (e := 210) (zd_b zq_prog_1_method_65_code_0 1 rfl rfl rfl) (zd_b zq_prog_1_method_65_code_0 2 rfl rfl rfl) (zd_b zq_prog_1_method_65_code_0 3 rfl rfl rfl)
theorem d_Ip_checkStands_4 : decode prog_1_method_65_code 4 = .ok (.ifCond .ne 10, 3) := zo_154 (d := 0) (e := 10) (zd_b zq_prog_1_method_65_code_0 4 rfl rfl rfl) (zd_b zq_prog_1_method_65_code_0 5 rfl rfl rfl) (zd_b zq_prog_1_method_65_code_0 6 rfl rfl rfl) (by decide +kernel)
theorem d_Ip_checkStands_14 : decode prog_1_method_65_code 14 = .ok (.new 242, 3) := zo_187 (d := 0) (e := 242) (zd_b zq_prog_1_method_65_code_0 14 rfl rfl rfl) (zd_b zq_prog_1_method_65_code_0 15 rfl rfl rfl) (zd_b zq_prog_1_method_65_code_0 16 rfl rfl rfl)
theorem sr_Ip_542 : Cond.stringRef "Ironpour" 542 "it was delivered or broken up" ∈ lw_tbl := z_tb7 (i := 10) rfl
theorem d_Ip_checkStands_17 : decode prog_1_method_65_code 17 = .ok (.dup, 1) := zo_89 (zd_b zq_prog_1_method_65_code_0 17 rfl rfl rfl)
theorem d_Ip_checkStands_18 : decode prog_1_method_65_code 18 = .ok (.ldc_w 542, 3) := zo_19 (d := 2) (e := 30) (zd_b zq_prog_1_method_65_code_0 18 rfl rfl rfl) (zd_b zq_prog_1_method_65_code_0 19 rfl rfl rfl) (zd_b zq_prog_1_method_65_code_0 20 rfl rfl rfl)
theorem d_Ip_checkStands_21 : decode prog_1_method_65_code 21 = .ok (.invokespecial 246, 3) := zo_183 (d := 0) (e := 246) (zd_b zq_prog_1_method_65_code_0 21 rfl rfl rfl) (zd_b zq_prog_1_method_65_code_0 22 rfl rfl rfl) (zd_b zq_prog_1_method_65_code_0 23 rfl rfl rfl)
theorem d_Ip_checkStands_24 : decode prog_1_method_65_code 24 = .ok (.athrow, 1) := zo_191 (zd_b zq_prog_1_method_65_code_0 24 rfl rfl rfl)
theorem d_Ip_checkStands_7 : decode prog_1_method_65_code 7 = .ok (.aload_n 0, 1) := zo_42 (zd_b zq_prog_1_method_65_code_0 7 rfl rfl rfl)
theorem d_Ip_checkStands_8 : decode prog_1_method_65_code 8 = .ok (.getfield 469, 3) := zo_180 (d := 1) (e := 213) (zd_b zq_prog_1_method_65_code_0 8 rfl rfl rfl) (zd_b zq_prog_1_method_65_code_0 9 rfl rfl rfl) (zd_b zq_prog_1_method_65_code_0 10 rfl rfl rfl)
theorem fs_Ip_469 : z_fs "Ironpour" 469 0 5 := ⟨R_Ca, "Ironpour$Casting", F_Ca, 6, rfl, u_Ca, by decide, Or.inr ⟨"Ironpour", z_mk6 (i := 147) rfl (by decide +kernel), rfl⟩⟩
theorem d_Ip_checkStands_11 : decode prog_1_method_65_code 11 = .ok (.ifCond .eq 14, 3) := zo_153 (d := 0) (e := 14) (zd_b zq_prog_1_method_65_code_0 11 rfl rfl rfl) (zd_b zq_prog_1_method_65_code_0 12 rfl rfl rfl) (zd_b zq_prog_1_method_65_code_0 13 rfl rfl rfl) (by decide +kernel)
theorem d_Ip_checkStands_25 : decode prog_1_method_65_code 25 = .ok (.return_, 1) := zo_177 (zd_b zq_prog_1_method_65_code_0 25 rfl rfl rfl)
set_option maxHeartbeats 4000000 in
set_option maxRecDepth 100000 in
theorem Q_Ip_waitingE {g : zG} {ad : Nat → Nat} {t : zTT} {u : zNN} {w : zW} (hI : IV g ad t u w) (x : Int32) (hx : ¬ ∃ k, k < u.1 0 ∧ x = nI k) : zMB g M_Ip_waiting [.ref (ad 0), .int x] w (fun o w1 => zri ["java/util/NoSuchElementException"] o ∧ IV g ad t u w1) 1 6 := by
  obtain ⟨e_a, wf_a, k_a⟩ := hI.1.2 0 (by decide)
  obtain rfl := kd_0.mp k_a
  refine y_of (by decide) rfl (Nat.le_of_ble_eq_true rfl) (y_base (cs := [((ad 0), .inr (11, [.ref (ad 1), .ref (ad 5), .ref (ad 18), .ref (ad 31), .ref (ad 32), .ref (ad 36), .ref (ad 42), .ref (ad 45), .ref (ad 47), .ref (ad 49), .ref (ad 50), .ref (ad 51)]))]) (hI.1.I [0] _ rfl (by decide) (by decide) (List.forall_mem_cons.mpr ⟨wf_a, (fun _ h => nomatch h)⟩)) ?_)
  refine y_lvE (lv2 := [(0, .ref (ad 0)), (1, .int x)]) rfl ?_
  refine y_iload_n d_Ip_waiting_0 rfl 1 rfl ?_
  refine y_if_lt (tgt := 15) d_Ip_waiting_1 (by decide) (fun c_1 => ?_) (fun c_1 => ?_)
  · refine y_throwXW tb_Ip_150_154 sr_Ip_420 d_Ip_waiting_15 d_Ip_waiting_18 d_Ip_waiting_19 d_Ip_waiting_22 d_Ip_waiting_25 rfl (by decide) (by decide) (Nat.le_of_ble_eq_true rfl) (by omega) (by omega) ?_
    exact fun w1 h1 => ⟨Or.inr ⟨_, List.Mem.head _, rfl⟩, (hI.gen (t2 := t) (is := [0]) (L2 := []) h1 rfl ⟨kd_0.mpr rfl, trivial⟩ (by decide) (by decide) (fun _ h => nomatch h) (fun _ h => nomatch h) (fun _ _ _ => rfl) (fun h => h) rfl)⟩
  · refine y_iload_n d_Ip_waiting_4 rfl 1 rfl ?_
    refine y_aload_n d_Ip_waiting_5 rfl 0 rfl ?_
    refine y_get fs_Ip_74 d_Ip_waiting_6 (q0 := 0) rfl rfl ?_
    refine yw_callVL (As := []) (rest := [.int x]) (ci := 13) rfl (fun wA hA => ((hI.gen (t2 := t) (is := [0]) (L2 := []) hA rfl ⟨kd_0.mpr rfl, trivial⟩ (by decide) (by decide) (fun _ h => nomatch h) (fun _ h => nomatch h) (fun _ _ _ => rfl) (fun h => h) rfl).2.1.1 0 (by decide)).ob) ln_Ip_341 w_im_AL_size w_se_AL_size ok_Ip_waiting_AL_size d_Ip_waiting_9 (fun wA hA => Q_size ((hI.gen (t2 := t) (is := [0]) (L2 := []) hA rfl ⟨kd_0.mpr rfl, trivial⟩ (by decide) (by decide) (fun _ h => nomatch h) (fun _ h => nomatch h) (fun _ _ _ => rfl) (fun h => h) rfl).2.1.1 0 (by decide))) rfl rfl (Nat.le_of_ble_eq_true rfl) (by omega) (by omega) (fun wA9 hA9 E wB9 hx => ?_) (fun wA9 hA9 v wB9 hx => ?_)
    · exact absurd hx.1 (by simp)
    · obtain ⟨e1, e2⟩ := hx
      cases e1
      refine yw_st (st2 := [.int (nI (u.1 0)), .int x]) rfl ?_
      subst e2
      refine y_go hA9 ?_
      refine y_icmp_lt (tgt := 26) d_Ip_waiting_12 (by decide) (fun c_12 => ?_) (fun c_12 => ?_)
      · exact absurd (z_idx2 (hI.n5 0 (by decide)) c_1 c_12) hx
      · refine y_throwXW tb_Ip_150_154 sr_Ip_420 d_Ip_waiting_15 d_Ip_waiting_18 d_Ip_waiting_19 d_Ip_waiting_22 d_Ip_waiting_25 rfl (by decide) (by decide) (Nat.le_of_ble_eq_true rfl) (by omega) (by omega) ?_
        exact fun w1 h1 => ⟨Or.inr ⟨_, List.Mem.head _, rfl⟩, (hI.gen (t2 := t) (is := [0]) (L2 := []) h1 rfl ⟨kd_0.mpr rfl, trivial⟩ (by decide) (by decide) (fun _ h => nomatch h) (fun _ h => nomatch h) (fun _ _ _ => rfl) (fun h => h) rfl)⟩
theorem d_Ip_waiting_26 : decode prog_1_method_36_code 26 = .ok (.aload_n 0, 1) := zo_42 (zd_b zq_prog_1_method_36_code_0 26 rfl rfl rfl)
theorem d_Ip_waiting_27 : decode prog_1_method_36_code 27 = .ok (.getfield 74, 3) := zo_180 (d := 0) (e := 74) (zd_b zq_prog_1_method_36_code_0 27 rfl rfl rfl) (zd_b zq_prog_1_method_36_code_0 28 rfl rfl rfl) (zd_b zq_prog_1_method_36_code_0 29 rfl rfl rfl)
theorem d_Ip_waiting_30 : decode prog_1_method_36_code 30 = .ok (.iload_n 1, 1) := zo_27 (zd_b zq_prog_1_method_36_code_0 30 rfl rfl rfl)
theorem d_Ip_waiting_31 : decode prog_1_method_36_code 31 = .ok (.invokevirtual 344, 3) := zo_182 (d := 1) (e := 88) (zd_b zq_prog_1_method_36_code_0 31 rfl rfl rfl) (zd_b zq_prog_1_method_36_code_1 0 rfl rfl rfl) (zd_b zq_prog_1_method_36_code_1 1 rfl rfl rfl)
theorem ok_Ip_waiting_AL_get : z_ok M_Ip_waiting M_AL_get 1 := ⟨z_mj2 (i := 180) rfl (by decide +kernel), rfl, ⟨by decide +kernel, by decide +kernel, by decide +kernel⟩, ⟨by decide, by decide⟩, z_mj1 (i := 13) rfl (by decide +kernel), rfl⟩
theorem d_Ip_waiting_34 : decode prog_1_method_36_code 34 = .ok (.checkcast 348, 3) := zo_192 (d := 1) (e := 92) (zd_b zq_prog_1_method_36_code_1 2 rfl rfl rfl) (zd_b zq_prog_1_method_36_code_1 3 rfl rfl rfl) (zd_b zq_prog_1_method_36_code_1 4 rfl rfl rfl)
theorem lk_Ip_348 : Cond.classLink "Ironpour" 348 R_Mo ∈ z_gw := z_mj5 (i := 145) rfl (by decide +kernel)
theorem d_Ip_waiting_37 : decode prog_1_method_36_code 37 = .ok (.getfield 350, 3) := zo_180 (d := 1) (e := 94) (zd_b zq_prog_1_method_36_code_1 5 rfl rfl rfl) (zd_b zq_prog_1_method_36_code_1 6 rfl rfl rfl) (zd_b zq_prog_1_method_36_code_1 7 rfl rfl rfl)
theorem fs_Ip_350 : z_fs "Ironpour" 350 7 7 := ⟨R_Mo, "Ironpour$Mould", F_Mo, 8, rfl, u_Mo, by decide, Or.inr ⟨"Ironpour", z_mk6 (i := 13) rfl (by decide +kernel), rfl⟩⟩
theorem d_Ip_waiting_40 : decode prog_1_method_36_code 40 = .ok (.ireturn, 1) := zo_172 (zd_b zq_prog_1_method_36_code_1 8 rfl rfl rfl)
set_option maxHeartbeats 4000000 in
set_option maxRecDepth 100000 in
theorem Q_Ip_waitingN {g : zG} {ad : Nat → Nat} {t : zTT} {u : zNN} {w : zW} (hI : IV g ad t u w) (k : Nat) (hk : k < u.1 0) : zMB g M_Ip_waiting [.ref (ad 0), .int (nI k)] w (fun o w1 => zri ["java/util/NoSuchElementException"] o ∧ IV g ad t u w1) 1 6 := by
  obtain ⟨e_a, wf_a, k_a⟩ := hI.1.2 0 (by decide)
  obtain rfl := kd_0.mp k_a
  have h33 := hI.n5 0 (by decide)
  refine y_of (by decide) rfl (Nat.le_of_ble_eq_true rfl) (y_base (cs := [((ad 0), .inr (11, [.ref (ad 1), .ref (ad 5), .ref (ad 18), .ref (ad 31), .ref (ad 32), .ref (ad 36), .ref (ad 42), .ref (ad 45), .ref (ad 47), .ref (ad 49), .ref (ad 50), .ref (ad 51)]))]) (hI.1.I [0] _ rfl (by decide) (by decide) (List.forall_mem_cons.mpr ⟨wf_a, (fun _ h => nomatch h)⟩)) ?_)
  refine y_lvE (lv2 := [(0, .ref (ad 0)), (1, .int (nI k))]) rfl ?_
  refine y_iload_n d_Ip_waiting_0 rfl 1 rfl ?_
  refine y_if_lt (tgt := 15) d_Ip_waiting_1 (by decide) (fun c_1 => ?_) (fun c_1 => ?_)
  · exact absurd c_1 (nI_nneg (by omega))
  · refine y_iload_n d_Ip_waiting_4 rfl 1 rfl ?_
    refine y_aload_n d_Ip_waiting_5 rfl 0 rfl ?_
    refine y_get fs_Ip_74 d_Ip_waiting_6 (q0 := 0) rfl rfl ?_
    refine yw_callVL (As := []) (rest := [.int (nI k)]) (ci := 13) rfl (fun wA hA => ((hI.gen (t2 := t) (is := [0]) (L2 := []) hA rfl ⟨kd_0.mpr rfl, trivial⟩ (by decide) (by decide) (fun _ h => nomatch h) (fun _ h => nomatch h) (fun _ _ _ => rfl) (fun h => h) rfl).2.1.1 0 (by decide)).ob) ln_Ip_341 w_im_AL_size w_se_AL_size ok_Ip_waiting_AL_size d_Ip_waiting_9 (fun wA hA => Q_size ((hI.gen (t2 := t) (is := [0]) (L2 := []) hA rfl ⟨kd_0.mpr rfl, trivial⟩ (by decide) (by decide) (fun _ h => nomatch h) (fun _ h => nomatch h) (fun _ _ _ => rfl) (fun h => h) rfl).2.1.1 0 (by decide))) rfl rfl (Nat.le_of_ble_eq_true rfl) (by omega) (by omega) (fun wA9 hA9 E wB9 hx => ?_) (fun wA9 hA9 v wB9 hx => ?_)
    · exact absurd hx.1 (by simp)
    · obtain ⟨e1, e2⟩ := hx
      cases e1
      refine yw_st (st2 := [.int (nI (u.1 0)), .int (nI k)]) rfl ?_
      subst e2
      refine y_go hA9 ?_
      refine y_icmp_lt (tgt := 26) d_Ip_waiting_12 (by decide) (fun c_12 => ?_) (fun c_12 => ?_)
      · refine y_aload_n d_Ip_waiting_26 rfl 0 rfl ?_
        refine y_get fs_Ip_74 d_Ip_waiting_27 (q0 := 0) rfl rfl ?_
        refine y_iload_n d_Ip_waiting_30 rfl 1 rfl ?_
        refine yw_callVL (As := [.int (nI k)]) (rest := []) (ci := 13) rfl (fun wA hA => ((hI.gen (t2 := t) (is := [0]) (L2 := []) hA rfl ⟨kd_0.mpr rfl, trivial⟩ (by decide) (by decide) (fun _ h => nomatch h) (fun _ h => nomatch h) (fun _ _ _ => rfl) (fun h => h) rfl).2.1.1 0 (by decide)).ob) ln_Ip_344 w_im_AL_get w_se_AL_get ok_Ip_waiting_AL_get d_Ip_waiting_31 (fun wA hA => Q_get ((hI.gen (t2 := t) (is := [0]) (L2 := []) hA rfl ⟨kd_0.mpr rfl, trivial⟩ (by decide) (by decide) (fun _ h => nomatch h) (fun _ h => nomatch h) (fun _ _ _ => rfl) (fun h => h) rfl).2.1.1 0 (by decide)) hk) rfl rfl (Nat.le_of_ble_eq_true rfl) (by omega) (by omega) (fun wA31 hA31 E wB31 hx => ?_) (fun wA31 hA31 v wB31 hx => ?_)
        · exact absurd hx.1 (by simp)
        · obtain ⟨e1, e2⟩ := hx
          cases e1
          refine yw_st (st2 := [.ref (u.2.2 0 k)]) rfl ?_
          subst e2
          refine y_go hA31 ?_
          refine y_end (fun wC1 hC1 => ?_)
          have hI9 := (hI.gen (t2 := t) (is := [0]) (L2 := []) hC1 rfl ⟨kd_0.mpr rfl, trivial⟩ (by decide) (by decide) (fun _ h => nomatch h) (fun _ h => nomatch h) (fun _ _ _ => rfl) (fun h => h) rfl)
          have hI := hI9
          obtain ⟨nf_d, c_d, hw_d, hx_d, nfc_d, hwc_d, hch_d⟩ := hI.2.1.2.1 0 (by decide) k hk
          refine y_base (cs := [((ad 0), .inr (11, [.ref (ad 1), .ref (ad 5), .ref (ad 18), .ref (ad 31), .ref (ad 32), .ref (ad 36), .ref (ad 42), .ref (ad 45), .ref (ad 47), .ref (ad 49), .ref (ad 50), .ref (ad 51)])), ((u.2.2 0 k), .inr (7, [.ref c_d, .int (nI ((t.2 0 k).2.2.2 0)), .int ((t.2 0 k).1 0), .int ((t.2 0 k).1 1), .int ((t.2 0 k).1 2), .int ((t.2 0 k).1 3), .int ((t.2 0 k).1 4), .int ((t.2 0 k).1 5)])), (c_d, .inl (1, 108, .inl ((t.2 0 k).2.1)))]) (z_I.kd (List.forall_mem_cons.mpr ⟨hC1.at (q0 := 0) rfl, (List.forall_mem_cons.mpr ⟨hw_d, (List.forall_mem_cons.mpr ⟨hwc_d, (fun _ h => nomatch h)⟩)⟩)⟩) (by simp [z_kd])) ?_
          refine y_castO lk_Ip_348 d_Ip_waiting_34 (q0 := 1) rfl rfl ?_
          refine y_get fs_Ip_350 d_Ip_waiting_37 (q0 := 1) rfl rfl ?_
          refine y_iret d_Ip_waiting_40 rfl rfl ?_
          exact fun w1 h1 => ⟨Or.inl ⟨_, rfl⟩, (hI.gen (t2 := t) (is := [0]) (L2 := [(u.2.2 0 k), c_d]) h1 rfl ⟨kd_0.mpr rfl, trivial⟩ (by decide) (by decide) (List.forall_mem_cons.mpr ⟨nf_d, (List.forall_mem_cons.mpr ⟨nfc_d, (fun _ h => nomatch h)⟩)⟩) (List.forall_mem_cons.mpr ⟨⟨_, hw_d, h1.at (q0 := 1) rfl⟩, (List.forall_mem_cons.mpr ⟨⟨_, hwc_d, h1.at (q0 := 2) rfl⟩, (fun _ h => nomatch h)⟩)⟩) (fun _ _ _ => rfl) (fun h => h) rfl)⟩
      · exact absurd ((nI_ltI (by omega) (by omega)).mpr hk) c_12
set_option maxHeartbeats 4000000 in
set_option maxRecDepth 100000 in
theorem Q_Ip_minutesE {g : zG} {ad : Nat → Nat} {t : zTT} {u : zNN} {w : zW} (hI : IV g ad t u w) (x : Int32) (hw : ¬ (1 ≤ x ∧ x ≤ 60)) : zMB g M_Ip_minutes [.ref (ad 0), .int x] w (fun o w1 => zri ["java/lang/IllegalArgumentException"] o ∧ IV g ad t u w1) 1 6 := by
  obtain ⟨e_a, wf_a, k_a⟩ := hI.1.2 0 (by decide)
  obtain rfl := kd_0.mp k_a
  refine y_of (by decide) rfl (Nat.le_of_ble_eq_true rfl) (y_base (cs := [((ad 0), .inr (11, [.ref (ad 1), .ref (ad 5), .ref (ad 18), .ref (ad 31), .ref (ad 32), .ref (ad 36), .ref (ad 42), .ref (ad 45), .ref (ad 47), .ref (ad 49), .ref (ad 50), .ref (ad 51)]))]) (hI.1.I [0] _ rfl (by decide) (by decide) (List.forall_mem_cons.mpr ⟨wf_a, (fun _ h => nomatch h)⟩)) ?_)
  refine y_lvE (lv2 := [(0, .ref (ad 0)), (1, .int x)]) rfl ?_
  refine y_iload_n d_Ip_minutes_0 rfl 1 rfl ?_
  refine y_iconst d_Ip_minutes_1 (v := 1) (by decide) ?_
  refine y_bipush d_Ip_minutes_2 (v := 60) (by decide) ?_
  refine y_callS (As := [.int x, .int 1, .int 60]) (rest := []) (csC := []) (is := []) ln_Ip_203 w_st_Ip_isWithin ok_Ip_minutes_Ip_isWithin d_Ip_minutes_4 (C_Ip_isWithin g x 1 60) rfl rfl (Nat.le_of_ble_eq_true rfl) rfl (by decide) (by omega) (by omega) (fun E cs1 hx => ?_) (fun v cs1 hx => ?_)
  · exact absurd hx.1 (by simp)
  · obtain ⟨e1, rfl⟩ := hx
    rw [if_neg hw] at e1
    cases e1
    refine ⟨rfl, ?_⟩
    refine y_st (st2 := [.int 0]) rfl ?_
    refine y_cs (cs2 := [((ad 0), .inr (11, [.ref (ad 1), .ref (ad 5), .ref (ad 18), .ref (ad 31), .ref (ad 32), .ref (ad 36), .ref (ad 42), .ref (ad 45), .ref (ad 47), .ref (ad 49), .ref (ad 50), .ref (ad 51)]))]) rfl ?_
    refine y_if_ne (tgt := 21) d_Ip_minutes_7 (by decide) (fun c_7 => ?_) (fun c_7 => ?_)
    · exact absurd c_7 (by decide)
    · refine y_throwW tb_Ip_89_93 sr_Ip_336 d_Ip_minutes_10 d_Ip_minutes_13 d_Ip_minutes_14 d_Ip_minutes_17 d_Ip_minutes_20 rfl (by decide) (by decide) (Nat.le_of_ble_eq_true rfl) (by omega) (by omega) ?_
      exact fun w1 h1 => ⟨Or.inr ⟨_, List.Mem.head _, rfl⟩, (hI.gen (t2 := t) (is := [0]) (L2 := []) h1 rfl ⟨kd_0.mpr rfl, trivial⟩ (by decide) (by decide) (fun _ h => nomatch h) (fun _ h => nomatch h) (fun _ _ _ => rfl) (fun h => h) rfl)⟩
theorem d_Ip_ironBalances_110 : decode prog_1_method_68_code 110 = .ok (.iconst 0, 1) := zo_3 (zd_b zq_prog_1_method_68_code_3 14 rfl rfl rfl)
theorem d_Ip_ironBalances_55 : decode prog_1_method_68_code 55 = .ok (.aload_n 0, 1) := zo_42 (zd_b zq_prog_1_method_68_code_1 23 rfl rfl rfl)
theorem d_Ip_ironBalances_56 : decode prog_1_method_68_code 56 = .ok (.getfield 78, 3) := zo_180 (d := 0) (e := 78) (zd_b zq_prog_1_method_68_code_1 24 rfl rfl rfl) (zd_b zq_prog_1_method_68_code_1 25 rfl rfl rfl) (zd_b zq_prog_1_method_68_code_1 26 rfl rfl rfl)
theorem d_Ip_ironBalances_59 : decode prog_1_method_68_code 59 = .ok (.iload_n 3, 1) := zo_29 (zd_b zq_prog_1_method_68_code_1 27 rfl rfl rfl)
theorem d_Ip_ironBalances_60 : decode prog_1_method_68_code 60 = .ok (.invokevirtual 344, 3) := zo_182 (d := 1) (e := 88) (zd_b zq_prog_1_method_68_code_1 28 rfl rfl rfl) (zd_b zq_prog_1_method_68_code_1 29 rfl rfl rfl) (zd_b zq_prog_1_method_68_code_1 30 rfl rfl rfl)
theorem ok_Ip_ironBalances_AL_get : z_ok M_Ip_ironBalances M_AL_get 1 := ⟨z_mj2 (i := 180) rfl (by decide +kernel), rfl, ⟨by decide +kernel, by decide +kernel, by decide +kernel⟩, ⟨by decide, by decide⟩, z_mj1 (i := 13) rfl (by decide +kernel), rfl⟩
theorem d_Ip_ironBalances_63 : decode prog_1_method_68_code 63 = .ok (.checkcast 441, 3) := zo_192 (d := 1) (e := 185) (zd_b zq_prog_1_method_68_code_1 31 rfl rfl rfl) (zd_b zq_prog_1_method_68_code_2 0 rfl rfl rfl) (zd_b zq_prog_1_method_68_code_2 1 rfl rfl rfl)
theorem d_Ip_ironBalances_66 : decode prog_1_method_68_code 66 = .ok (.astore 4, 2) := zo_58 (d := 4) (zd_b zq_prog_1_method_68_code_2 2 rfl rfl rfl) (zd_b zq_prog_1_method_68_code_2 3 rfl rfl rfl)
theorem d_Ip_ironBalances_68 : decode prog_1_method_68_code 68 = .ok (.aload 4, 2) := zo_25 (d := 4) (zd_b zq_prog_1_method_68_code_2 4 rfl rfl rfl) (zd_b zq_prog_1_method_68_code_2 5 rfl rfl rfl)
theorem d_Ip_ironBalances_70 : decode prog_1_method_68_code 70 = .ok (.getfield 469, 3) := zo_180 (d := 1) (e := 213) (zd_b zq_prog_1_method_68_code_2 6 rfl rfl rfl) (zd_b zq_prog_1_method_68_code_2 7 rfl rfl rfl) (zd_b zq_prog_1_method_68_code_2 8 rfl rfl rfl)
theorem d_Ip_ironBalances_73 : decode prog_1_method_68_code 73 = .ok (.ifCond .ne 15, 3) := zo_154 (d := 0) (e := 15) (zd_b zq_prog_1_method_68_code_2 9 rfl rfl rfl) (zd_b zq_prog_1_method_68_code_2 10 rfl rfl rfl) (zd_b zq_prog_1_method_68_code_2 11 rfl rfl rfl) (by decide +kernel)
theorem d_Ip_ironBalances_88 : decode prog_1_method_68_code 88 = .ok (.iinc 3 1, 3) := by decide +kernel
theorem d_Ip_ironBalances_91 : decode prog_1_method_68_code 91 = .ok (.goto (-47), 3) := zo_167 (d := 255) (e := 209) (zd_b zq_prog_1_method_68_code_2 27 rfl rfl rfl) (zd_b zq_prog_1_method_68_code_2 28 rfl rfl rfl) (zd_b zq_prog_1_method_68_code_2 29 rfl rfl rfl) (by decide +kernel)
theorem d_Ip_ironBalances_76 : decode prog_1_method_68_code 76 = .ok (.lload_n 1, 1) := zo_31 (zd_b zq_prog_1_method_68_code_2 12 rfl rfl rfl)
theorem d_Ip_ironBalances_77 : decode prog_1_method_68_code 77 = .ok (.aload 4, 2) := zo_25 (d := 4) (zd_b zq_prog_1_method_68_code_2 13 rfl rfl rfl) (zd_b zq_prog_1_method_68_code_2 14 rfl rfl rfl)
theorem d_Ip_ironBalances_79 : decode prog_1_method_68_code 79 = .ok (.getfield 450, 3) := zo_180 (d := 1) (e := 194) (zd_b zq_prog_1_method_68_code_2 15 rfl rfl rfl) (zd_b zq_prog_1_method_68_code_2 16 rfl rfl rfl) (zd_b zq_prog_1_method_68_code_2 17 rfl rfl rfl)
theorem d_Ip_ironBalances_82 : decode prog_1_method_68_code 82 = .ok (.getfield 269, 3) := zo_180 (d := 1) (e := 13) (zd_b zq_prog_1_method_68_code_2 18 rfl rfl rfl) (zd_b zq_prog_1_method_68_code_2 19 rfl rfl rfl) (zd_b zq_prog_1_method_68_code_2 20 rfl rfl rfl)
theorem d_Ip_ironBalances_85 : decode prog_1_method_68_code 85 = .ok (.i2l, 1) := zo_133 (zd_b zq_prog_1_method_68_code_2 21 rfl rfl rfl)
theorem d_Ip_ironBalances_86 : decode prog_1_method_68_code 86 = .ok (.ladd, 1) := zo_97 (zd_b zq_prog_1_method_68_code_2 22 rfl rfl rfl)
theorem d_Ip_ironBalances_87 : decode prog_1_method_68_code 87 = .ok (.lstore_n 1, 1) := zo_64 (zd_b zq_prog_1_method_68_code_2 23 rfl rfl rfl)
set_option maxHeartbeats 4000000 in
set_option maxRecDepth 100000 in
theorem L_Q_ironBalances_44 (g : zG) {ad : Nat → Nat} {t : zTT} {u : zNN} {w : zW} (hI : IV g ad t u w) : ∀ (d i : Nat) (s9 : Int64), i ≤ u.1 1 → u.1 1 < i + d → DW g M_Ip_ironBalances (fun o w1 => (∃ v : Int32, o = .inl (some (.int v))) ∧ w1 = w) w 44 [(3, .int (nI i)), (1, .long s9), (0, .ref (ad 0))] [] 0 0 := by
  intro d
  induction d with
  | zero => intro i s9 h1 h2 ; exact absurd h2 (by omega)
  | succ d ih =>
    intro i s9 h1 h2 
    obtain ⟨e_a, wf_a, k_a⟩ := hI.1.2 0 (by decide)
    obtain rfl := kd_0.mp k_a
    obtain ⟨e_fu, wf_fu, k_fu⟩ := hI.1.2 36 (by decide)
    obtain rfl := kd_36.mp k_fu
    obtain ⟨e_fub, wf_fub, k_fub⟩ := hI.1.2 37 (by decide)
    obtain rfl := kd_37.mp k_fub
    obtain ⟨e_la, wf_la, k_la⟩ := hI.1.2 42 (by decide)
    obtain ⟨c_la_0, rfl⟩ := kd_42.mp k_la
    obtain ⟨e_lab, wf_lab, k_lab⟩ := hI.1.2 43 (by decide)
    obtain ⟨c_lab_0, rfl⟩ := kd_43.mp k_lab
    obtain ⟨e_gy, wf_gy, k_gy⟩ := hI.1.2 45 (by decide)
    obtain rfl := kd_45.mp k_gy
    obtain ⟨e_du, wf_du, k_du⟩ := hI.1.2 47 (by decide)
    obtain rfl := kd_47.mp k_du
    have h33 := hI.n5 1 (by decide)
    have hJ := hI.1.I [0, 36, 37, 42, 43, 45, 47] [((ad 0), .inr (11, [.ref (ad 1), .ref (ad 5), .ref (ad 18), .ref (ad 31), .ref (ad 32), .ref (ad 36), .ref (ad 42), .ref (ad 45), .ref (ad 47), .ref (ad 49), .ref (ad 50), .ref (ad 51)])), ((ad 36), .inr (3, [.ref (ad 37), .ref (ad 39), .ref (ad 40), .ref (ad 41), .long ((t.1 36).2.1 0)])), ((ad 37), .inr (6, [.ref (ad 38), .int ((t.1 37).1 0)])), ((ad 42), .inr (5, [.ref (ad 43), .int ((t.1 42).1 0), .int ((t.1 42).1 1), .int ((t.1 42).1 2)])), ((ad 43), .inr (6, [.ref (ad 44), .int ((t.1 43).1 0)])), ((ad 45), .inr (6, [.ref (ad 46), .int ((t.1 45).1 0)])), ((ad 47), .inr (6, [.ref (ad 48), .int ((t.1 47).1 0)]))] rfl (by decide) (by decide) (List.forall_mem_cons.mpr ⟨wf_a, (List.forall_mem_cons.mpr ⟨wf_fu, (List.forall_mem_cons.mpr ⟨wf_fub, (List.forall_mem_cons.mpr ⟨wf_la, (List.forall_mem_cons.mpr ⟨wf_lab, (List.forall_mem_cons.mpr ⟨wf_gy, (List.forall_mem_cons.mpr ⟨wf_du, (fun _ h => nomatch h)⟩)⟩)⟩)⟩)⟩)⟩)⟩)
    refine y_base hJ ?_
    refine y_iload_n d_Ip_ironBalances_44 rfl 0 rfl ?_
    refine y_aload_n d_Ip_ironBalances_45 rfl 2 rfl ?_
    refine y_get fs_Ip_78 d_Ip_ironBalances_46 (q0 := 0) rfl rfl ?_
    refine yw_callVL (As := []) (rest := [.int (nI i)]) (ci := 13) rfl (fun wA hA => ((hI.gen (t2 := t) (is := [0, 36, 37, 42, 43, 45, 47]) (L2 := []) hA rfl ⟨kd_0.mpr rfl, kd_36.mpr rfl, kd_37.mpr rfl, kd_42.mpr ⟨c_la_0, rfl⟩, kd_43.mpr ⟨c_lab_0, rfl⟩, kd_45.mpr rfl, kd_47.mpr rfl, trivial⟩ (by decide) (by decide) (fun _ h => nomatch h) (fun _ h => nomatch h) (fun _ _ _ => rfl) (fun h => h) rfl).2.1.1 1 (by decide)).ob) ln_Ip_341 w_im_AL_size w_se_AL_size ok_Ip_ironBalances_AL_size d_Ip_ironBalances_49 (fun wA hA => Q_size ((hI.gen (t2 := t) (is := [0, 36, 37, 42, 43, 45, 47]) (L2 := []) hA rfl ⟨kd_0.mpr rfl, kd_36.mpr rfl, kd_37.mpr rfl, kd_42.mpr ⟨c_la_0, rfl⟩, kd_43.mpr ⟨c_lab_0, rfl⟩, kd_45.mpr rfl, kd_47.mpr rfl, trivial⟩ (by decide) (by decide) (fun _ h => nomatch h) (fun _ h => nomatch h) (fun _ _ _ => rfl) (fun h => h) rfl).2.1.1 1 (by decide))) rfl rfl (Nat.le_of_ble_eq_true rfl) (by omega) (by omega) (fun wA49 hA49 E wB49 hx => ?_) (fun wA49 hA49 v wB49 hx => ?_)
    · exact absurd hx.1 (by simp)
    · obtain ⟨e1, e2⟩ := hx
      cases e1
      refine yw_st (st2 := [.int (nI (u.1 1)), .int (nI i)]) rfl ?_
      subst e2
      refine y_go hA49 ?_
      refine y_icmp_ge (tgt := 94) d_Ip_ironBalances_52 (by decide) (fun c_52 => ?_) (fun c_52 => ?_)
      · have hn := z_le (a := (u.1 1)) (b := i) (by omega) (by omega) c_52
        refine y_lload_n d_Ip_ironBalances_94 rfl 1 rfl ?_
        refine y_aload_n d_Ip_ironBalances_95 rfl 2 rfl ?_
        refine y_get fs_Ip_43 d_Ip_ironBalances_96 (q0 := 0) rfl rfl ?_
        refine y_get fs_Ip_560 d_Ip_ironBalances_99 (q0 := 1) rfl rfl ?_
        refine y_lcmp d_Ip_ironBalances_102 (v := lg_cmp s9 ((t.1 36).2.1 0)) rfl ?_
        refine y_if_ne (tgt := 110) d_Ip_ironBalances_103 (by decide) (fun c_103 => ?_) (fun c_103 => ?_)
        · refine y_iconst d_Ip_ironBalances_110 (v := 0) (by decide) ?_
          refine y_iret d_Ip_ironBalances_111 rfl rfl ?_
          exact fun w1 h1 => ⟨⟨_, rfl⟩, z_I.same hJ h1⟩
        · refine y_iconst d_Ip_ironBalances_106 (v := 1) (by decide) ?_
          refine y_goto (tgt := 111) d_Ip_ironBalances_107 (by decide) ?_
          refine y_iret d_Ip_ironBalances_111 rfl rfl ?_
          exact fun w1 h1 => ⟨⟨_, rfl⟩, z_I.same hJ h1⟩
      · have hn := z_nle (a := (u.1 1)) (b := i) (by omega) (by omega) c_52
        refine y_aload_n d_Ip_ironBalances_55 rfl 2 rfl ?_
        refine y_get fs_Ip_78 d_Ip_ironBalances_56 (q0 := 0) rfl rfl ?_
        refine y_iload_n d_Ip_ironBalances_59 rfl 0 rfl ?_
        refine yw_callVL (As := [.int (nI i)]) (rest := []) (ci := 13) rfl (fun wA hA => ((hI.gen (t2 := t) (is := [0, 36, 37, 42, 43, 45, 47]) (L2 := []) hA rfl ⟨kd_0.mpr rfl, kd_36.mpr rfl, kd_37.mpr rfl, kd_42.mpr ⟨c_la_0, rfl⟩, kd_43.mpr ⟨c_lab_0, rfl⟩, kd_45.mpr rfl, kd_47.mpr rfl, trivial⟩ (by decide) (by decide) (fun _ h => nomatch h) (fun _ h => nomatch h) (fun _ _ _ => rfl) (fun h => h) rfl).2.1.1 1 (by decide)).ob) ln_Ip_344 w_im_AL_get w_se_AL_get ok_Ip_ironBalances_AL_get d_Ip_ironBalances_60 (fun wA hA => Q_get ((hI.gen (t2 := t) (is := [0, 36, 37, 42, 43, 45, 47]) (L2 := []) hA rfl ⟨kd_0.mpr rfl, kd_36.mpr rfl, kd_37.mpr rfl, kd_42.mpr ⟨c_la_0, rfl⟩, kd_43.mpr ⟨c_lab_0, rfl⟩, kd_45.mpr rfl, kd_47.mpr rfl, trivial⟩ (by decide) (by decide) (fun _ h => nomatch h) (fun _ h => nomatch h) (fun _ _ _ => rfl) (fun h => h) rfl).2.1.1 1 (by decide)) hn) rfl rfl (Nat.le_of_ble_eq_true rfl) (by omega) (by omega) (fun wA60 hA60 E wB60 hx => ?_) (fun wA60 hA60 v wB60 hx => ?_)
        · exact absurd hx.1 (by simp)
        · obtain ⟨e1, e2⟩ := hx
          cases e1
          refine yw_st (st2 := [.ref (u.2.2 1 i)]) rfl ?_
          subst e2
          refine y_go hA60 ?_
          refine y_end (fun wC1 hC1 => ?_)
          obtain rfl := z_I.same hJ hC1
          obtain ⟨nf_c, me_c, gr_c, hw_c, nfm_c, hwm_c, nfg_c, hwg_c⟩ := hI.2.1.2.1 1 (by decide) i hn
          have hJ : z_I _ _ ([((ad 0), .inr (11, [.ref (ad 1), .ref (ad 5), .ref (ad 18), .ref (ad 31), .ref (ad 32), .ref (ad 36), .ref (ad 42), .ref (ad 45), .ref (ad 47), .ref (ad 49), .ref (ad 50), .ref (ad 51)])), ((ad 36), .inr (3, [.ref (ad 37), .ref (ad 39), .ref (ad 40), .ref (ad 41), .long ((t.1 36).2.1 0)])), ((ad 37), .inr (6, [.ref (ad 38), .int ((t.1 37).1 0)])), ((ad 42), .inr (5, [.ref (ad 43), .int ((t.1 42).1 0), .int ((t.1 42).1 1), .int ((t.1 42).1 2)])), ((ad 43), .inr (6, [.ref (ad 44), .int ((t.1 43).1 0)])), ((ad 45), .inr (6, [.ref (ad 46), .int ((t.1 45).1 0)])), ((ad 47), .inr (6, [.ref (ad 48), .int ((t.1 47).1 0)])), ((u.2.2 1 i), .inr (0, [.ref me_c, .int ((t.2 1 i).1 0), .int ((t.2 1 i).1 1), .int ((t.2 1 i).1 2), .int ((t.2 1 i).1 3), .int ((t.2 1 i).1 4)])), (me_c, .inr (6, [.ref gr_c, .int ((t.2 1 i).1 5)])), (gr_c, .inl (3, 4, .inr (.inl ((t.2 1 i).2.2.1))))] : zC).length [((ad 0), .inr (11, [.ref (ad 1), .ref (ad 5), .ref (ad 18), .ref (ad 31), .ref (ad 32), .ref (ad 36), .ref (ad 42), .ref (ad 45), .ref (ad 47), .ref (ad 49), .ref (ad 50), .ref (ad 51)])), ((ad 36), .inr (3, [.ref (ad 37), .ref (ad 39), .ref (ad 40), .ref (ad 41), .long ((t.1 36).2.1 0)])), ((ad 37), .inr (6, [.ref (ad 38), .int ((t.1 37).1 0)])), ((ad 42), .inr (5, [.ref (ad 43), .int ((t.1 42).1 0), .int ((t.1 42).1 1), .int ((t.1 42).1 2)])), ((ad 43), .inr (6, [.ref (ad 44), .int ((t.1 43).1 0)])), ((ad 45), .inr (6, [.ref (ad 46), .int ((t.1 45).1 0)])), ((ad 47), .inr (6, [.ref (ad 48), .int ((t.1 47).1 0)])), ((u.2.2 1 i), .inr (0, [.ref me_c, .int ((t.2 1 i).1 0), .int ((t.2 1 i).1 1), .int ((t.2 1 i).1 2), .int ((t.2 1 i).1 3), .int ((t.2 1 i).1 4)])), (me_c, .inr (6, [.ref gr_c, .int ((t.2 1 i).1 5)])), (gr_c, .inl (3, 4, .inr (.inl ((t.2 1 i).2.2.1))))] := hI.1.B [0, 36, 37, 42, 43, 45, 47] [((ad 0), .inr (11, [.ref (ad 1), .ref (ad 5), .ref (ad 18), .ref (ad 31), .ref (ad 32), .ref (ad 36), .ref (ad 42), .ref (ad 45), .ref (ad 47), .ref (ad 49), .ref (ad 50), .ref (ad 51)])), ((ad 36), .inr (3, [.ref (ad 37), .ref (ad 39), .ref (ad 40), .ref (ad 41), .long ((t.1 36).2.1 0)])), ((ad 37), .inr (6, [.ref (ad 38), .int ((t.1 37).1 0)])), ((ad 42), .inr (5, [.ref (ad 43), .int ((t.1 42).1 0), .int ((t.1 42).1 1), .int ((t.1 42).1 2)])), ((ad 43), .inr (6, [.ref (ad 44), .int ((t.1 43).1 0)])), ((ad 45), .inr (6, [.ref (ad 46), .int ((t.1 45).1 0)])), ((ad 47), .inr (6, [.ref (ad 48), .int ((t.1 47).1 0)]))] [((u.2.2 1 i), .inr (0, [.ref me_c, .int ((t.2 1 i).1 0), .int ((t.2 1 i).1 1), .int ((t.2 1 i).1 2), .int ((t.2 1 i).1 3), .int ((t.2 1 i).1 4)])), (me_c, .inr (6, [.ref gr_c, .int ((t.2 1 i).1 5)])), (gr_c, .inl (3, 4, .inr (.inl ((t.2 1 i).2.2.1))))] rfl (by decide) (by decide) (List.forall_mem_cons.mpr ⟨wf_a, (List.forall_mem_cons.mpr ⟨wf_fu, (List.forall_mem_cons.mpr ⟨wf_fub, (List.forall_mem_cons.mpr ⟨wf_la, (List.forall_mem_cons.mpr ⟨wf_lab, (List.forall_mem_cons.mpr ⟨wf_gy, (List.forall_mem_cons.mpr ⟨wf_du, (fun _ h => nomatch h)⟩)⟩)⟩)⟩)⟩)⟩)⟩) (List.forall_mem_cons.mpr ⟨hw_c, (List.forall_mem_cons.mpr ⟨hwm_c, (List.forall_mem_cons.mpr ⟨hwg_c, (fun _ h => nomatch h)⟩)⟩)⟩) (List.forall_mem_cons.mpr ⟨nf_c, (List.forall_mem_cons.mpr ⟨nfm_c, (List.forall_mem_cons.mpr ⟨nfg_c, (fun _ h => nomatch h)⟩)⟩)⟩) (by simp [z_kd])
          refine y_base hJ ?_
          refine y_castO lk_Ip_441 d_Ip_ironBalances_63 (q0 := 7) rfl rfl ?_
          refine y_astore (lv' := [(4, .ref (u.2.2 1 i)), (3, .int (nI i)), (1, .long s9), (0, .ref (ad 0))]) d_Ip_ironBalances_66 (by decide) rfl ?_
          refine y_aload d_Ip_ironBalances_68 0 rfl ?_
          refine y_get fs_Ip_469 d_Ip_ironBalances_70 (q0 := 7) rfl rfl ?_
          refine y_if_ne (tgt := 88) d_Ip_ironBalances_73 (by decide) (fun c_73 => ?_) (fun c_73 => ?_)
          · refine y_iinc (lv' := [(3, .int (nI (i + 1))), (4, .ref (u.2.2 1 i)), (1, .long s9), (0, .ref (ad 0))]) (v := nI (i + 1)) d_Ip_ironBalances_88 (j := 1) rfl (nI_add _ _) (by decide) rfl ?_
            refine y_goto (tgt := 44) d_Ip_ironBalances_91 (by decide) ?_
            refine y_lv (lv' := [(3, .int (nI (i + 1))), (1, .long s9), (0, .ref (ad 0))]) [0, 2, 3] rfl ?_
            refine y_end (fun wC2 hC2 => ?_)
            obtain rfl := z_I.same hJ hC2
            exact ih (i + 1) _ (by omega) (by omega) 
          · refine y_lload_n d_Ip_ironBalances_76 rfl 2 rfl ?_
            refine y_aload d_Ip_ironBalances_77 0 rfl ?_
            refine y_get fs_Ip_450 d_Ip_ironBalances_79 (q0 := 7) rfl rfl ?_
            refine y_get fs_Ip_269 d_Ip_ironBalances_82 (q0 := 8) rfl rfl ?_
            refine y_i2l d_Ip_ironBalances_85 (v := ((t.2 1 i).1 5).toInt64) rfl ?_
            refine y_ladd d_Ip_ironBalances_86 (v := s9 + (((t.2 1 i).1 5).toInt64)) rfl ?_
            refine y_lstore_n (lv' := [(1, .long (s9 + (((t.2 1 i).1 5).toInt64))), (4, .ref (u.2.2 1 i)), (3, .int (nI i)), (0, .ref (ad 0))]) d_Ip_ironBalances_87 rfl (by decide) rfl ?_
            refine y_iinc (lv' := [(3, .int (nI (i + 1))), (1, .long (s9 + (((t.2 1 i).1 5).toInt64))), (4, .ref (u.2.2 1 i)), (0, .ref (ad 0))]) (v := nI (i + 1)) d_Ip_ironBalances_88 (j := 2) rfl (nI_add _ _) (by decide) rfl ?_
            refine y_goto (tgt := 44) d_Ip_ironBalances_91 (by decide) ?_
            refine y_lv (lv' := [(3, .int (nI (i + 1))), (1, .long (s9 + (((t.2 1 i).1 5).toInt64))), (0, .ref (ad 0))]) [0, 1, 3] rfl ?_
            refine y_end (fun wC3 hC3 => ?_)
            obtain rfl := z_I.same hJ hC3
            exact ih (i + 1) _ (by omega) (by omega) 
set_option maxHeartbeats 4000000 in
set_option maxRecDepth 100000 in
theorem Q_ironBalances {g : zG} {ad : Nat → Nat} {t : zTT} {u : zNN} {w : zW} (hI : IV g ad t u w) : zMB g M_Ip_ironBalances [.ref (ad 0)] w (fun o w1 => (∃ v : Int32, o = .inl (some (.int v))) ∧ w1 = w) 0 0 := by
  obtain ⟨e_a, wf_a, k_a⟩ := hI.1.2 0 (by decide)
  obtain rfl := kd_0.mp k_a
  obtain ⟨e_fu, wf_fu, k_fu⟩ := hI.1.2 36 (by decide)
  obtain rfl := kd_36.mp k_fu
  obtain ⟨e_fub, wf_fub, k_fub⟩ := hI.1.2 37 (by decide)
  obtain rfl := kd_37.mp k_fub
  obtain ⟨e_la, wf_la, k_la⟩ := hI.1.2 42 (by decide)
  obtain ⟨c_la_0, rfl⟩ := kd_42.mp k_la
  obtain ⟨e_lab, wf_lab, k_lab⟩ := hI.1.2 43 (by decide)
  obtain ⟨c_lab_0, rfl⟩ := kd_43.mp k_lab
  obtain ⟨e_gy, wf_gy, k_gy⟩ := hI.1.2 45 (by decide)
  obtain rfl := kd_45.mp k_gy
  obtain ⟨e_du, wf_du, k_du⟩ := hI.1.2 47 (by decide)
  obtain rfl := kd_47.mp k_du
  have hJ := hI.1.I [0, 36, 37, 42, 43, 45, 47] [((ad 0), .inr (11, [.ref (ad 1), .ref (ad 5), .ref (ad 18), .ref (ad 31), .ref (ad 32), .ref (ad 36), .ref (ad 42), .ref (ad 45), .ref (ad 47), .ref (ad 49), .ref (ad 50), .ref (ad 51)])), ((ad 36), .inr (3, [.ref (ad 37), .ref (ad 39), .ref (ad 40), .ref (ad 41), .long ((t.1 36).2.1 0)])), ((ad 37), .inr (6, [.ref (ad 38), .int ((t.1 37).1 0)])), ((ad 42), .inr (5, [.ref (ad 43), .int ((t.1 42).1 0), .int ((t.1 42).1 1), .int ((t.1 42).1 2)])), ((ad 43), .inr (6, [.ref (ad 44), .int ((t.1 43).1 0)])), ((ad 45), .inr (6, [.ref (ad 46), .int ((t.1 45).1 0)])), ((ad 47), .inr (6, [.ref (ad 48), .int ((t.1 47).1 0)]))] rfl (by decide) (by decide) (List.forall_mem_cons.mpr ⟨wf_a, (List.forall_mem_cons.mpr ⟨wf_fu, (List.forall_mem_cons.mpr ⟨wf_fub, (List.forall_mem_cons.mpr ⟨wf_la, (List.forall_mem_cons.mpr ⟨wf_lab, (List.forall_mem_cons.mpr ⟨wf_gy, (List.forall_mem_cons.mpr ⟨wf_du, (fun _ h => nomatch h)⟩)⟩)⟩)⟩)⟩)⟩)⟩)
  refine y_of (by decide) rfl (Nat.le_of_ble_eq_true rfl) (y_base (cs := [((ad 0), .inr (11, [.ref (ad 1), .ref (ad 5), .ref (ad 18), .ref (ad 31), .ref (ad 32), .ref (ad 36), .ref (ad 42), .ref (ad 45), .ref (ad 47), .ref (ad 49), .ref (ad 50), .ref (ad 51)])), ((ad 36), .inr (3, [.ref (ad 37), .ref (ad 39), .ref (ad 40), .ref (ad 41), .long ((t.1 36).2.1 0)])), ((ad 37), .inr (6, [.ref (ad 38), .int ((t.1 37).1 0)])), ((ad 42), .inr (5, [.ref (ad 43), .int ((t.1 42).1 0), .int ((t.1 42).1 1), .int ((t.1 42).1 2)])), ((ad 43), .inr (6, [.ref (ad 44), .int ((t.1 43).1 0)])), ((ad 45), .inr (6, [.ref (ad 46), .int ((t.1 45).1 0)])), ((ad 47), .inr (6, [.ref (ad 48), .int ((t.1 47).1 0)]))]) hJ ?_)
  refine y_lvE (lv2 := [(0, .ref (ad 0))]) rfl ?_
  refine y_aload_n d_Ip_ironBalances_0 rfl 0 rfl ?_
  refine y_get fs_Ip_43 d_Ip_ironBalances_1 (q0 := 0) rfl rfl ?_
  refine y_get fs_Ip_277 d_Ip_ironBalances_4 (q0 := 1) rfl rfl ?_
  refine y_get fs_Ip_269 d_Ip_ironBalances_7 (q0 := 2) rfl rfl ?_
  refine y_i2l d_Ip_ironBalances_10 (v := ((t.1 37).1 0).toInt64) rfl ?_
  refine y_aload_n d_Ip_ironBalances_11 rfl 0 rfl ?_
  refine y_get fs_Ip_50 d_Ip_ironBalances_12 (q0 := 0) rfl rfl ?_
  refine y_get fs_Ip_359 d_Ip_ironBalances_15 (q0 := 3) rfl rfl ?_
  refine y_get fs_Ip_269 d_Ip_ironBalances_18 (q0 := 4) rfl rfl ?_
  refine y_i2l d_Ip_ironBalances_21 (v := ((t.1 43).1 0).toInt64) rfl ?_
  refine y_ladd d_Ip_ironBalances_22 (v := (((t.1 37).1 0).toInt64) + (((t.1 43).1 0).toInt64)) rfl ?_
  refine y_aload_n d_Ip_ironBalances_23 rfl 0 rfl ?_
  refine y_get fs_Ip_57 d_Ip_ironBalances_24 (q0 := 0) rfl rfl ?_
  refine y_get fs_Ip_269 d_Ip_ironBalances_27 (q0 := 5) rfl rfl ?_
  refine y_i2l d_Ip_ironBalances_30 (v := ((t.1 45).1 0).toInt64) rfl ?_
  refine y_ladd d_Ip_ironBalances_31 (v := ((((t.1 37).1 0).toInt64) + (((t.1 43).1 0).toInt64)) + (((t.1 45).1 0).toInt64)) rfl ?_
  refine y_aload_n d_Ip_ironBalances_32 rfl 0 rfl ?_
  refine y_get fs_Ip_61 d_Ip_ironBalances_33 (q0 := 0) rfl rfl ?_
  refine y_get fs_Ip_269 d_Ip_ironBalances_36 (q0 := 6) rfl rfl ?_
  refine y_i2l d_Ip_ironBalances_39 (v := ((t.1 47).1 0).toInt64) rfl ?_
  refine y_ladd d_Ip_ironBalances_40 (v := (((((t.1 37).1 0).toInt64) + (((t.1 43).1 0).toInt64)) + (((t.1 45).1 0).toInt64)) + (((t.1 47).1 0).toInt64)) rfl ?_
  refine y_lstore_n (lv' := [(1, .long ((((((t.1 37).1 0).toInt64) + (((t.1 43).1 0).toInt64)) + (((t.1 45).1 0).toInt64)) + (((t.1 47).1 0).toInt64))), (0, .ref (ad 0))]) d_Ip_ironBalances_41 rfl (by decide) rfl ?_
  refine y_iconst d_Ip_ironBalances_42 (v := 0) (by decide) ?_
  refine y_istore_n (lv' := [(3, .int 0), (1, .long ((((((t.1 37).1 0).toInt64) + (((t.1 43).1 0).toInt64)) + (((t.1 45).1 0).toInt64)) + (((t.1 47).1 0).toInt64))), (0, .ref (ad 0))]) d_Ip_ironBalances_43 rfl (by decide) rfl ?_
  refine y_end (fun wC4 hC4 => ?_)
  obtain rfl := z_I.same hJ hC4
  exact L_Q_ironBalances_44 g hI  (u.1 1 + 1) 0 _ (Nat.zero_le _) (by omega) 
theorem d_Ip_elementBalances_144 : decode prog_1_method_69_code 144 = .ok (.iconst 0, 1) := zo_3 (zd_b zq_prog_1_method_69_code_4 16 rfl rfl rfl)
theorem d_Ip_elementBalances_71 : decode prog_1_method_69_code 71 = .ok (.aload_n 0, 1) := zo_42 (zd_b zq_prog_1_method_69_code_2 7 rfl rfl rfl)
theorem d_Ip_elementBalances_72 : decode prog_1_method_69_code 72 = .ok (.getfield 78, 3) := zo_180 (d := 0) (e := 78) (zd_b zq_prog_1_method_69_code_2 8 rfl rfl rfl) (zd_b zq_prog_1_method_69_code_2 9 rfl rfl rfl) (zd_b zq_prog_1_method_69_code_2 10 rfl rfl rfl)
theorem d_Ip_elementBalances_75 : decode prog_1_method_69_code 75 = .ok (.iload 4, 2) := zo_21 (d := 4) (zd_b zq_prog_1_method_69_code_2 11 rfl rfl rfl) (zd_b zq_prog_1_method_69_code_2 12 rfl rfl rfl)
theorem d_Ip_elementBalances_77 : decode prog_1_method_69_code 77 = .ok (.invokevirtual 344, 3) := zo_182 (d := 1) (e := 88) (zd_b zq_prog_1_method_69_code_2 13 rfl rfl rfl) (zd_b zq_prog_1_method_69_code_2 14 rfl rfl rfl) (zd_b zq_prog_1_method_69_code_2 15 rfl rfl rfl)
theorem ok_Ip_elementBalances_AL_get : z_ok M_Ip_elementBalances M_AL_get 1 := ⟨z_mj2 (i := 180) rfl (by decide +kernel), rfl, ⟨by decide +kernel, by decide +kernel, by decide +kernel⟩, ⟨by decide, by decide⟩, z_mj1 (i := 13) rfl (by decide +kernel), rfl⟩
theorem d_Ip_elementBalances_80 : decode prog_1_method_69_code 80 = .ok (.checkcast 441, 3) := zo_192 (d := 1) (e := 185) (zd_b zq_prog_1_method_69_code_2 16 rfl rfl rfl) (zd_b zq_prog_1_method_69_code_2 17 rfl rfl rfl) (zd_b zq_prog_1_method_69_code_2 18 rfl rfl rfl)
theorem d_Ip_elementBalances_83 : decode prog_1_method_69_code 83 = .ok (.astore 5, 2) := zo_58 (d := 5) (zd_b zq_prog_1_method_69_code_2 19 rfl rfl rfl) (zd_b zq_prog_1_method_69_code_2 20 rfl rfl rfl)
theorem d_Ip_elementBalances_85 : decode prog_1_method_69_code 85 = .ok (.aload 5, 2) := zo_25 (d := 5) (zd_b zq_prog_1_method_69_code_2 21 rfl rfl rfl) (zd_b zq_prog_1_method_69_code_2 22 rfl rfl rfl)
theorem d_Ip_elementBalances_87 : decode prog_1_method_69_code 87 = .ok (.getfield 469, 3) := zo_180 (d := 1) (e := 213) (zd_b zq_prog_1_method_69_code_2 23 rfl rfl rfl) (zd_b zq_prog_1_method_69_code_2 24 rfl rfl rfl) (zd_b zq_prog_1_method_69_code_2 25 rfl rfl rfl)
theorem d_Ip_elementBalances_90 : decode prog_1_method_69_code 90 = .ok (.ifCond .ne 16, 3) := zo_154 (d := 0) (e := 16) (zd_b zq_prog_1_method_69_code_2 26 rfl rfl rfl) (zd_b zq_prog_1_method_69_code_2 27 rfl rfl rfl) (zd_b zq_prog_1_method_69_code_2 28 rfl rfl rfl) (by decide +kernel)
theorem d_Ip_elementBalances_106 : decode prog_1_method_69_code 106 = .ok (.iinc 4 1, 3) := by decide +kernel
theorem d_Ip_elementBalances_109 : decode prog_1_method_69_code 109 = .ok (.goto (-50), 3) := zo_167 (d := 255) (e := 206) (zd_b zq_prog_1_method_69_code_3 13 rfl rfl rfl) (zd_b zq_prog_1_method_69_code_3 14 rfl rfl rfl) (zd_b zq_prog_1_method_69_code_3 15 rfl rfl rfl) (by decide +kernel)
theorem d_Ip_elementBalances_93 : decode prog_1_method_69_code 93 = .ok (.lload_n 2, 1) := zo_32 (zd_b zq_prog_1_method_69_code_2 29 rfl rfl rfl)
theorem d_Ip_elementBalances_94 : decode prog_1_method_69_code 94 = .ok (.aload 5, 2) := zo_25 (d := 5) (zd_b zq_prog_1_method_69_code_2 30 rfl rfl rfl) (zd_b zq_prog_1_method_69_code_2 31 rfl rfl rfl)
theorem d_Ip_elementBalances_96 : decode prog_1_method_69_code 96 = .ok (.getfield 450, 3) := zo_180 (d := 1) (e := 194) (zd_b zq_prog_1_method_69_code_3 0 rfl rfl rfl) (zd_b zq_prog_1_method_69_code_3 1 rfl rfl rfl) (zd_b zq_prog_1_method_69_code_3 2 rfl rfl rfl)
theorem d_Ip_elementBalances_99 : decode prog_1_method_69_code 99 = .ok (.getfield 308, 3) := zo_180 (d := 1) (e := 52) (zd_b zq_prog_1_method_69_code_3 3 rfl rfl rfl) (zd_b zq_prog_1_method_69_code_3 4 rfl rfl rfl) (zd_b zq_prog_1_method_69_code_3 5 rfl rfl rfl)
theorem d_Ip_elementBalances_102 : decode prog_1_method_69_code 102 = .ok (.iload_n 1, 1) := zo_27 (zd_b zq_prog_1_method_69_code_3 6 rfl rfl rfl)
theorem d_Ip_elementBalances_103 : decode prog_1_method_69_code 103 = .ok (.laload, 1) := zo_47 (zd_b zq_prog_1_method_69_code_3 7 rfl rfl rfl)
theorem d_Ip_elementBalances_104 : decode prog_1_method_69_code 104 = .ok (.ladd, 1) := zo_97 (zd_b zq_prog_1_method_69_code_3 8 rfl rfl rfl)
theorem d_Ip_elementBalances_105 : decode prog_1_method_69_code 105 = .ok (.lstore_n 2, 1) := zo_65 (zd_b zq_prog_1_method_69_code_3 9 rfl rfl rfl)
set_option maxHeartbeats 4000000 in
set_option maxRecDepth 100000 in
theorem L_Q_elementBalances_59 (g : zG) {ad : Nat → Nat} {t : zTT} {u : zNN} {w : zW} (hI : IV g ad t u w) (e : Nat) (he : e < 4) : ∀ (d i : Nat) (s9 : Int64), i ≤ u.1 1 → u.1 1 < i + d → DW g M_Ip_elementBalances (fun o w1 => (∃ v : Int32, o = .inl (some (.int v))) ∧ w1 = w) w 59 [(4, .int (nI i)), (2, .long s9), (0, .ref (ad 0)), (1, .int (nI e))] [] 0 0 := by
  intro d
  induction d with
  | zero => intro i s9 h1 h2 ; exact absurd h2 (by omega)
  | succ d ih =>
    intro i s9 h1 h2 
    obtain ⟨e_a, wf_a, k_a⟩ := hI.1.2 0 (by decide)
    obtain rfl := kd_0.mp k_a
    obtain ⟨e_fu, wf_fu, k_fu⟩ := hI.1.2 36 (by decide)
    obtain rfl := kd_36.mp k_fu
    obtain ⟨e_fub, wf_fub, k_fub⟩ := hI.1.2 37 (by decide)
    obtain rfl := kd_37.mp k_fub
    obtain ⟨e_fubg, wf_fubg, k_fubg⟩ := hI.1.2 38 (by decide)
    obtain rfl := kd_38.mp k_fubg
    obtain ⟨e_fut1, wf_fut1, k_fut1⟩ := hI.1.2 39 (by decide)
    obtain rfl := kd_39.mp k_fut1
    obtain ⟨e_fut2, wf_fut2, k_fut2⟩ := hI.1.2 40 (by decide)
    obtain rfl := kd_40.mp k_fut2
    obtain ⟨e_fut3, wf_fut3, k_fut3⟩ := hI.1.2 41 (by decide)
    obtain rfl := kd_41.mp k_fut3
    obtain ⟨e_la, wf_la, k_la⟩ := hI.1.2 42 (by decide)
    obtain ⟨c_la_0, rfl⟩ := kd_42.mp k_la
    obtain ⟨e_lab, wf_lab, k_lab⟩ := hI.1.2 43 (by decide)
    obtain ⟨c_lab_0, rfl⟩ := kd_43.mp k_lab
    obtain ⟨e_labg, wf_labg, k_labg⟩ := hI.1.2 44 (by decide)
    obtain rfl := kd_44.mp k_labg
    obtain ⟨e_gy, wf_gy, k_gy⟩ := hI.1.2 45 (by decide)
    obtain rfl := kd_45.mp k_gy
    obtain ⟨e_gyg, wf_gyg, k_gyg⟩ := hI.1.2 46 (by decide)
    obtain rfl := kd_46.mp k_gyg
    obtain ⟨e_du, wf_du, k_du⟩ := hI.1.2 47 (by decide)
    obtain rfl := kd_47.mp k_du
    obtain ⟨e_dug, wf_dug, k_dug⟩ := hI.1.2 48 (by decide)
    obtain rfl := kd_48.mp k_dug
    have h33 := hI.n5 1 (by decide)
    have hJ := hI.1.I [0, 36, 37, 38, 39, 40, 41, 42, 43, 44, 45, 46, 47, 48] [((ad 0), .inr (11, [.ref (ad 1), .ref (ad 5), .ref (ad 18), .ref (ad 31), .ref (ad 32), .ref (ad 36), .ref (ad 42), .ref (ad 45), .ref (ad 47), .ref (ad 49), .ref (ad 50), .ref (ad 51)])), ((ad 36), .inr (3, [.ref (ad 37), .ref (ad 39), .ref (ad 40), .ref (ad 41), .long ((t.1 36).2.1 0)])), ((ad 37), .inr (6, [.ref (ad 38), .int ((t.1 37).1 0)])), ((ad 38), .inl (3, 4, .inr (.inl ((t.1 38).2.1)))), ((ad 39), .inl (3, 4, .inr (.inl ((t.1 39).2.1)))), ((ad 40), .inl (3, 4, .inr (.inl ((t.1 40).2.1)))), ((ad 41), .inl (3, 4, .inr (.inl ((t.1 41).2.1)))), ((ad 42), .inr (5, [.ref (ad 43), .int ((t.1 42).1 0), .int ((t.1 42).1 1), .int ((t.1 42).1 2)])), ((ad 43), .inr (6, [.ref (ad 44), .int ((t.1 43).1 0)])), ((ad 44), .inl (3, 4, .inr (.inl ((t.1 44).2.1)))), ((ad 45), .inr (6, [.ref (ad 46), .int ((t.1 45).1 0)])), ((ad 46), .inl (3, 4, .inr (.inl ((t.1 46).2.1)))), ((ad 47), .inr (6, [.ref (ad 48), .int ((t.1 47).1 0)])), ((ad 48), .inl (3, 4, .inr (.inl ((t.1 48).2.1))))] rfl (by decide) (by decide) (List.forall_mem_cons.mpr ⟨wf_a, (List.forall_mem_cons.mpr ⟨wf_fu, (List.forall_mem_cons.mpr ⟨wf_fub, (List.forall_mem_cons.mpr ⟨wf_fubg, (List.forall_mem_cons.mpr ⟨wf_fut1, (List.forall_mem_cons.mpr ⟨wf_fut2, (List.forall_mem_cons.mpr ⟨wf_fut3, (List.forall_mem_cons.mpr ⟨wf_la, (List.forall_mem_cons.mpr ⟨wf_lab, (List.forall_mem_cons.mpr ⟨wf_labg, (List.forall_mem_cons.mpr ⟨wf_gy, (List.forall_mem_cons.mpr ⟨wf_gyg, (List.forall_mem_cons.mpr ⟨wf_du, (List.forall_mem_cons.mpr ⟨wf_dug, (fun _ h => nomatch h)⟩)⟩)⟩)⟩)⟩)⟩)⟩)⟩)⟩)⟩)⟩)⟩)⟩)⟩)
    refine y_base hJ ?_
    refine y_iload d_Ip_elementBalances_59 0 rfl ?_
    refine y_aload_n d_Ip_elementBalances_61 rfl 2 rfl ?_
    refine y_get fs_Ip_78 d_Ip_elementBalances_62 (q0 := 0) rfl rfl ?_
    refine yw_callVL (As := []) (rest := [.int (nI i)]) (ci := 13) rfl (fun wA hA => ((hI.gen (t2 := t) (is := [0, 36, 37, 38, 39, 40, 41, 42, 43, 44, 45, 46, 47, 48]) (L2 := []) hA rfl ⟨kd_0.mpr rfl, kd_36.mpr rfl, kd_37.mpr rfl, kd_38.mpr rfl, kd_39.mpr rfl, kd_40.mpr rfl, kd_41.mpr rfl, kd_42.mpr ⟨c_la_0, rfl⟩, kd_43.mpr ⟨c_lab_0, rfl⟩, kd_44.mpr rfl, kd_45.mpr rfl, kd_46.mpr rfl, kd_47.mpr rfl, kd_48.mpr rfl, trivial⟩ (by decide) (by decide) (fun _ h => nomatch h) (fun _ h => nomatch h) (fun _ _ _ => rfl) (fun h => h) rfl).2.1.1 1 (by decide)).ob) ln_Ip_341 w_im_AL_size w_se_AL_size ok_Ip_elementBalances_AL_size d_Ip_elementBalances_65 (fun wA hA => Q_size ((hI.gen (t2 := t) (is := [0, 36, 37, 38, 39, 40, 41, 42, 43, 44, 45, 46, 47, 48]) (L2 := []) hA rfl ⟨kd_0.mpr rfl, kd_36.mpr rfl, kd_37.mpr rfl, kd_38.mpr rfl, kd_39.mpr rfl, kd_40.mpr rfl, kd_41.mpr rfl, kd_42.mpr ⟨c_la_0, rfl⟩, kd_43.mpr ⟨c_lab_0, rfl⟩, kd_44.mpr rfl, kd_45.mpr rfl, kd_46.mpr rfl, kd_47.mpr rfl, kd_48.mpr rfl, trivial⟩ (by decide) (by decide) (fun _ h => nomatch h) (fun _ h => nomatch h) (fun _ _ _ => rfl) (fun h => h) rfl).2.1.1 1 (by decide))) rfl rfl (Nat.le_of_ble_eq_true rfl) (by omega) (by omega) (fun wA65 hA65 E wB65 hx => ?_) (fun wA65 hA65 v wB65 hx => ?_)
    · exact absurd hx.1 (by simp)
    · obtain ⟨e1, e2⟩ := hx
      cases e1
      refine yw_st (st2 := [.int (nI (u.1 1)), .int (nI i)]) rfl ?_
      subst e2
      refine y_go hA65 ?_
      refine y_icmp_ge (tgt := 112) d_Ip_elementBalances_68 (by decide) (fun c_68 => ?_) (fun c_68 => ?_)
      · have hn := z_le (a := (u.1 1)) (b := i) (by omega) (by omega) c_68
        refine y_lload_n d_Ip_elementBalances_112 rfl 1 rfl ?_
        refine y_ldc2 ct_Ip_567 d_Ip_elementBalances_113 ?_
        refine y_lmul d_Ip_elementBalances_116 (v := s9 * 10) rfl ?_
        refine y_aload_n d_Ip_elementBalances_117 rfl 2 rfl ?_
        refine y_get fs_Ip_43 d_Ip_elementBalances_118 (q0 := 0) rfl rfl ?_
        refine y_get fs_Ip_569 d_Ip_elementBalances_121 (q0 := 1) rfl rfl ?_
        refine y_iload_n d_Ip_elementBalances_124 rfl 3 rfl ?_
        refine y_lald d_Ip_elementBalances_125 (q0 := 5) rfl (vp_in_nI (by omega) (by omega)) (v := ((t.1 40).2.1) e) (by rw [nI_clamp (by omega)]) ?_
        refine y_ladd d_Ip_elementBalances_126 (v := (s9 * 10) + (((t.1 40).2.1) e)) rfl ?_
        refine y_aload_n d_Ip_elementBalances_127 rfl 2 rfl ?_
        refine y_get fs_Ip_43 d_Ip_elementBalances_128 (q0 := 0) rfl rfl ?_
        refine y_get fs_Ip_572 d_Ip_elementBalances_131 (q0 := 1) rfl rfl ?_
        refine y_iload_n d_Ip_elementBalances_134 rfl 3 rfl ?_
        refine y_lald d_Ip_elementBalances_135 (q0 := 4) rfl (vp_in_nI (by omega) (by omega)) (v := ((t.1 39).2.1) e) (by rw [nI_clamp (by omega)]) ?_
        refine y_lcmp d_Ip_elementBalances_136 (v := lg_cmp ((s9 * 10) + (((t.1 40).2.1) e)) (((t.1 39).2.1) e)) rfl ?_
        refine y_if_ne (tgt := 144) d_Ip_elementBalances_137 (by decide) (fun c_137 => ?_) (fun c_137 => ?_)
        · refine y_iconst d_Ip_elementBalances_144 (v := 0) (by decide) ?_
          refine y_iret d_Ip_elementBalances_145 rfl rfl ?_
          exact fun w1 h1 => ⟨⟨_, rfl⟩, z_I.same hJ h1⟩
        · refine y_iconst d_Ip_elementBalances_140 (v := 1) (by decide) ?_
          refine y_goto (tgt := 145) d_Ip_elementBalances_141 (by decide) ?_
          refine y_iret d_Ip_elementBalances_145 rfl rfl ?_
          exact fun w1 h1 => ⟨⟨_, rfl⟩, z_I.same hJ h1⟩
      · have hn := z_nle (a := (u.1 1)) (b := i) (by omega) (by omega) c_68
        refine y_aload_n d_Ip_elementBalances_71 rfl 2 rfl ?_
        refine y_get fs_Ip_78 d_Ip_elementBalances_72 (q0 := 0) rfl rfl ?_
        refine y_iload d_Ip_elementBalances_75 0 rfl ?_
        refine yw_callVL (As := [.int (nI i)]) (rest := []) (ci := 13) rfl (fun wA hA => ((hI.gen (t2 := t) (is := [0, 36, 37, 38, 39, 40, 41, 42, 43, 44, 45, 46, 47, 48]) (L2 := []) hA rfl ⟨kd_0.mpr rfl, kd_36.mpr rfl, kd_37.mpr rfl, kd_38.mpr rfl, kd_39.mpr rfl, kd_40.mpr rfl, kd_41.mpr rfl, kd_42.mpr ⟨c_la_0, rfl⟩, kd_43.mpr ⟨c_lab_0, rfl⟩, kd_44.mpr rfl, kd_45.mpr rfl, kd_46.mpr rfl, kd_47.mpr rfl, kd_48.mpr rfl, trivial⟩ (by decide) (by decide) (fun _ h => nomatch h) (fun _ h => nomatch h) (fun _ _ _ => rfl) (fun h => h) rfl).2.1.1 1 (by decide)).ob) ln_Ip_344 w_im_AL_get w_se_AL_get ok_Ip_elementBalances_AL_get d_Ip_elementBalances_77 (fun wA hA => Q_get ((hI.gen (t2 := t) (is := [0, 36, 37, 38, 39, 40, 41, 42, 43, 44, 45, 46, 47, 48]) (L2 := []) hA rfl ⟨kd_0.mpr rfl, kd_36.mpr rfl, kd_37.mpr rfl, kd_38.mpr rfl, kd_39.mpr rfl, kd_40.mpr rfl, kd_41.mpr rfl, kd_42.mpr ⟨c_la_0, rfl⟩, kd_43.mpr ⟨c_lab_0, rfl⟩, kd_44.mpr rfl, kd_45.mpr rfl, kd_46.mpr rfl, kd_47.mpr rfl, kd_48.mpr rfl, trivial⟩ (by decide) (by decide) (fun _ h => nomatch h) (fun _ h => nomatch h) (fun _ _ _ => rfl) (fun h => h) rfl).2.1.1 1 (by decide)) hn) rfl rfl (Nat.le_of_ble_eq_true rfl) (by omega) (by omega) (fun wA77 hA77 E wB77 hx => ?_) (fun wA77 hA77 v wB77 hx => ?_)
        · exact absurd hx.1 (by simp)
        · obtain ⟨e1, e2⟩ := hx
          cases e1
          refine yw_st (st2 := [.ref (u.2.2 1 i)]) rfl ?_
          subst e2
          refine y_go hA77 ?_
          refine y_end (fun wC1 hC1 => ?_)
          obtain rfl := z_I.same hJ hC1
          obtain ⟨nf_c, me_c, gr_c, hw_c, nfm_c, hwm_c, nfg_c, hwg_c⟩ := hI.2.1.2.1 1 (by decide) i hn
          have hJ : z_I _ _ ([((ad 0), .inr (11, [.ref (ad 1), .ref (ad 5), .ref (ad 18), .ref (ad 31), .ref (ad 32), .ref (ad 36), .ref (ad 42), .ref (ad 45), .ref (ad 47), .ref (ad 49), .ref (ad 50), .ref (ad 51)])), ((ad 36), .inr (3, [.ref (ad 37), .ref (ad 39), .ref (ad 40), .ref (ad 41), .long ((t.1 36).2.1 0)])), ((ad 37), .inr (6, [.ref (ad 38), .int ((t.1 37).1 0)])), ((ad 38), .inl (3, 4, .inr (.inl ((t.1 38).2.1)))), ((ad 39), .inl (3, 4, .inr (.inl ((t.1 39).2.1)))), ((ad 40), .inl (3, 4, .inr (.inl ((t.1 40).2.1)))), ((ad 41), .inl (3, 4, .inr (.inl ((t.1 41).2.1)))), ((ad 42), .inr (5, [.ref (ad 43), .int ((t.1 42).1 0), .int ((t.1 42).1 1), .int ((t.1 42).1 2)])), ((ad 43), .inr (6, [.ref (ad 44), .int ((t.1 43).1 0)])), ((ad 44), .inl (3, 4, .inr (.inl ((t.1 44).2.1)))), ((ad 45), .inr (6, [.ref (ad 46), .int ((t.1 45).1 0)])), ((ad 46), .inl (3, 4, .inr (.inl ((t.1 46).2.1)))), ((ad 47), .inr (6, [.ref (ad 48), .int ((t.1 47).1 0)])), ((ad 48), .inl (3, 4, .inr (.inl ((t.1 48).2.1)))), ((u.2.2 1 i), .inr (0, [.ref me_c, .int ((t.2 1 i).1 0), .int ((t.2 1 i).1 1), .int ((t.2 1 i).1 2), .int ((t.2 1 i).1 3), .int ((t.2 1 i).1 4)])), (me_c, .inr (6, [.ref gr_c, .int ((t.2 1 i).1 5)])), (gr_c, .inl (3, 4, .inr (.inl ((t.2 1 i).2.2.1))))] : zC).length [((ad 0), .inr (11, [.ref (ad 1), .ref (ad 5), .ref (ad 18), .ref (ad 31), .ref (ad 32), .ref (ad 36), .ref (ad 42), .ref (ad 45), .ref (ad 47), .ref (ad 49), .ref (ad 50), .ref (ad 51)])), ((ad 36), .inr (3, [.ref (ad 37), .ref (ad 39), .ref (ad 40), .ref (ad 41), .long ((t.1 36).2.1 0)])), ((ad 37), .inr (6, [.ref (ad 38), .int ((t.1 37).1 0)])), ((ad 38), .inl (3, 4, .inr (.inl ((t.1 38).2.1)))), ((ad 39), .inl (3, 4, .inr (.inl ((t.1 39).2.1)))), ((ad 40), .inl (3, 4, .inr (.inl ((t.1 40).2.1)))), ((ad 41), .inl (3, 4, .inr (.inl ((t.1 41).2.1)))), ((ad 42), .inr (5, [.ref (ad 43), .int ((t.1 42).1 0), .int ((t.1 42).1 1), .int ((t.1 42).1 2)])), ((ad 43), .inr (6, [.ref (ad 44), .int ((t.1 43).1 0)])), ((ad 44), .inl (3, 4, .inr (.inl ((t.1 44).2.1)))), ((ad 45), .inr (6, [.ref (ad 46), .int ((t.1 45).1 0)])), ((ad 46), .inl (3, 4, .inr (.inl ((t.1 46).2.1)))), ((ad 47), .inr (6, [.ref (ad 48), .int ((t.1 47).1 0)])), ((ad 48), .inl (3, 4, .inr (.inl ((t.1 48).2.1)))), ((u.2.2 1 i), .inr (0, [.ref me_c, .int ((t.2 1 i).1 0), .int ((t.2 1 i).1 1), .int ((t.2 1 i).1 2), .int ((t.2 1 i).1 3), .int ((t.2 1 i).1 4)])), (me_c, .inr (6, [.ref gr_c, .int ((t.2 1 i).1 5)])), (gr_c, .inl (3, 4, .inr (.inl ((t.2 1 i).2.2.1))))] := hI.1.B [0, 36, 37, 38, 39, 40, 41, 42, 43, 44, 45, 46, 47, 48] [((ad 0), .inr (11, [.ref (ad 1), .ref (ad 5), .ref (ad 18), .ref (ad 31), .ref (ad 32), .ref (ad 36), .ref (ad 42), .ref (ad 45), .ref (ad 47), .ref (ad 49), .ref (ad 50), .ref (ad 51)])), ((ad 36), .inr (3, [.ref (ad 37), .ref (ad 39), .ref (ad 40), .ref (ad 41), .long ((t.1 36).2.1 0)])), ((ad 37), .inr (6, [.ref (ad 38), .int ((t.1 37).1 0)])), ((ad 38), .inl (3, 4, .inr (.inl ((t.1 38).2.1)))), ((ad 39), .inl (3, 4, .inr (.inl ((t.1 39).2.1)))), ((ad 40), .inl (3, 4, .inr (.inl ((t.1 40).2.1)))), ((ad 41), .inl (3, 4, .inr (.inl ((t.1 41).2.1)))), ((ad 42), .inr (5, [.ref (ad 43), .int ((t.1 42).1 0), .int ((t.1 42).1 1), .int ((t.1 42).1 2)])), ((ad 43), .inr (6, [.ref (ad 44), .int ((t.1 43).1 0)])), ((ad 44), .inl (3, 4, .inr (.inl ((t.1 44).2.1)))), ((ad 45), .inr (6, [.ref (ad 46), .int ((t.1 45).1 0)])), ((ad 46), .inl (3, 4, .inr (.inl ((t.1 46).2.1)))), ((ad 47), .inr (6, [.ref (ad 48), .int ((t.1 47).1 0)])), ((ad 48), .inl (3, 4, .inr (.inl ((t.1 48).2.1))))] [((u.2.2 1 i), .inr (0, [.ref me_c, .int ((t.2 1 i).1 0), .int ((t.2 1 i).1 1), .int ((t.2 1 i).1 2), .int ((t.2 1 i).1 3), .int ((t.2 1 i).1 4)])), (me_c, .inr (6, [.ref gr_c, .int ((t.2 1 i).1 5)])), (gr_c, .inl (3, 4, .inr (.inl ((t.2 1 i).2.2.1))))] rfl (by decide) (by decide) (List.forall_mem_cons.mpr ⟨wf_a, (List.forall_mem_cons.mpr ⟨wf_fu, (List.forall_mem_cons.mpr ⟨wf_fub, (List.forall_mem_cons.mpr ⟨wf_fubg, (List.forall_mem_cons.mpr ⟨wf_fut1, (List.forall_mem_cons.mpr ⟨wf_fut2, (List.forall_mem_cons.mpr ⟨wf_fut3, (List.forall_mem_cons.mpr ⟨wf_la, (List.forall_mem_cons.mpr ⟨wf_lab, (List.forall_mem_cons.mpr ⟨wf_labg, (List.forall_mem_cons.mpr ⟨wf_gy, (List.forall_mem_cons.mpr ⟨wf_gyg, (List.forall_mem_cons.mpr ⟨wf_du, (List.forall_mem_cons.mpr ⟨wf_dug, (fun _ h => nomatch h)⟩)⟩)⟩)⟩)⟩)⟩)⟩)⟩)⟩)⟩)⟩)⟩)⟩)⟩) (List.forall_mem_cons.mpr ⟨hw_c, (List.forall_mem_cons.mpr ⟨hwm_c, (List.forall_mem_cons.mpr ⟨hwg_c, (fun _ h => nomatch h)⟩)⟩)⟩) (List.forall_mem_cons.mpr ⟨nf_c, (List.forall_mem_cons.mpr ⟨nfm_c, (List.forall_mem_cons.mpr ⟨nfg_c, (fun _ h => nomatch h)⟩)⟩)⟩) (by simp [z_kd])
          refine y_base hJ ?_
          refine y_castO lk_Ip_441 d_Ip_elementBalances_80 (q0 := 14) rfl rfl ?_
          refine y_astore (lv' := [(5, .ref (u.2.2 1 i)), (4, .int (nI i)), (2, .long s9), (0, .ref (ad 0)), (1, .int (nI e))]) d_Ip_elementBalances_83 (by decide) rfl ?_
          refine y_aload d_Ip_elementBalances_85 0 rfl ?_
          refine y_get fs_Ip_469 d_Ip_elementBalances_87 (q0 := 14) rfl rfl ?_
          refine y_if_ne (tgt := 106) d_Ip_elementBalances_90 (by decide) (fun c_90 => ?_) (fun c_90 => ?_)
          · refine y_iinc (lv' := [(4, .int (nI (i + 1))), (5, .ref (u.2.2 1 i)), (2, .long s9), (0, .ref (ad 0)), (1, .int (nI e))]) (v := nI (i + 1)) d_Ip_elementBalances_106 (j := 1) rfl (nI_add _ _) (by decide) rfl ?_
            refine y_goto (tgt := 59) d_Ip_elementBalances_109 (by decide) ?_
            refine y_lv (lv' := [(4, .int (nI (i + 1))), (2, .long s9), (0, .ref (ad 0)), (1, .int (nI e))]) [0, 2, 3, 4] rfl ?_
            refine y_end (fun wC2 hC2 => ?_)
            obtain rfl := z_I.same hJ hC2
            exact ih (i + 1) _ (by omega) (by omega) 
          · refine y_lload_n d_Ip_elementBalances_93 rfl 2 rfl ?_
            refine y_aload d_Ip_elementBalances_94 0 rfl ?_
            refine y_get fs_Ip_450 d_Ip_elementBalances_96 (q0 := 14) rfl rfl ?_
            refine y_get fs_Ip_308 d_Ip_elementBalances_99 (q0 := 15) rfl rfl ?_
            refine y_iload_n d_Ip_elementBalances_102 rfl 4 rfl ?_
            refine y_lald d_Ip_elementBalances_103 (q0 := 16) rfl (vp_in_nI (by omega) (by omega)) (v := ((t.2 1 i).2.2.1) e) (by rw [nI_clamp (by omega)]) ?_
            refine y_ladd d_Ip_elementBalances_104 (v := s9 + (((t.2 1 i).2.2.1) e)) rfl ?_
            refine y_lstore_n (lv' := [(2, .long (s9 + (((t.2 1 i).2.2.1) e))), (5, .ref (u.2.2 1 i)), (4, .int (nI i)), (0, .ref (ad 0)), (1, .int (nI e))]) d_Ip_elementBalances_105 rfl (by decide) rfl ?_
            refine y_iinc (lv' := [(4, .int (nI (i + 1))), (2, .long (s9 + (((t.2 1 i).2.2.1) e))), (5, .ref (u.2.2 1 i)), (0, .ref (ad 0)), (1, .int (nI e))]) (v := nI (i + 1)) d_Ip_elementBalances_106 (j := 2) rfl (nI_add _ _) (by decide) rfl ?_
            refine y_goto (tgt := 59) d_Ip_elementBalances_109 (by decide) ?_
            refine y_lv (lv' := [(4, .int (nI (i + 1))), (2, .long (s9 + (((t.2 1 i).2.2.1) e))), (0, .ref (ad 0)), (1, .int (nI e))]) [0, 1, 3, 4] rfl ?_
            refine y_end (fun wC3 hC3 => ?_)
            obtain rfl := z_I.same hJ hC3
            exact ih (i + 1) _ (by omega) (by omega) 
set_option maxHeartbeats 4000000 in
set_option maxRecDepth 100000 in
theorem Q_elementBalances {g : zG} {ad : Nat → Nat} {t : zTT} {u : zNN} {w : zW} (hI : IV g ad t u w) (e : Nat) (he : e < 4) : zMB g M_Ip_elementBalances [.ref (ad 0), .int (nI e)] w (fun o w1 => (∃ v : Int32, o = .inl (some (.int v))) ∧ w1 = w) 0 0 := by
  obtain ⟨e_a, wf_a, k_a⟩ := hI.1.2 0 (by decide)
  obtain rfl := kd_0.mp k_a
  obtain ⟨e_fu, wf_fu, k_fu⟩ := hI.1.2 36 (by decide)
  obtain rfl := kd_36.mp k_fu
  obtain ⟨e_fub, wf_fub, k_fub⟩ := hI.1.2 37 (by decide)
  obtain rfl := kd_37.mp k_fub
  obtain ⟨e_fubg, wf_fubg, k_fubg⟩ := hI.1.2 38 (by decide)
  obtain rfl := kd_38.mp k_fubg
  obtain ⟨e_fut1, wf_fut1, k_fut1⟩ := hI.1.2 39 (by decide)
  obtain rfl := kd_39.mp k_fut1
  obtain ⟨e_fut2, wf_fut2, k_fut2⟩ := hI.1.2 40 (by decide)
  obtain rfl := kd_40.mp k_fut2
  obtain ⟨e_fut3, wf_fut3, k_fut3⟩ := hI.1.2 41 (by decide)
  obtain rfl := kd_41.mp k_fut3
  obtain ⟨e_la, wf_la, k_la⟩ := hI.1.2 42 (by decide)
  obtain ⟨c_la_0, rfl⟩ := kd_42.mp k_la
  obtain ⟨e_lab, wf_lab, k_lab⟩ := hI.1.2 43 (by decide)
  obtain ⟨c_lab_0, rfl⟩ := kd_43.mp k_lab
  obtain ⟨e_labg, wf_labg, k_labg⟩ := hI.1.2 44 (by decide)
  obtain rfl := kd_44.mp k_labg
  obtain ⟨e_gy, wf_gy, k_gy⟩ := hI.1.2 45 (by decide)
  obtain rfl := kd_45.mp k_gy
  obtain ⟨e_gyg, wf_gyg, k_gyg⟩ := hI.1.2 46 (by decide)
  obtain rfl := kd_46.mp k_gyg
  obtain ⟨e_du, wf_du, k_du⟩ := hI.1.2 47 (by decide)
  obtain rfl := kd_47.mp k_du
  obtain ⟨e_dug, wf_dug, k_dug⟩ := hI.1.2 48 (by decide)
  obtain rfl := kd_48.mp k_dug
  have hJ := hI.1.I [0, 36, 37, 38, 39, 40, 41, 42, 43, 44, 45, 46, 47, 48] [((ad 0), .inr (11, [.ref (ad 1), .ref (ad 5), .ref (ad 18), .ref (ad 31), .ref (ad 32), .ref (ad 36), .ref (ad 42), .ref (ad 45), .ref (ad 47), .ref (ad 49), .ref (ad 50), .ref (ad 51)])), ((ad 36), .inr (3, [.ref (ad 37), .ref (ad 39), .ref (ad 40), .ref (ad 41), .long ((t.1 36).2.1 0)])), ((ad 37), .inr (6, [.ref (ad 38), .int ((t.1 37).1 0)])), ((ad 38), .inl (3, 4, .inr (.inl ((t.1 38).2.1)))), ((ad 39), .inl (3, 4, .inr (.inl ((t.1 39).2.1)))), ((ad 40), .inl (3, 4, .inr (.inl ((t.1 40).2.1)))), ((ad 41), .inl (3, 4, .inr (.inl ((t.1 41).2.1)))), ((ad 42), .inr (5, [.ref (ad 43), .int ((t.1 42).1 0), .int ((t.1 42).1 1), .int ((t.1 42).1 2)])), ((ad 43), .inr (6, [.ref (ad 44), .int ((t.1 43).1 0)])), ((ad 44), .inl (3, 4, .inr (.inl ((t.1 44).2.1)))), ((ad 45), .inr (6, [.ref (ad 46), .int ((t.1 45).1 0)])), ((ad 46), .inl (3, 4, .inr (.inl ((t.1 46).2.1)))), ((ad 47), .inr (6, [.ref (ad 48), .int ((t.1 47).1 0)])), ((ad 48), .inl (3, 4, .inr (.inl ((t.1 48).2.1))))] rfl (by decide) (by decide) (List.forall_mem_cons.mpr ⟨wf_a, (List.forall_mem_cons.mpr ⟨wf_fu, (List.forall_mem_cons.mpr ⟨wf_fub, (List.forall_mem_cons.mpr ⟨wf_fubg, (List.forall_mem_cons.mpr ⟨wf_fut1, (List.forall_mem_cons.mpr ⟨wf_fut2, (List.forall_mem_cons.mpr ⟨wf_fut3, (List.forall_mem_cons.mpr ⟨wf_la, (List.forall_mem_cons.mpr ⟨wf_lab, (List.forall_mem_cons.mpr ⟨wf_labg, (List.forall_mem_cons.mpr ⟨wf_gy, (List.forall_mem_cons.mpr ⟨wf_gyg, (List.forall_mem_cons.mpr ⟨wf_du, (List.forall_mem_cons.mpr ⟨wf_dug, (fun _ h => nomatch h)⟩)⟩)⟩)⟩)⟩)⟩)⟩)⟩)⟩)⟩)⟩)⟩)⟩)⟩)
  refine y_of (by decide) rfl (Nat.le_of_ble_eq_true rfl) (y_base (cs := [((ad 0), .inr (11, [.ref (ad 1), .ref (ad 5), .ref (ad 18), .ref (ad 31), .ref (ad 32), .ref (ad 36), .ref (ad 42), .ref (ad 45), .ref (ad 47), .ref (ad 49), .ref (ad 50), .ref (ad 51)])), ((ad 36), .inr (3, [.ref (ad 37), .ref (ad 39), .ref (ad 40), .ref (ad 41), .long ((t.1 36).2.1 0)])), ((ad 37), .inr (6, [.ref (ad 38), .int ((t.1 37).1 0)])), ((ad 38), .inl (3, 4, .inr (.inl ((t.1 38).2.1)))), ((ad 39), .inl (3, 4, .inr (.inl ((t.1 39).2.1)))), ((ad 40), .inl (3, 4, .inr (.inl ((t.1 40).2.1)))), ((ad 41), .inl (3, 4, .inr (.inl ((t.1 41).2.1)))), ((ad 42), .inr (5, [.ref (ad 43), .int ((t.1 42).1 0), .int ((t.1 42).1 1), .int ((t.1 42).1 2)])), ((ad 43), .inr (6, [.ref (ad 44), .int ((t.1 43).1 0)])), ((ad 44), .inl (3, 4, .inr (.inl ((t.1 44).2.1)))), ((ad 45), .inr (6, [.ref (ad 46), .int ((t.1 45).1 0)])), ((ad 46), .inl (3, 4, .inr (.inl ((t.1 46).2.1)))), ((ad 47), .inr (6, [.ref (ad 48), .int ((t.1 47).1 0)])), ((ad 48), .inl (3, 4, .inr (.inl ((t.1 48).2.1))))]) hJ ?_)
  refine y_lvE (lv2 := [(0, .ref (ad 0)), (1, .int (nI e))]) rfl ?_
  refine y_aload_n d_Ip_elementBalances_0 rfl 0 rfl ?_
  refine y_get fs_Ip_43 d_Ip_elementBalances_1 (q0 := 0) rfl rfl ?_
  refine y_get fs_Ip_277 d_Ip_elementBalances_4 (q0 := 1) rfl rfl ?_
  refine y_get fs_Ip_308 d_Ip_elementBalances_7 (q0 := 2) rfl rfl ?_
  refine y_iload_n d_Ip_elementBalances_10 rfl 1 rfl ?_
  refine y_lald d_Ip_elementBalances_11 (q0 := 3) rfl (vp_in_nI (by omega) (by omega)) (v := ((t.1 38).2.1) e) (by rw [nI_clamp (by omega)]) ?_
  refine y_aload_n d_Ip_elementBalances_12 rfl 0 rfl ?_
  refine y_get fs_Ip_50 d_Ip_elementBalances_13 (q0 := 0) rfl rfl ?_
  refine y_get fs_Ip_359 d_Ip_elementBalances_16 (q0 := 7) rfl rfl ?_
  refine y_get fs_Ip_308 d_Ip_elementBalances_19 (q0 := 8) rfl rfl ?_
  refine y_iload_n d_Ip_elementBalances_22 rfl 1 rfl ?_
  refine y_lald d_Ip_elementBalances_23 (q0 := 9) rfl (vp_in_nI (by omega) (by omega)) (v := ((t.1 44).2.1) e) (by rw [nI_clamp (by omega)]) ?_
  refine y_ladd d_Ip_elementBalances_24 (v := (((t.1 38).2.1) e) + (((t.1 44).2.1) e)) rfl ?_
  refine y_aload_n d_Ip_elementBalances_25 rfl 0 rfl ?_
  refine y_get fs_Ip_57 d_Ip_elementBalances_26 (q0 := 0) rfl rfl ?_
  refine y_get fs_Ip_308 d_Ip_elementBalances_29 (q0 := 10) rfl rfl ?_
  refine y_iload_n d_Ip_elementBalances_32 rfl 1 rfl ?_
  refine y_lald d_Ip_elementBalances_33 (q0 := 11) rfl (vp_in_nI (by omega) (by omega)) (v := ((t.1 46).2.1) e) (by rw [nI_clamp (by omega)]) ?_
  refine y_ladd d_Ip_elementBalances_34 (v := ((((t.1 38).2.1) e) + (((t.1 44).2.1) e)) + (((t.1 46).2.1) e)) rfl ?_
  refine y_aload_n d_Ip_elementBalances_35 rfl 0 rfl ?_
  refine y_get fs_Ip_61 d_Ip_elementBalances_36 (q0 := 0) rfl rfl ?_
  refine y_get fs_Ip_308 d_Ip_elementBalances_39 (q0 := 12) rfl rfl ?_
  refine y_iload_n d_Ip_elementBalances_42 rfl 1 rfl ?_
  refine y_lald d_Ip_elementBalances_43 (q0 := 13) rfl (vp_in_nI (by omega) (by omega)) (v := ((t.1 48).2.1) e) (by rw [nI_clamp (by omega)]) ?_
  refine y_ladd d_Ip_elementBalances_44 (v := (((((t.1 38).2.1) e) + (((t.1 44).2.1) e)) + (((t.1 46).2.1) e)) + (((t.1 48).2.1) e)) rfl ?_
  refine y_aload_n d_Ip_elementBalances_45 rfl 0 rfl ?_
  refine y_get fs_Ip_43 d_Ip_elementBalances_46 (q0 := 0) rfl rfl ?_
  refine y_get fs_Ip_564 d_Ip_elementBalances_49 (q0 := 1) rfl rfl ?_
  refine y_iload_n d_Ip_elementBalances_52 rfl 1 rfl ?_
  refine y_lald d_Ip_elementBalances_53 (q0 := 6) rfl (vp_in_nI (by omega) (by omega)) (v := ((t.1 41).2.1) e) (by rw [nI_clamp (by omega)]) ?_
  refine y_ladd d_Ip_elementBalances_54 (v := ((((((t.1 38).2.1) e) + (((t.1 44).2.1) e)) + (((t.1 46).2.1) e)) + (((t.1 48).2.1) e)) + (((t.1 41).2.1) e)) rfl ?_
  refine y_lstore_n (lv' := [(2, .long (((((((t.1 38).2.1) e) + (((t.1 44).2.1) e)) + (((t.1 46).2.1) e)) + (((t.1 48).2.1) e)) + (((t.1 41).2.1) e))), (0, .ref (ad 0)), (1, .int (nI e))]) d_Ip_elementBalances_55 rfl (by decide) rfl ?_
  refine y_iconst d_Ip_elementBalances_56 (v := 0) (by decide) ?_
  refine y_istore (lv' := [(4, .int 0), (2, .long (((((((t.1 38).2.1) e) + (((t.1 44).2.1) e)) + (((t.1 46).2.1) e)) + (((t.1 48).2.1) e)) + (((t.1 41).2.1) e))), (0, .ref (ad 0)), (1, .int (nI e))]) d_Ip_elementBalances_57 (by decide) rfl ?_
  refine y_end (fun wC4 hC4 => ?_)
  obtain rfl := z_I.same hJ hC4
  exact L_Q_elementBalances_59 g hI e he (u.1 1 + 1) 0 _ (Nat.zero_le _) (by omega) 
set_option maxHeartbeats 4000000 in
set_option maxRecDepth 100000 in
theorem C_Ip_checkStandsN (g : zG) (a ab : Nat) (mg sh fb dl bk : Int32) (h1 : dl = 0) (h2 : bk = 0) : CT g M_Ip_checkStands [.ref a] [(a, .inr (0, [.ref ab, .int mg, .int sh, .int fb, .int dl, .int bk]))] (fun o cs1 => o = .inl none ∧ cs1 = [(a, .inr (0, [.ref ab, .int mg, .int sh, .int fb, .int dl, .int bk]))]) 1 6 := by
  refine z_of (by decide) rfl (Nat.le_of_ble_eq_true rfl) (fun w0 => ?_)
  refine r_lvE (lv2 := [(0, .ref a)]) rfl ?_
  refine r_aload_n d_Ip_checkStands_0 rfl 0 rfl ?_
  refine r_get fs_Ip_466 d_Ip_checkStands_1 (q0 := 0) rfl rfl ?_
  refine r_if_ne (tgt := 14) d_Ip_checkStands_4 (by decide) (fun c_4 => ?_) (fun c_4 => ?_)
  · exact absurd h1 c_4
  · refine r_aload_n d_Ip_checkStands_7 rfl 0 rfl ?_
    refine r_get fs_Ip_469 d_Ip_checkStands_8 (q0 := 0) rfl rfl ?_
    refine r_if_eq (tgt := 25) d_Ip_checkStands_11 (by decide) (fun c_11 => ?_) (fun c_11 => ?_)
    · refine r_vret d_Ip_checkStands_25 rfl ?_
      exact ⟨rfl, rfl⟩
    · exact absurd h2 c_11
set_option maxHeartbeats 4000000 in
set_option maxRecDepth 100000 in
theorem C_Ip_checkStandsE (g : zG) (a ab : Nat) (mg sh fb dl bk : Int32) (hE : ¬ (dl = 0 ∧ bk = 0)) : CT g M_Ip_checkStands [.ref a] [(a, .inr (0, [.ref ab, .int mg, .int sh, .int fb, .int dl, .int bk]))] (fun o cs1 => o = .inr "java/lang/IllegalStateException" ∧ cs1 = [(a, .inr (0, [.ref ab, .int mg, .int sh, .int fb, .int dl, .int bk]))]) 1 6 := by
  refine z_of (by decide) rfl (Nat.le_of_ble_eq_true rfl) (fun w0 => ?_)
  refine r_lvE (lv2 := [(0, .ref a)]) rfl ?_
  refine r_aload_n d_Ip_checkStands_0 rfl 0 rfl ?_
  refine r_get fs_Ip_466 d_Ip_checkStands_1 (q0 := 0) rfl rfl ?_
  refine r_if_ne (tgt := 14) d_Ip_checkStands_4 (by decide) (fun c_4 => ?_) (fun c_4 => ?_)
  · refine r_throwW tb_Ip_242_246 sr_Ip_542 d_Ip_checkStands_14 d_Ip_checkStands_17 d_Ip_checkStands_18 d_Ip_checkStands_21 d_Ip_checkStands_24 rfl (by decide) (by decide) (Nat.le_of_ble_eq_true rfl) (by omega) (by omega) ?_
    exact ⟨rfl, rfl⟩
  · refine r_aload_n d_Ip_checkStands_7 rfl 0 rfl ?_
    refine r_get fs_Ip_469 d_Ip_checkStands_8 (q0 := 0) rfl rfl ?_
    refine r_if_eq (tgt := 25) d_Ip_checkStands_11 (by decide) (fun c_11 => ?_) (fun c_11 => ?_)
    · exact absurd ⟨c_4, c_11⟩ hE
    · refine r_throwW tb_Ip_242_246 sr_Ip_542 d_Ip_checkStands_14 d_Ip_checkStands_17 d_Ip_checkStands_18 d_Ip_checkStands_21 d_Ip_checkStands_24 rfl (by decide) (by decide) (Nat.le_of_ble_eq_true rfl) (by omega) (by omega) ?_
      exact ⟨rfl, rfl⟩
theorem d_Ip_weld_5 : decode prog_1_method_44_code 5 = .ok (.astore_n 2, 1) := zo_77 (zd_b zq_prog_1_method_44_code_0 5 rfl rfl rfl)
theorem d_Ip_weld_6 : decode prog_1_method_44_code 6 = .ok (.aload_n 2, 1) := zo_44 (zd_b zq_prog_1_method_44_code_0 6 rfl rfl rfl)
theorem d_Ip_weld_7 : decode prog_1_method_44_code 7 = .ok (.invokevirtual 440, 3) := zo_182 (d := 1) (e := 184) (zd_b zq_prog_1_method_44_code_0 7 rfl rfl rfl) (zd_b zq_prog_1_method_44_code_0 8 rfl rfl rfl) (zd_b zq_prog_1_method_44_code_0 9 rfl rfl rfl)
theorem ok_Ip_weld_Ca_isDuctile : z_ok M_Ip_weld M_Ca_isDuctile 0 := ⟨z_mj6 (i := 182) rfl (by decide +kernel), rfl, ⟨by decide +kernel, by decide +kernel, by decide +kernel⟩, ⟨by decide, by decide⟩, z_mj1 (i := 35) rfl (by decide +kernel), rfl⟩
theorem d_Ip_weld_10 : decode prog_1_method_44_code 10 = .ok (.ifCond .ne 12, 3) := zo_154 (d := 0) (e := 12) (zd_b zq_prog_1_method_44_code_0 10 rfl rfl rfl) (zd_b zq_prog_1_method_44_code_0 11 rfl rfl rfl) (zd_b zq_prog_1_method_44_code_0 12 rfl rfl rfl) (by decide +kernel)
theorem d_Ip_weld_13 : decode prog_1_method_44_code 13 = .ok (.aload_n 2, 1) := zo_44 (zd_b zq_prog_1_method_44_code_0 13 rfl rfl rfl)
theorem d_Ip_weld_14 : decode prog_1_method_44_code 14 = .ok (.bipush 32, 2) := zo_16 (d := 32) (zd_b zq_prog_1_method_44_code_0 14 rfl rfl rfl) (zd_b zq_prog_1_method_44_code_0 15 rfl rfl rfl) (by decide +kernel)
theorem d_Ip_weld_16 : decode prog_1_method_44_code 16 = .ok (.invokevirtual 456, 3) := zo_182 (d := 1) (e := 200) (zd_b zq_prog_1_method_44_code_0 16 rfl rfl rfl) (zd_b zq_prog_1_method_44_code_0 17 rfl rfl rfl) (zd_b zq_prog_1_method_44_code_0 18 rfl rfl rfl)
theorem ok_Ip_weld_Ca_hasFault : z_ok M_Ip_weld M_Ca_hasFault 1 := ⟨z_mj7 (i := 5) rfl (by decide +kernel), rfl, ⟨by decide +kernel, by decide +kernel, by decide +kernel⟩, ⟨by decide, by decide⟩, z_mj1 (i := 35) rfl (by decide +kernel), rfl⟩
theorem d_Ip_weld_19 : decode prog_1_method_44_code 19 = .ok (.ifCond .eq 14, 3) := zo_153 (d := 0) (e := 14) (zd_b zq_prog_1_method_44_code_0 19 rfl rfl rfl) (zd_b zq_prog_1_method_44_code_0 20 rfl rfl rfl) (zd_b zq_prog_1_method_44_code_0 21 rfl rfl rfl) (by decide +kernel)
theorem d_Ip_weld_33 : decode prog_1_method_44_code 33 = .ok (.aload_n 2, 1) := zo_44 (zd_b zq_prog_1_method_44_code_1 1 rfl rfl rfl)
theorem d_Ip_weld_34 : decode prog_1_method_44_code 34 = .ok (.invokestatic 462, 3) := zo_184 (d := 1) (e := 206) (zd_b zq_prog_1_method_44_code_1 2 rfl rfl rfl) (zd_b zq_prog_1_method_44_code_1 3 rfl rfl rfl) (zd_b zq_prog_1_method_44_code_1 4 rfl rfl rfl)
theorem ok_Ip_weld_Ip_checkStands : z_ok M_Ip_weld M_Ip_checkStands 1 := ⟨z_mj7 (i := 9) rfl (by decide +kernel), rfl, ⟨by decide +kernel, by decide +kernel, by decide +kernel⟩, ⟨by decide, by decide⟩, z_mj1 (i := 1) rfl (by decide +kernel), rfl⟩
theorem ln_Ip_462 : Cond.methodLink "Ironpour" 462 M_Ip_checkStands.1 ∈ z_gw := z_mj7 (i := 7) rfl (by decide +kernel)
theorem w_st_Ip_checkStands : Cond.static M_Ip_checkStands.1 ∈ z_gw := z_mj7 (i := 8) rfl (by decide +kernel)
theorem d_Ip_weld_37 : decode prog_1_method_44_code 37 = .ok (.aload_n 2, 1) := zo_44 (zd_b zq_prog_1_method_44_code_1 5 rfl rfl rfl)
theorem d_Ip_weld_38 : decode prog_1_method_44_code 38 = .ok (.iconst 4, 1) := zo_7 (zd_b zq_prog_1_method_44_code_1 6 rfl rfl rfl)
theorem d_Ip_weld_39 : decode prog_1_method_44_code 39 = .ok (.invokevirtual 456, 3) := zo_182 (d := 1) (e := 200) (zd_b zq_prog_1_method_44_code_1 7 rfl rfl rfl) (zd_b zq_prog_1_method_44_code_1 8 rfl rfl rfl) (zd_b zq_prog_1_method_44_code_1 9 rfl rfl rfl)
theorem d_Ip_weld_42 : decode prog_1_method_44_code 42 = .ok (.istore_n 3, 1) := zo_62 (zd_b zq_prog_1_method_44_code_1 10 rfl rfl rfl)
theorem d_Ip_weld_43 : decode prog_1_method_44_code 43 = .ok (.aload_n 2, 1) := zo_44 (zd_b zq_prog_1_method_44_code_1 11 rfl rfl rfl)
theorem d_Ip_weld_44 : decode prog_1_method_44_code 44 = .ok (.dup, 1) := zo_89 (zd_b zq_prog_1_method_44_code_1 12 rfl rfl rfl)
theorem d_Ip_weld_45 : decode prog_1_method_44_code 45 = .ok (.getfield 445, 3) := zo_180 (d := 1) (e := 189) (zd_b zq_prog_1_method_44_code_1 13 rfl rfl rfl) (zd_b zq_prog_1_method_44_code_1 14 rfl rfl rfl) (zd_b zq_prog_1_method_44_code_1 15 rfl rfl rfl)
theorem d_Ip_weld_48 : decode prog_1_method_44_code 48 = .ok (.bipush (-5), 2) := zo_16 (d := 251) (zd_b zq_prog_1_method_44_code_1 16 rfl rfl rfl) (zd_b zq_prog_1_method_44_code_1 17 rfl rfl rfl) (by decide +kernel)
theorem d_Ip_weld_50 : decode prog_1_method_44_code 50 = .ok (.iand, 1) := zo_126 (zd_b zq_prog_1_method_44_code_1 18 rfl rfl rfl)
theorem d_Ip_weld_51 : decode prog_1_method_44_code 51 = .ok (.putfield 445, 3) := zo_181 (d := 1) (e := 189) (zd_b zq_prog_1_method_44_code_1 19 rfl rfl rfl) (zd_b zq_prog_1_method_44_code_1 20 rfl rfl rfl) (zd_b zq_prog_1_method_44_code_1 21 rfl rfl rfl)
theorem fp_Ip_445 : z_fp "Ironpour" 445 0 3 false .int := ⟨R_Ca, "Ironpour$Casting", F_Ca, 6, t_Ca, rfl, u_Ca, by decide, t_Ca_ok, n_Ca, rfl, rfl, Or.inr ⟨rfl, "Ironpour", z_mk6 (i := 145) rfl (by decide +kernel), rfl⟩⟩
theorem d_Ip_weld_54 : decode prog_1_method_44_code 54 = .ok (.iload_n 3, 1) := zo_29 (zd_b zq_prog_1_method_44_code_1 22 rfl rfl rfl)
theorem d_Ip_weld_55 : decode prog_1_method_44_code 55 = .ok (.ireturn, 1) := zo_172 (zd_b zq_prog_1_method_44_code_1 23 rfl rfl rfl)
set_option maxHeartbeats 4000000 in
set_option maxRecDepth 100000 in
theorem Qx_Ip_weldN {g : zG} {ad : Nat → Nat} {t : zTT} {u : zNN} {w : zW} (hI : IV g ad t u w) (k : Nat) (hk : k < u.1 1) (h1 : (t.2 1 k).1 0 < 20) (h2 : (t.2 1 k).1 2 &&& 32 = 0) (h3 : (t.2 1 k).1 3 = 0) (h4 : (t.2 1 k).1 4 = 0) : zMB g M_Ip_weld [.ref (ad 0), .int (nI k)] w (fun o w1 => o = .inl (some (.int (z_bi (hfB ((t.2 1 k).1 2) 4)))) ∧ IV g ad (t.1, vup t.2 1 k (upd ((t.2 1 k).1) 2 ((t.2 1 k).1 2 &&& (-5)), (t.2 1 k).2)) u w1) 3 18 := by
  obtain ⟨e_a, wf_a, k_a⟩ := hI.1.2 0 (by decide)
  obtain rfl := kd_0.mp k_a
  refine y_of (by decide) rfl (Nat.le_of_ble_eq_true rfl) (y_base (cs := [((ad 0), .inr (11, [.ref (ad 1), .ref (ad 5), .ref (ad 18), .ref (ad 31), .ref (ad 32), .ref (ad 36), .ref (ad 42), .ref (ad 45), .ref (ad 47), .ref (ad 49), .ref (ad 50), .ref (ad 51)]))]) (hI.1.I [0] _ rfl (by decide) (by decide) (List.forall_mem_cons.mpr ⟨wf_a, (fun _ h => nomatch h)⟩)) ?_)
  refine y_lvE (lv2 := [(0, .ref (ad 0)), (1, .int (nI k))]) rfl ?_
  refine y_aload_n d_Ip_weld_0 rfl 0 rfl ?_
  refine y_iload_n d_Ip_weld_1 rfl 1 rfl ?_
  refine yw_callV (As := [.int (nI k)]) (rest := []) (q0 := 0) rfl rfl ln_Ip_436 w_im_Ip_castingAt w_se_Ip_castingAt ok_Ip_weld_Ip_castingAt d_Ip_weld_2 (fun wA hA => Q_castingAtN (hI.gen (t2 := t) (is := [0]) (L2 := []) hA rfl ⟨kd_0.mpr rfl, trivial⟩ (by decide) (by decide) (fun _ h => nomatch h) (fun _ h => nomatch h) (fun _ _ _ => rfl) (fun h => h) rfl) k hk) rfl rfl (Nat.le_of_ble_eq_true rfl) (by omega) (by omega) (fun wA2 hA2 E wB2 hx => ?_) (fun wA2 hA2 v wB2 hx => ?_)
  · exact absurd hx.1 (by simp)
  · obtain ⟨e1, e2⟩ := hx
    cases e1
    refine yw_st (st2 := [.ref (u.2.2 1 k)]) rfl ?_
    subst e2
    refine y_go hA2 ?_
    refine y_end (fun wC1 hC1 => ?_)
    have hI9 := (hI.gen (t2 := t) (is := [0]) (L2 := []) hC1 rfl ⟨kd_0.mpr rfl, trivial⟩ (by decide) (by decide) (fun _ h => nomatch h) (fun _ h => nomatch h) (fun _ _ _ => rfl) (fun h => h) rfl)
    have hI := hI9
    obtain ⟨nf_c, me_c, gr_c, hw_c, nfm_c, hwm_c, nfg_c, hwg_c⟩ := hI.2.1.2.1 1 (by decide) k hk
    refine y_base (cs := [((ad 0), .inr (11, [.ref (ad 1), .ref (ad 5), .ref (ad 18), .ref (ad 31), .ref (ad 32), .ref (ad 36), .ref (ad 42), .ref (ad 45), .ref (ad 47), .ref (ad 49), .ref (ad 50), .ref (ad 51)])), ((u.2.2 1 k), .inr (0, [.ref me_c, .int ((t.2 1 k).1 0), .int ((t.2 1 k).1 1), .int ((t.2 1 k).1 2), .int ((t.2 1 k).1 3), .int ((t.2 1 k).1 4)])), (me_c, .inr (6, [.ref gr_c, .int ((t.2 1 k).1 5)])), (gr_c, .inl (3, 4, .inr (.inl ((t.2 1 k).2.2.1))))]) (z_I.kd (List.forall_mem_cons.mpr ⟨hC1.at (q0 := 0) rfl, (List.forall_mem_cons.mpr ⟨hw_c, (List.forall_mem_cons.mpr ⟨hwm_c, (List.forall_mem_cons.mpr ⟨hwg_c, (fun _ h => nomatch h)⟩)⟩)⟩)⟩) (by simp [z_kd])) ?_
    refine y_astore_n (lv' := [(2, .ref (u.2.2 1 k)), (0, .ref (ad 0)), (1, .int (nI k))]) d_Ip_weld_5 rfl (by decide) rfl ?_
    refine y_aload_n d_Ip_weld_6 rfl 0 rfl ?_
    refine y_callV (As := []) (rest := []) (csC := [((u.2.2 1 k), .inr (0, [.ref me_c, .int ((t.2 1 k).1 0), .int ((t.2 1 k).1 1), .int ((t.2 1 k).1 2), .int ((t.2 1 k).1 3), .int ((t.2 1 k).1 4)])), (me_c, .inr (6, [.ref gr_c, .int ((t.2 1 k).1 5)])), (gr_c, .inl (3, 4, .inr (.inl ((t.2 1 k).2.2.1))))]) (is := [1, 2, 3]) (q0 := 1) rfl rfl ln_Ip_440 w_im_Ca_isDuctile w_se_Ca_isDuctile ok_Ip_weld_Ca_isDuctile d_Ip_weld_7 (C_Ca_isDuctile g (u.2.2 1 k) me_c gr_c ((t.2 1 k).2.2.1) ((t.2 1 k).1 5) ((t.2 1 k).1 0) ((t.2 1 k).1 1) ((t.2 1 k).1 2) ((t.2 1 k).1 3) ((t.2 1 k).1 4)) rfl rfl (Nat.le_of_ble_eq_true rfl) rfl (by decide) (by omega) (by omega) (fun E cs1 hx => ?_) (fun v cs1 hx => ?_)
    · exact absurd hx.1 (by simp)
    · obtain ⟨e1, rfl⟩ := hx
      cases e1
      refine ⟨rfl, ?_⟩
      refine y_st (st2 := [.int (if ((t.2 1 k).1 0) < 20 then 0 else 1)]) rfl ?_
      refine y_cs (cs2 := [((ad 0), .inr (11, [.ref (ad 1), .ref (ad 5), .ref (ad 18), .ref (ad 31), .ref (ad 32), .ref (ad 36), .ref (ad 42), .ref (ad 45), .ref (ad 47), .ref (ad 49), .ref (ad 50), .ref (ad 51)])), ((u.2.2 1 k), .inr (0, [.ref me_c, .int ((t.2 1 k).1 0), .int ((t.2 1 k).1 1), .int ((t.2 1 k).1 2), .int ((t.2 1 k).1 3), .int ((t.2 1 k).1 4)])), (me_c, .inr (6, [.ref gr_c, .int ((t.2 1 k).1 5)])), (gr_c, .inl (3, 4, .inr (.inl ((t.2 1 k).2.2.1))))]) rfl ?_
      refine y_if_ne (tgt := 22) d_Ip_weld_10 (by decide) (fun c_10 => ?_) (fun c_10 => ?_)
      · exact absurd h1 (du_1 c_10)
      · refine y_aload_n d_Ip_weld_13 rfl 0 rfl ?_
        refine y_bipush d_Ip_weld_14 (v := 32) (by decide) ?_
        refine y_callV (As := [.int 32]) (rest := []) (csC := [((u.2.2 1 k), .inr (0, [.ref me_c, .int ((t.2 1 k).1 0), .int ((t.2 1 k).1 1), .int ((t.2 1 k).1 2), .int ((t.2 1 k).1 3), .int ((t.2 1 k).1 4)])), (me_c, .inr (6, [.ref gr_c, .int ((t.2 1 k).1 5)])), (gr_c, .inl (3, 4, .inr (.inl ((t.2 1 k).2.2.1))))]) (is := [1, 2, 3]) (q0 := 1) rfl rfl ln_Ip_456 w_im_Ca_hasFault w_se_Ca_hasFault ok_Ip_weld_Ca_hasFault d_Ip_weld_16 (C_Ca_hasFault g (u.2.2 1 k) me_c gr_c ((t.2 1 k).2.2.1) ((t.2 1 k).1 5) ((t.2 1 k).1 0) ((t.2 1 k).1 1) ((t.2 1 k).1 2) ((t.2 1 k).1 3) ((t.2 1 k).1 4) 32) rfl rfl (Nat.le_of_ble_eq_true rfl) rfl (by decide) (by omega) (by omega) (fun E cs1 hx => ?_) (fun v cs1 hx => ?_)
        · exact absurd hx.1 (by simp)
        · obtain ⟨e1, rfl⟩ := hx
          cases e1
          refine ⟨rfl, ?_⟩
          refine y_st (st2 := [.int (z_bi (hfB ((t.2 1 k).1 2) 32))]) rfl ?_
          refine y_cs (cs2 := [((ad 0), .inr (11, [.ref (ad 1), .ref (ad 5), .ref (ad 18), .ref (ad 31), .ref (ad 32), .ref (ad 36), .ref (ad 42), .ref (ad 45), .ref (ad 47), .ref (ad 49), .ref (ad 50), .ref (ad 51)])), ((u.2.2 1 k), .inr (0, [.ref me_c, .int ((t.2 1 k).1 0), .int ((t.2 1 k).1 1), .int ((t.2 1 k).1 2), .int ((t.2 1 k).1 3), .int ((t.2 1 k).1 4)])), (me_c, .inr (6, [.ref gr_c, .int ((t.2 1 k).1 5)])), (gr_c, .inl (3, 4, .inr (.inl ((t.2 1 k).2.2.1))))]) rfl ?_
          refine y_if_eq (tgt := 33) d_Ip_weld_19 (by decide) (fun c_19 => ?_) (fun c_19 => ?_)
          · refine y_aload_n d_Ip_weld_33 rfl 0 rfl ?_
            refine y_callS (As := [.ref (u.2.2 1 k)]) (rest := []) (csC := [((u.2.2 1 k), .inr (0, [.ref me_c, .int ((t.2 1 k).1 0), .int ((t.2 1 k).1 1), .int ((t.2 1 k).1 2), .int ((t.2 1 k).1 3), .int ((t.2 1 k).1 4)]))]) (is := [1]) ln_Ip_462 w_st_Ip_checkStands ok_Ip_weld_Ip_checkStands d_Ip_weld_34 (C_Ip_checkStandsN g (u.2.2 1 k) me_c ((t.2 1 k).1 0) ((t.2 1 k).1 1) ((t.2 1 k).1 2) ((t.2 1 k).1 3) ((t.2 1 k).1 4) h3 h4) rfl rfl (Nat.le_of_ble_eq_true rfl) rfl (by decide) (by omega) (by omega) (fun E cs1 hx => ?_) (fun v cs1 hx => ?_)
            · exact absurd hx.1 (by simp)
            · obtain ⟨e1, rfl⟩ := hx
              cases e1
              refine ⟨rfl, ?_⟩
              refine y_st (st2 := []) rfl ?_
              refine y_cs (cs2 := [((ad 0), .inr (11, [.ref (ad 1), .ref (ad 5), .ref (ad 18), .ref (ad 31), .ref (ad 32), .ref (ad 36), .ref (ad 42), .ref (ad 45), .ref (ad 47), .ref (ad 49), .ref (ad 50), .ref (ad 51)])), ((u.2.2 1 k), .inr (0, [.ref me_c, .int ((t.2 1 k).1 0), .int ((t.2 1 k).1 1), .int ((t.2 1 k).1 2), .int ((t.2 1 k).1 3), .int ((t.2 1 k).1 4)])), (me_c, .inr (6, [.ref gr_c, .int ((t.2 1 k).1 5)])), (gr_c, .inl (3, 4, .inr (.inl ((t.2 1 k).2.2.1))))]) rfl ?_
              refine y_aload_n d_Ip_weld_37 rfl 0 rfl ?_
              refine y_iconst d_Ip_weld_38 (v := 4) (by decide) ?_
              refine y_callV (As := [.int 4]) (rest := []) (csC := [((u.2.2 1 k), .inr (0, [.ref me_c, .int ((t.2 1 k).1 0), .int ((t.2 1 k).1 1), .int ((t.2 1 k).1 2), .int ((t.2 1 k).1 3), .int ((t.2 1 k).1 4)])), (me_c, .inr (6, [.ref gr_c, .int ((t.2 1 k).1 5)])), (gr_c, .inl (3, 4, .inr (.inl ((t.2 1 k).2.2.1))))]) (is := [1, 2, 3]) (q0 := 1) rfl rfl ln_Ip_456 w_im_Ca_hasFault w_se_Ca_hasFault ok_Ip_weld_Ca_hasFault d_Ip_weld_39 (C_Ca_hasFault g (u.2.2 1 k) me_c gr_c ((t.2 1 k).2.2.1) ((t.2 1 k).1 5) ((t.2 1 k).1 0) ((t.2 1 k).1 1) ((t.2 1 k).1 2) ((t.2 1 k).1 3) ((t.2 1 k).1 4) 4) rfl rfl (Nat.le_of_ble_eq_true rfl) rfl (by decide) (by omega) (by omega) (fun E cs1 hx => ?_) (fun v cs1 hx => ?_)
              · exact absurd hx.1 (by simp)
              · obtain ⟨e1, rfl⟩ := hx
                cases e1
                refine ⟨rfl, ?_⟩
                refine y_st (st2 := [.int (z_bi (hfB ((t.2 1 k).1 2) 4))]) rfl ?_
                refine y_cs (cs2 := [((ad 0), .inr (11, [.ref (ad 1), .ref (ad 5), .ref (ad 18), .ref (ad 31), .ref (ad 32), .ref (ad 36), .ref (ad 42), .ref (ad 45), .ref (ad 47), .ref (ad 49), .ref (ad 50), .ref (ad 51)])), ((u.2.2 1 k), .inr (0, [.ref me_c, .int ((t.2 1 k).1 0), .int ((t.2 1 k).1 1), .int ((t.2 1 k).1 2), .int ((t.2 1 k).1 3), .int ((t.2 1 k).1 4)])), (me_c, .inr (6, [.ref gr_c, .int ((t.2 1 k).1 5)])), (gr_c, .inl (3, 4, .inr (.inl ((t.2 1 k).2.2.1))))]) rfl ?_
                refine y_istore_n (lv' := [(3, .int (z_bi (hfB ((t.2 1 k).1 2) 4))), (2, .ref (u.2.2 1 k)), (0, .ref (ad 0)), (1, .int (nI k))]) d_Ip_weld_42 rfl (by decide) rfl ?_
                refine y_aload_n d_Ip_weld_43 rfl 1 rfl ?_
                refine y_dup d_Ip_weld_44 rfl ?_
                refine y_get fs_Ip_445 d_Ip_weld_45 (q0 := 1) rfl rfl ?_
                refine y_bipush d_Ip_weld_48 (v := (-5)) (by decide) ?_
                refine y_iand d_Ip_weld_50 (v := ((t.2 1 k).1 2) &&& (-5)) rfl ?_
                refine y_put fp_Ip_445 d_Ip_weld_51 (fun h => nomatch h) rfl rfl (q0 := 1) rfl (Nat.le_of_ble_eq_true rfl) (cs' := [((ad 0), .inr (11, [.ref (ad 1), .ref (ad 5), .ref (ad 18), .ref (ad 31), .ref (ad 32), .ref (ad 36), .ref (ad 42), .ref (ad 45), .ref (ad 47), .ref (ad 49), .ref (ad 50), .ref (ad 51)])), ((u.2.2 1 k), .inr (0, [.ref me_c, .int ((t.2 1 k).1 0), .int ((t.2 1 k).1 1), .int (((t.2 1 k).1 2) &&& (-5)), .int ((t.2 1 k).1 3), .int ((t.2 1 k).1 4)])), (me_c, .inr (6, [.ref gr_c, .int ((t.2 1 k).1 5)])), (gr_c, .inl (3, 4, .inr (.inl ((t.2 1 k).2.2.1))))]) rfl ?_
                refine y_iload_n d_Ip_weld_54 rfl 0 rfl ?_
                refine y_iret d_Ip_weld_55 rfl (z_narB _) ?_
                exact fun w1 h1 => ⟨rfl, (hI.gen1 (M := 1) (j := k) (v2 := (upd ((t.2 1 k).1) 2 (((t.2 1 k).1 2) &&& (-5)), (t.2 1 k).2)) (t2 := (t.1, vup t.2 1 k (upd ((t.2 1 k).1) 2 ((t.2 1 k).1 2 &&& (-5)), (t.2 1 k).2))) (is := [0]) (L2 := [(u.2.2 1 k), me_c, gr_c]) (by decide) hk (Or.inr (Or.inl rfl)) h1 rfl ⟨kd_0.mpr rfl, trivial⟩ (by decide) (by decide) (List.forall_mem_cons.mpr ⟨nf_c, (List.forall_mem_cons.mpr ⟨nfm_c, (List.forall_mem_cons.mpr ⟨nfg_c, (fun _ h => nomatch h)⟩)⟩)⟩) (List.forall_mem_cons.mpr ⟨(Or.inl rfl), (List.forall_mem_cons.mpr ⟨(Or.inr ⟨_, hwm_c, h1.at (q0 := 2) rfl⟩), (List.forall_mem_cons.mpr ⟨(Or.inr ⟨_, hwg_c, h1.at (q0 := 3) rfl⟩), (fun _ h => nomatch h)⟩)⟩)⟩) (fun _ _ _ => rfl) (fun h => h) ⟨nf_c, me_c, gr_c, h1.at (q0 := 1) rfl, nfm_c, h1.at (q0 := 2) rfl, nfg_c, h1.at (q0 := 3) rfl⟩ rfl)⟩
          · exact absurd h2 (hf_1 c_19)
set_option maxHeartbeats 4000000 in
set_option maxRecDepth 100000 in
theorem Qx_Ip_weldS {g : zG} {ad : Nat → Nat} {t : zTT} {u : zNN} {w : zW} (hI : IV g ad t u w) (k : Nat) (hk : k < u.1 1) (h1 : (t.2 1 k).1 0 < 20) (h2 : (t.2 1 k).1 2 &&& 32 = 0) (hE : ¬ ((t.2 1 k).1 3 = 0 ∧ (t.2 1 k).1 4 = 0)) : zMB g M_Ip_weld [.ref (ad 0), .int (nI k)] w (fun o w1 => o = .inr "java/lang/IllegalStateException" ∧ IV g ad t u w1) 3 18 := by
  obtain ⟨e_a, wf_a, k_a⟩ := hI.1.2 0 (by decide)
  obtain rfl := kd_0.mp k_a
  refine y_of (by decide) rfl (Nat.le_of_ble_eq_true rfl) (y_base (cs := [((ad 0), .inr (11, [.ref (ad 1), .ref (ad 5), .ref (ad 18), .ref (ad 31), .ref (ad 32), .ref (ad 36), .ref (ad 42), .ref (ad 45), .ref (ad 47), .ref (ad 49), .ref (ad 50), .ref (ad 51)]))]) (hI.1.I [0] _ rfl (by decide) (by decide) (List.forall_mem_cons.mpr ⟨wf_a, (fun _ h => nomatch h)⟩)) ?_)
  refine y_lvE (lv2 := [(0, .ref (ad 0)), (1, .int (nI k))]) rfl ?_
  refine y_aload_n d_Ip_weld_0 rfl 0 rfl ?_
  refine y_iload_n d_Ip_weld_1 rfl 1 rfl ?_
  refine yw_callV (As := [.int (nI k)]) (rest := []) (q0 := 0) rfl rfl ln_Ip_436 w_im_Ip_castingAt w_se_Ip_castingAt ok_Ip_weld_Ip_castingAt d_Ip_weld_2 (fun wA hA => Q_castingAtN (hI.gen (t2 := t) (is := [0]) (L2 := []) hA rfl ⟨kd_0.mpr rfl, trivial⟩ (by decide) (by decide) (fun _ h => nomatch h) (fun _ h => nomatch h) (fun _ _ _ => rfl) (fun h => h) rfl) k hk) rfl rfl (Nat.le_of_ble_eq_true rfl) (by omega) (by omega) (fun wA2 hA2 E wB2 hx => ?_) (fun wA2 hA2 v wB2 hx => ?_)
  · exact absurd hx.1 (by simp)
  · obtain ⟨e1, e2⟩ := hx
    cases e1
    refine yw_st (st2 := [.ref (u.2.2 1 k)]) rfl ?_
    subst e2
    refine y_go hA2 ?_
    refine y_end (fun wC1 hC1 => ?_)
    have hI9 := (hI.gen (t2 := t) (is := [0]) (L2 := []) hC1 rfl ⟨kd_0.mpr rfl, trivial⟩ (by decide) (by decide) (fun _ h => nomatch h) (fun _ h => nomatch h) (fun _ _ _ => rfl) (fun h => h) rfl)
    have hI := hI9
    obtain ⟨nf_c, me_c, gr_c, hw_c, nfm_c, hwm_c, nfg_c, hwg_c⟩ := hI.2.1.2.1 1 (by decide) k hk
    refine y_base (cs := [((ad 0), .inr (11, [.ref (ad 1), .ref (ad 5), .ref (ad 18), .ref (ad 31), .ref (ad 32), .ref (ad 36), .ref (ad 42), .ref (ad 45), .ref (ad 47), .ref (ad 49), .ref (ad 50), .ref (ad 51)])), ((u.2.2 1 k), .inr (0, [.ref me_c, .int ((t.2 1 k).1 0), .int ((t.2 1 k).1 1), .int ((t.2 1 k).1 2), .int ((t.2 1 k).1 3), .int ((t.2 1 k).1 4)])), (me_c, .inr (6, [.ref gr_c, .int ((t.2 1 k).1 5)])), (gr_c, .inl (3, 4, .inr (.inl ((t.2 1 k).2.2.1))))]) (z_I.kd (List.forall_mem_cons.mpr ⟨hC1.at (q0 := 0) rfl, (List.forall_mem_cons.mpr ⟨hw_c, (List.forall_mem_cons.mpr ⟨hwm_c, (List.forall_mem_cons.mpr ⟨hwg_c, (fun _ h => nomatch h)⟩)⟩)⟩)⟩) (by simp [z_kd])) ?_
    refine y_astore_n (lv' := [(2, .ref (u.2.2 1 k)), (0, .ref (ad 0)), (1, .int (nI k))]) d_Ip_weld_5 rfl (by decide) rfl ?_
    refine y_aload_n d_Ip_weld_6 rfl 0 rfl ?_
    refine y_callV (As := []) (rest := []) (csC := [((u.2.2 1 k), .inr (0, [.ref me_c, .int ((t.2 1 k).1 0), .int ((t.2 1 k).1 1), .int ((t.2 1 k).1 2), .int ((t.2 1 k).1 3), .int ((t.2 1 k).1 4)])), (me_c, .inr (6, [.ref gr_c, .int ((t.2 1 k).1 5)])), (gr_c, .inl (3, 4, .inr (.inl ((t.2 1 k).2.2.1))))]) (is := [1, 2, 3]) (q0 := 1) rfl rfl ln_Ip_440 w_im_Ca_isDuctile w_se_Ca_isDuctile ok_Ip_weld_Ca_isDuctile d_Ip_weld_7 (C_Ca_isDuctile g (u.2.2 1 k) me_c gr_c ((t.2 1 k).2.2.1) ((t.2 1 k).1 5) ((t.2 1 k).1 0) ((t.2 1 k).1 1) ((t.2 1 k).1 2) ((t.2 1 k).1 3) ((t.2 1 k).1 4)) rfl rfl (Nat.le_of_ble_eq_true rfl) rfl (by decide) (by omega) (by omega) (fun E cs1 hx => ?_) (fun v cs1 hx => ?_)
    · exact absurd hx.1 (by simp)
    · obtain ⟨e1, rfl⟩ := hx
      cases e1
      refine ⟨rfl, ?_⟩
      refine y_st (st2 := [.int (if ((t.2 1 k).1 0) < 20 then 0 else 1)]) rfl ?_
      refine y_cs (cs2 := [((ad 0), .inr (11, [.ref (ad 1), .ref (ad 5), .ref (ad 18), .ref (ad 31), .ref (ad 32), .ref (ad 36), .ref (ad 42), .ref (ad 45), .ref (ad 47), .ref (ad 49), .ref (ad 50), .ref (ad 51)])), ((u.2.2 1 k), .inr (0, [.ref me_c, .int ((t.2 1 k).1 0), .int ((t.2 1 k).1 1), .int ((t.2 1 k).1 2), .int ((t.2 1 k).1 3), .int ((t.2 1 k).1 4)])), (me_c, .inr (6, [.ref gr_c, .int ((t.2 1 k).1 5)])), (gr_c, .inl (3, 4, .inr (.inl ((t.2 1 k).2.2.1))))]) rfl ?_
      refine y_if_ne (tgt := 22) d_Ip_weld_10 (by decide) (fun c_10 => ?_) (fun c_10 => ?_)
      · exact absurd h1 (du_1 c_10)
      · refine y_aload_n d_Ip_weld_13 rfl 0 rfl ?_
        refine y_bipush d_Ip_weld_14 (v := 32) (by decide) ?_
        refine y_callV (As := [.int 32]) (rest := []) (csC := [((u.2.2 1 k), .inr (0, [.ref me_c, .int ((t.2 1 k).1 0), .int ((t.2 1 k).1 1), .int ((t.2 1 k).1 2), .int ((t.2 1 k).1 3), .int ((t.2 1 k).1 4)])), (me_c, .inr (6, [.ref gr_c, .int ((t.2 1 k).1 5)])), (gr_c, .inl (3, 4, .inr (.inl ((t.2 1 k).2.2.1))))]) (is := [1, 2, 3]) (q0 := 1) rfl rfl ln_Ip_456 w_im_Ca_hasFault w_se_Ca_hasFault ok_Ip_weld_Ca_hasFault d_Ip_weld_16 (C_Ca_hasFault g (u.2.2 1 k) me_c gr_c ((t.2 1 k).2.2.1) ((t.2 1 k).1 5) ((t.2 1 k).1 0) ((t.2 1 k).1 1) ((t.2 1 k).1 2) ((t.2 1 k).1 3) ((t.2 1 k).1 4) 32) rfl rfl (Nat.le_of_ble_eq_true rfl) rfl (by decide) (by omega) (by omega) (fun E cs1 hx => ?_) (fun v cs1 hx => ?_)
        · exact absurd hx.1 (by simp)
        · obtain ⟨e1, rfl⟩ := hx
          cases e1
          refine ⟨rfl, ?_⟩
          refine y_st (st2 := [.int (z_bi (hfB ((t.2 1 k).1 2) 32))]) rfl ?_
          refine y_cs (cs2 := [((ad 0), .inr (11, [.ref (ad 1), .ref (ad 5), .ref (ad 18), .ref (ad 31), .ref (ad 32), .ref (ad 36), .ref (ad 42), .ref (ad 45), .ref (ad 47), .ref (ad 49), .ref (ad 50), .ref (ad 51)])), ((u.2.2 1 k), .inr (0, [.ref me_c, .int ((t.2 1 k).1 0), .int ((t.2 1 k).1 1), .int ((t.2 1 k).1 2), .int ((t.2 1 k).1 3), .int ((t.2 1 k).1 4)])), (me_c, .inr (6, [.ref gr_c, .int ((t.2 1 k).1 5)])), (gr_c, .inl (3, 4, .inr (.inl ((t.2 1 k).2.2.1))))]) rfl ?_
          refine y_if_eq (tgt := 33) d_Ip_weld_19 (by decide) (fun c_19 => ?_) (fun c_19 => ?_)
          · refine y_aload_n d_Ip_weld_33 rfl 0 rfl ?_
            refine y_callS (As := [.ref (u.2.2 1 k)]) (rest := []) (csC := [((u.2.2 1 k), .inr (0, [.ref me_c, .int ((t.2 1 k).1 0), .int ((t.2 1 k).1 1), .int ((t.2 1 k).1 2), .int ((t.2 1 k).1 3), .int ((t.2 1 k).1 4)]))]) (is := [1]) ln_Ip_462 w_st_Ip_checkStands ok_Ip_weld_Ip_checkStands d_Ip_weld_34 (C_Ip_checkStandsE g (u.2.2 1 k) me_c ((t.2 1 k).1 0) ((t.2 1 k).1 1) ((t.2 1 k).1 2) ((t.2 1 k).1 3) ((t.2 1 k).1 4) hE) rfl rfl (Nat.le_of_ble_eq_true rfl) rfl (by decide) (by omega) (by omega) (fun E cs1 hx => ?_) (fun v cs1 hx => ?_)
            · obtain ⟨e1, rfl⟩ := hx
              cases e1
              exact ⟨rfl, fun w1 h1 => ⟨rfl, (hI.gen (t2 := t) (is := [0]) (L2 := [(u.2.2 1 k), me_c, gr_c]) h1 rfl ⟨kd_0.mpr rfl, trivial⟩ (by decide) (by decide) (List.forall_mem_cons.mpr ⟨nf_c, (List.forall_mem_cons.mpr ⟨nfm_c, (List.forall_mem_cons.mpr ⟨nfg_c, (fun _ h => nomatch h)⟩)⟩)⟩) (List.forall_mem_cons.mpr ⟨⟨_, hw_c, h1.at (q0 := 1) rfl⟩, (List.forall_mem_cons.mpr ⟨⟨_, hwm_c, h1.at (q0 := 2) rfl⟩, (List.forall_mem_cons.mpr ⟨⟨_, hwg_c, h1.at (q0 := 3) rfl⟩, (fun _ h => nomatch h)⟩)⟩)⟩) (fun _ _ _ => rfl) (fun h => h) rfl)⟩⟩
            · exact absurd hx.1 (by simp)
          · exact absurd h2 (hf_1 c_19)
theorem d_Ip_weld_22 : decode prog_1_method_44_code 22 = .ok (.new 272, 3) := zo_187 (d := 1) (e := 16) (zd_b zq_prog_1_method_44_code_0 22 rfl rfl rfl) (zd_b zq_prog_1_method_44_code_0 23 rfl rfl rfl) (zd_b zq_prog_1_method_44_code_0 24 rfl rfl rfl)
theorem sr_Ip_460 : Cond.stringRef "Ironpour" 460 "only grey castings that are not hard are welded" ∈ lw_tbl := z_tb7 (i := 6) rfl
theorem d_Ip_weld_25 : decode prog_1_method_44_code 25 = .ok (.dup, 1) := zo_89 (zd_b zq_prog_1_method_44_code_0 25 rfl rfl rfl)
theorem d_Ip_weld_26 : decode prog_1_method_44_code 26 = .ok (.ldc_w 460, 3) := zo_19 (d := 1) (e := 204) (zd_b zq_prog_1_method_44_code_0 26 rfl rfl rfl) (zd_b zq_prog_1_method_44_code_0 27 rfl rfl rfl) (zd_b zq_prog_1_method_44_code_0 28 rfl rfl rfl)
theorem d_Ip_weld_29 : decode prog_1_method_44_code 29 = .ok (.invokespecial 276, 3) := zo_183 (d := 1) (e := 20) (zd_b zq_prog_1_method_44_code_0 29 rfl rfl rfl) (zd_b zq_prog_1_method_44_code_0 30 rfl rfl rfl) (zd_b zq_prog_1_method_44_code_0 31 rfl rfl rfl)
theorem d_Ip_weld_32 : decode prog_1_method_44_code 32 = .ok (.athrow, 1) := zo_191 (zd_b zq_prog_1_method_44_code_1 0 rfl rfl rfl)
set_option maxHeartbeats 4000000 in
set_option maxRecDepth 100000 in
theorem Qx_Ip_weldU {g : zG} {ad : Nat → Nat} {t : zTT} {u : zNN} {w : zW} (hI : IV g ad t u w) (k : Nat) (hk : k < u.1 1) (h12 : ¬ ((t.2 1 k).1 0 < 20 ∧ (t.2 1 k).1 2 &&& 32 = 0)) : zMB g M_Ip_weld [.ref (ad 0), .int (nI k)] w (fun o w1 => o = .inr "java/lang/UnsupportedOperationException" ∧ IV g ad t u w1) 3 18 := by
  obtain ⟨e_a, wf_a, k_a⟩ := hI.1.2 0 (by decide)
  obtain rfl := kd_0.mp k_a
  refine y_of (by decide) rfl (Nat.le_of_ble_eq_true rfl) (y_base (cs := [((ad 0), .inr (11, [.ref (ad 1), .ref (ad 5), .ref (ad 18), .ref (ad 31), .ref (ad 32), .ref (ad 36), .ref (ad 42), .ref (ad 45), .ref (ad 47), .ref (ad 49), .ref (ad 50), .ref (ad 51)]))]) (hI.1.I [0] _ rfl (by decide) (by decide) (List.forall_mem_cons.mpr ⟨wf_a, (fun _ h => nomatch h)⟩)) ?_)
  refine y_lvE (lv2 := [(0, .ref (ad 0)), (1, .int (nI k))]) rfl ?_
  refine y_aload_n d_Ip_weld_0 rfl 0 rfl ?_
  refine y_iload_n d_Ip_weld_1 rfl 1 rfl ?_
  refine yw_callV (As := [.int (nI k)]) (rest := []) (q0 := 0) rfl rfl ln_Ip_436 w_im_Ip_castingAt w_se_Ip_castingAt ok_Ip_weld_Ip_castingAt d_Ip_weld_2 (fun wA hA => Q_castingAtN (hI.gen (t2 := t) (is := [0]) (L2 := []) hA rfl ⟨kd_0.mpr rfl, trivial⟩ (by decide) (by decide) (fun _ h => nomatch h) (fun _ h => nomatch h) (fun _ _ _ => rfl) (fun h => h) rfl) k hk) rfl rfl (Nat.le_of_ble_eq_true rfl) (by omega) (by omega) (fun wA2 hA2 E wB2 hx => ?_) (fun wA2 hA2 v wB2 hx => ?_)
  · exact absurd hx.1 (by simp)
  · obtain ⟨e1, e2⟩ := hx
    cases e1
    refine yw_st (st2 := [.ref (u.2.2 1 k)]) rfl ?_
    subst e2
    refine y_go hA2 ?_
    refine y_end (fun wC1 hC1 => ?_)
    have hI9 := (hI.gen (t2 := t) (is := [0]) (L2 := []) hC1 rfl ⟨kd_0.mpr rfl, trivial⟩ (by decide) (by decide) (fun _ h => nomatch h) (fun _ h => nomatch h) (fun _ _ _ => rfl) (fun h => h) rfl)
    have hI := hI9
    obtain ⟨nf_c, me_c, gr_c, hw_c, nfm_c, hwm_c, nfg_c, hwg_c⟩ := hI.2.1.2.1 1 (by decide) k hk
    refine y_base (cs := [((ad 0), .inr (11, [.ref (ad 1), .ref (ad 5), .ref (ad 18), .ref (ad 31), .ref (ad 32), .ref (ad 36), .ref (ad 42), .ref (ad 45), .ref (ad 47), .ref (ad 49), .ref (ad 50), .ref (ad 51)])), ((u.2.2 1 k), .inr (0, [.ref me_c, .int ((t.2 1 k).1 0), .int ((t.2 1 k).1 1), .int ((t.2 1 k).1 2), .int ((t.2 1 k).1 3), .int ((t.2 1 k).1 4)])), (me_c, .inr (6, [.ref gr_c, .int ((t.2 1 k).1 5)])), (gr_c, .inl (3, 4, .inr (.inl ((t.2 1 k).2.2.1))))]) (z_I.kd (List.forall_mem_cons.mpr ⟨hC1.at (q0 := 0) rfl, (List.forall_mem_cons.mpr ⟨hw_c, (List.forall_mem_cons.mpr ⟨hwm_c, (List.forall_mem_cons.mpr ⟨hwg_c, (fun _ h => nomatch h)⟩)⟩)⟩)⟩) (by simp [z_kd])) ?_
    refine y_astore_n (lv' := [(2, .ref (u.2.2 1 k)), (0, .ref (ad 0)), (1, .int (nI k))]) d_Ip_weld_5 rfl (by decide) rfl ?_
    refine y_aload_n d_Ip_weld_6 rfl 0 rfl ?_
    refine y_callV (As := []) (rest := []) (csC := [((u.2.2 1 k), .inr (0, [.ref me_c, .int ((t.2 1 k).1 0), .int ((t.2 1 k).1 1), .int ((t.2 1 k).1 2), .int ((t.2 1 k).1 3), .int ((t.2 1 k).1 4)])), (me_c, .inr (6, [.ref gr_c, .int ((t.2 1 k).1 5)])), (gr_c, .inl (3, 4, .inr (.inl ((t.2 1 k).2.2.1))))]) (is := [1, 2, 3]) (q0 := 1) rfl rfl ln_Ip_440 w_im_Ca_isDuctile w_se_Ca_isDuctile ok_Ip_weld_Ca_isDuctile d_Ip_weld_7 (C_Ca_isDuctile g (u.2.2 1 k) me_c gr_c ((t.2 1 k).2.2.1) ((t.2 1 k).1 5) ((t.2 1 k).1 0) ((t.2 1 k).1 1) ((t.2 1 k).1 2) ((t.2 1 k).1 3) ((t.2 1 k).1 4)) rfl rfl (Nat.le_of_ble_eq_true rfl) rfl (by decide) (by omega) (by omega) (fun E cs1 hx => ?_) (fun v cs1 hx => ?_)
    · exact absurd hx.1 (by simp)
    · obtain ⟨e1, rfl⟩ := hx
      cases e1
      refine ⟨rfl, ?_⟩
      refine y_st (st2 := [.int (if ((t.2 1 k).1 0) < 20 then 0 else 1)]) rfl ?_
      refine y_cs (cs2 := [((ad 0), .inr (11, [.ref (ad 1), .ref (ad 5), .ref (ad 18), .ref (ad 31), .ref (ad 32), .ref (ad 36), .ref (ad 42), .ref (ad 45), .ref (ad 47), .ref (ad 49), .ref (ad 50), .ref (ad 51)])), ((u.2.2 1 k), .inr (0, [.ref me_c, .int ((t.2 1 k).1 0), .int ((t.2 1 k).1 1), .int ((t.2 1 k).1 2), .int ((t.2 1 k).1 3), .int ((t.2 1 k).1 4)])), (me_c, .inr (6, [.ref gr_c, .int ((t.2 1 k).1 5)])), (gr_c, .inl (3, 4, .inr (.inl ((t.2 1 k).2.2.1))))]) rfl ?_
      refine y_if_ne (tgt := 22) d_Ip_weld_10 (by decide) (fun c_10 => ?_) (fun c_10 => ?_)
      · refine y_throwW tb_Ip_272_276 sr_Ip_460 d_Ip_weld_22 d_Ip_weld_25 d_Ip_weld_26 d_Ip_weld_29 d_Ip_weld_32 rfl (by decide) (by decide) (Nat.le_of_ble_eq_true rfl) (by omega) (by omega) ?_
        exact fun w1 h1 => ⟨rfl, (hI.gen (t2 := t) (is := [0]) (L2 := [(u.2.2 1 k), me_c, gr_c]) h1 rfl ⟨kd_0.mpr rfl, trivial⟩ (by decide) (by decide) (List.forall_mem_cons.mpr ⟨nf_c, (List.forall_mem_cons.mpr ⟨nfm_c, (List.forall_mem_cons.mpr ⟨nfg_c, (fun _ h => nomatch h)⟩)⟩)⟩) (List.forall_mem_cons.mpr ⟨⟨_, hw_c, h1.at (q0 := 1) rfl⟩, (List.forall_mem_cons.mpr ⟨⟨_, hwm_c, h1.at (q0 := 2) rfl⟩, (List.forall_mem_cons.mpr ⟨⟨_, hwg_c, h1.at (q0 := 3) rfl⟩, (fun _ h => nomatch h)⟩)⟩)⟩) (fun _ _ _ => rfl) (fun h => h) rfl)⟩
      · refine y_aload_n d_Ip_weld_13 rfl 0 rfl ?_
        refine y_bipush d_Ip_weld_14 (v := 32) (by decide) ?_
        refine y_callV (As := [.int 32]) (rest := []) (csC := [((u.2.2 1 k), .inr (0, [.ref me_c, .int ((t.2 1 k).1 0), .int ((t.2 1 k).1 1), .int ((t.2 1 k).1 2), .int ((t.2 1 k).1 3), .int ((t.2 1 k).1 4)])), (me_c, .inr (6, [.ref gr_c, .int ((t.2 1 k).1 5)])), (gr_c, .inl (3, 4, .inr (.inl ((t.2 1 k).2.2.1))))]) (is := [1, 2, 3]) (q0 := 1) rfl rfl ln_Ip_456 w_im_Ca_hasFault w_se_Ca_hasFault ok_Ip_weld_Ca_hasFault d_Ip_weld_16 (C_Ca_hasFault g (u.2.2 1 k) me_c gr_c ((t.2 1 k).2.2.1) ((t.2 1 k).1 5) ((t.2 1 k).1 0) ((t.2 1 k).1 1) ((t.2 1 k).1 2) ((t.2 1 k).1 3) ((t.2 1 k).1 4) 32) rfl rfl (Nat.le_of_ble_eq_true rfl) rfl (by decide) (by omega) (by omega) (fun E cs1 hx => ?_) (fun v cs1 hx => ?_)
        · exact absurd hx.1 (by simp)
        · obtain ⟨e1, rfl⟩ := hx
          cases e1
          refine ⟨rfl, ?_⟩
          refine y_st (st2 := [.int (z_bi (hfB ((t.2 1 k).1 2) 32))]) rfl ?_
          refine y_cs (cs2 := [((ad 0), .inr (11, [.ref (ad 1), .ref (ad 5), .ref (ad 18), .ref (ad 31), .ref (ad 32), .ref (ad 36), .ref (ad 42), .ref (ad 45), .ref (ad 47), .ref (ad 49), .ref (ad 50), .ref (ad 51)])), ((u.2.2 1 k), .inr (0, [.ref me_c, .int ((t.2 1 k).1 0), .int ((t.2 1 k).1 1), .int ((t.2 1 k).1 2), .int ((t.2 1 k).1 3), .int ((t.2 1 k).1 4)])), (me_c, .inr (6, [.ref gr_c, .int ((t.2 1 k).1 5)])), (gr_c, .inl (3, 4, .inr (.inl ((t.2 1 k).2.2.1))))]) rfl ?_
          refine y_if_eq (tgt := 33) d_Ip_weld_19 (by decide) (fun c_19 => ?_) (fun c_19 => ?_)
          · exact absurd ⟨du_0 c_10, hf_0 c_19⟩ h12
          · refine y_throwW tb_Ip_272_276 sr_Ip_460 d_Ip_weld_22 d_Ip_weld_25 d_Ip_weld_26 d_Ip_weld_29 d_Ip_weld_32 rfl (by decide) (by decide) (Nat.le_of_ble_eq_true rfl) (by omega) (by omega) ?_
            exact fun w1 h1 => ⟨rfl, (hI.gen (t2 := t) (is := [0]) (L2 := [(u.2.2 1 k), me_c, gr_c]) h1 rfl ⟨kd_0.mpr rfl, trivial⟩ (by decide) (by decide) (List.forall_mem_cons.mpr ⟨nf_c, (List.forall_mem_cons.mpr ⟨nfm_c, (List.forall_mem_cons.mpr ⟨nfg_c, (fun _ h => nomatch h)⟩)⟩)⟩) (List.forall_mem_cons.mpr ⟨⟨_, hw_c, h1.at (q0 := 1) rfl⟩, (List.forall_mem_cons.mpr ⟨⟨_, hwm_c, h1.at (q0 := 2) rfl⟩, (List.forall_mem_cons.mpr ⟨⟨_, hwg_c, h1.at (q0 := 3) rfl⟩, (fun _ h => nomatch h)⟩)⟩)⟩) (fun _ _ _ => rfl) (fun h => h) rfl)⟩
theorem d_Ip_deliver_5 : decode prog_1_method_45_code 5 = .ok (.astore_n 2, 1) := zo_77 (zd_b zq_prog_1_method_45_code_0 5 rfl rfl rfl)
theorem d_Ip_deliver_6 : decode prog_1_method_45_code 6 = .ok (.aload_n 2, 1) := zo_44 (zd_b zq_prog_1_method_45_code_0 6 rfl rfl rfl)
theorem d_Ip_deliver_7 : decode prog_1_method_45_code 7 = .ok (.invokestatic 462, 3) := zo_184 (d := 1) (e := 206) (zd_b zq_prog_1_method_45_code_0 7 rfl rfl rfl) (zd_b zq_prog_1_method_45_code_0 8 rfl rfl rfl) (zd_b zq_prog_1_method_45_code_0 9 rfl rfl rfl)
theorem ok_Ip_deliver_Ip_checkStands : z_ok M_Ip_deliver M_Ip_checkStands 1 := ⟨z_mj7 (i := 9) rfl (by decide +kernel), rfl, ⟨by decide +kernel, by decide +kernel, by decide +kernel⟩, ⟨by decide, by decide⟩, z_mj1 (i := 1) rfl (by decide +kernel), rfl⟩
theorem d_Ip_deliver_10 : decode prog_1_method_45_code 10 = .ok (.aload_n 2, 1) := zo_44 (zd_b zq_prog_1_method_45_code_0 10 rfl rfl rfl)
theorem d_Ip_deliver_11 : decode prog_1_method_45_code 11 = .ok (.aload_n 2, 1) := zo_44 (zd_b zq_prog_1_method_45_code_0 11 rfl rfl rfl)
theorem d_Ip_deliver_12 : decode prog_1_method_45_code 12 = .ok (.getfield 445, 3) := zo_180 (d := 1) (e := 189) (zd_b zq_prog_1_method_45_code_0 12 rfl rfl rfl) (zd_b zq_prog_1_method_45_code_0 13 rfl rfl rfl) (zd_b zq_prog_1_method_45_code_0 14 rfl rfl rfl)
theorem d_Ip_deliver_15 : decode prog_1_method_45_code 15 = .ok (.ifCond .ne 7, 3) := zo_154 (d := 0) (e := 7) (zd_b zq_prog_1_method_45_code_0 15 rfl rfl rfl) (zd_b zq_prog_1_method_45_code_0 16 rfl rfl rfl) (zd_b zq_prog_1_method_45_code_0 17 rfl rfl rfl) (by decide +kernel)
theorem d_Ip_deliver_18 : decode prog_1_method_45_code 18 = .ok (.iconst 1, 1) := zo_4 (zd_b zq_prog_1_method_45_code_0 18 rfl rfl rfl)
theorem d_Ip_deliver_19 : decode prog_1_method_45_code 19 = .ok (.goto 4, 3) := zo_167 (d := 0) (e := 4) (zd_b zq_prog_1_method_45_code_0 19 rfl rfl rfl) (zd_b zq_prog_1_method_45_code_0 20 rfl rfl rfl) (zd_b zq_prog_1_method_45_code_0 21 rfl rfl rfl) (by decide +kernel)
theorem d_Ip_deliver_23 : decode prog_1_method_45_code 23 = .ok (.putfield 466, 3) := zo_181 (d := 1) (e := 210) (zd_b zq_prog_1_method_45_code_0 23 rfl rfl rfl) (zd_b zq_prog_1_method_45_code_0 24 rfl rfl rfl) (zd_b zq_prog_1_method_45_code_0 25 rfl rfl rfl)
theorem fp_Ip_466 : z_fp "Ironpour" 466 0 4 false .boolean := ⟨R_Ca, "Ironpour$Casting", F_Ca, 6, t_Ca, rfl, u_Ca, by decide, t_Ca_ok, n_Ca, rfl, rfl, Or.inr ⟨rfl, "Ironpour", z_mk6 (i := 146) rfl (by decide +kernel), rfl⟩⟩
theorem d_Ip_deliver_26 : decode prog_1_method_45_code 26 = .ok (.aload_n 2, 1) := zo_44 (zd_b zq_prog_1_method_45_code_0 26 rfl rfl rfl)
theorem d_Ip_deliver_27 : decode prog_1_method_45_code 27 = .ok (.getfield 466, 3) := zo_180 (d := 1) (e := 210) (zd_b zq_prog_1_method_45_code_0 27 rfl rfl rfl) (zd_b zq_prog_1_method_45_code_0 28 rfl rfl rfl) (zd_b zq_prog_1_method_45_code_0 29 rfl rfl rfl)
theorem d_Ip_deliver_30 : decode prog_1_method_45_code 30 = .ok (.ireturn, 1) := zo_172 (zd_b zq_prog_1_method_45_code_0 30 rfl rfl rfl)
set_option maxHeartbeats 4000000 in
set_option maxRecDepth 100000 in
theorem Qx_Ip_deliverY {g : zG} {ad : Nat → Nat} {t : zTT} {u : zNN} {w : zW} (hI : IV g ad t u w) (k : Nat) (hk : k < u.1 1) (h3 : (t.2 1 k).1 3 = 0) (h4 : (t.2 1 k).1 4 = 0) (h5 : (t.2 1 k).1 2 = 0) : zMB g M_Ip_deliver [.ref (ad 0), .int (nI k)] w (fun o w1 => o = .inl (some (.int 1)) ∧ IV g ad (t.1, vup t.2 1 k (upd ((t.2 1 k).1) 3 (1), (t.2 1 k).2)) u w1) 3 18 := by
  obtain ⟨e_a, wf_a, k_a⟩ := hI.1.2 0 (by decide)
  obtain rfl := kd_0.mp k_a
  refine y_of (by decide) rfl (Nat.le_of_ble_eq_true rfl) (y_base (cs := [((ad 0), .inr (11, [.ref (ad 1), .ref (ad 5), .ref (ad 18), .ref (ad 31), .ref (ad 32), .ref (ad 36), .ref (ad 42), .ref (ad 45), .ref (ad 47), .ref (ad 49), .ref (ad 50), .ref (ad 51)]))]) (hI.1.I [0] _ rfl (by decide) (by decide) (List.forall_mem_cons.mpr ⟨wf_a, (fun _ h => nomatch h)⟩)) ?_)
  refine y_lvE (lv2 := [(0, .ref (ad 0)), (1, .int (nI k))]) rfl ?_
  refine y_aload_n d_Ip_deliver_0 rfl 0 rfl ?_
  refine y_iload_n d_Ip_deliver_1 rfl 1 rfl ?_
  refine yw_callV (As := [.int (nI k)]) (rest := []) (q0 := 0) rfl rfl ln_Ip_436 w_im_Ip_castingAt w_se_Ip_castingAt ok_Ip_deliver_Ip_castingAt d_Ip_deliver_2 (fun wA hA => Q_castingAtN (hI.gen (t2 := t) (is := [0]) (L2 := []) hA rfl ⟨kd_0.mpr rfl, trivial⟩ (by decide) (by decide) (fun _ h => nomatch h) (fun _ h => nomatch h) (fun _ _ _ => rfl) (fun h => h) rfl) k hk) rfl rfl (Nat.le_of_ble_eq_true rfl) (by omega) (by omega) (fun wA2 hA2 E wB2 hx => ?_) (fun wA2 hA2 v wB2 hx => ?_)
  · exact absurd hx.1 (by simp)
  · obtain ⟨e1, e2⟩ := hx
    cases e1
    refine yw_st (st2 := [.ref (u.2.2 1 k)]) rfl ?_
    subst e2
    refine y_go hA2 ?_
    refine y_end (fun wC1 hC1 => ?_)
    have hI9 := (hI.gen (t2 := t) (is := [0]) (L2 := []) hC1 rfl ⟨kd_0.mpr rfl, trivial⟩ (by decide) (by decide) (fun _ h => nomatch h) (fun _ h => nomatch h) (fun _ _ _ => rfl) (fun h => h) rfl)
    have hI := hI9
    obtain ⟨nf_c, me_c, gr_c, hw_c, nfm_c, hwm_c, nfg_c, hwg_c⟩ := hI.2.1.2.1 1 (by decide) k hk
    refine y_base (cs := [((ad 0), .inr (11, [.ref (ad 1), .ref (ad 5), .ref (ad 18), .ref (ad 31), .ref (ad 32), .ref (ad 36), .ref (ad 42), .ref (ad 45), .ref (ad 47), .ref (ad 49), .ref (ad 50), .ref (ad 51)])), ((u.2.2 1 k), .inr (0, [.ref me_c, .int ((t.2 1 k).1 0), .int ((t.2 1 k).1 1), .int ((t.2 1 k).1 2), .int ((t.2 1 k).1 3), .int ((t.2 1 k).1 4)])), (me_c, .inr (6, [.ref gr_c, .int ((t.2 1 k).1 5)])), (gr_c, .inl (3, 4, .inr (.inl ((t.2 1 k).2.2.1))))]) (z_I.kd (List.forall_mem_cons.mpr ⟨hC1.at (q0 := 0) rfl, (List.forall_mem_cons.mpr ⟨hw_c, (List.forall_mem_cons.mpr ⟨hwm_c, (List.forall_mem_cons.mpr ⟨hwg_c, (fun _ h => nomatch h)⟩)⟩)⟩)⟩) (by simp [z_kd])) ?_
    refine y_astore_n (lv' := [(2, .ref (u.2.2 1 k)), (0, .ref (ad 0)), (1, .int (nI k))]) d_Ip_deliver_5 rfl (by decide) rfl ?_
    refine y_aload_n d_Ip_deliver_6 rfl 0 rfl ?_
    refine y_callS (As := [.ref (u.2.2 1 k)]) (rest := []) (csC := [((u.2.2 1 k), .inr (0, [.ref me_c, .int ((t.2 1 k).1 0), .int ((t.2 1 k).1 1), .int ((t.2 1 k).1 2), .int ((t.2 1 k).1 3), .int ((t.2 1 k).1 4)]))]) (is := [1]) ln_Ip_462 w_st_Ip_checkStands ok_Ip_deliver_Ip_checkStands d_Ip_deliver_7 (C_Ip_checkStandsN g (u.2.2 1 k) me_c ((t.2 1 k).1 0) ((t.2 1 k).1 1) ((t.2 1 k).1 2) ((t.2 1 k).1 3) ((t.2 1 k).1 4) h3 h4) rfl rfl (Nat.le_of_ble_eq_true rfl) rfl (by decide) (by omega) (by omega) (fun E cs1 hx => ?_) (fun v cs1 hx => ?_)
    · exact absurd hx.1 (by simp)
    · obtain ⟨e1, rfl⟩ := hx
      cases e1
      refine ⟨rfl, ?_⟩
      refine y_st (st2 := []) rfl ?_
      refine y_cs (cs2 := [((ad 0), .inr (11, [.ref (ad 1), .ref (ad 5), .ref (ad 18), .ref (ad 31), .ref (ad 32), .ref (ad 36), .ref (ad 42), .ref (ad 45), .ref (ad 47), .ref (ad 49), .ref (ad 50), .ref (ad 51)])), ((u.2.2 1 k), .inr (0, [.ref me_c, .int ((t.2 1 k).1 0), .int ((t.2 1 k).1 1), .int ((t.2 1 k).1 2), .int ((t.2 1 k).1 3), .int ((t.2 1 k).1 4)])), (me_c, .inr (6, [.ref gr_c, .int ((t.2 1 k).1 5)])), (gr_c, .inl (3, 4, .inr (.inl ((t.2 1 k).2.2.1))))]) rfl ?_
      refine y_aload_n d_Ip_deliver_10 rfl 0 rfl ?_
      refine y_aload_n d_Ip_deliver_11 rfl 0 rfl ?_
      refine y_get fs_Ip_445 d_Ip_deliver_12 (q0 := 1) rfl rfl ?_
      refine y_if_ne (tgt := 22) d_Ip_deliver_15 (by decide) (fun c_15 => ?_) (fun c_15 => ?_)
      · exact absurd h5 c_15
      · refine y_iconst d_Ip_deliver_18 (v := 1) (by decide) ?_
        refine y_goto (tgt := 23) d_Ip_deliver_19 (by decide) ?_
        refine y_put fp_Ip_466 d_Ip_deliver_23 (fun h => nomatch h) (by decide) (by decide) (q0 := 1) rfl (Nat.le_of_ble_eq_true rfl) (cs' := [((ad 0), .inr (11, [.ref (ad 1), .ref (ad 5), .ref (ad 18), .ref (ad 31), .ref (ad 32), .ref (ad 36), .ref (ad 42), .ref (ad 45), .ref (ad 47), .ref (ad 49), .ref (ad 50), .ref (ad 51)])), ((u.2.2 1 k), .inr (0, [.ref me_c, .int ((t.2 1 k).1 0), .int ((t.2 1 k).1 1), .int ((t.2 1 k).1 2), .int 1, .int ((t.2 1 k).1 4)])), (me_c, .inr (6, [.ref gr_c, .int ((t.2 1 k).1 5)])), (gr_c, .inl (3, 4, .inr (.inl ((t.2 1 k).2.2.1))))]) rfl ?_
        refine y_aload_n d_Ip_deliver_26 rfl 0 rfl ?_
        refine y_get fs_Ip_466 d_Ip_deliver_27 (q0 := 1) rfl rfl ?_
        refine y_iret d_Ip_deliver_30 rfl rfl ?_
        exact fun w1 h1 => ⟨rfl, (hI.gen1 (M := 1) (j := k) (v2 := (upd ((t.2 1 k).1) 3 1, (t.2 1 k).2)) (t2 := (t.1, vup t.2 1 k (upd ((t.2 1 k).1) 3 (1), (t.2 1 k).2))) (is := [0]) (L2 := [(u.2.2 1 k), me_c, gr_c]) (by decide) hk (Or.inr (Or.inl rfl)) h1 rfl ⟨kd_0.mpr rfl, trivial⟩ (by decide) (by decide) (List.forall_mem_cons.mpr ⟨nf_c, (List.forall_mem_cons.mpr ⟨nfm_c, (List.forall_mem_cons.mpr ⟨nfg_c, (fun _ h => nomatch h)⟩)⟩)⟩) (List.forall_mem_cons.mpr ⟨(Or.inl rfl), (List.forall_mem_cons.mpr ⟨(Or.inr ⟨_, hwm_c, h1.at (q0 := 2) rfl⟩), (List.forall_mem_cons.mpr ⟨(Or.inr ⟨_, hwg_c, h1.at (q0 := 3) rfl⟩), (fun _ h => nomatch h)⟩)⟩)⟩) (fun _ _ _ => rfl) (fun h => h) ⟨nf_c, me_c, gr_c, h1.at (q0 := 1) rfl, nfm_c, h1.at (q0 := 2) rfl, nfg_c, h1.at (q0 := 3) rfl⟩ rfl)⟩
theorem d_Ip_deliver_22 : decode prog_1_method_45_code 22 = .ok (.iconst 0, 1) := zo_3 (zd_b zq_prog_1_method_45_code_0 22 rfl rfl rfl)
set_option maxHeartbeats 4000000 in
set_option maxRecDepth 100000 in
theorem Qx_Ip_deliverN {g : zG} {ad : Nat → Nat} {t : zTT} {u : zNN} {w : zW} (hI : IV g ad t u w) (k : Nat) (hk : k < u.1 1) (h3 : (t.2 1 k).1 3 = 0) (h4 : (t.2 1 k).1 4 = 0) (h5 : ¬ (t.2 1 k).1 2 = 0) : zMB g M_Ip_deliver [.ref (ad 0), .int (nI k)] w (fun o w1 => o = .inl (some (.int 0)) ∧ IV g ad (t.1, vup t.2 1 k (upd ((t.2 1 k).1) 3 (0), (t.2 1 k).2)) u w1) 3 18 := by
  obtain ⟨e_a, wf_a, k_a⟩ := hI.1.2 0 (by decide)
  obtain rfl := kd_0.mp k_a
  refine y_of (by decide) rfl (Nat.le_of_ble_eq_true rfl) (y_base (cs := [((ad 0), .inr (11, [.ref (ad 1), .ref (ad 5), .ref (ad 18), .ref (ad 31), .ref (ad 32), .ref (ad 36), .ref (ad 42), .ref (ad 45), .ref (ad 47), .ref (ad 49), .ref (ad 50), .ref (ad 51)]))]) (hI.1.I [0] _ rfl (by decide) (by decide) (List.forall_mem_cons.mpr ⟨wf_a, (fun _ h => nomatch h)⟩)) ?_)
  refine y_lvE (lv2 := [(0, .ref (ad 0)), (1, .int (nI k))]) rfl ?_
  refine y_aload_n d_Ip_deliver_0 rfl 0 rfl ?_
  refine y_iload_n d_Ip_deliver_1 rfl 1 rfl ?_
  refine yw_callV (As := [.int (nI k)]) (rest := []) (q0 := 0) rfl rfl ln_Ip_436 w_im_Ip_castingAt w_se_Ip_castingAt ok_Ip_deliver_Ip_castingAt d_Ip_deliver_2 (fun wA hA => Q_castingAtN (hI.gen (t2 := t) (is := [0]) (L2 := []) hA rfl ⟨kd_0.mpr rfl, trivial⟩ (by decide) (by decide) (fun _ h => nomatch h) (fun _ h => nomatch h) (fun _ _ _ => rfl) (fun h => h) rfl) k hk) rfl rfl (Nat.le_of_ble_eq_true rfl) (by omega) (by omega) (fun wA2 hA2 E wB2 hx => ?_) (fun wA2 hA2 v wB2 hx => ?_)
  · exact absurd hx.1 (by simp)
  · obtain ⟨e1, e2⟩ := hx
    cases e1
    refine yw_st (st2 := [.ref (u.2.2 1 k)]) rfl ?_
    subst e2
    refine y_go hA2 ?_
    refine y_end (fun wC1 hC1 => ?_)
    have hI9 := (hI.gen (t2 := t) (is := [0]) (L2 := []) hC1 rfl ⟨kd_0.mpr rfl, trivial⟩ (by decide) (by decide) (fun _ h => nomatch h) (fun _ h => nomatch h) (fun _ _ _ => rfl) (fun h => h) rfl)
    have hI := hI9
    obtain ⟨nf_c, me_c, gr_c, hw_c, nfm_c, hwm_c, nfg_c, hwg_c⟩ := hI.2.1.2.1 1 (by decide) k hk
    refine y_base (cs := [((ad 0), .inr (11, [.ref (ad 1), .ref (ad 5), .ref (ad 18), .ref (ad 31), .ref (ad 32), .ref (ad 36), .ref (ad 42), .ref (ad 45), .ref (ad 47), .ref (ad 49), .ref (ad 50), .ref (ad 51)])), ((u.2.2 1 k), .inr (0, [.ref me_c, .int ((t.2 1 k).1 0), .int ((t.2 1 k).1 1), .int ((t.2 1 k).1 2), .int ((t.2 1 k).1 3), .int ((t.2 1 k).1 4)])), (me_c, .inr (6, [.ref gr_c, .int ((t.2 1 k).1 5)])), (gr_c, .inl (3, 4, .inr (.inl ((t.2 1 k).2.2.1))))]) (z_I.kd (List.forall_mem_cons.mpr ⟨hC1.at (q0 := 0) rfl, (List.forall_mem_cons.mpr ⟨hw_c, (List.forall_mem_cons.mpr ⟨hwm_c, (List.forall_mem_cons.mpr ⟨hwg_c, (fun _ h => nomatch h)⟩)⟩)⟩)⟩) (by simp [z_kd])) ?_
    refine y_astore_n (lv' := [(2, .ref (u.2.2 1 k)), (0, .ref (ad 0)), (1, .int (nI k))]) d_Ip_deliver_5 rfl (by decide) rfl ?_
    refine y_aload_n d_Ip_deliver_6 rfl 0 rfl ?_
    refine y_callS (As := [.ref (u.2.2 1 k)]) (rest := []) (csC := [((u.2.2 1 k), .inr (0, [.ref me_c, .int ((t.2 1 k).1 0), .int ((t.2 1 k).1 1), .int ((t.2 1 k).1 2), .int ((t.2 1 k).1 3), .int ((t.2 1 k).1 4)]))]) (is := [1]) ln_Ip_462 w_st_Ip_checkStands ok_Ip_deliver_Ip_checkStands d_Ip_deliver_7 (C_Ip_checkStandsN g (u.2.2 1 k) me_c ((t.2 1 k).1 0) ((t.2 1 k).1 1) ((t.2 1 k).1 2) ((t.2 1 k).1 3) ((t.2 1 k).1 4) h3 h4) rfl rfl (Nat.le_of_ble_eq_true rfl) rfl (by decide) (by omega) (by omega) (fun E cs1 hx => ?_) (fun v cs1 hx => ?_)
    · exact absurd hx.1 (by simp)
    · obtain ⟨e1, rfl⟩ := hx
      cases e1
      refine ⟨rfl, ?_⟩
      refine y_st (st2 := []) rfl ?_
      refine y_cs (cs2 := [((ad 0), .inr (11, [.ref (ad 1), .ref (ad 5), .ref (ad 18), .ref (ad 31), .ref (ad 32), .ref (ad 36), .ref (ad 42), .ref (ad 45), .ref (ad 47), .ref (ad 49), .ref (ad 50), .ref (ad 51)])), ((u.2.2 1 k), .inr (0, [.ref me_c, .int ((t.2 1 k).1 0), .int ((t.2 1 k).1 1), .int ((t.2 1 k).1 2), .int ((t.2 1 k).1 3), .int ((t.2 1 k).1 4)])), (me_c, .inr (6, [.ref gr_c, .int ((t.2 1 k).1 5)])), (gr_c, .inl (3, 4, .inr (.inl ((t.2 1 k).2.2.1))))]) rfl ?_
      refine y_aload_n d_Ip_deliver_10 rfl 0 rfl ?_
      refine y_aload_n d_Ip_deliver_11 rfl 0 rfl ?_
      refine y_get fs_Ip_445 d_Ip_deliver_12 (q0 := 1) rfl rfl ?_
      refine y_if_ne (tgt := 22) d_Ip_deliver_15 (by decide) (fun c_15 => ?_) (fun c_15 => ?_)
      · refine y_iconst d_Ip_deliver_22 (v := 0) (by decide) ?_
        refine y_put fp_Ip_466 d_Ip_deliver_23 (fun h => nomatch h) (by decide) (by decide) (q0 := 1) rfl (Nat.le_of_ble_eq_true rfl) (cs' := [((ad 0), .inr (11, [.ref (ad 1), .ref (ad 5), .ref (ad 18), .ref (ad 31), .ref (ad 32), .ref (ad 36), .ref (ad 42), .ref (ad 45), .ref (ad 47), .ref (ad 49), .ref (ad 50), .ref (ad 51)])), ((u.2.2 1 k), .inr (0, [.ref me_c, .int ((t.2 1 k).1 0), .int ((t.2 1 k).1 1), .int ((t.2 1 k).1 2), .int 0, .int ((t.2 1 k).1 4)])), (me_c, .inr (6, [.ref gr_c, .int ((t.2 1 k).1 5)])), (gr_c, .inl (3, 4, .inr (.inl ((t.2 1 k).2.2.1))))]) rfl ?_
        refine y_aload_n d_Ip_deliver_26 rfl 0 rfl ?_
        refine y_get fs_Ip_466 d_Ip_deliver_27 (q0 := 1) rfl rfl ?_
        refine y_iret d_Ip_deliver_30 rfl rfl ?_
        exact fun w1 h1 => ⟨rfl, (hI.gen1 (M := 1) (j := k) (v2 := (upd ((t.2 1 k).1) 3 0, (t.2 1 k).2)) (t2 := (t.1, vup t.2 1 k (upd ((t.2 1 k).1) 3 (0), (t.2 1 k).2))) (is := [0]) (L2 := [(u.2.2 1 k), me_c, gr_c]) (by decide) hk (Or.inr (Or.inl rfl)) h1 rfl ⟨kd_0.mpr rfl, trivial⟩ (by decide) (by decide) (List.forall_mem_cons.mpr ⟨nf_c, (List.forall_mem_cons.mpr ⟨nfm_c, (List.forall_mem_cons.mpr ⟨nfg_c, (fun _ h => nomatch h)⟩)⟩)⟩) (List.forall_mem_cons.mpr ⟨(Or.inl rfl), (List.forall_mem_cons.mpr ⟨(Or.inr ⟨_, hwm_c, h1.at (q0 := 2) rfl⟩), (List.forall_mem_cons.mpr ⟨(Or.inr ⟨_, hwg_c, h1.at (q0 := 3) rfl⟩), (fun _ h => nomatch h)⟩)⟩)⟩) (fun _ _ _ => rfl) (fun h => h) ⟨nf_c, me_c, gr_c, h1.at (q0 := 1) rfl, nfm_c, h1.at (q0 := 2) rfl, nfg_c, h1.at (q0 := 3) rfl⟩ rfl)⟩
      · exact absurd c_15 h5
set_option maxHeartbeats 4000000 in
set_option maxRecDepth 100000 in
theorem Qx_Ip_deliverS {g : zG} {ad : Nat → Nat} {t : zTT} {u : zNN} {w : zW} (hI : IV g ad t u w) (k : Nat) (hk : k < u.1 1) (hE : ¬ ((t.2 1 k).1 3 = 0 ∧ (t.2 1 k).1 4 = 0)) : zMB g M_Ip_deliver [.ref (ad 0), .int (nI k)] w (fun o w1 => o = .inr "java/lang/IllegalStateException" ∧ IV g ad t u w1) 3 18 := by
  obtain ⟨e_a, wf_a, k_a⟩ := hI.1.2 0 (by decide)
  obtain rfl := kd_0.mp k_a
  refine y_of (by decide) rfl (Nat.le_of_ble_eq_true rfl) (y_base (cs := [((ad 0), .inr (11, [.ref (ad 1), .ref (ad 5), .ref (ad 18), .ref (ad 31), .ref (ad 32), .ref (ad 36), .ref (ad 42), .ref (ad 45), .ref (ad 47), .ref (ad 49), .ref (ad 50), .ref (ad 51)]))]) (hI.1.I [0] _ rfl (by decide) (by decide) (List.forall_mem_cons.mpr ⟨wf_a, (fun _ h => nomatch h)⟩)) ?_)
  refine y_lvE (lv2 := [(0, .ref (ad 0)), (1, .int (nI k))]) rfl ?_
  refine y_aload_n d_Ip_deliver_0 rfl 0 rfl ?_
  refine y_iload_n d_Ip_deliver_1 rfl 1 rfl ?_
  refine yw_callV (As := [.int (nI k)]) (rest := []) (q0 := 0) rfl rfl ln_Ip_436 w_im_Ip_castingAt w_se_Ip_castingAt ok_Ip_deliver_Ip_castingAt d_Ip_deliver_2 (fun wA hA => Q_castingAtN (hI.gen (t2 := t) (is := [0]) (L2 := []) hA rfl ⟨kd_0.mpr rfl, trivial⟩ (by decide) (by decide) (fun _ h => nomatch h) (fun _ h => nomatch h) (fun _ _ _ => rfl) (fun h => h) rfl) k hk) rfl rfl (Nat.le_of_ble_eq_true rfl) (by omega) (by omega) (fun wA2 hA2 E wB2 hx => ?_) (fun wA2 hA2 v wB2 hx => ?_)
  · exact absurd hx.1 (by simp)
  · obtain ⟨e1, e2⟩ := hx
    cases e1
    refine yw_st (st2 := [.ref (u.2.2 1 k)]) rfl ?_
    subst e2
    refine y_go hA2 ?_
    refine y_end (fun wC1 hC1 => ?_)
    have hI9 := (hI.gen (t2 := t) (is := [0]) (L2 := []) hC1 rfl ⟨kd_0.mpr rfl, trivial⟩ (by decide) (by decide) (fun _ h => nomatch h) (fun _ h => nomatch h) (fun _ _ _ => rfl) (fun h => h) rfl)
    have hI := hI9
    obtain ⟨nf_c, me_c, gr_c, hw_c, nfm_c, hwm_c, nfg_c, hwg_c⟩ := hI.2.1.2.1 1 (by decide) k hk
    refine y_base (cs := [((ad 0), .inr (11, [.ref (ad 1), .ref (ad 5), .ref (ad 18), .ref (ad 31), .ref (ad 32), .ref (ad 36), .ref (ad 42), .ref (ad 45), .ref (ad 47), .ref (ad 49), .ref (ad 50), .ref (ad 51)])), ((u.2.2 1 k), .inr (0, [.ref me_c, .int ((t.2 1 k).1 0), .int ((t.2 1 k).1 1), .int ((t.2 1 k).1 2), .int ((t.2 1 k).1 3), .int ((t.2 1 k).1 4)])), (me_c, .inr (6, [.ref gr_c, .int ((t.2 1 k).1 5)])), (gr_c, .inl (3, 4, .inr (.inl ((t.2 1 k).2.2.1))))]) (z_I.kd (List.forall_mem_cons.mpr ⟨hC1.at (q0 := 0) rfl, (List.forall_mem_cons.mpr ⟨hw_c, (List.forall_mem_cons.mpr ⟨hwm_c, (List.forall_mem_cons.mpr ⟨hwg_c, (fun _ h => nomatch h)⟩)⟩)⟩)⟩) (by simp [z_kd])) ?_
    refine y_astore_n (lv' := [(2, .ref (u.2.2 1 k)), (0, .ref (ad 0)), (1, .int (nI k))]) d_Ip_deliver_5 rfl (by decide) rfl ?_
    refine y_aload_n d_Ip_deliver_6 rfl 0 rfl ?_
    refine y_callS (As := [.ref (u.2.2 1 k)]) (rest := []) (csC := [((u.2.2 1 k), .inr (0, [.ref me_c, .int ((t.2 1 k).1 0), .int ((t.2 1 k).1 1), .int ((t.2 1 k).1 2), .int ((t.2 1 k).1 3), .int ((t.2 1 k).1 4)]))]) (is := [1]) ln_Ip_462 w_st_Ip_checkStands ok_Ip_deliver_Ip_checkStands d_Ip_deliver_7 (C_Ip_checkStandsE g (u.2.2 1 k) me_c ((t.2 1 k).1 0) ((t.2 1 k).1 1) ((t.2 1 k).1 2) ((t.2 1 k).1 3) ((t.2 1 k).1 4) hE) rfl rfl (Nat.le_of_ble_eq_true rfl) rfl (by decide) (by omega) (by omega) (fun E cs1 hx => ?_) (fun v cs1 hx => ?_)
    · obtain ⟨e1, rfl⟩ := hx
      cases e1
      exact ⟨rfl, fun w1 h1 => ⟨rfl, (hI.gen (t2 := t) (is := [0]) (L2 := [(u.2.2 1 k), me_c, gr_c]) h1 rfl ⟨kd_0.mpr rfl, trivial⟩ (by decide) (by decide) (List.forall_mem_cons.mpr ⟨nf_c, (List.forall_mem_cons.mpr ⟨nfm_c, (List.forall_mem_cons.mpr ⟨nfg_c, (fun _ h => nomatch h)⟩)⟩)⟩) (List.forall_mem_cons.mpr ⟨⟨_, hw_c, h1.at (q0 := 1) rfl⟩, (List.forall_mem_cons.mpr ⟨⟨_, hwm_c, h1.at (q0 := 2) rfl⟩, (List.forall_mem_cons.mpr ⟨⟨_, hwg_c, h1.at (q0 := 3) rfl⟩, (fun _ h => nomatch h)⟩)⟩)⟩) (fun _ _ _ => rfl) (fun h => h) rfl)⟩⟩
    · exact absurd hx.1 (by simp)
theorem d_Ip_breakUp_5 : decode prog_1_method_46_code 5 = .ok (.astore_n 2, 1) := zo_77 (zd_b zq_prog_1_method_46_code_0 5 rfl rfl rfl)
theorem d_Ip_breakUp_6 : decode prog_1_method_46_code 6 = .ok (.aload_n 2, 1) := zo_44 (zd_b zq_prog_1_method_46_code_0 6 rfl rfl rfl)
theorem d_Ip_breakUp_7 : decode prog_1_method_46_code 7 = .ok (.invokestatic 462, 3) := zo_184 (d := 1) (e := 206) (zd_b zq_prog_1_method_46_code_0 7 rfl rfl rfl) (zd_b zq_prog_1_method_46_code_0 8 rfl rfl rfl) (zd_b zq_prog_1_method_46_code_0 9 rfl rfl rfl)
theorem ok_Ip_breakUp_Ip_checkStands : z_ok M_Ip_breakUp M_Ip_checkStands 1 := ⟨z_mj7 (i := 9) rfl (by decide +kernel), rfl, ⟨by decide +kernel, by decide +kernel, by decide +kernel⟩, ⟨by decide, by decide⟩, z_mj1 (i := 1) rfl (by decide +kernel), rfl⟩
theorem d_Ip_breakUp_10 : decode prog_1_method_46_code 10 = .ok (.aload_n 2, 1) := zo_44 (zd_b zq_prog_1_method_46_code_0 10 rfl rfl rfl)
theorem d_Ip_breakUp_11 : decode prog_1_method_46_code 11 = .ok (.iconst 1, 1) := zo_4 (zd_b zq_prog_1_method_46_code_0 11 rfl rfl rfl)
theorem d_Ip_breakUp_12 : decode prog_1_method_46_code 12 = .ok (.putfield 469, 3) := zo_181 (d := 1) (e := 213) (zd_b zq_prog_1_method_46_code_0 12 rfl rfl rfl) (zd_b zq_prog_1_method_46_code_0 13 rfl rfl rfl) (zd_b zq_prog_1_method_46_code_0 14 rfl rfl rfl)
theorem fp_Ip_469 : z_fp "Ironpour" 469 0 5 false .boolean := ⟨R_Ca, "Ironpour$Casting", F_Ca, 6, t_Ca, rfl, u_Ca, by decide, t_Ca_ok, n_Ca, rfl, rfl, Or.inr ⟨rfl, "Ironpour", z_mk6 (i := 147) rfl (by decide +kernel), rfl⟩⟩
theorem d_Ip_breakUp_15 : decode prog_1_method_46_code 15 = .ok (.aload_n 2, 1) := zo_44 (zd_b zq_prog_1_method_46_code_0 15 rfl rfl rfl)
theorem d_Ip_breakUp_16 : decode prog_1_method_46_code 16 = .ok (.invokevirtual 440, 3) := zo_182 (d := 1) (e := 184) (zd_b zq_prog_1_method_46_code_0 16 rfl rfl rfl) (zd_b zq_prog_1_method_46_code_0 17 rfl rfl rfl) (zd_b zq_prog_1_method_46_code_0 18 rfl rfl rfl)
theorem ok_Ip_breakUp_Ca_isDuctile : z_ok M_Ip_breakUp M_Ca_isDuctile 0 := ⟨z_mj6 (i := 182) rfl (by decide +kernel), rfl, ⟨by decide +kernel, by decide +kernel, by decide +kernel⟩, ⟨by decide, by decide⟩, z_mj1 (i := 35) rfl (by decide +kernel), rfl⟩
theorem d_Ip_breakUp_19 : decode prog_1_method_46_code 19 = .ok (.ifCond .eq 10, 3) := zo_153 (d := 0) (e := 10) (zd_b zq_prog_1_method_46_code_0 19 rfl rfl rfl) (zd_b zq_prog_1_method_46_code_0 20 rfl rfl rfl) (zd_b zq_prog_1_method_46_code_0 21 rfl rfl rfl) (by decide +kernel)
theorem d_Ip_breakUp_29 : decode prog_1_method_46_code 29 = .ok (.aload_n 0, 1) := zo_42 (zd_b zq_prog_1_method_46_code_0 29 rfl rfl rfl)
theorem d_Ip_breakUp_30 : decode prog_1_method_46_code 30 = .ok (.getfield 57, 3) := zo_180 (d := 0) (e := 57) (zd_b zq_prog_1_method_46_code_0 30 rfl rfl rfl) (zd_b zq_prog_1_method_46_code_0 31 rfl rfl rfl) (zd_b zq_prog_1_method_46_code_1 0 rfl rfl rfl)
theorem d_Ip_breakUp_33 : decode prog_1_method_46_code 33 = .ok (.astore_n 3, 1) := zo_78 (zd_b zq_prog_1_method_46_code_1 1 rfl rfl rfl)
theorem d_Ip_breakUp_34 : decode prog_1_method_46_code 34 = .ok (.aload_n 3, 1) := zo_45 (zd_b zq_prog_1_method_46_code_1 2 rfl rfl rfl)
theorem d_Ip_breakUp_35 : decode prog_1_method_46_code 35 = .ok (.aload_n 2, 1) := zo_44 (zd_b zq_prog_1_method_46_code_1 3 rfl rfl rfl)
theorem d_Ip_breakUp_36 : decode prog_1_method_46_code 36 = .ok (.getfield 450, 3) := zo_180 (d := 1) (e := 194) (zd_b zq_prog_1_method_46_code_1 4 rfl rfl rfl) (zd_b zq_prog_1_method_46_code_1 5 rfl rfl rfl) (zd_b zq_prog_1_method_46_code_1 6 rfl rfl rfl)
theorem d_Ip_breakUp_39 : decode prog_1_method_46_code 39 = .ok (.invokevirtual 472, 3) := zo_182 (d := 1) (e := 216) (zd_b zq_prog_1_method_46_code_1 7 rfl rfl rfl) (zd_b zq_prog_1_method_46_code_1 8 rfl rfl rfl) (zd_b zq_prog_1_method_46_code_1 9 rfl rfl rfl)
theorem ok_Ip_breakUp_Me_addAll : z_ok M_Ip_breakUp M_Me_addAll 1 := ⟨z_mj7 (i := 28) rfl (by decide +kernel), rfl, ⟨by decide +kernel, by decide +kernel, by decide +kernel⟩, ⟨by decide, by decide⟩, z_mj1 (i := 8) rfl (by decide +kernel), rfl⟩
theorem ln_Ip_472 : Cond.methodLink "Ironpour" 472 M_Me_addAll.1 ∈ z_gw := z_mj7 (i := 25) rfl (by decide +kernel)
theorem w_im_Me_addAll : Cond.instanceMethod M_Me_addAll.1 ∈ z_gw := z_mj7 (i := 26) rfl (by decide +kernel)
theorem w_se_Me_addAll : Cond.selects M_Me_addAll.1.cls M_Me_addAll.1 M_Me_addAll.1 ∈ z_gw := z_mj7 (i := 27) rfl (by decide +kernel)
theorem d_Ip_breakUp_42 : decode prog_1_method_46_code 42 = .ok (.aload_n 3, 1) := zo_45 (zd_b zq_prog_1_method_46_code_1 10 rfl rfl rfl)
theorem d_Ip_breakUp_43 : decode prog_1_method_46_code 43 = .ok (.getfield 269, 3) := zo_180 (d := 1) (e := 13) (zd_b zq_prog_1_method_46_code_1 11 rfl rfl rfl) (zd_b zq_prog_1_method_46_code_1 12 rfl rfl rfl) (zd_b zq_prog_1_method_46_code_1 13 rfl rfl rfl)
theorem d_Ip_breakUp_46 : decode prog_1_method_46_code 46 = .ok (.ireturn, 1) := zo_172 (zd_b zq_prog_1_method_46_code_1 14 rfl rfl rfl)
set_option maxHeartbeats 4000000 in
set_option maxRecDepth 100000 in
theorem Qx_Ip_breakUpG {g : zG} {ad : Nat → Nat} {t : zTT} {u : zNN} {w : zW} (hI : IV g ad t u w) (k : Nat) (hk : k < u.1 1) (h3 : (t.2 1 k).1 3 = 0) (h4 : (t.2 1 k).1 4 = 0) (h5 : (t.2 1 k).1 0 < 20) : zMB g M_Ip_breakUp [.ref (ad 0), .int (nI k)] w (fun o w1 => o = .inl (some (.int ((t.1 45).1 0 + (t.2 1 k).1 5))) ∧ IV g ad (zup t.1 [(45, (upd ((t.1 45).1) 0 ((t.1 45).1 0 + (t.2 1 k).1 5), (t.1 45).2.1, (t.1 45).2.2)), (46, ((t.1 46).1, lfd ((t.1 46).2.1) ((t.2 1 k).2.2.1) 4, (t.1 46).2.2))], vup t.2 1 k (upd ((t.2 1 k).1) 4 (1), (t.2 1 k).2)) u w1) 3 18 := by
  obtain ⟨e_a, wf_a, k_a⟩ := hI.1.2 0 (by decide)
  obtain rfl := kd_0.mp k_a
  obtain ⟨e_gy, wf_gy, k_gy⟩ := hI.1.2 45 (by decide)
  obtain rfl := kd_45.mp k_gy
  obtain ⟨e_gyg, wf_gyg, k_gyg⟩ := hI.1.2 46 (by decide)
  obtain rfl := kd_46.mp k_gyg
  obtain ⟨e_du, wf_du, k_du⟩ := hI.1.2 47 (by decide)
  obtain rfl := kd_47.mp k_du
  obtain ⟨e_dug, wf_dug, k_dug⟩ := hI.1.2 48 (by decide)
  obtain rfl := kd_48.mp k_dug
  refine y_of (by decide) rfl (Nat.le_of_ble_eq_true rfl) (y_base (cs := [((ad 0), .inr (11, [.ref (ad 1), .ref (ad 5), .ref (ad 18), .ref (ad 31), .ref (ad 32), .ref (ad 36), .ref (ad 42), .ref (ad 45), .ref (ad 47), .ref (ad 49), .ref (ad 50), .ref (ad 51)])), ((ad 45), .inr (6, [.ref (ad 46), .int ((t.1 45).1 0)])), ((ad 46), .inl (3, 4, .inr (.inl ((t.1 46).2.1)))), ((ad 47), .inr (6, [.ref (ad 48), .int ((t.1 47).1 0)])), ((ad 48), .inl (3, 4, .inr (.inl ((t.1 48).2.1))))]) (hI.1.I [0, 45, 46, 47, 48] _ rfl (by decide) (by decide) (List.forall_mem_cons.mpr ⟨wf_a, (List.forall_mem_cons.mpr ⟨wf_gy, (List.forall_mem_cons.mpr ⟨wf_gyg, (List.forall_mem_cons.mpr ⟨wf_du, (List.forall_mem_cons.mpr ⟨wf_dug, (fun _ h => nomatch h)⟩)⟩)⟩)⟩)⟩)) ?_)
  refine y_lvE (lv2 := [(0, .ref (ad 0)), (1, .int (nI k))]) rfl ?_
  refine y_aload_n d_Ip_breakUp_0 rfl 0 rfl ?_
  refine y_iload_n d_Ip_breakUp_1 rfl 1 rfl ?_
  refine yw_callV (As := [.int (nI k)]) (rest := []) (q0 := 0) rfl rfl ln_Ip_436 w_im_Ip_castingAt w_se_Ip_castingAt ok_Ip_breakUp_Ip_castingAt d_Ip_breakUp_2 (fun wA hA => Q_castingAtN (hI.gen (t2 := t) (is := [0, 45, 46, 47, 48]) (L2 := []) hA rfl ⟨kd_0.mpr rfl, kd_45.mpr rfl, kd_46.mpr rfl, kd_47.mpr rfl, kd_48.mpr rfl, trivial⟩ (by decide) (by decide) (fun _ h => nomatch h) (fun _ h => nomatch h) (fun _ _ _ => rfl) (fun h => h) rfl) k hk) rfl rfl (Nat.le_of_ble_eq_true rfl) (by omega) (by omega) (fun wA2 hA2 E wB2 hx => ?_) (fun wA2 hA2 v wB2 hx => ?_)
  · exact absurd hx.1 (by simp)
  · obtain ⟨e1, e2⟩ := hx
    cases e1
    refine yw_st (st2 := [.ref (u.2.2 1 k)]) rfl ?_
    subst e2
    refine y_go hA2 ?_
    refine y_end (fun wC1 hC1 => ?_)
    have hI9 := (hI.gen (t2 := t) (is := [0, 45, 46, 47, 48]) (L2 := []) hC1 rfl ⟨kd_0.mpr rfl, kd_45.mpr rfl, kd_46.mpr rfl, kd_47.mpr rfl, kd_48.mpr rfl, trivial⟩ (by decide) (by decide) (fun _ h => nomatch h) (fun _ h => nomatch h) (fun _ _ _ => rfl) (fun h => h) rfl)
    have hI := hI9
    obtain ⟨nf_c, me_c, gr_c, hw_c, nfm_c, hwm_c, nfg_c, hwg_c⟩ := hI.2.1.2.1 1 (by decide) k hk
    refine y_base (cs := [((ad 0), .inr (11, [.ref (ad 1), .ref (ad 5), .ref (ad 18), .ref (ad 31), .ref (ad 32), .ref (ad 36), .ref (ad 42), .ref (ad 45), .ref (ad 47), .ref (ad 49), .ref (ad 50), .ref (ad 51)])), ((ad 45), .inr (6, [.ref (ad 46), .int ((t.1 45).1 0)])), ((ad 46), .inl (3, 4, .inr (.inl ((t.1 46).2.1)))), ((ad 47), .inr (6, [.ref (ad 48), .int ((t.1 47).1 0)])), ((ad 48), .inl (3, 4, .inr (.inl ((t.1 48).2.1)))), ((u.2.2 1 k), .inr (0, [.ref me_c, .int ((t.2 1 k).1 0), .int ((t.2 1 k).1 1), .int ((t.2 1 k).1 2), .int ((t.2 1 k).1 3), .int ((t.2 1 k).1 4)])), (me_c, .inr (6, [.ref gr_c, .int ((t.2 1 k).1 5)])), (gr_c, .inl (3, 4, .inr (.inl ((t.2 1 k).2.2.1))))]) (hI.1.B [0, 45, 46, 47, 48] [((ad 0), .inr (11, [.ref (ad 1), .ref (ad 5), .ref (ad 18), .ref (ad 31), .ref (ad 32), .ref (ad 36), .ref (ad 42), .ref (ad 45), .ref (ad 47), .ref (ad 49), .ref (ad 50), .ref (ad 51)])), ((ad 45), .inr (6, [.ref (ad 46), .int ((t.1 45).1 0)])), ((ad 46), .inl (3, 4, .inr (.inl ((t.1 46).2.1)))), ((ad 47), .inr (6, [.ref (ad 48), .int ((t.1 47).1 0)])), ((ad 48), .inl (3, 4, .inr (.inl ((t.1 48).2.1))))] [((u.2.2 1 k), .inr (0, [.ref me_c, .int ((t.2 1 k).1 0), .int ((t.2 1 k).1 1), .int ((t.2 1 k).1 2), .int ((t.2 1 k).1 3), .int ((t.2 1 k).1 4)])), (me_c, .inr (6, [.ref gr_c, .int ((t.2 1 k).1 5)])), (gr_c, .inl (3, 4, .inr (.inl ((t.2 1 k).2.2.1))))] rfl (by decide) (by decide) (List.forall_mem_cons.mpr ⟨hC1.at (q0 := 0) rfl, (List.forall_mem_cons.mpr ⟨hC1.at (q0 := 1) rfl, (List.forall_mem_cons.mpr ⟨hC1.at (q0 := 2) rfl, (List.forall_mem_cons.mpr ⟨hC1.at (q0 := 3) rfl, (List.forall_mem_cons.mpr ⟨hC1.at (q0 := 4) rfl, (fun _ h => nomatch h)⟩)⟩)⟩)⟩)⟩) (List.forall_mem_cons.mpr ⟨hw_c, (List.forall_mem_cons.mpr ⟨hwm_c, (List.forall_mem_cons.mpr ⟨hwg_c, (fun _ h => nomatch h)⟩)⟩)⟩) (List.forall_mem_cons.mpr ⟨nf_c, (List.forall_mem_cons.mpr ⟨nfm_c, (List.forall_mem_cons.mpr ⟨nfg_c, (fun _ h => nomatch h)⟩)⟩)⟩) (by simp [z_kd])) ?_
    refine y_astore_n (lv' := [(2, .ref (u.2.2 1 k)), (0, .ref (ad 0)), (1, .int (nI k))]) d_Ip_breakUp_5 rfl (by decide) rfl ?_
    refine y_aload_n d_Ip_breakUp_6 rfl 0 rfl ?_
    refine y_callS (As := [.ref (u.2.2 1 k)]) (rest := []) (csC := [((u.2.2 1 k), .inr (0, [.ref me_c, .int ((t.2 1 k).1 0), .int ((t.2 1 k).1 1), .int ((t.2 1 k).1 2), .int ((t.2 1 k).1 3), .int ((t.2 1 k).1 4)]))]) (is := [5]) ln_Ip_462 w_st_Ip_checkStands ok_Ip_breakUp_Ip_checkStands d_Ip_breakUp_7 (C_Ip_checkStandsN g (u.2.2 1 k) me_c ((t.2 1 k).1 0) ((t.2 1 k).1 1) ((t.2 1 k).1 2) ((t.2 1 k).1 3) ((t.2 1 k).1 4) h3 h4) rfl rfl (Nat.le_of_ble_eq_true rfl) rfl (by decide) (by omega) (by omega) (fun E cs1 hx => ?_) (fun v cs1 hx => ?_)
    · exact absurd hx.1 (by simp)
    · obtain ⟨e1, rfl⟩ := hx
      cases e1
      refine ⟨rfl, ?_⟩
      refine y_st (st2 := []) rfl ?_
      refine y_cs (cs2 := [((ad 0), .inr (11, [.ref (ad 1), .ref (ad 5), .ref (ad 18), .ref (ad 31), .ref (ad 32), .ref (ad 36), .ref (ad 42), .ref (ad 45), .ref (ad 47), .ref (ad 49), .ref (ad 50), .ref (ad 51)])), ((ad 45), .inr (6, [.ref (ad 46), .int ((t.1 45).1 0)])), ((ad 46), .inl (3, 4, .inr (.inl ((t.1 46).2.1)))), ((ad 47), .inr (6, [.ref (ad 48), .int ((t.1 47).1 0)])), ((ad 48), .inl (3, 4, .inr (.inl ((t.1 48).2.1)))), ((u.2.2 1 k), .inr (0, [.ref me_c, .int ((t.2 1 k).1 0), .int ((t.2 1 k).1 1), .int ((t.2 1 k).1 2), .int ((t.2 1 k).1 3), .int ((t.2 1 k).1 4)])), (me_c, .inr (6, [.ref gr_c, .int ((t.2 1 k).1 5)])), (gr_c, .inl (3, 4, .inr (.inl ((t.2 1 k).2.2.1))))]) rfl ?_
      refine y_aload_n d_Ip_breakUp_10 rfl 0 rfl ?_
      refine y_iconst d_Ip_breakUp_11 (v := 1) (by decide) ?_
      refine y_put fp_Ip_469 d_Ip_breakUp_12 (fun h => nomatch h) (by decide) (by decide) (q0 := 5) rfl (Nat.le_of_ble_eq_true rfl) (cs' := [((ad 0), .inr (11, [.ref (ad 1), .ref (ad 5), .ref (ad 18), .ref (ad 31), .ref (ad 32), .ref (ad 36), .ref (ad 42), .ref (ad 45), .ref (ad 47), .ref (ad 49), .ref (ad 50), .ref (ad 51)])), ((ad 45), .inr (6, [.ref (ad 46), .int ((t.1 45).1 0)])), ((ad 46), .inl (3, 4, .inr (.inl ((t.1 46).2.1)))), ((ad 47), .inr (6, [.ref (ad 48), .int ((t.1 47).1 0)])), ((ad 48), .inl (3, 4, .inr (.inl ((t.1 48).2.1)))), ((u.2.2 1 k), .inr (0, [.ref me_c, .int ((t.2 1 k).1 0), .int ((t.2 1 k).1 1), .int ((t.2 1 k).1 2), .int ((t.2 1 k).1 3), .int 1])), (me_c, .inr (6, [.ref gr_c, .int ((t.2 1 k).1 5)])), (gr_c, .inl (3, 4, .inr (.inl ((t.2 1 k).2.2.1))))]) rfl ?_
      refine y_aload_n d_Ip_breakUp_15 rfl 0 rfl ?_
      refine y_callV (As := []) (rest := []) (csC := [((u.2.2 1 k), .inr (0, [.ref me_c, .int ((t.2 1 k).1 0), .int ((t.2 1 k).1 1), .int ((t.2 1 k).1 2), .int ((t.2 1 k).1 3), .int 1])), (me_c, .inr (6, [.ref gr_c, .int ((t.2 1 k).1 5)])), (gr_c, .inl (3, 4, .inr (.inl ((t.2 1 k).2.2.1))))]) (is := [5, 6, 7]) (q0 := 5) rfl rfl ln_Ip_440 w_im_Ca_isDuctile w_se_Ca_isDuctile ok_Ip_breakUp_Ca_isDuctile d_Ip_breakUp_16 (C_Ca_isDuctile g (u.2.2 1 k) me_c gr_c ((t.2 1 k).2.2.1) ((t.2 1 k).1 5) ((t.2 1 k).1 0) ((t.2 1 k).1 1) ((t.2 1 k).1 2) ((t.2 1 k).1 3) 1) rfl rfl (Nat.le_of_ble_eq_true rfl) rfl (by decide) (by omega) (by omega) (fun E cs1 hx => ?_) (fun v cs1 hx => ?_)
      · exact absurd hx.1 (by simp)
      · obtain ⟨e1, rfl⟩ := hx
        cases e1
        refine ⟨rfl, ?_⟩
        refine y_st (st2 := [.int (if ((t.2 1 k).1 0) < 20 then 0 else 1)]) rfl ?_
        refine y_cs (cs2 := [((ad 0), .inr (11, [.ref (ad 1), .ref (ad 5), .ref (ad 18), .ref (ad 31), .ref (ad 32), .ref (ad 36), .ref (ad 42), .ref (ad 45), .ref (ad 47), .ref (ad 49), .ref (ad 50), .ref (ad 51)])), ((ad 45), .inr (6, [.ref (ad 46), .int ((t.1 45).1 0)])), ((ad 46), .inl (3, 4, .inr (.inl ((t.1 46).2.1)))), ((ad 47), .inr (6, [.ref (ad 48), .int ((t.1 47).1 0)])), ((ad 48), .inl (3, 4, .inr (.inl ((t.1 48).2.1)))), ((u.2.2 1 k), .inr (0, [.ref me_c, .int ((t.2 1 k).1 0), .int ((t.2 1 k).1 1), .int ((t.2 1 k).1 2), .int ((t.2 1 k).1 3), .int 1])), (me_c, .inr (6, [.ref gr_c, .int ((t.2 1 k).1 5)])), (gr_c, .inl (3, 4, .inr (.inl ((t.2 1 k).2.2.1))))]) rfl ?_
        refine y_if_eq (tgt := 29) d_Ip_breakUp_19 (by decide) (fun c_19 => ?_) (fun c_19 => ?_)
        · refine y_aload_n d_Ip_breakUp_29 rfl 1 rfl ?_
          refine y_get fs_Ip_57 d_Ip_breakUp_30 (q0 := 0) rfl rfl ?_
          refine y_astore_n (lv' := [(3, .ref (ad 45)), (2, .ref (u.2.2 1 k)), (0, .ref (ad 0)), (1, .int (nI k))]) d_Ip_breakUp_33 rfl (by decide) rfl ?_
          refine y_aload_n d_Ip_breakUp_34 rfl 0 rfl ?_
          refine y_aload_n d_Ip_breakUp_35 rfl 1 rfl ?_
          refine y_get fs_Ip_450 d_Ip_breakUp_36 (q0 := 5) rfl rfl ?_
          refine y_callV (As := [.ref me_c]) (rest := []) (csC := [((ad 45), .inr (6, [.ref (ad 46), .int ((t.1 45).1 0)])), ((ad 46), .inl (3, 4, .inr (.inl ((t.1 46).2.1)))), (me_c, .inr (6, [.ref gr_c, .int ((t.2 1 k).1 5)])), (gr_c, .inl (3, 4, .inr (.inl ((t.2 1 k).2.2.1))))]) (is := [1, 2, 6, 7]) (q0 := 1) rfl rfl ln_Ip_472 w_im_Me_addAll w_se_Me_addAll ok_Ip_breakUp_Me_addAll d_Ip_breakUp_39 (C_Me_addAll g (ad 45) (ad 46) ((t.1 46).2.1) ((t.1 45).1 0) me_c gr_c ((t.2 1 k).2.2.1) ((t.2 1 k).1 5)) rfl rfl (Nat.le_of_ble_eq_true rfl) rfl (by decide) (by omega) (by omega) (fun E cs1 hx => ?_) (fun v cs1 hx => ?_)
          · exact absurd hx.1 (by simp)
          · obtain ⟨e1, rfl⟩ := hx
            cases e1
            refine ⟨rfl, ?_⟩
            refine y_st (st2 := []) rfl ?_
            refine y_cs (cs2 := [((ad 0), .inr (11, [.ref (ad 1), .ref (ad 5), .ref (ad 18), .ref (ad 31), .ref (ad 32), .ref (ad 36), .ref (ad 42), .ref (ad 45), .ref (ad 47), .ref (ad 49), .ref (ad 50), .ref (ad 51)])), ((ad 45), .inr (6, [.ref (ad 46), .int (((t.1 45).1 0) + ((t.2 1 k).1 5))])), ((ad 46), .inl (3, 4, .inr (.inl (lfd ((t.1 46).2.1) ((t.2 1 k).2.2.1) 4)))), ((ad 47), .inr (6, [.ref (ad 48), .int ((t.1 47).1 0)])), ((ad 48), .inl (3, 4, .inr (.inl ((t.1 48).2.1)))), ((u.2.2 1 k), .inr (0, [.ref me_c, .int ((t.2 1 k).1 0), .int ((t.2 1 k).1 1), .int ((t.2 1 k).1 2), .int ((t.2 1 k).1 3), .int 1])), (me_c, .inr (6, [.ref gr_c, .int ((t.2 1 k).1 5)])), (gr_c, .inl (3, 4, .inr (.inl ((t.2 1 k).2.2.1))))]) rfl ?_
            refine y_aload_n d_Ip_breakUp_42 rfl 0 rfl ?_
            refine y_get fs_Ip_269 d_Ip_breakUp_43 (q0 := 1) rfl rfl ?_
            refine y_iret d_Ip_breakUp_46 rfl rfl ?_
            exact fun w1 h1 => ⟨rfl, (hI.gen1 (M := 1) (j := k) (v2 := (upd ((t.2 1 k).1) 4 1, (t.2 1 k).2)) (t2 := (zup t.1 [(45, (upd ((t.1 45).1) 0 ((t.1 45).1 0 + (t.2 1 k).1 5), (t.1 45).2.1, (t.1 45).2.2)), (46, ((t.1 46).1, lfd ((t.1 46).2.1) ((t.2 1 k).2.2.1) 4, (t.1 46).2.2))], vup t.2 1 k (upd ((t.2 1 k).1) 4 (1), (t.2 1 k).2))) (is := [0, 45, 46, 47, 48]) (L2 := [(u.2.2 1 k), me_c, gr_c]) (by decide) hk (Or.inr (Or.inl rfl)) h1 rfl ⟨kd_0.mpr rfl, kd_45.mpr rfl, kd_46.mpr rfl, kd_47.mpr rfl, kd_48.mpr rfl, trivial⟩ (by decide) (by decide) (List.forall_mem_cons.mpr ⟨nf_c, (List.forall_mem_cons.mpr ⟨nfm_c, (List.forall_mem_cons.mpr ⟨nfg_c, (fun _ h => nomatch h)⟩)⟩)⟩) (List.forall_mem_cons.mpr ⟨(Or.inl rfl), (List.forall_mem_cons.mpr ⟨(Or.inr ⟨_, hwm_c, h1.at (q0 := 6) rfl⟩), (List.forall_mem_cons.mpr ⟨(Or.inr ⟨_, hwg_c, h1.at (q0 := 7) rfl⟩), (fun _ h => nomatch h)⟩)⟩)⟩) (fun i hi hn => zup_out (fun q => hn ((by decide : ∀ j ∈ ([45, 46] : List Nat), j ∈ ([0, 45, 46, 47, 48] : List Nat)) i q))) (fun h => h) ⟨nf_c, me_c, gr_c, h1.at (q0 := 5) rfl, nfm_c, h1.at (q0 := 6) rfl, nfg_c, h1.at (q0 := 7) rfl⟩ rfl)⟩
        · exact absurd h5 (du_1 c_19)
theorem d_Ip_breakUp_22 : decode prog_1_method_46_code 22 = .ok (.aload_n 0, 1) := zo_42 (zd_b zq_prog_1_method_46_code_0 22 rfl rfl rfl)
theorem d_Ip_breakUp_23 : decode prog_1_method_46_code 23 = .ok (.getfield 61, 3) := zo_180 (d := 0) (e := 61) (zd_b zq_prog_1_method_46_code_0 23 rfl rfl rfl) (zd_b zq_prog_1_method_46_code_0 24 rfl rfl rfl) (zd_b zq_prog_1_method_46_code_0 25 rfl rfl rfl)
theorem d_Ip_breakUp_26 : decode prog_1_method_46_code 26 = .ok (.goto 7, 3) := zo_167 (d := 0) (e := 7) (zd_b zq_prog_1_method_46_code_0 26 rfl rfl rfl) (zd_b zq_prog_1_method_46_code_0 27 rfl rfl rfl) (zd_b zq_prog_1_method_46_code_0 28 rfl rfl rfl) (by decide +kernel)
set_option maxHeartbeats 4000000 in
set_option maxRecDepth 100000 in
theorem Qx_Ip_breakUpD {g : zG} {ad : Nat → Nat} {t : zTT} {u : zNN} {w : zW} (hI : IV g ad t u w) (k : Nat) (hk : k < u.1 1) (h3 : (t.2 1 k).1 3 = 0) (h4 : (t.2 1 k).1 4 = 0) (h5 : ¬ (t.2 1 k).1 0 < 20) : zMB g M_Ip_breakUp [.ref (ad 0), .int (nI k)] w (fun o w1 => o = .inl (some (.int ((t.1 47).1 0 + (t.2 1 k).1 5))) ∧ IV g ad (zup t.1 [(47, (upd ((t.1 47).1) 0 ((t.1 47).1 0 + (t.2 1 k).1 5), (t.1 47).2.1, (t.1 47).2.2)), (48, ((t.1 48).1, lfd ((t.1 48).2.1) ((t.2 1 k).2.2.1) 4, (t.1 48).2.2))], vup t.2 1 k (upd ((t.2 1 k).1) 4 (1), (t.2 1 k).2)) u w1) 3 18 := by
  obtain ⟨e_a, wf_a, k_a⟩ := hI.1.2 0 (by decide)
  obtain rfl := kd_0.mp k_a
  obtain ⟨e_gy, wf_gy, k_gy⟩ := hI.1.2 45 (by decide)
  obtain rfl := kd_45.mp k_gy
  obtain ⟨e_gyg, wf_gyg, k_gyg⟩ := hI.1.2 46 (by decide)
  obtain rfl := kd_46.mp k_gyg
  obtain ⟨e_du, wf_du, k_du⟩ := hI.1.2 47 (by decide)
  obtain rfl := kd_47.mp k_du
  obtain ⟨e_dug, wf_dug, k_dug⟩ := hI.1.2 48 (by decide)
  obtain rfl := kd_48.mp k_dug
  refine y_of (by decide) rfl (Nat.le_of_ble_eq_true rfl) (y_base (cs := [((ad 0), .inr (11, [.ref (ad 1), .ref (ad 5), .ref (ad 18), .ref (ad 31), .ref (ad 32), .ref (ad 36), .ref (ad 42), .ref (ad 45), .ref (ad 47), .ref (ad 49), .ref (ad 50), .ref (ad 51)])), ((ad 45), .inr (6, [.ref (ad 46), .int ((t.1 45).1 0)])), ((ad 46), .inl (3, 4, .inr (.inl ((t.1 46).2.1)))), ((ad 47), .inr (6, [.ref (ad 48), .int ((t.1 47).1 0)])), ((ad 48), .inl (3, 4, .inr (.inl ((t.1 48).2.1))))]) (hI.1.I [0, 45, 46, 47, 48] _ rfl (by decide) (by decide) (List.forall_mem_cons.mpr ⟨wf_a, (List.forall_mem_cons.mpr ⟨wf_gy, (List.forall_mem_cons.mpr ⟨wf_gyg, (List.forall_mem_cons.mpr ⟨wf_du, (List.forall_mem_cons.mpr ⟨wf_dug, (fun _ h => nomatch h)⟩)⟩)⟩)⟩)⟩)) ?_)
  refine y_lvE (lv2 := [(0, .ref (ad 0)), (1, .int (nI k))]) rfl ?_
  refine y_aload_n d_Ip_breakUp_0 rfl 0 rfl ?_
  refine y_iload_n d_Ip_breakUp_1 rfl 1 rfl ?_
  refine yw_callV (As := [.int (nI k)]) (rest := []) (q0 := 0) rfl rfl ln_Ip_436 w_im_Ip_castingAt w_se_Ip_castingAt ok_Ip_breakUp_Ip_castingAt d_Ip_breakUp_2 (fun wA hA => Q_castingAtN (hI.gen (t2 := t) (is := [0, 45, 46, 47, 48]) (L2 := []) hA rfl ⟨kd_0.mpr rfl, kd_45.mpr rfl, kd_46.mpr rfl, kd_47.mpr rfl, kd_48.mpr rfl, trivial⟩ (by decide) (by decide) (fun _ h => nomatch h) (fun _ h => nomatch h) (fun _ _ _ => rfl) (fun h => h) rfl) k hk) rfl rfl (Nat.le_of_ble_eq_true rfl) (by omega) (by omega) (fun wA2 hA2 E wB2 hx => ?_) (fun wA2 hA2 v wB2 hx => ?_)
  · exact absurd hx.1 (by simp)
  · obtain ⟨e1, e2⟩ := hx
    cases e1
    refine yw_st (st2 := [.ref (u.2.2 1 k)]) rfl ?_
    subst e2
    refine y_go hA2 ?_
    refine y_end (fun wC1 hC1 => ?_)
    have hI9 := (hI.gen (t2 := t) (is := [0, 45, 46, 47, 48]) (L2 := []) hC1 rfl ⟨kd_0.mpr rfl, kd_45.mpr rfl, kd_46.mpr rfl, kd_47.mpr rfl, kd_48.mpr rfl, trivial⟩ (by decide) (by decide) (fun _ h => nomatch h) (fun _ h => nomatch h) (fun _ _ _ => rfl) (fun h => h) rfl)
    have hI := hI9
    obtain ⟨nf_c, me_c, gr_c, hw_c, nfm_c, hwm_c, nfg_c, hwg_c⟩ := hI.2.1.2.1 1 (by decide) k hk
    refine y_base (cs := [((ad 0), .inr (11, [.ref (ad 1), .ref (ad 5), .ref (ad 18), .ref (ad 31), .ref (ad 32), .ref (ad 36), .ref (ad 42), .ref (ad 45), .ref (ad 47), .ref (ad 49), .ref (ad 50), .ref (ad 51)])), ((ad 45), .inr (6, [.ref (ad 46), .int ((t.1 45).1 0)])), ((ad 46), .inl (3, 4, .inr (.inl ((t.1 46).2.1)))), ((ad 47), .inr (6, [.ref (ad 48), .int ((t.1 47).1 0)])), ((ad 48), .inl (3, 4, .inr (.inl ((t.1 48).2.1)))), ((u.2.2 1 k), .inr (0, [.ref me_c, .int ((t.2 1 k).1 0), .int ((t.2 1 k).1 1), .int ((t.2 1 k).1 2), .int ((t.2 1 k).1 3), .int ((t.2 1 k).1 4)])), (me_c, .inr (6, [.ref gr_c, .int ((t.2 1 k).1 5)])), (gr_c, .inl (3, 4, .inr (.inl ((t.2 1 k).2.2.1))))]) (hI.1.B [0, 45, 46, 47, 48] [((ad 0), .inr (11, [.ref (ad 1), .ref (ad 5), .ref (ad 18), .ref (ad 31), .ref (ad 32), .ref (ad 36), .ref (ad 42), .ref (ad 45), .ref (ad 47), .ref (ad 49), .ref (ad 50), .ref (ad 51)])), ((ad 45), .inr (6, [.ref (ad 46), .int ((t.1 45).1 0)])), ((ad 46), .inl (3, 4, .inr (.inl ((t.1 46).2.1)))), ((ad 47), .inr (6, [.ref (ad 48), .int ((t.1 47).1 0)])), ((ad 48), .inl (3, 4, .inr (.inl ((t.1 48).2.1))))] [((u.2.2 1 k), .inr (0, [.ref me_c, .int ((t.2 1 k).1 0), .int ((t.2 1 k).1 1), .int ((t.2 1 k).1 2), .int ((t.2 1 k).1 3), .int ((t.2 1 k).1 4)])), (me_c, .inr (6, [.ref gr_c, .int ((t.2 1 k).1 5)])), (gr_c, .inl (3, 4, .inr (.inl ((t.2 1 k).2.2.1))))] rfl (by decide) (by decide) (List.forall_mem_cons.mpr ⟨hC1.at (q0 := 0) rfl, (List.forall_mem_cons.mpr ⟨hC1.at (q0 := 1) rfl, (List.forall_mem_cons.mpr ⟨hC1.at (q0 := 2) rfl, (List.forall_mem_cons.mpr ⟨hC1.at (q0 := 3) rfl, (List.forall_mem_cons.mpr ⟨hC1.at (q0 := 4) rfl, (fun _ h => nomatch h)⟩)⟩)⟩)⟩)⟩) (List.forall_mem_cons.mpr ⟨hw_c, (List.forall_mem_cons.mpr ⟨hwm_c, (List.forall_mem_cons.mpr ⟨hwg_c, (fun _ h => nomatch h)⟩)⟩)⟩) (List.forall_mem_cons.mpr ⟨nf_c, (List.forall_mem_cons.mpr ⟨nfm_c, (List.forall_mem_cons.mpr ⟨nfg_c, (fun _ h => nomatch h)⟩)⟩)⟩) (by simp [z_kd])) ?_
    refine y_astore_n (lv' := [(2, .ref (u.2.2 1 k)), (0, .ref (ad 0)), (1, .int (nI k))]) d_Ip_breakUp_5 rfl (by decide) rfl ?_
    refine y_aload_n d_Ip_breakUp_6 rfl 0 rfl ?_
    refine y_callS (As := [.ref (u.2.2 1 k)]) (rest := []) (csC := [((u.2.2 1 k), .inr (0, [.ref me_c, .int ((t.2 1 k).1 0), .int ((t.2 1 k).1 1), .int ((t.2 1 k).1 2), .int ((t.2 1 k).1 3), .int ((t.2 1 k).1 4)]))]) (is := [5]) ln_Ip_462 w_st_Ip_checkStands ok_Ip_breakUp_Ip_checkStands d_Ip_breakUp_7 (C_Ip_checkStandsN g (u.2.2 1 k) me_c ((t.2 1 k).1 0) ((t.2 1 k).1 1) ((t.2 1 k).1 2) ((t.2 1 k).1 3) ((t.2 1 k).1 4) h3 h4) rfl rfl (Nat.le_of_ble_eq_true rfl) rfl (by decide) (by omega) (by omega) (fun E cs1 hx => ?_) (fun v cs1 hx => ?_)
    · exact absurd hx.1 (by simp)
    · obtain ⟨e1, rfl⟩ := hx
      cases e1
      refine ⟨rfl, ?_⟩
      refine y_st (st2 := []) rfl ?_
      refine y_cs (cs2 := [((ad 0), .inr (11, [.ref (ad 1), .ref (ad 5), .ref (ad 18), .ref (ad 31), .ref (ad 32), .ref (ad 36), .ref (ad 42), .ref (ad 45), .ref (ad 47), .ref (ad 49), .ref (ad 50), .ref (ad 51)])), ((ad 45), .inr (6, [.ref (ad 46), .int ((t.1 45).1 0)])), ((ad 46), .inl (3, 4, .inr (.inl ((t.1 46).2.1)))), ((ad 47), .inr (6, [.ref (ad 48), .int ((t.1 47).1 0)])), ((ad 48), .inl (3, 4, .inr (.inl ((t.1 48).2.1)))), ((u.2.2 1 k), .inr (0, [.ref me_c, .int ((t.2 1 k).1 0), .int ((t.2 1 k).1 1), .int ((t.2 1 k).1 2), .int ((t.2 1 k).1 3), .int ((t.2 1 k).1 4)])), (me_c, .inr (6, [.ref gr_c, .int ((t.2 1 k).1 5)])), (gr_c, .inl (3, 4, .inr (.inl ((t.2 1 k).2.2.1))))]) rfl ?_
      refine y_aload_n d_Ip_breakUp_10 rfl 0 rfl ?_
      refine y_iconst d_Ip_breakUp_11 (v := 1) (by decide) ?_
      refine y_put fp_Ip_469 d_Ip_breakUp_12 (fun h => nomatch h) (by decide) (by decide) (q0 := 5) rfl (Nat.le_of_ble_eq_true rfl) (cs' := [((ad 0), .inr (11, [.ref (ad 1), .ref (ad 5), .ref (ad 18), .ref (ad 31), .ref (ad 32), .ref (ad 36), .ref (ad 42), .ref (ad 45), .ref (ad 47), .ref (ad 49), .ref (ad 50), .ref (ad 51)])), ((ad 45), .inr (6, [.ref (ad 46), .int ((t.1 45).1 0)])), ((ad 46), .inl (3, 4, .inr (.inl ((t.1 46).2.1)))), ((ad 47), .inr (6, [.ref (ad 48), .int ((t.1 47).1 0)])), ((ad 48), .inl (3, 4, .inr (.inl ((t.1 48).2.1)))), ((u.2.2 1 k), .inr (0, [.ref me_c, .int ((t.2 1 k).1 0), .int ((t.2 1 k).1 1), .int ((t.2 1 k).1 2), .int ((t.2 1 k).1 3), .int 1])), (me_c, .inr (6, [.ref gr_c, .int ((t.2 1 k).1 5)])), (gr_c, .inl (3, 4, .inr (.inl ((t.2 1 k).2.2.1))))]) rfl ?_
      refine y_aload_n d_Ip_breakUp_15 rfl 0 rfl ?_
      refine y_callV (As := []) (rest := []) (csC := [((u.2.2 1 k), .inr (0, [.ref me_c, .int ((t.2 1 k).1 0), .int ((t.2 1 k).1 1), .int ((t.2 1 k).1 2), .int ((t.2 1 k).1 3), .int 1])), (me_c, .inr (6, [.ref gr_c, .int ((t.2 1 k).1 5)])), (gr_c, .inl (3, 4, .inr (.inl ((t.2 1 k).2.2.1))))]) (is := [5, 6, 7]) (q0 := 5) rfl rfl ln_Ip_440 w_im_Ca_isDuctile w_se_Ca_isDuctile ok_Ip_breakUp_Ca_isDuctile d_Ip_breakUp_16 (C_Ca_isDuctile g (u.2.2 1 k) me_c gr_c ((t.2 1 k).2.2.1) ((t.2 1 k).1 5) ((t.2 1 k).1 0) ((t.2 1 k).1 1) ((t.2 1 k).1 2) ((t.2 1 k).1 3) 1) rfl rfl (Nat.le_of_ble_eq_true rfl) rfl (by decide) (by omega) (by omega) (fun E cs1 hx => ?_) (fun v cs1 hx => ?_)
      · exact absurd hx.1 (by simp)
      · obtain ⟨e1, rfl⟩ := hx
        cases e1
        refine ⟨rfl, ?_⟩
        refine y_st (st2 := [.int (if ((t.2 1 k).1 0) < 20 then 0 else 1)]) rfl ?_
        refine y_cs (cs2 := [((ad 0), .inr (11, [.ref (ad 1), .ref (ad 5), .ref (ad 18), .ref (ad 31), .ref (ad 32), .ref (ad 36), .ref (ad 42), .ref (ad 45), .ref (ad 47), .ref (ad 49), .ref (ad 50), .ref (ad 51)])), ((ad 45), .inr (6, [.ref (ad 46), .int ((t.1 45).1 0)])), ((ad 46), .inl (3, 4, .inr (.inl ((t.1 46).2.1)))), ((ad 47), .inr (6, [.ref (ad 48), .int ((t.1 47).1 0)])), ((ad 48), .inl (3, 4, .inr (.inl ((t.1 48).2.1)))), ((u.2.2 1 k), .inr (0, [.ref me_c, .int ((t.2 1 k).1 0), .int ((t.2 1 k).1 1), .int ((t.2 1 k).1 2), .int ((t.2 1 k).1 3), .int 1])), (me_c, .inr (6, [.ref gr_c, .int ((t.2 1 k).1 5)])), (gr_c, .inl (3, 4, .inr (.inl ((t.2 1 k).2.2.1))))]) rfl ?_
        refine y_if_eq (tgt := 29) d_Ip_breakUp_19 (by decide) (fun c_19 => ?_) (fun c_19 => ?_)
        · exact absurd (du_0 c_19) h5
        · refine y_aload_n d_Ip_breakUp_22 rfl 1 rfl ?_
          refine y_get fs_Ip_61 d_Ip_breakUp_23 (q0 := 0) rfl rfl ?_
          refine y_goto (tgt := 33) d_Ip_breakUp_26 (by decide) ?_
          refine y_astore_n (lv' := [(3, .ref (ad 47)), (2, .ref (u.2.2 1 k)), (0, .ref (ad 0)), (1, .int (nI k))]) d_Ip_breakUp_33 rfl (by decide) rfl ?_
          refine y_aload_n d_Ip_breakUp_34 rfl 0 rfl ?_
          refine y_aload_n d_Ip_breakUp_35 rfl 1 rfl ?_
          refine y_get fs_Ip_450 d_Ip_breakUp_36 (q0 := 5) rfl rfl ?_
          refine y_callV (As := [.ref me_c]) (rest := []) (csC := [((ad 47), .inr (6, [.ref (ad 48), .int ((t.1 47).1 0)])), ((ad 48), .inl (3, 4, .inr (.inl ((t.1 48).2.1)))), (me_c, .inr (6, [.ref gr_c, .int ((t.2 1 k).1 5)])), (gr_c, .inl (3, 4, .inr (.inl ((t.2 1 k).2.2.1))))]) (is := [3, 4, 6, 7]) (q0 := 3) rfl rfl ln_Ip_472 w_im_Me_addAll w_se_Me_addAll ok_Ip_breakUp_Me_addAll d_Ip_breakUp_39 (C_Me_addAll g (ad 47) (ad 48) ((t.1 48).2.1) ((t.1 47).1 0) me_c gr_c ((t.2 1 k).2.2.1) ((t.2 1 k).1 5)) rfl rfl (Nat.le_of_ble_eq_true rfl) rfl (by decide) (by omega) (by omega) (fun E cs1 hx => ?_) (fun v cs1 hx => ?_)
          · exact absurd hx.1 (by simp)
          · obtain ⟨e1, rfl⟩ := hx
            cases e1
            refine ⟨rfl, ?_⟩
            refine y_st (st2 := []) rfl ?_
            refine y_cs (cs2 := [((ad 0), .inr (11, [.ref (ad 1), .ref (ad 5), .ref (ad 18), .ref (ad 31), .ref (ad 32), .ref (ad 36), .ref (ad 42), .ref (ad 45), .ref (ad 47), .ref (ad 49), .ref (ad 50), .ref (ad 51)])), ((ad 45), .inr (6, [.ref (ad 46), .int ((t.1 45).1 0)])), ((ad 46), .inl (3, 4, .inr (.inl ((t.1 46).2.1)))), ((ad 47), .inr (6, [.ref (ad 48), .int (((t.1 47).1 0) + ((t.2 1 k).1 5))])), ((ad 48), .inl (3, 4, .inr (.inl (lfd ((t.1 48).2.1) ((t.2 1 k).2.2.1) 4)))), ((u.2.2 1 k), .inr (0, [.ref me_c, .int ((t.2 1 k).1 0), .int ((t.2 1 k).1 1), .int ((t.2 1 k).1 2), .int ((t.2 1 k).1 3), .int 1])), (me_c, .inr (6, [.ref gr_c, .int ((t.2 1 k).1 5)])), (gr_c, .inl (3, 4, .inr (.inl ((t.2 1 k).2.2.1))))]) rfl ?_
            refine y_aload_n d_Ip_breakUp_42 rfl 0 rfl ?_
            refine y_get fs_Ip_269 d_Ip_breakUp_43 (q0 := 3) rfl rfl ?_
            refine y_iret d_Ip_breakUp_46 rfl rfl ?_
            exact fun w1 h1 => ⟨rfl, (hI.gen1 (M := 1) (j := k) (v2 := (upd ((t.2 1 k).1) 4 1, (t.2 1 k).2)) (t2 := (zup t.1 [(47, (upd ((t.1 47).1) 0 ((t.1 47).1 0 + (t.2 1 k).1 5), (t.1 47).2.1, (t.1 47).2.2)), (48, ((t.1 48).1, lfd ((t.1 48).2.1) ((t.2 1 k).2.2.1) 4, (t.1 48).2.2))], vup t.2 1 k (upd ((t.2 1 k).1) 4 (1), (t.2 1 k).2))) (is := [0, 45, 46, 47, 48]) (L2 := [(u.2.2 1 k), me_c, gr_c]) (by decide) hk (Or.inr (Or.inl rfl)) h1 rfl ⟨kd_0.mpr rfl, kd_45.mpr rfl, kd_46.mpr rfl, kd_47.mpr rfl, kd_48.mpr rfl, trivial⟩ (by decide) (by decide) (List.forall_mem_cons.mpr ⟨nf_c, (List.forall_mem_cons.mpr ⟨nfm_c, (List.forall_mem_cons.mpr ⟨nfg_c, (fun _ h => nomatch h)⟩)⟩)⟩) (List.forall_mem_cons.mpr ⟨(Or.inl rfl), (List.forall_mem_cons.mpr ⟨(Or.inr ⟨_, hwm_c, h1.at (q0 := 6) rfl⟩), (List.forall_mem_cons.mpr ⟨(Or.inr ⟨_, hwg_c, h1.at (q0 := 7) rfl⟩), (fun _ h => nomatch h)⟩)⟩)⟩) (fun i hi hn => zup_out (fun q => hn ((by decide : ∀ j ∈ ([47, 48] : List Nat), j ∈ ([0, 45, 46, 47, 48] : List Nat)) i q))) (fun h => h) ⟨nf_c, me_c, gr_c, h1.at (q0 := 5) rfl, nfm_c, h1.at (q0 := 6) rfl, nfg_c, h1.at (q0 := 7) rfl⟩ rfl)⟩
set_option maxHeartbeats 4000000 in
set_option maxRecDepth 100000 in
theorem Qx_Ip_breakUpS {g : zG} {ad : Nat → Nat} {t : zTT} {u : zNN} {w : zW} (hI : IV g ad t u w) (k : Nat) (hk : k < u.1 1) (hE : ¬ ((t.2 1 k).1 3 = 0 ∧ (t.2 1 k).1 4 = 0)) : zMB g M_Ip_breakUp [.ref (ad 0), .int (nI k)] w (fun o w1 => o = .inr "java/lang/IllegalStateException" ∧ IV g ad t u w1) 3 18 := by
  obtain ⟨e_a, wf_a, k_a⟩ := hI.1.2 0 (by decide)
  obtain rfl := kd_0.mp k_a
  obtain ⟨e_gy, wf_gy, k_gy⟩ := hI.1.2 45 (by decide)
  obtain rfl := kd_45.mp k_gy
  obtain ⟨e_gyg, wf_gyg, k_gyg⟩ := hI.1.2 46 (by decide)
  obtain rfl := kd_46.mp k_gyg
  obtain ⟨e_du, wf_du, k_du⟩ := hI.1.2 47 (by decide)
  obtain rfl := kd_47.mp k_du
  obtain ⟨e_dug, wf_dug, k_dug⟩ := hI.1.2 48 (by decide)
  obtain rfl := kd_48.mp k_dug
  refine y_of (by decide) rfl (Nat.le_of_ble_eq_true rfl) (y_base (cs := [((ad 0), .inr (11, [.ref (ad 1), .ref (ad 5), .ref (ad 18), .ref (ad 31), .ref (ad 32), .ref (ad 36), .ref (ad 42), .ref (ad 45), .ref (ad 47), .ref (ad 49), .ref (ad 50), .ref (ad 51)])), ((ad 45), .inr (6, [.ref (ad 46), .int ((t.1 45).1 0)])), ((ad 46), .inl (3, 4, .inr (.inl ((t.1 46).2.1)))), ((ad 47), .inr (6, [.ref (ad 48), .int ((t.1 47).1 0)])), ((ad 48), .inl (3, 4, .inr (.inl ((t.1 48).2.1))))]) (hI.1.I [0, 45, 46, 47, 48] _ rfl (by decide) (by decide) (List.forall_mem_cons.mpr ⟨wf_a, (List.forall_mem_cons.mpr ⟨wf_gy, (List.forall_mem_cons.mpr ⟨wf_gyg, (List.forall_mem_cons.mpr ⟨wf_du, (List.forall_mem_cons.mpr ⟨wf_dug, (fun _ h => nomatch h)⟩)⟩)⟩)⟩)⟩)) ?_)
  refine y_lvE (lv2 := [(0, .ref (ad 0)), (1, .int (nI k))]) rfl ?_
  refine y_aload_n d_Ip_breakUp_0 rfl 0 rfl ?_
  refine y_iload_n d_Ip_breakUp_1 rfl 1 rfl ?_
  refine yw_callV (As := [.int (nI k)]) (rest := []) (q0 := 0) rfl rfl ln_Ip_436 w_im_Ip_castingAt w_se_Ip_castingAt ok_Ip_breakUp_Ip_castingAt d_Ip_breakUp_2 (fun wA hA => Q_castingAtN (hI.gen (t2 := t) (is := [0, 45, 46, 47, 48]) (L2 := []) hA rfl ⟨kd_0.mpr rfl, kd_45.mpr rfl, kd_46.mpr rfl, kd_47.mpr rfl, kd_48.mpr rfl, trivial⟩ (by decide) (by decide) (fun _ h => nomatch h) (fun _ h => nomatch h) (fun _ _ _ => rfl) (fun h => h) rfl) k hk) rfl rfl (Nat.le_of_ble_eq_true rfl) (by omega) (by omega) (fun wA2 hA2 E wB2 hx => ?_) (fun wA2 hA2 v wB2 hx => ?_)
  · exact absurd hx.1 (by simp)
  · obtain ⟨e1, e2⟩ := hx
    cases e1
    refine yw_st (st2 := [.ref (u.2.2 1 k)]) rfl ?_
    subst e2
    refine y_go hA2 ?_
    refine y_end (fun wC1 hC1 => ?_)
    have hI9 := (hI.gen (t2 := t) (is := [0, 45, 46, 47, 48]) (L2 := []) hC1 rfl ⟨kd_0.mpr rfl, kd_45.mpr rfl, kd_46.mpr rfl, kd_47.mpr rfl, kd_48.mpr rfl, trivial⟩ (by decide) (by decide) (fun _ h => nomatch h) (fun _ h => nomatch h) (fun _ _ _ => rfl) (fun h => h) rfl)
    have hI := hI9
    obtain ⟨nf_c, me_c, gr_c, hw_c, nfm_c, hwm_c, nfg_c, hwg_c⟩ := hI.2.1.2.1 1 (by decide) k hk
    refine y_base (cs := [((ad 0), .inr (11, [.ref (ad 1), .ref (ad 5), .ref (ad 18), .ref (ad 31), .ref (ad 32), .ref (ad 36), .ref (ad 42), .ref (ad 45), .ref (ad 47), .ref (ad 49), .ref (ad 50), .ref (ad 51)])), ((ad 45), .inr (6, [.ref (ad 46), .int ((t.1 45).1 0)])), ((ad 46), .inl (3, 4, .inr (.inl ((t.1 46).2.1)))), ((ad 47), .inr (6, [.ref (ad 48), .int ((t.1 47).1 0)])), ((ad 48), .inl (3, 4, .inr (.inl ((t.1 48).2.1)))), ((u.2.2 1 k), .inr (0, [.ref me_c, .int ((t.2 1 k).1 0), .int ((t.2 1 k).1 1), .int ((t.2 1 k).1 2), .int ((t.2 1 k).1 3), .int ((t.2 1 k).1 4)])), (me_c, .inr (6, [.ref gr_c, .int ((t.2 1 k).1 5)])), (gr_c, .inl (3, 4, .inr (.inl ((t.2 1 k).2.2.1))))]) (hI.1.B [0, 45, 46, 47, 48] [((ad 0), .inr (11, [.ref (ad 1), .ref (ad 5), .ref (ad 18), .ref (ad 31), .ref (ad 32), .ref (ad 36), .ref (ad 42), .ref (ad 45), .ref (ad 47), .ref (ad 49), .ref (ad 50), .ref (ad 51)])), ((ad 45), .inr (6, [.ref (ad 46), .int ((t.1 45).1 0)])), ((ad 46), .inl (3, 4, .inr (.inl ((t.1 46).2.1)))), ((ad 47), .inr (6, [.ref (ad 48), .int ((t.1 47).1 0)])), ((ad 48), .inl (3, 4, .inr (.inl ((t.1 48).2.1))))] [((u.2.2 1 k), .inr (0, [.ref me_c, .int ((t.2 1 k).1 0), .int ((t.2 1 k).1 1), .int ((t.2 1 k).1 2), .int ((t.2 1 k).1 3), .int ((t.2 1 k).1 4)])), (me_c, .inr (6, [.ref gr_c, .int ((t.2 1 k).1 5)])), (gr_c, .inl (3, 4, .inr (.inl ((t.2 1 k).2.2.1))))] rfl (by decide) (by decide) (List.forall_mem_cons.mpr ⟨hC1.at (q0 := 0) rfl, (List.forall_mem_cons.mpr ⟨hC1.at (q0 := 1) rfl, (List.forall_mem_cons.mpr ⟨hC1.at (q0 := 2) rfl, (List.forall_mem_cons.mpr ⟨hC1.at (q0 := 3) rfl, (List.forall_mem_cons.mpr ⟨hC1.at (q0 := 4) rfl, (fun _ h => nomatch h)⟩)⟩)⟩)⟩)⟩) (List.forall_mem_cons.mpr ⟨hw_c, (List.forall_mem_cons.mpr ⟨hwm_c, (List.forall_mem_cons.mpr ⟨hwg_c, (fun _ h => nomatch h)⟩)⟩)⟩) (List.forall_mem_cons.mpr ⟨nf_c, (List.forall_mem_cons.mpr ⟨nfm_c, (List.forall_mem_cons.mpr ⟨nfg_c, (fun _ h => nomatch h)⟩)⟩)⟩) (by simp [z_kd])) ?_
    refine y_astore_n (lv' := [(2, .ref (u.2.2 1 k)), (0, .ref (ad 0)), (1, .int (nI k))]) d_Ip_breakUp_5 rfl (by decide) rfl ?_
    refine y_aload_n d_Ip_breakUp_6 rfl 0 rfl ?_
    refine y_callS (As := [.ref (u.2.2 1 k)]) (rest := []) (csC := [((u.2.2 1 k), .inr (0, [.ref me_c, .int ((t.2 1 k).1 0), .int ((t.2 1 k).1 1), .int ((t.2 1 k).1 2), .int ((t.2 1 k).1 3), .int ((t.2 1 k).1 4)]))]) (is := [5]) ln_Ip_462 w_st_Ip_checkStands ok_Ip_breakUp_Ip_checkStands d_Ip_breakUp_7 (C_Ip_checkStandsE g (u.2.2 1 k) me_c ((t.2 1 k).1 0) ((t.2 1 k).1 1) ((t.2 1 k).1 2) ((t.2 1 k).1 3) ((t.2 1 k).1 4) hE) rfl rfl (Nat.le_of_ble_eq_true rfl) rfl (by decide) (by omega) (by omega) (fun E cs1 hx => ?_) (fun v cs1 hx => ?_)
    · obtain ⟨e1, rfl⟩ := hx
      cases e1
      exact ⟨rfl, fun w1 h1 => ⟨rfl, (hI.gen (t2 := t) (is := [0, 45, 46, 47, 48]) (L2 := [(u.2.2 1 k), me_c, gr_c]) h1 rfl ⟨kd_0.mpr rfl, kd_45.mpr rfl, kd_46.mpr rfl, kd_47.mpr rfl, kd_48.mpr rfl, trivial⟩ (by decide) (by decide) (List.forall_mem_cons.mpr ⟨nf_c, (List.forall_mem_cons.mpr ⟨nfm_c, (List.forall_mem_cons.mpr ⟨nfg_c, (fun _ h => nomatch h)⟩)⟩)⟩) (List.forall_mem_cons.mpr ⟨⟨_, hw_c, h1.at (q0 := 5) rfl⟩, (List.forall_mem_cons.mpr ⟨⟨_, hwm_c, h1.at (q0 := 6) rfl⟩, (List.forall_mem_cons.mpr ⟨⟨_, hwg_c, h1.at (q0 := 7) rfl⟩, (fun _ h => nomatch h)⟩)⟩)⟩) (fun _ _ _ => rfl) (fun h => h) rfl)⟩⟩
    · exact absurd hx.1 (by simp)
theorem d_Ip_minutes_42 : decode prog_1_method_28_code 42 = .ok (.aload_n 0, 1) := zo_42 (zd_b zq_prog_1_method_28_code_1 10 rfl rfl rfl)
theorem d_Ip_minutes_43 : decode prog_1_method_28_code 43 = .ok (.getfield 74, 3) := zo_180 (d := 0) (e := 74) (zd_b zq_prog_1_method_28_code_1 11 rfl rfl rfl) (zd_b zq_prog_1_method_28_code_1 12 rfl rfl rfl) (zd_b zq_prog_1_method_28_code_1 13 rfl rfl rfl)
theorem d_Ip_minutes_46 : decode prog_1_method_28_code 46 = .ok (.iload_n 2, 1) := zo_28 (zd_b zq_prog_1_method_28_code_1 14 rfl rfl rfl)
theorem d_Ip_minutes_47 : decode prog_1_method_28_code 47 = .ok (.invokevirtual 344, 3) := zo_182 (d := 1) (e := 88) (zd_b zq_prog_1_method_28_code_1 15 rfl rfl rfl) (zd_b zq_prog_1_method_28_code_1 16 rfl rfl rfl) (zd_b zq_prog_1_method_28_code_1 17 rfl rfl rfl)
theorem ok_Ip_minutes_AL_get : z_ok M_Ip_minutes M_AL_get 1 := ⟨z_mj2 (i := 180) rfl (by decide +kernel), rfl, ⟨by decide +kernel, by decide +kernel, by decide +kernel⟩, ⟨by decide, by decide⟩, z_mj1 (i := 13) rfl (by decide +kernel), rfl⟩
theorem d_Ip_minutes_50 : decode prog_1_method_28_code 50 = .ok (.checkcast 348, 3) := zo_192 (d := 1) (e := 92) (zd_b zq_prog_1_method_28_code_1 18 rfl rfl rfl) (zd_b zq_prog_1_method_28_code_1 19 rfl rfl rfl) (zd_b zq_prog_1_method_28_code_1 20 rfl rfl rfl)
theorem d_Ip_minutes_53 : decode prog_1_method_28_code 53 = .ok (.dup, 1) := zo_89 (zd_b zq_prog_1_method_28_code_1 21 rfl rfl rfl)
theorem d_Ip_minutes_54 : decode prog_1_method_28_code 54 = .ok (.getfield 350, 3) := zo_180 (d := 1) (e := 94) (zd_b zq_prog_1_method_28_code_1 22 rfl rfl rfl) (zd_b zq_prog_1_method_28_code_1 23 rfl rfl rfl) (zd_b zq_prog_1_method_28_code_1 24 rfl rfl rfl)
theorem d_Ip_minutes_57 : decode prog_1_method_28_code 57 = .ok (.iload_n 1, 1) := zo_27 (zd_b zq_prog_1_method_28_code_1 25 rfl rfl rfl)
theorem d_Ip_minutes_58 : decode prog_1_method_28_code 58 = .ok (.iadd, 1) := zo_96 (zd_b zq_prog_1_method_28_code_1 26 rfl rfl rfl)
theorem d_Ip_minutes_59 : decode prog_1_method_28_code 59 = .ok (.putfield 350, 3) := zo_181 (d := 1) (e := 94) (zd_b zq_prog_1_method_28_code_1 27 rfl rfl rfl) (zd_b zq_prog_1_method_28_code_1 28 rfl rfl rfl) (zd_b zq_prog_1_method_28_code_1 29 rfl rfl rfl)
theorem fp_Ip_350 : z_fp "Ironpour" 350 7 7 false .int := ⟨R_Mo, "Ironpour$Mould", F_Mo, 8, t_Mo, rfl, u_Mo, by decide, t_Mo_ok, n_Mo, rfl, rfl, Or.inr ⟨rfl, "Ironpour", z_mk6 (i := 13) rfl (by decide +kernel), rfl⟩⟩
theorem d_Ip_minutes_62 : decode prog_1_method_28_code 62 = .ok (.iinc 2 1, 3) := by decide +kernel
theorem d_Ip_minutes_65 : decode prog_1_method_28_code 65 = .ok (.goto (-34), 3) := zo_167 (d := 255) (e := 222) (zd_b zq_prog_1_method_28_code_2 1 rfl rfl rfl) (zd_b zq_prog_1_method_28_code_2 2 rfl rfl rfl) (zd_b zq_prog_1_method_28_code_2 3 rfl rfl rfl) (by decide +kernel)
set_option maxHeartbeats 4000000 in
set_option maxRecDepth 100000 in
theorem L_Qx_Ip_minutesN_31 (g : zG) {ad : Nat → Nat} {t : zTT} {u : zNN} {w : zW} (hI : IV g ad t u w) (m9 : Nat) (hm : m9 ≤ 60) (hw : 1 ≤ nI m9 ∧ nI m9 ≤ 60) : ∀ (d i : Nat) (w : zW), IV g ad (elT 0 (wtV9 (nI m9)) (fdT t m9) i) u w → i ≤ u.1 0 → u.1 0 < i + d → DW g M_Ip_minutes (fun o w1 => o = .inl (some (.int (if (t.1 43).1 0 = 0 then 0 else (if 20 < (t.1 42).1 0 - 4 * nI m9 then (t.1 42).1 0 - 4 * nI m9 else 20)))) ∧ IV g ad (elT 0 (wtV9 (nI m9)) (fdT t m9) (u.1 0)) u w1) w 31 [(2, .int (nI i)), (0, .ref (ad 0)), (1, .int (nI m9))] [] 1 6 := by
  have hI0 := hI
  clear hI
  intro d
  induction d with
  | zero => intro i w  hI h1 h2; exact absurd h2 (by omega)
  | succ d ih =>
    intro i w  hI h1 h2
    obtain ⟨e_a, wf_a, k_a⟩ := hI.1.2 0 (by decide)
    obtain rfl := kd_0.mp k_a
    obtain ⟨e_la, wf_la, k_la⟩ := hI.1.2 42 (by decide)
    obtain ⟨c_la_0, rfl⟩ := kd_42.mp k_la
    obtain ⟨e_lab, wf_lab, k_lab⟩ := hI.1.2 43 (by decide)
    obtain ⟨c_lab_0, rfl⟩ := kd_43.mp k_lab
    obtain ⟨e_labg, wf_labg, k_labg⟩ := hI.1.2 44 (by decide)
    obtain rfl := kd_44.mp k_labg
    have h33 := hI.n5 0 (by decide)
    refine y_base (hI.1.I [0, 42, 43, 44] [((ad 0), .inr (11, [.ref (ad 1), .ref (ad 5), .ref (ad 18), .ref (ad 31), .ref (ad 32), .ref (ad 36), .ref (ad 42), .ref (ad 45), .ref (ad 47), .ref (ad 49), .ref (ad 50), .ref (ad 51)])), ((ad 42), .inr (5, [.ref (ad 43), .int (((elT 0 (wtV9 (nI m9)) (fdT t m9) i).1 42).1 0), .int (((elT 0 (wtV9 (nI m9)) (fdT t m9) i).1 42).1 1), .int (((elT 0 (wtV9 (nI m9)) (fdT t m9) i).1 42).1 2)])), ((ad 43), .inr (6, [.ref (ad 44), .int (((elT 0 (wtV9 (nI m9)) (fdT t m9) i).1 43).1 0)])), ((ad 44), .inl (3, 4, .inr (.inl (((elT 0 (wtV9 (nI m9)) (fdT t m9) i).1 44).2.1))))] rfl (by decide) (by decide) (List.forall_mem_cons.mpr ⟨wf_a, (List.forall_mem_cons.mpr ⟨wf_la, (List.forall_mem_cons.mpr ⟨wf_lab, (List.forall_mem_cons.mpr ⟨wf_labg, (fun _ h => nomatch h)⟩)⟩)⟩)⟩)) ?_
    refine y_iload_n d_Ip_minutes_31 rfl 0 rfl ?_
    refine y_aload_n d_Ip_minutes_32 rfl 1 rfl ?_
    refine y_get fs_Ip_74 d_Ip_minutes_33 (q0 := 0) rfl rfl ?_
    refine yw_callVL (As := []) (rest := [.int (nI i)]) (ci := 13) rfl (fun wA hA => ((hI.gen (t2 := (elT 0 (wtV9 (nI m9)) (fdT t m9) i)) (is := [0, 42, 43, 44]) (L2 := []) hA rfl ⟨kd_0.mpr rfl, kd_42.mpr ⟨c_la_0, rfl⟩, kd_43.mpr ⟨c_lab_0, rfl⟩, kd_44.mpr rfl, trivial⟩ (by decide) (by decide) (fun _ h => nomatch h) (fun _ h => nomatch h) (fun _ _ _ => rfl) (fun h => h) rfl).2.1.1 0 (by decide)).ob) ln_Ip_341 w_im_AL_size w_se_AL_size ok_Ip_minutes_AL_size d_Ip_minutes_36 (fun wA hA => Q_size ((hI.gen (t2 := (elT 0 (wtV9 (nI m9)) (fdT t m9) i)) (is := [0, 42, 43, 44]) (L2 := []) hA rfl ⟨kd_0.mpr rfl, kd_42.mpr ⟨c_la_0, rfl⟩, kd_43.mpr ⟨c_lab_0, rfl⟩, kd_44.mpr rfl, trivial⟩ (by decide) (by decide) (fun _ h => nomatch h) (fun _ h => nomatch h) (fun _ _ _ => rfl) (fun h => h) rfl).2.1.1 0 (by decide))) rfl rfl (Nat.le_of_ble_eq_true rfl) (by omega) (by omega) (fun wA36 hA36 E wB36 hx => ?_) (fun wA36 hA36 v wB36 hx => ?_)
    · exact absurd hx.1 (by simp)
    · obtain ⟨e1, e2⟩ := hx
      cases e1
      refine yw_st (st2 := [.int (nI (u.1 0)), .int (nI i)]) rfl ?_
      subst e2
      refine y_go hA36 ?_
      refine y_icmp_ge (tgt := 68) d_Ip_minutes_39 (by decide) (fun c_39 => ?_) (fun c_39 => ?_)
      · have hn := z_le (a := (u.1 0)) (b := i) (by omega) (by omega) c_39
        obtain rfl : i = u.1 0 := by omega
        refine y_aload_n d_Ip_minutes_68 rfl 1 rfl ?_
        refine y_get fs_Ip_50 d_Ip_minutes_69 (q0 := 0) rfl rfl ?_
        refine y_callV (As := []) (rest := []) (csC := [((ad 42), .inr (5, [.ref (ad 43), .int (((elT 0 (wtV9 (nI m9)) (fdT t m9) (u.1 0)).1 42).1 0), .int (((elT 0 (wtV9 (nI m9)) (fdT t m9) (u.1 0)).1 42).1 1), .int (((elT 0 (wtV9 (nI m9)) (fdT t m9) (u.1 0)).1 42).1 2)])), ((ad 43), .inr (6, [.ref (ad 44), .int (((elT 0 (wtV9 (nI m9)) (fdT t m9) (u.1 0)).1 43).1 0)])), ((ad 44), .inl (3, 4, .inr (.inl (((elT 0 (wtV9 (nI m9)) (fdT t m9) (u.1 0)).1 44).2.1))))]) (is := [1, 2, 3]) (q0 := 1) rfl rfl ln_Ip_314 w_im_La_isEmpty w_se_La_isEmpty ok_Ip_minutes_La_isEmpty d_Ip_minutes_72 (C_La_isEmpty g (ad 42) (ad 43) (ad 44) (((elT 0 (wtV9 (nI m9)) (fdT t m9) (u.1 0)).1 44).2.1) (((elT 0 (wtV9 (nI m9)) (fdT t m9) (u.1 0)).1 42).1 0) (((elT 0 (wtV9 (nI m9)) (fdT t m9) (u.1 0)).1 42).1 1) (((elT 0 (wtV9 (nI m9)) (fdT t m9) (u.1 0)).1 42).1 2) (((elT 0 (wtV9 (nI m9)) (fdT t m9) (u.1 0)).1 43).1 0)) rfl rfl (Nat.le_of_ble_eq_true rfl) rfl (by decide) (by omega) (by omega) (fun E cs1 hx => ?_) (fun v cs1 hx => ?_)
        · exact absurd hx.1 (by simp)
        · obtain ⟨e1, rfl⟩ := hx
          cases e1
          refine ⟨rfl, ?_⟩
          refine y_st (st2 := [.int (if (((elT 0 (wtV9 (nI m9)) (fdT t m9) (u.1 0)).1 43).1 0) = 0 then 1 else 0)]) rfl ?_
          refine y_cs (cs2 := [((ad 0), .inr (11, [.ref (ad 1), .ref (ad 5), .ref (ad 18), .ref (ad 31), .ref (ad 32), .ref (ad 36), .ref (ad 42), .ref (ad 45), .ref (ad 47), .ref (ad 49), .ref (ad 50), .ref (ad 51)])), ((ad 42), .inr (5, [.ref (ad 43), .int (((elT 0 (wtV9 (nI m9)) (fdT t m9) (u.1 0)).1 42).1 0), .int (((elT 0 (wtV9 (nI m9)) (fdT t m9) (u.1 0)).1 42).1 1), .int (((elT 0 (wtV9 (nI m9)) (fdT t m9) (u.1 0)).1 42).1 2)])), ((ad 43), .inr (6, [.ref (ad 44), .int (((elT 0 (wtV9 (nI m9)) (fdT t m9) (u.1 0)).1 43).1 0)])), ((ad 44), .inl (3, 4, .inr (.inl (((elT 0 (wtV9 (nI m9)) (fdT t m9) (u.1 0)).1 44).2.1))))]) rfl ?_
          refine y_if_eq (tgt := 82) d_Ip_minutes_75 (by decide) (fun c_75 => ?_) (fun c_75 => ?_)
          · refine y_aload_n d_Ip_minutes_82 rfl 1 rfl ?_
            refine y_get fs_Ip_50 d_Ip_minutes_83 (q0 := 0) rfl rfl ?_
            refine y_get fs_Ip_353 d_Ip_minutes_86 (q0 := 1) rfl rfl ?_
            refine y_iret d_Ip_minutes_89 rfl rfl ?_
            exact fun w1 h1 => ⟨by first | exact congrArg (fun x : Int32 => (.inl (some (.int x)) : zO)) (if_pos (show (t.1 43).1 0 = 0 from z_b1 c_75)).symm | exact congrArg (fun x : Int32 => (.inl (some (.int x)) : zO)) (if_neg (show ¬ (t.1 43).1 0 = 0 from z_b0 c_75)).symm, (hI.gen (t2 := (elT 0 (wtV9 (nI m9)) (fdT t m9) (u.1 0))) (is := [0, 42, 43, 44]) (L2 := []) h1 rfl ⟨kd_0.mpr rfl, kd_42.mpr ⟨c_la_0, rfl⟩, kd_43.mpr ⟨c_lab_0, rfl⟩, kd_44.mpr rfl, trivial⟩ (by decide) (by decide) (fun _ h => nomatch h) (fun _ h => nomatch h) (fun _ _ _ => rfl) (fun h => h) rfl)⟩
          · refine y_iconst d_Ip_minutes_78 (v := 0) (by decide) ?_
            refine y_goto (tgt := 89) d_Ip_minutes_79 (by decide) ?_
            refine y_iret d_Ip_minutes_89 rfl rfl ?_
            exact fun w1 h1 => ⟨by first | exact congrArg (fun x : Int32 => (.inl (some (.int x)) : zO)) (if_pos (show (t.1 43).1 0 = 0 from z_b1 c_75)).symm | exact congrArg (fun x : Int32 => (.inl (some (.int x)) : zO)) (if_neg (show ¬ (t.1 43).1 0 = 0 from z_b0 c_75)).symm, (hI.gen (t2 := (elT 0 (wtV9 (nI m9)) (fdT t m9) (u.1 0))) (is := [0, 42, 43, 44]) (L2 := []) h1 rfl ⟨kd_0.mpr rfl, kd_42.mpr ⟨c_la_0, rfl⟩, kd_43.mpr ⟨c_lab_0, rfl⟩, kd_44.mpr rfl, trivial⟩ (by decide) (by decide) (fun _ h => nomatch h) (fun _ h => nomatch h) (fun _ _ _ => rfl) (fun h => h) rfl)⟩
      · have hn := z_nle (a := (u.1 0)) (b := i) (by omega) (by omega) c_39
        refine y_aload_n d_Ip_minutes_42 rfl 1 rfl ?_
        refine y_get fs_Ip_74 d_Ip_minutes_43 (q0 := 0) rfl rfl ?_
        refine y_iload_n d_Ip_minutes_46 rfl 0 rfl ?_
        refine yw_callVL (As := [.int (nI i)]) (rest := []) (ci := 13) rfl (fun wA hA => ((hI.gen (t2 := (elT 0 (wtV9 (nI m9)) (fdT t m9) i)) (is := [0, 42, 43, 44]) (L2 := []) hA rfl ⟨kd_0.mpr rfl, kd_42.mpr ⟨c_la_0, rfl⟩, kd_43.mpr ⟨c_lab_0, rfl⟩, kd_44.mpr rfl, trivial⟩ (by decide) (by decide) (fun _ h => nomatch h) (fun _ h => nomatch h) (fun _ _ _ => rfl) (fun h => h) rfl).2.1.1 0 (by decide)).ob) ln_Ip_344 w_im_AL_get w_se_AL_get ok_Ip_minutes_AL_get d_Ip_minutes_47 (fun wA hA => Q_get ((hI.gen (t2 := (elT 0 (wtV9 (nI m9)) (fdT t m9) i)) (is := [0, 42, 43, 44]) (L2 := []) hA rfl ⟨kd_0.mpr rfl, kd_42.mpr ⟨c_la_0, rfl⟩, kd_43.mpr ⟨c_lab_0, rfl⟩, kd_44.mpr rfl, trivial⟩ (by decide) (by decide) (fun _ h => nomatch h) (fun _ h => nomatch h) (fun _ _ _ => rfl) (fun h => h) rfl).2.1.1 0 (by decide)) hn) rfl rfl (Nat.le_of_ble_eq_true rfl) (by omega) (by omega) (fun wA47 hA47 E wB47 hx => ?_) (fun wA47 hA47 v wB47 hx => ?_)
        · exact absurd hx.1 (by simp)
        · obtain ⟨e1, e2⟩ := hx
          cases e1
          refine yw_st (st2 := [.ref (u.2.2 0 i)]) rfl ?_
          subst e2
          refine y_go hA47 ?_
          refine y_end (fun wC1 hC1 => ?_)
          have hI9 := (hI.gen (t2 := (elT 0 (wtV9 (nI m9)) (fdT t m9) i)) (is := [0, 42, 43, 44]) (L2 := []) hC1 rfl ⟨kd_0.mpr rfl, kd_42.mpr ⟨c_la_0, rfl⟩, kd_43.mpr ⟨c_lab_0, rfl⟩, kd_44.mpr rfl, trivial⟩ (by decide) (by decide) (fun _ h => nomatch h) (fun _ h => nomatch h) (fun _ _ _ => rfl) (fun h => h) rfl)
          have hI := hI9
          obtain ⟨nf_d, c_d, hw_d, hx_d, nfc_d, hwc_d, hch_d⟩ := hI.2.1.2.1 0 (by decide) i hn
          refine y_base (cs := [((ad 0), .inr (11, [.ref (ad 1), .ref (ad 5), .ref (ad 18), .ref (ad 31), .ref (ad 32), .ref (ad 36), .ref (ad 42), .ref (ad 45), .ref (ad 47), .ref (ad 49), .ref (ad 50), .ref (ad 51)])), ((ad 42), .inr (5, [.ref (ad 43), .int (((elT 0 (wtV9 (nI m9)) (fdT t m9) i).1 42).1 0), .int (((elT 0 (wtV9 (nI m9)) (fdT t m9) i).1 42).1 1), .int (((elT 0 (wtV9 (nI m9)) (fdT t m9) i).1 42).1 2)])), ((ad 43), .inr (6, [.ref (ad 44), .int (((elT 0 (wtV9 (nI m9)) (fdT t m9) i).1 43).1 0)])), ((ad 44), .inl (3, 4, .inr (.inl (((elT 0 (wtV9 (nI m9)) (fdT t m9) i).1 44).2.1)))), ((u.2.2 0 i), .inr (7, [.ref c_d, .int (nI (((elT 0 (wtV9 (nI m9)) (fdT t m9) i).2 0 i).2.2.2 0)), .int (((elT 0 (wtV9 (nI m9)) (fdT t m9) i).2 0 i).1 0), .int (((elT 0 (wtV9 (nI m9)) (fdT t m9) i).2 0 i).1 1), .int (((elT 0 (wtV9 (nI m9)) (fdT t m9) i).2 0 i).1 2), .int (((elT 0 (wtV9 (nI m9)) (fdT t m9) i).2 0 i).1 3), .int (((elT 0 (wtV9 (nI m9)) (fdT t m9) i).2 0 i).1 4), .int (((elT 0 (wtV9 (nI m9)) (fdT t m9) i).2 0 i).1 5)])), (c_d, .inl (1, 108, .inl (((elT 0 (wtV9 (nI m9)) (fdT t m9) i).2 0 i).2.1)))]) (z_I.kd (List.forall_mem_cons.mpr ⟨hC1.at (q0 := 0) rfl, (List.forall_mem_cons.mpr ⟨hC1.at (q0 := 1) rfl, (List.forall_mem_cons.mpr ⟨hC1.at (q0 := 2) rfl, (List.forall_mem_cons.mpr ⟨hC1.at (q0 := 3) rfl, (List.forall_mem_cons.mpr ⟨hw_d, (List.forall_mem_cons.mpr ⟨hwc_d, (fun _ h => nomatch h)⟩)⟩)⟩)⟩)⟩)⟩) (by simp [z_kd])) ?_
          refine y_castO lk_Ip_348 d_Ip_minutes_50 (q0 := 4) rfl rfl ?_
          refine y_dup d_Ip_minutes_53 rfl ?_
          refine y_get fs_Ip_350 d_Ip_minutes_54 (q0 := 4) rfl rfl ?_
          refine y_iload_n d_Ip_minutes_57 rfl 2 rfl ?_
          refine y_iadd d_Ip_minutes_58 (v := (((elT 0 (wtV9 (nI m9)) (fdT t m9) i).2 0 i).1 5) + (nI m9)) rfl ?_
          refine y_put fp_Ip_350 d_Ip_minutes_59 (fun h => nomatch h) rfl rfl (q0 := 4) rfl (Nat.le_of_ble_eq_true rfl) (cs' := [((ad 0), .inr (11, [.ref (ad 1), .ref (ad 5), .ref (ad 18), .ref (ad 31), .ref (ad 32), .ref (ad 36), .ref (ad 42), .ref (ad 45), .ref (ad 47), .ref (ad 49), .ref (ad 50), .ref (ad 51)])), ((ad 42), .inr (5, [.ref (ad 43), .int (((elT 0 (wtV9 (nI m9)) (fdT t m9) i).1 42).1 0), .int (((elT 0 (wtV9 (nI m9)) (fdT t m9) i).1 42).1 1), .int (((elT 0 (wtV9 (nI m9)) (fdT t m9) i).1 42).1 2)])), ((ad 43), .inr (6, [.ref (ad 44), .int (((elT 0 (wtV9 (nI m9)) (fdT t m9) i).1 43).1 0)])), ((ad 44), .inl (3, 4, .inr (.inl (((elT 0 (wtV9 (nI m9)) (fdT t m9) i).1 44).2.1)))), ((u.2.2 0 i), .inr (7, [.ref c_d, .int (nI (((elT 0 (wtV9 (nI m9)) (fdT t m9) i).2 0 i).2.2.2 0)), .int (((elT 0 (wtV9 (nI m9)) (fdT t m9) i).2 0 i).1 0), .int (((elT 0 (wtV9 (nI m9)) (fdT t m9) i).2 0 i).1 1), .int (((elT 0 (wtV9 (nI m9)) (fdT t m9) i).2 0 i).1 2), .int (((elT 0 (wtV9 (nI m9)) (fdT t m9) i).2 0 i).1 3), .int (((elT 0 (wtV9 (nI m9)) (fdT t m9) i).2 0 i).1 4), .int ((((elT 0 (wtV9 (nI m9)) (fdT t m9) i).2 0 i).1 5) + (nI m9))])), (c_d, .inl (1, 108, .inl (((elT 0 (wtV9 (nI m9)) (fdT t m9) i).2 0 i).2.1)))]) rfl ?_
          refine y_iinc (lv' := [(2, .int (nI (i + 1))), (0, .ref (ad 0)), (1, .int (nI m9))]) (v := nI (i + 1)) d_Ip_minutes_62 (j := 0) rfl (nI_add _ _) (by decide) rfl ?_
          refine y_goto (tgt := 31) d_Ip_minutes_65 (by decide) ?_
          refine y_end (fun wC2 hC2 => ?_)
          have hI9 : IV g ad (elT 0 (wtV9 (nI m9)) (fdT t m9) (i + 1)) u wC2 := Eq.mp (congrArg (fun T => IV g ad T u wC2) (show ((elT 0 (wtV9 (nI m9)) (fdT t m9) i).1, vup (elT 0 (wtV9 (nI m9)) (fdT t m9) i).2 0 i (upd (((elT 0 (wtV9 (nI m9)) (fdT t m9) i).2 0 i).1) 5 ((((elT 0 (wtV9 (nI m9)) (fdT t m9) i).2 0 i).1 5) + (nI m9)), ((elT 0 (wtV9 (nI m9)) (fdT t m9) i).2 0 i).2)) = elT 0 (wtV9 (nI m9)) (fdT t m9) (i + 1) from elT_s _ _ _ _)) (hI.gen1 (M := 0) (j := i) (v2 := (upd (((elT 0 (wtV9 (nI m9)) (fdT t m9) i).2 0 i).1) 5 ((((elT 0 (wtV9 (nI m9)) (fdT t m9) i).2 0 i).1 5) + (nI m9)), ((elT 0 (wtV9 (nI m9)) (fdT t m9) i).2 0 i).2)) (t2 := ((elT 0 (wtV9 (nI m9)) (fdT t m9) i).1, vup (elT 0 (wtV9 (nI m9)) (fdT t m9) i).2 0 i (upd (((elT 0 (wtV9 (nI m9)) (fdT t m9) i).2 0 i).1) 5 ((((elT 0 (wtV9 (nI m9)) (fdT t m9) i).2 0 i).1 5) + (nI m9)), ((elT 0 (wtV9 (nI m9)) (fdT t m9) i).2 0 i).2))) (is := [0, 42, 43, 44]) (L2 := [(u.2.2 0 i), c_d]) (by decide) hn (Or.inl rfl) hC2 rfl ⟨kd_0.mpr rfl, kd_42.mpr ⟨c_la_0, rfl⟩, kd_43.mpr ⟨c_lab_0, rfl⟩, kd_44.mpr rfl, trivial⟩ (by decide) (by decide) (List.forall_mem_cons.mpr ⟨nf_d, (List.forall_mem_cons.mpr ⟨nfc_d, (fun _ h => nomatch h)⟩)⟩) (List.forall_mem_cons.mpr ⟨(Or.inl rfl), (List.forall_mem_cons.mpr ⟨(Or.inr ⟨_, hwc_d, hC2.at (q0 := 5) rfl⟩), (fun _ h => nomatch h)⟩)⟩) (fun _ _ _ => rfl) (fun h => h) ⟨nf_d, c_d, hC2.at (q0 := 4) rfl, hx_d, nfc_d, hC2.at (q0 := 5) rfl, hch_d⟩ rfl)
          exact ih (i + 1) _  hI9 (by omega) (by omega)
set_option maxHeartbeats 4000000 in
set_option maxRecDepth 100000 in
theorem Qx_Ip_minutesN {g : zG} {ad : Nat → Nat} {t : zTT} {u : zNN} {w : zW} (hI : IV g ad t u w) (m9 : Nat) (hm : m9 ≤ 60) (hw : 1 ≤ nI m9 ∧ nI m9 ≤ 60) : zMB g M_Ip_minutes [.ref (ad 0), .int (nI m9)] w (fun o w1 => o = .inl (some (.int (if (t.1 43).1 0 = 0 then 0 else (if 20 < (t.1 42).1 0 - 4 * nI m9 then (t.1 42).1 0 - 4 * nI m9 else 20)))) ∧ IV g ad (elT 0 (wtV9 (nI m9)) (fdT t m9) (u.1 0)) u w1) 1 6 := by
  obtain ⟨e_a, wf_a, k_a⟩ := hI.1.2 0 (by decide)
  obtain rfl := kd_0.mp k_a
  obtain ⟨e_la, wf_la, k_la⟩ := hI.1.2 42 (by decide)
  obtain ⟨c_la_0, rfl⟩ := kd_42.mp k_la
  obtain ⟨e_lab, wf_lab, k_lab⟩ := hI.1.2 43 (by decide)
  obtain ⟨c_lab_0, rfl⟩ := kd_43.mp k_lab
  obtain ⟨e_labg, wf_labg, k_labg⟩ := hI.1.2 44 (by decide)
  obtain rfl := kd_44.mp k_labg
  have hI0 := hI
  refine y_of (by decide) rfl (Nat.le_of_ble_eq_true rfl) (y_base (cs := [((ad 0), .inr (11, [.ref (ad 1), .ref (ad 5), .ref (ad 18), .ref (ad 31), .ref (ad 32), .ref (ad 36), .ref (ad 42), .ref (ad 45), .ref (ad 47), .ref (ad 49), .ref (ad 50), .ref (ad 51)])), ((ad 42), .inr (5, [.ref (ad 43), .int ((t.1 42).1 0), .int ((t.1 42).1 1), .int ((t.1 42).1 2)])), ((ad 43), .inr (6, [.ref (ad 44), .int ((t.1 43).1 0)])), ((ad 44), .inl (3, 4, .inr (.inl ((t.1 44).2.1))))]) (hI.1.I [0, 42, 43, 44] _ rfl (by decide) (by decide) (List.forall_mem_cons.mpr ⟨wf_a, (List.forall_mem_cons.mpr ⟨wf_la, (List.forall_mem_cons.mpr ⟨wf_lab, (List.forall_mem_cons.mpr ⟨wf_labg, (fun _ h => nomatch h)⟩)⟩)⟩)⟩)) ?_)
  refine y_lvE (lv2 := [(0, .ref (ad 0)), (1, .int (nI m9))]) rfl ?_
  refine y_iload_n d_Ip_minutes_0 rfl 1 rfl ?_
  refine y_iconst d_Ip_minutes_1 (v := 1) (by decide) ?_
  refine y_bipush d_Ip_minutes_2 (v := 60) (by decide) ?_
  refine y_callS (As := [.int (nI m9), .int 1, .int 60]) (rest := []) (csC := []) (is := []) ln_Ip_203 w_st_Ip_isWithin ok_Ip_minutes_Ip_isWithin d_Ip_minutes_4 (C_Ip_isWithin g (nI m9) 1 60) rfl rfl (Nat.le_of_ble_eq_true rfl) rfl (by decide) (by omega) (by omega) (fun E cs1 hx => ?_) (fun v cs1 hx => ?_)
  · exact absurd hx.1 (by simp)
  · obtain ⟨e1, rfl⟩ := hx
    rw [if_pos hw] at e1
    cases e1
    refine ⟨rfl, ?_⟩
    refine y_st (st2 := [.int 1]) rfl ?_
    refine y_cs (cs2 := [((ad 0), .inr (11, [.ref (ad 1), .ref (ad 5), .ref (ad 18), .ref (ad 31), .ref (ad 32), .ref (ad 36), .ref (ad 42), .ref (ad 45), .ref (ad 47), .ref (ad 49), .ref (ad 50), .ref (ad 51)])), ((ad 42), .inr (5, [.ref (ad 43), .int ((t.1 42).1 0), .int ((t.1 42).1 1), .int ((t.1 42).1 2)])), ((ad 43), .inr (6, [.ref (ad 44), .int ((t.1 43).1 0)])), ((ad 44), .inl (3, 4, .inr (.inl ((t.1 44).2.1))))]) rfl ?_
    refine y_if_ne (tgt := 21) d_Ip_minutes_7 (by decide) (fun c_7 => ?_) (fun c_7 => ?_)
    · refine y_aload_n d_Ip_minutes_21 rfl 0 rfl ?_
      refine y_get fs_Ip_50 d_Ip_minutes_22 (q0 := 0) rfl rfl ?_
      refine y_iload_n d_Ip_minutes_25 rfl 1 rfl ?_
      refine y_callV (As := [.int (nI m9)]) (rest := []) (csC := [((ad 42), .inr (5, [.ref (ad 43), .int ((t.1 42).1 0), .int ((t.1 42).1 1), .int ((t.1 42).1 2)])), ((ad 43), .inr (6, [.ref (ad 44), .int ((t.1 43).1 0)])), ((ad 44), .inl (3, 4, .inr (.inl ((t.1 44).2.1))))]) (is := [1, 2, 3]) (q0 := 1) rfl rfl ln_Ip_338 w_im_La_fadeFor w_se_La_fadeFor ok_Ip_minutes_La_fadeFor d_Ip_minutes_26 (C_La_fadeFor g (ad 42) (ad 43) (ad 44) ((t.1 44).2.1) ((t.1 42).1 0) ((t.1 42).1 1) ((t.1 42).1 2) ((t.1 43).1 0) m9 (Nat.lt_of_le_of_lt hm (by decide))) rfl rfl (Nat.le_of_ble_eq_true rfl) rfl (by decide) (by omega) (by omega) (fun E cs1 hx => ?_) (fun v cs1 hx => ?_)
      · exact absurd hx.1 (by simp)
      · obtain ⟨e1, rfl⟩ := hx
        cases e1
        refine ⟨rfl, ?_⟩
        refine y_st (st2 := []) rfl ?_
        refine y_cs (cs2 := [((ad 0), .inr (11, [.ref (ad 1), .ref (ad 5), .ref (ad 18), .ref (ad 31), .ref (ad 32), .ref (ad 36), .ref (ad 42), .ref (ad 45), .ref (ad 47), .ref (ad 49), .ref (ad 50), .ref (ad 51)])), ((ad 42), .inr (5, [.ref (ad 43), .int (if 20 < ((t.1 42).1 0) - 4 * nI m9 then ((t.1 42).1 0) - 4 * nI m9 else 20), .int (mgS ((t.1 42).1 1) m9), .int ((t.1 42).1 2)])), ((ad 43), .inr (6, [.ref (ad 44), .int ((t.1 43).1 0)])), ((ad 44), .inl (3, 4, .inr (.inl ((t.1 44).2.1))))]) rfl ?_
        refine y_iconst d_Ip_minutes_29 (v := 0) (by decide) ?_
        refine y_istore_n (lv' := [(2, .int 0), (0, .ref (ad 0)), (1, .int (nI m9))]) d_Ip_minutes_30 rfl (by decide) rfl ?_
        refine y_end (fun wC3 hC3 => ?_)
        have hI9 : IV g ad (elT 0 (wtV9 (nI m9)) (fdT t m9) 0) u wC3 := Eq.mp (congrArg (fun T => IV g ad T u wC3) (show (zup t.1 [(42, ((upd (upd ((t.1 42).1) 0 (if 20 < ((t.1 42).1 0) - 4 * nI m9 then ((t.1 42).1 0) - 4 * nI m9 else 20)) 1 (mgS ((t.1 42).1 1) m9)), (t.1 42).2.1, (t.1 42).2.2))], t.2) = elT 0 (wtV9 (nI m9)) (fdT t m9) 0 from elT_0 _ _ _)) (hI.gen (t2 := (zup t.1 [(42, ((upd (upd ((t.1 42).1) 0 (if 20 < ((t.1 42).1 0) - 4 * nI m9 then ((t.1 42).1 0) - 4 * nI m9 else 20)) 1 (mgS ((t.1 42).1 1) m9)), (t.1 42).2.1, (t.1 42).2.2))], t.2)) (is := [0, 42, 43, 44]) (L2 := []) hC3 rfl ⟨kd_0.mpr rfl, kd_42.mpr ⟨c_la_0, rfl⟩, kd_43.mpr ⟨c_lab_0, rfl⟩, kd_44.mpr rfl, trivial⟩ (by decide) (by decide) (fun _ h => nomatch h) (fun _ h => nomatch h) (fun i hi hn => zup_out (fun q => hn ((by decide : ∀ j ∈ ([42] : List Nat), j ∈ ([0, 42, 43, 44] : List Nat)) i q))) (fun h => h) rfl)
        exact L_Qx_Ip_minutesN_31 g hI0 m9 hm hw (u.1 0 + 1) 0 _  hI9 (Nat.zero_le _) (by omega)
    · exact absurd c_7 (by decide)
theorem d_Ip_isSound_66 : decode prog_1_method_51_code 66 = .ok (.iconst 0, 1) := zo_3 (zd_b zq_prog_1_method_51_code_2 2 rfl rfl rfl)
theorem d_Ip_isSound_24 : decode prog_1_method_51_code 24 = .ok (.iconst 0, 1) := zo_3 (zd_b zq_prog_1_method_51_code_0 24 rfl rfl rfl)
theorem d_Ip_isSound_25 : decode prog_1_method_51_code 25 = .ok (.ireturn, 1) := zo_172 (zd_b zq_prog_1_method_51_code_0 25 rfl rfl rfl)
theorem d_Ip_isSound_7 : decode prog_1_method_51_code 7 = .ok (.iconst 0, 1) := zo_3 (zd_b zq_prog_1_method_51_code_0 7 rfl rfl rfl)
theorem d_Ip_isSound_8 : decode prog_1_method_51_code 8 = .ok (.ireturn, 1) := zo_172 (zd_b zq_prog_1_method_51_code_0 8 rfl rfl rfl)
set_option maxHeartbeats 4000000 in
set_option maxRecDepth 100000 in
theorem L_Qx_Ip_isSound_11 (g : zG) {ad : Nat → Nat} {t : zTT} {u : zNN} {w : zW} (hI : IV g ad t u w) : ∀ (d i : Nat), i ≤ 4 → 4 < i + d → DW g M_Ip_isSound (fun o w1 => zri [] o ∧ IVm g ad t u w1) w 11 [(1, .int (nI i)), (0, .ref (ad 0))] [] 0 0 := by
  intro d
  induction d with
  | zero => intro i  h1 h2 ; exact absurd h2 (by omega)
  | succ d ih =>
    intro i  h1 h2 
    obtain ⟨e_a, wf_a, k_a⟩ := hI.1.2 0 (by decide)
    obtain rfl := kd_0.mp k_a
    obtain ⟨e_ta, wf_ta, k_ta⟩ := hI.1.2 5 (by decide)
    obtain rfl := kd_5.mp k_ta
    obtain ⟨e_ta1, wf_ta1, k_ta1⟩ := hI.1.2 6 (by decide)
    obtain rfl := kd_6.mp k_ta1
    obtain ⟨e_ta2, wf_ta2, k_ta2⟩ := hI.1.2 7 (by decide)
    obtain rfl := kd_7.mp k_ta2
    obtain ⟨e_taz, wf_taz, k_taz⟩ := hI.1.2 8 (by decide)
    obtain rfl := kd_8.mp k_taz
    obtain ⟨e_taz1, wf_taz1, k_taz1⟩ := hI.1.2 9 (by decide)
    obtain rfl := kd_9.mp k_taz1
    obtain ⟨e_taz2, wf_taz2, k_taz2⟩ := hI.1.2 10 (by decide)
    obtain rfl := kd_10.mp k_taz2
    obtain ⟨e_taz3, wf_taz3, k_taz3⟩ := hI.1.2 11 (by decide)
    obtain rfl := kd_11.mp k_taz3
    obtain ⟨e_taz4, wf_taz4, k_taz4⟩ := hI.1.2 12 (by decide)
    obtain rfl := kd_12.mp k_taz4
    obtain ⟨e_taz5, wf_taz5, k_taz5⟩ := hI.1.2 13 (by decide)
    obtain rfl := kd_13.mp k_taz5
    obtain ⟨e_taz6, wf_taz6, k_taz6⟩ := hI.1.2 14 (by decide)
    obtain rfl := kd_14.mp k_taz6
    obtain ⟨e_ta4, wf_ta4, k_ta4⟩ := hI.1.2 15 (by decide)
    obtain ⟨c_ta4_0, rfl⟩ := kd_15.mp k_ta4
    obtain ⟨e_ta5, wf_ta5, k_ta5⟩ := hI.1.2 16 (by decide)
    obtain rfl := kd_16.mp k_ta5
    obtain ⟨e_ta6, wf_ta6, k_ta6⟩ := hI.1.2 17 (by decide)
    obtain rfl := kd_17.mp k_ta6
    have hJ := hI.1.I [0, 5, 6, 7, 8, 9, 10, 11, 12, 13, 14, 15, 16, 17] [((ad 0), .inr (11, [.ref (ad 1), .ref (ad 5), .ref (ad 18), .ref (ad 31), .ref (ad 32), .ref (ad 36), .ref (ad 42), .ref (ad 45), .ref (ad 47), .ref (ad 49), .ref (ad 50), .ref (ad 51)])), ((ad 5), .inr (10, [.ref (ad 6), .ref (ad 7), .ref (ad 8), .ref (ad 15), .ref (ad 16), .ref (ad 17), .int ((t.1 5).1 0), .int ((t.1 5).1 1)])), ((ad 6), .inl (1, 108, .inl ((t.1 6).1))), ((ad 7), .inl (0, 108, .inl ((t.1 7).1))), ((ad 8), .inr (2, [.ref (ad 9), .ref (ad 10), .ref (ad 11), .ref (ad 12), .ref (ad 13), .ref (ad 14), .int ((t.1 8).1 0)])), ((ad 9), .inl (0, 108, .inl ((t.1 9).1))), ((ad 10), .inl (0, 108, .inl ((t.1 10).1))), ((ad 11), .inl (0, 108, .inl ((t.1 11).1))), ((ad 12), .inl (0, 108, .inl ((t.1 12).1))), ((ad 13), .inl (0, 108, .inl ((t.1 13).1))), ((ad 14), .inl (0, 108, .inl ((t.1 14).1))), ((ad 15), .inl (2, 108, .inl ((t.1 15).1))), ((ad 16), .inl (2, 108, .inl ((t.1 16).1))), ((ad 17), .inl (0, 108, .inl (fun k => nI (((t.1 17).2.2) k))))] rfl (by decide) (by decide) (List.forall_mem_cons.mpr ⟨wf_a, (List.forall_mem_cons.mpr ⟨wf_ta, (List.forall_mem_cons.mpr ⟨wf_ta1, (List.forall_mem_cons.mpr ⟨wf_ta2, (List.forall_mem_cons.mpr ⟨wf_taz, (List.forall_mem_cons.mpr ⟨wf_taz1, (List.forall_mem_cons.mpr ⟨wf_taz2, (List.forall_mem_cons.mpr ⟨wf_taz3, (List.forall_mem_cons.mpr ⟨wf_taz4, (List.forall_mem_cons.mpr ⟨wf_taz5, (List.forall_mem_cons.mpr ⟨wf_taz6, (List.forall_mem_cons.mpr ⟨wf_ta4, (List.forall_mem_cons.mpr ⟨wf_ta5, (List.forall_mem_cons.mpr ⟨wf_ta6, (fun _ h => nomatch h)⟩)⟩)⟩)⟩)⟩)⟩)⟩)⟩)⟩)⟩)⟩)⟩)⟩)⟩)
    refine y_base hJ ?_
    refine y_iload_n d_Ip_isSound_11 rfl 0 rfl ?_
    refine y_iconst d_Ip_isSound_12 (v := 4) (by decide) ?_
    refine y_icmp_ge (tgt := 32) d_Ip_isSound_13 (by decide) (fun c_13 => ?_) (fun c_13 => ?_)
    · have hn := z_le (a := 4) (by omega) (by decide) c_13
      obtain rfl : i = 4 := by omega
      refine y_aload_n d_Ip_isSound_32 rfl 1 rfl ?_
      refine y_get fs_Ip_19 d_Ip_isSound_33 (q0 := 0) rfl rfl ?_
      refine y_sipush d_Ip_isSound_36 (v := 1450) (by decide) ?_
      refine y_callV (As := [.int 1450]) (rest := []) (csC := [((ad 5), .inr (10, [.ref (ad 6), .ref (ad 7), .ref (ad 8), .ref (ad 15), .ref (ad 16), .ref (ad 17), .int ((t.1 5).1 0), .int ((t.1 5).1 1)])), ((ad 6), .inl (1, 108, .inl ((t.1 6).1))), ((ad 7), .inl (0, 108, .inl ((t.1 7).1))), ((ad 8), .inr (2, [.ref (ad 9), .ref (ad 10), .ref (ad 11), .ref (ad 12), .ref (ad 13), .ref (ad 14), .int ((t.1 8).1 0)])), ((ad 9), .inl (0, 108, .inl ((t.1 9).1))), ((ad 10), .inl (0, 108, .inl ((t.1 10).1))), ((ad 11), .inl (0, 108, .inl ((t.1 11).1))), ((ad 12), .inl (0, 108, .inl ((t.1 12).1))), ((ad 13), .inl (0, 108, .inl ((t.1 13).1))), ((ad 14), .inl (0, 108, .inl ((t.1 14).1))), ((ad 15), .inl (2, 108, .inl ((t.1 15).1))), ((ad 16), .inl (2, 108, .inl ((t.1 16).1))), ((ad 17), .inl (0, 108, .inl (fun k => nI (((t.1 17).2.2) k))))]) (is := [1, 2, 3, 4, 5, 6, 7, 8, 9, 10, 11, 12, 13]) (q0 := 1) rfl rfl ln_Ip_162 w_im_Tr_freeze w_se_Tr_freeze ok_Ip_isSound_Tr_freeze d_Ip_isSound_39 (X_freeze g (ad 5) (ad 6) (ad 7) (ad 8) (ad 9) (ad 10) (ad 11) (ad 12) (ad 13) (ad 14) (ad 15) (ad 16) (ad 17) 1450 (((t.1 6).1, (t.1 7).1, (t.1 5).1 0, (t.1 5).1 1), ((((t.1 9).1, (t.1 11).1, (t.1 12).1, (t.1 8).1 0), (t.1 10).1), (t.1 13).1, (t.1 14).1), ((t.1 15).1, (t.1 16).1, ((t.1 17).2.2)))) rfl rfl (Nat.le_of_ble_eq_true rfl) rfl (by decide) (by omega) (by omega) (fun E cs1 hx => ?_) (fun v cs1 hx => ?_)
      · exact absurd hx.1 (by simp)
      · obtain ⟨e1, rfl⟩ := hx
        cases e1
        refine ⟨rfl, ?_⟩
        refine y_st (st2 := []) rfl ?_
        refine y_cs (cs2 := [((ad 0), .inr (11, [.ref (ad 1), .ref (ad 5), .ref (ad 18), .ref (ad 31), .ref (ad 32), .ref (ad 36), .ref (ad 42), .ref (ad 45), .ref (ad 47), .ref (ad 49), .ref (ad 50), .ref (ad 51)])), ((ad 5), .inr (10, [.ref (ad 6), .ref (ad 7), .ref (ad 8), .ref (ad 15), .ref (ad 16), .ref (ad 17), .int ((frT 1450 (((t.1 6).1, (t.1 7).1, (t.1 5).1 0, (t.1 5).1 1), ((((t.1 9).1, (t.1 11).1, (t.1 12).1, (t.1 8).1 0), (t.1 10).1), (t.1 13).1, (t.1 14).1), ((t.1 15).1, (t.1 16).1, ((t.1 17).2.2)))).1.2.2.1), .int ((frT 1450 (((t.1 6).1, (t.1 7).1, (t.1 5).1 0, (t.1 5).1 1), ((((t.1 9).1, (t.1 11).1, (t.1 12).1, (t.1 8).1 0), (t.1 10).1), (t.1 13).1, (t.1 14).1), ((t.1 15).1, (t.1 16).1, ((t.1 17).2.2)))).1.2.2.2)])), ((ad 6), .inl (1, 108, .inl ((frT 1450 (((t.1 6).1, (t.1 7).1, (t.1 5).1 0, (t.1 5).1 1), ((((t.1 9).1, (t.1 11).1, (t.1 12).1, (t.1 8).1 0), (t.1 10).1), (t.1 13).1, (t.1 14).1), ((t.1 15).1, (t.1 16).1, ((t.1 17).2.2)))).1.1))), ((ad 7), .inl (0, 108, .inl ((frT 1450 (((t.1 6).1, (t.1 7).1, (t.1 5).1 0, (t.1 5).1 1), ((((t.1 9).1, (t.1 11).1, (t.1 12).1, (t.1 8).1 0), (t.1 10).1), (t.1 13).1, (t.1 14).1), ((t.1 15).1, (t.1 16).1, ((t.1 17).2.2)))).1.2.1))), ((ad 8), .inr (2, [.ref (ad 9), .ref (ad 10), .ref (ad 11), .ref (ad 12), .ref (ad 13), .ref (ad 14), .int ((frT 1450 (((t.1 6).1, (t.1 7).1, (t.1 5).1 0, (t.1 5).1 1), ((((t.1 9).1, (t.1 11).1, (t.1 12).1, (t.1 8).1 0), (t.1 10).1), (t.1 13).1, (t.1 14).1), ((t.1 15).1, (t.1 16).1, ((t.1 17).2.2)))).2.1.1.1.2.2.2)])), ((ad 9), .inl (0, 108, .inl ((frT 1450 (((t.1 6).1, (t.1 7).1, (t.1 5).1 0, (t.1 5).1 1), ((((t.1 9).1, (t.1 11).1, (t.1 12).1, (t.1 8).1 0), (t.1 10).1), (t.1 13).1, (t.1 14).1), ((t.1 15).1, (t.1 16).1, ((t.1 17).2.2)))).2.1.1.1.1))), ((ad 10), .inl (0, 108, .inl ((frT 1450 (((t.1 6).1, (t.1 7).1, (t.1 5).1 0, (t.1 5).1 1), ((((t.1 9).1, (t.1 11).1, (t.1 12).1, (t.1 8).1 0), (t.1 10).1), (t.1 13).1, (t.1 14).1), ((t.1 15).1, (t.1 16).1, ((t.1 17).2.2)))).2.1.1.2))), ((ad 11), .inl (0, 108, .inl ((frT 1450 (((t.1 6).1, (t.1 7).1, (t.1 5).1 0, (t.1 5).1 1), ((((t.1 9).1, (t.1 11).1, (t.1 12).1, (t.1 8).1 0), (t.1 10).1), (t.1 13).1, (t.1 14).1), ((t.1 15).1, (t.1 16).1, ((t.1 17).2.2)))).2.1.1.1.2.1))), ((ad 12), .inl (0, 108, .inl ((frT 1450 (((t.1 6).1, (t.1 7).1, (t.1 5).1 0, (t.1 5).1 1), ((((t.1 9).1, (t.1 11).1, (t.1 12).1, (t.1 8).1 0), (t.1 10).1), (t.1 13).1, (t.1 14).1), ((t.1 15).1, (t.1 16).1, ((t.1 17).2.2)))).2.1.1.1.2.2.1))), ((ad 13), .inl (0, 108, .inl ((frT 1450 (((t.1 6).1, (t.1 7).1, (t.1 5).1 0, (t.1 5).1 1), ((((t.1 9).1, (t.1 11).1, (t.1 12).1, (t.1 8).1 0), (t.1 10).1), (t.1 13).1, (t.1 14).1), ((t.1 15).1, (t.1 16).1, ((t.1 17).2.2)))).2.1.2.1))), ((ad 14), .inl (0, 108, .inl ((frT 1450 (((t.1 6).1, (t.1 7).1, (t.1 5).1 0, (t.1 5).1 1), ((((t.1 9).1, (t.1 11).1, (t.1 12).1, (t.1 8).1 0), (t.1 10).1), (t.1 13).1, (t.1 14).1), ((t.1 15).1, (t.1 16).1, ((t.1 17).2.2)))).2.1.2.2))), ((ad 15), .inl (2, 108, .inl ((frT 1450 (((t.1 6).1, (t.1 7).1, (t.1 5).1 0, (t.1 5).1 1), ((((t.1 9).1, (t.1 11).1, (t.1 12).1, (t.1 8).1 0), (t.1 10).1), (t.1 13).1, (t.1 14).1), ((t.1 15).1, (t.1 16).1, ((t.1 17).2.2)))).2.2.1))), ((ad 16), .inl (2, 108, .inl ((frT 1450 (((t.1 6).1, (t.1 7).1, (t.1 5).1 0, (t.1 5).1 1), ((((t.1 9).1, (t.1 11).1, (t.1 12).1, (t.1 8).1 0), (t.1 10).1), (t.1 13).1, (t.1 14).1), ((t.1 15).1, (t.1 16).1, ((t.1 17).2.2)))).2.2.2.1))), ((ad 17), .inl (0, 108, .inl (fun k => nI ((frT 1450 (((t.1 6).1, (t.1 7).1, (t.1 5).1 0, (t.1 5).1 1), ((((t.1 9).1, (t.1 11).1, (t.1 12).1, (t.1 8).1 0), (t.1 10).1), (t.1 13).1, (t.1 14).1), ((t.1 15).1, (t.1 16).1, ((t.1 17).2.2)))).2.2.2.2 k))))]) rfl ?_
        refine y_aload_n d_Ip_isSound_42 rfl 1 rfl ?_
        refine y_get fs_Ip_19 d_Ip_isSound_43 (q0 := 0) rfl rfl ?_
        refine y_callV (As := []) (rest := []) (csC := [((ad 5), .inr (10, [.ref (ad 6), .ref (ad 7), .ref (ad 8), .ref (ad 15), .ref (ad 16), .ref (ad 17), .int ((frT 1450 (((t.1 6).1, (t.1 7).1, (t.1 5).1 0, (t.1 5).1 1), ((((t.1 9).1, (t.1 11).1, (t.1 12).1, (t.1 8).1 0), (t.1 10).1), (t.1 13).1, (t.1 14).1), ((t.1 15).1, (t.1 16).1, ((t.1 17).2.2)))).1.2.2.1), .int ((frT 1450 (((t.1 6).1, (t.1 7).1, (t.1 5).1 0, (t.1 5).1 1), ((((t.1 9).1, (t.1 11).1, (t.1 12).1, (t.1 8).1 0), (t.1 10).1), (t.1 13).1, (t.1 14).1), ((t.1 15).1, (t.1 16).1, ((t.1 17).2.2)))).1.2.2.2)])), ((ad 6), .inl (1, 108, .inl ((frT 1450 (((t.1 6).1, (t.1 7).1, (t.1 5).1 0, (t.1 5).1 1), ((((t.1 9).1, (t.1 11).1, (t.1 12).1, (t.1 8).1 0), (t.1 10).1), (t.1 13).1, (t.1 14).1), ((t.1 15).1, (t.1 16).1, ((t.1 17).2.2)))).1.1))), ((ad 7), .inl (0, 108, .inl ((frT 1450 (((t.1 6).1, (t.1 7).1, (t.1 5).1 0, (t.1 5).1 1), ((((t.1 9).1, (t.1 11).1, (t.1 12).1, (t.1 8).1 0), (t.1 10).1), (t.1 13).1, (t.1 14).1), ((t.1 15).1, (t.1 16).1, ((t.1 17).2.2)))).1.2.1))), ((ad 8), .inr (2, [.ref (ad 9), .ref (ad 10), .ref (ad 11), .ref (ad 12), .ref (ad 13), .ref (ad 14), .int ((frT 1450 (((t.1 6).1, (t.1 7).1, (t.1 5).1 0, (t.1 5).1 1), ((((t.1 9).1, (t.1 11).1, (t.1 12).1, (t.1 8).1 0), (t.1 10).1), (t.1 13).1, (t.1 14).1), ((t.1 15).1, (t.1 16).1, ((t.1 17).2.2)))).2.1.1.1.2.2.2)])), ((ad 12), .inl (0, 108, .inl ((frT 1450 (((t.1 6).1, (t.1 7).1, (t.1 5).1 0, (t.1 5).1 1), ((((t.1 9).1, (t.1 11).1, (t.1 12).1, (t.1 8).1 0), (t.1 10).1), (t.1 13).1, (t.1 14).1), ((t.1 15).1, (t.1 16).1, ((t.1 17).2.2)))).2.1.1.1.2.2.1))), ((ad 15), .inl (2, 108, .inl ((frT 1450 (((t.1 6).1, (t.1 7).1, (t.1 5).1 0, (t.1 5).1 1), ((((t.1 9).1, (t.1 11).1, (t.1 12).1, (t.1 8).1 0), (t.1 10).1), (t.1 13).1, (t.1 14).1), ((t.1 15).1, (t.1 16).1, ((t.1 17).2.2)))).2.2.1))), ((ad 16), .inl (2, 108, .inl ((frT 1450 (((t.1 6).1, (t.1 7).1, (t.1 5).1 0, (t.1 5).1 1), ((((t.1 9).1, (t.1 11).1, (t.1 12).1, (t.1 8).1 0), (t.1 10).1), (t.1 13).1, (t.1 14).1), ((t.1 15).1, (t.1 16).1, ((t.1 17).2.2)))).2.2.2.1))), ((ad 17), .inl (0, 108, .inl (fun k => nI ((frT 1450 (((t.1 6).1, (t.1 7).1, (t.1 5).1 0, (t.1 5).1 1), ((((t.1 9).1, (t.1 11).1, (t.1 12).1, (t.1 8).1 0), (t.1 10).1), (t.1 13).1, (t.1 14).1), ((t.1 15).1, (t.1 16).1, ((t.1 17).2.2)))).2.2.2.2 k))))]) (is := [1, 2, 3, 4, 8, 11, 12, 13]) (q0 := 1) rfl rfl ln_Ip_503 w_im_Tr_isFilledInOrder w_se_Tr_isFilledInOrder ok_Ip_isSound_Tr_isFilledInOrder d_Ip_isSound_46 (C_Tr_isFilledInOrder g (ad 5) (ad 6) (ad 7) (ad 8) (ad 9) (ad 10) (ad 11) (ad 12) (ad 13) (ad 14) (ad 15) (ad 16) (ad 17) ((frT 1450 (((t.1 6).1, (t.1 7).1, (t.1 5).1 0, (t.1 5).1 1), ((((t.1 9).1, (t.1 11).1, (t.1 12).1, (t.1 8).1 0), (t.1 10).1), (t.1 13).1, (t.1 14).1), ((t.1 15).1, (t.1 16).1, ((t.1 17).2.2)))).1.2.2.1) ((frT 1450 (((t.1 6).1, (t.1 7).1, (t.1 5).1 0, (t.1 5).1 1), ((((t.1 9).1, (t.1 11).1, (t.1 12).1, (t.1 8).1 0), (t.1 10).1), (t.1 13).1, (t.1 14).1), ((t.1 15).1, (t.1 16).1, ((t.1 17).2.2)))).1.2.2.2) ((frT 1450 (((t.1 6).1, (t.1 7).1, (t.1 5).1 0, (t.1 5).1 1), ((((t.1 9).1, (t.1 11).1, (t.1 12).1, (t.1 8).1 0), (t.1 10).1), (t.1 13).1, (t.1 14).1), ((t.1 15).1, (t.1 16).1, ((t.1 17).2.2)))).2.1.1.1.2.2.2) ((frT 1450 (((t.1 6).1, (t.1 7).1, (t.1 5).1 0, (t.1 5).1 1), ((((t.1 9).1, (t.1 11).1, (t.1 12).1, (t.1 8).1 0), (t.1 10).1), (t.1 13).1, (t.1 14).1), ((t.1 15).1, (t.1 16).1, ((t.1 17).2.2)))).1.1) ((frT 1450 (((t.1 6).1, (t.1 7).1, (t.1 5).1 0, (t.1 5).1 1), ((((t.1 9).1, (t.1 11).1, (t.1 12).1, (t.1 8).1 0), (t.1 10).1), (t.1 13).1, (t.1 14).1), ((t.1 15).1, (t.1 16).1, ((t.1 17).2.2)))).1.2.1) ((frT 1450 (((t.1 6).1, (t.1 7).1, (t.1 5).1 0, (t.1 5).1 1), ((((t.1 9).1, (t.1 11).1, (t.1 12).1, (t.1 8).1 0), (t.1 10).1), (t.1 13).1, (t.1 14).1), ((t.1 15).1, (t.1 16).1, ((t.1 17).2.2)))).2.1.1.1.2.2.1) ((frT 1450 (((t.1 6).1, (t.1 7).1, (t.1 5).1 0, (t.1 5).1 1), ((((t.1 9).1, (t.1 11).1, (t.1 12).1, (t.1 8).1 0), (t.1 10).1), (t.1 13).1, (t.1 14).1), ((t.1 15).1, (t.1 16).1, ((t.1 17).2.2)))).2.2.1) ((frT 1450 (((t.1 6).1, (t.1 7).1, (t.1 5).1 0, (t.1 5).1 1), ((((t.1 9).1, (t.1 11).1, (t.1 12).1, (t.1 8).1 0), (t.1 10).1), (t.1 13).1, (t.1 14).1), ((t.1 15).1, (t.1 16).1, ((t.1 17).2.2)))).2.2.2.1) ((frT 1450 (((t.1 6).1, (t.1 7).1, (t.1 5).1 0, (t.1 5).1 1), ((((t.1 9).1, (t.1 11).1, (t.1 12).1, (t.1 8).1 0), (t.1 10).1), (t.1 13).1, (t.1 14).1), ((t.1 15).1, (t.1 16).1, ((t.1 17).2.2)))).2.2.2.2)) rfl rfl (Nat.le_of_ble_eq_true rfl) rfl (by decide) (by omega) (by omega) (fun E cs1 hx => ?_) (fun v cs1 hx => ?_)
        · exact absurd hx.1 (by simp)
        · obtain ⟨e1, rfl⟩ := hx
          cases e1
          refine ⟨rfl, ?_⟩
          refine y_st (st2 := [.int (z_bi (!anB (ioP ((frT 1450 (((t.1 6).1, (t.1 7).1, (t.1 5).1 0, (t.1 5).1 1), ((((t.1 9).1, (t.1 11).1, (t.1 12).1, (t.1 8).1 0), (t.1 10).1), (t.1 13).1, (t.1 14).1), ((t.1 15).1, (t.1 16).1, ((t.1 17).2.2)))).1.2.1)) 108))]) rfl ?_
          refine y_cs (cs2 := [((ad 0), .inr (11, [.ref (ad 1), .ref (ad 5), .ref (ad 18), .ref (ad 31), .ref (ad 32), .ref (ad 36), .ref (ad 42), .ref (ad 45), .ref (ad 47), .ref (ad 49), .ref (ad 50), .ref (ad 51)])), ((ad 5), .inr (10, [.ref (ad 6), .ref (ad 7), .ref (ad 8), .ref (ad 15), .ref (ad 16), .ref (ad 17), .int ((frT 1450 (((t.1 6).1, (t.1 7).1, (t.1 5).1 0, (t.1 5).1 1), ((((t.1 9).1, (t.1 11).1, (t.1 12).1, (t.1 8).1 0), (t.1 10).1), (t.1 13).1, (t.1 14).1), ((t.1 15).1, (t.1 16).1, ((t.1 17).2.2)))).1.2.2.1), .int ((frT 1450 (((t.1 6).1, (t.1 7).1, (t.1 5).1 0, (t.1 5).1 1), ((((t.1 9).1, (t.1 11).1, (t.1 12).1, (t.1 8).1 0), (t.1 10).1), (t.1 13).1, (t.1 14).1), ((t.1 15).1, (t.1 16).1, ((t.1 17).2.2)))).1.2.2.2)])), ((ad 6), .inl (1, 108, .inl ((frT 1450 (((t.1 6).1, (t.1 7).1, (t.1 5).1 0, (t.1 5).1 1), ((((t.1 9).1, (t.1 11).1, (t.1 12).1, (t.1 8).1 0), (t.1 10).1), (t.1 13).1, (t.1 14).1), ((t.1 15).1, (t.1 16).1, ((t.1 17).2.2)))).1.1))), ((ad 7), .inl (0, 108, .inl ((frT 1450 (((t.1 6).1, (t.1 7).1, (t.1 5).1 0, (t.1 5).1 1), ((((t.1 9).1, (t.1 11).1, (t.1 12).1, (t.1 8).1 0), (t.1 10).1), (t.1 13).1, (t.1 14).1), ((t.1 15).1, (t.1 16).1, ((t.1 17).2.2)))).1.2.1))), ((ad 8), .inr (2, [.ref (ad 9), .ref (ad 10), .ref (ad 11), .ref (ad 12), .ref (ad 13), .ref (ad 14), .int ((frT 1450 (((t.1 6).1, (t.1 7).1, (t.1 5).1 0, (t.1 5).1 1), ((((t.1 9).1, (t.1 11).1, (t.1 12).1, (t.1 8).1 0), (t.1 10).1), (t.1 13).1, (t.1 14).1), ((t.1 15).1, (t.1 16).1, ((t.1 17).2.2)))).2.1.1.1.2.2.2)])), ((ad 9), .inl (0, 108, .inl ((frT 1450 (((t.1 6).1, (t.1 7).1, (t.1 5).1 0, (t.1 5).1 1), ((((t.1 9).1, (t.1 11).1, (t.1 12).1, (t.1 8).1 0), (t.1 10).1), (t.1 13).1, (t.1 14).1), ((t.1 15).1, (t.1 16).1, ((t.1 17).2.2)))).2.1.1.1.1))), ((ad 10), .inl (0, 108, .inl ((frT 1450 (((t.1 6).1, (t.1 7).1, (t.1 5).1 0, (t.1 5).1 1), ((((t.1 9).1, (t.1 11).1, (t.1 12).1, (t.1 8).1 0), (t.1 10).1), (t.1 13).1, (t.1 14).1), ((t.1 15).1, (t.1 16).1, ((t.1 17).2.2)))).2.1.1.2))), ((ad 11), .inl (0, 108, .inl ((frT 1450 (((t.1 6).1, (t.1 7).1, (t.1 5).1 0, (t.1 5).1 1), ((((t.1 9).1, (t.1 11).1, (t.1 12).1, (t.1 8).1 0), (t.1 10).1), (t.1 13).1, (t.1 14).1), ((t.1 15).1, (t.1 16).1, ((t.1 17).2.2)))).2.1.1.1.2.1))), ((ad 12), .inl (0, 108, .inl ((frT 1450 (((t.1 6).1, (t.1 7).1, (t.1 5).1 0, (t.1 5).1 1), ((((t.1 9).1, (t.1 11).1, (t.1 12).1, (t.1 8).1 0), (t.1 10).1), (t.1 13).1, (t.1 14).1), ((t.1 15).1, (t.1 16).1, ((t.1 17).2.2)))).2.1.1.1.2.2.1))), ((ad 13), .inl (0, 108, .inl ((frT 1450 (((t.1 6).1, (t.1 7).1, (t.1 5).1 0, (t.1 5).1 1), ((((t.1 9).1, (t.1 11).1, (t.1 12).1, (t.1 8).1 0), (t.1 10).1), (t.1 13).1, (t.1 14).1), ((t.1 15).1, (t.1 16).1, ((t.1 17).2.2)))).2.1.2.1))), ((ad 14), .inl (0, 108, .inl ((frT 1450 (((t.1 6).1, (t.1 7).1, (t.1 5).1 0, (t.1 5).1 1), ((((t.1 9).1, (t.1 11).1, (t.1 12).1, (t.1 8).1 0), (t.1 10).1), (t.1 13).1, (t.1 14).1), ((t.1 15).1, (t.1 16).1, ((t.1 17).2.2)))).2.1.2.2))), ((ad 15), .inl (2, 108, .inl ((frT 1450 (((t.1 6).1, (t.1 7).1, (t.1 5).1 0, (t.1 5).1 1), ((((t.1 9).1, (t.1 11).1, (t.1 12).1, (t.1 8).1 0), (t.1 10).1), (t.1 13).1, (t.1 14).1), ((t.1 15).1, (t.1 16).1, ((t.1 17).2.2)))).2.2.1))), ((ad 16), .inl (2, 108, .inl ((frT 1450 (((t.1 6).1, (t.1 7).1, (t.1 5).1 0, (t.1 5).1 1), ((((t.1 9).1, (t.1 11).1, (t.1 12).1, (t.1 8).1 0), (t.1 10).1), (t.1 13).1, (t.1 14).1), ((t.1 15).1, (t.1 16).1, ((t.1 17).2.2)))).2.2.2.1))), ((ad 17), .inl (0, 108, .inl (fun k => nI (((frT 1450 (((t.1 6).1, (t.1 7).1, (t.1 5).1 0, (t.1 5).1 1), ((((t.1 9).1, (t.1 11).1, (t.1 12).1, (t.1 8).1 0), (t.1 10).1), (t.1 13).1, (t.1 14).1), ((t.1 15).1, (t.1 16).1, ((t.1 17).2.2)))).2.2.2.2) k))))]) rfl ?_
          refine y_if_eq (tgt := 66) d_Ip_isSound_49 (by decide) (fun c_49 => ?_) (fun c_49 => ?_)
          · refine y_iconst d_Ip_isSound_66 (v := 0) (by decide) ?_
            refine y_iret d_Ip_isSound_67 rfl rfl ?_
            exact fun w1 h1 => ⟨Or.inl ⟨_, rfl⟩, IVm.tw (hI.gen (t2 := (zup t.1 [(5, ((upd (upd ((t.1 5).1) 0 ((frT 1450 (((t.1 6).1, (t.1 7).1, (t.1 5).1 0, (t.1 5).1 1), ((((t.1 9).1, (t.1 11).1, (t.1 12).1, (t.1 8).1 0), (t.1 10).1), (t.1 13).1, (t.1 14).1), ((t.1 15).1, (t.1 16).1, ((t.1 17).2.2)))).1.2.2.1)) 1 ((frT 1450 (((t.1 6).1, (t.1 7).1, (t.1 5).1 0, (t.1 5).1 1), ((((t.1 9).1, (t.1 11).1, (t.1 12).1, (t.1 8).1 0), (t.1 10).1), (t.1 13).1, (t.1 14).1), ((t.1 15).1, (t.1 16).1, ((t.1 17).2.2)))).1.2.2.2)), (t.1 5).2.1, (t.1 5).2.2)), (6, (((frT 1450 (((t.1 6).1, (t.1 7).1, (t.1 5).1 0, (t.1 5).1 1), ((((t.1 9).1, (t.1 11).1, (t.1 12).1, (t.1 8).1 0), (t.1 10).1), (t.1 13).1, (t.1 14).1), ((t.1 15).1, (t.1 16).1, ((t.1 17).2.2)))).1.1), (t.1 6).2)), (7, (((frT 1450 (((t.1 6).1, (t.1 7).1, (t.1 5).1 0, (t.1 5).1 1), ((((t.1 9).1, (t.1 11).1, (t.1 12).1, (t.1 8).1 0), (t.1 10).1), (t.1 13).1, (t.1 14).1), ((t.1 15).1, (t.1 16).1, ((t.1 17).2.2)))).1.2.1), (t.1 7).2)), (8, ((upd ((t.1 8).1) 0 ((frT 1450 (((t.1 6).1, (t.1 7).1, (t.1 5).1 0, (t.1 5).1 1), ((((t.1 9).1, (t.1 11).1, (t.1 12).1, (t.1 8).1 0), (t.1 10).1), (t.1 13).1, (t.1 14).1), ((t.1 15).1, (t.1 16).1, ((t.1 17).2.2)))).2.1.1.1.2.2.2)), (t.1 8).2.1, (t.1 8).2.2)), (9, ((frT 1450 (((t.1 6).1, (t.1 7).1, (t.1 5).1 0, (t.1 5).1 1), ((((t.1 9).1, (t.1 11).1, (t.1 12).1, (t.1 8).1 0), (t.1 10).1), (t.1 13).1, (t.1 14).1), ((t.1 15).1, (t.1 16).1, ((t.1 17).2.2)))).2.1.1.1.1, (t.1 9).2)), (10, ((frT 1450 (((t.1 6).1, (t.1 7).1, (t.1 5).1 0, (t.1 5).1 1), ((((t.1 9).1, (t.1 11).1, (t.1 12).1, (t.1 8).1 0), (t.1 10).1), (t.1 13).1, (t.1 14).1), ((t.1 15).1, (t.1 16).1, ((t.1 17).2.2)))).2.1.1.2, (t.1 10).2)), (11, ((frT 1450 (((t.1 6).1, (t.1 7).1, (t.1 5).1 0, (t.1 5).1 1), ((((t.1 9).1, (t.1 11).1, (t.1 12).1, (t.1 8).1 0), (t.1 10).1), (t.1 13).1, (t.1 14).1), ((t.1 15).1, (t.1 16).1, ((t.1 17).2.2)))).2.1.1.1.2.1, (t.1 11).2)), (12, (((frT 1450 (((t.1 6).1, (t.1 7).1, (t.1 5).1 0, (t.1 5).1 1), ((((t.1 9).1, (t.1 11).1, (t.1 12).1, (t.1 8).1 0), (t.1 10).1), (t.1 13).1, (t.1 14).1), ((t.1 15).1, (t.1 16).1, ((t.1 17).2.2)))).2.1.1.1.2.2.1), (t.1 12).2)), (13, ((frT 1450 (((t.1 6).1, (t.1 7).1, (t.1 5).1 0, (t.1 5).1 1), ((((t.1 9).1, (t.1 11).1, (t.1 12).1, (t.1 8).1 0), (t.1 10).1), (t.1 13).1, (t.1 14).1), ((t.1 15).1, (t.1 16).1, ((t.1 17).2.2)))).2.1.2.1, (t.1 13).2)), (14, ((frT 1450 (((t.1 6).1, (t.1 7).1, (t.1 5).1 0, (t.1 5).1 1), ((((t.1 9).1, (t.1 11).1, (t.1 12).1, (t.1 8).1 0), (t.1 10).1), (t.1 13).1, (t.1 14).1), ((t.1 15).1, (t.1 16).1, ((t.1 17).2.2)))).2.1.2.2, (t.1 14).2)), (15, (((frT 1450 (((t.1 6).1, (t.1 7).1, (t.1 5).1 0, (t.1 5).1 1), ((((t.1 9).1, (t.1 11).1, (t.1 12).1, (t.1 8).1 0), (t.1 10).1), (t.1 13).1, (t.1 14).1), ((t.1 15).1, (t.1 16).1, ((t.1 17).2.2)))).2.2.1), (t.1 15).2)), (16, (((frT 1450 (((t.1 6).1, (t.1 7).1, (t.1 5).1 0, (t.1 5).1 1), ((((t.1 9).1, (t.1 11).1, (t.1 12).1, (t.1 8).1 0), (t.1 10).1), (t.1 13).1, (t.1 14).1), ((t.1 15).1, (t.1 16).1, ((t.1 17).2.2)))).2.2.2.1), (t.1 16).2)), (17, ((t.1 17).1, (t.1 17).2.1, ((frT 1450 (((t.1 6).1, (t.1 7).1, (t.1 5).1 0, (t.1 5).1 1), ((((t.1 9).1, (t.1 11).1, (t.1 12).1, (t.1 8).1 0), (t.1 10).1), (t.1 13).1, (t.1 14).1), ((t.1 15).1, (t.1 16).1, ((t.1 17).2.2)))).2.2.2.2)))], t.2)) (is := [0, 5, 6, 7, 8, 9, 10, 11, 12, 13, 14, 15, 16, 17]) (L2 := []) h1 rfl ⟨kd_0.mpr rfl, kd_5.mpr rfl, kd_6.mpr rfl, kd_7.mpr rfl, kd_8.mpr rfl, kd_9.mpr rfl, kd_10.mpr rfl, kd_11.mpr rfl, kd_12.mpr rfl, kd_13.mpr rfl, kd_14.mpr rfl, kd_15.mpr ⟨(frT_01 (h := 1450) (X := (((t.1 6).1, (t.1 7).1, (t.1 5).1 0, (t.1 5).1 1), ((((t.1 9).1, (t.1 11).1, (t.1 12).1, (t.1 8).1 0), (t.1 10).1), (t.1 13).1, (t.1 14).1), ((t.1 15).1, (t.1 16).1, ((t.1 17).2.2)))) c_ta4_0), rfl⟩, kd_16.mpr rfl, kd_17.mpr rfl, trivial⟩ (by decide) (by decide) (fun _ h => nomatch h) (fun _ h => nomatch h) (fun i hi hn => zup_out (fun q => hn ((by decide : ∀ j ∈ ([5, 6, 7, 8, 9, 10, 11, 12, 13, 14, 15, 16, 17] : List Nat), j ∈ ([0, 5, 6, 7, 8, 9, 10, 11, 12, 13, 14, 15, 16, 17] : List Nat)) i q))) (fun h => h) rfl) (tx_all rfl)⟩
          · refine y_aload_n d_Ip_isSound_52 rfl 1 rfl ?_
            refine y_get fs_Ip_19 d_Ip_isSound_53 (q0 := 0) rfl rfl ?_
            refine y_callV (As := []) (rest := []) (csC := [((ad 5), .inr (10, [.ref (ad 6), .ref (ad 7), .ref (ad 8), .ref (ad 15), .ref (ad 16), .ref (ad 17), .int ((frT 1450 (((t.1 6).1, (t.1 7).1, (t.1 5).1 0, (t.1 5).1 1), ((((t.1 9).1, (t.1 11).1, (t.1 12).1, (t.1 8).1 0), (t.1 10).1), (t.1 13).1, (t.1 14).1), ((t.1 15).1, (t.1 16).1, ((t.1 17).2.2)))).1.2.2.1), .int ((frT 1450 (((t.1 6).1, (t.1 7).1, (t.1 5).1 0, (t.1 5).1 1), ((((t.1 9).1, (t.1 11).1, (t.1 12).1, (t.1 8).1 0), (t.1 10).1), (t.1 13).1, (t.1 14).1), ((t.1 15).1, (t.1 16).1, ((t.1 17).2.2)))).1.2.2.2)])), ((ad 6), .inl (1, 108, .inl ((frT 1450 (((t.1 6).1, (t.1 7).1, (t.1 5).1 0, (t.1 5).1 1), ((((t.1 9).1, (t.1 11).1, (t.1 12).1, (t.1 8).1 0), (t.1 10).1), (t.1 13).1, (t.1 14).1), ((t.1 15).1, (t.1 16).1, ((t.1 17).2.2)))).1.1))), ((ad 7), .inl (0, 108, .inl ((frT 1450 (((t.1 6).1, (t.1 7).1, (t.1 5).1 0, (t.1 5).1 1), ((((t.1 9).1, (t.1 11).1, (t.1 12).1, (t.1 8).1 0), (t.1 10).1), (t.1 13).1, (t.1 14).1), ((t.1 15).1, (t.1 16).1, ((t.1 17).2.2)))).1.2.1))), ((ad 8), .inr (2, [.ref (ad 9), .ref (ad 10), .ref (ad 11), .ref (ad 12), .ref (ad 13), .ref (ad 14), .int ((frT 1450 (((t.1 6).1, (t.1 7).1, (t.1 5).1 0, (t.1 5).1 1), ((((t.1 9).1, (t.1 11).1, (t.1 12).1, (t.1 8).1 0), (t.1 10).1), (t.1 13).1, (t.1 14).1), ((t.1 15).1, (t.1 16).1, ((t.1 17).2.2)))).2.1.1.1.2.2.2)])), ((ad 12), .inl (0, 108, .inl ((frT 1450 (((t.1 6).1, (t.1 7).1, (t.1 5).1 0, (t.1 5).1 1), ((((t.1 9).1, (t.1 11).1, (t.1 12).1, (t.1 8).1 0), (t.1 10).1), (t.1 13).1, (t.1 14).1), ((t.1 15).1, (t.1 16).1, ((t.1 17).2.2)))).2.1.1.1.2.2.1))), ((ad 15), .inl (2, 108, .inl ((frT 1450 (((t.1 6).1, (t.1 7).1, (t.1 5).1 0, (t.1 5).1 1), ((((t.1 9).1, (t.1 11).1, (t.1 12).1, (t.1 8).1 0), (t.1 10).1), (t.1 13).1, (t.1 14).1), ((t.1 15).1, (t.1 16).1, ((t.1 17).2.2)))).2.2.1))), ((ad 16), .inl (2, 108, .inl ((frT 1450 (((t.1 6).1, (t.1 7).1, (t.1 5).1 0, (t.1 5).1 1), ((((t.1 9).1, (t.1 11).1, (t.1 12).1, (t.1 8).1 0), (t.1 10).1), (t.1 13).1, (t.1 14).1), ((t.1 15).1, (t.1 16).1, ((t.1 17).2.2)))).2.2.2.1))), ((ad 17), .inl (0, 108, .inl (fun k => nI (((frT 1450 (((t.1 6).1, (t.1 7).1, (t.1 5).1 0, (t.1 5).1 1), ((((t.1 9).1, (t.1 11).1, (t.1 12).1, (t.1 8).1 0), (t.1 10).1), (t.1 13).1, (t.1 14).1), ((t.1 15).1, (t.1 16).1, ((t.1 17).2.2)))).2.2.2.2) k))))]) (is := [1, 2, 3, 4, 8, 11, 12, 13]) (q0 := 1) rfl rfl ln_Ip_506 w_im_Tr_areFedOnesReached w_se_Tr_areFedOnesReached ok_Ip_isSound_Tr_areFedOnesReached d_Ip_isSound_56 (C_Tr_areFedOnesReached g (ad 5) (ad 6) (ad 7) (ad 8) (ad 9) (ad 10) (ad 11) (ad 12) (ad 13) (ad 14) (ad 15) (ad 16) (ad 17) ((frT 1450 (((t.1 6).1, (t.1 7).1, (t.1 5).1 0, (t.1 5).1 1), ((((t.1 9).1, (t.1 11).1, (t.1 12).1, (t.1 8).1 0), (t.1 10).1), (t.1 13).1, (t.1 14).1), ((t.1 15).1, (t.1 16).1, ((t.1 17).2.2)))).1.2.2.1) ((frT 1450 (((t.1 6).1, (t.1 7).1, (t.1 5).1 0, (t.1 5).1 1), ((((t.1 9).1, (t.1 11).1, (t.1 12).1, (t.1 8).1 0), (t.1 10).1), (t.1 13).1, (t.1 14).1), ((t.1 15).1, (t.1 16).1, ((t.1 17).2.2)))).1.2.2.2) ((frT 1450 (((t.1 6).1, (t.1 7).1, (t.1 5).1 0, (t.1 5).1 1), ((((t.1 9).1, (t.1 11).1, (t.1 12).1, (t.1 8).1 0), (t.1 10).1), (t.1 13).1, (t.1 14).1), ((t.1 15).1, (t.1 16).1, ((t.1 17).2.2)))).2.1.1.1.2.2.2) ((frT 1450 (((t.1 6).1, (t.1 7).1, (t.1 5).1 0, (t.1 5).1 1), ((((t.1 9).1, (t.1 11).1, (t.1 12).1, (t.1 8).1 0), (t.1 10).1), (t.1 13).1, (t.1 14).1), ((t.1 15).1, (t.1 16).1, ((t.1 17).2.2)))).1.1) ((frT 1450 (((t.1 6).1, (t.1 7).1, (t.1 5).1 0, (t.1 5).1 1), ((((t.1 9).1, (t.1 11).1, (t.1 12).1, (t.1 8).1 0), (t.1 10).1), (t.1 13).1, (t.1 14).1), ((t.1 15).1, (t.1 16).1, ((t.1 17).2.2)))).1.2.1) ((frT 1450 (((t.1 6).1, (t.1 7).1, (t.1 5).1 0, (t.1 5).1 1), ((((t.1 9).1, (t.1 11).1, (t.1 12).1, (t.1 8).1 0), (t.1 10).1), (t.1 13).1, (t.1 14).1), ((t.1 15).1, (t.1 16).1, ((t.1 17).2.2)))).2.1.1.1.2.2.1) ((frT 1450 (((t.1 6).1, (t.1 7).1, (t.1 5).1 0, (t.1 5).1 1), ((((t.1 9).1, (t.1 11).1, (t.1 12).1, (t.1 8).1 0), (t.1 10).1), (t.1 13).1, (t.1 14).1), ((t.1 15).1, (t.1 16).1, ((t.1 17).2.2)))).2.2.1) ((frT 1450 (((t.1 6).1, (t.1 7).1, (t.1 5).1 0, (t.1 5).1 1), ((((t.1 9).1, (t.1 11).1, (t.1 12).1, (t.1 8).1 0), (t.1 10).1), (t.1 13).1, (t.1 14).1), ((t.1 15).1, (t.1 16).1, ((t.1 17).2.2)))).2.2.2.1) ((frT 1450 (((t.1 6).1, (t.1 7).1, (t.1 5).1 0, (t.1 5).1 1), ((((t.1 9).1, (t.1 11).1, (t.1 12).1, (t.1 8).1 0), (t.1 10).1), (t.1 13).1, (t.1 14).1), ((t.1 15).1, (t.1 16).1, ((t.1 17).2.2)))).2.2.2.2)) rfl rfl (Nat.le_of_ble_eq_true rfl) rfl (by decide) (by omega) (by omega) (fun E cs1 hx => ?_) (fun v cs1 hx => ?_)
            · exact absurd hx.1 (by simp)
            · obtain ⟨e1, rfl⟩ := hx
              cases e1
              refine ⟨rfl, ?_⟩
              refine y_st (st2 := [.int (z_bi (!(afS ((frT 1450 (((t.1 6).1, (t.1 7).1, (t.1 5).1 0, (t.1 5).1 1), ((((t.1 9).1, (t.1 11).1, (t.1 12).1, (t.1 8).1 0), (t.1 10).1), (t.1 13).1, (t.1 14).1), ((t.1 15).1, (t.1 16).1, ((t.1 17).2.2)))).1.1) ((frT 1450 (((t.1 6).1, (t.1 7).1, (t.1 5).1 0, (t.1 5).1 1), ((((t.1 9).1, (t.1 11).1, (t.1 12).1, (t.1 8).1 0), (t.1 10).1), (t.1 13).1, (t.1 14).1), ((t.1 15).1, (t.1 16).1, ((t.1 17).2.2)))).1.2.1) ((frT 1450 (((t.1 6).1, (t.1 7).1, (t.1 5).1 0, (t.1 5).1 1), ((((t.1 9).1, (t.1 11).1, (t.1 12).1, (t.1 8).1 0), (t.1 10).1), (t.1 13).1, (t.1 14).1), ((t.1 15).1, (t.1 16).1, ((t.1 17).2.2)))).2.1.1.1.2.2.1) ((frT 1450 (((t.1 6).1, (t.1 7).1, (t.1 5).1 0, (t.1 5).1 1), ((((t.1 9).1, (t.1 11).1, (t.1 12).1, (t.1 8).1 0), (t.1 10).1), (t.1 13).1, (t.1 14).1), ((t.1 15).1, (t.1 16).1, ((t.1 17).2.2)))).2.2.1) (((frT 1450 (((t.1 6).1, (t.1 7).1, (t.1 5).1 0, (t.1 5).1 1), ((((t.1 9).1, (t.1 11).1, (t.1 12).1, (t.1 8).1 0), (t.1 10).1), (t.1 13).1, (t.1 14).1), ((t.1 15).1, (t.1 16).1, ((t.1 17).2.2)))).2.2.2.1), ((frT 1450 (((t.1 6).1, (t.1 7).1, (t.1 5).1 0, (t.1 5).1 1), ((((t.1 9).1, (t.1 11).1, (t.1 12).1, (t.1 8).1 0), (t.1 10).1), (t.1 13).1, (t.1 14).1), ((t.1 15).1, (t.1 16).1, ((t.1 17).2.2)))).2.2.2.2)) 108).1))]) rfl ?_
              refine y_cs (cs2 := [((ad 0), .inr (11, [.ref (ad 1), .ref (ad 5), .ref (ad 18), .ref (ad 31), .ref (ad 32), .ref (ad 36), .ref (ad 42), .ref (ad 45), .ref (ad 47), .ref (ad 49), .ref (ad 50), .ref (ad 51)])), ((ad 5), .inr (10, [.ref (ad 6), .ref (ad 7), .ref (ad 8), .ref (ad 15), .ref (ad 16), .ref (ad 17), .int ((frT 1450 (((t.1 6).1, (t.1 7).1, (t.1 5).1 0, (t.1 5).1 1), ((((t.1 9).1, (t.1 11).1, (t.1 12).1, (t.1 8).1 0), (t.1 10).1), (t.1 13).1, (t.1 14).1), ((t.1 15).1, (t.1 16).1, ((t.1 17).2.2)))).1.2.2.1), .int ((frT 1450 (((t.1 6).1, (t.1 7).1, (t.1 5).1 0, (t.1 5).1 1), ((((t.1 9).1, (t.1 11).1, (t.1 12).1, (t.1 8).1 0), (t.1 10).1), (t.1 13).1, (t.1 14).1), ((t.1 15).1, (t.1 16).1, ((t.1 17).2.2)))).1.2.2.2)])), ((ad 6), .inl (1, 108, .inl ((frT 1450 (((t.1 6).1, (t.1 7).1, (t.1 5).1 0, (t.1 5).1 1), ((((t.1 9).1, (t.1 11).1, (t.1 12).1, (t.1 8).1 0), (t.1 10).1), (t.1 13).1, (t.1 14).1), ((t.1 15).1, (t.1 16).1, ((t.1 17).2.2)))).1.1))), ((ad 7), .inl (0, 108, .inl ((frT 1450 (((t.1 6).1, (t.1 7).1, (t.1 5).1 0, (t.1 5).1 1), ((((t.1 9).1, (t.1 11).1, (t.1 12).1, (t.1 8).1 0), (t.1 10).1), (t.1 13).1, (t.1 14).1), ((t.1 15).1, (t.1 16).1, ((t.1 17).2.2)))).1.2.1))), ((ad 8), .inr (2, [.ref (ad 9), .ref (ad 10), .ref (ad 11), .ref (ad 12), .ref (ad 13), .ref (ad 14), .int ((frT 1450 (((t.1 6).1, (t.1 7).1, (t.1 5).1 0, (t.1 5).1 1), ((((t.1 9).1, (t.1 11).1, (t.1 12).1, (t.1 8).1 0), (t.1 10).1), (t.1 13).1, (t.1 14).1), ((t.1 15).1, (t.1 16).1, ((t.1 17).2.2)))).2.1.1.1.2.2.2)])), ((ad 9), .inl (0, 108, .inl ((frT 1450 (((t.1 6).1, (t.1 7).1, (t.1 5).1 0, (t.1 5).1 1), ((((t.1 9).1, (t.1 11).1, (t.1 12).1, (t.1 8).1 0), (t.1 10).1), (t.1 13).1, (t.1 14).1), ((t.1 15).1, (t.1 16).1, ((t.1 17).2.2)))).2.1.1.1.1))), ((ad 10), .inl (0, 108, .inl ((frT 1450 (((t.1 6).1, (t.1 7).1, (t.1 5).1 0, (t.1 5).1 1), ((((t.1 9).1, (t.1 11).1, (t.1 12).1, (t.1 8).1 0), (t.1 10).1), (t.1 13).1, (t.1 14).1), ((t.1 15).1, (t.1 16).1, ((t.1 17).2.2)))).2.1.1.2))), ((ad 11), .inl (0, 108, .inl ((frT 1450 (((t.1 6).1, (t.1 7).1, (t.1 5).1 0, (t.1 5).1 1), ((((t.1 9).1, (t.1 11).1, (t.1 12).1, (t.1 8).1 0), (t.1 10).1), (t.1 13).1, (t.1 14).1), ((t.1 15).1, (t.1 16).1, ((t.1 17).2.2)))).2.1.1.1.2.1))), ((ad 12), .inl (0, 108, .inl ((frT 1450 (((t.1 6).1, (t.1 7).1, (t.1 5).1 0, (t.1 5).1 1), ((((t.1 9).1, (t.1 11).1, (t.1 12).1, (t.1 8).1 0), (t.1 10).1), (t.1 13).1, (t.1 14).1), ((t.1 15).1, (t.1 16).1, ((t.1 17).2.2)))).2.1.1.1.2.2.1))), ((ad 13), .inl (0, 108, .inl ((frT 1450 (((t.1 6).1, (t.1 7).1, (t.1 5).1 0, (t.1 5).1 1), ((((t.1 9).1, (t.1 11).1, (t.1 12).1, (t.1 8).1 0), (t.1 10).1), (t.1 13).1, (t.1 14).1), ((t.1 15).1, (t.1 16).1, ((t.1 17).2.2)))).2.1.2.1))), ((ad 14), .inl (0, 108, .inl ((frT 1450 (((t.1 6).1, (t.1 7).1, (t.1 5).1 0, (t.1 5).1 1), ((((t.1 9).1, (t.1 11).1, (t.1 12).1, (t.1 8).1 0), (t.1 10).1), (t.1 13).1, (t.1 14).1), ((t.1 15).1, (t.1 16).1, ((t.1 17).2.2)))).2.1.2.2))), ((ad 15), .inl (2, 108, .inl ((frT 1450 (((t.1 6).1, (t.1 7).1, (t.1 5).1 0, (t.1 5).1 1), ((((t.1 9).1, (t.1 11).1, (t.1 12).1, (t.1 8).1 0), (t.1 10).1), (t.1 13).1, (t.1 14).1), ((t.1 15).1, (t.1 16).1, ((t.1 17).2.2)))).2.2.1))), ((ad 16), .inl (2, 108, .inl ((afS ((frT 1450 (((t.1 6).1, (t.1 7).1, (t.1 5).1 0, (t.1 5).1 1), ((((t.1 9).1, (t.1 11).1, (t.1 12).1, (t.1 8).1 0), (t.1 10).1), (t.1 13).1, (t.1 14).1), ((t.1 15).1, (t.1 16).1, ((t.1 17).2.2)))).1.1) ((frT 1450 (((t.1 6).1, (t.1 7).1, (t.1 5).1 0, (t.1 5).1 1), ((((t.1 9).1, (t.1 11).1, (t.1 12).1, (t.1 8).1 0), (t.1 10).1), (t.1 13).1, (t.1 14).1), ((t.1 15).1, (t.1 16).1, ((t.1 17).2.2)))).1.2.1) ((frT 1450 (((t.1 6).1, (t.1 7).1, (t.1 5).1 0, (t.1 5).1 1), ((((t.1 9).1, (t.1 11).1, (t.1 12).1, (t.1 8).1 0), (t.1 10).1), (t.1 13).1, (t.1 14).1), ((t.1 15).1, (t.1 16).1, ((t.1 17).2.2)))).2.1.1.1.2.2.1) ((frT 1450 (((t.1 6).1, (t.1 7).1, (t.1 5).1 0, (t.1 5).1 1), ((((t.1 9).1, (t.1 11).1, (t.1 12).1, (t.1 8).1 0), (t.1 10).1), (t.1 13).1, (t.1 14).1), ((t.1 15).1, (t.1 16).1, ((t.1 17).2.2)))).2.2.1) (((frT 1450 (((t.1 6).1, (t.1 7).1, (t.1 5).1 0, (t.1 5).1 1), ((((t.1 9).1, (t.1 11).1, (t.1 12).1, (t.1 8).1 0), (t.1 10).1), (t.1 13).1, (t.1 14).1), ((t.1 15).1, (t.1 16).1, ((t.1 17).2.2)))).2.2.2.1), ((frT 1450 (((t.1 6).1, (t.1 7).1, (t.1 5).1 0, (t.1 5).1 1), ((((t.1 9).1, (t.1 11).1, (t.1 12).1, (t.1 8).1 0), (t.1 10).1), (t.1 13).1, (t.1 14).1), ((t.1 15).1, (t.1 16).1, ((t.1 17).2.2)))).2.2.2.2)) 108).2.1))), ((ad 17), .inl (0, 108, .inl (fun k => nI ((afS ((frT 1450 (((t.1 6).1, (t.1 7).1, (t.1 5).1 0, (t.1 5).1 1), ((((t.1 9).1, (t.1 11).1, (t.1 12).1, (t.1 8).1 0), (t.1 10).1), (t.1 13).1, (t.1 14).1), ((t.1 15).1, (t.1 16).1, ((t.1 17).2.2)))).1.1) ((frT 1450 (((t.1 6).1, (t.1 7).1, (t.1 5).1 0, (t.1 5).1 1), ((((t.1 9).1, (t.1 11).1, (t.1 12).1, (t.1 8).1 0), (t.1 10).1), (t.1 13).1, (t.1 14).1), ((t.1 15).1, (t.1 16).1, ((t.1 17).2.2)))).1.2.1) ((frT 1450 (((t.1 6).1, (t.1 7).1, (t.1 5).1 0, (t.1 5).1 1), ((((t.1 9).1, (t.1 11).1, (t.1 12).1, (t.1 8).1 0), (t.1 10).1), (t.1 13).1, (t.1 14).1), ((t.1 15).1, (t.1 16).1, ((t.1 17).2.2)))).2.1.1.1.2.2.1) ((frT 1450 (((t.1 6).1, (t.1 7).1, (t.1 5).1 0, (t.1 5).1 1), ((((t.1 9).1, (t.1 11).1, (t.1 12).1, (t.1 8).1 0), (t.1 10).1), (t.1 13).1, (t.1 14).1), ((t.1 15).1, (t.1 16).1, ((t.1 17).2.2)))).2.2.1) (((frT 1450 (((t.1 6).1, (t.1 7).1, (t.1 5).1 0, (t.1 5).1 1), ((((t.1 9).1, (t.1 11).1, (t.1 12).1, (t.1 8).1 0), (t.1 10).1), (t.1 13).1, (t.1 14).1), ((t.1 15).1, (t.1 16).1, ((t.1 17).2.2)))).2.2.2.1), ((frT 1450 (((t.1 6).1, (t.1 7).1, (t.1 5).1 0, (t.1 5).1 1), ((((t.1 9).1, (t.1 11).1, (t.1 12).1, (t.1 8).1 0), (t.1 10).1), (t.1 13).1, (t.1 14).1), ((t.1 15).1, (t.1 16).1, ((t.1 17).2.2)))).2.2.2.2)) 108).2.2 k))))]) rfl ?_
              refine y_if_eq (tgt := 66) d_Ip_isSound_59 (by decide) (fun c_59 => ?_) (fun c_59 => ?_)
              · refine y_iconst d_Ip_isSound_66 (v := 0) (by decide) ?_
                refine y_iret d_Ip_isSound_67 rfl rfl ?_
                exact fun w1 h1 => ⟨Or.inl ⟨_, rfl⟩, IVm.tw (hI.gen (t2 := (zup t.1 [(5, ((upd (upd ((t.1 5).1) 0 ((frT 1450 (((t.1 6).1, (t.1 7).1, (t.1 5).1 0, (t.1 5).1 1), ((((t.1 9).1, (t.1 11).1, (t.1 12).1, (t.1 8).1 0), (t.1 10).1), (t.1 13).1, (t.1 14).1), ((t.1 15).1, (t.1 16).1, ((t.1 17).2.2)))).1.2.2.1)) 1 ((frT 1450 (((t.1 6).1, (t.1 7).1, (t.1 5).1 0, (t.1 5).1 1), ((((t.1 9).1, (t.1 11).1, (t.1 12).1, (t.1 8).1 0), (t.1 10).1), (t.1 13).1, (t.1 14).1), ((t.1 15).1, (t.1 16).1, ((t.1 17).2.2)))).1.2.2.2)), (t.1 5).2.1, (t.1 5).2.2)), (6, (((frT 1450 (((t.1 6).1, (t.1 7).1, (t.1 5).1 0, (t.1 5).1 1), ((((t.1 9).1, (t.1 11).1, (t.1 12).1, (t.1 8).1 0), (t.1 10).1), (t.1 13).1, (t.1 14).1), ((t.1 15).1, (t.1 16).1, ((t.1 17).2.2)))).1.1), (t.1 6).2)), (7, (((frT 1450 (((t.1 6).1, (t.1 7).1, (t.1 5).1 0, (t.1 5).1 1), ((((t.1 9).1, (t.1 11).1, (t.1 12).1, (t.1 8).1 0), (t.1 10).1), (t.1 13).1, (t.1 14).1), ((t.1 15).1, (t.1 16).1, ((t.1 17).2.2)))).1.2.1), (t.1 7).2)), (8, ((upd ((t.1 8).1) 0 ((frT 1450 (((t.1 6).1, (t.1 7).1, (t.1 5).1 0, (t.1 5).1 1), ((((t.1 9).1, (t.1 11).1, (t.1 12).1, (t.1 8).1 0), (t.1 10).1), (t.1 13).1, (t.1 14).1), ((t.1 15).1, (t.1 16).1, ((t.1 17).2.2)))).2.1.1.1.2.2.2)), (t.1 8).2.1, (t.1 8).2.2)), (9, ((frT 1450 (((t.1 6).1, (t.1 7).1, (t.1 5).1 0, (t.1 5).1 1), ((((t.1 9).1, (t.1 11).1, (t.1 12).1, (t.1 8).1 0), (t.1 10).1), (t.1 13).1, (t.1 14).1), ((t.1 15).1, (t.1 16).1, ((t.1 17).2.2)))).2.1.1.1.1, (t.1 9).2)), (10, ((frT 1450 (((t.1 6).1, (t.1 7).1, (t.1 5).1 0, (t.1 5).1 1), ((((t.1 9).1, (t.1 11).1, (t.1 12).1, (t.1 8).1 0), (t.1 10).1), (t.1 13).1, (t.1 14).1), ((t.1 15).1, (t.1 16).1, ((t.1 17).2.2)))).2.1.1.2, (t.1 10).2)), (11, ((frT 1450 (((t.1 6).1, (t.1 7).1, (t.1 5).1 0, (t.1 5).1 1), ((((t.1 9).1, (t.1 11).1, (t.1 12).1, (t.1 8).1 0), (t.1 10).1), (t.1 13).1, (t.1 14).1), ((t.1 15).1, (t.1 16).1, ((t.1 17).2.2)))).2.1.1.1.2.1, (t.1 11).2)), (12, (((frT 1450 (((t.1 6).1, (t.1 7).1, (t.1 5).1 0, (t.1 5).1 1), ((((t.1 9).1, (t.1 11).1, (t.1 12).1, (t.1 8).1 0), (t.1 10).1), (t.1 13).1, (t.1 14).1), ((t.1 15).1, (t.1 16).1, ((t.1 17).2.2)))).2.1.1.1.2.2.1), (t.1 12).2)), (13, ((frT 1450 (((t.1 6).1, (t.1 7).1, (t.1 5).1 0, (t.1 5).1 1), ((((t.1 9).1, (t.1 11).1, (t.1 12).1, (t.1 8).1 0), (t.1 10).1), (t.1 13).1, (t.1 14).1), ((t.1 15).1, (t.1 16).1, ((t.1 17).2.2)))).2.1.2.1, (t.1 13).2)), (14, ((frT 1450 (((t.1 6).1, (t.1 7).1, (t.1 5).1 0, (t.1 5).1 1), ((((t.1 9).1, (t.1 11).1, (t.1 12).1, (t.1 8).1 0), (t.1 10).1), (t.1 13).1, (t.1 14).1), ((t.1 15).1, (t.1 16).1, ((t.1 17).2.2)))).2.1.2.2, (t.1 14).2)), (15, (((frT 1450 (((t.1 6).1, (t.1 7).1, (t.1 5).1 0, (t.1 5).1 1), ((((t.1 9).1, (t.1 11).1, (t.1 12).1, (t.1 8).1 0), (t.1 10).1), (t.1 13).1, (t.1 14).1), ((t.1 15).1, (t.1 16).1, ((t.1 17).2.2)))).2.2.1), (t.1 15).2)), (16, ((afS ((frT 1450 (((t.1 6).1, (t.1 7).1, (t.1 5).1 0, (t.1 5).1 1), ((((t.1 9).1, (t.1 11).1, (t.1 12).1, (t.1 8).1 0), (t.1 10).1), (t.1 13).1, (t.1 14).1), ((t.1 15).1, (t.1 16).1, ((t.1 17).2.2)))).1.1) ((frT 1450 (((t.1 6).1, (t.1 7).1, (t.1 5).1 0, (t.1 5).1 1), ((((t.1 9).1, (t.1 11).1, (t.1 12).1, (t.1 8).1 0), (t.1 10).1), (t.1 13).1, (t.1 14).1), ((t.1 15).1, (t.1 16).1, ((t.1 17).2.2)))).1.2.1) ((frT 1450 (((t.1 6).1, (t.1 7).1, (t.1 5).1 0, (t.1 5).1 1), ((((t.1 9).1, (t.1 11).1, (t.1 12).1, (t.1 8).1 0), (t.1 10).1), (t.1 13).1, (t.1 14).1), ((t.1 15).1, (t.1 16).1, ((t.1 17).2.2)))).2.1.1.1.2.2.1) ((frT 1450 (((t.1 6).1, (t.1 7).1, (t.1 5).1 0, (t.1 5).1 1), ((((t.1 9).1, (t.1 11).1, (t.1 12).1, (t.1 8).1 0), (t.1 10).1), (t.1 13).1, (t.1 14).1), ((t.1 15).1, (t.1 16).1, ((t.1 17).2.2)))).2.2.1) (((frT 1450 (((t.1 6).1, (t.1 7).1, (t.1 5).1 0, (t.1 5).1 1), ((((t.1 9).1, (t.1 11).1, (t.1 12).1, (t.1 8).1 0), (t.1 10).1), (t.1 13).1, (t.1 14).1), ((t.1 15).1, (t.1 16).1, ((t.1 17).2.2)))).2.2.2.1), ((frT 1450 (((t.1 6).1, (t.1 7).1, (t.1 5).1 0, (t.1 5).1 1), ((((t.1 9).1, (t.1 11).1, (t.1 12).1, (t.1 8).1 0), (t.1 10).1), (t.1 13).1, (t.1 14).1), ((t.1 15).1, (t.1 16).1, ((t.1 17).2.2)))).2.2.2.2)) 108).2.1, (t.1 16).2)), (17, ((t.1 17).1, (t.1 17).2.1, (afS ((frT 1450 (((t.1 6).1, (t.1 7).1, (t.1 5).1 0, (t.1 5).1 1), ((((t.1 9).1, (t.1 11).1, (t.1 12).1, (t.1 8).1 0), (t.1 10).1), (t.1 13).1, (t.1 14).1), ((t.1 15).1, (t.1 16).1, ((t.1 17).2.2)))).1.1) ((frT 1450 (((t.1 6).1, (t.1 7).1, (t.1 5).1 0, (t.1 5).1 1), ((((t.1 9).1, (t.1 11).1, (t.1 12).1, (t.1 8).1 0), (t.1 10).1), (t.1 13).1, (t.1 14).1), ((t.1 15).1, (t.1 16).1, ((t.1 17).2.2)))).1.2.1) ((frT 1450 (((t.1 6).1, (t.1 7).1, (t.1 5).1 0, (t.1 5).1 1), ((((t.1 9).1, (t.1 11).1, (t.1 12).1, (t.1 8).1 0), (t.1 10).1), (t.1 13).1, (t.1 14).1), ((t.1 15).1, (t.1 16).1, ((t.1 17).2.2)))).2.1.1.1.2.2.1) ((frT 1450 (((t.1 6).1, (t.1 7).1, (t.1 5).1 0, (t.1 5).1 1), ((((t.1 9).1, (t.1 11).1, (t.1 12).1, (t.1 8).1 0), (t.1 10).1), (t.1 13).1, (t.1 14).1), ((t.1 15).1, (t.1 16).1, ((t.1 17).2.2)))).2.2.1) (((frT 1450 (((t.1 6).1, (t.1 7).1, (t.1 5).1 0, (t.1 5).1 1), ((((t.1 9).1, (t.1 11).1, (t.1 12).1, (t.1 8).1 0), (t.1 10).1), (t.1 13).1, (t.1 14).1), ((t.1 15).1, (t.1 16).1, ((t.1 17).2.2)))).2.2.2.1), ((frT 1450 (((t.1 6).1, (t.1 7).1, (t.1 5).1 0, (t.1 5).1 1), ((((t.1 9).1, (t.1 11).1, (t.1 12).1, (t.1 8).1 0), (t.1 10).1), (t.1 13).1, (t.1 14).1), ((t.1 15).1, (t.1 16).1, ((t.1 17).2.2)))).2.2.2.2)) 108).2.2))], t.2)) (is := [0, 5, 6, 7, 8, 9, 10, 11, 12, 13, 14, 15, 16, 17]) (L2 := []) h1 rfl ⟨kd_0.mpr rfl, kd_5.mpr rfl, kd_6.mpr rfl, kd_7.mpr rfl, kd_8.mpr rfl, kd_9.mpr rfl, kd_10.mpr rfl, kd_11.mpr rfl, kd_12.mpr rfl, kd_13.mpr rfl, kd_14.mpr rfl, kd_15.mpr ⟨(frT_01 (h := 1450) (X := (((t.1 6).1, (t.1 7).1, (t.1 5).1 0, (t.1 5).1 1), ((((t.1 9).1, (t.1 11).1, (t.1 12).1, (t.1 8).1 0), (t.1 10).1), (t.1 13).1, (t.1 14).1), ((t.1 15).1, (t.1 16).1, ((t.1 17).2.2)))) c_ta4_0), rfl⟩, kd_16.mpr rfl, kd_17.mpr rfl, trivial⟩ (by decide) (by decide) (fun _ h => nomatch h) (fun _ h => nomatch h) (fun i hi hn => zup_out (fun q => hn ((by decide : ∀ j ∈ ([5, 6, 7, 8, 9, 10, 11, 12, 13, 14, 15, 16, 17] : List Nat), j ∈ ([0, 5, 6, 7, 8, 9, 10, 11, 12, 13, 14, 15, 16, 17] : List Nat)) i q))) (fun h => h) rfl) (tx_all rfl)⟩
              · refine y_iconst d_Ip_isSound_62 (v := 1) (by decide) ?_
                refine y_goto (tgt := 67) d_Ip_isSound_63 (by decide) ?_
                refine y_iret d_Ip_isSound_67 rfl rfl ?_
                exact fun w1 h1 => ⟨Or.inl ⟨_, rfl⟩, IVm.tw (hI.gen (t2 := (zup t.1 [(5, ((upd (upd ((t.1 5).1) 0 ((frT 1450 (((t.1 6).1, (t.1 7).1, (t.1 5).1 0, (t.1 5).1 1), ((((t.1 9).1, (t.1 11).1, (t.1 12).1, (t.1 8).1 0), (t.1 10).1), (t.1 13).1, (t.1 14).1), ((t.1 15).1, (t.1 16).1, ((t.1 17).2.2)))).1.2.2.1)) 1 ((frT 1450 (((t.1 6).1, (t.1 7).1, (t.1 5).1 0, (t.1 5).1 1), ((((t.1 9).1, (t.1 11).1, (t.1 12).1, (t.1 8).1 0), (t.1 10).1), (t.1 13).1, (t.1 14).1), ((t.1 15).1, (t.1 16).1, ((t.1 17).2.2)))).1.2.2.2)), (t.1 5).2.1, (t.1 5).2.2)), (6, (((frT 1450 (((t.1 6).1, (t.1 7).1, (t.1 5).1 0, (t.1 5).1 1), ((((t.1 9).1, (t.1 11).1, (t.1 12).1, (t.1 8).1 0), (t.1 10).1), (t.1 13).1, (t.1 14).1), ((t.1 15).1, (t.1 16).1, ((t.1 17).2.2)))).1.1), (t.1 6).2)), (7, (((frT 1450 (((t.1 6).1, (t.1 7).1, (t.1 5).1 0, (t.1 5).1 1), ((((t.1 9).1, (t.1 11).1, (t.1 12).1, (t.1 8).1 0), (t.1 10).1), (t.1 13).1, (t.1 14).1), ((t.1 15).1, (t.1 16).1, ((t.1 17).2.2)))).1.2.1), (t.1 7).2)), (8, ((upd ((t.1 8).1) 0 ((frT 1450 (((t.1 6).1, (t.1 7).1, (t.1 5).1 0, (t.1 5).1 1), ((((t.1 9).1, (t.1 11).1, (t.1 12).1, (t.1 8).1 0), (t.1 10).1), (t.1 13).1, (t.1 14).1), ((t.1 15).1, (t.1 16).1, ((t.1 17).2.2)))).2.1.1.1.2.2.2)), (t.1 8).2.1, (t.1 8).2.2)), (9, ((frT 1450 (((t.1 6).1, (t.1 7).1, (t.1 5).1 0, (t.1 5).1 1), ((((t.1 9).1, (t.1 11).1, (t.1 12).1, (t.1 8).1 0), (t.1 10).1), (t.1 13).1, (t.1 14).1), ((t.1 15).1, (t.1 16).1, ((t.1 17).2.2)))).2.1.1.1.1, (t.1 9).2)), (10, ((frT 1450 (((t.1 6).1, (t.1 7).1, (t.1 5).1 0, (t.1 5).1 1), ((((t.1 9).1, (t.1 11).1, (t.1 12).1, (t.1 8).1 0), (t.1 10).1), (t.1 13).1, (t.1 14).1), ((t.1 15).1, (t.1 16).1, ((t.1 17).2.2)))).2.1.1.2, (t.1 10).2)), (11, ((frT 1450 (((t.1 6).1, (t.1 7).1, (t.1 5).1 0, (t.1 5).1 1), ((((t.1 9).1, (t.1 11).1, (t.1 12).1, (t.1 8).1 0), (t.1 10).1), (t.1 13).1, (t.1 14).1), ((t.1 15).1, (t.1 16).1, ((t.1 17).2.2)))).2.1.1.1.2.1, (t.1 11).2)), (12, (((frT 1450 (((t.1 6).1, (t.1 7).1, (t.1 5).1 0, (t.1 5).1 1), ((((t.1 9).1, (t.1 11).1, (t.1 12).1, (t.1 8).1 0), (t.1 10).1), (t.1 13).1, (t.1 14).1), ((t.1 15).1, (t.1 16).1, ((t.1 17).2.2)))).2.1.1.1.2.2.1), (t.1 12).2)), (13, ((frT 1450 (((t.1 6).1, (t.1 7).1, (t.1 5).1 0, (t.1 5).1 1), ((((t.1 9).1, (t.1 11).1, (t.1 12).1, (t.1 8).1 0), (t.1 10).1), (t.1 13).1, (t.1 14).1), ((t.1 15).1, (t.1 16).1, ((t.1 17).2.2)))).2.1.2.1, (t.1 13).2)), (14, ((frT 1450 (((t.1 6).1, (t.1 7).1, (t.1 5).1 0, (t.1 5).1 1), ((((t.1 9).1, (t.1 11).1, (t.1 12).1, (t.1 8).1 0), (t.1 10).1), (t.1 13).1, (t.1 14).1), ((t.1 15).1, (t.1 16).1, ((t.1 17).2.2)))).2.1.2.2, (t.1 14).2)), (15, (((frT 1450 (((t.1 6).1, (t.1 7).1, (t.1 5).1 0, (t.1 5).1 1), ((((t.1 9).1, (t.1 11).1, (t.1 12).1, (t.1 8).1 0), (t.1 10).1), (t.1 13).1, (t.1 14).1), ((t.1 15).1, (t.1 16).1, ((t.1 17).2.2)))).2.2.1), (t.1 15).2)), (16, ((afS ((frT 1450 (((t.1 6).1, (t.1 7).1, (t.1 5).1 0, (t.1 5).1 1), ((((t.1 9).1, (t.1 11).1, (t.1 12).1, (t.1 8).1 0), (t.1 10).1), (t.1 13).1, (t.1 14).1), ((t.1 15).1, (t.1 16).1, ((t.1 17).2.2)))).1.1) ((frT 1450 (((t.1 6).1, (t.1 7).1, (t.1 5).1 0, (t.1 5).1 1), ((((t.1 9).1, (t.1 11).1, (t.1 12).1, (t.1 8).1 0), (t.1 10).1), (t.1 13).1, (t.1 14).1), ((t.1 15).1, (t.1 16).1, ((t.1 17).2.2)))).1.2.1) ((frT 1450 (((t.1 6).1, (t.1 7).1, (t.1 5).1 0, (t.1 5).1 1), ((((t.1 9).1, (t.1 11).1, (t.1 12).1, (t.1 8).1 0), (t.1 10).1), (t.1 13).1, (t.1 14).1), ((t.1 15).1, (t.1 16).1, ((t.1 17).2.2)))).2.1.1.1.2.2.1) ((frT 1450 (((t.1 6).1, (t.1 7).1, (t.1 5).1 0, (t.1 5).1 1), ((((t.1 9).1, (t.1 11).1, (t.1 12).1, (t.1 8).1 0), (t.1 10).1), (t.1 13).1, (t.1 14).1), ((t.1 15).1, (t.1 16).1, ((t.1 17).2.2)))).2.2.1) (((frT 1450 (((t.1 6).1, (t.1 7).1, (t.1 5).1 0, (t.1 5).1 1), ((((t.1 9).1, (t.1 11).1, (t.1 12).1, (t.1 8).1 0), (t.1 10).1), (t.1 13).1, (t.1 14).1), ((t.1 15).1, (t.1 16).1, ((t.1 17).2.2)))).2.2.2.1), ((frT 1450 (((t.1 6).1, (t.1 7).1, (t.1 5).1 0, (t.1 5).1 1), ((((t.1 9).1, (t.1 11).1, (t.1 12).1, (t.1 8).1 0), (t.1 10).1), (t.1 13).1, (t.1 14).1), ((t.1 15).1, (t.1 16).1, ((t.1 17).2.2)))).2.2.2.2)) 108).2.1, (t.1 16).2)), (17, ((t.1 17).1, (t.1 17).2.1, (afS ((frT 1450 (((t.1 6).1, (t.1 7).1, (t.1 5).1 0, (t.1 5).1 1), ((((t.1 9).1, (t.1 11).1, (t.1 12).1, (t.1 8).1 0), (t.1 10).1), (t.1 13).1, (t.1 14).1), ((t.1 15).1, (t.1 16).1, ((t.1 17).2.2)))).1.1) ((frT 1450 (((t.1 6).1, (t.1 7).1, (t.1 5).1 0, (t.1 5).1 1), ((((t.1 9).1, (t.1 11).1, (t.1 12).1, (t.1 8).1 0), (t.1 10).1), (t.1 13).1, (t.1 14).1), ((t.1 15).1, (t.1 16).1, ((t.1 17).2.2)))).1.2.1) ((frT 1450 (((t.1 6).1, (t.1 7).1, (t.1 5).1 0, (t.1 5).1 1), ((((t.1 9).1, (t.1 11).1, (t.1 12).1, (t.1 8).1 0), (t.1 10).1), (t.1 13).1, (t.1 14).1), ((t.1 15).1, (t.1 16).1, ((t.1 17).2.2)))).2.1.1.1.2.2.1) ((frT 1450 (((t.1 6).1, (t.1 7).1, (t.1 5).1 0, (t.1 5).1 1), ((((t.1 9).1, (t.1 11).1, (t.1 12).1, (t.1 8).1 0), (t.1 10).1), (t.1 13).1, (t.1 14).1), ((t.1 15).1, (t.1 16).1, ((t.1 17).2.2)))).2.2.1) (((frT 1450 (((t.1 6).1, (t.1 7).1, (t.1 5).1 0, (t.1 5).1 1), ((((t.1 9).1, (t.1 11).1, (t.1 12).1, (t.1 8).1 0), (t.1 10).1), (t.1 13).1, (t.1 14).1), ((t.1 15).1, (t.1 16).1, ((t.1 17).2.2)))).2.2.2.1), ((frT 1450 (((t.1 6).1, (t.1 7).1, (t.1 5).1 0, (t.1 5).1 1), ((((t.1 9).1, (t.1 11).1, (t.1 12).1, (t.1 8).1 0), (t.1 10).1), (t.1 13).1, (t.1 14).1), ((t.1 15).1, (t.1 16).1, ((t.1 17).2.2)))).2.2.2.2)) 108).2.2))], t.2)) (is := [0, 5, 6, 7, 8, 9, 10, 11, 12, 13, 14, 15, 16, 17]) (L2 := []) h1 rfl ⟨kd_0.mpr rfl, kd_5.mpr rfl, kd_6.mpr rfl, kd_7.mpr rfl, kd_8.mpr rfl, kd_9.mpr rfl, kd_10.mpr rfl, kd_11.mpr rfl, kd_12.mpr rfl, kd_13.mpr rfl, kd_14.mpr rfl, kd_15.mpr ⟨(frT_01 (h := 1450) (X := (((t.1 6).1, (t.1 7).1, (t.1 5).1 0, (t.1 5).1 1), ((((t.1 9).1, (t.1 11).1, (t.1 12).1, (t.1 8).1 0), (t.1 10).1), (t.1 13).1, (t.1 14).1), ((t.1 15).1, (t.1 16).1, ((t.1 17).2.2)))) c_ta4_0), rfl⟩, kd_16.mpr rfl, kd_17.mpr rfl, trivial⟩ (by decide) (by decide) (fun _ h => nomatch h) (fun _ h => nomatch h) (fun i hi hn => zup_out (fun q => hn ((by decide : ∀ j ∈ ([5, 6, 7, 8, 9, 10, 11, 12, 13, 14, 15, 16, 17] : List Nat), j ∈ ([0, 5, 6, 7, 8, 9, 10, 11, 12, 13, 14, 15, 16, 17] : List Nat)) i q))) (fun h => h) rfl) (tx_all rfl)⟩
    · have hn := z_nle (a := 4) (by omega) (by decide) c_13
      refine y_aload_n d_Ip_isSound_16 rfl 1 rfl ?_
      refine y_iload_n d_Ip_isSound_17 rfl 0 rfl ?_
      refine yw_callV (As := [.int (nI i)]) (rest := []) (q0 := 0) rfl rfl ln_Ip_500 w_im_Ip_elementBalances w_se_Ip_elementBalances ok_Ip_isSound_Ip_elementBalances d_Ip_isSound_18 (fun wA hA => Q_elementBalances (hI.gen (t2 := t) (is := [0, 5, 6, 7, 8, 9, 10, 11, 12, 13, 14, 15, 16, 17]) (L2 := []) hA rfl ⟨kd_0.mpr rfl, kd_5.mpr rfl, kd_6.mpr rfl, kd_7.mpr rfl, kd_8.mpr rfl, kd_9.mpr rfl, kd_10.mpr rfl, kd_11.mpr rfl, kd_12.mpr rfl, kd_13.mpr rfl, kd_14.mpr rfl, kd_15.mpr ⟨c_ta4_0, rfl⟩, kd_16.mpr rfl, kd_17.mpr rfl, trivial⟩ (by decide) (by decide) (fun _ h => nomatch h) (fun _ h => nomatch h) (fun _ _ _ => rfl) (fun h => h) rfl) i (by omega)) rfl rfl (Nat.le_of_ble_eq_true rfl) (by omega) (by omega) (fun wA18 hA18 E wB18 hx => ?_) (fun wA18 hA18 v wB18 hx => ?_)
      · exact absurd hx.1 (by simp)
      · obtain ⟨⟨b8, e1⟩, e2⟩ := hx
        cases e1
        refine yw_st (st2 := [.int b8]) rfl ?_
        subst e2
        refine y_go hA18 ?_
        refine y_if_ne (tgt := 26) d_Ip_isSound_21 (by decide) (fun c_21 => ?_) (fun c_21 => ?_)
        · refine y_iinc (lv' := [(1, .int (nI (i + 1))), (0, .ref (ad 0))]) (v := nI (i + 1)) d_Ip_isSound_26 (j := 0) rfl (nI_add _ _) (by decide) rfl ?_
          refine y_goto (tgt := 11) d_Ip_isSound_29 (by decide) ?_
          refine y_end (fun wC1 hC1 => ?_)
          obtain rfl := z_I.same hJ hC1
          exact ih (i + 1)  (by omega) (by omega) 
        · refine y_iconst d_Ip_isSound_24 (v := 0) (by decide) ?_
          refine y_iret d_Ip_isSound_25 rfl rfl ?_
          exact fun w1 h1 => ⟨Or.inl ⟨_, rfl⟩, IVm.of (hI.gen (t2 := t) (is := [0, 5, 6, 7, 8, 9, 10, 11, 12, 13, 14, 15, 16, 17]) (L2 := []) h1 rfl ⟨kd_0.mpr rfl, kd_5.mpr rfl, kd_6.mpr rfl, kd_7.mpr rfl, kd_8.mpr rfl, kd_9.mpr rfl, kd_10.mpr rfl, kd_11.mpr rfl, kd_12.mpr rfl, kd_13.mpr rfl, kd_14.mpr rfl, kd_15.mpr ⟨c_ta4_0, rfl⟩, kd_16.mpr rfl, kd_17.mpr rfl, trivial⟩ (by decide) (by decide) (fun _ h => nomatch h) (fun _ h => nomatch h) (fun _ _ _ => rfl) (fun h => h) rfl) (fun _ _ => rfl) rfl⟩
set_option maxHeartbeats 4000000 in
set_option maxRecDepth 100000 in
theorem Qx_Ip_isSound {g : zG} {ad : Nat → Nat} {t : zTT} {u : zNN} {w : zW} (hI : IV g ad t u w) : zMB g M_Ip_isSound [.ref (ad 0)] w (fun o w1 => zri [] o ∧ IVm g ad t u w1) 0 0 := by
  obtain ⟨e_a, wf_a, k_a⟩ := hI.1.2 0 (by decide)
  obtain rfl := kd_0.mp k_a
  obtain ⟨e_ta, wf_ta, k_ta⟩ := hI.1.2 5 (by decide)
  obtain rfl := kd_5.mp k_ta
  obtain ⟨e_ta1, wf_ta1, k_ta1⟩ := hI.1.2 6 (by decide)
  obtain rfl := kd_6.mp k_ta1
  obtain ⟨e_ta2, wf_ta2, k_ta2⟩ := hI.1.2 7 (by decide)
  obtain rfl := kd_7.mp k_ta2
  obtain ⟨e_taz, wf_taz, k_taz⟩ := hI.1.2 8 (by decide)
  obtain rfl := kd_8.mp k_taz
  obtain ⟨e_taz1, wf_taz1, k_taz1⟩ := hI.1.2 9 (by decide)
  obtain rfl := kd_9.mp k_taz1
  obtain ⟨e_taz2, wf_taz2, k_taz2⟩ := hI.1.2 10 (by decide)
  obtain rfl := kd_10.mp k_taz2
  obtain ⟨e_taz3, wf_taz3, k_taz3⟩ := hI.1.2 11 (by decide)
  obtain rfl := kd_11.mp k_taz3
  obtain ⟨e_taz4, wf_taz4, k_taz4⟩ := hI.1.2 12 (by decide)
  obtain rfl := kd_12.mp k_taz4
  obtain ⟨e_taz5, wf_taz5, k_taz5⟩ := hI.1.2 13 (by decide)
  obtain rfl := kd_13.mp k_taz5
  obtain ⟨e_taz6, wf_taz6, k_taz6⟩ := hI.1.2 14 (by decide)
  obtain rfl := kd_14.mp k_taz6
  obtain ⟨e_ta4, wf_ta4, k_ta4⟩ := hI.1.2 15 (by decide)
  obtain ⟨c_ta4_0, rfl⟩ := kd_15.mp k_ta4
  obtain ⟨e_ta5, wf_ta5, k_ta5⟩ := hI.1.2 16 (by decide)
  obtain rfl := kd_16.mp k_ta5
  obtain ⟨e_ta6, wf_ta6, k_ta6⟩ := hI.1.2 17 (by decide)
  obtain rfl := kd_17.mp k_ta6
  have hJ := hI.1.I [0, 5, 6, 7, 8, 9, 10, 11, 12, 13, 14, 15, 16, 17] [((ad 0), .inr (11, [.ref (ad 1), .ref (ad 5), .ref (ad 18), .ref (ad 31), .ref (ad 32), .ref (ad 36), .ref (ad 42), .ref (ad 45), .ref (ad 47), .ref (ad 49), .ref (ad 50), .ref (ad 51)])), ((ad 5), .inr (10, [.ref (ad 6), .ref (ad 7), .ref (ad 8), .ref (ad 15), .ref (ad 16), .ref (ad 17), .int ((t.1 5).1 0), .int ((t.1 5).1 1)])), ((ad 6), .inl (1, 108, .inl ((t.1 6).1))), ((ad 7), .inl (0, 108, .inl ((t.1 7).1))), ((ad 8), .inr (2, [.ref (ad 9), .ref (ad 10), .ref (ad 11), .ref (ad 12), .ref (ad 13), .ref (ad 14), .int ((t.1 8).1 0)])), ((ad 9), .inl (0, 108, .inl ((t.1 9).1))), ((ad 10), .inl (0, 108, .inl ((t.1 10).1))), ((ad 11), .inl (0, 108, .inl ((t.1 11).1))), ((ad 12), .inl (0, 108, .inl ((t.1 12).1))), ((ad 13), .inl (0, 108, .inl ((t.1 13).1))), ((ad 14), .inl (0, 108, .inl ((t.1 14).1))), ((ad 15), .inl (2, 108, .inl ((t.1 15).1))), ((ad 16), .inl (2, 108, .inl ((t.1 16).1))), ((ad 17), .inl (0, 108, .inl (fun k => nI (((t.1 17).2.2) k))))] rfl (by decide) (by decide) (List.forall_mem_cons.mpr ⟨wf_a, (List.forall_mem_cons.mpr ⟨wf_ta, (List.forall_mem_cons.mpr ⟨wf_ta1, (List.forall_mem_cons.mpr ⟨wf_ta2, (List.forall_mem_cons.mpr ⟨wf_taz, (List.forall_mem_cons.mpr ⟨wf_taz1, (List.forall_mem_cons.mpr ⟨wf_taz2, (List.forall_mem_cons.mpr ⟨wf_taz3, (List.forall_mem_cons.mpr ⟨wf_taz4, (List.forall_mem_cons.mpr ⟨wf_taz5, (List.forall_mem_cons.mpr ⟨wf_taz6, (List.forall_mem_cons.mpr ⟨wf_ta4, (List.forall_mem_cons.mpr ⟨wf_ta5, (List.forall_mem_cons.mpr ⟨wf_ta6, (fun _ h => nomatch h)⟩)⟩)⟩)⟩)⟩)⟩)⟩)⟩)⟩)⟩)⟩)⟩)⟩)⟩)
  refine y_of (by decide) rfl (Nat.le_of_ble_eq_true rfl) (y_base (cs := [((ad 0), .inr (11, [.ref (ad 1), .ref (ad 5), .ref (ad 18), .ref (ad 31), .ref (ad 32), .ref (ad 36), .ref (ad 42), .ref (ad 45), .ref (ad 47), .ref (ad 49), .ref (ad 50), .ref (ad 51)])), ((ad 5), .inr (10, [.ref (ad 6), .ref (ad 7), .ref (ad 8), .ref (ad 15), .ref (ad 16), .ref (ad 17), .int ((t.1 5).1 0), .int ((t.1 5).1 1)])), ((ad 6), .inl (1, 108, .inl ((t.1 6).1))), ((ad 7), .inl (0, 108, .inl ((t.1 7).1))), ((ad 8), .inr (2, [.ref (ad 9), .ref (ad 10), .ref (ad 11), .ref (ad 12), .ref (ad 13), .ref (ad 14), .int ((t.1 8).1 0)])), ((ad 9), .inl (0, 108, .inl ((t.1 9).1))), ((ad 10), .inl (0, 108, .inl ((t.1 10).1))), ((ad 11), .inl (0, 108, .inl ((t.1 11).1))), ((ad 12), .inl (0, 108, .inl ((t.1 12).1))), ((ad 13), .inl (0, 108, .inl ((t.1 13).1))), ((ad 14), .inl (0, 108, .inl ((t.1 14).1))), ((ad 15), .inl (2, 108, .inl ((t.1 15).1))), ((ad 16), .inl (2, 108, .inl ((t.1 16).1))), ((ad 17), .inl (0, 108, .inl (fun k => nI (((t.1 17).2.2) k))))]) hJ ?_)
  refine y_lvE (lv2 := [(0, .ref (ad 0))]) rfl ?_
  refine y_aload_n d_Ip_isSound_0 rfl 0 rfl ?_
  refine yw_callV (As := []) (rest := []) (q0 := 0) rfl rfl ln_Ip_497 w_im_Ip_ironBalances w_se_Ip_ironBalances ok_Ip_isSound_Ip_ironBalances d_Ip_isSound_1 (fun wA hA => Q_ironBalances (hI.gen (t2 := t) (is := [0, 5, 6, 7, 8, 9, 10, 11, 12, 13, 14, 15, 16, 17]) (L2 := []) hA rfl ⟨kd_0.mpr rfl, kd_5.mpr rfl, kd_6.mpr rfl, kd_7.mpr rfl, kd_8.mpr rfl, kd_9.mpr rfl, kd_10.mpr rfl, kd_11.mpr rfl, kd_12.mpr rfl, kd_13.mpr rfl, kd_14.mpr rfl, kd_15.mpr ⟨c_ta4_0, rfl⟩, kd_16.mpr rfl, kd_17.mpr rfl, trivial⟩ (by decide) (by decide) (fun _ h => nomatch h) (fun _ h => nomatch h) (fun _ _ _ => rfl) (fun h => h) rfl)) rfl rfl (Nat.le_of_ble_eq_true rfl) (by omega) (by omega) (fun wA1 hA1 E wB1 hx => ?_) (fun wA1 hA1 v wB1 hx => ?_)
  · exact absurd hx.1 (by simp)
  · obtain ⟨⟨b9, e1⟩, e2⟩ := hx
    cases e1
    refine yw_st (st2 := [.int b9]) rfl ?_
    subst e2
    refine y_go hA1 ?_
    refine y_if_ne (tgt := 9) d_Ip_isSound_4 (by decide) (fun c_4 => ?_) (fun c_4 => ?_)
    · refine y_iconst d_Ip_isSound_9 (v := 0) (by decide) ?_
      refine y_istore_n (lv' := [(1, .int 0), (0, .ref (ad 0))]) d_Ip_isSound_10 rfl (by decide) rfl ?_
      refine y_end (fun wC2 hC2 => ?_)
      obtain rfl := z_I.same hJ hC2
      exact L_Qx_Ip_isSound_11 g hI  (4 + 1) 0  (Nat.zero_le _) (by omega) 
    · refine y_iconst d_Ip_isSound_7 (v := 0) (by decide) ?_
      refine y_iret d_Ip_isSound_8 rfl rfl ?_
      exact fun w1 h1 => ⟨Or.inl ⟨_, rfl⟩, IVm.of (hI.gen (t2 := t) (is := [0, 5, 6, 7, 8, 9, 10, 11, 12, 13, 14, 15, 16, 17]) (L2 := []) h1 rfl ⟨kd_0.mpr rfl, kd_5.mpr rfl, kd_6.mpr rfl, kd_7.mpr rfl, kd_8.mpr rfl, kd_9.mpr rfl, kd_10.mpr rfl, kd_11.mpr rfl, kd_12.mpr rfl, kd_13.mpr rfl, kd_14.mpr rfl, kd_15.mpr ⟨c_ta4_0, rfl⟩, kd_16.mpr rfl, kd_17.mpr rfl, trivial⟩ (by decide) (by decide) (fun _ h => nomatch h) (fun _ h => nomatch h) (fun _ _ _ => rfl) (fun h => h) rfl) (fun _ _ => rfl) rfl⟩
