theorem z_narB (b : Bool) : narrow .boolean (Value.int (z_bi b)) = .int (z_bi b) := by
  cases b <;> rfl
theorem tx_all {l : List (Nat × zP2)} (h : (l.map Prod.fst).all (fun i => decide (tx i)) = true) : ∀ i ∈ l.map Prod.fst, tx i := fun i hi => of_decide_eq_true (List.all_eq_true.mp h i hi)
theorem hf_0 {a k : Int32} (h : z_bi (hfB a k) = 0) : a &&& k = 0 := by
  have h1 := z_bi0 h
  unfold hfB at h1
  simpa using h1
theorem hf_1 {a k : Int32} (h : ¬ z_bi (hfB a k) = 0) : ¬ a &&& k = 0 := by
  have h1 := z_bi1 h
  unfold hfB at h1
  simpa using h1
theorem du_0 {p : Prop} [Decidable p] (h : (if p then (0 : Int32) else 1) = 0) : p := Classical.byContradiction (fun q => by rw [if_neg q] at h; exact absurd h (by decide))
theorem du_1 {p : Prop} [Decidable p] (h : ¬ (if p then (0 : Int32) else 1) = 0) : ¬ p := fun q => h (if_pos q)
def fdT (t : zTT) (m9 : Nat) : zTT := (zup t.1 [(42, ((upd (upd ((t.1 42).1) 0 (if 20 < (t.1 42).1 0 - 4 * nI m9 then (t.1 42).1 0 - 4 * nI m9 else 20)) 1 (mgS ((t.1 42).1 1) m9)), (t.1 42).2.1, (t.1 42).2.2))], t.2)
def wtV9 (x : Int32) (v : zV) : zV := (upd v.1 5 (v.1 5 + x), v.2)
abbrev M_Ip_checkStands : zM := (⟨"Ironpour", "checkStands", "(LIronpour$Casting;)V"⟩, prog_1_method_65_code, 1, (Option.none : Option FieldType), 6, 100, [])
theorem d_Ip_checkStands_0 : decode prog_1_method_65_code 0 = .ok (.aload_n 0, 1) := zo_42 (zd_b zq_prog_1_method_65_code_0 0 rfl rfl rfl)
theorem d_Ip_checkStands_1 : decode prog_1_method_65_code 1 = .ok (.getfield 466, 3) := zo_180 (d := 1) (e := 210) (zd_b zq_prog_1_method_65_code_0 1 rfl rfl rfl) (zd_b zq_prog_1_method_65_code_0 2 rfl rfl rfl) (zd_b zq_prog_1_method_65_code_0 3 rfl rfl rfl)
theorem d_Ip_checkStands_4 : decode prog_1_method_65_code 4 = .ok (.ifCond .ne 10, 3) := zo_154 (d := 0) (e := 10) (zd_b zq_prog_1_method_65_code_0 4 rfl rfl rfl) (zd_b zq_prog_1_method_65_code_0 5 rfl rfl rfl) (zd_b zq_prog_1_method_65_code_0 6 rfl rfl rfl) (by decide +kernel)
theorem d_Ip_checkStands_14 : decode prog_1_method_65_code 14 = .ok (.new 242, 3) := zo_187 (d := 0) (e := 242) (zd_b zq_prog_1_method_65_code_0 14 rfl rfl rfl) (zd_b zq_prog_1_method_65_code_0 15 rfl rfl rfl) (zd_b zq_prog_1_method_65_code_0 16 rfl rfl rfl)
theorem sr_Ip_542 : Cond.stringRef "Ironpour" 542 "it was delivered or broken up" ∈ lw_tbl := z_tb7 (i := 10) rfl
theorem d_Ip_checkStands_17 : decode prog_1_method_65_code 17 = .ok (.dup, 1) := zo_89 (zd_b zq_prog_1_method_65_code_0 17 rfl rfl rfl)
theorem d_Ip_checkStands_18 : decode prog_1_method_65_code 18 = .ok (.ldc_w 542, 3) := zo_19 (d := 2) (e := 30) (zd_b zq_prog_1_method_65_code_0 18 rfl rfl rfl) (zd_b zq_prog_1_method_65_code_0 19 rfl rfl rfl) (zd_b zq_prog_1_method_65_code_0 20 rfl rfl rfl)
theorem d_Ip_checkStands_21 : decode prog_1_method_65_code 21 = .ok (.invokespecial 246, 3) := zo_183 (d := 0) (e := 246) (zd_b zq_prog_1_method_65_code_0 21 rfl rfl rfl) (zd_b zq_prog_1_method_65_code_0 22 rfl rfl rfl) (zd_b zq_prog_1_method_65_code_0 23 rfl rfl rfl)
theorem d_Ip_checkStands_24 : decode prog_1_method_65_code 24 = .ok (.athrow, 1) := zo_191 (zd_b zq_prog_1_method_65_code_0 24 rfl rfl rfl)
theorem d_Ip_checkStands_7 : decode prog_1_method_65_code 7 = .ok (.aload_n 0, 1) := zo_42 (zd_b zq_prog_1_method_65_code_0 7 rfl rfl rfl)
theorem d_Ip_checkStands_8 : decode prog_1_method_65_code 8 = .ok (.getfield 469, 3) := zo_180 (d := 1) (e := 213) (zd_b zq_prog_1_method_65_code_0 8 rfl rfl rfl) (zd_b zq_prog_1_method_65_code_0 9 rfl rfl rfl) (zd_b zq_prog_1_method_65_code_0 10 rfl rfl rfl)
theorem fs_Ip_469 : z_fs "Ironpour" 469 0 5 := ⟨R_Ca, "Ironpour$Casting", F_Ca, 6, rfl, u_Ca, by decide, Or.inr ⟨"Ironpour", z_mk6 (i := 147) rfl (by decide +kernel), rfl⟩⟩
theorem d_Ip_checkStands_11 : decode prog_1_method_65_code 11 = .ok (.ifCond .eq 14, 3) := zo_153 (d := 0) (e := 14) (zd_b zq_prog_1_method_65_code_0 11 rfl rfl rfl) (zd_b zq_prog_1_method_65_code_0 12 rfl rfl rfl) (zd_b zq_prog_1_method_65_code_0 13 rfl rfl rfl) (by decide +kernel)
theorem d_Ip_checkStands_25 : decode prog_1_method_65_code 25 = .ok (.return_, 1) := zo_177 (zd_b zq_prog_1_method_65_code_0 25 rfl rfl rfl)
set_option maxHeartbeats 4000000 in
set_option maxRecDepth 100000 in
theorem Q_Ip_waitingE {g : zG} {ad : Nat → Nat} {t : zTT} {u : zNN} {w : zW} (hI : IV g ad t u w) (x : Int32) (hx : ¬ ∃ k, k < u.1 0 ∧ x = nI k) : zMB g M_Ip_waiting [.ref (ad 0), .int x] w (fun o w1 => zri ["java/util/NoSuchElementException"] o ∧ IV g ad t u w1) 1 6 := by
  obtain ⟨e_a, wf_a, k_a⟩ := hI.1.2 0 (by decide)
  obtain rfl := kd_0.mp k_a
  refine y_of (by decide) rfl (Nat.le_of_ble_eq_true rfl) (y_base (cs := [((ad 0), .inr (11, [.ref (ad 1), .ref (ad 5), .ref (ad 18), .ref (ad 31), .ref (ad 32), .ref (ad 36), .ref (ad 42), .ref (ad 45), .ref (ad 47), .ref (ad 49), .ref (ad 50), .ref (ad 51)]))]) (hI.1.I [0] _ rfl (by decide) (by decide) (List.forall_mem_cons.mpr ⟨wf_a, (fun _ h => nomatch h)⟩)) ?_)
  refine y_lvE (lv2 := [(0, .ref (ad 0)), (1, .int x)]) rfl ?_
  refine y_iload_n d_Ip_waiting_0 rfl 1 rfl ?_
  refine y_if_lt (tgt := 15) d_Ip_waiting_1 (by decide) (fun c_1 => ?_) (fun c_1 => ?_)
  · refine y_throwXW tb_Ip_150_154 sr_Ip_420 d_Ip_waiting_15 d_Ip_waiting_18 d_Ip_waiting_19 d_Ip_waiting_22 d_Ip_waiting_25 rfl (by decide) (by decide) (Nat.le_of_ble_eq_true rfl) (by omega) (by omega) ?_
    exact fun w1 h1 => ⟨Or.inr ⟨_, List.Mem.head _, rfl⟩, (hI.gen (t2 := t) (is := [0]) (L2 := []) h1 rfl ⟨kd_0.mpr rfl, trivial⟩ (by decide) (by decide) (fun _ h => nomatch h) (fun _ h => nomatch h) (fun _ _ _ => rfl) (fun h => h) rfl)⟩
  · refine y_iload_n d_Ip_waiting_4 rfl 1 rfl ?_
    refine y_aload_n d_Ip_waiting_5 rfl 0 rfl ?_
    refine y_get fs_Ip_74 d_Ip_waiting_6 (q0 := 0) rfl rfl ?_
    refine yw_callVL (As := []) (rest := [.int x]) (ci := 13) rfl (fun wA hA => ((hI.gen (t2 := t) (is := [0]) (L2 := []) hA rfl ⟨kd_0.mpr rfl, trivial⟩ (by decide) (by decide) (fun _ h => nomatch h) (fun _ h => nomatch h) (fun _ _ _ => rfl) (fun h => h) rfl).2.1.1 0 (by decide)).ob) ln_Ip_341 w_im_AL_size w_se_AL_size ok_Ip_waiting_AL_size d_Ip_waiting_9 (fun wA hA => Q_size ((hI.gen (t2 := t) (is := [0]) (L2 := []) hA rfl ⟨kd_0.mpr rfl, trivial⟩ (by decide) (by decide) (fun _ h => nomatch h) (fun _ h => nomatch h) (fun _ _ _ => rfl) (fun h => h) rfl).2.1.1 0 (by decide))) rfl rfl (Nat.le_of_ble_eq_true rfl) (by omega) (by omega) (fun wA9 hA9 E wB9 hx => ?_) (fun wA9 hA9 v wB9 hx => ?_)
    · exact absurd hx.1 (by simp)
    · obtain ⟨e1, e2⟩ := hx
      cases e1
      refine yw_st (st2 := [.int (nI (u.1 0)), .int x]) rfl ?_
      subst e2
      refine y_go hA9 ?_
      refine y_icmp_lt (tgt := 26) d_Ip_waiting_12 (by decide) (fun c_12 => ?_) (fun c_12 => ?_)
      · exact absurd (z_idx2 (hI.n5 0 (by decide)) c_1 c_12) hx
      · refine y_throwXW tb_Ip_150_154 sr_Ip_420 d_Ip_waiting_15 d_Ip_waiting_18 d_Ip_waiting_19 d_Ip_waiting_22 d_Ip_waiting_25 rfl (by decide) (by decide) (Nat.le_of_ble_eq_true rfl) (by omega) (by omega) ?_
        exact fun w1 h1 => ⟨Or.inr ⟨_, List.Mem.head _, rfl⟩, (hI.gen (t2 := t) (is := [0]) (L2 := []) h1 rfl ⟨kd_0.mpr rfl, trivial⟩ (by decide) (by decide) (fun _ h => nomatch h) (fun _ h => nomatch h) (fun _ _ _ => rfl) (fun h => h) rfl)⟩
theorem d_Ip_waiting_26 : decode prog_1_method_36_code 26 = .ok (.aload_n 0, 1) := zo_42 (zd_b zq_prog_1_method_36_code_0 26 rfl rfl rfl)
theorem d_Ip_waiting_27 : decode prog_1_method_36_code 27 = .ok (.getfield 74, 3) := zo_180 (d := 0) (e := 74) (zd_b zq_prog_1_method_36_code_0 27 rfl rfl rfl) (zd_b zq_prog_1_method_36_code_0 28 rfl rfl rfl) (zd_b zq_prog_1_method_36_code_0 29 rfl rfl rfl)
theorem d_Ip_waiting_30 : decode prog_1_method_36_code 30 = .ok (.iload_n 1, 1) := zo_27 (zd_b zq_prog_1_method_36_code_0 30 rfl rfl rfl)
theorem d_Ip_waiting_31 : decode prog_1_method_36_code 31 = .ok (.invokevirtual 344, 3) := zo_182 (d := 1) (e := 88) (zd_b zq_prog_1_method_36_code_0 31 rfl rfl rfl) (zd_b zq_prog_1_method_36_code_1 0 rfl rfl rfl) (zd_b zq_prog_1_method_36_code_1 1 rfl rfl rfl)
theorem ok_Ip_waiting_AL_get : z_ok M_Ip_waiting M_AL_get 1 := ⟨z_mj2 (i := 180) rfl (by decide +kernel), rfl, ⟨by decide +kernel, by decide +kernel, by decide +kernel⟩, ⟨by decide, by decide⟩, z_mj1 (i := 13) rfl (by decide +kernel), rfl⟩
theorem d_Ip_waiting_34 : decode prog_1_method_36_code 34 = .ok (.checkcast 348, 3) := zo_192 (d := 1) (e := 92) (zd_b zq_prog_1_method_36_code_1 2 rfl rfl rfl) (zd_b zq_prog_1_method_36_code_1 3 rfl rfl rfl) (zd_b zq_prog_1_method_36_code_1 4 rfl rfl rfl)
theorem lk_Ip_348 : Cond.classLink "Ironpour" 348 R_Mo ∈ z_gw := z_mj5 (i := 145) rfl (by decide +kernel)
theorem d_Ip_waiting_37 : decode prog_1_method_36_code 37 = .ok (.getfield 350, 3) := zo_180 (d := 1) (e := 94) (zd_b zq_prog_1_method_36_code_1 5 rfl rfl rfl) (zd_b zq_prog_1_method_36_code_1 6 rfl rfl rfl) (zd_b zq_prog_1_method_36_code_1 7 rfl rfl rfl)
theorem fs_Ip_350 : z_fs "Ironpour" 350 7 7 := ⟨R_Mo, "Ironpour$Mould", F_Mo, 8, rfl, u_Mo, by decide, Or.inr ⟨"Ironpour", z_mk6 (i := 13) rfl (by decide +kernel), rfl⟩⟩
theorem d_Ip_waiting_40 : decode prog_1_method_36_code 40 = .ok (.ireturn, 1) := zo_172 (zd_b zq_prog_1_method_36_code_1 8 rfl rfl rfl)
set_option maxHeartbeats 4000000 in
set_option maxRecDepth 100000 in
theorem Q_Ip_waitingN {g : zG} {ad : Nat → Nat} {t : zTT} {u : zNN} {w : zW} (hI : IV g ad t u w) (k : Nat) (hk : k < u.1 0) : zMB g M_Ip_waiting [.ref (ad 0), .int (nI k)] w (fun o w1 => zri ["java/util/NoSuchElementException"] o ∧ IV g ad t u w1) 1 6 := by
  obtain ⟨e_a, wf_a, k_a⟩ := hI.1.2 0 (by decide)
  obtain rfl := kd_0.mp k_a
  have h33 := hI.n5 0 (by decide)
  refine y_of (by decide) rfl (Nat.le_of_ble_eq_true rfl) (y_base (cs := [((ad 0), .inr (11, [.ref (ad 1), .ref (ad 5), .ref (ad 18), .ref (ad 31), .ref (ad 32), .ref (ad 36), .ref (ad 42), .ref (ad 45), .ref (ad 47), .ref (ad 49), .ref (ad 50), .ref (ad 51)]))]) (hI.1.I [0] _ rfl (by decide) (by decide) (List.forall_mem_cons.mpr ⟨wf_a, (fun _ h => nomatch h)⟩)) ?_)
  refine y_lvE (lv2 := [(0, .ref (ad 0)), (1, .int (nI k))]) rfl ?_
  refine y_iload_n d_Ip_waiting_0 rfl 1 rfl ?_
  refine y_if_lt (tgt := 15) d_Ip_waiting_1 (by decide) (fun c_1 => ?_) (fun c_1 => ?_)
  · exact absurd c_1 (nI_nneg (by omega))
  · refine y_iload_n d_Ip_waiting_4 rfl 1 rfl ?_
    refine y_aload_n d_Ip_waiting_5 rfl 0 rfl ?_
    refine y_get fs_Ip_74 d_Ip_waiting_6 (q0 := 0) rfl rfl ?_
    refine yw_callVL (As := []) (rest := [.int (nI k)]) (ci := 13) rfl (fun wA hA => ((hI.gen (t2 := t) (is := [0]) (L2 := []) hA rfl ⟨kd_0.mpr rfl, trivial⟩ (by decide) (by decide) (fun _ h => nomatch h) (fun _ h => nomatch h) (fun _ _ _ => rfl) (fun h => h) rfl).2.1.1 0 (by decide)).ob) ln_Ip_341 w_im_AL_size w_se_AL_size ok_Ip_waiting_AL_size d_Ip_waiting_9 (fun wA hA => Q_size ((hI.gen (t2 := t) (is := [0]) (L2 := []) hA rfl ⟨kd_0.mpr rfl, trivial⟩ (by decide) (by decide) (fun _ h => nomatch h) (fun _ h => nomatch h) (fun _ _ _ => rfl) (fun h => h) rfl).2.1.1 0 (by decide))) rfl rfl (Nat.le_of_ble_eq_true rfl) (by omega) (by omega) (fun wA9 hA9 E wB9 hx => ?_) (fun wA9 hA9 v wB9 hx => ?_)
    · exact absurd hx.1 (by simp)
    · obtain ⟨e1, e2⟩ := hx
      cases e1
      refine yw_st (st2 := [.int (nI (u.1 0)), .int (nI k)]) rfl ?_
      subst e2
      refine y_go hA9 ?_
      refine y_icmp_lt (tgt := 26) d_Ip_waiting_12 (by decide) (fun c_12 => ?_) (fun c_12 => ?_)
      · refine y_aload_n d_Ip_waiting_26 rfl 0 rfl ?_
        refine y_get fs_Ip_74 d_Ip_waiting_27 (q0 := 0) rfl rfl ?_
        refine y_iload_n d_Ip_waiting_30 rfl 1 rfl ?_
        refine yw_callVL (As := [.int (nI k)]) (rest := []) (ci := 13) rfl (fun wA hA => ((hI.gen (t2 := t) (is := [0]) (L2 := []) hA rfl ⟨kd_0.mpr rfl, trivial⟩ (by decide) (by decide) (fun _ h => nomatch h) (fun _ h => nomatch h) (fun _ _ _ => rfl) (fun h => h) rfl).2.1.1 0 (by decide)).ob) ln_Ip_344 w_im_AL_get w_se_AL_get ok_Ip_waiting_AL_get d_Ip_waiting_31 (fun wA hA => Q_get ((hI.gen (t2 := t) (is := [0]) (L2 := []) hA rfl ⟨kd_0.mpr rfl, trivial⟩ (by decide) (by decide) (fun _ h => nomatch h) (fun _ h => nomatch h) (fun _ _ _ => rfl) (fun h => h) rfl).2.1.1 0 (by decide)) hk) rfl rfl (Nat.le_of_ble_eq_true rfl) (by omega) (by omega) (fun wA31 hA31 E wB31 hx => ?_) (fun wA31 hA31 v wB31 hx => ?_)
        · exact absurd hx.1 (by simp)
        · obtain ⟨e1, e2⟩ := hx
          cases e1
          refine yw_st (st2 := [.ref (u.2.2 0 k)]) rfl ?_
          subst e2
          refine y_go hA31 ?_
          refine y_end (fun wC1 hC1 => ?_)
          have hI9 := (hI.gen (t2 := t) (is := [0]) (L2 := []) hC1 rfl ⟨kd_0.mpr rfl, trivial⟩ (by decide) (by decide) (fun _ h => nomatch h) (fun _ h => nomatch h) (fun _ _ _ => rfl) (fun h => h) rfl)
          have hI := hI9
          obtain ⟨nf_d, c_d, hw_d, hx_d, nfc_d, hwc_d, hch_d⟩ := hI.2.1.2.1 0 (by decide) k hk
          refine y_base (cs := [((ad 0), .inr (11, [.ref (ad 1), .ref (ad 5), .ref (ad 18), .ref (ad 31), .ref (ad 32), .ref (ad 36), .ref (ad 42), .ref (ad 45), .ref (ad 47), .ref (ad 49), .ref (ad 50), .ref (ad 51)])), ((u.2.2 0 k), .inr (7, [.ref c_d, .int (nI ((t.2 0 k).2.2.2 0)), .int ((t.2 0 k).1 0), .int ((t.2 0 k).1 1), .int ((t.2 0 k).1 2), .int ((t.2 0 k).1 3), .int ((t.2 0 k).1 4), .int ((t.2 0 k).1 5)])), (c_d, .inl (1, 108, .inl ((t.2 0 k).2.1)))]) (z_I.kd (List.forall_mem_cons.mpr ⟨hC1.at (q0 := 0) rfl, (List.forall_mem_cons.mpr ⟨hw_d, (List.forall_mem_cons.mpr ⟨hwc_d, (fun _ h => nomatch h)⟩)⟩)⟩) (by simp [z_kd])) ?_
          refine y_castO lk_Ip_348 d_Ip_waiting_34 (q0 := 1) rfl rfl ?_
          refine y_get fs_Ip_350 d_Ip_waiting_37 (q0 := 1) rfl rfl ?_
          refine y_iret d_Ip_waiting_40 rfl rfl ?_
          exact fun w1 h1 => ⟨Or.inl ⟨_, rfl⟩, (hI.gen (t2 := t) (is := [0]) (L2 := [(u.2.2 0 k), c_d]) h1 rfl ⟨kd_0.mpr rfl, trivial⟩ (by decide) (by decide) (List.forall_mem_cons.mpr ⟨nf_d, (List.forall_mem_cons.mpr ⟨nfc_d, (fun _ h => nomatch h)⟩)⟩) (List.forall_mem_cons.mpr ⟨⟨_, hw_d, h1.at (q0 := 1) rfl⟩, (List.forall_mem_cons.mpr ⟨⟨_, hwc_d, h1.at (q0 := 2) rfl⟩, (fun _ h => nomatch h)⟩)⟩) (fun _ _ _ => rfl) (fun h => h) rfl)⟩
      · exact absurd ((nI_ltI (by omega) (by omega)).mpr hk) c_12
set_option maxHeartbeats 4000000 in
set_option maxRecDepth 100000 in
theorem Q_Ip_minutesE {g : zG} {ad : Nat → Nat} {t : zTT} {u : zNN} {w : zW} (hI : IV g ad t u w) (x : Int32) (hw : ¬ (1 ≤ x ∧ x ≤ 60)) : zMB g M_Ip_minutes [.ref (ad 0), .int x] w (fun o w1 => zri ["java/lang/IllegalArgumentException"] o ∧ IV g ad t u w1) 1 6 := by
  obtain ⟨e_a, wf_a, k_a⟩ := hI.1.2 0 (by decide)
  obtain rfl := kd_0.mp k_a
  refine y_of (by decide) rfl (Nat.le_of_ble_eq_true rfl) (y_base (cs := [((ad 0), .inr (11, [.ref (ad 1), .ref (ad 5), .ref (ad 18), .ref (ad 31), .ref (ad 32), .ref (ad 36), .ref (ad 42), .ref (ad 45), .ref (ad 47), .ref (ad 49), .ref (ad 50), .ref (ad 51)]))]) (hI.1.I [0] _ rfl (by decide) (by decide) (List.forall_mem_cons.mpr ⟨wf_a, (fun _ h => nomatch h)⟩)) ?_)
  refine y_lvE (lv2 := [(0, .ref (ad 0)), (1, .int x)]) rfl ?_
  refine y_iload_n d_Ip_minutes_0 rfl 1 rfl ?_
  refine y_iconst d_Ip_minutes_1 (v := 1) (by decide) ?_
  refine y_bipush d_Ip_minutes_2 (v := 60) (by decide) ?_
  refine y_callS (As := [.int x, .int 1, .int 60]) (rest := []) (csC := []) (is := []) ln_Ip_203 w_st_Ip_isWithin ok_Ip_minutes_Ip_isWithin d_Ip_minutes_4 (C_Ip_isWithin g x 1 60) rfl rfl (Nat.le_of_ble_eq_true rfl) rfl (by decide) (by omega) (by omega) (fun E cs1 hx => ?_) (fun v cs1 hx => ?_)
  · exact absurd hx.1 (by simp)
  · obtain ⟨e1, rfl⟩ := hx
    rw [if_neg hw] at e1
    cases e1
    refine ⟨rfl, ?_⟩
    refine y_st (st2 := [.int 0]) rfl ?_
    refine y_cs (cs2 := [((ad 0), .inr (11, [.ref (ad 1), .ref (ad 5), .ref (ad 18), .ref (ad 31), .ref (ad 32), .ref (ad 36), .ref (ad 42), .ref (ad 45), .ref (ad 47), .ref (ad 49), .ref (ad 50), .ref (ad 51)]))]) rfl ?_
    refine y_if_ne (tgt := 21) d_Ip_minutes_7 (by decide) (fun c_7 => ?_) (fun c_7 => ?_)
    · exact absurd c_7 (by decide)
    · refine y_throwW tb_Ip_89_93 sr_Ip_336 d_Ip_minutes_10 d_Ip_minutes_13 d_Ip_minutes_14 d_Ip_minutes_17 d_Ip_minutes_20 rfl (by decide) (by decide) (Nat.le_of_ble_eq_true rfl) (by omega) (by omega) ?_
      exact fun w1 h1 => ⟨Or.inr ⟨_, List.Mem.head _, rfl⟩, (hI.gen (t2 := t) (is := [0]) (L2 := []) h1 rfl ⟨kd_0.mpr rfl, trivial⟩ (by decide) (by decide) (fun _ h => nomatch h) (fun _ h => nomatch h) (fun _ _ _ => rfl) (fun h => h) rfl)⟩
theorem d_Ip_ironBalances_110 : decode prog_1_method_68_code 110 = .ok (.iconst 0, 1) := zo_3 (zd_b zq_prog_1_method_68_code_3 14 rfl rfl rfl)
theorem d_Ip_ironBalances_55 : decode prog_1_method_68_code 55 = .ok (.aload_n 0, 1) := zo_42 (zd_b zq_prog_1_method_68_code_1 23 rfl rfl rfl)
theorem d_Ip_ironBalances_56 : decode prog_1_method_68_code 56 = .ok (.getfield 78, 3) := zo_180 (d := 0) (e := 78) (zd_b zq_prog_1_method_68_code_1 24 rfl rfl rfl) (zd_b zq_prog_1_method_68_code_1 25 rfl rfl rfl) (zd_b zq_prog_1_method_68_code_1 26 rfl rfl rfl)
theorem d_Ip_ironBalances_59 : decode prog_1_method_68_code 59 = .ok (.iload_n 3, 1) := zo_29 (zd_b zq_prog_1_method_68_code_1 27 rfl rfl rfl)
theorem d_Ip_ironBalances_60 : decode prog_1_method_68_code 60 = .ok (.invokevirtual 344, 3) := zo_182 (d := 1) (e := 88) (zd_b zq_prog_1_method_68_code_1 28 rfl rfl rfl) (zd_b zq_prog_1_method_68_code_1 29 rfl rfl rfl) (zd_b zq_prog_1_method_68_code_1 30 rfl rfl rfl)
theorem ok_Ip_ironBalances_AL_get : z_ok M_Ip_ironBalances M_AL_get 1 := ⟨z_mj2 (i := 180) rfl (by decide +kernel), rfl, ⟨by decide +kernel, by decide +kernel, by decide +kernel⟩, ⟨by decide, by decide⟩, z_mj1 (i := 13) rfl (by decide +kernel), rfl⟩
theorem d_Ip_ironBalances_63 : decode prog_1_method_68_code 63 = .ok (.checkcast 441, 3) := zo_192 (d := 1) (e := 185) (zd_b zq_prog_1_method_68_code_1 31 rfl rfl rfl) (zd_b zq_prog_1_method_68_code_2 0 rfl rfl rfl) (zd_b zq_prog_1_method_68_code_2 1 rfl rfl rfl)
theorem d_Ip_ironBalances_66 : decode prog_1_method_68_code 66 = .ok (.astore 4, 2) := zo_58 (d := 4) (zd_b zq_prog_1_method_68_code_2 2 rfl rfl rfl) (zd_b zq_prog_1_method_68_code_2 3 rfl rfl rfl)
theorem d_Ip_ironBalances_68 : decode prog_1_method_68_code 68 = .ok (.aload 4, 2) := zo_25 (d := 4) (zd_b zq_prog_1_method_68_code_2 4 rfl rfl rfl) (zd_b zq_prog_1_method_68_code_2 5 rfl rfl rfl)
theorem d_Ip_ironBalances_70 : decode prog_1_method_68_code 70 = .ok (.getfield 469, 3) := zo_180 (d := 1) (e := 213) (zd_b zq_prog_1_method_68_code_2 6 rfl rfl rfl) (zd_b zq_prog_1_method_68_code_2 7 rfl rfl rfl) (zd_b zq_prog_1_method_68_code_2 8 rfl rfl rfl)
theorem d_Ip_ironBalances_73 : decode prog_1_method_68_code 73 = .ok (.ifCond .ne 15, 3) := zo_154 (d := 0) (e := 15) (zd_b zq_prog_1_method_68_code_2 9 rfl rfl rfl) (zd_b zq_prog_1_method_68_code_2 10 rfl rfl rfl) (zd_b zq_prog_1_method_68_code_2 11 rfl rfl rfl) (by decide +kernel)
theorem d_Ip_ironBalances_88 : decode prog_1_method_68_code 88 = .ok (.iinc 3 1, 3) := by decide +kernel
theorem d_Ip_ironBalances_91 : decode prog_1_method_68_code 91 = .ok (.goto (-47), 3) := zo_167 (d := 255) (e := 209) (zd_b zq_prog_1_method_68_code_2 27 rfl rfl rfl) (zd_b zq_prog_1_method_68_code_2 28 rfl rfl rfl) (zd_b zq_prog_1_method_68_code_2 29 rfl rfl rfl) (by decide +kernel)
theorem d_Ip_ironBalances_76 : decode prog_1_method_68_code 76 = .ok (.lload_n 1, 1) := zo_31 (zd_b zq_prog_1_method_68_code_2 12 rfl rfl rfl)
theorem d_Ip_ironBalances_77 : decode prog_1_method_68_code 77 = .ok (.aload 4, 2) := zo_25 (d := 4) (zd_b zq_prog_1_method_68_code_2 13 rfl rfl rfl) (zd_b zq_prog_1_method_68_code_2 14 rfl rfl rfl)
theorem d_Ip_ironBalances_79 : decode prog_1_method_68_code 79 = .ok (.getfield 450, 3) := zo_180 (d := 1) (e := 194) (zd_b zq_prog_1_method_68_code_2 15 rfl rfl rfl) (zd_b zq_prog_1_method_68_code_2 16 rfl rfl rfl) (zd_b zq_prog_1_method_68_code_2 17 rfl rfl rfl)
theorem d_Ip_ironBalances_82 : decode prog_1_method_68_code 82 = .ok (.getfield 269, 3) := zo_180 (d := 1) (e := 13) (zd_b zq_prog_1_method_68_code_2 18 rfl rfl rfl) (zd_b zq_prog_1_method_68_code_2 19 rfl rfl rfl) (zd_b zq_prog_1_method_68_code_2 20 rfl rfl rfl)
theorem d_Ip_ironBalances_85 : decode prog_1_method_68_code 85 = .ok (.i2l, 1) := zo_133 (zd_b zq_prog_1_method_68_code_2 21 rfl rfl rfl)
theorem d_Ip_ironBalances_86 : decode prog_1_method_68_code 86 = .ok (.ladd, 1) := zo_97 (zd_b zq_prog_1_method_68_code_2 22 rfl rfl rfl)
theorem d_Ip_ironBalances_87 : decode prog_1_method_68_code 87 = .ok (.lstore_n 1, 1) := zo_64 (zd_b zq_prog_1_method_68_code_2 23 rfl rfl rfl)
