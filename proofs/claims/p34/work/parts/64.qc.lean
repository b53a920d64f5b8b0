theorem z_ix3 {k : Int32} (h : 0 ≤ z_ix 3 k) : k = 119 ∨ k = 104 ∨ k = 109 := by
  have := z_ixm h
  simpa [z_by] using this
set_option maxHeartbeats 4000000 in
theorem Q_Ip_drawE {g : zG} {ad : Nat → Nat} {t : zTT} {u : zNN} {w : zW} (hI : IV g ad t u w) (k x y u8 v8 : Int32) (hd : ¬ (0 ≤ z_ix 0 k ∧ (0 ≤ x ∧ x < 12 ∧ 0 ≤ y ∧ y < 9) ∧ 1 ≤ u8 ∧ u8 ≤ 12 - x ∧ 1 ≤ v8 ∧ v8 ≤ 9 - y)) : zMB g M_Ip_draw [.ref (ad 0), .int k, .int x, .int y, .int u8, .int v8] w (fun o w1 => (o = .inr "java/lang/IllegalArgumentException") ∧ IV g ad t u w1) 1 6 := by
  obtain ⟨e_a, w_a, k_a⟩ := hI.1.2 0 (by decide)
  obtain rfl := kd_0.mp k_a
  obtain ⟨e_pa, w_pa, k_pa⟩ := hI.1.2 1 (by decide)
  obtain rfl := kd_1.mp k_pa
  obtain ⟨e_pa1, w_pa1, k_pa1⟩ := hI.1.2 2 (by decide)
  obtain rfl := kd_2.mp k_pa1
  obtain ⟨e_pa2, w_pa2, k_pa2⟩ := hI.1.2 3 (by decide)
  obtain ⟨v_pa2_f, rfl⟩ := kd_3.mp k_pa2
  obtain ⟨e_pa3, w_pa3, k_pa3⟩ := hI.1.2 4 (by decide)
  obtain ⟨v_pa3_h, rfl⟩ := kd_4.mp k_pa3
  refine ((C_Ip_drawE g (ad 0) (ad 1) (ad 5) (ad 18) (ad 31) (ad 32) (ad 36) (ad 42) (ad 45) (ad 47) (ad 49) (ad 50) (ad 51) (ad 2) (ad 3) (ad 4) t.1 v_pa2_f v_pa3_h t.2.2.1 k x y u8 v8 hd).at (hI.1.I [0, 1, 2, 3, 4] _ rfl (by decide) (by decide) (List.forall_mem_cons.mpr ⟨w_a, (List.forall_mem_cons.mpr ⟨w_pa, (List.forall_mem_cons.mpr ⟨w_pa1, (List.forall_mem_cons.mpr ⟨w_pa2, (List.forall_mem_cons.mpr ⟨w_pa3, (fun _ h => nomatch h)⟩)⟩)⟩)⟩)⟩))).mono (Nat.le_of_ble_eq_true rfl) (Nat.le_of_ble_eq_true rfl) (fun o w1 hp => ?_)
  obtain ⟨cs1, hp, hi9⟩ := hp
  obtain ⟨e1, e2⟩ := hp
  subst e1; subst e2
  exact ⟨rfl, hI.fix (t2 := t) (is := [0, 1, 2, 3, 4]) hi9 rfl ⟨kd_0.mpr rfl, kd_1.mpr rfl, kd_2.mpr rfl, kd_3.mpr ⟨_, rfl⟩, kd_4.mpr ⟨_, rfl⟩, trivial⟩ (by decide) (by decide) (fun _ _ _ _ h => h) (fun h => h)⟩
set_option maxHeartbeats 4000000 in
theorem Q_Ip_drawN {g : zG} {ad : Nat → Nat} {t : zTT} {u : zNN} {w : zW} (hI : IV g ad t u w) (kd : Int32) (hk : z_kind kd) (hki : 0 ≤ z_ix 0 kd) (x y u9 v9 : Nat) (hx : x + u9 ≤ 12) (hy : y + v9 ≤ 9) (hu : 1 ≤ u9) (hv : 1 ≤ v9) : zMB g M_Ip_draw [.ref (ad 0), .int kd, .int (nI x), .int (nI y), .int (nI u9), .int (nI v9)] w (fun o w1 => (o = .inl (some (.int (nI (prect kd x y u9 (t.1, 0) v9).2)))) ∧ IV g ad ((prect kd x y u9 (t.1, 0) v9).1, t.2) u w1) 1 6 := by
  obtain ⟨e_a, w_a, k_a⟩ := hI.1.2 0 (by decide)
  obtain rfl := kd_0.mp k_a
  obtain ⟨e_pa, w_pa, k_pa⟩ := hI.1.2 1 (by decide)
  obtain rfl := kd_1.mp k_pa
  obtain ⟨e_pa1, w_pa1, k_pa1⟩ := hI.1.2 2 (by decide)
  obtain rfl := kd_2.mp k_pa1
  obtain ⟨e_pa2, w_pa2, k_pa2⟩ := hI.1.2 3 (by decide)
  obtain ⟨v_pa2_f, rfl⟩ := kd_3.mp k_pa2
  obtain ⟨e_pa3, w_pa3, k_pa3⟩ := hI.1.2 4 (by decide)
  obtain ⟨v_pa3_h, rfl⟩ := kd_4.mp k_pa3
  obtain ⟨e_ta, w_ta, k_ta⟩ := hI.1.2 5 (by decide)
  obtain ⟨v_ta_x, v_ta_y, rfl⟩ := kd_5.mp k_ta
  obtain ⟨e_ta1, w_ta1, k_ta1⟩ := hI.1.2 6 (by decide)
  obtain ⟨v_ta1_f, rfl⟩ := kd_6.mp k_ta1
  obtain ⟨e_ta2, w_ta2, k_ta2⟩ := hI.1.2 7 (by decide)
  obtain ⟨v_ta2_f, rfl⟩ := kd_7.mp k_ta2
  obtain ⟨e_taz, w_taz, k_taz⟩ := hI.1.2 8 (by decide)
  obtain ⟨v_taz_x, rfl⟩ := kd_8.mp k_taz
  obtain ⟨e_taz1, w_taz1, k_taz1⟩ := hI.1.2 9 (by decide)
  obtain ⟨v_taz1_f, rfl⟩ := kd_9.mp k_taz1
  obtain ⟨e_taz2, w_taz2, k_taz2⟩ := hI.1.2 10 (by decide)
  obtain ⟨v_taz2_f, rfl⟩ := kd_10.mp k_taz2
  obtain ⟨e_taz3, w_taz3, k_taz3⟩ := hI.1.2 11 (by decide)
  obtain ⟨v_taz3_f, rfl⟩ := kd_11.mp k_taz3
  obtain ⟨e_taz4, w_taz4, k_taz4⟩ := hI.1.2 12 (by decide)
  obtain ⟨v_taz4_f, rfl⟩ := kd_12.mp k_taz4
  obtain ⟨e_taz5, w_taz5, k_taz5⟩ := hI.1.2 13 (by decide)
  obtain ⟨v_taz5_f, rfl⟩ := kd_13.mp k_taz5
  obtain ⟨e_taz6, w_taz6, k_taz6⟩ := hI.1.2 14 (by decide)
  obtain ⟨v_taz6_f, rfl⟩ := kd_14.mp k_taz6
  obtain ⟨e_ta4, w_ta4, k_ta4⟩ := hI.1.2 15 (by decide)
  obtain ⟨v_ta4_f, c_ta4_0, rfl⟩ := kd_15.mp k_ta4
  obtain ⟨e_ta5, w_ta5, k_ta5⟩ := hI.1.2 16 (by decide)
  obtain ⟨v_ta5_f, rfl⟩ := kd_16.mp k_ta5
  obtain ⟨e_ta6, w_ta6, k_ta6⟩ := hI.1.2 17 (by decide)
  obtain ⟨v_ta6_h, rfl⟩ := kd_17.mp k_ta6
  by_cases hz : (prect kd x y u9 (t.1, 0) v9).2 = 0
  · refine ((C_Ip_drawZ g (ad 0) (ad 1) (ad 5) (ad 18) (ad 31) (ad 32) (ad 36) (ad 42) (ad 45) (ad 47) (ad 49) (ad 50) (ad 51) (ad 2) (ad 3) (ad 4) t.1 v_pa2_f v_pa3_h t.2.2.1 (ad 6) (ad 7) (ad 8) (ad 9) (ad 10) (ad 11) (ad 12) (ad 13) (ad 14) (ad 15) (ad 16) (ad 17) ((v_ta1_f, v_ta2_f, v_ta_x, v_ta_y), (((v_taz1_f, v_taz3_f, v_taz4_f, v_taz_x), v_taz2_f), v_taz5_f, v_taz6_f), (v_ta4_f, v_ta5_f, v_ta6_h)) kd hk hki x y u9 v9 hx hy hu hv hz).at (hI.1.I [0, 1, 2, 3, 4, 5, 6, 7, 8, 9, 10, 11, 12, 13, 14, 15, 16, 17] _ rfl (by decide) (by decide) (List.forall_mem_cons.mpr ⟨w_a, (List.forall_mem_cons.mpr ⟨w_pa, (List.forall_mem_cons.mpr ⟨w_pa1, (List.forall_mem_cons.mpr ⟨w_pa2, (List.forall_mem_cons.mpr ⟨w_pa3, (List.forall_mem_cons.mpr ⟨w_ta, (List.forall_mem_cons.mpr ⟨w_ta1, (List.forall_mem_cons.mpr ⟨w_ta2, (List.forall_mem_cons.mpr ⟨w_taz, (List.forall_mem_cons.mpr ⟨w_taz1, (List.forall_mem_cons.mpr ⟨w_taz2, (List.forall_mem_cons.mpr ⟨w_taz3, (List.forall_mem_cons.mpr ⟨w_taz4, (List.forall_mem_cons.mpr ⟨w_taz5, (List.forall_mem_cons.mpr ⟨w_taz6, (List.forall_mem_cons.mpr ⟨w_ta4, (List.forall_mem_cons.mpr ⟨w_ta5, (List.forall_mem_cons.mpr ⟨w_ta6, (fun _ h => nomatch h)⟩)⟩)⟩)⟩)⟩)⟩)⟩)⟩)⟩)⟩)⟩)⟩)⟩)⟩)⟩)⟩)⟩)⟩))).mono (Nat.le_of_ble_eq_true rfl) (Nat.le_of_ble_eq_true rfl) (fun o w1 hp => ?_)
    obtain ⟨cs1, hp, hi9⟩ := hp
    obtain ⟨e1, e2⟩ := hp
    subst e1; subst e2
    exact ⟨rfl, hI.fix (t2 := ((prect kd x y u9 (t.1, 0) v9).1, t.2)) (is := [0, 1, 2, 3, 4, 5, 6, 7, 8, 9, 10, 11, 12, 13, 14, 15, 16, 17]) hi9 rfl ⟨kd_0.mpr rfl, kd_1.mpr rfl, kd_2.mpr rfl, kd_3.mpr ⟨_, rfl⟩, kd_4.mpr ⟨_, rfl⟩, kd_5.mpr ⟨_, _, rfl⟩, kd_6.mpr ⟨_, rfl⟩, kd_7.mpr ⟨_, rfl⟩, kd_8.mpr ⟨_, rfl⟩, kd_9.mpr ⟨_, rfl⟩, kd_10.mpr ⟨_, rfl⟩, kd_11.mpr ⟨_, rfl⟩, kd_12.mpr ⟨_, rfl⟩, kd_13.mpr ⟨_, rfl⟩, kd_14.mpr ⟨_, rfl⟩, kd_15.mpr ⟨_, c_ta4_0, rfl⟩, kd_16.mpr ⟨_, rfl⟩, kd_17.mpr ⟨_, rfl⟩, trivial⟩ (by decide) (by decide) (fun i e hi hn => KD.cg i e hi (fun _ => rfl) (fun e => absurd (by rw [e]; decide) hn) (fun _ => ⟨rfl, rfl, rfl⟩) (fun _ => ⟨rfl, rfl, rfl⟩) (fun _ => rfl)) (fun h => ⟨prect_ch hk h.1 v9, h.2⟩)⟩
  · refine ((C_Ip_drawN g (ad 0) (ad 1) (ad 5) (ad 18) (ad 31) (ad 32) (ad 36) (ad 42) (ad 45) (ad 47) (ad 49) (ad 50) (ad 51) (ad 2) (ad 3) (ad 4) t.1 v_pa2_f v_pa3_h t.2.2.1 (ad 6) (ad 7) (ad 8) (ad 9) (ad 10) (ad 11) (ad 12) (ad 13) (ad 14) (ad 15) (ad 16) (ad 17) ((v_ta1_f, v_ta2_f, v_ta_x, v_ta_y), (((v_taz1_f, v_taz3_f, v_taz4_f, v_taz_x), v_taz2_f), v_taz5_f, v_taz6_f), (v_ta4_f, v_ta5_f, v_ta6_h)) kd hk hki x y u9 v9 hx hy hu hv hz (prect_ch hk hI.2.2.1 v9)).at (hI.1.I [0, 1, 2, 3, 4, 5, 6, 7, 8, 9, 10, 11, 12, 13, 14, 15, 16, 17] _ rfl (by decide) (by decide) (List.forall_mem_cons.mpr ⟨w_a, (List.forall_mem_cons.mpr ⟨w_pa, (List.forall_mem_cons.mpr ⟨w_pa1, (List.forall_mem_cons.mpr ⟨w_pa2, (List.forall_mem_cons.mpr ⟨w_pa3, (List.forall_mem_cons.mpr ⟨w_ta, (List.forall_mem_cons.mpr ⟨w_ta1, (List.forall_mem_cons.mpr ⟨w_ta2, (List.forall_mem_cons.mpr ⟨w_taz, (List.forall_mem_cons.mpr ⟨w_taz1, (List.forall_mem_cons.mpr ⟨w_taz2, (List.forall_mem_cons.mpr ⟨w_taz3, (List.forall_mem_cons.mpr ⟨w_taz4, (List.forall_mem_cons.mpr ⟨w_taz5, (List.forall_mem_cons.mpr ⟨w_taz6, (List.forall_mem_cons.mpr ⟨w_ta4, (List.forall_mem_cons.mpr ⟨w_ta5, (List.forall_mem_cons.mpr ⟨w_ta6, (fun _ h => nomatch h)⟩)⟩)⟩)⟩)⟩)⟩)⟩)⟩)⟩)⟩)⟩)⟩)⟩)⟩)⟩)⟩)⟩)⟩))).mono (Nat.le_of_ble_eq_true rfl) (Nat.le_of_ble_eq_true rfl) (fun o w1 hp => ?_)
    obtain ⟨cs1, hp, hi9⟩ := hp
    obtain ⟨e1, e2⟩ := hp
    subst e1; subst e2
    exact ⟨rfl, hI.fix (t2 := ((prect kd x y u9 (t.1, 0) v9).1, t.2)) (is := [0, 1, 2, 3, 4, 5, 6, 7, 8, 9, 10, 11, 12, 13, 14, 15, 16, 17]) hi9 rfl ⟨kd_0.mpr rfl, kd_1.mpr rfl, kd_2.mpr rfl, kd_3.mpr ⟨_, rfl⟩, kd_4.mpr ⟨_, rfl⟩, kd_5.mpr ⟨_, _, rfl⟩, kd_6.mpr ⟨_, rfl⟩, kd_7.mpr ⟨_, rfl⟩, kd_8.mpr ⟨_, rfl⟩, kd_9.mpr ⟨_, rfl⟩, kd_10.mpr ⟨_, rfl⟩, kd_11.mpr ⟨_, rfl⟩, kd_12.mpr ⟨_, rfl⟩, kd_13.mpr ⟨_, rfl⟩, kd_14.mpr ⟨_, rfl⟩, kd_15.mpr ⟨_, c_ta4_0, rfl⟩, kd_16.mpr ⟨_, rfl⟩, kd_17.mpr ⟨_, rfl⟩, trivial⟩ (by decide) (by decide) (fun i e hi hn => KD.cg i e hi (fun _ => rfl) (fun e => absurd (by rw [e]; decide) hn) (fun _ => ⟨rfl, rfl, rfl⟩) (fun _ => ⟨rfl, rfl, rfl⟩) (fun _ => rfl)) (fun h => ⟨prect_ch hk h.1 v9, h.2⟩)⟩
set_option maxHeartbeats 4000000 in
theorem Q_Ip_cellE {g : zG} {ad : Nat → Nat} {t : zTT} {u : zNN} {w : zW} (hI : IV g ad t u w) (x y : Int32) (hz : z_cl x y = none) : zMB g M_Ip_cell [.ref (ad 0), .int x, .int y] w (fun o w1 => (o = .inr "java/lang/IndexOutOfBoundsException") ∧ IV g ad t u w1) 1 6 := by
  obtain ⟨e_a, w_a, k_a⟩ := hI.1.2 0 (by decide)
  obtain rfl := kd_0.mp k_a
  obtain ⟨e_pa, w_pa, k_pa⟩ := hI.1.2 1 (by decide)
  obtain rfl := kd_1.mp k_pa
  obtain ⟨e_pa1, w_pa1, k_pa1⟩ := hI.1.2 2 (by decide)
  obtain rfl := kd_2.mp k_pa1
  obtain ⟨e_pa2, w_pa2, k_pa2⟩ := hI.1.2 3 (by decide)
  obtain ⟨v_pa2_f, rfl⟩ := kd_3.mp k_pa2
  obtain ⟨e_pa3, w_pa3, k_pa3⟩ := hI.1.2 4 (by decide)
  obtain ⟨v_pa3_h, rfl⟩ := kd_4.mp k_pa3
  refine ((C_Ip_cellE g (ad 0) (ad 1) (ad 5) (ad 18) (ad 31) (ad 32) (ad 36) (ad 42) (ad 45) (ad 47) (ad 49) (ad 50) (ad 51) (ad 2) (ad 3) (ad 4) t.1 v_pa2_f v_pa3_h t.2.2.1 x y hz).at (hI.1.I [0, 1, 2, 3, 4] _ rfl (by decide) (by decide) (List.forall_mem_cons.mpr ⟨w_a, (List.forall_mem_cons.mpr ⟨w_pa, (List.forall_mem_cons.mpr ⟨w_pa1, (List.forall_mem_cons.mpr ⟨w_pa2, (List.forall_mem_cons.mpr ⟨w_pa3, (fun _ h => nomatch h)⟩)⟩)⟩)⟩)⟩))).mono (Nat.le_of_ble_eq_true rfl) (Nat.le_of_ble_eq_true rfl) (fun o w1 hp => ?_)
  obtain ⟨cs1, hp, hi9⟩ := hp
  obtain ⟨e1, e2⟩ := hp
  subst e1; subst e2
  exact ⟨rfl, hI.fix (t2 := t) (is := [0, 1, 2, 3, 4]) hi9 rfl ⟨kd_0.mpr rfl, kd_1.mpr rfl, kd_2.mpr rfl, kd_3.mpr ⟨_, rfl⟩, kd_4.mpr ⟨_, rfl⟩, trivial⟩ (by decide) (by decide) (fun _ _ _ _ h => h) (fun h => h)⟩
set_option maxHeartbeats 4000000 in
theorem Q_Ip_cellN {g : zG} {ad : Nat → Nat} {t : zTT} {u : zNN} {w : zW} (hI : IV g ad t u w) (x y : Int32) (c : Nat) (hz : z_cl x y = some c) : zMB g M_Ip_cell [.ref (ad 0), .int x, .int y] w (fun o w1 => (o = .inl (some (.int (t.1 c)))) ∧ IV g ad t u w1) 1 6 := by
  obtain ⟨e_a, w_a, k_a⟩ := hI.1.2 0 (by decide)
  obtain rfl := kd_0.mp k_a
  obtain ⟨e_pa, w_pa, k_pa⟩ := hI.1.2 1 (by decide)
  obtain rfl := kd_1.mp k_pa
  obtain ⟨e_pa1, w_pa1, k_pa1⟩ := hI.1.2 2 (by decide)
  obtain rfl := kd_2.mp k_pa1
  obtain ⟨e_pa2, w_pa2, k_pa2⟩ := hI.1.2 3 (by decide)
  obtain ⟨v_pa2_f, rfl⟩ := kd_3.mp k_pa2
  obtain ⟨e_pa3, w_pa3, k_pa3⟩ := hI.1.2 4 (by decide)
  obtain ⟨v_pa3_h, rfl⟩ := kd_4.mp k_pa3
  refine ((C_Ip_cellN g (ad 0) (ad 1) (ad 5) (ad 18) (ad 31) (ad 32) (ad 36) (ad 42) (ad 45) (ad 47) (ad 49) (ad 50) (ad 51) (ad 2) (ad 3) (ad 4) t.1 v_pa2_f v_pa3_h t.2.2.1 x y c hz hI.2.2.1).at (hI.1.I [0, 1, 2, 3, 4] _ rfl (by decide) (by decide) (List.forall_mem_cons.mpr ⟨w_a, (List.forall_mem_cons.mpr ⟨w_pa, (List.forall_mem_cons.mpr ⟨w_pa1, (List.forall_mem_cons.mpr ⟨w_pa2, (List.forall_mem_cons.mpr ⟨w_pa3, (fun _ h => nomatch h)⟩)⟩)⟩)⟩)⟩))).mono (Nat.le_of_ble_eq_true rfl) (Nat.le_of_ble_eq_true rfl) (fun o w1 hp => ?_)
  obtain ⟨cs1, hp, hi9⟩ := hp
  obtain ⟨e1, e2⟩ := hp
  subst e1; subst e2
  exact ⟨rfl, hI.fix (t2 := t) (is := [0, 1, 2, 3, 4]) hi9 rfl ⟨kd_0.mpr rfl, kd_1.mpr rfl, kd_2.mpr rfl, kd_3.mpr ⟨_, rfl⟩, kd_4.mpr ⟨_, rfl⟩, trivial⟩ (by decide) (by decide) (fun _ _ _ _ h => h) (fun h => h)⟩
set_option maxHeartbeats 4000000 in
theorem Q_Ip_partE {g : zG} {ad : Nat → Nat} {t : zTT} {u : zNN} {w : zW} (hI : IV g ad t u w) (r : Int32) (hr : r < 1 ∨ 9 ≤ r) : zMB g M_Ip_part [.ref (ad 0), .int r] w (fun o w1 => (o = .inr "java/lang/IllegalArgumentException") ∧ IV g ad t u w1) 1 6 := by
  obtain ⟨e_a, w_a, k_a⟩ := hI.1.2 0 (by decide)
  obtain rfl := kd_0.mp k_a
  obtain ⟨e_pa, w_pa, k_pa⟩ := hI.1.2 1 (by decide)
  obtain rfl := kd_1.mp k_pa
  obtain ⟨e_pa1, w_pa1, k_pa1⟩ := hI.1.2 2 (by decide)
  obtain rfl := kd_2.mp k_pa1
  obtain ⟨e_pa2, w_pa2, k_pa2⟩ := hI.1.2 3 (by decide)
  obtain ⟨v_pa2_f, rfl⟩ := kd_3.mp k_pa2
  obtain ⟨e_pa3, w_pa3, k_pa3⟩ := hI.1.2 4 (by decide)
  obtain ⟨v_pa3_h, rfl⟩ := kd_4.mp k_pa3
  refine ((C_Ip_partE g (ad 0) (ad 1) (ad 5) (ad 18) (ad 31) (ad 32) (ad 36) (ad 42) (ad 45) (ad 47) (ad 49) (ad 50) (ad 51) (ad 2) (ad 3) (ad 4) t.1 v_pa2_f v_pa3_h t.2.2.1 r hr).at (hI.1.I [0, 1, 2, 3, 4] _ rfl (by decide) (by decide) (List.forall_mem_cons.mpr ⟨w_a, (List.forall_mem_cons.mpr ⟨w_pa, (List.forall_mem_cons.mpr ⟨w_pa1, (List.forall_mem_cons.mpr ⟨w_pa2, (List.forall_mem_cons.mpr ⟨w_pa3, (fun _ h => nomatch h)⟩)⟩)⟩)⟩)⟩))).mono (Nat.le_of_ble_eq_true rfl) (Nat.le_of_ble_eq_true rfl) (fun o w1 hp => ?_)
  obtain ⟨cs1, hp, hi9⟩ := hp
  obtain ⟨e1, e2⟩ := hp
  subst e1; subst e2
  exact ⟨rfl, hI.fix (t2 := t) (is := [0, 1, 2, 3, 4]) hi9 rfl ⟨kd_0.mpr rfl, kd_1.mpr rfl, kd_2.mpr rfl, kd_3.mpr ⟨_, rfl⟩, kd_4.mpr ⟨_, rfl⟩, trivial⟩ (by decide) (by decide) (fun _ _ _ _ h => h) (fun h => h)⟩
set_option maxHeartbeats 4000000 in
theorem Q_Ip_partN {g : zG} {ad : Nat → Nat} {t : zTT} {u : zNN} {w : zW} (hI : IV g ad t u w) (p9 : Nat) (h1 : 1 ≤ p9) (h2 : p9 < 9) (hr : ¬ (nI p9 < 1 ∨ 9 ≤ nI p9)) : zMB g M_Ip_part [.ref (ad 0), .int (nI p9)] w (fun o w1 => (o = .inl (some (.int (nI t.2.2.1)))) ∧ IV g ad (t.1, t.2.1, p9, t.2.2.2) u w1) 1 6 := by
  obtain ⟨e_a, w_a, k_a⟩ := hI.1.2 0 (by decide)
  obtain rfl := kd_0.mp k_a
  obtain ⟨e_pa, w_pa, k_pa⟩ := hI.1.2 1 (by decide)
  obtain rfl := kd_1.mp k_pa
  obtain ⟨e_pa1, w_pa1, k_pa1⟩ := hI.1.2 2 (by decide)
  obtain rfl := kd_2.mp k_pa1
  obtain ⟨e_pa2, w_pa2, k_pa2⟩ := hI.1.2 3 (by decide)
  obtain ⟨v_pa2_f, rfl⟩ := kd_3.mp k_pa2
  obtain ⟨e_pa3, w_pa3, k_pa3⟩ := hI.1.2 4 (by decide)
  obtain ⟨v_pa3_h, rfl⟩ := kd_4.mp k_pa3
  refine ((C_Ip_partN g (ad 0) (ad 1) (ad 5) (ad 18) (ad 31) (ad 32) (ad 36) (ad 42) (ad 45) (ad 47) (ad 49) (ad 50) (ad 51) (ad 2) (ad 3) (ad 4) t.1 v_pa2_f v_pa3_h t.2.2.1 (nI p9) hr).at (hI.1.I [0, 1, 2, 3, 4] _ rfl (by decide) (by decide) (List.forall_mem_cons.mpr ⟨w_a, (List.forall_mem_cons.mpr ⟨w_pa, (List.forall_mem_cons.mpr ⟨w_pa1, (List.forall_mem_cons.mpr ⟨w_pa2, (List.forall_mem_cons.mpr ⟨w_pa3, (fun _ h => nomatch h)⟩)⟩)⟩)⟩)⟩))).mono (Nat.le_of_ble_eq_true rfl) (Nat.le_of_ble_eq_true rfl) (fun o w1 hp => ?_)
  obtain ⟨cs1, hp, hi9⟩ := hp
  obtain ⟨e1, e2⟩ := hp
  subst e1; subst e2
  exact ⟨rfl, hI.fix (t2 := (t.1, t.2.1, p9, t.2.2.2)) (is := [0, 1, 2, 3, 4]) hi9 rfl ⟨kd_0.mpr rfl, kd_1.mpr rfl, kd_2.mpr rfl, kd_3.mpr ⟨_, rfl⟩, kd_4.mpr ⟨_, rfl⟩, trivial⟩ (by decide) (by decide) (fun i e hi hn => KD.cg i e hi (fun e => absurd (by rw [e]; decide) hn) (fun _ => rfl) (fun _ => ⟨rfl, rfl, rfl⟩) (fun _ => ⟨rfl, rfl, rfl⟩) (fun _ => rfl)) (fun h => ⟨h.1, h.2.1, ⟨h1, h2⟩, h.2.2.2⟩)⟩
set_option maxHeartbeats 4000000 in
theorem Q_Ip_undercut {g : zG} {ad : Nat → Nat} {t : zTT} {u : zNN} {w : zW} (hI : IV g ad t u w) : zMB g M_Ip_undercut [.ref (ad 0)] w (fun o w1 => (o = .inl (some (.int (nI (ucT t.1 t.2.2.1 12))))) ∧ IV g ad t u w1) 0 0 := by
  obtain ⟨e_a, w_a, k_a⟩ := hI.1.2 0 (by decide)
  obtain rfl := kd_0.mp k_a
  obtain ⟨e_pa, w_pa, k_pa⟩ := hI.1.2 1 (by decide)
  obtain rfl := kd_1.mp k_pa
  obtain ⟨e_pa1, w_pa1, k_pa1⟩ := hI.1.2 2 (by decide)
  obtain rfl := kd_2.mp k_pa1
  obtain ⟨e_pa2, w_pa2, k_pa2⟩ := hI.1.2 3 (by decide)
  obtain ⟨v_pa2_f, rfl⟩ := kd_3.mp k_pa2
  obtain ⟨e_pa3, w_pa3, k_pa3⟩ := hI.1.2 4 (by decide)
  obtain ⟨v_pa3_h, rfl⟩ := kd_4.mp k_pa3
  refine ((C_Ip_undercut g (ad 0) (ad 1) (ad 5) (ad 18) (ad 31) (ad 32) (ad 36) (ad 42) (ad 45) (ad 47) (ad 49) (ad 50) (ad 51) (ad 2) (ad 3) (ad 4) t.1 v_pa2_f v_pa3_h t.2.2.1 hI.2.2.2.2.1.1 hI.2.2.2.2.1.2).at (hI.1.I [0, 1, 2, 3, 4] _ rfl (by decide) (by decide) (List.forall_mem_cons.mpr ⟨w_a, (List.forall_mem_cons.mpr ⟨w_pa, (List.forall_mem_cons.mpr ⟨w_pa1, (List.forall_mem_cons.mpr ⟨w_pa2, (List.forall_mem_cons.mpr ⟨w_pa3, (fun _ h => nomatch h)⟩)⟩)⟩)⟩)⟩))).mono (Nat.le_of_ble_eq_true rfl) (Nat.le_of_ble_eq_true rfl) (fun o w1 hp => ?_)
  obtain ⟨cs1, hp, hi9⟩ := hp
  obtain ⟨e1, e2⟩ := hp
  subst e1; subst e2
  exact ⟨rfl, hI.fix (t2 := t) (is := [0, 1, 2, 3, 4]) hi9 rfl ⟨kd_0.mpr rfl, kd_1.mpr rfl, kd_2.mpr rfl, kd_3.mpr ⟨_, rfl⟩, kd_4.mpr ⟨_, rfl⟩, trivial⟩ (by decide) (by decide) (fun _ _ _ _ h => h) (fun h => h)⟩
set_option maxHeartbeats 4000000 in
theorem Q_Ip_cores {g : zG} {ad : Nat → Nat} {t : zTT} {u : zNN} {w : zW} (hI : IV g ad t u w) : zMB g M_Ip_cores [.ref (ad 0)] w (fun o w1 => (zri [] o) ∧ IV g ad t u w1) 0 0 := by
  obtain ⟨e_a, w_a, k_a⟩ := hI.1.2 0 (by decide)
  obtain rfl := kd_0.mp k_a
  obtain ⟨e_pa, w_pa, k_pa⟩ := hI.1.2 1 (by decide)
  obtain rfl := kd_1.mp k_pa
  obtain ⟨e_pa1, w_pa1, k_pa1⟩ := hI.1.2 2 (by decide)
  obtain rfl := kd_2.mp k_pa1
  obtain ⟨e_pa2, w_pa2, k_pa2⟩ := hI.1.2 3 (by decide)
  obtain ⟨v_pa2_f, rfl⟩ := kd_3.mp k_pa2
  obtain ⟨e_pa3, w_pa3, k_pa3⟩ := hI.1.2 4 (by decide)
  obtain ⟨v_pa3_h, rfl⟩ := kd_4.mp k_pa3
  refine ((C_Ip_cores g (ad 0) (ad 1) (ad 5) (ad 18) (ad 31) (ad 32) (ad 36) (ad 42) (ad 45) (ad 47) (ad 49) (ad 50) (ad 51) (ad 2) (ad 3) (ad 4) t.1 v_pa2_f v_pa3_h t.2.2.1).at (hI.1.I [0, 1, 2, 3, 4] _ rfl (by decide) (by decide) (List.forall_mem_cons.mpr ⟨w_a, (List.forall_mem_cons.mpr ⟨w_pa, (List.forall_mem_cons.mpr ⟨w_pa1, (List.forall_mem_cons.mpr ⟨w_pa2, (List.forall_mem_cons.mpr ⟨w_pa3, (fun _ h => nomatch h)⟩)⟩)⟩)⟩)⟩))).mono (Nat.le_of_ble_eq_true rfl) (Nat.le_of_ble_eq_true rfl) (fun o w1 hp => ?_)
  obtain ⟨cs1, hp, hi9⟩ := hp
  obtain ⟨e1, e2⟩ := hp
  subst e1; subst e2
  exact ⟨Or.inl ⟨_, rfl⟩, hI.fix (t2 := t) (is := [0, 1, 2, 3, 4]) hi9 rfl ⟨kd_0.mpr rfl, kd_1.mpr rfl, kd_2.mpr rfl, kd_3.mpr ⟨_, rfl⟩, kd_4.mpr ⟨_, rfl⟩, trivial⟩ (by decide) (by decide) (fun _ _ _ _ h => h) (fun h => h)⟩
set_option maxHeartbeats 4000000 in
theorem Q_Ip_loose {g : zG} {ad : Nat → Nat} {t : zTT} {u : zNN} {w : zW} (hI : IV g ad t u w) : zMB g M_Ip_loose [.ref (ad 0)] w (fun o w1 => (zri [] o) ∧ IV g ad t u w1) 0 0 := by
  obtain ⟨e_a, w_a, k_a⟩ := hI.1.2 0 (by decide)
  obtain rfl := kd_0.mp k_a
  obtain ⟨e_pa, w_pa, k_pa⟩ := hI.1.2 1 (by decide)
  obtain rfl := kd_1.mp k_pa
  obtain ⟨e_pa1, w_pa1, k_pa1⟩ := hI.1.2 2 (by decide)
  obtain rfl := kd_2.mp k_pa1
  obtain ⟨e_pa2, w_pa2, k_pa2⟩ := hI.1.2 3 (by decide)
  obtain ⟨v_pa2_f, rfl⟩ := kd_3.mp k_pa2
  obtain ⟨e_pa3, w_pa3, k_pa3⟩ := hI.1.2 4 (by decide)
  obtain ⟨v_pa3_h, rfl⟩ := kd_4.mp k_pa3
  refine ((C_Ip_loose g (ad 0) (ad 1) (ad 5) (ad 18) (ad 31) (ad 32) (ad 36) (ad 42) (ad 45) (ad 47) (ad 49) (ad 50) (ad 51) (ad 2) (ad 3) (ad 4) t.1 v_pa2_f v_pa3_h t.2.2.1).at (hI.1.I [0, 1, 2, 3, 4] _ rfl (by decide) (by decide) (List.forall_mem_cons.mpr ⟨w_a, (List.forall_mem_cons.mpr ⟨w_pa, (List.forall_mem_cons.mpr ⟨w_pa1, (List.forall_mem_cons.mpr ⟨w_pa2, (List.forall_mem_cons.mpr ⟨w_pa3, (fun _ h => nomatch h)⟩)⟩)⟩)⟩)⟩))).mono (Nat.le_of_ble_eq_true rfl) (Nat.le_of_ble_eq_true rfl) (fun o w1 hp => ?_)
  obtain ⟨cs1, hp, hi9⟩ := hp
  obtain ⟨e1, e2⟩ := hp
  subst e1; subst e2
  exact ⟨Or.inl ⟨_, rfl⟩, hI.fix (t2 := t) (is := [0, 1, 2, 3, 4]) hi9 rfl ⟨kd_0.mpr rfl, kd_1.mpr rfl, kd_2.mpr rfl, kd_3.mpr ⟨_, rfl⟩, kd_4.mpr ⟨_, rfl⟩, trivial⟩ (by decide) (by decide) (fun _ _ _ _ h => h) (fun h => h)⟩
set_option maxHeartbeats 4000000 in
theorem Q_Ip_weight {g : zG} {ad : Nat → Nat} {t : zTT} {u : zNN} {w : zW} (hI : IV g ad t u w) : zMB g M_Ip_weight [.ref (ad 0)] w (fun o w1 => (o = .inl (some (.int (2 * nI (fa_cnt (fun k => tmB (t.1 k)) 108))))) ∧ IV g ad t u w1) 0 0 := by
  obtain ⟨e_a, w_a, k_a⟩ := hI.1.2 0 (by decide)
  obtain rfl := kd_0.mp k_a
  obtain ⟨e_pa, w_pa, k_pa⟩ := hI.1.2 1 (by decide)
  obtain rfl := kd_1.mp k_pa
  obtain ⟨e_pa1, w_pa1, k_pa1⟩ := hI.1.2 2 (by decide)
  obtain rfl := kd_2.mp k_pa1
  obtain ⟨e_pa2, w_pa2, k_pa2⟩ := hI.1.2 3 (by decide)
  obtain ⟨v_pa2_f, rfl⟩ := kd_3.mp k_pa2
  obtain ⟨e_pa3, w_pa3, k_pa3⟩ := hI.1.2 4 (by decide)
  obtain ⟨v_pa3_h, rfl⟩ := kd_4.mp k_pa3
  refine ((C_Ip_weight g (ad 0) (ad 1) (ad 5) (ad 18) (ad 31) (ad 32) (ad 36) (ad 42) (ad 45) (ad 47) (ad 49) (ad 50) (ad 51) (ad 2) (ad 3) (ad 4) t.1 v_pa2_f v_pa3_h t.2.2.1).at (hI.1.I [0, 1, 2, 3, 4] _ rfl (by decide) (by decide) (List.forall_mem_cons.mpr ⟨w_a, (List.forall_mem_cons.mpr ⟨w_pa, (List.forall_mem_cons.mpr ⟨w_pa1, (List.forall_mem_cons.mpr ⟨w_pa2, (List.forall_mem_cons.mpr ⟨w_pa3, (fun _ h => nomatch h)⟩)⟩)⟩)⟩)⟩))).mono (Nat.le_of_ble_eq_true rfl) (Nat.le_of_ble_eq_true rfl) (fun o w1 hp => ?_)
  obtain ⟨cs1, hp, hi9⟩ := hp
  obtain ⟨e1, e2⟩ := hp
  subst e1; subst e2
  exact ⟨rfl, hI.fix (t2 := t) (is := [0, 1, 2, 3, 4]) hi9 rfl ⟨kd_0.mpr rfl, kd_1.mpr rfl, kd_2.mpr rfl, kd_3.mpr ⟨_, rfl⟩, kd_4.mpr ⟨_, rfl⟩, trivial⟩ (by decide) (by decide) (fun _ _ _ _ h => h) (fun h => h)⟩
set_option maxHeartbeats 4000000 in
theorem Q_Ip_filledIn {g : zG} {ad : Nat → Nat} {t : zTT} {u : zNN} {w : zW} (hI : IV g ad t u w) (x y : Int32) : zMB g M_Ip_filledIn [.ref (ad 0), .int x, .int y] w (fun o w1 => (zri ["java/lang/IndexOutOfBoundsException"] o) ∧ IV g ad t u w1) 1 6 := by
  obtain ⟨e_a, w_a, k_a⟩ := hI.1.2 0 (by decide)
  obtain rfl := kd_0.mp k_a
  obtain ⟨e_ta, w_ta, k_ta⟩ := hI.1.2 5 (by decide)
  obtain ⟨v_ta_x, v_ta_y, rfl⟩ := kd_5.mp k_ta
  obtain ⟨e_ta1, w_ta1, k_ta1⟩ := hI.1.2 6 (by decide)
  obtain ⟨v_ta1_f, rfl⟩ := kd_6.mp k_ta1
  obtain ⟨e_ta2, w_ta2, k_ta2⟩ := hI.1.2 7 (by decide)
  obtain ⟨v_ta2_f, rfl⟩ := kd_7.mp k_ta2
  obtain ⟨e_taz, w_taz, k_taz⟩ := hI.1.2 8 (by decide)
  obtain ⟨v_taz_x, rfl⟩ := kd_8.mp k_taz
  obtain ⟨e_taz1, w_taz1, k_taz1⟩ := hI.1.2 9 (by decide)
  obtain ⟨v_taz1_f, rfl⟩ := kd_9.mp k_taz1
  obtain ⟨e_taz2, w_taz2, k_taz2⟩ := hI.1.2 10 (by decide)
  obtain ⟨v_taz2_f, rfl⟩ := kd_10.mp k_taz2
  obtain ⟨e_taz3, w_taz3, k_taz3⟩ := hI.1.2 11 (by decide)
  obtain ⟨v_taz3_f, rfl⟩ := kd_11.mp k_taz3
  obtain ⟨e_taz4, w_taz4, k_taz4⟩ := hI.1.2 12 (by decide)
  obtain ⟨v_taz4_f, rfl⟩ := kd_12.mp k_taz4
  obtain ⟨e_taz5, w_taz5, k_taz5⟩ := hI.1.2 13 (by decide)
  obtain ⟨v_taz5_f, rfl⟩ := kd_13.mp k_taz5
  obtain ⟨e_taz6, w_taz6, k_taz6⟩ := hI.1.2 14 (by decide)
  obtain ⟨v_taz6_f, rfl⟩ := kd_14.mp k_taz6
  obtain ⟨e_ta4, w_ta4, k_ta4⟩ := hI.1.2 15 (by decide)
  obtain ⟨v_ta4_f, c_ta4_0, rfl⟩ := kd_15.mp k_ta4
  obtain ⟨e_ta5, w_ta5, k_ta5⟩ := hI.1.2 16 (by decide)
  obtain ⟨v_ta5_f, rfl⟩ := kd_16.mp k_ta5
  obtain ⟨e_ta6, w_ta6, k_ta6⟩ := hI.1.2 17 (by decide)
  obtain ⟨v_ta6_h, rfl⟩ := kd_17.mp k_ta6
  by_cases hq : 0 ≤ x ∧ x < 12 ∧ 0 ≤ y ∧ y < 9
  · obtain ⟨x0, y0, hx0, hy0, ex, ey, hz⟩ := z_cl_in hq
    refine ((C_Ip_filledInN g (ad 0) (ad 1) (ad 5) (ad 18) (ad 31) (ad 32) (ad 36) (ad 42) (ad 45) (ad 47) (ad 49) (ad 50) (ad 51) (ad 6) (ad 7) (ad 8) (ad 9) (ad 10) (ad 11) (ad 12) (ad 13) (ad 14) (ad 15) (ad 16) (ad 17) ((v_ta1_f, v_ta2_f, v_ta_x, v_ta_y), (((v_taz1_f, v_taz3_f, v_taz4_f, v_taz_x), v_taz2_f), v_taz5_f, v_taz6_f), (v_ta4_f, v_ta5_f, v_ta6_h)) x y (12 * y0 + x0) hz).at (hI.1.I [0, 5, 6, 7, 8, 9, 10, 11, 12, 13, 14, 15, 16, 17] _ rfl (by decide) (by decide) (List.forall_mem_cons.mpr ⟨w_a, (List.forall_mem_cons.mpr ⟨w_ta, (List.forall_mem_cons.mpr ⟨w_ta1, (List.forall_mem_cons.mpr ⟨w_ta2, (List.forall_mem_cons.mpr ⟨w_taz, (List.forall_mem_cons.mpr ⟨w_taz1, (List.forall_mem_cons.mpr ⟨w_taz2, (List.forall_mem_cons.mpr ⟨w_taz3, (List.forall_mem_cons.mpr ⟨w_taz4, (List.forall_mem_cons.mpr ⟨w_taz5, (List.forall_mem_cons.mpr ⟨w_taz6, (List.forall_mem_cons.mpr ⟨w_ta4, (List.forall_mem_cons.mpr ⟨w_ta5, (List.forall_mem_cons.mpr ⟨w_ta6, (fun _ h => nomatch h)⟩)⟩)⟩)⟩)⟩)⟩)⟩)⟩)⟩)⟩)⟩)⟩)⟩)⟩))).mono (Nat.le_of_ble_eq_true rfl) (Nat.le_of_ble_eq_true rfl) (fun o w1 hp => ?_)
    obtain ⟨cs1, hp, hi9⟩ := hp
    obtain ⟨e1, e2⟩ := hp
    subst e1; subst e2
    exact ⟨Or.inl ⟨_, rfl⟩, hI.fix (t2 := t) (is := [0, 5, 6, 7, 8, 9, 10, 11, 12, 13, 14, 15, 16, 17]) hi9 rfl ⟨kd_0.mpr rfl, kd_5.mpr ⟨_, _, rfl⟩, kd_6.mpr ⟨_, rfl⟩, kd_7.mpr ⟨_, rfl⟩, kd_8.mpr ⟨_, rfl⟩, kd_9.mpr ⟨_, rfl⟩, kd_10.mpr ⟨_, rfl⟩, kd_11.mpr ⟨_, rfl⟩, kd_12.mpr ⟨_, rfl⟩, kd_13.mpr ⟨_, rfl⟩, kd_14.mpr ⟨_, rfl⟩, kd_15.mpr ⟨_, c_ta4_0, rfl⟩, kd_16.mpr ⟨_, rfl⟩, kd_17.mpr ⟨_, rfl⟩, trivial⟩ (by decide) (by decide) (fun _ _ _ _ h => h) (fun h => h)⟩
  · refine ((C_Ip_filledInE g (ad 0) (ad 1) (ad 5) (ad 18) (ad 31) (ad 32) (ad 36) (ad 42) (ad 45) (ad 47) (ad 49) (ad 50) (ad 51) (ad 6) (ad 7) (ad 8) (ad 9) (ad 10) (ad 11) (ad 12) (ad 13) (ad 14) (ad 15) (ad 16) (ad 17) ((v_ta1_f, v_ta2_f, v_ta_x, v_ta_y), (((v_taz1_f, v_taz3_f, v_taz4_f, v_taz_x), v_taz2_f), v_taz5_f, v_taz6_f), (v_ta4_f, v_ta5_f, v_ta6_h)) x y (if_neg hq)).at (hI.1.I [0, 5, 6, 7, 8, 9, 10, 11, 12, 13, 14, 15, 16, 17] _ rfl (by decide) (by decide) (List.forall_mem_cons.mpr ⟨w_a, (List.forall_mem_cons.mpr ⟨w_ta, (List.forall_mem_cons.mpr ⟨w_ta1, (List.forall_mem_cons.mpr ⟨w_ta2, (List.forall_mem_cons.mpr ⟨w_taz, (List.forall_mem_cons.mpr ⟨w_taz1, (List.forall_mem_cons.mpr ⟨w_taz2, (List.forall_mem_cons.mpr ⟨w_taz3, (List.forall_mem_cons.mpr ⟨w_taz4, (List.forall_mem_cons.mpr ⟨w_taz5, (List.forall_mem_cons.mpr ⟨w_taz6, (List.forall_mem_cons.mpr ⟨w_ta4, (List.forall_mem_cons.mpr ⟨w_ta5, (List.forall_mem_cons.mpr ⟨w_ta6, (fun _ h => nomatch h)⟩)⟩)⟩)⟩)⟩)⟩)⟩)⟩)⟩)⟩)⟩)⟩)⟩)⟩))).mono (Nat.le_of_ble_eq_true rfl) (Nat.le_of_ble_eq_true rfl) (fun o w1 hp => ?_)
    obtain ⟨cs1, hp, hi9⟩ := hp
    obtain ⟨e1, e2⟩ := hp
    subst e1; subst e2
    exact ⟨Or.inr ⟨_, List.Mem.head _, rfl⟩, hI.fix (t2 := t) (is := [0, 5, 6, 7, 8, 9, 10, 11, 12, 13, 14, 15, 16, 17]) hi9 rfl ⟨kd_0.mpr rfl, kd_5.mpr ⟨_, _, rfl⟩, kd_6.mpr ⟨_, rfl⟩, kd_7.mpr ⟨_, rfl⟩, kd_8.mpr ⟨_, rfl⟩, kd_9.mpr ⟨_, rfl⟩, kd_10.mpr ⟨_, rfl⟩, kd_11.mpr ⟨_, rfl⟩, kd_12.mpr ⟨_, rfl⟩, kd_13.mpr ⟨_, rfl⟩, kd_14.mpr ⟨_, rfl⟩, kd_15.mpr ⟨_, c_ta4_0, rfl⟩, kd_16.mpr ⟨_, rfl⟩, kd_17.mpr ⟨_, rfl⟩, trivial⟩ (by decide) (by decide) (fun _ _ _ _ h => h) (fun h => h)⟩
set_option maxHeartbeats 4000000 in
theorem Q_Ip_speedE {g : zG} {ad : Nat → Nat} {t : zTT} {u : zNN} {w : zW} (hI : IV g ad t u w) (hg : fa_cnt (fun k => decide (t.1 k = 103)) 12 = 0) : zMB g M_Ip_speed [.ref (ad 0)] w (fun o w1 => (o = .inr "java/util/NoSuchElementException") ∧ IV g ad t u w1) 1 6 := by
  obtain ⟨e_a, w_a, k_a⟩ := hI.1.2 0 (by decide)
  obtain rfl := kd_0.mp k_a
  obtain ⟨e_pa, w_pa, k_pa⟩ := hI.1.2 1 (by decide)
  obtain rfl := kd_1.mp k_pa
  obtain ⟨e_pa1, w_pa1, k_pa1⟩ := hI.1.2 2 (by decide)
  obtain rfl := kd_2.mp k_pa1
  obtain ⟨e_pa2, w_pa2, k_pa2⟩ := hI.1.2 3 (by decide)
  obtain ⟨v_pa2_f, rfl⟩ := kd_3.mp k_pa2
  obtain ⟨e_pa3, w_pa3, k_pa3⟩ := hI.1.2 4 (by decide)
  obtain ⟨v_pa3_h, rfl⟩ := kd_4.mp k_pa3
  refine ((C_Ip_speedE g (ad 0) (ad 1) (ad 5) (ad 18) (ad 31) (ad 32) (ad 36) (ad 42) (ad 45) (ad 47) (ad 49) (ad 50) (ad 51) (ad 2) (ad 3) (ad 4) t.1 v_pa2_f v_pa3_h t.2.2.1 hg).at (hI.1.I [0, 1, 2, 3, 4] _ rfl (by decide) (by decide) (List.forall_mem_cons.mpr ⟨w_a, (List.forall_mem_cons.mpr ⟨w_pa, (List.forall_mem_cons.mpr ⟨w_pa1, (List.forall_mem_cons.mpr ⟨w_pa2, (List.forall_mem_cons.mpr ⟨w_pa3, (fun _ h => nomatch h)⟩)⟩)⟩)⟩)⟩))).mono (Nat.le_of_ble_eq_true rfl) (Nat.le_of_ble_eq_true rfl) (fun o w1 hp => ?_)
  obtain ⟨cs1, hp, hi9⟩ := hp
  obtain ⟨e1, e2⟩ := hp
  subst e1; subst e2
  exact ⟨rfl, hI.fix (t2 := t) (is := [0, 1, 2, 3, 4]) hi9 rfl ⟨kd_0.mpr rfl, kd_1.mpr rfl, kd_2.mpr rfl, kd_3.mpr ⟨_, rfl⟩, kd_4.mpr ⟨_, rfl⟩, trivial⟩ (by decide) (by decide) (fun _ _ _ _ h => h) (fun h => h)⟩
set_option maxHeartbeats 4000000 in
theorem Q_Ip_speedN {g : zG} {ad : Nat → Nat} {t : zTT} {u : zNN} {w : zW} (hI : IV g ad t u w) (hg : ¬ fa_cnt (fun k => decide (t.1 k = 103)) 12 = 0) : zMB g M_Ip_speed [.ref (ad 0)] w (fun o w1 => (o = .inl (some (.int (rsR t.1)))) ∧ IV g ad t u w1) 1 6 := by
  obtain ⟨e_a, w_a, k_a⟩ := hI.1.2 0 (by decide)
  obtain rfl := kd_0.mp k_a
  obtain ⟨e_pa, w_pa, k_pa⟩ := hI.1.2 1 (by decide)
  obtain rfl := kd_1.mp k_pa
  obtain ⟨e_pa1, w_pa1, k_pa1⟩ := hI.1.2 2 (by decide)
  obtain rfl := kd_2.mp k_pa1
  obtain ⟨e_pa2, w_pa2, k_pa2⟩ := hI.1.2 3 (by decide)
  obtain ⟨v_pa2_f, rfl⟩ := kd_3.mp k_pa2
  obtain ⟨e_pa3, w_pa3, k_pa3⟩ := hI.1.2 4 (by decide)
  obtain ⟨v_pa3_h, rfl⟩ := kd_4.mp k_pa3
  refine ((C_Ip_speedN g (ad 0) (ad 1) (ad 5) (ad 18) (ad 31) (ad 32) (ad 36) (ad 42) (ad 45) (ad 47) (ad 49) (ad 50) (ad 51) (ad 2) (ad 3) (ad 4) t.1 v_pa2_f v_pa3_h t.2.2.1 hg).at (hI.1.I [0, 1, 2, 3, 4] _ rfl (by decide) (by decide) (List.forall_mem_cons.mpr ⟨w_a, (List.forall_mem_cons.mpr ⟨w_pa, (List.forall_mem_cons.mpr ⟨w_pa1, (List.forall_mem_cons.mpr ⟨w_pa2, (List.forall_mem_cons.mpr ⟨w_pa3, (fun _ h => nomatch h)⟩)⟩)⟩)⟩)⟩))).mono (Nat.le_of_ble_eq_true rfl) (Nat.le_of_ble_eq_true rfl) (fun o w1 hp => ?_)
  obtain ⟨cs1, hp, hi9⟩ := hp
  obtain ⟨e1, e2⟩ := hp
  subst e1; subst e2
  exact ⟨rfl, hI.fix (t2 := t) (is := [0, 1, 2, 3, 4]) hi9 rfl ⟨kd_0.mpr rfl, kd_1.mpr rfl, kd_2.mpr rfl, kd_3.mpr ⟨_, rfl⟩, kd_4.mpr ⟨_, rfl⟩, trivial⟩ (by decide) (by decide) (fun _ _ _ _ h => h) (fun h => h)⟩
set_option maxHeartbeats 4000000 in
theorem Q_Ip_frozenIn {g : zG} {ad : Nat → Nat} {t : zTT} {u : zNN} {w : zW} (hI : IV g ad t u w) (x y h : Int32) : zMB g M_Ip_frozenIn [.ref (ad 0), .int x, .int y, .int h] w (fun o w1 => (zri ["java/lang/IndexOutOfBoundsException", "java/lang/IllegalArgumentException"] o) ∧ IV g ad t u w1) 2 12 := by
  obtain ⟨e_a, w_a, k_a⟩ := hI.1.2 0 (by decide)
  obtain rfl := kd_0.mp k_a
  obtain ⟨e_ta, w_ta, k_ta⟩ := hI.1.2 5 (by decide)
  obtain ⟨v_ta_x, v_ta_y, rfl⟩ := kd_5.mp k_ta
  obtain ⟨e_ta1, w_ta1, k_ta1⟩ := hI.1.2 6 (by decide)
  obtain ⟨v_ta1_f, rfl⟩ := kd_6.mp k_ta1
  obtain ⟨e_ta2, w_ta2, k_ta2⟩ := hI.1.2 7 (by decide)
  obtain ⟨v_ta2_f, rfl⟩ := kd_7.mp k_ta2
  obtain ⟨e_taz, w_taz, k_taz⟩ := hI.1.2 8 (by decide)
  obtain ⟨v_taz_x, rfl⟩ := kd_8.mp k_taz
  obtain ⟨e_taz1, w_taz1, k_taz1⟩ := hI.1.2 9 (by decide)
  obtain ⟨v_taz1_f, rfl⟩ := kd_9.mp k_taz1
  obtain ⟨e_taz2, w_taz2, k_taz2⟩ := hI.1.2 10 (by decide)
  obtain ⟨v_taz2_f, rfl⟩ := kd_10.mp k_taz2
  obtain ⟨e_taz3, w_taz3, k_taz3⟩ := hI.1.2 11 (by decide)
  obtain ⟨v_taz3_f, rfl⟩ := kd_11.mp k_taz3
  obtain ⟨e_taz4, w_taz4, k_taz4⟩ := hI.1.2 12 (by decide)
  obtain ⟨v_taz4_f, rfl⟩ := kd_12.mp k_taz4
  obtain ⟨e_taz5, w_taz5, k_taz5⟩ := hI.1.2 13 (by decide)
  obtain ⟨v_taz5_f, rfl⟩ := kd_13.mp k_taz5
  obtain ⟨e_taz6, w_taz6, k_taz6⟩ := hI.1.2 14 (by decide)
  obtain ⟨v_taz6_f, rfl⟩ := kd_14.mp k_taz6
  obtain ⟨e_ta4, w_ta4, k_ta4⟩ := hI.1.2 15 (by decide)
  obtain ⟨v_ta4_f, c_ta4_0, rfl⟩ := kd_15.mp k_ta4
  obtain ⟨e_ta5, w_ta5, k_ta5⟩ := hI.1.2 16 (by decide)
  obtain ⟨v_ta5_f, rfl⟩ := kd_16.mp k_ta5
  obtain ⟨e_ta6, w_ta6, k_ta6⟩ := hI.1.2 17 (by decide)
  obtain ⟨v_ta6_h, rfl⟩ := kd_17.mp k_ta6
  by_cases hq : 0 ≤ x ∧ x < 12 ∧ 0 ≤ y ∧ y < 9
  · obtain ⟨x0, y0, hx0, hy0, ex, ey, hz⟩ := z_cl_in hq
    by_cases hh : 1200 ≤ h ∧ h ≤ 1500
    · refine ((C_Ip_frozenInN g (ad 0) (ad 1) (ad 5) (ad 18) (ad 31) (ad 32) (ad 36) (ad 42) (ad 45) (ad 47) (ad 49) (ad 50) (ad 51) (ad 6) (ad 7) (ad 8) (ad 9) (ad 10) (ad 11) (ad 12) (ad 13) (ad 14) (ad 15) (ad 16) (ad 17) ((v_ta1_f, v_ta2_f, v_ta_x, v_ta_y), (((v_taz1_f, v_taz3_f, v_taz4_f, v_taz_x), v_taz2_f), v_taz5_f, v_taz6_f), (v_ta4_f, v_ta5_f, v_ta6_h)) x y h (12 * y0 + x0) hz hh).at (hI.1.I [0, 5, 6, 7, 8, 9, 10, 11, 12, 13, 14, 15, 16, 17] _ rfl (by decide) (by decide) (List.forall_mem_cons.mpr ⟨w_a, (List.forall_mem_cons.mpr ⟨w_ta, (List.forall_mem_cons.mpr ⟨w_ta1, (List.forall_mem_cons.mpr ⟨w_ta2, (List.forall_mem_cons.mpr ⟨w_taz, (List.forall_mem_cons.mpr ⟨w_taz1, (List.forall_mem_cons.mpr ⟨w_taz2, (List.forall_mem_cons.mpr ⟨w_taz3, (List.forall_mem_cons.mpr ⟨w_taz4, (List.forall_mem_cons.mpr ⟨w_taz5, (List.forall_mem_cons.mpr ⟨w_taz6, (List.forall_mem_cons.mpr ⟨w_ta4, (List.forall_mem_cons.mpr ⟨w_ta5, (List.forall_mem_cons.mpr ⟨w_ta6, (fun _ h => nomatch h)⟩)⟩)⟩)⟩)⟩)⟩)⟩)⟩)⟩)⟩)⟩)⟩)⟩)⟩))).mono (Nat.le_of_ble_eq_true rfl) (Nat.le_of_ble_eq_true rfl) (fun o w1 hp => ?_)
      obtain ⟨cs1, hp, hi9⟩ := hp
      obtain ⟨e1, e2⟩ := hp
      subst e1; subst e2
      exact ⟨Or.inl ⟨_, rfl⟩, hI.fix (t2 := t) (is := [0, 5, 6, 7, 8, 9, 10, 11, 12, 13, 14, 15, 16, 17]) hi9 rfl ⟨kd_0.mpr rfl, kd_5.mpr ⟨_, _, rfl⟩, kd_6.mpr ⟨_, rfl⟩, kd_7.mpr ⟨_, rfl⟩, kd_8.mpr ⟨_, rfl⟩, kd_9.mpr ⟨_, rfl⟩, kd_10.mpr ⟨_, rfl⟩, kd_11.mpr ⟨_, rfl⟩, kd_12.mpr ⟨_, rfl⟩, kd_13.mpr ⟨_, rfl⟩, kd_14.mpr ⟨_, rfl⟩, kd_15.mpr ⟨_, (frT_01 (X := ((v_ta1_f, v_ta2_f, v_ta_x, v_ta_y), (((v_taz1_f, v_taz3_f, v_taz4_f, v_taz_x), v_taz2_f), v_taz5_f, v_taz6_f), (v_ta4_f, v_ta5_f, v_ta6_h))) c_ta4_0), rfl⟩, kd_16.mpr ⟨_, rfl⟩, kd_17.mpr ⟨_, rfl⟩, trivial⟩ (by decide) (by decide) (fun _ _ _ _ h => h) (fun h => h)⟩
    · refine ((C_Ip_frozenInF g (ad 0) (ad 1) (ad 5) (ad 18) (ad 31) (ad 32) (ad 36) (ad 42) (ad 45) (ad 47) (ad 49) (ad 50) (ad 51) (ad 6) (ad 7) (ad 8) (ad 9) (ad 10) (ad 11) (ad 12) (ad 13) (ad 14) (ad 15) (ad 16) (ad 17) ((v_ta1_f, v_ta2_f, v_ta_x, v_ta_y), (((v_taz1_f, v_taz3_f, v_taz4_f, v_taz_x), v_taz2_f), v_taz5_f, v_taz6_f), (v_ta4_f, v_ta5_f, v_ta6_h)) x y h (12 * y0 + x0) hz hh).at (hI.1.I [0, 5, 6, 7, 8, 9, 10, 11, 12, 13, 14, 15, 16, 17] _ rfl (by decide) (by decide) (List.forall_mem_cons.mpr ⟨w_a, (List.forall_mem_cons.mpr ⟨w_ta, (List.forall_mem_cons.mpr ⟨w_ta1, (List.forall_mem_cons.mpr ⟨w_ta2, (List.forall_mem_cons.mpr ⟨w_taz, (List.forall_mem_cons.mpr ⟨w_taz1, (List.forall_mem_cons.mpr ⟨w_taz2, (List.forall_mem_cons.mpr ⟨w_taz3, (List.forall_mem_cons.mpr ⟨w_taz4, (List.forall_mem_cons.mpr ⟨w_taz5, (List.forall_mem_cons.mpr ⟨w_taz6, (List.forall_mem_cons.mpr ⟨w_ta4, (List.forall_mem_cons.mpr ⟨w_ta5, (List.forall_mem_cons.mpr ⟨w_ta6, (fun _ h => nomatch h)⟩)⟩)⟩)⟩)⟩)⟩)⟩)⟩)⟩)⟩)⟩)⟩)⟩)⟩))).mono (Nat.le_of_ble_eq_true rfl) (Nat.le_of_ble_eq_true rfl) (fun o w1 hp => ?_)
      obtain ⟨cs1, hp, hi9⟩ := hp
      obtain ⟨e1, e2⟩ := hp
      subst e1; subst e2
      exact ⟨Or.inr ⟨_, List.Mem.tail _ (List.Mem.head _), rfl⟩, hI.fix (t2 := t) (is := [0, 5, 6, 7, 8, 9, 10, 11, 12, 13, 14, 15, 16, 17]) hi9 rfl ⟨kd_0.mpr rfl, kd_5.mpr ⟨_, _, rfl⟩, kd_6.mpr ⟨_, rfl⟩, kd_7.mpr ⟨_, rfl⟩, kd_8.mpr ⟨_, rfl⟩, kd_9.mpr ⟨_, rfl⟩, kd_10.mpr ⟨_, rfl⟩, kd_11.mpr ⟨_, rfl⟩, kd_12.mpr ⟨_, rfl⟩, kd_13.mpr ⟨_, rfl⟩, kd_14.mpr ⟨_, rfl⟩, kd_15.mpr ⟨_, c_ta4_0, rfl⟩, kd_16.mpr ⟨_, rfl⟩, kd_17.mpr ⟨_, rfl⟩, trivial⟩ (by decide) (by decide) (fun _ _ _ _ h => h) (fun h => h)⟩
  · refine ((C_Ip_frozenInE g (ad 0) (ad 1) (ad 5) (ad 18) (ad 31) (ad 32) (ad 36) (ad 42) (ad 45) (ad 47) (ad 49) (ad 50) (ad 51) (ad 6) (ad 7) (ad 8) (ad 9) (ad 10) (ad 11) (ad 12) (ad 13) (ad 14) (ad 15) (ad 16) (ad 17) ((v_ta1_f, v_ta2_f, v_ta_x, v_ta_y), (((v_taz1_f, v_taz3_f, v_taz4_f, v_taz_x), v_taz2_f), v_taz5_f, v_taz6_f), (v_ta4_f, v_ta5_f, v_ta6_h)) x y h (if_neg hq)).at (hI.1.I [0, 5, 6, 7, 8, 9, 10, 11, 12, 13, 14, 15, 16, 17] _ rfl (by decide) (by decide) (List.forall_mem_cons.mpr ⟨w_a, (List.forall_mem_cons.mpr ⟨w_ta, (List.forall_mem_cons.mpr ⟨w_ta1, (List.forall_mem_cons.mpr ⟨w_ta2, (List.forall_mem_cons.mpr ⟨w_taz, (List.forall_mem_cons.mpr ⟨w_taz1, (List.forall_mem_cons.mpr ⟨w_taz2, (List.forall_mem_cons.mpr ⟨w_taz3, (List.forall_mem_cons.mpr ⟨w_taz4, (List.forall_mem_cons.mpr ⟨w_taz5, (List.forall_mem_cons.mpr ⟨w_taz6, (List.forall_mem_cons.mpr ⟨w_ta4, (List.forall_mem_cons.mpr ⟨w_ta5, (List.forall_mem_cons.mpr ⟨w_ta6, (fun _ h => nomatch h)⟩)⟩)⟩)⟩)⟩)⟩)⟩)⟩)⟩)⟩)⟩)⟩)⟩)⟩))).mono (Nat.le_of_ble_eq_true rfl) (Nat.le_of_ble_eq_true rfl) (fun o w1 hp => ?_)
    obtain ⟨cs1, hp, hi9⟩ := hp
    obtain ⟨e1, e2⟩ := hp
    subst e1; subst e2
    exact ⟨Or.inr ⟨_, List.Mem.head _, rfl⟩, hI.fix (t2 := t) (is := [0, 5, 6, 7, 8, 9, 10, 11, 12, 13, 14, 15, 16, 17]) hi9 rfl ⟨kd_0.mpr rfl, kd_5.mpr ⟨_, _, rfl⟩, kd_6.mpr ⟨_, rfl⟩, kd_7.mpr ⟨_, rfl⟩, kd_8.mpr ⟨_, rfl⟩, kd_9.mpr ⟨_, rfl⟩, kd_10.mpr ⟨_, rfl⟩, kd_11.mpr ⟨_, rfl⟩, kd_12.mpr ⟨_, rfl⟩, kd_13.mpr ⟨_, rfl⟩, kd_14.mpr ⟨_, rfl⟩, kd_15.mpr ⟨_, c_ta4_0, rfl⟩, kd_16.mpr ⟨_, rfl⟩, kd_17.mpr ⟨_, rfl⟩, trivial⟩ (by decide) (by decide) (fun _ _ _ _ h => h) (fun h => h)⟩
set_option maxHeartbeats 4000000 in
theorem Q_Ip_isFed {g : zG} {ad : Nat → Nat} {t : zTT} {u : zNN} {w : zW} (hI : IV g ad t u w) (x y h : Int32) : zMB g M_Ip_isFed [.ref (ad 0), .int x, .int y, .int h] w (fun o w1 => (zri ["java/lang/IndexOutOfBoundsException", "java/lang/IllegalArgumentException"] o) ∧ IV g ad t u w1) 2 12 := by
  obtain ⟨e_a, w_a, k_a⟩ := hI.1.2 0 (by decide)
  obtain rfl := kd_0.mp k_a
  obtain ⟨e_ta, w_ta, k_ta⟩ := hI.1.2 5 (by decide)
  obtain ⟨v_ta_x, v_ta_y, rfl⟩ := kd_5.mp k_ta
  obtain ⟨e_ta1, w_ta1, k_ta1⟩ := hI.1.2 6 (by decide)
  obtain ⟨v_ta1_f, rfl⟩ := kd_6.mp k_ta1
  obtain ⟨e_ta2, w_ta2, k_ta2⟩ := hI.1.2 7 (by decide)
  obtain ⟨v_ta2_f, rfl⟩ := kd_7.mp k_ta2
  obtain ⟨e_taz, w_taz, k_taz⟩ := hI.1.2 8 (by decide)
  obtain ⟨v_taz_x, rfl⟩ := kd_8.mp k_taz
  obtain ⟨e_taz1, w_taz1, k_taz1⟩ := hI.1.2 9 (by decide)
  obtain ⟨v_taz1_f, rfl⟩ := kd_9.mp k_taz1
  obtain ⟨e_taz2, w_taz2, k_taz2⟩ := hI.1.2 10 (by decide)
  obtain ⟨v_taz2_f, rfl⟩ := kd_10.mp k_taz2
  obtain ⟨e_taz3, w_taz3, k_taz3⟩ := hI.1.2 11 (by decide)
  obtain ⟨v_taz3_f, rfl⟩ := kd_11.mp k_taz3
  obtain ⟨e_taz4, w_taz4, k_taz4⟩ := hI.1.2 12 (by decide)
  obtain ⟨v_taz4_f, rfl⟩ := kd_12.mp k_taz4
  obtain ⟨e_taz5, w_taz5, k_taz5⟩ := hI.1.2 13 (by decide)
  obtain ⟨v_taz5_f, rfl⟩ := kd_13.mp k_taz5
  obtain ⟨e_taz6, w_taz6, k_taz6⟩ := hI.1.2 14 (by decide)
  obtain ⟨v_taz6_f, rfl⟩ := kd_14.mp k_taz6
  obtain ⟨e_ta4, w_ta4, k_ta4⟩ := hI.1.2 15 (by decide)
  obtain ⟨v_ta4_f, c_ta4_0, rfl⟩ := kd_15.mp k_ta4
  obtain ⟨e_ta5, w_ta5, k_ta5⟩ := hI.1.2 16 (by decide)
  obtain ⟨v_ta5_f, rfl⟩ := kd_16.mp k_ta5
  obtain ⟨e_ta6, w_ta6, k_ta6⟩ := hI.1.2 17 (by decide)
  obtain ⟨v_ta6_h, rfl⟩ := kd_17.mp k_ta6
  by_cases hq : 0 ≤ x ∧ x < 12 ∧ 0 ≤ y ∧ y < 9
  · obtain ⟨x0, y0, hx0, hy0, ex, ey, hz⟩ := z_cl_in hq
    by_cases hh : 1200 ≤ h ∧ h ≤ 1500
    · refine ((C_Ip_isFedN g (ad 0) (ad 1) (ad 5) (ad 18) (ad 31) (ad 32) (ad 36) (ad 42) (ad 45) (ad 47) (ad 49) (ad 50) (ad 51) (ad 6) (ad 7) (ad 8) (ad 9) (ad 10) (ad 11) (ad 12) (ad 13) (ad 14) (ad 15) (ad 16) (ad 17) ((v_ta1_f, v_ta2_f, v_ta_x, v_ta_y), (((v_taz1_f, v_taz3_f, v_taz4_f, v_taz_x), v_taz2_f), v_taz5_f, v_taz6_f), (v_ta4_f, v_ta5_f, v_ta6_h)) x y h (12 * y0 + x0) hz hh (frT_01 (h := h) (X := ((v_ta1_f, v_ta2_f, v_ta_x, v_ta_y), (((v_taz1_f, v_taz3_f, v_taz4_f, v_taz_x), v_taz2_f), v_taz5_f, v_taz6_f), (v_ta4_f, v_ta5_f, v_ta6_h))) c_ta4_0 _ (by omega))).at (hI.1.I [0, 5, 6, 7, 8, 9, 10, 11, 12, 13, 14, 15, 16, 17] _ rfl (by decide) (by decide) (List.forall_mem_cons.mpr ⟨w_a, (List.forall_mem_cons.mpr ⟨w_ta, (List.forall_mem_cons.mpr ⟨w_ta1, (List.forall_mem_cons.mpr ⟨w_ta2, (List.forall_mem_cons.mpr ⟨w_taz, (List.forall_mem_cons.mpr ⟨w_taz1, (List.forall_mem_cons.mpr ⟨w_taz2, (List.forall_mem_cons.mpr ⟨w_taz3, (List.forall_mem_cons.mpr ⟨w_taz4, (List.forall_mem_cons.mpr ⟨w_taz5, (List.forall_mem_cons.mpr ⟨w_taz6, (List.forall_mem_cons.mpr ⟨w_ta4, (List.forall_mem_cons.mpr ⟨w_ta5, (List.forall_mem_cons.mpr ⟨w_ta6, (fun _ h => nomatch h)⟩)⟩)⟩)⟩)⟩)⟩)⟩)⟩)⟩)⟩)⟩)⟩)⟩)⟩))).mono (Nat.le_of_ble_eq_true rfl) (Nat.le_of_ble_eq_true rfl) (fun o w1 hp => ?_)
      obtain ⟨cs1, hp, hi9⟩ := hp
      obtain ⟨e1, e2⟩ := hp
      subst e1; subst e2
      exact ⟨Or.inl ⟨_, rfl⟩, hI.fix (t2 := t) (is := [0, 5, 6, 7, 8, 9, 10, 11, 12, 13, 14, 15, 16, 17]) hi9 rfl ⟨kd_0.mpr rfl, kd_5.mpr ⟨_, _, rfl⟩, kd_6.mpr ⟨_, rfl⟩, kd_7.mpr ⟨_, rfl⟩, kd_8.mpr ⟨_, rfl⟩, kd_9.mpr ⟨_, rfl⟩, kd_10.mpr ⟨_, rfl⟩, kd_11.mpr ⟨_, rfl⟩, kd_12.mpr ⟨_, rfl⟩, kd_13.mpr ⟨_, rfl⟩, kd_14.mpr ⟨_, rfl⟩, kd_15.mpr ⟨_, (frT_01 (X := ((v_ta1_f, v_ta2_f, v_ta_x, v_ta_y), (((v_taz1_f, v_taz3_f, v_taz4_f, v_taz_x), v_taz2_f), v_taz5_f, v_taz6_f), (v_ta4_f, v_ta5_f, v_ta6_h))) c_ta4_0), rfl⟩, kd_16.mpr ⟨_, rfl⟩, kd_17.mpr ⟨_, rfl⟩, trivial⟩ (by decide) (by decide) (fun _ _ _ _ h => h) (fun h => h)⟩
    · refine ((C_Ip_isFedF g (ad 0) (ad 1) (ad 5) (ad 18) (ad 31) (ad 32) (ad 36) (ad 42) (ad 45) (ad 47) (ad 49) (ad 50) (ad 51) (ad 6) (ad 7) (ad 8) (ad 9) (ad 10) (ad 11) (ad 12) (ad 13) (ad 14) (ad 15) (ad 16) (ad 17) ((v_ta1_f, v_ta2_f, v_ta_x, v_ta_y), (((v_taz1_f, v_taz3_f, v_taz4_f, v_taz_x), v_taz2_f), v_taz5_f, v_taz6_f), (v_ta4_f, v_ta5_f, v_ta6_h)) x y h (12 * y0 + x0) hz hh).at (hI.1.I [0, 5, 6, 7, 8, 9, 10, 11, 12, 13, 14, 15, 16, 17] _ rfl (by decide) (by decide) (List.forall_mem_cons.mpr ⟨w_a, (List.forall_mem_cons.mpr ⟨w_ta, (List.forall_mem_cons.mpr ⟨w_ta1, (List.forall_mem_cons.mpr ⟨w_ta2, (List.forall_mem_cons.mpr ⟨w_taz, (List.forall_mem_cons.mpr ⟨w_taz1, (List.forall_mem_cons.mpr ⟨w_taz2, (List.forall_mem_cons.mpr ⟨w_taz3, (List.forall_mem_cons.mpr ⟨w_taz4, (List.forall_mem_cons.mpr ⟨w_taz5, (List.forall_mem_cons.mpr ⟨w_taz6, (List.forall_mem_cons.mpr ⟨w_ta4, (List.forall_mem_cons.mpr ⟨w_ta5, (List.forall_mem_cons.mpr ⟨w_ta6, (fun _ h => nomatch h)⟩)⟩)⟩)⟩)⟩)⟩)⟩)⟩)⟩)⟩)⟩)⟩)⟩)⟩))).mono (Nat.le_of_ble_eq_true rfl) (Nat.le_of_ble_eq_true rfl) (fun o w1 hp => ?_)
      obtain ⟨cs1, hp, hi9⟩ := hp
      obtain ⟨e1, e2⟩ := hp
      subst e1; subst e2
      exact ⟨Or.inr ⟨_, List.Mem.tail _ (List.Mem.head _), rfl⟩, hI.fix (t2 := t) (is := [0, 5, 6, 7, 8, 9, 10, 11, 12, 13, 14, 15, 16, 17]) hi9 rfl ⟨kd_0.mpr rfl, kd_5.mpr ⟨_, _, rfl⟩, kd_6.mpr ⟨_, rfl⟩, kd_7.mpr ⟨_, rfl⟩, kd_8.mpr ⟨_, rfl⟩, kd_9.mpr ⟨_, rfl⟩, kd_10.mpr ⟨_, rfl⟩, kd_11.mpr ⟨_, rfl⟩, kd_12.mpr ⟨_, rfl⟩, kd_13.mpr ⟨_, rfl⟩, kd_14.mpr ⟨_, rfl⟩, kd_15.mpr ⟨_, c_ta4_0, rfl⟩, kd_16.mpr ⟨_, rfl⟩, kd_17.mpr ⟨_, rfl⟩, trivial⟩ (by decide) (by decide) (fun _ _ _ _ h => h) (fun h => h)⟩
  · refine ((C_Ip_isFedE g (ad 0) (ad 1) (ad 5) (ad 18) (ad 31) (ad 32) (ad 36) (ad 42) (ad 45) (ad 47) (ad 49) (ad 50) (ad 51) (ad 6) (ad 7) (ad 8) (ad 9) (ad 10) (ad 11) (ad 12) (ad 13) (ad 14) (ad 15) (ad 16) (ad 17) ((v_ta1_f, v_ta2_f, v_ta_x, v_ta_y), (((v_taz1_f, v_taz3_f, v_taz4_f, v_taz_x), v_taz2_f), v_taz5_f, v_taz6_f), (v_ta4_f, v_ta5_f, v_ta6_h)) x y h (if_neg hq)).at (hI.1.I [0, 5, 6, 7, 8, 9, 10, 11, 12, 13, 14, 15, 16, 17] _ rfl (by decide) (by decide) (List.forall_mem_cons.mpr ⟨w_a, (List.forall_mem_cons.mpr ⟨w_ta, (List.forall_mem_cons.mpr ⟨w_ta1, (List.forall_mem_cons.mpr ⟨w_ta2, (List.forall_mem_cons.mpr ⟨w_taz, (List.forall_mem_cons.mpr ⟨w_taz1, (List.forall_mem_cons.mpr ⟨w_taz2, (List.forall_mem_cons.mpr ⟨w_taz3, (List.forall_mem_cons.mpr ⟨w_taz4, (List.forall_mem_cons.mpr ⟨w_taz5, (List.forall_mem_cons.mpr ⟨w_taz6, (List.forall_mem_cons.mpr ⟨w_ta4, (List.forall_mem_cons.mpr ⟨w_ta5, (List.forall_mem_cons.mpr ⟨w_ta6, (fun _ h => nomatch h)⟩)⟩)⟩)⟩)⟩)⟩)⟩)⟩)⟩)⟩)⟩)⟩)⟩)⟩))).mono (Nat.le_of_ble_eq_true rfl) (Nat.le_of_ble_eq_true rfl) (fun o w1 hp => ?_)
    obtain ⟨cs1, hp, hi9⟩ := hp
    obtain ⟨e1, e2⟩ := hp
    subst e1; subst e2
    exact ⟨Or.inr ⟨_, List.Mem.head _, rfl⟩, hI.fix (t2 := t) (is := [0, 5, 6, 7, 8, 9, 10, 11, 12, 13, 14, 15, 16, 17]) hi9 rfl ⟨kd_0.mpr rfl, kd_5.mpr ⟨_, _, rfl⟩, kd_6.mpr ⟨_, rfl⟩, kd_7.mpr ⟨_, rfl⟩, kd_8.mpr ⟨_, rfl⟩, kd_9.mpr ⟨_, rfl⟩, kd_10.mpr ⟨_, rfl⟩, kd_11.mpr ⟨_, rfl⟩, kd_12.mpr ⟨_, rfl⟩, kd_13.mpr ⟨_, rfl⟩, kd_14.mpr ⟨_, rfl⟩, kd_15.mpr ⟨_, c_ta4_0, rfl⟩, kd_16.mpr ⟨_, rfl⟩, kd_17.mpr ⟨_, rfl⟩, trivial⟩ (by decide) (by decide) (fun _ _ _ _ h => h) (fun h => h)⟩
set_option maxHeartbeats 4000000 in
theorem Q_Ip_heatAt {g : zG} {ad : Nat → Nat} {t : zTT} {u : zNN} {w : zW} (hI : IV g ad t u w) (x y h s : Int32) : zMB g M_Ip_heatAt [.ref (ad 0), .int x, .int y, .int h, .int s] w (fun o w1 => (zri ["java/lang/IndexOutOfBoundsException", "java/lang/IllegalArgumentException"] o) ∧ IV g ad t u w1) 3 18 := by
  obtain ⟨e_a, w_a, k_a⟩ := hI.1.2 0 (by decide)
  obtain rfl := kd_0.mp k_a
  obtain ⟨e_pa, w_pa, k_pa⟩ := hI.1.2 1 (by decide)
  obtain rfl := kd_1.mp k_pa
  obtain ⟨e_pa1, w_pa1, k_pa1⟩ := hI.1.2 2 (by decide)
  obtain rfl := kd_2.mp k_pa1
  obtain ⟨e_pa2, w_pa2, k_pa2⟩ := hI.1.2 3 (by decide)
  obtain ⟨v_pa2_f, rfl⟩ := kd_3.mp k_pa2
  obtain ⟨e_pa3, w_pa3, k_pa3⟩ := hI.1.2 4 (by decide)
  obtain ⟨v_pa3_h, rfl⟩ := kd_4.mp k_pa3
  obtain ⟨e_sa, w_sa, k_sa⟩ := hI.1.2 18 (by decide)
  obtain ⟨v_sa_x, v_sa_y, rfl⟩ := kd_18.mp k_sa
  obtain ⟨e_sa1, w_sa1, k_sa1⟩ := hI.1.2 19 (by decide)
  obtain ⟨v_sa1_f, rfl⟩ := kd_19.mp k_sa1
  obtain ⟨e_sa2, w_sa2, k_sa2⟩ := hI.1.2 20 (by decide)
  obtain ⟨v_sa2_f, rfl⟩ := kd_20.mp k_sa2
  obtain ⟨e_saz, w_saz, k_saz⟩ := hI.1.2 21 (by decide)
  obtain ⟨v_saz_x, rfl⟩ := kd_21.mp k_saz
  obtain ⟨e_saz1, w_saz1, k_saz1⟩ := hI.1.2 22 (by decide)
  obtain ⟨v_saz1_f, rfl⟩ := kd_22.mp k_saz1
  obtain ⟨e_saz2, w_saz2, k_saz2⟩ := hI.1.2 23 (by decide)
  obtain ⟨v_saz2_f, rfl⟩ := kd_23.mp k_saz2
  obtain ⟨e_saz3, w_saz3, k_saz3⟩ := hI.1.2 24 (by decide)
  obtain ⟨v_saz3_f, rfl⟩ := kd_24.mp k_saz3
  obtain ⟨e_saz4, w_saz4, k_saz4⟩ := hI.1.2 25 (by decide)
  obtain ⟨v_saz4_f, rfl⟩ := kd_25.mp k_saz4
  obtain ⟨e_saz5, w_saz5, k_saz5⟩ := hI.1.2 26 (by decide)
  obtain ⟨v_saz5_f, rfl⟩ := kd_26.mp k_saz5
  obtain ⟨e_saz6, w_saz6, k_saz6⟩ := hI.1.2 27 (by decide)
  obtain ⟨v_saz6_f, rfl⟩ := kd_27.mp k_saz6
  obtain ⟨e_sa4, w_sa4, k_sa4⟩ := hI.1.2 28 (by decide)
  obtain ⟨v_sa4_f, rfl⟩ := kd_28.mp k_sa4
  obtain ⟨e_sa5, w_sa5, k_sa5⟩ := hI.1.2 29 (by decide)
  obtain ⟨v_sa5_f, rfl⟩ := kd_29.mp k_sa5
  obtain ⟨e_sa6, w_sa6, k_sa6⟩ := hI.1.2 30 (by decide)
  obtain ⟨v_sa6_h, rfl⟩ := kd_30.mp k_sa6
  by_cases hq : 0 ≤ x ∧ x < 12 ∧ 0 ≤ y ∧ y < 9
  · obtain ⟨x0, y0, hx0, hy0, ex, ey, hz⟩ := z_cl_in hq
    by_cases hh : 1200 ≤ h ∧ h ≤ 1500
    · by_cases hs : 0 ≤ s ∧ s ≤ 400
      · obtain ⟨kd, hkd, es⟩ := z_in20 (b := 400) (by decide) hs
        subst es
        refine ((C_Ip_heatAtN g (ad 0) (ad 1) (ad 5) (ad 18) (ad 31) (ad 32) (ad 36) (ad 42) (ad 45) (ad 47) (ad 49) (ad 50) (ad 51) (ad 2) (ad 3) (ad 4) t.1 v_pa2_f v_pa3_h t.2.2.1 (ad 19) (ad 20) (ad 21) (ad 22) (ad 23) (ad 24) (ad 25) (ad 26) (ad 27) (ad 28) (ad 29) (ad 30) ((v_sa1_f, v_sa2_f, v_sa_x, v_sa_y), (((v_saz1_f, v_saz3_f, v_saz4_f, v_saz_x), v_saz2_f), v_saz5_f, v_saz6_f), (v_sa4_f, v_sa5_f, v_sa6_h)) x y h kd hkd hI.2.2.1 (12 * y0 + x0) hz hh).at (hI.1.I [0, 1, 2, 3, 4, 18, 19, 20, 21, 22, 23, 24, 25, 26, 27, 28, 29, 30] _ rfl (by decide) (by decide) (List.forall_mem_cons.mpr ⟨w_a, (List.forall_mem_cons.mpr ⟨w_pa, (List.forall_mem_cons.mpr ⟨w_pa1, (List.forall_mem_cons.mpr ⟨w_pa2, (List.forall_mem_cons.mpr ⟨w_pa3, (List.forall_mem_cons.mpr ⟨w_sa, (List.forall_mem_cons.mpr ⟨w_sa1, (List.forall_mem_cons.mpr ⟨w_sa2, (List.forall_mem_cons.mpr ⟨w_saz, (List.forall_mem_cons.mpr ⟨w_saz1, (List.forall_mem_cons.mpr ⟨w_saz2, (List.forall_mem_cons.mpr ⟨w_saz3, (List.forall_mem_cons.mpr ⟨w_saz4, (List.forall_mem_cons.mpr ⟨w_saz5, (List.forall_mem_cons.mpr ⟨w_saz6, (List.forall_mem_cons.mpr ⟨w_sa4, (List.forall_mem_cons.mpr ⟨w_sa5, (List.forall_mem_cons.mpr ⟨w_sa6, (fun _ h => nomatch h)⟩)⟩)⟩)⟩)⟩)⟩)⟩)⟩)⟩)⟩)⟩)⟩)⟩)⟩)⟩)⟩)⟩)⟩))).mono (Nat.le_of_ble_eq_true rfl) (Nat.le_of_ble_eq_true rfl) (fun o w1 hp => ?_)
        obtain ⟨cs1, hp, hi9⟩ := hp
        obtain ⟨e1, e2⟩ := hp
        subst e1; subst e2
        exact ⟨Or.inl ⟨_, rfl⟩, hI.fix (t2 := t) (is := [0, 1, 2, 3, 4, 18, 19, 20, 21, 22, 23, 24, 25, 26, 27, 28, 29, 30]) hi9 rfl ⟨kd_0.mpr rfl, kd_1.mpr rfl, kd_2.mpr rfl, kd_3.mpr ⟨_, rfl⟩, kd_4.mpr ⟨_, rfl⟩, kd_18.mpr ⟨_, _, rfl⟩, kd_19.mpr ⟨_, rfl⟩, kd_20.mpr ⟨_, rfl⟩, kd_21.mpr ⟨_, rfl⟩, kd_22.mpr ⟨_, rfl⟩, kd_23.mpr ⟨_, rfl⟩, kd_24.mpr ⟨_, rfl⟩, kd_25.mpr ⟨_, rfl⟩, kd_26.mpr ⟨_, rfl⟩, kd_27.mpr ⟨_, rfl⟩, kd_28.mpr ⟨_, rfl⟩, kd_29.mpr ⟨_, rfl⟩, kd_30.mpr ⟨_, rfl⟩, trivial⟩ (by decide) (by decide) (fun _ _ _ _ h => h) (fun h => h)⟩
      · refine ((C_Ip_heatAtG g (ad 0) (ad 1) (ad 5) (ad 18) (ad 31) (ad 32) (ad 36) (ad 42) (ad 45) (ad 47) (ad 49) (ad 50) (ad 51) (ad 2) (ad 3) (ad 4) t.1 v_pa2_f v_pa3_h t.2.2.1 (ad 19) (ad 20) (ad 21) (ad 22) (ad 23) (ad 24) (ad 25) (ad 26) (ad 27) (ad 28) (ad 29) (ad 30) ((v_sa1_f, v_sa2_f, v_sa_x, v_sa_y), (((v_saz1_f, v_saz3_f, v_saz4_f, v_saz_x), v_saz2_f), v_saz5_f, v_saz6_f), (v_sa4_f, v_sa5_f, v_sa6_h)) x y h s (12 * y0 + x0) hz hh (z_stp hs)).at (hI.1.I [0, 1, 2, 3, 4, 18, 19, 20, 21, 22, 23, 24, 25, 26, 27, 28, 29, 30] _ rfl (by decide) (by decide) (List.forall_mem_cons.mpr ⟨w_a, (List.forall_mem_cons.mpr ⟨w_pa, (List.forall_mem_cons.mpr ⟨w_pa1, (List.forall_mem_cons.mpr ⟨w_pa2, (List.forall_mem_cons.mpr ⟨w_pa3, (List.forall_mem_cons.mpr ⟨w_sa, (List.forall_mem_cons.mpr ⟨w_sa1, (List.forall_mem_cons.mpr ⟨w_sa2, (List.forall_mem_cons.mpr ⟨w_saz, (List.forall_mem_cons.mpr ⟨w_saz1, (List.forall_mem_cons.mpr ⟨w_saz2, (List.forall_mem_cons.mpr ⟨w_saz3, (List.forall_mem_cons.mpr ⟨w_saz4, (List.forall_mem_cons.mpr ⟨w_saz5, (List.forall_mem_cons.mpr ⟨w_saz6, (List.forall_mem_cons.mpr ⟨w_sa4, (List.forall_mem_cons.mpr ⟨w_sa5, (List.forall_mem_cons.mpr ⟨w_sa6, (fun _ h => nomatch h)⟩)⟩)⟩)⟩)⟩)⟩)⟩)⟩)⟩)⟩)⟩)⟩)⟩)⟩)⟩)⟩)⟩)⟩))).mono (Nat.le_of_ble_eq_true rfl) (Nat.le_of_ble_eq_true rfl) (fun o w1 hp => ?_)
        obtain ⟨cs1, hp, hi9⟩ := hp
        obtain ⟨e1, e2⟩ := hp
        subst e1; subst e2
        exact ⟨Or.inr ⟨_, List.Mem.tail _ (List.Mem.head _), rfl⟩, hI.fix (t2 := t) (is := [0, 1, 2, 3, 4, 18, 19, 20, 21, 22, 23, 24, 25, 26, 27, 28, 29, 30]) hi9 rfl ⟨kd_0.mpr rfl, kd_1.mpr rfl, kd_2.mpr rfl, kd_3.mpr ⟨_, rfl⟩, kd_4.mpr ⟨_, rfl⟩, kd_18.mpr ⟨_, _, rfl⟩, kd_19.mpr ⟨_, rfl⟩, kd_20.mpr ⟨_, rfl⟩, kd_21.mpr ⟨_, rfl⟩, kd_22.mpr ⟨_, rfl⟩, kd_23.mpr ⟨_, rfl⟩, kd_24.mpr ⟨_, rfl⟩, kd_25.mpr ⟨_, rfl⟩, kd_26.mpr ⟨_, rfl⟩, kd_27.mpr ⟨_, rfl⟩, kd_28.mpr ⟨_, rfl⟩, kd_29.mpr ⟨_, rfl⟩, kd_30.mpr ⟨_, rfl⟩, trivial⟩ (by decide) (by decide) (fun _ _ _ _ h => h) (fun h => h)⟩
    · refine ((C_Ip_heatAtF g (ad 0) (ad 1) (ad 5) (ad 18) (ad 31) (ad 32) (ad 36) (ad 42) (ad 45) (ad 47) (ad 49) (ad 50) (ad 51) (ad 2) (ad 3) (ad 4) t.1 v_pa2_f v_pa3_h t.2.2.1 (ad 19) (ad 20) (ad 21) (ad 22) (ad 23) (ad 24) (ad 25) (ad 26) (ad 27) (ad 28) (ad 29) (ad 30) ((v_sa1_f, v_sa2_f, v_sa_x, v_sa_y), (((v_saz1_f, v_saz3_f, v_saz4_f, v_saz_x), v_saz2_f), v_saz5_f, v_saz6_f), (v_sa4_f, v_sa5_f, v_sa6_h)) x y h s (12 * y0 + x0) hz hh).at (hI.1.I [0, 1, 2, 3, 4, 18, 19, 20, 21, 22, 23, 24, 25, 26, 27, 28, 29, 30] _ rfl (by decide) (by decide) (List.forall_mem_cons.mpr ⟨w_a, (List.forall_mem_cons.mpr ⟨w_pa, (List.forall_mem_cons.mpr ⟨w_pa1, (List.forall_mem_cons.mpr ⟨w_pa2, (List.forall_mem_cons.mpr ⟨w_pa3, (List.forall_mem_cons.mpr ⟨w_sa, (List.forall_mem_cons.mpr ⟨w_sa1, (List.forall_mem_cons.mpr ⟨w_sa2, (List.forall_mem_cons.mpr ⟨w_saz, (List.forall_mem_cons.mpr ⟨w_saz1, (List.forall_mem_cons.mpr ⟨w_saz2, (List.forall_mem_cons.mpr ⟨w_saz3, (List.forall_mem_cons.mpr ⟨w_saz4, (List.forall_mem_cons.mpr ⟨w_saz5, (List.forall_mem_cons.mpr ⟨w_saz6, (List.forall_mem_cons.mpr ⟨w_sa4, (List.forall_mem_cons.mpr ⟨w_sa5, (List.forall_mem_cons.mpr ⟨w_sa6, (fun _ h => nomatch h)⟩)⟩)⟩)⟩)⟩)⟩)⟩)⟩)⟩)⟩)⟩)⟩)⟩)⟩)⟩)⟩)⟩)⟩))).mono (Nat.le_of_ble_eq_true rfl) (Nat.le_of_ble_eq_true rfl) (fun o w1 hp => ?_)
      obtain ⟨cs1, hp, hi9⟩ := hp
      obtain ⟨e1, e2⟩ := hp
      subst e1; subst e2
      exact ⟨Or.inr ⟨_, List.Mem.tail _ (List.Mem.head _), rfl⟩, hI.fix (t2 := t) (is := [0, 1, 2, 3, 4, 18, 19, 20, 21, 22, 23, 24, 25, 26, 27, 28, 29, 30]) hi9 rfl ⟨kd_0.mpr rfl, kd_1.mpr rfl, kd_2.mpr rfl, kd_3.mpr ⟨_, rfl⟩, kd_4.mpr ⟨_, rfl⟩, kd_18.mpr ⟨_, _, rfl⟩, kd_19.mpr ⟨_, rfl⟩, kd_20.mpr ⟨_, rfl⟩, kd_21.mpr ⟨_, rfl⟩, kd_22.mpr ⟨_, rfl⟩, kd_23.mpr ⟨_, rfl⟩, kd_24.mpr ⟨_, rfl⟩, kd_25.mpr ⟨_, rfl⟩, kd_26.mpr ⟨_, rfl⟩, kd_27.mpr ⟨_, rfl⟩, kd_28.mpr ⟨_, rfl⟩, kd_29.mpr ⟨_, rfl⟩, kd_30.mpr ⟨_, rfl⟩, trivial⟩ (by decide) (by decide) (fun _ _ _ _ h => h) (fun h => h)⟩
  · refine ((C_Ip_heatAtE g (ad 0) (ad 1) (ad 5) (ad 18) (ad 31) (ad 32) (ad 36) (ad 42) (ad 45) (ad 47) (ad 49) (ad 50) (ad 51) (ad 2) (ad 3) (ad 4) t.1 v_pa2_f v_pa3_h t.2.2.1 (ad 19) (ad 20) (ad 21) (ad 22) (ad 23) (ad 24) (ad 25) (ad 26) (ad 27) (ad 28) (ad 29) (ad 30) ((v_sa1_f, v_sa2_f, v_sa_x, v_sa_y), (((v_saz1_f, v_saz3_f, v_saz4_f, v_saz_x), v_saz2_f), v_saz5_f, v_saz6_f), (v_sa4_f, v_sa5_f, v_sa6_h)) x y h s (if_neg hq)).at (hI.1.I [0, 1, 2, 3, 4, 18, 19, 20, 21, 22, 23, 24, 25, 26, 27, 28, 29, 30] _ rfl (by decide) (by decide) (List.forall_mem_cons.mpr ⟨w_a, (List.forall_mem_cons.mpr ⟨w_pa, (List.forall_mem_cons.mpr ⟨w_pa1, (List.forall_mem_cons.mpr ⟨w_pa2, (List.forall_mem_cons.mpr ⟨w_pa3, (List.forall_mem_cons.mpr ⟨w_sa, (List.forall_mem_cons.mpr ⟨w_sa1, (List.forall_mem_cons.mpr ⟨w_sa2, (List.forall_mem_cons.mpr ⟨w_saz, (List.forall_mem_cons.mpr ⟨w_saz1, (List.forall_mem_cons.mpr ⟨w_saz2, (List.forall_mem_cons.mpr ⟨w_saz3, (List.forall_mem_cons.mpr ⟨w_saz4, (List.forall_mem_cons.mpr ⟨w_saz5, (List.forall_mem_cons.mpr ⟨w_saz6, (List.forall_mem_cons.mpr ⟨w_sa4, (List.forall_mem_cons.mpr ⟨w_sa5, (List.forall_mem_cons.mpr ⟨w_sa6, (fun _ h => nomatch h)⟩)⟩)⟩)⟩)⟩)⟩)⟩)⟩)⟩)⟩)⟩)⟩)⟩)⟩)⟩)⟩)⟩)⟩))).mono (Nat.le_of_ble_eq_true rfl) (Nat.le_of_ble_eq_true rfl) (fun o w1 hp => ?_)
    obtain ⟨cs1, hp, hi9⟩ := hp
    obtain ⟨e1, e2⟩ := hp
    subst e1; subst e2
    exact ⟨Or.inr ⟨_, List.Mem.head _, rfl⟩, hI.fix (t2 := t) (is := [0, 1, 2, 3, 4, 18, 19, 20, 21, 22, 23, 24, 25, 26, 27, 28, 29, 30]) hi9 rfl ⟨kd_0.mpr rfl, kd_1.mpr rfl, kd_2.mpr rfl, kd_3.mpr ⟨_, rfl⟩, kd_4.mpr ⟨_, rfl⟩, kd_18.mpr ⟨_, _, rfl⟩, kd_19.mpr ⟨_, rfl⟩, kd_20.mpr ⟨_, rfl⟩, kd_21.mpr ⟨_, rfl⟩, kd_22.mpr ⟨_, rfl⟩, kd_23.mpr ⟨_, rfl⟩, kd_24.mpr ⟨_, rfl⟩, kd_25.mpr ⟨_, rfl⟩, kd_26.mpr ⟨_, rfl⟩, kd_27.mpr ⟨_, rfl⟩, kd_28.mpr ⟨_, rfl⟩, kd_29.mpr ⟨_, rfl⟩, kd_30.mpr ⟨_, rfl⟩, trivial⟩ (by decide) (by decide) (fun _ _ _ _ h => h) (fun h => h)⟩
set_option maxHeartbeats 4000000 in
theorem Q_Ip_shrunk {g : zG} {ad : Nat → Nat} {t : zTT} {u : zNN} {w : zW} (hI : IV g ad t u w) (h : Int32) : zMB g M_Ip_shrunk [.ref (ad 0), .int h] w (fun o w1 => (zri ["java/lang/IllegalArgumentException"] o) ∧ IV g ad t u w1) 1 6 := by
  obtain ⟨e_a, w_a, k_a⟩ := hI.1.2 0 (by decide)
  obtain rfl := kd_0.mp k_a
  obtain ⟨e_ta, w_ta, k_ta⟩ := hI.1.2 5 (by decide)
  obtain ⟨v_ta_x, v_ta_y, rfl⟩ := kd_5.mp k_ta
  obtain ⟨e_ta1, w_ta1, k_ta1⟩ := hI.1.2 6 (by decide)
  obtain ⟨v_ta1_f, rfl⟩ := kd_6.mp k_ta1
  obtain ⟨e_ta2, w_ta2, k_ta2⟩ := hI.1.2 7 (by decide)
  obtain ⟨v_ta2_f, rfl⟩ := kd_7.mp k_ta2
  obtain ⟨e_taz, w_taz, k_taz⟩ := hI.1.2 8 (by decide)
  obtain ⟨v_taz_x, rfl⟩ := kd_8.mp k_taz
  obtain ⟨e_taz1, w_taz1, k_taz1⟩ := hI.1.2 9 (by decide)
  obtain ⟨v_taz1_f, rfl⟩ := kd_9.mp k_taz1
  obtain ⟨e_taz2, w_taz2, k_taz2⟩ := hI.1.2 10 (by decide)
  obtain ⟨v_taz2_f, rfl⟩ := kd_10.mp k_taz2
  obtain ⟨e_taz3, w_taz3, k_taz3⟩ := hI.1.2 11 (by decide)
  obtain ⟨v_taz3_f, rfl⟩ := kd_11.mp k_taz3
  obtain ⟨e_taz4, w_taz4, k_taz4⟩ := hI.1.2 12 (by decide)
  obtain ⟨v_taz4_f, rfl⟩ := kd_12.mp k_taz4
  obtain ⟨e_taz5, w_taz5, k_taz5⟩ := hI.1.2 13 (by decide)
  obtain ⟨v_taz5_f, rfl⟩ := kd_13.mp k_taz5
  obtain ⟨e_taz6, w_taz6, k_taz6⟩ := hI.1.2 14 (by decide)
  obtain ⟨v_taz6_f, rfl⟩ := kd_14.mp k_taz6
  obtain ⟨e_ta4, w_ta4, k_ta4⟩ := hI.1.2 15 (by decide)
  obtain ⟨v_ta4_f, c_ta4_0, rfl⟩ := kd_15.mp k_ta4
  obtain ⟨e_ta5, w_ta5, k_ta5⟩ := hI.1.2 16 (by decide)
  obtain ⟨v_ta5_f, rfl⟩ := kd_16.mp k_ta5
  obtain ⟨e_ta6, w_ta6, k_ta6⟩ := hI.1.2 17 (by decide)
  obtain ⟨v_ta6_h, rfl⟩ := kd_17.mp k_ta6
  by_cases hh : 1200 ≤ h ∧ h ≤ 1500
  · refine ((C_Ip_shrunkN g (ad 0) (ad 1) (ad 5) (ad 18) (ad 31) (ad 32) (ad 36) (ad 42) (ad 45) (ad 47) (ad 49) (ad 50) (ad 51) (ad 6) (ad 7) (ad 8) (ad 9) (ad 10) (ad 11) (ad 12) (ad 13) (ad 14) (ad 15) (ad 16) (ad 17) ((v_ta1_f, v_ta2_f, v_ta_x, v_ta_y), (((v_taz1_f, v_taz3_f, v_taz4_f, v_taz_x), v_taz2_f), v_taz5_f, v_taz6_f), (v_ta4_f, v_ta5_f, v_ta6_h)) h hh).at (hI.1.I [0, 5, 6, 7, 8, 9, 10, 11, 12, 13, 14, 15, 16, 17] _ rfl (by decide) (by decide) (List.forall_mem_cons.mpr ⟨w_a, (List.forall_mem_cons.mpr ⟨w_ta, (List.forall_mem_cons.mpr ⟨w_ta1, (List.forall_mem_cons.mpr ⟨w_ta2, (List.forall_mem_cons.mpr ⟨w_taz, (List.forall_mem_cons.mpr ⟨w_taz1, (List.forall_mem_cons.mpr ⟨w_taz2, (List.forall_mem_cons.mpr ⟨w_taz3, (List.forall_mem_cons.mpr ⟨w_taz4, (List.forall_mem_cons.mpr ⟨w_taz5, (List.forall_mem_cons.mpr ⟨w_taz6, (List.forall_mem_cons.mpr ⟨w_ta4, (List.forall_mem_cons.mpr ⟨w_ta5, (List.forall_mem_cons.mpr ⟨w_ta6, (fun _ h => nomatch h)⟩)⟩)⟩)⟩)⟩)⟩)⟩)⟩)⟩)⟩)⟩)⟩)⟩)⟩))).mono (Nat.le_of_ble_eq_true rfl) (Nat.le_of_ble_eq_true rfl) (fun o w1 hp => ?_)
    obtain ⟨cs1, hp, hi9⟩ := hp
    obtain ⟨e1, e2⟩ := hp
    subst e1; subst e2
    exact ⟨Or.inl ⟨_, rfl⟩, hI.fix (t2 := t) (is := [0, 5, 6, 7, 8, 9, 10, 11, 12, 13, 14, 15, 16, 17]) hi9 rfl ⟨kd_0.mpr rfl, kd_5.mpr ⟨_, _, rfl⟩, kd_6.mpr ⟨_, rfl⟩, kd_7.mpr ⟨_, rfl⟩, kd_8.mpr ⟨_, rfl⟩, kd_9.mpr ⟨_, rfl⟩, kd_10.mpr ⟨_, rfl⟩, kd_11.mpr ⟨_, rfl⟩, kd_12.mpr ⟨_, rfl⟩, kd_13.mpr ⟨_, rfl⟩, kd_14.mpr ⟨_, rfl⟩, kd_15.mpr ⟨_, (frT_01 (X := ((v_ta1_f, v_ta2_f, v_ta_x, v_ta_y), (((v_taz1_f, v_taz3_f, v_taz4_f, v_taz_x), v_taz2_f), v_taz5_f, v_taz6_f), (v_ta4_f, v_ta5_f, v_ta6_h))) c_ta4_0), rfl⟩, kd_16.mpr ⟨_, rfl⟩, kd_17.mpr ⟨_, rfl⟩, trivial⟩ (by decide) (by decide) (fun _ _ _ _ h => h) (fun h => h)⟩
  · refine ((C_Ip_shrunkE g (ad 0) (ad 1) (ad 5) (ad 18) (ad 31) (ad 32) (ad 36) (ad 42) (ad 45) (ad 47) (ad 49) (ad 50) (ad 51) (ad 6) (ad 7) (ad 8) (ad 9) (ad 10) (ad 11) (ad 12) (ad 13) (ad 14) (ad 15) (ad 16) (ad 17) ((v_ta1_f, v_ta2_f, v_ta_x, v_ta_y), (((v_taz1_f, v_taz3_f, v_taz4_f, v_taz_x), v_taz2_f), v_taz5_f, v_taz6_f), (v_ta4_f, v_ta5_f, v_ta6_h)) h hh).at (hI.1.I [0, 5, 6, 7, 8, 9, 10, 11, 12, 13, 14, 15, 16, 17] _ rfl (by decide) (by decide) (List.forall_mem_cons.mpr ⟨w_a, (List.forall_mem_cons.mpr ⟨w_ta, (List.forall_mem_cons.mpr ⟨w_ta1, (List.forall_mem_cons.mpr ⟨w_ta2, (List.forall_mem_cons.mpr ⟨w_taz, (List.forall_mem_cons.mpr ⟨w_taz1, (List.forall_mem_cons.mpr ⟨w_taz2, (List.forall_mem_cons.mpr ⟨w_taz3, (List.forall_mem_cons.mpr ⟨w_taz4, (List.forall_mem_cons.mpr ⟨w_taz5, (List.forall_mem_cons.mpr ⟨w_taz6, (List.forall_mem_cons.mpr ⟨w_ta4, (List.forall_mem_cons.mpr ⟨w_ta5, (List.forall_mem_cons.mpr ⟨w_ta6, (fun _ h => nomatch h)⟩)⟩)⟩)⟩)⟩)⟩)⟩)⟩)⟩)⟩)⟩)⟩)⟩)⟩))).mono (Nat.le_of_ble_eq_true rfl) (Nat.le_of_ble_eq_true rfl) (fun o w1 hp => ?_)
    obtain ⟨cs1, hp, hi9⟩ := hp
    obtain ⟨e1, e2⟩ := hp
    subst e1; subst e2
    exact ⟨Or.inr ⟨_, List.Mem.head _, rfl⟩, hI.fix (t2 := t) (is := [0, 5, 6, 7, 8, 9, 10, 11, 12, 13, 14, 15, 16, 17]) hi9 rfl ⟨kd_0.mpr rfl, kd_5.mpr ⟨_, _, rfl⟩, kd_6.mpr ⟨_, rfl⟩, kd_7.mpr ⟨_, rfl⟩, kd_8.mpr ⟨_, rfl⟩, kd_9.mpr ⟨_, rfl⟩, kd_10.mpr ⟨_, rfl⟩, kd_11.mpr ⟨_, rfl⟩, kd_12.mpr ⟨_, rfl⟩, kd_13.mpr ⟨_, rfl⟩, kd_14.mpr ⟨_, rfl⟩, kd_15.mpr ⟨_, c_ta4_0, rfl⟩, kd_16.mpr ⟨_, rfl⟩, kd_17.mpr ⟨_, rfl⟩, trivial⟩ (by decide) (by decide) (fun _ _ _ _ h => h) (fun h => h)⟩
set_option maxHeartbeats 4000000 in
theorem Q_Ip_shrunkAnew {g : zG} {ad : Nat → Nat} {t : zTT} {u : zNN} {w : zW} (hI : IV g ad t u w) (h : Int32) : zMB g M_Ip_shrunkAnew [.ref (ad 0), .int h] w (fun o w1 => (zri ["java/lang/IllegalArgumentException"] o) ∧ IV g ad t u w1) 1 6 := by
  obtain ⟨e_a, w_a, k_a⟩ := hI.1.2 0 (by decide)
  obtain rfl := kd_0.mp k_a
  obtain ⟨e_ta, w_ta, k_ta⟩ := hI.1.2 5 (by decide)
  obtain ⟨v_ta_x, v_ta_y, rfl⟩ := kd_5.mp k_ta
  obtain ⟨e_ta1, w_ta1, k_ta1⟩ := hI.1.2 6 (by decide)
  obtain ⟨v_ta1_f, rfl⟩ := kd_6.mp k_ta1
  obtain ⟨e_ta2, w_ta2, k_ta2⟩ := hI.1.2 7 (by decide)
  obtain ⟨v_ta2_f, rfl⟩ := kd_7.mp k_ta2
  obtain ⟨e_taz, w_taz, k_taz⟩ := hI.1.2 8 (by decide)
  obtain ⟨v_taz_x, rfl⟩ := kd_8.mp k_taz
  obtain ⟨e_taz1, w_taz1, k_taz1⟩ := hI.1.2 9 (by decide)
  obtain ⟨v_taz1_f, rfl⟩ := kd_9.mp k_taz1
  obtain ⟨e_taz2, w_taz2, k_taz2⟩ := hI.1.2 10 (by decide)
  obtain ⟨v_taz2_f, rfl⟩ := kd_10.mp k_taz2
  obtain ⟨e_taz3, w_taz3, k_taz3⟩ := hI.1.2 11 (by decide)
  obtain ⟨v_taz3_f, rfl⟩ := kd_11.mp k_taz3
  obtain ⟨e_taz4, w_taz4, k_taz4⟩ := hI.1.2 12 (by decide)
  obtain ⟨v_taz4_f, rfl⟩ := kd_12.mp k_taz4
  obtain ⟨e_taz5, w_taz5, k_taz5⟩ := hI.1.2 13 (by decide)
  obtain ⟨v_taz5_f, rfl⟩ := kd_13.mp k_taz5
  obtain ⟨e_taz6, w_taz6, k_taz6⟩ := hI.1.2 14 (by decide)
  obtain ⟨v_taz6_f, rfl⟩ := kd_14.mp k_taz6
  obtain ⟨e_ta4, w_ta4, k_ta4⟩ := hI.1.2 15 (by decide)
  obtain ⟨v_ta4_f, c_ta4_0, rfl⟩ := kd_15.mp k_ta4
  obtain ⟨e_ta5, w_ta5, k_ta5⟩ := hI.1.2 16 (by decide)
  obtain ⟨v_ta5_f, rfl⟩ := kd_16.mp k_ta5
  obtain ⟨e_ta6, w_ta6, k_ta6⟩ := hI.1.2 17 (by decide)
  obtain ⟨v_ta6_h, rfl⟩ := kd_17.mp k_ta6
  by_cases hh : 1200 ≤ h ∧ h ≤ 1500
  · refine ((C_Ip_shrunkAnewN g (ad 0) (ad 1) (ad 5) (ad 18) (ad 31) (ad 32) (ad 36) (ad 42) (ad 45) (ad 47) (ad 49) (ad 50) (ad 51) (ad 6) (ad 7) (ad 8) (ad 9) (ad 10) (ad 11) (ad 12) (ad 13) (ad 14) (ad 15) (ad 16) (ad 17) ((v_ta1_f, v_ta2_f, v_ta_x, v_ta_y), (((v_taz1_f, v_taz3_f, v_taz4_f, v_taz_x), v_taz2_f), v_taz5_f, v_taz6_f), (v_ta4_f, v_ta5_f, v_ta6_h)) h hh).at (hI.1.I [0, 5, 6, 7, 8, 9, 10, 11, 12, 13, 14, 15, 16, 17] _ rfl (by decide) (by decide) (List.forall_mem_cons.mpr ⟨w_a, (List.forall_mem_cons.mpr ⟨w_ta, (List.forall_mem_cons.mpr ⟨w_ta1, (List.forall_mem_cons.mpr ⟨w_ta2, (List.forall_mem_cons.mpr ⟨w_taz, (List.forall_mem_cons.mpr ⟨w_taz1, (List.forall_mem_cons.mpr ⟨w_taz2, (List.forall_mem_cons.mpr ⟨w_taz3, (List.forall_mem_cons.mpr ⟨w_taz4, (List.forall_mem_cons.mpr ⟨w_taz5, (List.forall_mem_cons.mpr ⟨w_taz6, (List.forall_mem_cons.mpr ⟨w_ta4, (List.forall_mem_cons.mpr ⟨w_ta5, (List.forall_mem_cons.mpr ⟨w_ta6, (fun _ h => nomatch h)⟩)⟩)⟩)⟩)⟩)⟩)⟩)⟩)⟩)⟩)⟩)⟩)⟩)⟩))).mono (Nat.le_of_ble_eq_true rfl) (Nat.le_of_ble_eq_true rfl) (fun o w1 hp => ?_)
    obtain ⟨cs1, hp, hi9⟩ := hp
    obtain ⟨e1, e2⟩ := hp
    subst e1; subst e2
    exact ⟨Or.inl ⟨_, rfl⟩, hI.fix (t2 := t) (is := [0, 5, 6, 7, 8, 9, 10, 11, 12, 13, 14, 15, 16, 17]) hi9 rfl ⟨kd_0.mpr rfl, kd_5.mpr ⟨_, _, rfl⟩, kd_6.mpr ⟨_, rfl⟩, kd_7.mpr ⟨_, rfl⟩, kd_8.mpr ⟨_, rfl⟩, kd_9.mpr ⟨_, rfl⟩, kd_10.mpr ⟨_, rfl⟩, kd_11.mpr ⟨_, rfl⟩, kd_12.mpr ⟨_, rfl⟩, kd_13.mpr ⟨_, rfl⟩, kd_14.mpr ⟨_, rfl⟩, kd_15.mpr ⟨_, (frT_01 (X := ((v_ta1_f, v_ta2_f, v_ta_x, v_ta_y), (((v_taz1_f, v_taz3_f, v_taz4_f, v_taz_x), v_taz2_f), v_taz5_f, v_taz6_f), (v_ta4_f, v_ta5_f, v_ta6_h))) c_ta4_0), rfl⟩, kd_16.mpr ⟨_, rfl⟩, kd_17.mpr ⟨_, rfl⟩, trivial⟩ (by decide) (by decide) (fun _ _ _ _ h => h) (fun h => h)⟩
  · refine ((C_Ip_shrunkAnewE g (ad 0) (ad 1) (ad 5) (ad 18) (ad 31) (ad 32) (ad 36) (ad 42) (ad 45) (ad 47) (ad 49) (ad 50) (ad 51) (ad 6) (ad 7) (ad 8) (ad 9) (ad 10) (ad 11) (ad 12) (ad 13) (ad 14) (ad 15) (ad 16) (ad 17) ((v_ta1_f, v_ta2_f, v_ta_x, v_ta_y), (((v_taz1_f, v_taz3_f, v_taz4_f, v_taz_x), v_taz2_f), v_taz5_f, v_taz6_f), (v_ta4_f, v_ta5_f, v_ta6_h)) h hh).at (hI.1.I [0, 5, 6, 7, 8, 9, 10, 11, 12, 13, 14, 15, 16, 17] _ rfl (by decide) (by decide) (List.forall_mem_cons.mpr ⟨w_a, (List.forall_mem_cons.mpr ⟨w_ta, (List.forall_mem_cons.mpr ⟨w_ta1, (List.forall_mem_cons.mpr ⟨w_ta2, (List.forall_mem_cons.mpr ⟨w_taz, (List.forall_mem_cons.mpr ⟨w_taz1, (List.forall_mem_cons.mpr ⟨w_taz2, (List.forall_mem_cons.mpr ⟨w_taz3, (List.forall_mem_cons.mpr ⟨w_taz4, (List.forall_mem_cons.mpr ⟨w_taz5, (List.forall_mem_cons.mpr ⟨w_taz6, (List.forall_mem_cons.mpr ⟨w_ta4, (List.forall_mem_cons.mpr ⟨w_ta5, (List.forall_mem_cons.mpr ⟨w_ta6, (fun _ h => nomatch h)⟩)⟩)⟩)⟩)⟩)⟩)⟩)⟩)⟩)⟩)⟩)⟩)⟩)⟩))).mono (Nat.le_of_ble_eq_true rfl) (Nat.le_of_ble_eq_true rfl) (fun o w1 hp => ?_)
    obtain ⟨cs1, hp, hi9⟩ := hp
    obtain ⟨e1, e2⟩ := hp
    subst e1; subst e2
    exact ⟨Or.inr ⟨_, List.Mem.head _, rfl⟩, hI.fix (t2 := t) (is := [0, 5, 6, 7, 8, 9, 10, 11, 12, 13, 14, 15, 16, 17]) hi9 rfl ⟨kd_0.mpr rfl, kd_5.mpr ⟨_, _, rfl⟩, kd_6.mpr ⟨_, rfl⟩, kd_7.mpr ⟨_, rfl⟩, kd_8.mpr ⟨_, rfl⟩, kd_9.mpr ⟨_, rfl⟩, kd_10.mpr ⟨_, rfl⟩, kd_11.mpr ⟨_, rfl⟩, kd_12.mpr ⟨_, rfl⟩, kd_13.mpr ⟨_, rfl⟩, kd_14.mpr ⟨_, rfl⟩, kd_15.mpr ⟨_, c_ta4_0, rfl⟩, kd_16.mpr ⟨_, rfl⟩, kd_17.mpr ⟨_, rfl⟩, trivial⟩ (by decide) (by decide) (fun _ _ _ _ h => h) (fun h => h)⟩
set_option maxHeartbeats 4000000 in
theorem Q_Ip_lastPlace {g : zG} {ad : Nat → Nat} {t : zTT} {u : zNN} {w : zW} (hI : IV g ad t u w) (h : Int32) : zMB g M_Ip_lastPlace [.ref (ad 0), .int h] w (fun o w1 => (zri ["java/lang/IllegalArgumentException", "java/util/NoSuchElementException"] o) ∧ IV g ad t u w1) 2 12 := by
  obtain ⟨e_a, w_a, k_a⟩ := hI.1.2 0 (by decide)
  obtain rfl := kd_0.mp k_a
  obtain ⟨e_ta, w_ta, k_ta⟩ := hI.1.2 5 (by decide)
  obtain ⟨v_ta_x, v_ta_y, rfl⟩ := kd_5.mp k_ta
  obtain ⟨e_ta1, w_ta1, k_ta1⟩ := hI.1.2 6 (by decide)
  obtain ⟨v_ta1_f, rfl⟩ := kd_6.mp k_ta1
  obtain ⟨e_ta2, w_ta2, k_ta2⟩ := hI.1.2 7 (by decide)
  obtain ⟨v_ta2_f, rfl⟩ := kd_7.mp k_ta2
  obtain ⟨e_taz, w_taz, k_taz⟩ := hI.1.2 8 (by decide)
  obtain ⟨v_taz_x, rfl⟩ := kd_8.mp k_taz
  obtain ⟨e_taz1, w_taz1, k_taz1⟩ := hI.1.2 9 (by decide)
  obtain ⟨v_taz1_f, rfl⟩ := kd_9.mp k_taz1
  obtain ⟨e_taz2, w_taz2, k_taz2⟩ := hI.1.2 10 (by decide)
  obtain ⟨v_taz2_f, rfl⟩ := kd_10.mp k_taz2
  obtain ⟨e_taz3, w_taz3, k_taz3⟩ := hI.1.2 11 (by decide)
  obtain ⟨v_taz3_f, rfl⟩ := kd_11.mp k_taz3
  obtain ⟨e_taz4, w_taz4, k_taz4⟩ := hI.1.2 12 (by decide)
  obtain ⟨v_taz4_f, rfl⟩ := kd_12.mp k_taz4
  obtain ⟨e_taz5, w_taz5, k_taz5⟩ := hI.1.2 13 (by decide)
  obtain ⟨v_taz5_f, rfl⟩ := kd_13.mp k_taz5
  obtain ⟨e_taz6, w_taz6, k_taz6⟩ := hI.1.2 14 (by decide)
  obtain ⟨v_taz6_f, rfl⟩ := kd_14.mp k_taz6
  obtain ⟨e_ta4, w_ta4, k_ta4⟩ := hI.1.2 15 (by decide)
  obtain ⟨v_ta4_f, c_ta4_0, rfl⟩ := kd_15.mp k_ta4
  obtain ⟨e_ta5, w_ta5, k_ta5⟩ := hI.1.2 16 (by decide)
  obtain ⟨v_ta5_f, rfl⟩ := kd_16.mp k_ta5
  obtain ⟨e_ta6, w_ta6, k_ta6⟩ := hI.1.2 17 (by decide)
  obtain ⟨v_ta6_h, rfl⟩ := kd_17.mp k_ta6
  by_cases hh : 1200 ≤ h ∧ h ≤ 1500
  · by_cases hl : lfX (frT h ((v_ta1_f, v_ta2_f, v_ta_x, v_ta_y), (((v_taz1_f, v_taz3_f, v_taz4_f, v_taz_x), v_taz2_f), v_taz5_f, v_taz6_f), (v_ta4_f, v_ta5_f, v_ta6_h))) < 0
    · refine ((C_Ip_lastPlaceF g (ad 0) (ad 1) (ad 5) (ad 18) (ad 31) (ad 32) (ad 36) (ad 42) (ad 45) (ad 47) (ad 49) (ad 50) (ad 51) (ad 6) (ad 7) (ad 8) (ad 9) (ad 10) (ad 11) (ad 12) (ad 13) (ad 14) (ad 15) (ad 16) (ad 17) ((v_ta1_f, v_ta2_f, v_ta_x, v_ta_y), (((v_taz1_f, v_taz3_f, v_taz4_f, v_taz_x), v_taz2_f), v_taz5_f, v_taz6_f), (v_ta4_f, v_ta5_f, v_ta6_h)) h hh hl).at (hI.1.I [0, 5, 6, 7, 8, 9, 10, 11, 12, 13, 14, 15, 16, 17] _ rfl (by decide) (by decide) (List.forall_mem_cons.mpr ⟨w_a, (List.forall_mem_cons.mpr ⟨w_ta, (List.forall_mem_cons.mpr ⟨w_ta1, (List.forall_mem_cons.mpr ⟨w_ta2, (List.forall_mem_cons.mpr ⟨w_taz, (List.forall_mem_cons.mpr ⟨w_taz1, (List.forall_mem_cons.mpr ⟨w_taz2, (List.forall_mem_cons.mpr ⟨w_taz3, (List.forall_mem_cons.mpr ⟨w_taz4, (List.forall_mem_cons.mpr ⟨w_taz5, (List.forall_mem_cons.mpr ⟨w_taz6, (List.forall_mem_cons.mpr ⟨w_ta4, (List.forall_mem_cons.mpr ⟨w_ta5, (List.forall_mem_cons.mpr ⟨w_ta6, (fun _ h => nomatch h)⟩)⟩)⟩)⟩)⟩)⟩)⟩)⟩)⟩)⟩)⟩)⟩)⟩)⟩))).mono (Nat.le_of_ble_eq_true rfl) (Nat.le_of_ble_eq_true rfl) (fun o w1 hp => ?_)
      obtain ⟨cs1, hp, hi9⟩ := hp
      obtain ⟨e1, e2⟩ := hp
      subst e1; subst e2
      exact ⟨Or.inr ⟨_, List.Mem.tail _ (List.Mem.head _), rfl⟩, hI.fix (t2 := t) (is := [0, 5, 6, 7, 8, 9, 10, 11, 12, 13, 14, 15, 16, 17]) hi9 rfl ⟨kd_0.mpr rfl, kd_5.mpr ⟨_, _, rfl⟩, kd_6.mpr ⟨_, rfl⟩, kd_7.mpr ⟨_, rfl⟩, kd_8.mpr ⟨_, rfl⟩, kd_9.mpr ⟨_, rfl⟩, kd_10.mpr ⟨_, rfl⟩, kd_11.mpr ⟨_, rfl⟩, kd_12.mpr ⟨_, rfl⟩, kd_13.mpr ⟨_, rfl⟩, kd_14.mpr ⟨_, rfl⟩, kd_15.mpr ⟨_, (frT_01 (X := ((v_ta1_f, v_ta2_f, v_ta_x, v_ta_y), (((v_taz1_f, v_taz3_f, v_taz4_f, v_taz_x), v_taz2_f), v_taz5_f, v_taz6_f), (v_ta4_f, v_ta5_f, v_ta6_h))) c_ta4_0), rfl⟩, kd_16.mpr ⟨_, rfl⟩, kd_17.mpr ⟨_, rfl⟩, trivial⟩ (by decide) (by decide) (fun _ _ _ _ h => h) (fun h => h)⟩
    · refine ((C_Ip_lastPlaceN g (ad 0) (ad 1) (ad 5) (ad 18) (ad 31) (ad 32) (ad 36) (ad 42) (ad 45) (ad 47) (ad 49) (ad 50) (ad 51) (ad 6) (ad 7) (ad 8) (ad 9) (ad 10) (ad 11) (ad 12) (ad 13) (ad 14) (ad 15) (ad 16) (ad 17) ((v_ta1_f, v_ta2_f, v_ta_x, v_ta_y), (((v_taz1_f, v_taz3_f, v_taz4_f, v_taz_x), v_taz2_f), v_taz5_f, v_taz6_f), (v_ta4_f, v_ta5_f, v_ta6_h)) h hh hl).at (hI.1.I [0, 5, 6, 7, 8, 9, 10, 11, 12, 13, 14, 15, 16, 17] _ rfl (by decide) (by decide) (List.forall_mem_cons.mpr ⟨w_a, (List.forall_mem_cons.mpr ⟨w_ta, (List.forall_mem_cons.mpr ⟨w_ta1, (List.forall_mem_cons.mpr ⟨w_ta2, (List.forall_mem_cons.mpr ⟨w_taz, (List.forall_mem_cons.mpr ⟨w_taz1, (List.forall_mem_cons.mpr ⟨w_taz2, (List.forall_mem_cons.mpr ⟨w_taz3, (List.forall_mem_cons.mpr ⟨w_taz4, (List.forall_mem_cons.mpr ⟨w_taz5, (List.forall_mem_cons.mpr ⟨w_taz6, (List.forall_mem_cons.mpr ⟨w_ta4, (List.forall_mem_cons.mpr ⟨w_ta5, (List.forall_mem_cons.mpr ⟨w_ta6, (fun _ h => nomatch h)⟩)⟩)⟩)⟩)⟩)⟩)⟩)⟩)⟩)⟩)⟩)⟩)⟩)⟩))).mono (Nat.le_of_ble_eq_true rfl) (Nat.le_of_ble_eq_true rfl) (fun o w1 hp => ?_)
      obtain ⟨cs1, hp, hi9⟩ := hp
      obtain ⟨e1, e2⟩ := hp
      subst e1; subst e2
      exact ⟨Or.inl ⟨_, rfl⟩, hI.fix (t2 := t) (is := [0, 5, 6, 7, 8, 9, 10, 11, 12, 13, 14, 15, 16, 17]) hi9 rfl ⟨kd_0.mpr rfl, kd_5.mpr ⟨_, _, rfl⟩, kd_6.mpr ⟨_, rfl⟩, kd_7.mpr ⟨_, rfl⟩, kd_8.mpr ⟨_, rfl⟩, kd_9.mpr ⟨_, rfl⟩, kd_10.mpr ⟨_, rfl⟩, kd_11.mpr ⟨_, rfl⟩, kd_12.mpr ⟨_, rfl⟩, kd_13.mpr ⟨_, rfl⟩, kd_14.mpr ⟨_, rfl⟩, kd_15.mpr ⟨_, (frT_01 (X := ((v_ta1_f, v_ta2_f, v_ta_x, v_ta_y), (((v_taz1_f, v_taz3_f, v_taz4_f, v_taz_x), v_taz2_f), v_taz5_f, v_taz6_f), (v_ta4_f, v_ta5_f, v_ta6_h))) c_ta4_0), rfl⟩, kd_16.mpr ⟨_, rfl⟩, kd_17.mpr ⟨_, rfl⟩, trivial⟩ (by decide) (by decide) (fun _ _ _ _ h => h) (fun h => h)⟩
  · refine ((C_Ip_lastPlaceE g (ad 0) (ad 1) (ad 5) (ad 18) (ad 31) (ad 32) (ad 36) (ad 42) (ad 45) (ad 47) (ad 49) (ad 50) (ad 51) (ad 6) (ad 7) (ad 8) (ad 9) (ad 10) (ad 11) (ad 12) (ad 13) (ad 14) (ad 15) (ad 16) (ad 17) ((v_ta1_f, v_ta2_f, v_ta_x, v_ta_y), (((v_taz1_f, v_taz3_f, v_taz4_f, v_taz_x), v_taz2_f), v_taz5_f, v_taz6_f), (v_ta4_f, v_ta5_f, v_ta6_h)) h hh).at (hI.1.I [0, 5, 6, 7, 8, 9, 10, 11, 12, 13, 14, 15, 16, 17] _ rfl (by decide) (by decide) (List.forall_mem_cons.mpr ⟨w_a, (List.forall_mem_cons.mpr ⟨w_ta, (List.forall_mem_cons.mpr ⟨w_ta1, (List.forall_mem_cons.mpr ⟨w_ta2, (List.forall_mem_cons.mpr ⟨w_taz, (List.forall_mem_cons.mpr ⟨w_taz1, (List.forall_mem_cons.mpr ⟨w_taz2, (List.forall_mem_cons.mpr ⟨w_taz3, (List.forall_mem_cons.mpr ⟨w_taz4, (List.forall_mem_cons.mpr ⟨w_taz5, (List.forall_mem_cons.mpr ⟨w_taz6, (List.forall_mem_cons.mpr ⟨w_ta4, (List.forall_mem_cons.mpr ⟨w_ta5, (List.forall_mem_cons.mpr ⟨w_ta6, (fun _ h => nomatch h)⟩)⟩)⟩)⟩)⟩)⟩)⟩)⟩)⟩)⟩)⟩)⟩)⟩)⟩))).mono (Nat.le_of_ble_eq_true rfl) (Nat.le_of_ble_eq_true rfl) (fun o w1 hp => ?_)
    obtain ⟨cs1, hp, hi9⟩ := hp
    obtain ⟨e1, e2⟩ := hp
    subst e1; subst e2
    exact ⟨Or.inr ⟨_, List.Mem.head _, rfl⟩, hI.fix (t2 := t) (is := [0, 5, 6, 7, 8, 9, 10, 11, 12, 13, 14, 15, 16, 17]) hi9 rfl ⟨kd_0.mpr rfl, kd_5.mpr ⟨_, _, rfl⟩, kd_6.mpr ⟨_, rfl⟩, kd_7.mpr ⟨_, rfl⟩, kd_8.mpr ⟨_, rfl⟩, kd_9.mpr ⟨_, rfl⟩, kd_10.mpr ⟨_, rfl⟩, kd_11.mpr ⟨_, rfl⟩, kd_12.mpr ⟨_, rfl⟩, kd_13.mpr ⟨_, rfl⟩, kd_14.mpr ⟨_, rfl⟩, kd_15.mpr ⟨_, c_ta4_0, rfl⟩, kd_16.mpr ⟨_, rfl⟩, kd_17.mpr ⟨_, rfl⟩, trivial⟩ (by decide) (by decide) (fun _ _ _ _ h => h) (fun h => h)⟩
set_option maxHeartbeats 4000000 in
theorem Q_Ip_mill {g : zG} {ad : Nat → Nat} {t : zTT} {u : zNN} {w : zW} (hI : IV g ad t u w) (m1 m2 m3 m4 : Int32) : zMB g M_Ip_mill [.ref (ad 0), .int m1, .int m2, .int m3, .int m4] w (fun o w1 => (zri ["java/lang/IllegalArgumentException"] o) ∧ IV g ad t u w1) 1 6 := by
  obtain ⟨e_a, w_a, k_a⟩ := hI.1.2 0 (by decide)
  obtain rfl := kd_0.mp k_a
  obtain ⟨e_gs, w_gs, k_gs⟩ := hI.1.2 31 (by decide)
  obtain ⟨v_gs_x1, v_gs_x2, v_gs_x3, v_gs_x4, v_gs_x5, rfl⟩ := kd_31.mp k_gs
  by_cases hw : ((0 ≤ m1 ∧ m1 ≤ 20) ∧ (0 ≤ m2 ∧ m2 ≤ 20) ∧ (0 ≤ m3 ∧ m3 ≤ 20) ∧ (0 ≤ m4 ∧ m4 ≤ 50))
  · refine ((C_Ip_millN g (ad 0) (ad 1) (ad 5) (ad 18) (ad 31) (ad 32) (ad 36) (ad 42) (ad 45) (ad 47) (ad 49) (ad 50) (ad 51) v_gs_x1 v_gs_x2 v_gs_x3 v_gs_x4 v_gs_x5 m1 m2 m3 m4 hw).at (hI.1.I [0, 31] _ rfl (by decide) (by decide) (List.forall_mem_cons.mpr ⟨w_a, (List.forall_mem_cons.mpr ⟨w_gs, (fun _ h => nomatch h)⟩)⟩))).mono (Nat.le_of_ble_eq_true rfl) (Nat.le_of_ble_eq_true rfl) (fun o w1 hp => ?_)
    obtain ⟨cs1, hp, hi9⟩ := hp
    obtain ⟨e1, e2⟩ := hp
    subst e1; subst e2
    exact ⟨Or.inl ⟨_, rfl⟩, hI.fix (t2 := t) (is := [0, 31]) hi9 rfl ⟨kd_0.mpr rfl, kd_31.mpr ⟨_, _, _, _, _, rfl⟩, trivial⟩ (by decide) (by decide) (fun _ _ _ _ h => h) (fun h => h)⟩
  · refine ((C_Ip_millE g (ad 0) (ad 1) (ad 5) (ad 18) (ad 31) (ad 32) (ad 36) (ad 42) (ad 45) (ad 47) (ad 49) (ad 50) (ad 51) v_gs_x1 v_gs_x2 v_gs_x3 v_gs_x4 v_gs_x5 m1 m2 m3 m4 hw).at (hI.1.I [0, 31] _ rfl (by decide) (by decide) (List.forall_mem_cons.mpr ⟨w_a, (List.forall_mem_cons.mpr ⟨w_gs, (fun _ h => nomatch h)⟩)⟩))).mono (Nat.le_of_ble_eq_true rfl) (Nat.le_of_ble_eq_true rfl) (fun o w1 hp => ?_)
    obtain ⟨cs1, hp, hi9⟩ := hp
    obtain ⟨e1, e2⟩ := hp
    subst e1; subst e2
    exact ⟨Or.inr ⟨_, List.Mem.head _, rfl⟩, hI.fix (t2 := t) (is := [0, 31]) hi9 rfl ⟨kd_0.mpr rfl, kd_31.mpr ⟨_, _, _, _, _, rfl⟩, trivial⟩ (by decide) (by decide) (fun _ _ _ _ h => h) (fun h => h)⟩
set_option maxHeartbeats 4000000 in
theorem Q_Ip_sand {g : zG} {ad : Nat → Nat} {t : zTT} {u : zNN} {w : zW} (hI : IV g ad t u w) (w9 : Int32) : zMB g M_Ip_sand [.ref (ad 0), .int w9] w (fun o w1 => (zri ["java/lang/IllegalArgumentException"] o) ∧ IV g ad t u w1) 1 6 := by
  obtain ⟨e_a, w_a, k_a⟩ := hI.1.2 0 (by decide)
  obtain rfl := kd_0.mp k_a
  obtain ⟨e_gs, w_gs, k_gs⟩ := hI.1.2 31 (by decide)
  obtain ⟨v_gs_x1, v_gs_x2, v_gs_x3, v_gs_x4, v_gs_x5, rfl⟩ := kd_31.mp k_gs
  by_cases hn : (w9 = 99 ∨ w9 = 119 ∨ w9 = 107 ∨ w9 = 102 ∨ w9 = 98 ∨ w9 = 115 ∨ w9 = 100)
  · rcases hn with rfl | rfl | rfl | rfl | rfl | rfl | rfl
    · refine ((C_Ip_sand99 g (ad 0) (ad 1) (ad 5) (ad 18) (ad 31) (ad 32) (ad 36) (ad 42) (ad 45) (ad 47) (ad 49) (ad 50) (ad 51) v_gs_x1 v_gs_x2 v_gs_x3 v_gs_x4 v_gs_x5).at (hI.1.I [0, 31] _ rfl (by decide) (by decide) (List.forall_mem_cons.mpr ⟨w_a, (List.forall_mem_cons.mpr ⟨w_gs, (fun _ h => nomatch h)⟩)⟩))).mono (Nat.le_of_ble_eq_true rfl) (Nat.le_of_ble_eq_true rfl) (fun o w1 hp => ?_)
      obtain ⟨cs1, hp, hi9⟩ := hp
      obtain ⟨e1, e2⟩ := hp
      subst e1; subst e2
      exact ⟨Or.inl ⟨_, rfl⟩, hI.fix (t2 := t) (is := [0, 31]) hi9 rfl ⟨kd_0.mpr rfl, kd_31.mpr ⟨_, _, _, _, _, rfl⟩, trivial⟩ (by decide) (by decide) (fun _ _ _ _ h => h) (fun h => h)⟩
    · refine ((C_Ip_sand119 g (ad 0) (ad 1) (ad 5) (ad 18) (ad 31) (ad 32) (ad 36) (ad 42) (ad 45) (ad 47) (ad 49) (ad 50) (ad 51) v_gs_x1 v_gs_x2 v_gs_x3 v_gs_x4 v_gs_x5).at (hI.1.I [0, 31] _ rfl (by decide) (by decide) (List.forall_mem_cons.mpr ⟨w_a, (List.forall_mem_cons.mpr ⟨w_gs, (fun _ h => nomatch h)⟩)⟩))).mono (Nat.le_of_ble_eq_true rfl) (Nat.le_of_ble_eq_true rfl) (fun o w1 hp => ?_)
      obtain ⟨cs1, hp, hi9⟩ := hp
      obtain ⟨e1, e2⟩ := hp
      subst e1; subst e2
      exact ⟨Or.inl ⟨_, rfl⟩, hI.fix (t2 := t) (is := [0, 31]) hi9 rfl ⟨kd_0.mpr rfl, kd_31.mpr ⟨_, _, _, _, _, rfl⟩, trivial⟩ (by decide) (by decide) (fun _ _ _ _ h => h) (fun h => h)⟩
    · refine ((C_Ip_sand107 g (ad 0) (ad 1) (ad 5) (ad 18) (ad 31) (ad 32) (ad 36) (ad 42) (ad 45) (ad 47) (ad 49) (ad 50) (ad 51) v_gs_x1 v_gs_x2 v_gs_x3 v_gs_x4 v_gs_x5).at (hI.1.I [0, 31] _ rfl (by decide) (by decide) (List.forall_mem_cons.mpr ⟨w_a, (List.forall_mem_cons.mpr ⟨w_gs, (fun _ h => nomatch h)⟩)⟩))).mono (Nat.le_of_ble_eq_true rfl) (Nat.le_of_ble_eq_true rfl) (fun o w1 hp => ?_)
      obtain ⟨cs1, hp, hi9⟩ := hp
      obtain ⟨e1, e2⟩ := hp
      subst e1; subst e2
      exact ⟨Or.inl ⟨_, rfl⟩, hI.fix (t2 := t) (is := [0, 31]) hi9 rfl ⟨kd_0.mpr rfl, kd_31.mpr ⟨_, _, _, _, _, rfl⟩, trivial⟩ (by decide) (by decide) (fun _ _ _ _ h => h) (fun h => h)⟩
    · refine ((C_Ip_sand102 g (ad 0) (ad 1) (ad 5) (ad 18) (ad 31) (ad 32) (ad 36) (ad 42) (ad 45) (ad 47) (ad 49) (ad 50) (ad 51) v_gs_x1 v_gs_x2 v_gs_x3 v_gs_x4 v_gs_x5).at (hI.1.I [0, 31] _ rfl (by decide) (by decide) (List.forall_mem_cons.mpr ⟨w_a, (List.forall_mem_cons.mpr ⟨w_gs, (fun _ h => nomatch h)⟩)⟩))).mono (Nat.le_of_ble_eq_true rfl) (Nat.le_of_ble_eq_true rfl) (fun o w1 hp => ?_)
      obtain ⟨cs1, hp, hi9⟩ := hp
      obtain ⟨e1, e2⟩ := hp
      subst e1; subst e2
      exact ⟨Or.inl ⟨_, rfl⟩, hI.fix (t2 := t) (is := [0, 31]) hi9 rfl ⟨kd_0.mpr rfl, kd_31.mpr ⟨_, _, _, _, _, rfl⟩, trivial⟩ (by decide) (by decide) (fun _ _ _ _ h => h) (fun h => h)⟩
    · refine ((C_Ip_sand98 g (ad 0) (ad 1) (ad 5) (ad 18) (ad 31) (ad 32) (ad 36) (ad 42) (ad 45) (ad 47) (ad 49) (ad 50) (ad 51) v_gs_x1 v_gs_x2 v_gs_x3 v_gs_x4 v_gs_x5).at (hI.1.I [0, 31] _ rfl (by decide) (by decide) (List.forall_mem_cons.mpr ⟨w_a, (List.forall_mem_cons.mpr ⟨w_gs, (fun _ h => nomatch h)⟩)⟩))).mono (Nat.le_of_ble_eq_true rfl) (Nat.le_of_ble_eq_true rfl) (fun o w1 hp => ?_)
      obtain ⟨cs1, hp, hi9⟩ := hp
      obtain ⟨e1, e2⟩ := hp
      subst e1; subst e2
      exact ⟨Or.inl ⟨_, rfl⟩, hI.fix (t2 := t) (is := [0, 31]) hi9 rfl ⟨kd_0.mpr rfl, kd_31.mpr ⟨_, _, _, _, _, rfl⟩, trivial⟩ (by decide) (by decide) (fun _ _ _ _ h => h) (fun h => h)⟩
    · refine ((C_Ip_sand115 g (ad 0) (ad 1) (ad 5) (ad 18) (ad 31) (ad 32) (ad 36) (ad 42) (ad 45) (ad 47) (ad 49) (ad 50) (ad 51) v_gs_x1 v_gs_x2 v_gs_x3 v_gs_x4 v_gs_x5).at (hI.1.I [0, 31] _ rfl (by decide) (by decide) (List.forall_mem_cons.mpr ⟨w_a, (List.forall_mem_cons.mpr ⟨w_gs, (fun _ h => nomatch h)⟩)⟩))).mono (Nat.le_of_ble_eq_true rfl) (Nat.le_of_ble_eq_true rfl) (fun o w1 hp => ?_)
      obtain ⟨cs1, hp, hi9⟩ := hp
      obtain ⟨e1, e2⟩ := hp
      subst e1; subst e2
      exact ⟨Or.inl ⟨_, rfl⟩, hI.fix (t2 := t) (is := [0, 31]) hi9 rfl ⟨kd_0.mpr rfl, kd_31.mpr ⟨_, _, _, _, _, rfl⟩, trivial⟩ (by decide) (by decide) (fun _ _ _ _ h => h) (fun h => h)⟩
    · refine ((C_Ip_sand100 g (ad 0) (ad 1) (ad 5) (ad 18) (ad 31) (ad 32) (ad 36) (ad 42) (ad 45) (ad 47) (ad 49) (ad 50) (ad 51) v_gs_x1 v_gs_x2 v_gs_x3 v_gs_x4 v_gs_x5).at (hI.1.I [0, 31] _ rfl (by decide) (by decide) (List.forall_mem_cons.mpr ⟨w_a, (List.forall_mem_cons.mpr ⟨w_gs, (fun _ h => nomatch h)⟩)⟩))).mono (Nat.le_of_ble_eq_true rfl) (Nat.le_of_ble_eq_true rfl) (fun o w1 hp => ?_)
      obtain ⟨cs1, hp, hi9⟩ := hp
      obtain ⟨e1, e2⟩ := hp
      subst e1; subst e2
      exact ⟨Or.inl ⟨_, rfl⟩, hI.fix (t2 := t) (is := [0, 31]) hi9 rfl ⟨kd_0.mpr rfl, kd_31.mpr ⟨_, _, _, _, _, rfl⟩, trivial⟩ (by decide) (by decide) (fun _ _ _ _ h => h) (fun h => h)⟩
  · refine ((C_Ip_sandE g (ad 0) (ad 1) (ad 5) (ad 18) (ad 31) (ad 32) (ad 36) (ad 42) (ad 45) (ad 47) (ad 49) (ad 50) (ad 51) v_gs_x1 v_gs_x2 v_gs_x3 v_gs_x4 v_gs_x5 w9 hn).at (hI.1.I [0, 31] _ rfl (by decide) (by decide) (List.forall_mem_cons.mpr ⟨w_a, (List.forall_mem_cons.mpr ⟨w_gs, (fun _ h => nomatch h)⟩)⟩))).mono (Nat.le_of_ble_eq_true rfl) (Nat.le_of_ble_eq_true rfl) (fun o w1 hp => ?_)
    obtain ⟨cs1, hp, hi9⟩ := hp
    obtain ⟨e1, e2⟩ := hp
    subst e1; subst e2
    exact ⟨Or.inr ⟨_, List.Mem.head _, rfl⟩, hI.fix (t2 := t) (is := [0, 31]) hi9 rfl ⟨kd_0.mpr rfl, kd_31.mpr ⟨_, _, _, _, _, rfl⟩, trivial⟩ (by decide) (by decide) (fun _ _ _ _ h => h) (fun h => h)⟩
set_option maxHeartbeats 4000000 in
theorem Q_Ip_makeCores {g : zG} {ad : Nat → Nat} {t : zTT} {u : zNN} {w : zW} (hI : IV g ad t u w) (c k : Int32) : zMB g M_Ip_makeCores [.ref (ad 0), .int c, .int k] w (fun o w1 => (zri ["java/lang/IllegalArgumentException", "java/lang/IllegalStateException"] o) ∧ IV g ad t u w1) 1 6 := by
  obtain ⟨e_a, w_a, k_a⟩ := hI.1.2 0 (by decide)
  obtain rfl := kd_0.mp k_a
  obtain ⟨e_co, w_co, k_co⟩ := hI.1.2 32 (by decide)
  obtain ⟨v_co_n, c_co_0, rfl⟩ := kd_32.mp k_co
  obtain ⟨e_co1, w_co1, k_co1⟩ := hI.1.2 33 (by decide)
  obtain ⟨v_co1_f, rfl⟩ := kd_33.mp k_co1
  obtain ⟨e_co2, w_co2, k_co2⟩ := hI.1.2 34 (by decide)
  obtain ⟨v_co2_f, rfl⟩ := kd_34.mp k_co2
  obtain ⟨e_co3, w_co3, k_co3⟩ := hI.1.2 35 (by decide)
  obtain ⟨v_co3_f, rfl⟩ := kd_35.mp k_co3
  by_cases hw : (1 ≤ c ∧ c ≤ 10) ∧ (1 ≤ k ∧ k ≤ 24)
  · by_cases hf : v_co_n < 20
    · refine ((C_Ip_makeCoresN g (ad 0) (ad 1) (ad 5) (ad 18) (ad 31) (ad 32) (ad 36) (ad 42) (ad 45) (ad 47) (ad 49) (ad 50) (ad 51) (ad 33) (ad 34) (ad 35) v_co1_f v_co2_f v_co3_f v_co_n c_co_0 c k hw hf).at (hI.1.I [0, 32, 33, 34, 35] _ rfl (by decide) (by decide) (List.forall_mem_cons.mpr ⟨w_a, (List.forall_mem_cons.mpr ⟨w_co, (List.forall_mem_cons.mpr ⟨w_co1, (List.forall_mem_cons.mpr ⟨w_co2, (List.forall_mem_cons.mpr ⟨w_co3, (fun _ h => nomatch h)⟩)⟩)⟩)⟩)⟩))).mono (Nat.le_of_ble_eq_true rfl) (Nat.le_of_ble_eq_true rfl) (fun o w1 hp => ?_)
      obtain ⟨cs1, hp, hi9⟩ := hp
      obtain ⟨e1, e2⟩ := hp
      subst e1; subst e2
      exact ⟨Or.inl ⟨_, rfl⟩, hI.fix (t2 := t) (is := [0, 32, 33, 34, 35]) hi9 rfl ⟨kd_0.mpr rfl, kd_32.mpr ⟨_, hf, rfl⟩, kd_33.mpr ⟨_, rfl⟩, kd_34.mpr ⟨_, rfl⟩, kd_35.mpr ⟨_, rfl⟩, trivial⟩ (by decide) (by decide) (fun _ _ _ _ h => h) (fun h => h)⟩
    · refine ((C_Ip_makeCoresF g (ad 0) (ad 1) (ad 5) (ad 18) (ad 31) (ad 32) (ad 36) (ad 42) (ad 45) (ad 47) (ad 49) (ad 50) (ad 51) (ad 33) (ad 34) (ad 35) v_co1_f v_co2_f v_co3_f v_co_n c_co_0 c k hw hf).at (hI.1.I [0, 32, 33, 34, 35] _ rfl (by decide) (by decide) (List.forall_mem_cons.mpr ⟨w_a, (List.forall_mem_cons.mpr ⟨w_co, (List.forall_mem_cons.mpr ⟨w_co1, (List.forall_mem_cons.mpr ⟨w_co2, (List.forall_mem_cons.mpr ⟨w_co3, (fun _ h => nomatch h)⟩)⟩)⟩)⟩)⟩))).mono (Nat.le_of_ble_eq_true rfl) (Nat.le_of_ble_eq_true rfl) (fun o w1 hp => ?_)
      obtain ⟨cs1, hp, hi9⟩ := hp
      obtain ⟨e1, e2⟩ := hp
      subst e1; subst e2
      exact ⟨Or.inr ⟨_, List.Mem.tail _ (List.Mem.head _), rfl⟩, hI.fix (t2 := t) (is := [0, 32, 33, 34, 35]) hi9 rfl ⟨kd_0.mpr rfl, kd_32.mpr ⟨_, c_co_0, rfl⟩, kd_33.mpr ⟨_, rfl⟩, kd_34.mpr ⟨_, rfl⟩, kd_35.mpr ⟨_, rfl⟩, trivial⟩ (by decide) (by decide) (fun _ _ _ _ h => h) (fun h => h)⟩
  · refine ((C_Ip_makeCoresE g (ad 0) (ad 1) (ad 5) (ad 18) (ad 31) (ad 32) (ad 36) (ad 42) (ad 45) (ad 47) (ad 49) (ad 50) (ad 51) (ad 33) (ad 34) (ad 35) v_co1_f v_co2_f v_co3_f v_co_n c_co_0 c k hw).at (hI.1.I [0, 32, 33, 34, 35] _ rfl (by decide) (by decide) (List.forall_mem_cons.mpr ⟨w_a, (List.forall_mem_cons.mpr ⟨w_co, (List.forall_mem_cons.mpr ⟨w_co1, (List.forall_mem_cons.mpr ⟨w_co2, (List.forall_mem_cons.mpr ⟨w_co3, (fun _ h => nomatch h)⟩)⟩)⟩)⟩)⟩))).mono (Nat.le_of_ble_eq_true rfl) (Nat.le_of_ble_eq_true rfl) (fun o w1 hp => ?_)
    obtain ⟨cs1, hp, hi9⟩ := hp
    obtain ⟨e1, e2⟩ := hp
    subst e1; subst e2
    exact ⟨Or.inr ⟨_, List.Mem.head _, rfl⟩, hI.fix (t2 := t) (is := [0, 32, 33, 34, 35]) hi9 rfl ⟨kd_0.mpr rfl, kd_32.mpr ⟨_, c_co_0, rfl⟩, kd_33.mpr ⟨_, rfl⟩, kd_34.mpr ⟨_, rfl⟩, kd_35.mpr ⟨_, rfl⟩, trivial⟩ (by decide) (by decide) (fun _ _ _ _ h => h) (fun h => h)⟩
set_option maxHeartbeats 4000000 in
theorem Q_Ip_goodCores {g : zG} {ad : Nat → Nat} {t : zTT} {u : zNN} {w : zW} (hI : IV g ad t u w) : zMB g M_Ip_goodCores [.ref (ad 0)] w (fun o w1 => (zri [] o) ∧ IV g ad t u w1) 0 0 := by
  obtain ⟨e_a, w_a, k_a⟩ := hI.1.2 0 (by decide)
  obtain rfl := kd_0.mp k_a
  obtain ⟨e_co, w_co, k_co⟩ := hI.1.2 32 (by decide)
  obtain ⟨v_co_n, c_co_0, rfl⟩ := kd_32.mp k_co
  obtain ⟨e_co1, w_co1, k_co1⟩ := hI.1.2 33 (by decide)
  obtain ⟨v_co1_f, rfl⟩ := kd_33.mp k_co1
  obtain ⟨e_co2, w_co2, k_co2⟩ := hI.1.2 34 (by decide)
  obtain ⟨v_co2_f, rfl⟩ := kd_34.mp k_co2
  obtain ⟨e_co3, w_co3, k_co3⟩ := hI.1.2 35 (by decide)
  obtain ⟨v_co3_f, rfl⟩ := kd_35.mp k_co3
  refine ((C_Ip_goodCores g (ad 0) (ad 1) (ad 5) (ad 18) (ad 31) (ad 32) (ad 36) (ad 42) (ad 45) (ad 47) (ad 49) (ad 50) (ad 51) (ad 33) (ad 34) (ad 35) v_co1_f v_co2_f v_co3_f v_co_n c_co_0).at (hI.1.I [0, 32, 33, 34, 35] _ rfl (by decide) (by decide) (List.forall_mem_cons.mpr ⟨w_a, (List.forall_mem_cons.mpr ⟨w_co, (List.forall_mem_cons.mpr ⟨w_co1, (List.forall_mem_cons.mpr ⟨w_co2, (List.forall_mem_cons.mpr ⟨w_co3, (fun _ h => nomatch h)⟩)⟩)⟩)⟩)⟩))).mono (Nat.le_of_ble_eq_true rfl) (Nat.le_of_ble_eq_true rfl) (fun o w1 hp => ?_)
  obtain ⟨cs1, hp, hi9⟩ := hp
  obtain ⟨e1, e2⟩ := hp
  subst e1; subst e2
  exact ⟨Or.inl ⟨_, rfl⟩, hI.fix (t2 := t) (is := [0, 32, 33, 34, 35]) hi9 rfl ⟨kd_0.mpr rfl, kd_32.mpr ⟨_, c_co_0, rfl⟩, kd_33.mpr ⟨_, rfl⟩, kd_34.mpr ⟨_, rfl⟩, kd_35.mpr ⟨_, rfl⟩, trivial⟩ (by decide) (by decide) (fun _ _ _ _ h => h) (fun h => h)⟩
set_option maxHeartbeats 4000000 in
theorem Q_Ip_hours {g : zG} {ad : Nat → Nat} {t : zTT} {u : zNN} {w : zW} (hI : IV g ad t u w) (h : Int32) : zMB g M_Ip_hours [.ref (ad 0), .int h] w (fun o w1 => (zri ["java/lang/IllegalArgumentException"] o) ∧ IV g ad t u w1) 1 6 := by
  obtain ⟨e_a, w_a, k_a⟩ := hI.1.2 0 (by decide)
  obtain rfl := kd_0.mp k_a
  obtain ⟨e_co, w_co, k_co⟩ := hI.1.2 32 (by decide)
  obtain ⟨v_co_n, c_co_0, rfl⟩ := kd_32.mp k_co
  obtain ⟨e_co1, w_co1, k_co1⟩ := hI.1.2 33 (by decide)
  obtain ⟨v_co1_f, rfl⟩ := kd_33.mp k_co1
  obtain ⟨e_co2, w_co2, k_co2⟩ := hI.1.2 34 (by decide)
  obtain ⟨v_co2_f, rfl⟩ := kd_34.mp k_co2
  obtain ⟨e_co3, w_co3, k_co3⟩ := hI.1.2 35 (by decide)
  obtain ⟨v_co3_f, rfl⟩ := kd_35.mp k_co3
  by_cases hw : (1 ≤ h ∧ h ≤ 48)
  · refine ((C_Ip_hoursN g (ad 0) (ad 1) (ad 5) (ad 18) (ad 31) (ad 32) (ad 36) (ad 42) (ad 45) (ad 47) (ad 49) (ad 50) (ad 51) (ad 33) (ad 34) (ad 35) v_co1_f v_co2_f v_co3_f v_co_n c_co_0 h hw).at (hI.1.I [0, 32, 33, 34, 35] _ rfl (by decide) (by decide) (List.forall_mem_cons.mpr ⟨w_a, (List.forall_mem_cons.mpr ⟨w_co, (List.forall_mem_cons.mpr ⟨w_co1, (List.forall_mem_cons.mpr ⟨w_co2, (List.forall_mem_cons.mpr ⟨w_co3, (fun _ h => nomatch h)⟩)⟩)⟩)⟩)⟩))).mono (Nat.le_of_ble_eq_true rfl) (Nat.le_of_ble_eq_true rfl) (fun o w1 hp => ?_)
    obtain ⟨cs1, hp, hi9⟩ := hp
    obtain ⟨e1, e2⟩ := hp
    subst e1; subst e2
    exact ⟨Or.inl ⟨_, rfl⟩, hI.fix (t2 := t) (is := [0, 32, 33, 34, 35]) hi9 rfl ⟨kd_0.mpr rfl, kd_32.mpr ⟨_, (Nat.le_trans (dlS_le _ _ _ _) c_co_0), rfl⟩, kd_33.mpr ⟨_, rfl⟩, kd_34.mpr ⟨_, rfl⟩, kd_35.mpr ⟨_, rfl⟩, trivial⟩ (by decide) (by decide) (fun _ _ _ _ h => h) (fun h => h)⟩
  · refine ((C_Ip_hoursE g (ad 0) (ad 1) (ad 5) (ad 18) (ad 31) (ad 32) (ad 36) (ad 42) (ad 45) (ad 47) (ad 49) (ad 50) (ad 51) (ad 33) (ad 34) (ad 35) v_co1_f v_co2_f v_co3_f v_co_n c_co_0 h hw).at (hI.1.I [0, 32, 33, 34, 35] _ rfl (by decide) (by decide) (List.forall_mem_cons.mpr ⟨w_a, (List.forall_mem_cons.mpr ⟨w_co, (List.forall_mem_cons.mpr ⟨w_co1, (List.forall_mem_cons.mpr ⟨w_co2, (List.forall_mem_cons.mpr ⟨w_co3, (fun _ h => nomatch h)⟩)⟩)⟩)⟩)⟩))).mono (Nat.le_of_ble_eq_true rfl) (Nat.le_of_ble_eq_true rfl) (fun o w1 hp => ?_)
    obtain ⟨cs1, hp, hi9⟩ := hp
    obtain ⟨e1, e2⟩ := hp
    subst e1; subst e2
    exact ⟨Or.inr ⟨_, List.Mem.head _, rfl⟩, hI.fix (t2 := t) (is := [0, 32, 33, 34, 35]) hi9 rfl ⟨kd_0.mpr rfl, kd_32.mpr ⟨_, c_co_0, rfl⟩, kd_33.mpr ⟨_, rfl⟩, kd_34.mpr ⟨_, rfl⟩, kd_35.mpr ⟨_, rfl⟩, trivial⟩ (by decide) (by decide) (fun _ _ _ _ h => h) (fun h => h)⟩
set_option maxHeartbeats 4000000 in
theorem Q_Ip_charge {g : zG} {ad : Nat → Nat} {t : zTT} {u : zNN} {w : zW} (hI : IV g ad t u w) (k m9 : Int32) : zMB g M_Ip_charge [.ref (ad 0), .int k, .int m9] w (fun o w1 => (zri ["java/lang/IllegalArgumentException", "java/lang/UnsupportedOperationException", "java/lang/IllegalStateException"] o) ∧ IV g ad t u w1) 1 6 := by
  obtain ⟨e_a, w_a, k_a⟩ := hI.1.2 0 (by decide)
  obtain rfl := kd_0.mp k_a
  obtain ⟨e_fu, w_fu, k_fu⟩ := hI.1.2 36 (by decide)
  obtain ⟨v_fu_x, rfl⟩ := kd_36.mp k_fu
  obtain ⟨e_fub, w_fub, k_fub⟩ := hI.1.2 37 (by decide)
  obtain ⟨v_fub_x, rfl⟩ := kd_37.mp k_fub
  obtain ⟨e_fubg, w_fubg, k_fubg⟩ := hI.1.2 38 (by decide)
  obtain ⟨v_fubg_f, rfl⟩ := kd_38.mp k_fubg
  obtain ⟨e_fut1, w_fut1, k_fut1⟩ := hI.1.2 39 (by decide)
  obtain ⟨v_fut1_f, rfl⟩ := kd_39.mp k_fut1
  obtain ⟨e_fut2, w_fut2, k_fut2⟩ := hI.1.2 40 (by decide)
  obtain ⟨v_fut2_f, rfl⟩ := kd_40.mp k_fut2
  obtain ⟨e_fut3, w_fut3, k_fut3⟩ := hI.1.2 41 (by decide)
  obtain ⟨v_fut3_f, rfl⟩ := kd_41.mp k_fut3
  obtain ⟨e_gy, w_gy, k_gy⟩ := hI.1.2 45 (by decide)
  obtain ⟨v_gy_x, rfl⟩ := kd_45.mp k_gy
  obtain ⟨e_gyg, w_gyg, k_gyg⟩ := hI.1.2 46 (by decide)
  obtain ⟨v_gyg_f, rfl⟩ := kd_46.mp k_gyg
  obtain ⟨e_du, w_du, k_du⟩ := hI.1.2 47 (by decide)
  obtain ⟨v_du_x, rfl⟩ := kd_47.mp k_du
  obtain ⟨e_dug, w_dug, k_dug⟩ := hI.1.2 48 (by decide)
  obtain ⟨v_dug_f, rfl⟩ := kd_48.mp k_dug
  by_cases hw : 0 ≤ z_ix 1 k ∧ (1 ≤ m9 ∧ m9 ≤ 1000)
  · rcases z_ix1 hw.1 with rfl | rfl | rfl | rfl | rfl | rfl
    · by_cases hg : 3000 < v_fub_x + m9
      · refine ((C_Ip_charge112G g (ad 0) (ad 1) (ad 5) (ad 18) (ad 31) (ad 32) (ad 36) (ad 42) (ad 45) (ad 47) (ad 49) (ad 50) (ad 51) (ad 43) (ad 44) (ad 46) (ad 48) (ad 37) (ad 38) (ad 39) (ad 40) (ad 41) v_fubg_f v_fut1_f v_fut2_f v_fut3_f v_gyg_f v_dug_f v_fub_x v_gy_x v_du_x v_fu_x m9 hw.2 hg).at (hI.1.I [0, 36, 37, 38, 39, 40, 41, 45, 46, 47, 48] _ rfl (by decide) (by decide) (List.forall_mem_cons.mpr ⟨w_a, (List.forall_mem_cons.mpr ⟨w_fu, (List.forall_mem_cons.mpr ⟨w_fub, (List.forall_mem_cons.mpr ⟨w_fubg, (List.forall_mem_cons.mpr ⟨w_fut1, (List.forall_mem_cons.mpr ⟨w_fut2, (List.forall_mem_cons.mpr ⟨w_fut3, (List.forall_mem_cons.mpr ⟨w_gy, (List.forall_mem_cons.mpr ⟨w_gyg, (List.forall_mem_cons.mpr ⟨w_du, (List.forall_mem_cons.mpr ⟨w_dug, (fun _ h => nomatch h)⟩)⟩)⟩)⟩)⟩)⟩)⟩)⟩)⟩)⟩)⟩))).mono (Nat.le_of_ble_eq_true rfl) (Nat.le_of_ble_eq_true rfl) (fun o w1 hp => ?_)
        obtain ⟨cs1, hp, hi9⟩ := hp
        obtain ⟨e1, e2⟩ := hp
        subst e1; subst e2
        exact ⟨Or.inr ⟨_, List.Mem.tail _ (List.Mem.tail _ (List.Mem.head _)), rfl⟩, hI.fix (t2 := t) (is := [0, 36, 37, 38, 39, 40, 41, 45, 46, 47, 48]) hi9 rfl ⟨kd_0.mpr rfl, kd_36.mpr ⟨_, rfl⟩, kd_37.mpr ⟨_, rfl⟩, kd_38.mpr ⟨_, rfl⟩, kd_39.mpr ⟨_, rfl⟩, kd_40.mpr ⟨_, rfl⟩, kd_41.mpr ⟨_, rfl⟩, kd_45.mpr ⟨_, rfl⟩, kd_46.mpr ⟨_, rfl⟩, kd_47.mpr ⟨_, rfl⟩, kd_48.mpr ⟨_, rfl⟩, trivial⟩ (by decide) (by decide) (fun _ _ _ _ h => h) (fun h => h)⟩
      · refine ((C_Ip_charge112N g (ad 0) (ad 1) (ad 5) (ad 18) (ad 31) (ad 32) (ad 36) (ad 42) (ad 45) (ad 47) (ad 49) (ad 50) (ad 51) (ad 43) (ad 44) (ad 46) (ad 48) (ad 37) (ad 38) (ad 39) (ad 40) (ad 41) v_fubg_f v_fut1_f v_fut2_f v_fut3_f v_gyg_f v_dug_f v_fub_x v_gy_x v_du_x v_fu_x m9 hw.2 hg).at (hI.1.I [0, 36, 37, 38, 39, 40, 41, 45, 46, 47, 48] _ rfl (by decide) (by decide) (List.forall_mem_cons.mpr ⟨w_a, (List.forall_mem_cons.mpr ⟨w_fu, (List.forall_mem_cons.mpr ⟨w_fub, (List.forall_mem_cons.mpr ⟨w_fubg, (List.forall_mem_cons.mpr ⟨w_fut1, (List.forall_mem_cons.mpr ⟨w_fut2, (List.forall_mem_cons.mpr ⟨w_fut3, (List.forall_mem_cons.mpr ⟨w_gy, (List.forall_mem_cons.mpr ⟨w_gyg, (List.forall_mem_cons.mpr ⟨w_du, (List.forall_mem_cons.mpr ⟨w_dug, (fun _ h => nomatch h)⟩)⟩)⟩)⟩)⟩)⟩)⟩)⟩)⟩)⟩)⟩))).mono (Nat.le_of_ble_eq_true rfl) (Nat.le_of_ble_eq_true rfl) (fun o w1 hp => ?_)
        obtain ⟨cs1, hp, hi9⟩ := hp
        obtain ⟨e1, e2⟩ := hp
        subst e1; subst e2
        exact ⟨Or.inl ⟨_, rfl⟩, hI.fix (t2 := t) (is := [0, 36, 37, 38, 39, 40, 41, 45, 46, 47, 48]) hi9 rfl ⟨kd_0.mpr rfl, kd_36.mpr ⟨_, rfl⟩, kd_37.mpr ⟨_, rfl⟩, kd_38.mpr ⟨_, rfl⟩, kd_39.mpr ⟨_, rfl⟩, kd_40.mpr ⟨_, rfl⟩, kd_41.mpr ⟨_, rfl⟩, kd_45.mpr ⟨_, rfl⟩, kd_46.mpr ⟨_, rfl⟩, kd_47.mpr ⟨_, rfl⟩, kd_48.mpr ⟨_, rfl⟩, trivial⟩ (by decide) (by decide) (fun _ _ _ _ h => h) (fun h => h)⟩
    · by_cases hg : 3000 < v_fub_x + m9
      · refine ((C_Ip_charge115G g (ad 0) (ad 1) (ad 5) (ad 18) (ad 31) (ad 32) (ad 36) (ad 42) (ad 45) (ad 47) (ad 49) (ad 50) (ad 51) (ad 43) (ad 44) (ad 46) (ad 48) (ad 37) (ad 38) (ad 39) (ad 40) (ad 41) v_fubg_f v_fut1_f v_fut2_f v_fut3_f v_gyg_f v_dug_f v_fub_x v_gy_x v_du_x v_fu_x m9 hw.2 hg).at (hI.1.I [0, 36, 37, 38, 39, 40, 41, 45, 46, 47, 48] _ rfl (by decide) (by decide) (List.forall_mem_cons.mpr ⟨w_a, (List.forall_mem_cons.mpr ⟨w_fu, (List.forall_mem_cons.mpr ⟨w_fub, (List.forall_mem_cons.mpr ⟨w_fubg, (List.forall_mem_cons.mpr ⟨w_fut1, (List.forall_mem_cons.mpr ⟨w_fut2, (List.forall_mem_cons.mpr ⟨w_fut3, (List.forall_mem_cons.mpr ⟨w_gy, (List.forall_mem_cons.mpr ⟨w_gyg, (List.forall_mem_cons.mpr ⟨w_du, (List.forall_mem_cons.mpr ⟨w_dug, (fun _ h => nomatch h)⟩)⟩)⟩)⟩)⟩)⟩)⟩)⟩)⟩)⟩)⟩))).mono (Nat.le_of_ble_eq_true rfl) (Nat.le_of_ble_eq_true rfl) (fun o w1 hp => ?_)
        obtain ⟨cs1, hp, hi9⟩ := hp
        obtain ⟨e1, e2⟩ := hp
        subst e1; subst e2
        exact ⟨Or.inr ⟨_, List.Mem.tail _ (List.Mem.tail _ (List.Mem.head _)), rfl⟩, hI.fix (t2 := t) (is := [0, 36, 37, 38, 39, 40, 41, 45, 46, 47, 48]) hi9 rfl ⟨kd_0.mpr rfl, kd_36.mpr ⟨_, rfl⟩, kd_37.mpr ⟨_, rfl⟩, kd_38.mpr ⟨_, rfl⟩, kd_39.mpr ⟨_, rfl⟩, kd_40.mpr ⟨_, rfl⟩, kd_41.mpr ⟨_, rfl⟩, kd_45.mpr ⟨_, rfl⟩, kd_46.mpr ⟨_, rfl⟩, kd_47.mpr ⟨_, rfl⟩, kd_48.mpr ⟨_, rfl⟩, trivial⟩ (by decide) (by decide) (fun _ _ _ _ h => h) (fun h => h)⟩
      · refine ((C_Ip_charge115N g (ad 0) (ad 1) (ad 5) (ad 18) (ad 31) (ad 32) (ad 36) (ad 42) (ad 45) (ad 47) (ad 49) (ad 50) (ad 51) (ad 43) (ad 44) (ad 46) (ad 48) (ad 37) (ad 38) (ad 39) (ad 40) (ad 41) v_fubg_f v_fut1_f v_fut2_f v_fut3_f v_gyg_f v_dug_f v_fub_x v_gy_x v_du_x v_fu_x m9 hw.2 hg).at (hI.1.I [0, 36, 37, 38, 39, 40, 41, 45, 46, 47, 48] _ rfl (by decide) (by decide) (List.forall_mem_cons.mpr ⟨w_a, (List.forall_mem_cons.mpr ⟨w_fu, (List.forall_mem_cons.mpr ⟨w_fub, (List.forall_mem_cons.mpr ⟨w_fubg, (List.forall_mem_cons.mpr ⟨w_fut1, (List.forall_mem_cons.mpr ⟨w_fut2, (List.forall_mem_cons.mpr ⟨w_fut3, (List.forall_mem_cons.mpr ⟨w_gy, (List.forall_mem_cons.mpr ⟨w_gyg, (List.forall_mem_cons.mpr ⟨w_du, (List.forall_mem_cons.mpr ⟨w_dug, (fun _ h => nomatch h)⟩)⟩)⟩)⟩)⟩)⟩)⟩)⟩)⟩)⟩)⟩))).mono (Nat.le_of_ble_eq_true rfl) (Nat.le_of_ble_eq_true rfl) (fun o w1 hp => ?_)
        obtain ⟨cs1, hp, hi9⟩ := hp
        obtain ⟨e1, e2⟩ := hp
        subst e1; subst e2
        exact ⟨Or.inl ⟨_, rfl⟩, hI.fix (t2 := t) (is := [0, 36, 37, 38, 39, 40, 41, 45, 46, 47, 48]) hi9 rfl ⟨kd_0.mpr rfl, kd_36.mpr ⟨_, rfl⟩, kd_37.mpr ⟨_, rfl⟩, kd_38.mpr ⟨_, rfl⟩, kd_39.mpr ⟨_, rfl⟩, kd_40.mpr ⟨_, rfl⟩, kd_41.mpr ⟨_, rfl⟩, kd_45.mpr ⟨_, rfl⟩, kd_46.mpr ⟨_, rfl⟩, kd_47.mpr ⟨_, rfl⟩, kd_48.mpr ⟨_, rfl⟩, trivial⟩ (by decide) (by decide) (fun _ _ _ _ h => h) (fun h => h)⟩
    · by_cases hg : 3000 < v_fub_x + m9
      · refine ((C_Ip_charge102G g (ad 0) (ad 1) (ad 5) (ad 18) (ad 31) (ad 32) (ad 36) (ad 42) (ad 45) (ad 47) (ad 49) (ad 50) (ad 51) (ad 43) (ad 44) (ad 46) (ad 48) (ad 37) (ad 38) (ad 39) (ad 40) (ad 41) v_fubg_f v_fut1_f v_fut2_f v_fut3_f v_gyg_f v_dug_f v_fub_x v_gy_x v_du_x v_fu_x m9 hw.2 hg).at (hI.1.I [0, 36, 37, 38, 39, 40, 41, 45, 46, 47, 48] _ rfl (by decide) (by decide) (List.forall_mem_cons.mpr ⟨w_a, (List.forall_mem_cons.mpr ⟨w_fu, (List.forall_mem_cons.mpr ⟨w_fub, (List.forall_mem_cons.mpr ⟨w_fubg, (List.forall_mem_cons.mpr ⟨w_fut1, (List.forall_mem_cons.mpr ⟨w_fut2, (List.forall_mem_cons.mpr ⟨w_fut3, (List.forall_mem_cons.mpr ⟨w_gy, (List.forall_mem_cons.mpr ⟨w_gyg, (List.forall_mem_cons.mpr ⟨w_du, (List.forall_mem_cons.mpr ⟨w_dug, (fun _ h => nomatch h)⟩)⟩)⟩)⟩)⟩)⟩)⟩)⟩)⟩)⟩)⟩))).mono (Nat.le_of_ble_eq_true rfl) (Nat.le_of_ble_eq_true rfl) (fun o w1 hp => ?_)
        obtain ⟨cs1, hp, hi9⟩ := hp
        obtain ⟨e1, e2⟩ := hp
        subst e1; subst e2
        exact ⟨Or.inr ⟨_, List.Mem.tail _ (List.Mem.tail _ (List.Mem.head _)), rfl⟩, hI.fix (t2 := t) (is := [0, 36, 37, 38, 39, 40, 41, 45, 46, 47, 48]) hi9 rfl ⟨kd_0.mpr rfl, kd_36.mpr ⟨_, rfl⟩, kd_37.mpr ⟨_, rfl⟩, kd_38.mpr ⟨_, rfl⟩, kd_39.mpr ⟨_, rfl⟩, kd_40.mpr ⟨_, rfl⟩, kd_41.mpr ⟨_, rfl⟩, kd_45.mpr ⟨_, rfl⟩, kd_46.mpr ⟨_, rfl⟩, kd_47.mpr ⟨_, rfl⟩, kd_48.mpr ⟨_, rfl⟩, trivial⟩ (by decide) (by decide) (fun _ _ _ _ h => h) (fun h => h)⟩
      · refine ((C_Ip_charge102N g (ad 0) (ad 1) (ad 5) (ad 18) (ad 31) (ad 32) (ad 36) (ad 42) (ad 45) (ad 47) (ad 49) (ad 50) (ad 51) (ad 43) (ad 44) (ad 46) (ad 48) (ad 37) (ad 38) (ad 39) (ad 40) (ad 41) v_fubg_f v_fut1_f v_fut2_f v_fut3_f v_gyg_f v_dug_f v_fub_x v_gy_x v_du_x v_fu_x m9 hw.2 hg).at (hI.1.I [0, 36, 37, 38, 39, 40, 41, 45, 46, 47, 48] _ rfl (by decide) (by decide) (List.forall_mem_cons.mpr ⟨w_a, (List.forall_mem_cons.mpr ⟨w_fu, (List.forall_mem_cons.mpr ⟨w_fub, (List.forall_mem_cons.mpr ⟨w_fubg, (List.forall_mem_cons.mpr ⟨w_fut1, (List.forall_mem_cons.mpr ⟨w_fut2, (List.forall_mem_cons.mpr ⟨w_fut3, (List.forall_mem_cons.mpr ⟨w_gy, (List.forall_mem_cons.mpr ⟨w_gyg, (List.forall_mem_cons.mpr ⟨w_du, (List.forall_mem_cons.mpr ⟨w_dug, (fun _ h => nomatch h)⟩)⟩)⟩)⟩)⟩)⟩)⟩)⟩)⟩)⟩)⟩))).mono (Nat.le_of_ble_eq_true rfl) (Nat.le_of_ble_eq_true rfl) (fun o w1 hp => ?_)
        obtain ⟨cs1, hp, hi9⟩ := hp
        obtain ⟨e1, e2⟩ := hp
        subst e1; subst e2
        exact ⟨Or.inl ⟨_, rfl⟩, hI.fix (t2 := t) (is := [0, 36, 37, 38, 39, 40, 41, 45, 46, 47, 48]) hi9 rfl ⟨kd_0.mpr rfl, kd_36.mpr ⟨_, rfl⟩, kd_37.mpr ⟨_, rfl⟩, kd_38.mpr ⟨_, rfl⟩, kd_39.mpr ⟨_, rfl⟩, kd_40.mpr ⟨_, rfl⟩, kd_41.mpr ⟨_, rfl⟩, kd_45.mpr ⟨_, rfl⟩, kd_46.mpr ⟨_, rfl⟩, kd_47.mpr ⟨_, rfl⟩, kd_48.mpr ⟨_, rfl⟩, trivial⟩ (by decide) (by decide) (fun _ _ _ _ h => h) (fun h => h)⟩
    · by_cases hg : 3000 < v_fub_x + 0
      · refine ((C_Ip_charge107G g (ad 0) (ad 1) (ad 5) (ad 18) (ad 31) (ad 32) (ad 36) (ad 42) (ad 45) (ad 47) (ad 49) (ad 50) (ad 51) (ad 43) (ad 44) (ad 46) (ad 48) (ad 37) (ad 38) (ad 39) (ad 40) (ad 41) v_fubg_f v_fut1_f v_fut2_f v_fut3_f v_gyg_f v_dug_f v_fub_x v_gy_x v_du_x v_fu_x m9 hw.2 hg).at (hI.1.I [0, 36, 37, 38, 39, 40, 41, 45, 46, 47, 48] _ rfl (by decide) (by decide) (List.forall_mem_cons.mpr ⟨w_a, (List.forall_mem_cons.mpr ⟨w_fu, (List.forall_mem_cons.mpr ⟨w_fub, (List.forall_mem_cons.mpr ⟨w_fubg, (List.forall_mem_cons.mpr ⟨w_fut1, (List.forall_mem_cons.mpr ⟨w_fut2, (List.forall_mem_cons.mpr ⟨w_fut3, (List.forall_mem_cons.mpr ⟨w_gy, (List.forall_mem_cons.mpr ⟨w_gyg, (List.forall_mem_cons.mpr ⟨w_du, (List.forall_mem_cons.mpr ⟨w_dug, (fun _ h => nomatch h)⟩)⟩)⟩)⟩)⟩)⟩)⟩)⟩)⟩)⟩)⟩))).mono (Nat.le_of_ble_eq_true rfl) (Nat.le_of_ble_eq_true rfl) (fun o w1 hp => ?_)
        obtain ⟨cs1, hp, hi9⟩ := hp
        obtain ⟨e1, e2⟩ := hp
        subst e1; subst e2
        exact ⟨Or.inr ⟨_, List.Mem.tail _ (List.Mem.tail _ (List.Mem.head _)), rfl⟩, hI.fix (t2 := t) (is := [0, 36, 37, 38, 39, 40, 41, 45, 46, 47, 48]) hi9 rfl ⟨kd_0.mpr rfl, kd_36.mpr ⟨_, rfl⟩, kd_37.mpr ⟨_, rfl⟩, kd_38.mpr ⟨_, rfl⟩, kd_39.mpr ⟨_, rfl⟩, kd_40.mpr ⟨_, rfl⟩, kd_41.mpr ⟨_, rfl⟩, kd_45.mpr ⟨_, rfl⟩, kd_46.mpr ⟨_, rfl⟩, kd_47.mpr ⟨_, rfl⟩, kd_48.mpr ⟨_, rfl⟩, trivial⟩ (by decide) (by decide) (fun _ _ _ _ h => h) (fun h => h)⟩
      · refine ((C_Ip_charge107N g (ad 0) (ad 1) (ad 5) (ad 18) (ad 31) (ad 32) (ad 36) (ad 42) (ad 45) (ad 47) (ad 49) (ad 50) (ad 51) (ad 43) (ad 44) (ad 46) (ad 48) (ad 37) (ad 38) (ad 39) (ad 40) (ad 41) v_fubg_f v_fut1_f v_fut2_f v_fut3_f v_gyg_f v_dug_f v_fub_x v_gy_x v_du_x v_fu_x m9 hw.2 hg).at (hI.1.I [0, 36, 37, 38, 39, 40, 41, 45, 46, 47, 48] _ rfl (by decide) (by decide) (List.forall_mem_cons.mpr ⟨w_a, (List.forall_mem_cons.mpr ⟨w_fu, (List.forall_mem_cons.mpr ⟨w_fub, (List.forall_mem_cons.mpr ⟨w_fubg, (List.forall_mem_cons.mpr ⟨w_fut1, (List.forall_mem_cons.mpr ⟨w_fut2, (List.forall_mem_cons.mpr ⟨w_fut3, (List.forall_mem_cons.mpr ⟨w_gy, (List.forall_mem_cons.mpr ⟨w_gyg, (List.forall_mem_cons.mpr ⟨w_du, (List.forall_mem_cons.mpr ⟨w_dug, (fun _ h => nomatch h)⟩)⟩)⟩)⟩)⟩)⟩)⟩)⟩)⟩)⟩)⟩))).mono (Nat.le_of_ble_eq_true rfl) (Nat.le_of_ble_eq_true rfl) (fun o w1 hp => ?_)
        obtain ⟨cs1, hp, hi9⟩ := hp
        obtain ⟨e1, e2⟩ := hp
        subst e1; subst e2
        exact ⟨Or.inl ⟨_, rfl⟩, hI.fix (t2 := t) (is := [0, 36, 37, 38, 39, 40, 41, 45, 46, 47, 48]) hi9 rfl ⟨kd_0.mpr rfl, kd_36.mpr ⟨_, rfl⟩, kd_37.mpr ⟨_, rfl⟩, kd_38.mpr ⟨_, rfl⟩, kd_39.mpr ⟨_, rfl⟩, kd_40.mpr ⟨_, rfl⟩, kd_41.mpr ⟨_, rfl⟩, kd_45.mpr ⟨_, rfl⟩, kd_46.mpr ⟨_, rfl⟩, kd_47.mpr ⟨_, rfl⟩, kd_48.mpr ⟨_, rfl⟩, trivial⟩ (by decide) (by decide) (fun _ _ _ _ h => h) (fun h => h)⟩
    · by_cases hf : v_gy_x < m9
      · refine ((C_Ip_charge103F g (ad 0) (ad 1) (ad 5) (ad 18) (ad 31) (ad 32) (ad 36) (ad 42) (ad 45) (ad 47) (ad 49) (ad 50) (ad 51) (ad 43) (ad 44) (ad 46) (ad 48) (ad 37) (ad 38) (ad 39) (ad 40) (ad 41) v_fubg_f v_fut1_f v_fut2_f v_fut3_f v_gyg_f v_dug_f v_fub_x v_gy_x v_du_x v_fu_x m9 hw.2 hf).at (hI.1.I [0, 36, 37, 38, 39, 40, 41, 45, 46, 47, 48] _ rfl (by decide) (by decide) (List.forall_mem_cons.mpr ⟨w_a, (List.forall_mem_cons.mpr ⟨w_fu, (List.forall_mem_cons.mpr ⟨w_fub, (List.forall_mem_cons.mpr ⟨w_fubg, (List.forall_mem_cons.mpr ⟨w_fut1, (List.forall_mem_cons.mpr ⟨w_fut2, (List.forall_mem_cons.mpr ⟨w_fut3, (List.forall_mem_cons.mpr ⟨w_gy, (List.forall_mem_cons.mpr ⟨w_gyg, (List.forall_mem_cons.mpr ⟨w_du, (List.forall_mem_cons.mpr ⟨w_dug, (fun _ h => nomatch h)⟩)⟩)⟩)⟩)⟩)⟩)⟩)⟩)⟩)⟩)⟩))).mono (Nat.le_of_ble_eq_true rfl) (Nat.le_of_ble_eq_true rfl) (fun o w1 hp => ?_)
        obtain ⟨cs1, hp, hi9⟩ := hp
        obtain ⟨e1, e2⟩ := hp
        subst e1; subst e2
        exact ⟨Or.inr ⟨_, List.Mem.tail _ (List.Mem.head _), rfl⟩, hI.fix (t2 := t) (is := [0, 36, 37, 38, 39, 40, 41, 45, 46, 47, 48]) hi9 rfl ⟨kd_0.mpr rfl, kd_36.mpr ⟨_, rfl⟩, kd_37.mpr ⟨_, rfl⟩, kd_38.mpr ⟨_, rfl⟩, kd_39.mpr ⟨_, rfl⟩, kd_40.mpr ⟨_, rfl⟩, kd_41.mpr ⟨_, rfl⟩, kd_45.mpr ⟨_, rfl⟩, kd_46.mpr ⟨_, rfl⟩, kd_47.mpr ⟨_, rfl⟩, kd_48.mpr ⟨_, rfl⟩, trivial⟩ (by decide) (by decide) (fun _ _ _ _ h => h) (fun h => h)⟩
      · by_cases hg : 3000 < v_fub_x + m9
        · refine ((C_Ip_charge103G g (ad 0) (ad 1) (ad 5) (ad 18) (ad 31) (ad 32) (ad 36) (ad 42) (ad 45) (ad 47) (ad 49) (ad 50) (ad 51) (ad 43) (ad 44) (ad 46) (ad 48) (ad 37) (ad 38) (ad 39) (ad 40) (ad 41) v_fubg_f v_fut1_f v_fut2_f v_fut3_f v_gyg_f v_dug_f v_fub_x v_gy_x v_du_x v_fu_x m9 hw.2 hf hg).at (hI.1.I [0, 36, 37, 38, 39, 40, 41, 45, 46, 47, 48] _ rfl (by decide) (by decide) (List.forall_mem_cons.mpr ⟨w_a, (List.forall_mem_cons.mpr ⟨w_fu, (List.forall_mem_cons.mpr ⟨w_fub, (List.forall_mem_cons.mpr ⟨w_fubg, (List.forall_mem_cons.mpr ⟨w_fut1, (List.forall_mem_cons.mpr ⟨w_fut2, (List.forall_mem_cons.mpr ⟨w_fut3, (List.forall_mem_cons.mpr ⟨w_gy, (List.forall_mem_cons.mpr ⟨w_gyg, (List.forall_mem_cons.mpr ⟨w_du, (List.forall_mem_cons.mpr ⟨w_dug, (fun _ h => nomatch h)⟩)⟩)⟩)⟩)⟩)⟩)⟩)⟩)⟩)⟩)⟩))).mono (Nat.le_of_ble_eq_true rfl) (Nat.le_of_ble_eq_true rfl) (fun o w1 hp => ?_)
          obtain ⟨cs1, hp, hi9⟩ := hp
          obtain ⟨e1, e2⟩ := hp
          subst e1; subst e2
          exact ⟨Or.inr ⟨_, List.Mem.tail _ (List.Mem.tail _ (List.Mem.head _)), rfl⟩, hI.fix (t2 := t) (is := [0, 36, 37, 38, 39, 40, 41, 45, 46, 47, 48]) hi9 rfl ⟨kd_0.mpr rfl, kd_36.mpr ⟨_, rfl⟩, kd_37.mpr ⟨_, rfl⟩, kd_38.mpr ⟨_, rfl⟩, kd_39.mpr ⟨_, rfl⟩, kd_40.mpr ⟨_, rfl⟩, kd_41.mpr ⟨_, rfl⟩, kd_45.mpr ⟨_, rfl⟩, kd_46.mpr ⟨_, rfl⟩, kd_47.mpr ⟨_, rfl⟩, kd_48.mpr ⟨_, rfl⟩, trivial⟩ (by decide) (by decide) (fun _ _ _ _ h => h) (fun h => h)⟩
        · refine ((C_Ip_charge103N g (ad 0) (ad 1) (ad 5) (ad 18) (ad 31) (ad 32) (ad 36) (ad 42) (ad 45) (ad 47) (ad 49) (ad 50) (ad 51) (ad 43) (ad 44) (ad 46) (ad 48) (ad 37) (ad 38) (ad 39) (ad 40) (ad 41) v_fubg_f v_fut1_f v_fut2_f v_fut3_f v_gyg_f v_dug_f v_fub_x v_gy_x v_du_x v_fu_x m9 hw.2 hf hg (z_ge1 hw.2.1 hf)).at (hI.1.I [0, 36, 37, 38, 39, 40, 41, 45, 46, 47, 48] _ rfl (by decide) (by decide) (List.forall_mem_cons.mpr ⟨w_a, (List.forall_mem_cons.mpr ⟨w_fu, (List.forall_mem_cons.mpr ⟨w_fub, (List.forall_mem_cons.mpr ⟨w_fubg, (List.forall_mem_cons.mpr ⟨w_fut1, (List.forall_mem_cons.mpr ⟨w_fut2, (List.forall_mem_cons.mpr ⟨w_fut3, (List.forall_mem_cons.mpr ⟨w_gy, (List.forall_mem_cons.mpr ⟨w_gyg, (List.forall_mem_cons.mpr ⟨w_du, (List.forall_mem_cons.mpr ⟨w_dug, (fun _ h => nomatch h)⟩)⟩)⟩)⟩)⟩)⟩)⟩)⟩)⟩)⟩)⟩))).mono (Nat.le_of_ble_eq_true rfl) (Nat.le_of_ble_eq_true rfl) (fun o w1 hp => ?_)
          obtain ⟨cs1, hp, hi9⟩ := hp
          obtain ⟨e1, e2⟩ := hp
          subst e1; subst e2
          exact ⟨Or.inl ⟨_, rfl⟩, hI.fix (t2 := t) (is := [0, 36, 37, 38, 39, 40, 41, 45, 46, 47, 48]) hi9 rfl ⟨kd_0.mpr rfl, kd_36.mpr ⟨_, rfl⟩, kd_37.mpr ⟨_, rfl⟩, kd_38.mpr ⟨_, rfl⟩, kd_39.mpr ⟨_, rfl⟩, kd_40.mpr ⟨_, rfl⟩, kd_41.mpr ⟨_, rfl⟩, kd_45.mpr ⟨_, rfl⟩, kd_46.mpr ⟨_, rfl⟩, kd_47.mpr ⟨_, rfl⟩, kd_48.mpr ⟨_, rfl⟩, trivial⟩ (by decide) (by decide) (fun _ _ _ _ h => h) (fun h => h)⟩
    · by_cases hf : v_du_x < m9
      · refine ((C_Ip_charge100F g (ad 0) (ad 1) (ad 5) (ad 18) (ad 31) (ad 32) (ad 36) (ad 42) (ad 45) (ad 47) (ad 49) (ad 50) (ad 51) (ad 43) (ad 44) (ad 46) (ad 48) (ad 37) (ad 38) (ad 39) (ad 40) (ad 41) v_fubg_f v_fut1_f v_fut2_f v_fut3_f v_gyg_f v_dug_f v_fub_x v_gy_x v_du_x v_fu_x m9 hw.2 hf).at (hI.1.I [0, 36, 37, 38, 39, 40, 41, 45, 46, 47, 48] _ rfl (by decide) (by decide) (List.forall_mem_cons.mpr ⟨w_a, (List.forall_mem_cons.mpr ⟨w_fu, (List.forall_mem_cons.mpr ⟨w_fub, (List.forall_mem_cons.mpr ⟨w_fubg, (List.forall_mem_cons.mpr ⟨w_fut1, (List.forall_mem_cons.mpr ⟨w_fut2, (List.forall_mem_cons.mpr ⟨w_fut3, (List.forall_mem_cons.mpr ⟨w_gy, (List.forall_mem_cons.mpr ⟨w_gyg, (List.forall_mem_cons.mpr ⟨w_du, (List.forall_mem_cons.mpr ⟨w_dug, (fun _ h => nomatch h)⟩)⟩)⟩)⟩)⟩)⟩)⟩)⟩)⟩)⟩)⟩))).mono (Nat.le_of_ble_eq_true rfl) (Nat.le_of_ble_eq_true rfl) (fun o w1 hp => ?_)
        obtain ⟨cs1, hp, hi9⟩ := hp
        obtain ⟨e1, e2⟩ := hp
        subst e1; subst e2
        exact ⟨Or.inr ⟨_, List.Mem.tail _ (List.Mem.head _), rfl⟩, hI.fix (t2 := t) (is := [0, 36, 37, 38, 39, 40, 41, 45, 46, 47, 48]) hi9 rfl ⟨kd_0.mpr rfl, kd_36.mpr ⟨_, rfl⟩, kd_37.mpr ⟨_, rfl⟩, kd_38.mpr ⟨_, rfl⟩, kd_39.mpr ⟨_, rfl⟩, kd_40.mpr ⟨_, rfl⟩, kd_41.mpr ⟨_, rfl⟩, kd_45.mpr ⟨_, rfl⟩, kd_46.mpr ⟨_, rfl⟩, kd_47.mpr ⟨_, rfl⟩, kd_48.mpr ⟨_, rfl⟩, trivial⟩ (by decide) (by decide) (fun _ _ _ _ h => h) (fun h => h)⟩
      · by_cases hg : 3000 < v_fub_x + m9
        · refine ((C_Ip_charge100G g (ad 0) (ad 1) (ad 5) (ad 18) (ad 31) (ad 32) (ad 36) (ad 42) (ad 45) (ad 47) (ad 49) (ad 50) (ad 51) (ad 43) (ad 44) (ad 46) (ad 48) (ad 37) (ad 38) (ad 39) (ad 40) (ad 41) v_fubg_f v_fut1_f v_fut2_f v_fut3_f v_gyg_f v_dug_f v_fub_x v_gy_x v_du_x v_fu_x m9 hw.2 hf hg).at (hI.1.I [0, 36, 37, 38, 39, 40, 41, 45, 46, 47, 48] _ rfl (by decide) (by decide) (List.forall_mem_cons.mpr ⟨w_a, (List.forall_mem_cons.mpr ⟨w_fu, (List.forall_mem_cons.mpr ⟨w_fub, (List.forall_mem_cons.mpr ⟨w_fubg, (List.forall_mem_cons.mpr ⟨w_fut1, (List.forall_mem_cons.mpr ⟨w_fut2, (List.forall_mem_cons.mpr ⟨w_fut3, (List.forall_mem_cons.mpr ⟨w_gy, (List.forall_mem_cons.mpr ⟨w_gyg, (List.forall_mem_cons.mpr ⟨w_du, (List.forall_mem_cons.mpr ⟨w_dug, (fun _ h => nomatch h)⟩)⟩)⟩)⟩)⟩)⟩)⟩)⟩)⟩)⟩)⟩))).mono (Nat.le_of_ble_eq_true rfl) (Nat.le_of_ble_eq_true rfl) (fun o w1 hp => ?_)
          obtain ⟨cs1, hp, hi9⟩ := hp
          obtain ⟨e1, e2⟩ := hp
          subst e1; subst e2
          exact ⟨Or.inr ⟨_, List.Mem.tail _ (List.Mem.tail _ (List.Mem.head _)), rfl⟩, hI.fix (t2 := t) (is := [0, 36, 37, 38, 39, 40, 41, 45, 46, 47, 48]) hi9 rfl ⟨kd_0.mpr rfl, kd_36.mpr ⟨_, rfl⟩, kd_37.mpr ⟨_, rfl⟩, kd_38.mpr ⟨_, rfl⟩, kd_39.mpr ⟨_, rfl⟩, kd_40.mpr ⟨_, rfl⟩, kd_41.mpr ⟨_, rfl⟩, kd_45.mpr ⟨_, rfl⟩, kd_46.mpr ⟨_, rfl⟩, kd_47.mpr ⟨_, rfl⟩, kd_48.mpr ⟨_, rfl⟩, trivial⟩ (by decide) (by decide) (fun _ _ _ _ h => h) (fun h => h)⟩
        · refine ((C_Ip_charge100N g (ad 0) (ad 1) (ad 5) (ad 18) (ad 31) (ad 32) (ad 36) (ad 42) (ad 45) (ad 47) (ad 49) (ad 50) (ad 51) (ad 43) (ad 44) (ad 46) (ad 48) (ad 37) (ad 38) (ad 39) (ad 40) (ad 41) v_fubg_f v_fut1_f v_fut2_f v_fut3_f v_gyg_f v_dug_f v_fub_x v_gy_x v_du_x v_fu_x m9 hw.2 hf hg (z_ge1 hw.2.1 hf)).at (hI.1.I [0, 36, 37, 38, 39, 40, 41, 45, 46, 47, 48] _ rfl (by decide) (by decide) (List.forall_mem_cons.mpr ⟨w_a, (List.forall_mem_cons.mpr ⟨w_fu, (List.forall_mem_cons.mpr ⟨w_fub, (List.forall_mem_cons.mpr ⟨w_fubg, (List.forall_mem_cons.mpr ⟨w_fut1, (List.forall_mem_cons.mpr ⟨w_fut2, (List.forall_mem_cons.mpr ⟨w_fut3, (List.forall_mem_cons.mpr ⟨w_gy, (List.forall_mem_cons.mpr ⟨w_gyg, (List.forall_mem_cons.mpr ⟨w_du, (List.forall_mem_cons.mpr ⟨w_dug, (fun _ h => nomatch h)⟩)⟩)⟩)⟩)⟩)⟩)⟩)⟩)⟩)⟩)⟩))).mono (Nat.le_of_ble_eq_true rfl) (Nat.le_of_ble_eq_true rfl) (fun o w1 hp => ?_)
          obtain ⟨cs1, hp, hi9⟩ := hp
          obtain ⟨e1, e2⟩ := hp
          subst e1; subst e2
          exact ⟨Or.inl ⟨_, rfl⟩, hI.fix (t2 := t) (is := [0, 36, 37, 38, 39, 40, 41, 45, 46, 47, 48]) hi9 rfl ⟨kd_0.mpr rfl, kd_36.mpr ⟨_, rfl⟩, kd_37.mpr ⟨_, rfl⟩, kd_38.mpr ⟨_, rfl⟩, kd_39.mpr ⟨_, rfl⟩, kd_40.mpr ⟨_, rfl⟩, kd_41.mpr ⟨_, rfl⟩, kd_45.mpr ⟨_, rfl⟩, kd_46.mpr ⟨_, rfl⟩, kd_47.mpr ⟨_, rfl⟩, kd_48.mpr ⟨_, rfl⟩, trivial⟩ (by decide) (by decide) (fun _ _ _ _ h => h) (fun h => h)⟩
  · refine ((C_Ip_chargeE g (ad 0) (ad 1) (ad 5) (ad 18) (ad 31) (ad 32) (ad 36) (ad 42) (ad 45) (ad 47) (ad 49) (ad 50) (ad 51) (ad 43) (ad 44) (ad 46) (ad 48) (ad 37) (ad 38) (ad 39) (ad 40) (ad 41) v_fubg_f v_fut1_f v_fut2_f v_fut3_f v_gyg_f v_dug_f v_fub_x v_gy_x v_du_x v_fu_x m9 k hw).at (hI.1.I [0, 36, 37, 38, 39, 40, 41, 45, 46, 47, 48] _ rfl (by decide) (by decide) (List.forall_mem_cons.mpr ⟨w_a, (List.forall_mem_cons.mpr ⟨w_fu, (List.forall_mem_cons.mpr ⟨w_fub, (List.forall_mem_cons.mpr ⟨w_fubg, (List.forall_mem_cons.mpr ⟨w_fut1, (List.forall_mem_cons.mpr ⟨w_fut2, (List.forall_mem_cons.mpr ⟨w_fut3, (List.forall_mem_cons.mpr ⟨w_gy, (List.forall_mem_cons.mpr ⟨w_gyg, (List.forall_mem_cons.mpr ⟨w_du, (List.forall_mem_cons.mpr ⟨w_dug, (fun _ h => nomatch h)⟩)⟩)⟩)⟩)⟩)⟩)⟩)⟩)⟩)⟩)⟩))).mono (Nat.le_of_ble_eq_true rfl) (Nat.le_of_ble_eq_true rfl) (fun o w1 hp => ?_)
    obtain ⟨cs1, hp, hi9⟩ := hp
    obtain ⟨e1, e2⟩ := hp
    subst e1; subst e2
    exact ⟨Or.inr ⟨_, List.Mem.head _, rfl⟩, hI.fix (t2 := t) (is := [0, 36, 37, 38, 39, 40, 41, 45, 46, 47, 48]) hi9 rfl ⟨kd_0.mpr rfl, kd_36.mpr ⟨_, rfl⟩, kd_37.mpr ⟨_, rfl⟩, kd_38.mpr ⟨_, rfl⟩, kd_39.mpr ⟨_, rfl⟩, kd_40.mpr ⟨_, rfl⟩, kd_41.mpr ⟨_, rfl⟩, kd_45.mpr ⟨_, rfl⟩, kd_46.mpr ⟨_, rfl⟩, kd_47.mpr ⟨_, rfl⟩, kd_48.mpr ⟨_, rfl⟩, trivial⟩ (by decide) (by decide) (fun _ _ _ _ h => h) (fun h => h)⟩
set_option maxHeartbeats 4000000 in
theorem Q_Ip_furnace {g : zG} {ad : Nat → Nat} {t : zTT} {u : zNN} {w : zW} (hI : IV g ad t u w) (k : Int32) : zMB g M_Ip_furnace [.ref (ad 0), .int k] w (fun o w1 => (zri ["java/lang/IllegalArgumentException", "java/util/NoSuchElementException"] o) ∧ IV g ad t u w1) 2 12 := by
  obtain ⟨e_a, w_a, k_a⟩ := hI.1.2 0 (by decide)
  obtain rfl := kd_0.mp k_a
  obtain ⟨e_fu, w_fu, k_fu⟩ := hI.1.2 36 (by decide)
  obtain ⟨v_fu_x, rfl⟩ := kd_36.mp k_fu
  obtain ⟨e_fub, w_fub, k_fub⟩ := hI.1.2 37 (by decide)
  obtain ⟨v_fub_x, rfl⟩ := kd_37.mp k_fub
  obtain ⟨e_fubg, w_fubg, k_fubg⟩ := hI.1.2 38 (by decide)
  obtain ⟨v_fubg_f, rfl⟩ := kd_38.mp k_fubg
  by_cases hk : z_ix 2 k < 0
  · refine ((C_Ip_furnaceE g (ad 0) (ad 1) (ad 5) (ad 18) (ad 31) (ad 32) (ad 36) (ad 42) (ad 45) (ad 47) (ad 49) (ad 50) (ad 51) (ad 37) (ad 38) (ad 39) (ad 40) (ad 41) v_fubg_f v_fub_x v_fu_x k hk).at (hI.1.I [0, 36, 37, 38] _ rfl (by decide) (by decide) (List.forall_mem_cons.mpr ⟨w_a, (List.forall_mem_cons.mpr ⟨w_fu, (List.forall_mem_cons.mpr ⟨w_fub, (List.forall_mem_cons.mpr ⟨w_fubg, (fun _ h => nomatch h)⟩)⟩)⟩)⟩))).mono (Nat.le_of_ble_eq_true rfl) (Nat.le_of_ble_eq_true rfl) (fun o w1 hp => ?_)
    obtain ⟨cs1, hp, hi9⟩ := hp
    obtain ⟨e1, e2⟩ := hp
    subst e1; subst e2
    exact ⟨Or.inr ⟨_, List.Mem.head _, rfl⟩, hI.fix (t2 := t) (is := [0, 36, 37, 38]) hi9 rfl ⟨kd_0.mpr rfl, kd_36.mpr ⟨_, rfl⟩, kd_37.mpr ⟨_, rfl⟩, kd_38.mpr ⟨_, rfl⟩, trivial⟩ (by decide) (by decide) (fun _ _ _ _ h => h) (fun h => h)⟩
  · obtain ⟨e9, he9, h2⟩ := z_ix2 hk
    by_cases hi : v_fub_x ≤ 0
    · refine ((C_Ip_furnaceF g (ad 0) (ad 1) (ad 5) (ad 18) (ad 31) (ad 32) (ad 36) (ad 42) (ad 45) (ad 47) (ad 49) (ad 50) (ad 51) (ad 37) (ad 38) (ad 39) (ad 40) (ad 41) v_fubg_f v_fub_x v_fu_x k e9 he9 h2 hi).at (hI.1.I [0, 36, 37, 38] _ rfl (by decide) (by decide) (List.forall_mem_cons.mpr ⟨w_a, (List.forall_mem_cons.mpr ⟨w_fu, (List.forall_mem_cons.mpr ⟨w_fub, (List.forall_mem_cons.mpr ⟨w_fubg, (fun _ h => nomatch h)⟩)⟩)⟩)⟩))).mono (Nat.le_of_ble_eq_true rfl) (Nat.le_of_ble_eq_true rfl) (fun o w1 hp => ?_)
      obtain ⟨cs1, hp, hi9⟩ := hp
      obtain ⟨e1, e2⟩ := hp
      subst e1; subst e2
      exact ⟨Or.inr ⟨_, List.Mem.tail _ (List.Mem.head _), rfl⟩, hI.fix (t2 := t) (is := [0, 36, 37, 38]) hi9 rfl ⟨kd_0.mpr rfl, kd_36.mpr ⟨_, rfl⟩, kd_37.mpr ⟨_, rfl⟩, kd_38.mpr ⟨_, rfl⟩, trivial⟩ (by decide) (by decide) (fun _ _ _ _ h => h) (fun h => h)⟩
    · refine ((C_Ip_furnaceN g (ad 0) (ad 1) (ad 5) (ad 18) (ad 31) (ad 32) (ad 36) (ad 42) (ad 45) (ad 47) (ad 49) (ad 50) (ad 51) (ad 37) (ad 38) (ad 39) (ad 40) (ad 41) v_fubg_f v_fub_x v_fu_x k e9 he9 h2 hi).at (hI.1.I [0, 36, 37, 38] _ rfl (by decide) (by decide) (List.forall_mem_cons.mpr ⟨w_a, (List.forall_mem_cons.mpr ⟨w_fu, (List.forall_mem_cons.mpr ⟨w_fub, (List.forall_mem_cons.mpr ⟨w_fubg, (fun _ h => nomatch h)⟩)⟩)⟩)⟩))).mono (Nat.le_of_ble_eq_true rfl) (Nat.le_of_ble_eq_true rfl) (fun o w1 hp => ?_)
      obtain ⟨cs1, hp, hi9⟩ := hp
      obtain ⟨e1, e2⟩ := hp
      subst e1; subst e2
      exact ⟨Or.inl ⟨_, rfl⟩, hI.fix (t2 := t) (is := [0, 36, 37, 38]) hi9 rfl ⟨kd_0.mpr rfl, kd_36.mpr ⟨_, rfl⟩, kd_37.mpr ⟨_, rfl⟩, kd_38.mpr ⟨_, rfl⟩, trivial⟩ (by decide) (by decide) (fun _ _ _ _ h => h) (fun h => h)⟩
set_option maxHeartbeats 4000000 in
theorem Q_Ip_hold {g : zG} {ad : Nat → Nat} {t : zTT} {u : zNN} {w : zW} (hI : IV g ad t u w) (m9 : Int32) : zMB g M_Ip_hold [.ref (ad 0), .int m9] w (fun o w1 => (zri ["java/lang/IllegalArgumentException"] o) ∧ IV g ad t u w1) 1 6 := by
  obtain ⟨e_a, w_a, k_a⟩ := hI.1.2 0 (by decide)
  obtain rfl := kd_0.mp k_a
  obtain ⟨e_fu, w_fu, k_fu⟩ := hI.1.2 36 (by decide)
  obtain ⟨v_fu_x, rfl⟩ := kd_36.mp k_fu
  obtain ⟨e_fub, w_fub, k_fub⟩ := hI.1.2 37 (by decide)
  obtain ⟨v_fub_x, rfl⟩ := kd_37.mp k_fub
  obtain ⟨e_fubg, w_fubg, k_fubg⟩ := hI.1.2 38 (by decide)
  obtain ⟨v_fubg_f, rfl⟩ := kd_38.mp k_fubg
  obtain ⟨e_fut1, w_fut1, k_fut1⟩ := hI.1.2 39 (by decide)
  obtain ⟨v_fut1_f, rfl⟩ := kd_39.mp k_fut1
  obtain ⟨e_fut2, w_fut2, k_fut2⟩ := hI.1.2 40 (by decide)
  obtain ⟨v_fut2_f, rfl⟩ := kd_40.mp k_fut2
  obtain ⟨e_fut3, w_fut3, k_fut3⟩ := hI.1.2 41 (by decide)
  obtain ⟨v_fut3_f, rfl⟩ := kd_41.mp k_fut3
  by_cases hw : 1 ≤ m9 ∧ m9 ≤ 120
  · obtain ⟨a9, ha9, e9⟩ := z_in20 (b := 120) (by decide) ⟨Int32.le_trans (by decide) hw.1, hw.2⟩
    subst e9
    refine ((C_Ip_holdN g (ad 0) (ad 1) (ad 5) (ad 18) (ad 31) (ad 32) (ad 36) (ad 42) (ad 45) (ad 47) (ad 49) (ad 50) (ad 51) (ad 37) (ad 38) (ad 39) (ad 40) (ad 41) v_fubg_f v_fut1_f v_fut2_f v_fut3_f v_fub_x v_fu_x a9 (by omega) hw).at (hI.1.I [0, 36, 37, 38, 39, 40, 41] _ rfl (by decide) (by decide) (List.forall_mem_cons.mpr ⟨w_a, (List.forall_mem_cons.mpr ⟨w_fu, (List.forall_mem_cons.mpr ⟨w_fub, (List.forall_mem_cons.mpr ⟨w_fubg, (List.forall_mem_cons.mpr ⟨w_fut1, (List.forall_mem_cons.mpr ⟨w_fut2, (List.forall_mem_cons.mpr ⟨w_fut3, (fun _ h => nomatch h)⟩)⟩)⟩)⟩)⟩)⟩)⟩))).mono (Nat.le_of_ble_eq_true rfl) (Nat.le_of_ble_eq_true rfl) (fun o w1 hp => ?_)
    obtain ⟨cs1, hp, hi9⟩ := hp
    obtain ⟨e1, e2⟩ := hp
    subst e1; subst e2
    exact ⟨Or.inl ⟨_, rfl⟩, hI.fix (t2 := t) (is := [0, 36, 37, 38, 39, 40, 41]) hi9 rfl ⟨kd_0.mpr rfl, kd_36.mpr ⟨_, rfl⟩, kd_37.mpr ⟨_, rfl⟩, kd_38.mpr ⟨_, rfl⟩, kd_39.mpr ⟨_, rfl⟩, kd_40.mpr ⟨_, rfl⟩, kd_41.mpr ⟨_, rfl⟩, trivial⟩ (by decide) (by decide) (fun _ _ _ _ h => h) (fun h => h)⟩
  · refine ((C_Ip_holdE g (ad 0) (ad 1) (ad 5) (ad 18) (ad 31) (ad 32) (ad 36) (ad 42) (ad 45) (ad 47) (ad 49) (ad 50) (ad 51) (ad 37) (ad 38) (ad 39) (ad 40) (ad 41) v_fubg_f v_fut1_f v_fut2_f v_fut3_f v_fub_x v_fu_x m9 hw).at (hI.1.I [0, 36, 37, 38, 39, 40, 41] _ rfl (by decide) (by decide) (List.forall_mem_cons.mpr ⟨w_a, (List.forall_mem_cons.mpr ⟨w_fu, (List.forall_mem_cons.mpr ⟨w_fub, (List.forall_mem_cons.mpr ⟨w_fubg, (List.forall_mem_cons.mpr ⟨w_fut1, (List.forall_mem_cons.mpr ⟨w_fut2, (List.forall_mem_cons.mpr ⟨w_fut3, (fun _ h => nomatch h)⟩)⟩)⟩)⟩)⟩)⟩)⟩))).mono (Nat.le_of_ble_eq_true rfl) (Nat.le_of_ble_eq_true rfl) (fun o w1 hp => ?_)
    obtain ⟨cs1, hp, hi9⟩ := hp
    obtain ⟨e1, e2⟩ := hp
    subst e1; subst e2
    exact ⟨Or.inr ⟨_, List.Mem.head _, rfl⟩, hI.fix (t2 := t) (is := [0, 36, 37, 38, 39, 40, 41]) hi9 rfl ⟨kd_0.mpr rfl, kd_36.mpr ⟨_, rfl⟩, kd_37.mpr ⟨_, rfl⟩, kd_38.mpr ⟨_, rfl⟩, kd_39.mpr ⟨_, rfl⟩, kd_40.mpr ⟨_, rfl⟩, kd_41.mpr ⟨_, rfl⟩, trivial⟩ (by decide) (by decide) (fun _ _ _ _ h => h) (fun h => h)⟩
set_option maxHeartbeats 4000000 in
theorem Q_Ip_tap {g : zG} {ad : Nat → Nat} {t : zTT} {u : zNN} {w : zW} (hI : IV g ad t u w) (m9 : Int32) : zMB g M_Ip_tap [.ref (ad 0), .int m9] w (fun o w1 => (zri ["java/lang/IllegalArgumentException", "java/lang/IllegalStateException", "java/lang/UnsupportedOperationException"] o) ∧ IV g ad t u w1) 1 6 := by
  obtain ⟨e_a, w_a, k_a⟩ := hI.1.2 0 (by decide)
  obtain rfl := kd_0.mp k_a
  obtain ⟨e_la, w_la, k_la⟩ := hI.1.2 42 (by decide)
  obtain ⟨v_la_x, v_la_y, v_la_z, c_la_0, rfl⟩ := kd_42.mp k_la
  obtain ⟨e_lab, w_lab, k_lab⟩ := hI.1.2 43 (by decide)
  obtain ⟨v_lab_x, c_lab_0, rfl⟩ := kd_43.mp k_lab
  obtain ⟨e_labg, w_labg, k_labg⟩ := hI.1.2 44 (by decide)
  obtain ⟨v_labg_f, rfl⟩ := kd_44.mp k_labg
  obtain ⟨e_fu, w_fu, k_fu⟩ := hI.1.2 36 (by decide)
  obtain ⟨v_fu_x, rfl⟩ := kd_36.mp k_fu
  obtain ⟨e_fub, w_fub, k_fub⟩ := hI.1.2 37 (by decide)
  obtain ⟨v_fub_x, rfl⟩ := kd_37.mp k_fub
  obtain ⟨e_fubg, w_fubg, k_fubg⟩ := hI.1.2 38 (by decide)
  obtain ⟨v_fubg_f, rfl⟩ := kd_38.mp k_fubg
  by_cases hw : 1 ≤ m9 ∧ m9 ≤ 500
  · by_cases he0 : v_lab_x = 0
    · by_cases hg : v_fub_x < m9
      · refine ((C_Ip_tapG g (ad 0) (ad 1) (ad 5) (ad 18) (ad 31) (ad 32) (ad 36) (ad 42) (ad 45) (ad 47) (ad 49) (ad 50) (ad 51) (ad 43) (ad 44) (ad 37) (ad 38) (ad 39) (ad 40) (ad 41) v_labg_f v_fubg_f v_la_x v_la_y v_la_z v_lab_x v_fub_x v_fu_x m9 hw he0 hg).at (hI.1.I [0, 42, 43, 44, 36, 37, 38] _ rfl (by decide) (by decide) (List.forall_mem_cons.mpr ⟨w_a, (List.forall_mem_cons.mpr ⟨w_la, (List.forall_mem_cons.mpr ⟨w_lab, (List.forall_mem_cons.mpr ⟨w_labg, (List.forall_mem_cons.mpr ⟨w_fu, (List.forall_mem_cons.mpr ⟨w_fub, (List.forall_mem_cons.mpr ⟨w_fubg, (fun _ h => nomatch h)⟩)⟩)⟩)⟩)⟩)⟩)⟩))).mono (Nat.le_of_ble_eq_true rfl) (Nat.le_of_ble_eq_true rfl) (fun o w1 hp => ?_)
        obtain ⟨cs1, hp, hi9⟩ := hp
        obtain ⟨e1, e2⟩ := hp
        subst e1; subst e2
        exact ⟨Or.inr ⟨_, List.Mem.tail _ (List.Mem.tail _ (List.Mem.head _)), rfl⟩, hI.fix (t2 := t) (is := [0, 42, 43, 44, 36, 37, 38]) hi9 rfl ⟨kd_0.mpr rfl, kd_42.mpr ⟨_, _, _, c_la_0, rfl⟩, kd_43.mpr ⟨_, c_lab_0, rfl⟩, kd_44.mpr ⟨_, rfl⟩, kd_36.mpr ⟨_, rfl⟩, kd_37.mpr ⟨_, rfl⟩, kd_38.mpr ⟨_, rfl⟩, trivial⟩ (by decide) (by decide) (fun _ _ _ _ h => h) (fun h => h)⟩
      · refine ((C_Ip_tapN g (ad 0) (ad 1) (ad 5) (ad 18) (ad 31) (ad 32) (ad 36) (ad 42) (ad 45) (ad 47) (ad 49) (ad 50) (ad 51) (ad 43) (ad 44) (ad 37) (ad 38) (ad 39) (ad 40) (ad 41) v_labg_f v_fubg_f v_la_x v_la_y v_la_z v_lab_x v_fub_x v_fu_x m9 hw he0 hg (z_ge1 hw.1 hg)).at (hI.1.I [0, 42, 43, 44, 36, 37, 38] _ rfl (by decide) (by decide) (List.forall_mem_cons.mpr ⟨w_a, (List.forall_mem_cons.mpr ⟨w_la, (List.forall_mem_cons.mpr ⟨w_lab, (List.forall_mem_cons.mpr ⟨w_labg, (List.forall_mem_cons.mpr ⟨w_fu, (List.forall_mem_cons.mpr ⟨w_fub, (List.forall_mem_cons.mpr ⟨w_fubg, (fun _ h => nomatch h)⟩)⟩)⟩)⟩)⟩)⟩)⟩))).mono (Nat.le_of_ble_eq_true rfl) (Nat.le_of_ble_eq_true rfl) (fun o w1 hp => ?_)
        obtain ⟨cs1, hp, hi9⟩ := hp
        obtain ⟨e1, e2⟩ := hp
        subst e1; subst e2
        exact ⟨Or.inl ⟨_, rfl⟩, hI.fix (t2 := t) (is := [0, 42, 43, 44, 36, 37, 38]) hi9 rfl ⟨kd_0.mpr rfl, kd_42.mpr ⟨_, _, _, Or.inl rfl, rfl⟩, kd_43.mpr ⟨_, (by rw [he0, Int32.zero_add]; exact Int32.le_trans (by decide) hw.1), rfl⟩, kd_44.mpr ⟨_, rfl⟩, kd_36.mpr ⟨_, rfl⟩, kd_37.mpr ⟨_, rfl⟩, kd_38.mpr ⟨_, rfl⟩, trivial⟩ (by decide) (by decide) (fun _ _ _ _ h => h) (fun h => h)⟩
    · refine ((C_Ip_tapF g (ad 0) (ad 1) (ad 5) (ad 18) (ad 31) (ad 32) (ad 36) (ad 42) (ad 45) (ad 47) (ad 49) (ad 50) (ad 51) (ad 43) (ad 44) (ad 37) (ad 38) (ad 39) (ad 40) (ad 41) v_labg_f v_fubg_f v_la_x v_la_y v_la_z v_lab_x v_fub_x v_fu_x m9 hw he0).at (hI.1.I [0, 42, 43, 44, 36, 37, 38] _ rfl (by decide) (by decide) (List.forall_mem_cons.mpr ⟨w_a, (List.forall_mem_cons.mpr ⟨w_la, (List.forall_mem_cons.mpr ⟨w_lab, (List.forall_mem_cons.mpr ⟨w_labg, (List.forall_mem_cons.mpr ⟨w_fu, (List.forall_mem_cons.mpr ⟨w_fub, (List.forall_mem_cons.mpr ⟨w_fubg, (fun _ h => nomatch h)⟩)⟩)⟩)⟩)⟩)⟩)⟩))).mono (Nat.le_of_ble_eq_true rfl) (Nat.le_of_ble_eq_true rfl) (fun o w1 hp => ?_)
      obtain ⟨cs1, hp, hi9⟩ := hp
      obtain ⟨e1, e2⟩ := hp
      subst e1; subst e2
      exact ⟨Or.inr ⟨_, List.Mem.tail _ (List.Mem.head _), rfl⟩, hI.fix (t2 := t) (is := [0, 42, 43, 44, 36, 37, 38]) hi9 rfl ⟨kd_0.mpr rfl, kd_42.mpr ⟨_, _, _, c_la_0, rfl⟩, kd_43.mpr ⟨_, c_lab_0, rfl⟩, kd_44.mpr ⟨_, rfl⟩, kd_36.mpr ⟨_, rfl⟩, kd_37.mpr ⟨_, rfl⟩, kd_38.mpr ⟨_, rfl⟩, trivial⟩ (by decide) (by decide) (fun _ _ _ _ h => h) (fun h => h)⟩
  · refine ((C_Ip_tapE g (ad 0) (ad 1) (ad 5) (ad 18) (ad 31) (ad 32) (ad 36) (ad 42) (ad 45) (ad 47) (ad 49) (ad 50) (ad 51) (ad 43) (ad 44) (ad 37) (ad 38) (ad 39) (ad 40) (ad 41) v_labg_f v_fubg_f v_la_x v_la_y v_la_z v_lab_x v_fub_x v_fu_x m9 hw).at (hI.1.I [0, 42, 43, 44, 36, 37, 38] _ rfl (by decide) (by decide) (List.forall_mem_cons.mpr ⟨w_a, (List.forall_mem_cons.mpr ⟨w_la, (List.forall_mem_cons.mpr ⟨w_lab, (List.forall_mem_cons.mpr ⟨w_labg, (List.forall_mem_cons.mpr ⟨w_fu, (List.forall_mem_cons.mpr ⟨w_fub, (List.forall_mem_cons.mpr ⟨w_fubg, (fun _ h => nomatch h)⟩)⟩)⟩)⟩)⟩)⟩)⟩))).mono (Nat.le_of_ble_eq_true rfl) (Nat.le_of_ble_eq_true rfl) (fun o w1 hp => ?_)
    obtain ⟨cs1, hp, hi9⟩ := hp
    obtain ⟨e1, e2⟩ := hp
    subst e1; subst e2
    exact ⟨Or.inr ⟨_, List.Mem.head _, rfl⟩, hI.fix (t2 := t) (is := [0, 42, 43, 44, 36, 37, 38]) hi9 rfl ⟨kd_0.mpr rfl, kd_42.mpr ⟨_, _, _, c_la_0, rfl⟩, kd_43.mpr ⟨_, c_lab_0, rfl⟩, kd_44.mpr ⟨_, rfl⟩, kd_36.mpr ⟨_, rfl⟩, kd_37.mpr ⟨_, rfl⟩, kd_38.mpr ⟨_, rfl⟩, trivial⟩ (by decide) (by decide) (fun _ _ _ _ h => h) (fun h => h)⟩
set_option maxHeartbeats 4000000 in
theorem Q_Ip_treat {g : zG} {ad : Nat → Nat} {t : zTT} {u : zNN} {w : zW} (hI : IV g ad t u w) (m9 : Int32) : zMB g M_Ip_treat [.ref (ad 0), .int m9] w (fun o w1 => (zri ["java/lang/IllegalArgumentException", "java/lang/IllegalStateException", "java/lang/UnsupportedOperationException"] o) ∧ IV g ad t u w1) 1 6 := by
  obtain ⟨e_a, w_a, k_a⟩ := hI.1.2 0 (by decide)
  obtain rfl := kd_0.mp k_a
  obtain ⟨e_la, w_la, k_la⟩ := hI.1.2 42 (by decide)
  obtain ⟨v_la_x, v_la_y, v_la_z, c_la_0, rfl⟩ := kd_42.mp k_la
  obtain ⟨e_lab, w_lab, k_lab⟩ := hI.1.2 43 (by decide)
  obtain ⟨v_lab_x, c_lab_0, rfl⟩ := kd_43.mp k_lab
  obtain ⟨e_labg, w_labg, k_labg⟩ := hI.1.2 44 (by decide)
  obtain ⟨v_labg_f, rfl⟩ := kd_44.mp k_labg
  by_cases hw : 1 ≤ m9 ∧ m9 ≤ 100
  · by_cases he0 : v_lab_x = 0
    · refine ((C_Ip_treatF g (ad 0) (ad 1) (ad 5) (ad 18) (ad 31) (ad 32) (ad 36) (ad 42) (ad 45) (ad 47) (ad 49) (ad 50) (ad 51) (ad 43) (ad 44) v_labg_f v_la_x v_la_y v_la_z v_lab_x m9 hw he0).at (hI.1.I [0, 42, 43, 44] _ rfl (by decide) (by decide) (List.forall_mem_cons.mpr ⟨w_a, (List.forall_mem_cons.mpr ⟨w_la, (List.forall_mem_cons.mpr ⟨w_lab, (List.forall_mem_cons.mpr ⟨w_labg, (fun _ h => nomatch h)⟩)⟩)⟩)⟩))).mono (Nat.le_of_ble_eq_true rfl) (Nat.le_of_ble_eq_true rfl) (fun o w1 hp => ?_)
      obtain ⟨cs1, hp, hi9⟩ := hp
      obtain ⟨e1, e2⟩ := hp
      subst e1; subst e2
      exact ⟨Or.inr ⟨_, List.Mem.tail _ (List.Mem.head _), rfl⟩, hI.fix (t2 := t) (is := [0, 42, 43, 44]) hi9 rfl ⟨kd_0.mpr rfl, kd_42.mpr ⟨_, _, _, c_la_0, rfl⟩, kd_43.mpr ⟨_, c_lab_0, rfl⟩, kd_44.mpr ⟨_, rfl⟩, trivial⟩ (by decide) (by decide) (fun _ _ _ _ h => h) (fun h => h)⟩
    · by_cases hg : v_la_y + m9 ≤ 100
      · refine ((C_Ip_treatN g (ad 0) (ad 1) (ad 5) (ad 18) (ad 31) (ad 32) (ad 36) (ad 42) (ad 45) (ad 47) (ad 49) (ad 50) (ad 51) (ad 43) (ad 44) v_labg_f v_la_x v_la_y v_la_z v_lab_x m9 c_la_0 hw he0 hg).at (hI.1.I [0, 42, 43, 44] _ rfl (by decide) (by decide) (List.forall_mem_cons.mpr ⟨w_a, (List.forall_mem_cons.mpr ⟨w_la, (List.forall_mem_cons.mpr ⟨w_lab, (List.forall_mem_cons.mpr ⟨w_labg, (fun _ h => nomatch h)⟩)⟩)⟩)⟩))).mono (Nat.le_of_ble_eq_true rfl) (Nat.le_of_ble_eq_true rfl) (fun o w1 hp => ?_)
        obtain ⟨cs1, hp, hi9⟩ := hp
        obtain ⟨e1, e2⟩ := hp
        subst e1; subst e2
        exact ⟨Or.inl ⟨_, rfl⟩, hI.fix (t2 := t) (is := [0, 42, 43, 44]) hi9 rfl ⟨kd_0.mpr rfl, kd_42.mpr ⟨_, _, _, (by split; exact c_la_0; exact Or.inr rfl), rfl⟩, kd_43.mpr ⟨_, c_lab_0, rfl⟩, kd_44.mpr ⟨_, rfl⟩, trivial⟩ (by decide) (by decide) (fun _ _ _ _ h => h) (fun h => h)⟩
      · refine ((C_Ip_treatG g (ad 0) (ad 1) (ad 5) (ad 18) (ad 31) (ad 32) (ad 36) (ad 42) (ad 45) (ad 47) (ad 49) (ad 50) (ad 51) (ad 43) (ad 44) v_labg_f v_la_x v_la_y v_la_z v_lab_x m9 hw he0 hg).at (hI.1.I [0, 42, 43, 44] _ rfl (by decide) (by decide) (List.forall_mem_cons.mpr ⟨w_a, (List.forall_mem_cons.mpr ⟨w_la, (List.forall_mem_cons.mpr ⟨w_lab, (List.forall_mem_cons.mpr ⟨w_labg, (fun _ h => nomatch h)⟩)⟩)⟩)⟩))).mono (Nat.le_of_ble_eq_true rfl) (Nat.le_of_ble_eq_true rfl) (fun o w1 hp => ?_)
        obtain ⟨cs1, hp, hi9⟩ := hp
        obtain ⟨e1, e2⟩ := hp
        subst e1; subst e2
        exact ⟨Or.inr ⟨_, List.Mem.tail _ (List.Mem.tail _ (List.Mem.head _)), rfl⟩, hI.fix (t2 := t) (is := [0, 42, 43, 44]) hi9 rfl ⟨kd_0.mpr rfl, kd_42.mpr ⟨_, _, _, c_la_0, rfl⟩, kd_43.mpr ⟨_, c_lab_0, rfl⟩, kd_44.mpr ⟨_, rfl⟩, trivial⟩ (by decide) (by decide) (fun _ _ _ _ h => h) (fun h => h)⟩
  · refine ((C_Ip_treatE g (ad 0) (ad 1) (ad 5) (ad 18) (ad 31) (ad 32) (ad 36) (ad 42) (ad 45) (ad 47) (ad 49) (ad 50) (ad 51) (ad 43) (ad 44) v_labg_f v_la_x v_la_y v_la_z v_lab_x m9 hw).at (hI.1.I [0, 42, 43, 44] _ rfl (by decide) (by decide) (List.forall_mem_cons.mpr ⟨w_a, (List.forall_mem_cons.mpr ⟨w_la, (List.forall_mem_cons.mpr ⟨w_lab, (List.forall_mem_cons.mpr ⟨w_labg, (fun _ h => nomatch h)⟩)⟩)⟩)⟩))).mono (Nat.le_of_ble_eq_true rfl) (Nat.le_of_ble_eq_true rfl) (fun o w1 hp => ?_)
    obtain ⟨cs1, hp, hi9⟩ := hp
    obtain ⟨e1, e2⟩ := hp
    subst e1; subst e2
    exact ⟨Or.inr ⟨_, List.Mem.head _, rfl⟩, hI.fix (t2 := t) (is := [0, 42, 43, 44]) hi9 rfl ⟨kd_0.mpr rfl, kd_42.mpr ⟨_, _, _, c_la_0, rfl⟩, kd_43.mpr ⟨_, c_lab_0, rfl⟩, kd_44.mpr ⟨_, rfl⟩, trivial⟩ (by decide) (by decide) (fun _ _ _ _ h => h) (fun h => h)⟩
set_option maxHeartbeats 4000000 in
theorem Q_Ip_ladle {g : zG} {ad : Nat → Nat} {t : zTT} {u : zNN} {w : zW} (hI : IV g ad t u w) (w9 : Int32) : zMB g M_Ip_ladle [.ref (ad 0), .int w9] w (fun o w1 => (zri ["java/lang/IllegalArgumentException"] o) ∧ IV g ad t u w1) 1 6 := by
  obtain ⟨e_a, w_a, k_a⟩ := hI.1.2 0 (by decide)
  obtain rfl := kd_0.mp k_a
  obtain ⟨e_la, w_la, k_la⟩ := hI.1.2 42 (by decide)
  obtain ⟨v_la_x, v_la_y, v_la_z, c_la_0, rfl⟩ := kd_42.mp k_la
  obtain ⟨e_lab, w_lab, k_lab⟩ := hI.1.2 43 (by decide)
  obtain ⟨v_lab_x, c_lab_0, rfl⟩ := kd_43.mp k_lab
  obtain ⟨e_labg, w_labg, k_labg⟩ := hI.1.2 44 (by decide)
  obtain ⟨v_labg_f, rfl⟩ := kd_44.mp k_labg
  by_cases hw : z_ix 3 w9 < 0
  · refine ((C_Ip_ladleE g (ad 0) (ad 1) (ad 5) (ad 18) (ad 31) (ad 32) (ad 36) (ad 42) (ad 45) (ad 47) (ad 49) (ad 50) (ad 51) (ad 43) (ad 44) v_labg_f v_la_x v_la_y v_la_z v_lab_x w9 hw).at (hI.1.I [0, 42, 43, 44] _ rfl (by decide) (by decide) (List.forall_mem_cons.mpr ⟨w_a, (List.forall_mem_cons.mpr ⟨w_la, (List.forall_mem_cons.mpr ⟨w_lab, (List.forall_mem_cons.mpr ⟨w_labg, (fun _ h => nomatch h)⟩)⟩)⟩)⟩))).mono (Nat.le_of_ble_eq_true rfl) (Nat.le_of_ble_eq_true rfl) (fun o w1 hp => ?_)
    obtain ⟨cs1, hp, hi9⟩ := hp
    obtain ⟨e1, e2⟩ := hp
    subst e1; subst e2
    exact ⟨Or.inr ⟨_, List.Mem.head _, rfl⟩, hI.fix (t2 := t) (is := [0, 42, 43, 44]) hi9 rfl ⟨kd_0.mpr rfl, kd_42.mpr ⟨_, _, _, c_la_0, rfl⟩, kd_43.mpr ⟨_, c_lab_0, rfl⟩, kd_44.mpr ⟨_, rfl⟩, trivial⟩ (by decide) (by decide) (fun _ _ _ _ h => h) (fun h => h)⟩
  · by_cases he0 : v_lab_x = 0
    · refine ((C_Ip_ladle0 g (ad 0) (ad 1) (ad 5) (ad 18) (ad 31) (ad 32) (ad 36) (ad 42) (ad 45) (ad 47) (ad 49) (ad 50) (ad 51) (ad 43) (ad 44) v_labg_f v_la_x v_la_y v_la_z v_lab_x w9 hw he0).at (hI.1.I [0, 42, 43, 44] _ rfl (by decide) (by decide) (List.forall_mem_cons.mpr ⟨w_a, (List.forall_mem_cons.mpr ⟨w_la, (List.forall_mem_cons.mpr ⟨w_lab, (List.forall_mem_cons.mpr ⟨w_labg, (fun _ h => nomatch h)⟩)⟩)⟩)⟩))).mono (Nat.le_of_ble_eq_true rfl) (Nat.le_of_ble_eq_true rfl) (fun o w1 hp => ?_)
      obtain ⟨cs1, hp, hi9⟩ := hp
      obtain ⟨e1, e2⟩ := hp
      subst e1; subst e2
      exact ⟨Or.inl ⟨_, rfl⟩, hI.fix (t2 := t) (is := [0, 42, 43, 44]) hi9 rfl ⟨kd_0.mpr rfl, kd_42.mpr ⟨_, _, _, c_la_0, rfl⟩, kd_43.mpr ⟨_, c_lab_0, rfl⟩, kd_44.mpr ⟨_, rfl⟩, trivial⟩ (by decide) (by decide) (fun _ _ _ _ h => h) (fun h => h)⟩
    · rcases z_ix3 (Int32.not_lt.mp hw) with rfl | rfl | rfl
      · refine ((C_Ip_ladle119 g (ad 0) (ad 1) (ad 5) (ad 18) (ad 31) (ad 32) (ad 36) (ad 42) (ad 45) (ad 47) (ad 49) (ad 50) (ad 51) (ad 43) (ad 44) v_labg_f v_la_x v_la_y v_la_z v_lab_x he0).at (hI.1.I [0, 42, 43, 44] _ rfl (by decide) (by decide) (List.forall_mem_cons.mpr ⟨w_a, (List.forall_mem_cons.mpr ⟨w_la, (List.forall_mem_cons.mpr ⟨w_lab, (List.forall_mem_cons.mpr ⟨w_labg, (fun _ h => nomatch h)⟩)⟩)⟩)⟩))).mono (Nat.le_of_ble_eq_true rfl) (Nat.le_of_ble_eq_true rfl) (fun o w1 hp => ?_)
        obtain ⟨cs1, hp, hi9⟩ := hp
        obtain ⟨e1, e2⟩ := hp
        subst e1; subst e2
        exact ⟨Or.inl ⟨_, rfl⟩, hI.fix (t2 := t) (is := [0, 42, 43, 44]) hi9 rfl ⟨kd_0.mpr rfl, kd_42.mpr ⟨_, _, _, c_la_0, rfl⟩, kd_43.mpr ⟨_, c_lab_0, rfl⟩, kd_44.mpr ⟨_, rfl⟩, trivial⟩ (by decide) (by decide) (fun _ _ _ _ h => h) (fun h => h)⟩
      · refine ((C_Ip_ladle104 g (ad 0) (ad 1) (ad 5) (ad 18) (ad 31) (ad 32) (ad 36) (ad 42) (ad 45) (ad 47) (ad 49) (ad 50) (ad 51) (ad 43) (ad 44) v_labg_f v_la_x v_la_y v_la_z v_lab_x he0).at (hI.1.I [0, 42, 43, 44] _ rfl (by decide) (by decide) (List.forall_mem_cons.mpr ⟨w_a, (List.forall_mem_cons.mpr ⟨w_la, (List.forall_mem_cons.mpr ⟨w_lab, (List.forall_mem_cons.mpr ⟨w_labg, (fun _ h => nomatch h)⟩)⟩)⟩)⟩))).mono (Nat.le_of_ble_eq_true rfl) (Nat.le_of_ble_eq_true rfl) (fun o w1 hp => ?_)
        obtain ⟨cs1, hp, hi9⟩ := hp
        obtain ⟨e1, e2⟩ := hp
        subst e1; subst e2
        exact ⟨Or.inl ⟨_, rfl⟩, hI.fix (t2 := t) (is := [0, 42, 43, 44]) hi9 rfl ⟨kd_0.mpr rfl, kd_42.mpr ⟨_, _, _, c_la_0, rfl⟩, kd_43.mpr ⟨_, c_lab_0, rfl⟩, kd_44.mpr ⟨_, rfl⟩, trivial⟩ (by decide) (by decide) (fun _ _ _ _ h => h) (fun h => h)⟩
      · refine ((C_Ip_ladle109 g (ad 0) (ad 1) (ad 5) (ad 18) (ad 31) (ad 32) (ad 36) (ad 42) (ad 45) (ad 47) (ad 49) (ad 50) (ad 51) (ad 43) (ad 44) v_labg_f v_la_x v_la_y v_la_z v_lab_x he0).at (hI.1.I [0, 42, 43, 44] _ rfl (by decide) (by decide) (List.forall_mem_cons.mpr ⟨w_a, (List.forall_mem_cons.mpr ⟨w_la, (List.forall_mem_cons.mpr ⟨w_lab, (List.forall_mem_cons.mpr ⟨w_labg, (fun _ h => nomatch h)⟩)⟩)⟩)⟩))).mono (Nat.le_of_ble_eq_true rfl) (Nat.le_of_ble_eq_true rfl) (fun o w1 hp => ?_)
        obtain ⟨cs1, hp, hi9⟩ := hp
        obtain ⟨e1, e2⟩ := hp
        subst e1; subst e2
        exact ⟨Or.inl ⟨_, rfl⟩, hI.fix (t2 := t) (is := [0, 42, 43, 44]) hi9 rfl ⟨kd_0.mpr rfl, kd_42.mpr ⟨_, _, _, c_la_0, rfl⟩, kd_43.mpr ⟨_, c_lab_0, rfl⟩, kd_44.mpr ⟨_, rfl⟩, trivial⟩ (by decide) (by decide) (fun _ _ _ _ h => h) (fun h => h)⟩
set_option maxHeartbeats 4000000 in
theorem Q_Ip_pig {g : zG} {ad : Nat → Nat} {t : zTT} {u : zNN} {w : zW} (hI : IV g ad t u w) : zMB g M_Ip_pig [.ref (ad 0)] w (fun o w1 => (zri ["java/lang/IllegalStateException"] o) ∧ IV g ad t u w1) 1 6 := by
  obtain ⟨e_a, w_a, k_a⟩ := hI.1.2 0 (by decide)
  obtain rfl := kd_0.mp k_a
  obtain ⟨e_la, w_la, k_la⟩ := hI.1.2 42 (by decide)
  obtain ⟨v_la_x, v_la_y, v_la_z, c_la_0, rfl⟩ := kd_42.mp k_la
  obtain ⟨e_lab, w_lab, k_lab⟩ := hI.1.2 43 (by decide)
  obtain ⟨v_lab_x, c_lab_0, rfl⟩ := kd_43.mp k_lab
  obtain ⟨e_labg, w_labg, k_labg⟩ := hI.1.2 44 (by decide)
  obtain ⟨v_labg_f, rfl⟩ := kd_44.mp k_labg
  obtain ⟨e_gy, w_gy, k_gy⟩ := hI.1.2 45 (by decide)
  obtain ⟨v_gy_x, rfl⟩ := kd_45.mp k_gy
  obtain ⟨e_gyg, w_gyg, k_gyg⟩ := hI.1.2 46 (by decide)
  obtain ⟨v_gyg_f, rfl⟩ := kd_46.mp k_gyg
  obtain ⟨e_du, w_du, k_du⟩ := hI.1.2 47 (by decide)
  obtain ⟨v_du_x, rfl⟩ := kd_47.mp k_du
  obtain ⟨e_dug, w_dug, k_dug⟩ := hI.1.2 48 (by decide)
  obtain ⟨v_dug_f, rfl⟩ := kd_48.mp k_dug
  by_cases he0 : v_lab_x = 0
  · refine ((C_Ip_pigE g (ad 0) (ad 1) (ad 5) (ad 18) (ad 31) (ad 32) (ad 36) (ad 42) (ad 45) (ad 47) (ad 49) (ad 50) (ad 51) (ad 43) (ad 44) (ad 46) (ad 48) v_labg_f v_gyg_f v_dug_f v_la_x v_la_y v_la_z v_lab_x v_gy_x v_du_x he0).at (hI.1.I [0, 42, 43, 44, 45, 46, 47, 48] _ rfl (by decide) (by decide) (List.forall_mem_cons.mpr ⟨w_a, (List.forall_mem_cons.mpr ⟨w_la, (List.forall_mem_cons.mpr ⟨w_lab, (List.forall_mem_cons.mpr ⟨w_labg, (List.forall_mem_cons.mpr ⟨w_gy, (List.forall_mem_cons.mpr ⟨w_gyg, (List.forall_mem_cons.mpr ⟨w_du, (List.forall_mem_cons.mpr ⟨w_dug, (fun _ h => nomatch h)⟩)⟩)⟩)⟩)⟩)⟩)⟩)⟩))).mono (Nat.le_of_ble_eq_true rfl) (Nat.le_of_ble_eq_true rfl) (fun o w1 hp => ?_)
    obtain ⟨cs1, hp, hi9⟩ := hp
    obtain ⟨e1, e2⟩ := hp
    subst e1; subst e2
    exact ⟨Or.inr ⟨_, List.Mem.head _, rfl⟩, hI.fix (t2 := t) (is := [0, 42, 43, 44, 45, 46, 47, 48]) hi9 rfl ⟨kd_0.mpr rfl, kd_42.mpr ⟨_, _, _, c_la_0, rfl⟩, kd_43.mpr ⟨_, c_lab_0, rfl⟩, kd_44.mpr ⟨_, rfl⟩, kd_45.mpr ⟨_, rfl⟩, kd_46.mpr ⟨_, rfl⟩, kd_47.mpr ⟨_, rfl⟩, kd_48.mpr ⟨_, rfl⟩, trivial⟩ (by decide) (by decide) (fun _ _ _ _ h => h) (fun h => h)⟩
  · by_cases hw : v_la_z = 0
    · refine ((C_Ip_pigN g (ad 0) (ad 1) (ad 5) (ad 18) (ad 31) (ad 32) (ad 36) (ad 42) (ad 45) (ad 47) (ad 49) (ad 50) (ad 51) (ad 43) (ad 44) (ad 46) (ad 48) v_labg_f v_gyg_f v_dug_f v_la_x v_la_y v_la_z v_lab_x v_gy_x v_du_x he0 (z_nnz c_lab_0 he0) hw).at (hI.1.I [0, 42, 43, 44, 45, 46, 47, 48] _ rfl (by decide) (by decide) (List.forall_mem_cons.mpr ⟨w_a, (List.forall_mem_cons.mpr ⟨w_la, (List.forall_mem_cons.mpr ⟨w_lab, (List.forall_mem_cons.mpr ⟨w_labg, (List.forall_mem_cons.mpr ⟨w_gy, (List.forall_mem_cons.mpr ⟨w_gyg, (List.forall_mem_cons.mpr ⟨w_du, (List.forall_mem_cons.mpr ⟨w_dug, (fun _ h => nomatch h)⟩)⟩)⟩)⟩)⟩)⟩)⟩)⟩))).mono (Nat.le_of_ble_eq_true rfl) (Nat.le_of_ble_eq_true rfl) (fun o w1 hp => ?_)
      obtain ⟨cs1, hp, hi9⟩ := hp
      obtain ⟨e1, e2⟩ := hp
      subst e1; subst e2
      exact ⟨Or.inl ⟨_, rfl⟩, hI.fix (t2 := t) (is := [0, 42, 43, 44, 45, 46, 47, 48]) hi9 rfl ⟨kd_0.mpr rfl, kd_42.mpr ⟨_, _, _, c_la_0, rfl⟩, kd_43.mpr ⟨_, (by rw [Int32.sub_self]; decide), rfl⟩, kd_44.mpr ⟨_, rfl⟩, kd_45.mpr ⟨_, rfl⟩, kd_46.mpr ⟨_, rfl⟩, kd_47.mpr ⟨_, rfl⟩, kd_48.mpr ⟨_, rfl⟩, trivial⟩ (by decide) (by decide) (fun _ _ _ _ h => h) (fun h => h)⟩
    · refine ((C_Ip_pigD g (ad 0) (ad 1) (ad 5) (ad 18) (ad 31) (ad 32) (ad 36) (ad 42) (ad 45) (ad 47) (ad 49) (ad 50) (ad 51) (ad 43) (ad 44) (ad 46) (ad 48) v_labg_f v_gyg_f v_dug_f v_la_x v_la_y v_la_z v_lab_x v_gy_x v_du_x he0 (z_nnz c_lab_0 he0) hw).at (hI.1.I [0, 42, 43, 44, 45, 46, 47, 48] _ rfl (by decide) (by decide) (List.forall_mem_cons.mpr ⟨w_a, (List.forall_mem_cons.mpr ⟨w_la, (List.forall_mem_cons.mpr ⟨w_lab, (List.forall_mem_cons.mpr ⟨w_labg, (List.forall_mem_cons.mpr ⟨w_gy, (List.forall_mem_cons.mpr ⟨w_gyg, (List.forall_mem_cons.mpr ⟨w_du, (List.forall_mem_cons.mpr ⟨w_dug, (fun _ h => nomatch h)⟩)⟩)⟩)⟩)⟩)⟩)⟩)⟩))).mono (Nat.le_of_ble_eq_true rfl) (Nat.le_of_ble_eq_true rfl) (fun o w1 hp => ?_)
      obtain ⟨cs1, hp, hi9⟩ := hp
      obtain ⟨e1, e2⟩ := hp
      subst e1; subst e2
      exact ⟨Or.inl ⟨_, rfl⟩, hI.fix (t2 := t) (is := [0, 42, 43, 44, 45, 46, 47, 48]) hi9 rfl ⟨kd_0.mpr rfl, kd_42.mpr ⟨_, _, _, c_la_0, rfl⟩, kd_43.mpr ⟨_, (by rw [Int32.sub_self]; decide), rfl⟩, kd_44.mpr ⟨_, rfl⟩, kd_45.mpr ⟨_, rfl⟩, kd_46.mpr ⟨_, rfl⟩, kd_47.mpr ⟨_, rfl⟩, kd_48.mpr ⟨_, rfl⟩, trivial⟩ (by decide) (by decide) (fun _ _ _ _ h => h) (fun h => h)⟩
set_option maxHeartbeats 4000000 in
theorem Q_Ip_pool {g : zG} {ad : Nat → Nat} {t : zTT} {u : zNN} {w : zW} (hI : IV g ad t u w) (k : Int32) : zMB g M_Ip_pool [.ref (ad 0), .int k] w (fun o w1 => (zri ["java/lang/IllegalArgumentException"] o) ∧ IV g ad t u w1) 1 6 := by
  obtain ⟨e_a, w_a, k_a⟩ := hI.1.2 0 (by decide)
  obtain rfl := kd_0.mp k_a
  obtain ⟨e_gy, w_gy, k_gy⟩ := hI.1.2 45 (by decide)
  obtain ⟨v_gy_x, rfl⟩ := kd_45.mp k_gy
  obtain ⟨e_gyg, w_gyg, k_gyg⟩ := hI.1.2 46 (by decide)
  obtain ⟨v_gyg_f, rfl⟩ := kd_46.mp k_gyg
  obtain ⟨e_du, w_du, k_du⟩ := hI.1.2 47 (by decide)
  obtain ⟨v_du_x, rfl⟩ := kd_47.mp k_du
  obtain ⟨e_dug, w_dug, k_dug⟩ := hI.1.2 48 (by decide)
  obtain ⟨v_dug_f, rfl⟩ := kd_48.mp k_dug
  by_cases h1 : k = 103
  · subst h1
    refine ((C_Ip_pool103 g (ad 0) (ad 1) (ad 5) (ad 18) (ad 31) (ad 32) (ad 36) (ad 42) (ad 45) (ad 47) (ad 49) (ad 50) (ad 51) (ad 46) v_gyg_f v_gy_x).at (hI.1.I [0, 45, 46] _ rfl (by decide) (by decide) (List.forall_mem_cons.mpr ⟨w_a, (List.forall_mem_cons.mpr ⟨w_gy, (List.forall_mem_cons.mpr ⟨w_gyg, (fun _ h => nomatch h)⟩)⟩)⟩))).mono (Nat.le_of_ble_eq_true rfl) (Nat.le_of_ble_eq_true rfl) (fun o w1 hp => ?_)
    obtain ⟨cs1, hp, hi9⟩ := hp
    obtain ⟨e1, e2⟩ := hp
    subst e1; subst e2
    exact ⟨Or.inl ⟨_, rfl⟩, hI.fix (t2 := t) (is := [0, 45, 46]) hi9 rfl ⟨kd_0.mpr rfl, kd_45.mpr ⟨_, rfl⟩, kd_46.mpr ⟨_, rfl⟩, trivial⟩ (by decide) (by decide) (fun _ _ _ _ h => h) (fun h => h)⟩
  · by_cases h2 : k = 100
    · subst h2
      refine ((C_Ip_pool100 g (ad 0) (ad 1) (ad 5) (ad 18) (ad 31) (ad 32) (ad 36) (ad 42) (ad 45) (ad 47) (ad 49) (ad 50) (ad 51) (ad 48) v_dug_f v_du_x).at (hI.1.I [0, 47, 48] _ rfl (by decide) (by decide) (List.forall_mem_cons.mpr ⟨w_a, (List.forall_mem_cons.mpr ⟨w_du, (List.forall_mem_cons.mpr ⟨w_dug, (fun _ h => nomatch h)⟩)⟩)⟩))).mono (Nat.le_of_ble_eq_true rfl) (Nat.le_of_ble_eq_true rfl) (fun o w1 hp => ?_)
      obtain ⟨cs1, hp, hi9⟩ := hp
      obtain ⟨e1, e2⟩ := hp
      subst e1; subst e2
      exact ⟨Or.inl ⟨_, rfl⟩, hI.fix (t2 := t) (is := [0, 47, 48]) hi9 rfl ⟨kd_0.mpr rfl, kd_47.mpr ⟨_, rfl⟩, kd_48.mpr ⟨_, rfl⟩, trivial⟩ (by decide) (by decide) (fun _ _ _ _ h => h) (fun h => h)⟩
    · refine ((C_Ip_poolE g (ad 0) (ad 1) (ad 5) (ad 18) (ad 31) (ad 32) (ad 36) (ad 42) (ad 45) (ad 47) (ad 49) (ad 50) (ad 51) k h1 h2).at (hI.1.I [0] _ rfl (by decide) (by decide) (List.forall_mem_cons.mpr ⟨w_a, (fun _ h => nomatch h)⟩))).mono (Nat.le_of_ble_eq_true rfl) (Nat.le_of_ble_eq_true rfl) (fun o w1 hp => ?_)
      obtain ⟨cs1, hp, hi9⟩ := hp
      obtain ⟨e1, e2⟩ := hp
      subst e1; subst e2
      exact ⟨Or.inr ⟨_, List.Mem.head _, rfl⟩, hI.fix (t2 := t) (is := [0]) hi9 rfl ⟨kd_0.mpr rfl, trivial⟩ (by decide) (by decide) (fun _ _ _ _ h => h) (fun h => h)⟩
set_option maxHeartbeats 4000000 in
theorem Q_Ip_poolHas {g : zG} {ad : Nat → Nat} {t : zTT} {u : zNN} {w : zW} (hI : IV g ad t u w) (k0 k : Int32) : zMB g M_Ip_poolHas [.ref (ad 0), .int k0, .int k] w (fun o w1 => (zri ["java/lang/IllegalArgumentException", "java/util/NoSuchElementException"] o) ∧ IV g ad t u w1) 2 12 := by
  obtain ⟨e_a, w_a, k_a⟩ := hI.1.2 0 (by decide)
  obtain rfl := kd_0.mp k_a
  obtain ⟨e_gy, w_gy, k_gy⟩ := hI.1.2 45 (by decide)
  obtain ⟨v_gy_x, rfl⟩ := kd_45.mp k_gy
  obtain ⟨e_gyg, w_gyg, k_gyg⟩ := hI.1.2 46 (by decide)
  obtain ⟨v_gyg_f, rfl⟩ := kd_46.mp k_gyg
  obtain ⟨e_du, w_du, k_du⟩ := hI.1.2 47 (by decide)
  obtain ⟨v_du_x, rfl⟩ := kd_47.mp k_du
  obtain ⟨e_dug, w_dug, k_dug⟩ := hI.1.2 48 (by decide)
  obtain ⟨v_dug_f, rfl⟩ := kd_48.mp k_dug
  by_cases h1 : k0 = 103
  · subst h1
    by_cases hk : z_ix 2 k < 0
    · refine ((C_Ip_poolHas103E g (ad 0) (ad 1) (ad 5) (ad 18) (ad 31) (ad 32) (ad 36) (ad 42) (ad 45) (ad 47) (ad 49) (ad 50) (ad 51) (ad 46) v_gyg_f v_gy_x k hk).at (hI.1.I [0, 45, 46] _ rfl (by decide) (by decide) (List.forall_mem_cons.mpr ⟨w_a, (List.forall_mem_cons.mpr ⟨w_gy, (List.forall_mem_cons.mpr ⟨w_gyg, (fun _ h => nomatch h)⟩)⟩)⟩))).mono (Nat.le_of_ble_eq_true rfl) (Nat.le_of_ble_eq_true rfl) (fun o w1 hp => ?_)
      obtain ⟨cs1, hp, hi9⟩ := hp
      obtain ⟨e1, e2⟩ := hp
      subst e1; subst e2
      exact ⟨Or.inr ⟨_, List.Mem.head _, rfl⟩, hI.fix (t2 := t) (is := [0, 45, 46]) hi9 rfl ⟨kd_0.mpr rfl, kd_45.mpr ⟨_, rfl⟩, kd_46.mpr ⟨_, rfl⟩, trivial⟩ (by decide) (by decide) (fun _ _ _ _ h => h) (fun h => h)⟩
    · obtain ⟨e9, he9, h2⟩ := z_ix2 hk
      by_cases hi : v_gy_x ≤ 0
      · refine ((C_Ip_poolHas103F g (ad 0) (ad 1) (ad 5) (ad 18) (ad 31) (ad 32) (ad 36) (ad 42) (ad 45) (ad 47) (ad 49) (ad 50) (ad 51) (ad 46) v_gyg_f v_gy_x k e9 he9 h2 hi).at (hI.1.I [0, 45, 46] _ rfl (by decide) (by decide) (List.forall_mem_cons.mpr ⟨w_a, (List.forall_mem_cons.mpr ⟨w_gy, (List.forall_mem_cons.mpr ⟨w_gyg, (fun _ h => nomatch h)⟩)⟩)⟩))).mono (Nat.le_of_ble_eq_true rfl) (Nat.le_of_ble_eq_true rfl) (fun o w1 hp => ?_)
        obtain ⟨cs1, hp, hi9⟩ := hp
        obtain ⟨e1, e2⟩ := hp
        subst e1; subst e2
        exact ⟨Or.inr ⟨_, List.Mem.tail _ (List.Mem.head _), rfl⟩, hI.fix (t2 := t) (is := [0, 45, 46]) hi9 rfl ⟨kd_0.mpr rfl, kd_45.mpr ⟨_, rfl⟩, kd_46.mpr ⟨_, rfl⟩, trivial⟩ (by decide) (by decide) (fun _ _ _ _ h => h) (fun h => h)⟩
      · refine ((C_Ip_poolHas103N g (ad 0) (ad 1) (ad 5) (ad 18) (ad 31) (ad 32) (ad 36) (ad 42) (ad 45) (ad 47) (ad 49) (ad 50) (ad 51) (ad 46) v_gyg_f v_gy_x k e9 he9 h2 hi).at (hI.1.I [0, 45, 46] _ rfl (by decide) (by decide) (List.forall_mem_cons.mpr ⟨w_a, (List.forall_mem_cons.mpr ⟨w_gy, (List.forall_mem_cons.mpr ⟨w_gyg, (fun _ h => nomatch h)⟩)⟩)⟩))).mono (Nat.le_of_ble_eq_true rfl) (Nat.le_of_ble_eq_true rfl) (fun o w1 hp => ?_)
        obtain ⟨cs1, hp, hi9⟩ := hp
        obtain ⟨e1, e2⟩ := hp
        subst e1; subst e2
        exact ⟨Or.inl ⟨_, rfl⟩, hI.fix (t2 := t) (is := [0, 45, 46]) hi9 rfl ⟨kd_0.mpr rfl, kd_45.mpr ⟨_, rfl⟩, kd_46.mpr ⟨_, rfl⟩, trivial⟩ (by decide) (by decide) (fun _ _ _ _ h => h) (fun h => h)⟩
  · by_cases h2 : k0 = 100
    · subst h2
      by_cases hk : z_ix 2 k < 0
      · refine ((C_Ip_poolHas100E g (ad 0) (ad 1) (ad 5) (ad 18) (ad 31) (ad 32) (ad 36) (ad 42) (ad 45) (ad 47) (ad 49) (ad 50) (ad 51) (ad 48) v_dug_f v_du_x k hk).at (hI.1.I [0, 47, 48] _ rfl (by decide) (by decide) (List.forall_mem_cons.mpr ⟨w_a, (List.forall_mem_cons.mpr ⟨w_du, (List.forall_mem_cons.mpr ⟨w_dug, (fun _ h => nomatch h)⟩)⟩)⟩))).mono (Nat.le_of_ble_eq_true rfl) (Nat.le_of_ble_eq_true rfl) (fun o w1 hp => ?_)
        obtain ⟨cs1, hp, hi9⟩ := hp
        obtain ⟨e1, e2⟩ := hp
        subst e1; subst e2
        exact ⟨Or.inr ⟨_, List.Mem.head _, rfl⟩, hI.fix (t2 := t) (is := [0, 47, 48]) hi9 rfl ⟨kd_0.mpr rfl, kd_47.mpr ⟨_, rfl⟩, kd_48.mpr ⟨_, rfl⟩, trivial⟩ (by decide) (by decide) (fun _ _ _ _ h => h) (fun h => h)⟩
      · obtain ⟨e9, he9, h2⟩ := z_ix2 hk
        by_cases hi : v_du_x ≤ 0
        · refine ((C_Ip_poolHas100F g (ad 0) (ad 1) (ad 5) (ad 18) (ad 31) (ad 32) (ad 36) (ad 42) (ad 45) (ad 47) (ad 49) (ad 50) (ad 51) (ad 48) v_dug_f v_du_x k e9 he9 h2 hi).at (hI.1.I [0, 47, 48] _ rfl (by decide) (by decide) (List.forall_mem_cons.mpr ⟨w_a, (List.forall_mem_cons.mpr ⟨w_du, (List.forall_mem_cons.mpr ⟨w_dug, (fun _ h => nomatch h)⟩)⟩)⟩))).mono (Nat.le_of_ble_eq_true rfl) (Nat.le_of_ble_eq_true rfl) (fun o w1 hp => ?_)
          obtain ⟨cs1, hp, hi9⟩ := hp
          obtain ⟨e1, e2⟩ := hp
          subst e1; subst e2
          exact ⟨Or.inr ⟨_, List.Mem.tail _ (List.Mem.head _), rfl⟩, hI.fix (t2 := t) (is := [0, 47, 48]) hi9 rfl ⟨kd_0.mpr rfl, kd_47.mpr ⟨_, rfl⟩, kd_48.mpr ⟨_, rfl⟩, trivial⟩ (by decide) (by decide) (fun _ _ _ _ h => h) (fun h => h)⟩
        · refine ((C_Ip_poolHas100N g (ad 0) (ad 1) (ad 5) (ad 18) (ad 31) (ad 32) (ad 36) (ad 42) (ad 45) (ad 47) (ad 49) (ad 50) (ad 51) (ad 48) v_dug_f v_du_x k e9 he9 h2 hi).at (hI.1.I [0, 47, 48] _ rfl (by decide) (by decide) (List.forall_mem_cons.mpr ⟨w_a, (List.forall_mem_cons.mpr ⟨w_du, (List.forall_mem_cons.mpr ⟨w_dug, (fun _ h => nomatch h)⟩)⟩)⟩))).mono (Nat.le_of_ble_eq_true rfl) (Nat.le_of_ble_eq_true rfl) (fun o w1 hp => ?_)
          obtain ⟨cs1, hp, hi9⟩ := hp
          obtain ⟨e1, e2⟩ := hp
          subst e1; subst e2
          exact ⟨Or.inl ⟨_, rfl⟩, hI.fix (t2 := t) (is := [0, 47, 48]) hi9 rfl ⟨kd_0.mpr rfl, kd_47.mpr ⟨_, rfl⟩, kd_48.mpr ⟨_, rfl⟩, trivial⟩ (by decide) (by decide) (fun _ _ _ _ h => h) (fun h => h)⟩
    · refine ((C_Ip_poolHasE g (ad 0) (ad 1) (ad 5) (ad 18) (ad 31) (ad 32) (ad 36) (ad 42) (ad 45) (ad 47) (ad 49) (ad 50) (ad 51) k0 k h1 h2).at (hI.1.I [0] _ rfl (by decide) (by decide) (List.forall_mem_cons.mpr ⟨w_a, (fun _ h => nomatch h)⟩))).mono (Nat.le_of_ble_eq_true rfl) (Nat.le_of_ble_eq_true rfl) (fun o w1 hp => ?_)
      obtain ⟨cs1, hp, hi9⟩ := hp
      obtain ⟨e1, e2⟩ := hp
      subst e1; subst e2
      exact ⟨Or.inr ⟨_, List.Mem.head _, rfl⟩, hI.fix (t2 := t) (is := [0]) hi9 rfl ⟨kd_0.mpr rfl, trivial⟩ (by decide) (by decide) (fun _ _ _ _ h => h) (fun h => h)⟩
set_option maxHeartbeats 4000000 in
theorem Q_Ip_leastCostE {g : zG} {ad : Nat → Nat} {t : zTT} {u : zNN} {w : zW} (hI : IV g ad t u w) (le mo si pp ps pa9 : Int32) (hw : ¬ ((0 ≤ le ∧ le ≤ 450) ∧ (le ≤ mo ∧ mo ≤ 450) ∧ (0 ≤ si ∧ si ≤ 450) ∧ (1 ≤ pp ∧ pp ≤ 1000) ∧ (1 ≤ ps ∧ ps ≤ 1000) ∧ (1 ≤ pa9 ∧ pa9 ≤ 1000))) : zMB g M_Ip_leastCost [.ref (ad 0), .int le, .int mo, .int si, .int pp, .int ps, .int pa9] w (fun o w1 => (o = .inr "java/lang/IllegalArgumentException") ∧ IV g ad t u w1) 1 6 := by
  obtain ⟨e_a, w_a, k_a⟩ := hI.1.2 0 (by decide)
  obtain rfl := kd_0.mp k_a
  obtain ⟨e_re, w_re, k_re⟩ := hI.1.2 49 (by decide)
  obtain rfl := kd_49.mp k_re
  refine ((C_Ip_leastCostE g (ad 0) (ad 1) (ad 5) (ad 18) (ad 31) (ad 32) (ad 36) (ad 42) (ad 45) (ad 47) (ad 49) (ad 50) (ad 51) (t.2.2.2.2 0) (t.2.2.2.2 1) (t.2.2.2.2 2) le mo si pp ps pa9 hw).at (hI.1.I [0, 49] _ rfl (by decide) (by decide) (List.forall_mem_cons.mpr ⟨w_a, (List.forall_mem_cons.mpr ⟨w_re, (fun _ h => nomatch h)⟩)⟩))).mono (Nat.le_of_ble_eq_true rfl) (Nat.le_of_ble_eq_true rfl) (fun o w1 hp => ?_)
  obtain ⟨cs1, hp, hi9⟩ := hp
  obtain ⟨e1, e2⟩ := hp
  subst e1; subst e2
  exact ⟨rfl, hI.fix (t2 := t) (is := [0, 49]) hi9 rfl ⟨kd_0.mpr rfl, kd_49.mpr rfl, trivial⟩ (by decide) (by decide) (fun _ _ _ _ h => h) (fun h => h)⟩
set_option maxHeartbeats 4000000 in
theorem Q_Ip_leastCostN {g : zG} {ad : Nat → Nat} {t : zTT} {u : zNN} {w : zW} (hI : IV g ad t u w) (le mo si pp ps pa9 : Int32) (hw : ((0 ≤ le ∧ le ≤ 450) ∧ (le ≤ mo ∧ mo ≤ 450) ∧ (0 ≤ si ∧ si ≤ 450) ∧ (1 ≤ pp ∧ pp ≤ 1000) ∧ (1 ≤ ps ∧ ps ≤ 1000) ∧ (1 ≤ pa9 ∧ pa9 ≤ 1000))) : zMB g M_Ip_leastCost [.ref (ad 0), .int le, .int mo, .int si, .int pp, .int ps, .int pa9] w (fun o w1 => (o = if (rcO le mo si pp ps pa9 (-1, t.2.2.2.2 0, t.2.2.2.2 1, t.2.2.2.2 2) 11).1 < 0 then .inr "java/util/NoSuchElementException" else .inl (some (.int (rcO le mo si pp ps pa9 (-1, t.2.2.2.2 0, t.2.2.2.2 1, t.2.2.2.2 2) 11).1))) ∧ IV g ad (t.1, t.2.1, t.2.2.1, t.2.2.2.1, fun k => if k = 0 then (rcO le mo si pp ps pa9 (-1, t.2.2.2.2 0, t.2.2.2.2 1, t.2.2.2.2 2) 11).2.1 else if k = 1 then (rcO le mo si pp ps pa9 (-1, t.2.2.2.2 0, t.2.2.2.2 1, t.2.2.2.2 2) 11).2.2.1 else if k = 2 then (rcO le mo si pp ps pa9 (-1, t.2.2.2.2 0, t.2.2.2.2 1, t.2.2.2.2 2) 11).2.2.2 else t.2.2.2.2 k) u w1) 2 12 := by
  obtain ⟨e_a, w_a, k_a⟩ := hI.1.2 0 (by decide)
  obtain rfl := kd_0.mp k_a
  obtain ⟨e_re, w_re, k_re⟩ := hI.1.2 49 (by decide)
  obtain rfl := kd_49.mp k_re
  by_cases hs : (rcO le mo si pp ps pa9 (-1, t.2.2.2.2 0, t.2.2.2.2 1, t.2.2.2.2 2) 11).1 < 0
  · refine ((C_Ip_leastCostF g (ad 0) (ad 1) (ad 5) (ad 18) (ad 31) (ad 32) (ad 36) (ad 42) (ad 45) (ad 47) (ad 49) (ad 50) (ad 51) (t.2.2.2.2 0) (t.2.2.2.2 1) (t.2.2.2.2 2) le mo si pp ps pa9 hw hs).at (hI.1.I [0, 49] _ rfl (by decide) (by decide) (List.forall_mem_cons.mpr ⟨w_a, (List.forall_mem_cons.mpr ⟨w_re, (fun _ h => nomatch h)⟩)⟩))).mono (Nat.le_of_ble_eq_true rfl) (Nat.le_of_ble_eq_true rfl) (fun o w1 hp => ?_)
    obtain ⟨cs1, hp, hi9⟩ := hp
    obtain ⟨e1, e2⟩ := hp
    subst e1; subst e2
    exact ⟨(if_pos hs).symm, hI.fix (t2 := (t.1, t.2.1, t.2.2.1, t.2.2.2.1, fun k => if k = 0 then (rcO le mo si pp ps pa9 (-1, t.2.2.2.2 0, t.2.2.2.2 1, t.2.2.2.2 2) 11).2.1 else if k = 1 then (rcO le mo si pp ps pa9 (-1, t.2.2.2.2 0, t.2.2.2.2 1, t.2.2.2.2 2) 11).2.2.1 else if k = 2 then (rcO le mo si pp ps pa9 (-1, t.2.2.2.2 0, t.2.2.2.2 1, t.2.2.2.2 2) 11).2.2.2 else t.2.2.2.2 k)) (is := [0, 49]) hi9 rfl ⟨kd_0.mpr rfl, kd_49.mpr rfl, trivial⟩ (by decide) (by decide) (fun i e hi hn => KD.cg i e hi (fun _ => rfl) (fun _ => rfl) (fun e => absurd (by rw [e]; decide) hn) (fun _ => ⟨rfl, rfl, rfl⟩) (fun _ => rfl)) (fun h => h)⟩
  · refine ((C_Ip_leastCostN g (ad 0) (ad 1) (ad 5) (ad 18) (ad 31) (ad 32) (ad 36) (ad 42) (ad 45) (ad 47) (ad 49) (ad 50) (ad 51) (t.2.2.2.2 0) (t.2.2.2.2 1) (t.2.2.2.2 2) le mo si pp ps pa9 hw hs).at (hI.1.I [0, 49] _ rfl (by decide) (by decide) (List.forall_mem_cons.mpr ⟨w_a, (List.forall_mem_cons.mpr ⟨w_re, (fun _ h => nomatch h)⟩)⟩))).mono (Nat.le_of_ble_eq_true rfl) (Nat.le_of_ble_eq_true rfl) (fun o w1 hp => ?_)
    obtain ⟨cs1, hp, hi9⟩ := hp
    obtain ⟨e1, e2⟩ := hp
    subst e1; subst e2
    exact ⟨(if_neg hs).symm, hI.fix (t2 := (t.1, t.2.1, t.2.2.1, t.2.2.2.1, fun k => if k = 0 then (rcO le mo si pp ps pa9 (-1, t.2.2.2.2 0, t.2.2.2.2 1, t.2.2.2.2 2) 11).2.1 else if k = 1 then (rcO le mo si pp ps pa9 (-1, t.2.2.2.2 0, t.2.2.2.2 1, t.2.2.2.2 2) 11).2.2.1 else if k = 2 then (rcO le mo si pp ps pa9 (-1, t.2.2.2.2 0, t.2.2.2.2 1, t.2.2.2.2 2) 11).2.2.2 else t.2.2.2.2 k)) (is := [0, 49]) hi9 rfl ⟨kd_0.mpr rfl, kd_49.mpr rfl, trivial⟩ (by decide) (by decide) (fun i e hi hn => KD.cg i e hi (fun _ => rfl) (fun _ => rfl) (fun e => absurd (by rw [e]; decide) hn) (fun _ => ⟨rfl, rfl, rfl⟩) (fun _ => rfl)) (fun h => h)⟩
set_option maxHeartbeats 4000000 in
theorem Q_Ip_cheapestE {g : zG} {ad : Nat → Nat} {t : zTT} {u : zNN} {w : zW} (hI : IV g ad t u w) (w9 : Int32) (hw : z_ix 4 w9 < 0) : zMB g M_Ip_cheapest [.ref (ad 0), .int w9] w (fun o w1 => (o = .inr "java/lang/IllegalArgumentException") ∧ IV g ad t u w1) 1 6 := by
  obtain ⟨e_a, w_a, k_a⟩ := hI.1.2 0 (by decide)
  obtain rfl := kd_0.mp k_a
  obtain ⟨e_re, w_re, k_re⟩ := hI.1.2 49 (by decide)
  obtain rfl := kd_49.mp k_re
  refine ((C_Ip_cheapestE g (ad 0) (ad 1) (ad 5) (ad 18) (ad 31) (ad 32) (ad 36) (ad 42) (ad 45) (ad 47) (ad 49) (ad 50) (ad 51) (t.2.2.2.2 0) (t.2.2.2.2 1) (t.2.2.2.2 2) w9 hw).at (hI.1.I [0, 49] _ rfl (by decide) (by decide) (List.forall_mem_cons.mpr ⟨w_a, (List.forall_mem_cons.mpr ⟨w_re, (fun _ h => nomatch h)⟩)⟩))).mono (Nat.le_of_ble_eq_true rfl) (Nat.le_of_ble_eq_true rfl) (fun o w1 hp => ?_)
  obtain ⟨cs1, hp, hi9⟩ := hp
  obtain ⟨e1, e2⟩ := hp
  subst e1; subst e2
  exact ⟨rfl, hI.fix (t2 := t) (is := [0, 49]) hi9 rfl ⟨kd_0.mpr rfl, kd_49.mpr rfl, trivial⟩ (by decide) (by decide) (fun _ _ _ _ h => h) (fun h => h)⟩
set_option maxHeartbeats 4000000 in
theorem Q_Ip_cheapestF {g : zG} {ad : Nat → Nat} {t : zTT} {u : zNN} {w : zW} (hI : IV g ad t u w) (w9 : Int32) (hw : ¬ z_ix 4 w9 < 0) (hf : t.2.2.2.2 2 = 0) : zMB g M_Ip_cheapest [.ref (ad 0), .int w9] w (fun o w1 => (o = .inr "java/lang/IllegalStateException") ∧ IV g ad t u w1) 1 6 := by
  obtain ⟨e_a, w_a, k_a⟩ := hI.1.2 0 (by decide)
  obtain rfl := kd_0.mp k_a
  obtain ⟨e_re, w_re, k_re⟩ := hI.1.2 49 (by decide)
  obtain rfl := kd_49.mp k_re
  refine ((C_Ip_cheapestF g (ad 0) (ad 1) (ad 5) (ad 18) (ad 31) (ad 32) (ad 36) (ad 42) (ad 45) (ad 47) (ad 49) (ad 50) (ad 51) (t.2.2.2.2 0) (t.2.2.2.2 1) (t.2.2.2.2 2) w9 hw hf).at (hI.1.I [0, 49] _ rfl (by decide) (by decide) (List.forall_mem_cons.mpr ⟨w_a, (List.forall_mem_cons.mpr ⟨w_re, (fun _ h => nomatch h)⟩)⟩))).mono (Nat.le_of_ble_eq_true rfl) (Nat.le_of_ble_eq_true rfl) (fun o w1 hp => ?_)
  obtain ⟨cs1, hp, hi9⟩ := hp
  obtain ⟨e1, e2⟩ := hp
  subst e1; subst e2
  exact ⟨rfl, hI.fix (t2 := t) (is := [0, 49]) hi9 rfl ⟨kd_0.mpr rfl, kd_49.mpr rfl, trivial⟩ (by decide) (by decide) (fun _ _ _ _ h => h) (fun h => h)⟩
set_option maxHeartbeats 4000000 in
theorem Q_Ip_cheapest112 {g : zG} {ad : Nat → Nat} {t : zTT} {u : zNN} {w : zW} (hI : IV g ad t u w) (hf : ¬ t.2.2.2.2 2 = 0) : zMB g M_Ip_cheapest [.ref (ad 0), .int 112] w (fun o w1 => (o = .inl (some (.int (t.2.2.2.2 0)))) ∧ IV g ad t u w1) 1 6 := by
  obtain ⟨e_a, w_a, k_a⟩ := hI.1.2 0 (by decide)
  obtain rfl := kd_0.mp k_a
  obtain ⟨e_re, w_re, k_re⟩ := hI.1.2 49 (by decide)
  obtain rfl := kd_49.mp k_re
  refine ((C_Ip_cheapest112 g (ad 0) (ad 1) (ad 5) (ad 18) (ad 31) (ad 32) (ad 36) (ad 42) (ad 45) (ad 47) (ad 49) (ad 50) (ad 51) (t.2.2.2.2 0) (t.2.2.2.2 1) (t.2.2.2.2 2) hf).at (hI.1.I [0, 49] _ rfl (by decide) (by decide) (List.forall_mem_cons.mpr ⟨w_a, (List.forall_mem_cons.mpr ⟨w_re, (fun _ h => nomatch h)⟩)⟩))).mono (Nat.le_of_ble_eq_true rfl) (Nat.le_of_ble_eq_true rfl) (fun o w1 hp => ?_)
  obtain ⟨cs1, hp, hi9⟩ := hp
  obtain ⟨e1, e2⟩ := hp
  subst e1; subst e2
  exact ⟨rfl, hI.fix (t2 := t) (is := [0, 49]) hi9 rfl ⟨kd_0.mpr rfl, kd_49.mpr rfl, trivial⟩ (by decide) (by decide) (fun _ _ _ _ h => h) (fun h => h)⟩
set_option maxHeartbeats 4000000 in
theorem Q_Ip_cheapest115 {g : zG} {ad : Nat → Nat} {t : zTT} {u : zNN} {w : zW} (hI : IV g ad t u w) (hf : ¬ t.2.2.2.2 2 = 0) : zMB g M_Ip_cheapest [.ref (ad 0), .int 115] w (fun o w1 => (o = .inl (some (.int (S_Re_scrapParts (ad 49) (t.2.2.2.2 0) (t.2.2.2.2 1) (t.2.2.2.2 2))))) ∧ IV g ad t u w1) 1 6 := by
  obtain ⟨e_a, w_a, k_a⟩ := hI.1.2 0 (by decide)
  obtain rfl := kd_0.mp k_a
  obtain ⟨e_re, w_re, k_re⟩ := hI.1.2 49 (by decide)
  obtain rfl := kd_49.mp k_re
  refine ((C_Ip_cheapest115 g (ad 0) (ad 1) (ad 5) (ad 18) (ad 31) (ad 32) (ad 36) (ad 42) (ad 45) (ad 47) (ad 49) (ad 50) (ad 51) (t.2.2.2.2 0) (t.2.2.2.2 1) (t.2.2.2.2 2) hf).at (hI.1.I [0, 49] _ rfl (by decide) (by decide) (List.forall_mem_cons.mpr ⟨w_a, (List.forall_mem_cons.mpr ⟨w_re, (fun _ h => nomatch h)⟩)⟩))).mono (Nat.le_of_ble_eq_true rfl) (Nat.le_of_ble_eq_true rfl) (fun o w1 hp => ?_)
  obtain ⟨cs1, hp, hi9⟩ := hp
  obtain ⟨e1, e2⟩ := hp
  subst e1; subst e2
  exact ⟨rfl, hI.fix (t2 := t) (is := [0, 49]) hi9 rfl ⟨kd_0.mpr rfl, kd_49.mpr rfl, trivial⟩ (by decide) (by decide) (fun _ _ _ _ h => h) (fun h => h)⟩
set_option maxHeartbeats 4000000 in
theorem Q_Ip_cheapest102 {g : zG} {ad : Nat → Nat} {t : zTT} {u : zNN} {w : zW} (hI : IV g ad t u w) (hf : ¬ t.2.2.2.2 2 = 0) : zMB g M_Ip_cheapest [.ref (ad 0), .int 102] w (fun o w1 => (o = .inl (some (.int (t.2.2.2.2 1)))) ∧ IV g ad t u w1) 1 6 := by
  obtain ⟨e_a, w_a, k_a⟩ := hI.1.2 0 (by decide)
  obtain rfl := kd_0.mp k_a
  obtain ⟨e_re, w_re, k_re⟩ := hI.1.2 49 (by decide)
  obtain rfl := kd_49.mp k_re
  refine ((C_Ip_cheapest102 g (ad 0) (ad 1) (ad 5) (ad 18) (ad 31) (ad 32) (ad 36) (ad 42) (ad 45) (ad 47) (ad 49) (ad 50) (ad 51) (t.2.2.2.2 0) (t.2.2.2.2 1) (t.2.2.2.2 2) hf).at (hI.1.I [0, 49] _ rfl (by decide) (by decide) (List.forall_mem_cons.mpr ⟨w_a, (List.forall_mem_cons.mpr ⟨w_re, (fun _ h => nomatch h)⟩)⟩))).mono (Nat.le_of_ble_eq_true rfl) (Nat.le_of_ble_eq_true rfl) (fun o w1 hp => ?_)
  obtain ⟨cs1, hp, hi9⟩ := hp
  obtain ⟨e1, e2⟩ := hp
  subst e1; subst e2
  exact ⟨rfl, hI.fix (t2 := t) (is := [0, 49]) hi9 rfl ⟨kd_0.mpr rfl, kd_49.mpr rfl, trivial⟩ (by decide) (by decide) (fun _ _ _ _ h => h) (fun h => h)⟩
