set_option maxHeartbeats 4000000 in
theorem Qx_Ip_drawN {g : zG} {ad : Nat → Nat} {t : zTT} {u : zNN} {w : zW} (hI : IV g ad t u w) (kd : Int32) (hk : z_kind kd) (hki : 0 ≤ z_ix 0 kd) (x : Nat) (y : Nat) (u8 : Nat) (v8 : Nat) (hx : x + u8 ≤ 12) (hy : y + v8 ≤ 9) (hu : 1 ≤ u8) (hv : 1 ≤ v8) (hz : ¬ (prect kd x y u8 (((t.1 2).1), 0) v8).2 = 0) : zMB g M_Ip_draw [.ref (ad 0), .int kd, .int (nI x), .int (nI y), .int (nI u8), .int (nI v8)] w (fun o w1 => o = .inl (some (.int (nI (prect kd x y u8 (((t.1 2).1), 0) v8).2))) ∧ IV g ad (zup t.1 [(2, ((prect kd x y u8 (((t.1 2).1), 0) v8).1, (t.1 2).2)), (5, ((upd (upd ((t.1 5).1) 0 ((tkT (prect kd x y u8 (((t.1 2).1), 0) v8).1 ((((t.1 6).1), ((t.1 7).1), (t.1 5).1 0, (t.1 5).1 1), (((((t.1 9).1), ((t.1 11).1), ((t.1 12).1), (t.1 8).1 0), ((t.1 10).1)), ((t.1 13).1), ((t.1 14).1)), (((t.1 15).1), ((t.1 16).1), ((t.1 17).2.2)))).1.2.2.1)) 1 ((tkT (prect kd x y u8 (((t.1 2).1), 0) v8).1 ((((t.1 6).1), ((t.1 7).1), (t.1 5).1 0, (t.1 5).1 1), (((((t.1 9).1), ((t.1 11).1), ((t.1 12).1), (t.1 8).1 0), ((t.1 10).1)), ((t.1 13).1), ((t.1 14).1)), (((t.1 15).1), ((t.1 16).1), ((t.1 17).2.2)))).1.2.2.2)), (t.1 5).2.1, (t.1 5).2.2)), (6, ((tkT (prect kd x y u8 (((t.1 2).1), 0) v8).1 ((((t.1 6).1), ((t.1 7).1), (t.1 5).1 0, (t.1 5).1 1), (((((t.1 9).1), ((t.1 11).1), ((t.1 12).1), (t.1 8).1 0), ((t.1 10).1)), ((t.1 13).1), ((t.1 14).1)), (((t.1 15).1), ((t.1 16).1), ((t.1 17).2.2)))).1.1, (t.1 6).2)), (7, ((tkT (prect kd x y u8 (((t.1 2).1), 0) v8).1 ((((t.1 6).1), ((t.1 7).1), (t.1 5).1 0, (t.1 5).1 1), (((((t.1 9).1), ((t.1 11).1), ((t.1 12).1), (t.1 8).1 0), ((t.1 10).1)), ((t.1 13).1), ((t.1 14).1)), (((t.1 15).1), ((t.1 16).1), ((t.1 17).2.2)))).1.2.1, (t.1 7).2)), (8, ((upd ((t.1 8).1) 0 ((tkT (prect kd x y u8 (((t.1 2).1), 0) v8).1 ((((t.1 6).1), ((t.1 7).1), (t.1 5).1 0, (t.1 5).1 1), (((((t.1 9).1), ((t.1 11).1), ((t.1 12).1), (t.1 8).1 0), ((t.1 10).1)), ((t.1 13).1), ((t.1 14).1)), (((t.1 15).1), ((t.1 16).1), ((t.1 17).2.2)))).2.1.1.1.2.2.2)), (t.1 8).2.1, (t.1 8).2.2)), (9, ((tkT (prect kd x y u8 (((t.1 2).1), 0) v8).1 ((((t.1 6).1), ((t.1 7).1), (t.1 5).1 0, (t.1 5).1 1), (((((t.1 9).1), ((t.1 11).1), ((t.1 12).1), (t.1 8).1 0), ((t.1 10).1)), ((t.1 13).1), ((t.1 14).1)), (((t.1 15).1), ((t.1 16).1), ((t.1 17).2.2)))).2.1.1.1.1, (t.1 9).2)), (10, ((tkT (prect kd x y u8 (((t.1 2).1), 0) v8).1 ((((t.1 6).1), ((t.1 7).1), (t.1 5).1 0, (t.1 5).1 1), (((((t.1 9).1), ((t.1 11).1), ((t.1 12).1), (t.1 8).1 0), ((t.1 10).1)), ((t.1 13).1), ((t.1 14).1)), (((t.1 15).1), ((t.1 16).1), ((t.1 17).2.2)))).2.1.1.2, (t.1 10).2)), (11, ((tkT (prect kd x y u8 (((t.1 2).1), 0) v8).1 ((((t.1 6).1), ((t.1 7).1), (t.1 5).1 0, (t.1 5).1 1), (((((t.1 9).1), ((t.1 11).1), ((t.1 12).1), (t.1 8).1 0), ((t.1 10).1)), ((t.1 13).1), ((t.1 14).1)), (((t.1 15).1), ((t.1 16).1), ((t.1 17).2.2)))).2.1.1.1.2.1, (t.1 11).2)), (12, ((tkT (prect kd x y u8 (((t.1 2).1), 0) v8).1 ((((t.1 6).1), ((t.1 7).1), (t.1 5).1 0, (t.1 5).1 1), (((((t.1 9).1), ((t.1 11).1), ((t.1 12).1), (t.1 8).1 0), ((t.1 10).1)), ((t.1 13).1), ((t.1 14).1)), (((t.1 15).1), ((t.1 16).1), ((t.1 17).2.2)))).2.1.1.1.2.2.1, (t.1 12).2)), (13, ((tkT (prect kd x y u8 (((t.1 2).1), 0) v8).1 ((((t.1 6).1), ((t.1 7).1), (t.1 5).1 0, (t.1 5).1 1), (((((t.1 9).1), ((t.1 11).1), ((t.1 12).1), (t.1 8).1 0), ((t.1 10).1)), ((t.1 13).1), ((t.1 14).1)), (((t.1 15).1), ((t.1 16).1), ((t.1 17).2.2)))).2.1.2.1, (t.1 13).2)), (14, ((tkT (prect kd x y u8 (((t.1 2).1), 0) v8).1 ((((t.1 6).1), ((t.1 7).1), (t.1 5).1 0, (t.1 5).1 1), (((((t.1 9).1), ((t.1 11).1), ((t.1 12).1), (t.1 8).1 0), ((t.1 10).1)), ((t.1 13).1), ((t.1 14).1)), (((t.1 15).1), ((t.1 16).1), ((t.1 17).2.2)))).2.1.2.2, (t.1 14).2)), (15, ((tkT (prect kd x y u8 (((t.1 2).1), 0) v8).1 ((((t.1 6).1), ((t.1 7).1), (t.1 5).1 0, (t.1 5).1 1), (((((t.1 9).1), ((t.1 11).1), ((t.1 12).1), (t.1 8).1 0), ((t.1 10).1)), ((t.1 13).1), ((t.1 14).1)), (((t.1 15).1), ((t.1 16).1), ((t.1 17).2.2)))).2.2.1, (t.1 15).2)), (16, ((tkT (prect kd x y u8 (((t.1 2).1), 0) v8).1 ((((t.1 6).1), ((t.1 7).1), (t.1 5).1 0, (t.1 5).1 1), (((((t.1 9).1), ((t.1 11).1), ((t.1 12).1), (t.1 8).1 0), ((t.1 10).1)), ((t.1 13).1), ((t.1 14).1)), (((t.1 15).1), ((t.1 16).1), ((t.1 17).2.2)))).2.2.2.1, (t.1 16).2)), (17, ((t.1 17).1, (t.1 17).2.1, (tkT (prect kd x y u8 (((t.1 2).1), 0) v8).1 ((((t.1 6).1), ((t.1 7).1), (t.1 5).1 0, (t.1 5).1 1), (((((t.1 9).1), ((t.1 11).1), ((t.1 12).1), (t.1 8).1 0), ((t.1 10).1)), ((t.1 13).1), ((t.1 14).1)), (((t.1 15).1), ((t.1 16).1), ((t.1 17).2.2)))).2.2.2.2))], t.2) u w1) 1 6 := by
  obtain ⟨e_a, w_a, k_a⟩ := hI.1.2 0 (by decide)
  obtain rfl := kd_0.mp k_a
  obtain ⟨e_pa, w_pa, k_pa⟩ := hI.1.2 1 (by decide)
  obtain rfl := kd_1.mp k_pa
  obtain ⟨e_pa1, w_pa1, k_pa1⟩ := hI.1.2 2 (by decide)
  obtain rfl := kd_2.mp k_pa1
  obtain ⟨e_pa2, w_pa2, k_pa2⟩ := hI.1.2 3 (by decide)
  obtain ⟨v_pa2_f, rfl⟩ := kd_3.mp k_pa2
  obtain ⟨e_pa3, w_pa3, k_pa3⟩ := hI.1.2 4 (by decide)
  obtain ⟨v_pa3_h, rfl⟩ := kd_4.mp k_pa3
  obtain ⟨e_ta, w_ta, k_ta⟩ := hI.1.2 5 (by decide)
  obtain rfl := kd_5.mp k_ta
  obtain ⟨e_ta1, w_ta1, k_ta1⟩ := hI.1.2 6 (by decide)
  obtain rfl := kd_6.mp k_ta1
  obtain ⟨e_ta2, w_ta2, k_ta2⟩ := hI.1.2 7 (by decide)
  obtain rfl := kd_7.mp k_ta2
  obtain ⟨e_taz, w_taz, k_taz⟩ := hI.1.2 8 (by decide)
  obtain rfl := kd_8.mp k_taz
  obtain ⟨e_taz1, w_taz1, k_taz1⟩ := hI.1.2 9 (by decide)
  obtain rfl := kd_9.mp k_taz1
  obtain ⟨e_taz2, w_taz2, k_taz2⟩ := hI.1.2 10 (by decide)
  obtain rfl := kd_10.mp k_taz2
  obtain ⟨e_taz3, w_taz3, k_taz3⟩ := hI.1.2 11 (by decide)
  obtain rfl := kd_11.mp k_taz3
  obtain ⟨e_taz4, w_taz4, k_taz4⟩ := hI.1.2 12 (by decide)
  obtain rfl := kd_12.mp k_taz4
  obtain ⟨e_taz5, w_taz5, k_taz5⟩ := hI.1.2 13 (by decide)
  obtain rfl := kd_13.mp k_taz5
  obtain ⟨e_taz6, w_taz6, k_taz6⟩ := hI.1.2 14 (by decide)
  obtain rfl := kd_14.mp k_taz6
  obtain ⟨e_ta4, w_ta4, k_ta4⟩ := hI.1.2 15 (by decide)
  obtain ⟨c_ta4_0, rfl⟩ := kd_15.mp k_ta4
  obtain ⟨e_ta5, w_ta5, k_ta5⟩ := hI.1.2 16 (by decide)
  obtain rfl := kd_16.mp k_ta5
  obtain ⟨e_ta6, w_ta6, k_ta6⟩ := hI.1.2 17 (by decide)
  obtain rfl := kd_17.mp k_ta6
  refine ((C_Ip_drawN g (ad 0) (ad 1) (ad 5) (ad 18) (ad 31) (ad 32) (ad 36) (ad 42) (ad 45) (ad 47) (ad 49) (ad 50) (ad 51) (ad 2) (ad 3) (ad 4) ((t.1 2).1) v_pa2_f v_pa3_h ((t.1 1).2.2 0) (ad 6) (ad 7) (ad 8) (ad 9) (ad 10) (ad 11) (ad 12) (ad 13) (ad 14) (ad 15) (ad 16) (ad 17) ((((t.1 6).1), ((t.1 7).1), (t.1 5).1 0, (t.1 5).1 1), (((((t.1 9).1), ((t.1 11).1), ((t.1 12).1), (t.1 8).1 0), ((t.1 10).1)), ((t.1 13).1), ((t.1 14).1)), (((t.1 15).1), ((t.1 16).1), ((t.1 17).2.2))) kd hk hki x y u8 v8 hx hy hu hv hz (prect_ch hk hI.2.2.1 v8)).at (hI.1.I [0, 1, 2, 3, 4, 5, 6, 7, 8, 9, 10, 11, 12, 13, 14, 15, 16, 17] _ rfl (by decide) (by decide) (List.forall_mem_cons.mpr ⟨w_a, (List.forall_mem_cons.mpr ⟨w_pa, (List.forall_mem_cons.mpr ⟨w_pa1, (List.forall_mem_cons.mpr ⟨w_pa2, (List.forall_mem_cons.mpr ⟨w_pa3, (List.forall_mem_cons.mpr ⟨w_ta, (List.forall_mem_cons.mpr ⟨w_ta1, (List.forall_mem_cons.mpr ⟨w_ta2, (List.forall_mem_cons.mpr ⟨w_taz, (List.forall_mem_cons.mpr ⟨w_taz1, (List.forall_mem_cons.mpr ⟨w_taz2, (List.forall_mem_cons.mpr ⟨w_taz3, (List.forall_mem_cons.mpr ⟨w_taz4, (List.forall_mem_cons.mpr ⟨w_taz5, (List.forall_mem_cons.mpr ⟨w_taz6, (List.forall_mem_cons.mpr ⟨w_ta4, (List.forall_mem_cons.mpr ⟨w_ta5, (List.forall_mem_cons.mpr ⟨w_ta6, (fun _ h => nomatch h)⟩)⟩)⟩)⟩)⟩)⟩)⟩)⟩)⟩)⟩)⟩)⟩)⟩)⟩)⟩)⟩)⟩)⟩))).mono (Nat.le_of_ble_eq_true rfl) (Nat.le_of_ble_eq_true rfl) (fun o w1 hp => ?_)
  obtain ⟨cs1, hp, hi9⟩ := hp
  obtain ⟨e1, e2⟩ := hp
  subst e1; subst e2
  exact ⟨rfl, hI.fix (t2 := (zup t.1 [(2, ((prect kd x y u8 (((t.1 2).1), 0) v8).1, (t.1 2).2)), (5, ((upd (upd ((t.1 5).1) 0 ((tkT (prect kd x y u8 (((t.1 2).1), 0) v8).1 ((((t.1 6).1), ((t.1 7).1), (t.1 5).1 0, (t.1 5).1 1), (((((t.1 9).1), ((t.1 11).1), ((t.1 12).1), (t.1 8).1 0), ((t.1 10).1)), ((t.1 13).1), ((t.1 14).1)), (((t.1 15).1), ((t.1 16).1), ((t.1 17).2.2)))).1.2.2.1)) 1 ((tkT (prect kd x y u8 (((t.1 2).1), 0) v8).1 ((((t.1 6).1), ((t.1 7).1), (t.1 5).1 0, (t.1 5).1 1), (((((t.1 9).1), ((t.1 11).1), ((t.1 12).1), (t.1 8).1 0), ((t.1 10).1)), ((t.1 13).1), ((t.1 14).1)), (((t.1 15).1), ((t.1 16).1), ((t.1 17).2.2)))).1.2.2.2)), (t.1 5).2.1, (t.1 5).2.2)), (6, ((tkT (prect kd x y u8 (((t.1 2).1), 0) v8).1 ((((t.1 6).1), ((t.1 7).1), (t.1 5).1 0, (t.1 5).1 1), (((((t.1 9).1), ((t.1 11).1), ((t.1 12).1), (t.1 8).1 0), ((t.1 10).1)), ((t.1 13).1), ((t.1 14).1)), (((t.1 15).1), ((t.1 16).1), ((t.1 17).2.2)))).1.1, (t.1 6).2)), (7, ((tkT (prect kd x y u8 (((t.1 2).1), 0) v8).1 ((((t.1 6).1), ((t.1 7).1), (t.1 5).1 0, (t.1 5).1 1), (((((t.1 9).1), ((t.1 11).1), ((t.1 12).1), (t.1 8).1 0), ((t.1 10).1)), ((t.1 13).1), ((t.1 14).1)), (((t.1 15).1), ((t.1 16).1), ((t.1 17).2.2)))).1.2.1, (t.1 7).2)), (8, ((upd ((t.1 8).1) 0 ((tkT (prect kd x y u8 (((t.1 2).1), 0) v8).1 ((((t.1 6).1), ((t.1 7).1), (t.1 5).1 0, (t.1 5).1 1), (((((t.1 9).1), ((t.1 11).1), ((t.1 12).1), (t.1 8).1 0), ((t.1 10).1)), ((t.1 13).1), ((t.1 14).1)), (((t.1 15).1), ((t.1 16).1), ((t.1 17).2.2)))).2.1.1.1.2.2.2)), (t.1 8).2.1, (t.1 8).2.2)), (9, ((tkT (prect kd x y u8 (((t.1 2).1), 0) v8).1 ((((t.1 6).1), ((t.1 7).1), (t.1 5).1 0, (t.1 5).1 1), (((((t.1 9).1), ((t.1 11).1), ((t.1 12).1), (t.1 8).1 0), ((t.1 10).1)), ((t.1 13).1), ((t.1 14).1)), (((t.1 15).1), ((t.1 16).1), ((t.1 17).2.2)))).2.1.1.1.1, (t.1 9).2)), (10, ((tkT (prect kd x y u8 (((t.1 2).1), 0) v8).1 ((((t.1 6).1), ((t.1 7).1), (t.1 5).1 0, (t.1 5).1 1), (((((t.1 9).1), ((t.1 11).1), ((t.1 12).1), (t.1 8).1 0), ((t.1 10).1)), ((t.1 13).1), ((t.1 14).1)), (((t.1 15).1), ((t.1 16).1), ((t.1 17).2.2)))).2.1.1.2, (t.1 10).2)), (11, ((tkT (prect kd x y u8 (((t.1 2).1), 0) v8).1 ((((t.1 6).1), ((t.1 7).1), (t.1 5).1 0, (t.1 5).1 1), (((((t.1 9).1), ((t.1 11).1), ((t.1 12).1), (t.1 8).1 0), ((t.1 10).1)), ((t.1 13).1), ((t.1 14).1)), (((t.1 15).1), ((t.1 16).1), ((t.1 17).2.2)))).2.1.1.1.2.1, (t.1 11).2)), (12, ((tkT (prect kd x y u8 (((t.1 2).1), 0) v8).1 ((((t.1 6).1), ((t.1 7).1), (t.1 5).1 0, (t.1 5).1 1), (((((t.1 9).1), ((t.1 11).1), ((t.1 12).1), (t.1 8).1 0), ((t.1 10).1)), ((t.1 13).1), ((t.1 14).1)), (((t.1 15).1), ((t.1 16).1), ((t.1 17).2.2)))).2.1.1.1.2.2.1, (t.1 12).2)), (13, ((tkT (prect kd x y u8 (((t.1 2).1), 0) v8).1 ((((t.1 6).1), ((t.1 7).1), (t.1 5).1 0, (t.1 5).1 1), (((((t.1 9).1), ((t.1 11).1), ((t.1 12).1), (t.1 8).1 0), ((t.1 10).1)), ((t.1 13).1), ((t.1 14).1)), (((t.1 15).1), ((t.1 16).1), ((t.1 17).2.2)))).2.1.2.1, (t.1 13).2)), (14, ((tkT (prect kd x y u8 (((t.1 2).1), 0) v8).1 ((((t.1 6).1), ((t.1 7).1), (t.1 5).1 0, (t.1 5).1 1), (((((t.1 9).1), ((t.1 11).1), ((t.1 12).1), (t.1 8).1 0), ((t.1 10).1)), ((t.1 13).1), ((t.1 14).1)), (((t.1 15).1), ((t.1 16).1), ((t.1 17).2.2)))).2.1.2.2, (t.1 14).2)), (15, ((tkT (prect kd x y u8 (((t.1 2).1), 0) v8).1 ((((t.1 6).1), ((t.1 7).1), (t.1 5).1 0, (t.1 5).1 1), (((((t.1 9).1), ((t.1 11).1), ((t.1 12).1), (t.1 8).1 0), ((t.1 10).1)), ((t.1 13).1), ((t.1 14).1)), (((t.1 15).1), ((t.1 16).1), ((t.1 17).2.2)))).2.2.1, (t.1 15).2)), (16, ((tkT (prect kd x y u8 (((t.1 2).1), 0) v8).1 ((((t.1 6).1), ((t.1 7).1), (t.1 5).1 0, (t.1 5).1 1), (((((t.1 9).1), ((t.1 11).1), ((t.1 12).1), (t.1 8).1 0), ((t.1 10).1)), ((t.1 13).1), ((t.1 14).1)), (((t.1 15).1), ((t.1 16).1), ((t.1 17).2.2)))).2.2.2.1, (t.1 16).2)), (17, ((t.1 17).1, (t.1 17).2.1, (tkT (prect kd x y u8 (((t.1 2).1), 0) v8).1 ((((t.1 6).1), ((t.1 7).1), (t.1 5).1 0, (t.1 5).1 1), (((((t.1 9).1), ((t.1 11).1), ((t.1 12).1), (t.1 8).1 0), ((t.1 10).1)), ((t.1 13).1), ((t.1 14).1)), (((t.1 15).1), ((t.1 16).1), ((t.1 17).2.2)))).2.2.2.2))], t.2)) (is := [0, 1, 2, 3, 4, 5, 6, 7, 8, 9, 10, 11, 12, 13, 14, 15, 16, 17]) hi9 rfl ⟨kd_0.mpr rfl, kd_1.mpr rfl, kd_2.mpr rfl, kd_3.mpr ⟨_, rfl⟩, kd_4.mpr ⟨_, rfl⟩, kd_5.mpr rfl, kd_6.mpr rfl, kd_7.mpr rfl, kd_8.mpr rfl, kd_9.mpr rfl, kd_10.mpr rfl, kd_11.mpr rfl, kd_12.mpr rfl, kd_13.mpr rfl, kd_14.mpr rfl, kd_15.mpr ⟨c_ta4_0, rfl⟩, kd_16.mpr rfl, kd_17.mpr rfl, trivial⟩ (by decide) (by decide) (fun i hi hn => zup_out (fun q => hn ((by decide : ∀ j ∈ ([2, 5, 6, 7, 8, 9, 10, 11, 12, 13, 14, 15, 16, 17] : List Nat), j ∈ ([0, 1, 2, 3, 4, 5, 6, 7, 8, 9, 10, 11, 12, 13, 14, 15, 16, 17] : List Nat)) i q))) (fun h => ⟨prect_ch hk h.1 v8, h.2⟩) rfl⟩
set_option maxHeartbeats 4000000 in
theorem Qx_Ip_drawE {g : zG} {ad : Nat → Nat} {t : zTT} {u : zNN} {w : zW} (hI : IV g ad t u w) (k : Int32) (x : Int32) (y : Int32) (w8 : Int32) (v8 : Int32) (hd : ¬ (0 ≤ z_ix 0 k ∧ (0 ≤ x ∧ x < 12 ∧ 0 ≤ y ∧ y < 9) ∧ 1 ≤ w8 ∧ w8 ≤ 12 - x ∧ 1 ≤ v8 ∧ v8 ≤ 9 - y)) : zMB g M_Ip_draw [.ref (ad 0), .int k, .int x, .int y, .int w8, .int v8] w (fun o w1 => o = .inr "java/lang/IllegalArgumentException" ∧ IV g ad t u w1) 1 6 := by
  obtain ⟨e_a, w_a, k_a⟩ := hI.1.2 0 (by decide)
  obtain rfl := kd_0.mp k_a
  obtain ⟨e_pa, w_pa, k_pa⟩ := hI.1.2 1 (by decide)
  obtain rfl := kd_1.mp k_pa
  obtain ⟨e_pa1, w_pa1, k_pa1⟩ := hI.1.2 2 (by decide)
  obtain rfl := kd_2.mp k_pa1
  obtain ⟨e_pa2, w_pa2, k_pa2⟩ := hI.1.2 3 (by decide)
  obtain ⟨v_pa2_f, rfl⟩ := kd_3.mp k_pa2
  obtain ⟨e_pa3, w_pa3, k_pa3⟩ := hI.1.2 4 (by decide)
  obtain ⟨v_pa3_h, rfl⟩ := kd_4.mp k_pa3
  refine ((C_Ip_drawE g (ad 0) (ad 1) (ad 5) (ad 18) (ad 31) (ad 32) (ad 36) (ad 42) (ad 45) (ad 47) (ad 49) (ad 50) (ad 51) (ad 2) (ad 3) (ad 4) ((t.1 2).1) v_pa2_f v_pa3_h ((t.1 1).2.2 0) k x y w8 v8 hd).at (hI.1.I [0, 1, 2, 3, 4] _ rfl (by decide) (by decide) (List.forall_mem_cons.mpr ⟨w_a, (List.forall_mem_cons.mpr ⟨w_pa, (List.forall_mem_cons.mpr ⟨w_pa1, (List.forall_mem_cons.mpr ⟨w_pa2, (List.forall_mem_cons.mpr ⟨w_pa3, (fun _ h => nomatch h)⟩)⟩)⟩)⟩)⟩))).mono (Nat.le_of_ble_eq_true rfl) (Nat.le_of_ble_eq_true rfl) (fun o w1 hp => ?_)
  obtain ⟨cs1, hp, hi9⟩ := hp
  obtain ⟨e1, e2⟩ := hp
  subst e1; subst e2
  exact ⟨rfl, hI.fix (t2 := t) (is := [0, 1, 2, 3, 4]) hi9 rfl ⟨kd_0.mpr rfl, kd_1.mpr rfl, kd_2.mpr rfl, kd_3.mpr ⟨_, rfl⟩, kd_4.mpr ⟨_, rfl⟩, trivial⟩ (by decide) (by decide) (fun _ _ _ => rfl) (fun h => h) rfl⟩
noncomputable def tK_Ip_draw (k x y p q : Int32) (t : zTT) : zTT := (if 0 ≤ z_ix 0 k ∧ (0 ≤ x ∧ x < 12 ∧ 0 ≤ y ∧ y < 9) ∧ 1 ≤ p ∧ p ≤ 12 - x ∧ 1 ≤ q ∧ q ≤ 9 - y then (zup t.1 [(2, ((prect k x.toNatClampNeg y.toNatClampNeg p.toNatClampNeg (((t.1 2).1), 0) q.toNatClampNeg).1, (t.1 2).2))], t.2) else t)
theorem K_Ip_draw {g : zG} {ad : Nat → Nat} {t : zTT} {u : zNN} {w : zW} (hI : IVm g ad t u w) (k x y p q : Int32) : zMB g M_Ip_draw [.ref (ad 0), .int k, .int x, .int y, .int p, .int q] w (CKx g ad (tK_Ip_draw k x y p q t) u.1 ["java/lang/IllegalArgumentException"]) 10 300 := by
  obtain ⟨s, hI⟩ := hI
  by_cases hd : 0 ≤ z_ix 0 k ∧ (0 ≤ x ∧ x < 12 ∧ 0 ≤ y ∧ y < 9) ∧ 1 ≤ p ∧ p ≤ 12 - x ∧ 1 ≤ q ∧ q ≤ 9 - y
  · obtain ⟨a9, b9, c9, d9, h1, h2, -, -, rfl, rfl, rfl, rfl, hk, -⟩ := z_dr_in hd
    have hp : 1 ≤ c9 := z_1n hd.2.2.1 (by omega)
    have hq : 1 ≤ d9 := z_1n hd.2.2.2.2.1 (by omega)
    by_cases hz : (prect k a9 b9 c9 ((t.1 2).1, 0) d9).2 = 0
    · have eT : (tK_Ip_draw k (nI a9) (nI b9) (nI c9) (nI d9) t) = (zup t.1 [(2, ((prect k a9 b9 c9 (((t.1 2).1), 0) d9).1, (t.1 2).2))], t.2) := by unfold tK_Ip_draw; rw [if_pos hd, nI_clamp (by omega), nI_clamp (by omega), nI_clamp (by omega), nI_clamp (by omega)]
      rw [eT]
      exact (Qx_Ip_drawZ hI k hk hd.1 a9 b9 c9 d9 h1 h2 hp hq hz).mono (by decide) (by decide) (fun o w1 h => ⟨zri.vl h.1, u, rfl, IVm.zt h.2 (tx_all rfl)⟩)
    · have eT : (tK_Ip_draw k (nI a9) (nI b9) (nI c9) (nI d9) t) = (zup t.1 [(2, ((prect k a9 b9 c9 (((t.1 2).1), 0) d9).1, (t.1 2).2))], t.2) := by unfold tK_Ip_draw; rw [if_pos hd, nI_clamp (by omega), nI_clamp (by omega), nI_clamp (by omega), nI_clamp (by omega)]
      rw [eT]
      exact (Qx_Ip_drawN hI k hk hd.1 a9 b9 c9 d9 h1 h2 hp hq hz).mono (by decide) (by decide) (fun o w1 h => ⟨zri.vl h.1, u, rfl, IVm.zt h.2 (tx_all rfl)⟩)
  · have eT : (tK_Ip_draw k x y p q t) = t := by unfold tK_Ip_draw; rw [if_neg hd]
    rw [eT]
    exact (Qx_Ip_drawE hI k x y p q hd).mono (by decide) (by decide) (fun o w1 h => ⟨zri.th h.1 (by simp), u, rfl, ⟨_, h.2⟩⟩)
set_option maxHeartbeats 4000000 in
theorem Qx_Mm_drawN {g : zG} {ad : Nat → Nat} {t : zTT} {u : zNN} {w : zW} (hI : IV g ad t u w) (kd : Int32) (hk : z_kind kd) (hki : 0 ≤ z_ix 0 kd) (x : Nat) (y : Nat) (u8 : Nat) (v8 : Nat) (hx : x + u8 ≤ 12) (hy : y + v8 ≤ 9) (hu : 1 ≤ u8) (hv : 1 ≤ v8) : zMB g M_Mm_draw [.ref (ad 52), .int kd, .int (nI x), .int (nI y), .int (nI u8), .int (nI v8)] w (fun o w1 => o = .inl (some (.int (nI (prect kd x y u8 (((t.1 53).1), 0) v8).2))) ∧ IV g ad (zup t.1 [(53, ((prect kd x y u8 (((t.1 53).1), 0) v8).1, (t.1 53).2))], t.2) u w1) 0 0 := by
  obtain ⟨e_m, w_m, k_m⟩ := hI.1.2 52 (by decide)
  obtain ⟨v_m_th, rfl⟩ := kd_52.mp k_m
  obtain ⟨e_mp, w_mp, k_mp⟩ := hI.1.2 53 (by decide)
  obtain rfl := kd_53.mp k_mp
  refine ((C_Mm_drawN g (ad 52) (ad 53) (ad 54) (ad 55) (ad 56) (ad 57) (ad 58) (ad 59) (ad 60) (ad 61) (ad 62) (ad 63) (ad 64) (ad 65) (ad 66) (ad 67) (ad 68) v_m_th (nI ((t.1 52).2.2 0)) ((t.1 52).1 0) ((t.1 52).1 1) ((t.1 52).1 2) ((t.1 52).1 3) ((t.1 52).1 4) ((t.1 52).1 5) ((t.1 52).1 6) ((t.1 52).1 7) ((t.1 52).1 8) ((t.1 52).1 9) ((t.1 52).1 10) ((t.1 52).2.1 0) ((t.1 52).2.1 1) ((t.1 53).1) kd hk hki x y u8 v8 hx hy hu hv).at (hI.1.I [52, 53] _ rfl (by decide) (by decide) (List.forall_mem_cons.mpr ⟨w_m, (List.forall_mem_cons.mpr ⟨w_mp, (fun _ h => nomatch h)⟩)⟩))).mono (Nat.le_of_ble_eq_true rfl) (Nat.le_of_ble_eq_true rfl) (fun o w1 hp => ?_)
  obtain ⟨cs1, hp, hi9⟩ := hp
  obtain ⟨e1, e2⟩ := hp
  subst e1; subst e2
  exact ⟨rfl, hI.fix (t2 := (zup t.1 [(53, ((prect kd x y u8 (((t.1 53).1), 0) v8).1, (t.1 53).2))], t.2)) (is := [52, 53]) hi9 rfl ⟨kd_52.mpr ⟨_, rfl⟩, kd_53.mpr rfl, trivial⟩ (by decide) (by decide) (fun i hi hn => zup_out (fun q => hn ((by decide : ∀ j ∈ ([53] : List Nat), j ∈ ([52, 53] : List Nat)) i q))) (fun h => ⟨h.1, prect_ch hk h.2.1 v8, h.2.2⟩) rfl⟩
set_option maxHeartbeats 4000000 in
theorem Qx_Mm_drawE {g : zG} {ad : Nat → Nat} {t : zTT} {u : zNN} {w : zW} (hI : IV g ad t u w) (k : Int32) (x : Int32) (y : Int32) (w8 : Int32) (v8 : Int32) (hd : ¬ (0 ≤ z_ix 0 k ∧ (0 ≤ x ∧ x < 12 ∧ 0 ≤ y ∧ y < 9) ∧ 1 ≤ w8 ∧ w8 ≤ 12 - x ∧ 1 ≤ v8 ∧ v8 ≤ 9 - y)) : zMB g M_Mm_draw [.ref (ad 52), .int k, .int x, .int y, .int w8, .int v8] w (fun o w1 => o = .inl (some (.int 0)) ∧ IV g ad t u w1) 0 0 := by
  obtain ⟨e_m, w_m, k_m⟩ := hI.1.2 52 (by decide)
  obtain ⟨v_m_th, rfl⟩ := kd_52.mp k_m
  obtain ⟨e_mp, w_mp, k_mp⟩ := hI.1.2 53 (by decide)
  obtain rfl := kd_53.mp k_mp
  refine ((C_Mm_drawE g (ad 52) (ad 53) (ad 54) (ad 55) (ad 56) (ad 57) (ad 58) (ad 59) (ad 60) (ad 61) (ad 62) (ad 63) (ad 64) (ad 65) (ad 66) (ad 67) (ad 68) v_m_th (nI ((t.1 52).2.2 0)) ((t.1 52).1 0) ((t.1 52).1 1) ((t.1 52).1 2) ((t.1 52).1 3) ((t.1 52).1 4) ((t.1 52).1 5) ((t.1 52).1 6) ((t.1 52).1 7) ((t.1 52).1 8) ((t.1 52).1 9) ((t.1 52).1 10) ((t.1 52).2.1 0) ((t.1 52).2.1 1) ((t.1 53).1) k x y w8 v8 hd).at (hI.1.I [52, 53] _ rfl (by decide) (by decide) (List.forall_mem_cons.mpr ⟨w_m, (List.forall_mem_cons.mpr ⟨w_mp, (fun _ h => nomatch h)⟩)⟩))).mono (Nat.le_of_ble_eq_true rfl) (Nat.le_of_ble_eq_true rfl) (fun o w1 hp => ?_)
  obtain ⟨cs1, hp, hi9⟩ := hp
  obtain ⟨e1, e2⟩ := hp
  subst e1; subst e2
  exact ⟨rfl, hI.fix (t2 := t) (is := [52, 53]) hi9 rfl ⟨kd_52.mpr ⟨_, rfl⟩, kd_53.mpr rfl, trivial⟩ (by decide) (by decide) (fun _ _ _ => rfl) (fun h => h) rfl⟩
noncomputable def tK_Mm_draw (k x y p q : Int32) (t : zTT) : zTT := (if 0 ≤ z_ix 0 k ∧ (0 ≤ x ∧ x < 12 ∧ 0 ≤ y ∧ y < 9) ∧ 1 ≤ p ∧ p ≤ 12 - x ∧ 1 ≤ q ∧ q ≤ 9 - y then (zup t.1 [(53, ((prect k x.toNatClampNeg y.toNatClampNeg p.toNatClampNeg (((t.1 53).1), 0) q.toNatClampNeg).1, (t.1 53).2))], t.2) else t)
theorem K_Mm_draw {g : zG} {ad : Nat → Nat} {t : zTT} {u : zNN} {w : zW} (hI : IVm g ad t u w) (k x y p q : Int32) : zMB g M_Mm_draw [.ref (ad 52), .int k, .int x, .int y, .int p, .int q] w (MKx g ad (tK_Mm_draw k x y p q t) u.1) 10 300 := by
  obtain ⟨s, hI⟩ := hI
  by_cases hd : 0 ≤ z_ix 0 k ∧ (0 ≤ x ∧ x < 12 ∧ 0 ≤ y ∧ y < 9) ∧ 1 ≤ p ∧ p ≤ 12 - x ∧ 1 ≤ q ∧ q ≤ 9 - y
  · obtain ⟨a9, b9, c9, d9, h1, h2, -, -, rfl, rfl, rfl, rfl, hk, -⟩ := z_dr_in hd
    have hp : 1 ≤ c9 := z_1n hd.2.2.1 (by omega)
    have hq : 1 ≤ d9 := z_1n hd.2.2.2.2.1 (by omega)
    have eT : (tK_Mm_draw k (nI a9) (nI b9) (nI c9) (nI d9) t) = (zup t.1 [(53, ((prect k a9 b9 c9 (((t.1 53).1), 0) d9).1, (t.1 53).2))], t.2) := by unfold tK_Mm_draw; rw [if_pos hd, nI_clamp (by omega), nI_clamp (by omega), nI_clamp (by omega), nI_clamp (by omega)]
    rw [eT]
    exact (Qx_Mm_drawN hI k hk hd.1 a9 b9 c9 d9 h1 h2 hp hq).mono (by decide) (by decide) (fun o w1 h => ⟨⟨_, h.1⟩, u, rfl, IVm.zu h.2⟩)
  · have eT : (tK_Mm_draw k x y p q t) = t := by unfold tK_Mm_draw; rw [if_neg hd]
    rw [eT]
    exact (Qx_Mm_drawE hI k x y p q hd).mono (by decide) (by decide) (fun o w1 h => ⟨⟨_, h.1⟩, u, rfl, ⟨_, h.2⟩⟩)
set_option maxHeartbeats 4000000 in
theorem Qx_Ip_partN {g : zG} {ad : Nat → Nat} {t : zTT} {u : zNN} {w : zW} (hI : IV g ad t u w) (p9 : Nat) (h1 : 1 ≤ p9) (h2 : p9 < 9) (hr : ¬ ((nI p9) < 1 ∨ 9 ≤ (nI p9))) : zMB g M_Ip_part [.ref (ad 0), .int (nI p9)] w (fun o w1 => o = .inl (some (.int (nI ((t.1 1).2.2 0)))) ∧ IV g ad (zup t.1 [(1, ((t.1 1).1, (t.1 1).2.1, (fun z => ([p9] : List Nat).getD z 0)))], t.2) u w1) 1 6 := by
  obtain ⟨e_a, w_a, k_a⟩ := hI.1.2 0 (by decide)
  obtain rfl := kd_0.mp k_a
  obtain ⟨e_pa, w_pa, k_pa⟩ := hI.1.2 1 (by decide)
  obtain rfl := kd_1.mp k_pa
  obtain ⟨e_pa1, w_pa1, k_pa1⟩ := hI.1.2 2 (by decide)
  obtain rfl := kd_2.mp k_pa1
  obtain ⟨e_pa2, w_pa2, k_pa2⟩ := hI.1.2 3 (by decide)
  obtain ⟨v_pa2_f, rfl⟩ := kd_3.mp k_pa2
  obtain ⟨e_pa3, w_pa3, k_pa3⟩ := hI.1.2 4 (by decide)
  obtain ⟨v_pa3_h, rfl⟩ := kd_4.mp k_pa3
  refine ((C_Ip_partN g (ad 0) (ad 1) (ad 5) (ad 18) (ad 31) (ad 32) (ad 36) (ad 42) (ad 45) (ad 47) (ad 49) (ad 50) (ad 51) (ad 2) (ad 3) (ad 4) ((t.1 2).1) v_pa2_f v_pa3_h ((t.1 1).2.2 0) (nI p9) hr).at (hI.1.I [0, 1, 2, 3, 4] _ rfl (by decide) (by decide) (List.forall_mem_cons.mpr ⟨w_a, (List.forall_mem_cons.mpr ⟨w_pa, (List.forall_mem_cons.mpr ⟨w_pa1, (List.forall_mem_cons.mpr ⟨w_pa2, (List.forall_mem_cons.mpr ⟨w_pa3, (fun _ h => nomatch h)⟩)⟩)⟩)⟩)⟩))).mono (Nat.le_of_ble_eq_true rfl) (Nat.le_of_ble_eq_true rfl) (fun o w1 hp => ?_)
  obtain ⟨cs1, hp, hi9⟩ := hp
  obtain ⟨e1, e2⟩ := hp
  subst e1; subst e2
  exact ⟨rfl, hI.fix (t2 := (zup t.1 [(1, ((t.1 1).1, (t.1 1).2.1, (fun z => ([p9] : List Nat).getD z 0)))], t.2)) (is := [0, 1, 2, 3, 4]) hi9 rfl ⟨kd_0.mpr rfl, kd_1.mpr rfl, kd_2.mpr rfl, kd_3.mpr ⟨_, rfl⟩, kd_4.mpr ⟨_, rfl⟩, trivial⟩ (by decide) (by decide) (fun i hi hn => zup_out (fun q => hn ((by decide : ∀ j ∈ ([1] : List Nat), j ∈ ([0, 1, 2, 3, 4] : List Nat)) i q))) (fun h => ⟨h.1, h.2.1, ⟨h1, h2⟩, h.2.2.2⟩) rfl⟩
set_option maxHeartbeats 4000000 in
theorem Qx_Ip_partE {g : zG} {ad : Nat → Nat} {t : zTT} {u : zNN} {w : zW} (hI : IV g ad t u w) (r : Int32) (hr : r < 1 ∨ 9 ≤ r) : zMB g M_Ip_part [.ref (ad 0), .int r] w (fun o w1 => o = .inr "java/lang/IllegalArgumentException" ∧ IV g ad t u w1) 1 6 := by
  obtain ⟨e_a, w_a, k_a⟩ := hI.1.2 0 (by decide)
  obtain rfl := kd_0.mp k_a
  obtain ⟨e_pa, w_pa, k_pa⟩ := hI.1.2 1 (by decide)
  obtain rfl := kd_1.mp k_pa
  obtain ⟨e_pa1, w_pa1, k_pa1⟩ := hI.1.2 2 (by decide)
  obtain rfl := kd_2.mp k_pa1
  obtain ⟨e_pa2, w_pa2, k_pa2⟩ := hI.1.2 3 (by decide)
  obtain ⟨v_pa2_f, rfl⟩ := kd_3.mp k_pa2
  obtain ⟨e_pa3, w_pa3, k_pa3⟩ := hI.1.2 4 (by decide)
  obtain ⟨v_pa3_h, rfl⟩ := kd_4.mp k_pa3
  refine ((C_Ip_partE g (ad 0) (ad 1) (ad 5) (ad 18) (ad 31) (ad 32) (ad 36) (ad 42) (ad 45) (ad 47) (ad 49) (ad 50) (ad 51) (ad 2) (ad 3) (ad 4) ((t.1 2).1) v_pa2_f v_pa3_h ((t.1 1).2.2 0) r hr).at (hI.1.I [0, 1, 2, 3, 4] _ rfl (by decide) (by decide) (List.forall_mem_cons.mpr ⟨w_a, (List.forall_mem_cons.mpr ⟨w_pa, (List.forall_mem_cons.mpr ⟨w_pa1, (List.forall_mem_cons.mpr ⟨w_pa2, (List.forall_mem_cons.mpr ⟨w_pa3, (fun _ h => nomatch h)⟩)⟩)⟩)⟩)⟩))).mono (Nat.le_of_ble_eq_true rfl) (Nat.le_of_ble_eq_true rfl) (fun o w1 hp => ?_)
  obtain ⟨cs1, hp, hi9⟩ := hp
  obtain ⟨e1, e2⟩ := hp
  subst e1; subst e2
  exact ⟨rfl, hI.fix (t2 := t) (is := [0, 1, 2, 3, 4]) hi9 rfl ⟨kd_0.mpr rfl, kd_1.mpr rfl, kd_2.mpr rfl, kd_3.mpr ⟨_, rfl⟩, kd_4.mpr ⟨_, rfl⟩, trivial⟩ (by decide) (by decide) (fun _ _ _ => rfl) (fun h => h) rfl⟩
noncomputable def tK_Ip_part (r : Int32) (t : zTT) : zTT := (if 1 ≤ r ∧ r ≤ 8 then (zup t.1 [(1, ((t.1 1).1, (t.1 1).2.1, (fun z => ([r.toNatClampNeg] : List Nat).getD z 0)))], t.2) else t)
