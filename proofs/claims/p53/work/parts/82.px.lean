def z_kf (ad : Nat → Nat) (w w1 : zW) : Prop := z_ke (fun q => ∃ i, i < 52 ∧ ad i = q) w w1
theorem z_kf.of {ad : Nat → Nat} {w w1 : zW} {is : List Nat} (h : z_ke (fun q => q ∈ is.map ad) w w1) (hb : ∀ i ∈ is, i < 52) : z_kf ad w w1 := h.wk (fun q hq => by obtain ⟨i, hi, e⟩ := List.mem_map.mp hq; exact ⟨i, hb i hi, e⟩)
theorem z_kf.rf {ad : Nat → Nat} {w : zW} : z_kf ad w w := z_ke.rf
theorem z_kf.tr {ad : Nat → Nat} {w w1 w2 : zW} (h1 : z_kf ad w w1) (h2 : z_kf ad w1 w2) : z_kf ad w w2 := z_ke.tr h1 h2
set_option maxHeartbeats 4000000 in
theorem Qx_Ip_drawE {g : zG} {ad : Nat → Nat} {t : zTT} {u : zNN} {w : zW} (hI : IV g ad t u w) (k : Int32) (x : Int32) (y : Int32) (w8 : Int32) (v8 : Int32) (hd : ¬ (0 ≤ z_ix 0 k ∧ (0 ≤ x ∧ x < 12 ∧ 0 ≤ y ∧ y < 9) ∧ 1 ≤ w8 ∧ w8 ≤ 12 - x ∧ 1 ≤ v8 ∧ v8 ≤ 9 - y)) : zMB g M_Ip_draw [.ref (ad 0), .int k, .int x, .int y, .int w8, .int v8] w (fun o w1 => o = .inr "java/lang/IllegalArgumentException" ∧ w1 = w) 1 6 := by
  obtain ⟨e_a, w_a, k_a⟩ := hI.1.2 0 (by decide)
  obtain rfl := kd_0.mp k_a
  obtain ⟨e_pa, w_pa, k_pa⟩ := hI.1.2 1 (by decide)
  obtain rfl := kd_1.mp k_pa
  obtain ⟨e_pa1, w_pa1, k_pa1⟩ := hI.1.2 2 (by decide)
  obtain rfl := kd_2.mp k_pa1
  obtain ⟨e_pa2, w_pa2, k_pa2⟩ := hI.1.2 3 (by decide)
  obtain ⟨v_pa2_f, rfl⟩ := kd_3.mp k_pa2
  obtain ⟨e_pa3, w_pa3, k_pa3⟩ := hI.1.2 4 (by decide)
  obtain ⟨v_pa3_h, rfl⟩ := kd_4.mp k_pa3
  have hJ := hI.1.I [0, 1, 2, 3, 4] [((ad 0), .inr (11, [.ref (ad 1), .ref (ad 5), .ref (ad 18), .ref (ad 31), .ref (ad 32), .ref (ad 36), .ref (ad 42), .ref (ad 45), .ref (ad 47), .ref (ad 49), .ref (ad 50), .ref (ad 51)])), ((ad 1), .inr (8, [.ref (ad 2), .ref (ad 3), .ref (ad 4), .int (nI ((t.1 1).2.2 0))])), ((ad 2), .inl (1, 108, .inl ((t.1 2).1))), ((ad 3), .inl (2, 108, .inl v_pa2_f)), ((ad 4), .inl (0, 108, .inl (fun k => nI (v_pa3_h k))))] rfl (by decide) (by decide) (List.forall_mem_cons.mpr ⟨w_a, (List.forall_mem_cons.mpr ⟨w_pa, (List.forall_mem_cons.mpr ⟨w_pa1, (List.forall_mem_cons.mpr ⟨w_pa2, (List.forall_mem_cons.mpr ⟨w_pa3, (fun _ h => nomatch h)⟩)⟩)⟩)⟩)⟩)
  refine ((C_Ip_drawE g (ad 0) (ad 1) (ad 5) (ad 18) (ad 31) (ad 32) (ad 36) (ad 42) (ad 45) (ad 47) (ad 49) (ad 50) (ad 51) (ad 2) (ad 3) (ad 4) ((t.1 2).1) v_pa2_f v_pa3_h ((t.1 1).2.2 0) k x y w8 v8 hd).at hJ).mono (Nat.le_of_ble_eq_true rfl) (Nat.le_of_ble_eq_true rfl) (fun o w1 hp => ?_)
  obtain ⟨cs1, hp, hi9⟩ := hp
  obtain ⟨e1, e2⟩ := hp
  subst e1; subst e2
  exact ⟨rfl, z_I.same hJ hi9⟩
set_option maxHeartbeats 4000000 in
theorem Qx_Ip_drawZ {g : zG} {ad : Nat → Nat} {t : zTT} {u : zNN} {w : zW} (hI : IV g ad t u w) (kd : Int32) (hk : z_kind kd) (hki : 0 ≤ z_ix 0 kd) (x : Nat) (y : Nat) (u8 : Nat) (v8 : Nat) (hx : x + u8 ≤ 12) (hy : y + v8 ≤ 9) (hu : 1 ≤ u8) (hv : 1 ≤ v8) (hz : (prect kd x y u8 (((t.1 2).1), 0) v8).2 = 0) : zMB g M_Ip_draw [.ref (ad 0), .int kd, .int (nI x), .int (nI y), .int (nI u8), .int (nI v8)] w (fun o w1 => o = .inl (some (.int (nI (prect kd x y u8 (((t.1 2).1), 0) v8).2))) ∧ IV g ad (zup t.1 [(2, ((prect kd x y u8 (((t.1 2).1), 0) v8).1, (t.1 2).2)), (5, ((upd (upd ((t.1 5).1) 0 (((((t.1 6).1), ((t.1 7).1), (t.1 5).1 0, (t.1 5).1 1), (((((t.1 9).1), ((t.1 11).1), ((t.1 12).1), (t.1 8).1 0), ((t.1 10).1)), ((t.1 13).1), ((t.1 14).1)), (((t.1 15).1), ((t.1 16).1), ((t.1 17).2.2))).1.2.2.1)) 1 (((((t.1 6).1), ((t.1 7).1), (t.1 5).1 0, (t.1 5).1 1), (((((t.1 9).1), ((t.1 11).1), ((t.1 12).1), (t.1 8).1 0), ((t.1 10).1)), ((t.1 13).1), ((t.1 14).1)), (((t.1 15).1), ((t.1 16).1), ((t.1 17).2.2))).1.2.2.2)), (t.1 5).2.1, (t.1 5).2.2)), (6, (((((t.1 6).1), ((t.1 7).1), (t.1 5).1 0, (t.1 5).1 1), (((((t.1 9).1), ((t.1 11).1), ((t.1 12).1), (t.1 8).1 0), ((t.1 10).1)), ((t.1 13).1), ((t.1 14).1)), (((t.1 15).1), ((t.1 16).1), ((t.1 17).2.2))).1.1, (t.1 6).2)), (7, (((((t.1 6).1), ((t.1 7).1), (t.1 5).1 0, (t.1 5).1 1), (((((t.1 9).1), ((t.1 11).1), ((t.1 12).1), (t.1 8).1 0), ((t.1 10).1)), ((t.1 13).1), ((t.1 14).1)), (((t.1 15).1), ((t.1 16).1), ((t.1 17).2.2))).1.2.1, (t.1 7).2)), (8, ((upd ((t.1 8).1) 0 (((((t.1 6).1), ((t.1 7).1), (t.1 5).1 0, (t.1 5).1 1), (((((t.1 9).1), ((t.1 11).1), ((t.1 12).1), (t.1 8).1 0), ((t.1 10).1)), ((t.1 13).1), ((t.1 14).1)), (((t.1 15).1), ((t.1 16).1), ((t.1 17).2.2))).2.1.1.1.2.2.2)), (t.1 8).2.1, (t.1 8).2.2)), (9, (((((t.1 6).1), ((t.1 7).1), (t.1 5).1 0, (t.1 5).1 1), (((((t.1 9).1), ((t.1 11).1), ((t.1 12).1), (t.1 8).1 0), ((t.1 10).1)), ((t.1 13).1), ((t.1 14).1)), (((t.1 15).1), ((t.1 16).1), ((t.1 17).2.2))).2.1.1.1.1, (t.1 9).2)), (10, (((((t.1 6).1), ((t.1 7).1), (t.1 5).1 0, (t.1 5).1 1), (((((t.1 9).1), ((t.1 11).1), ((t.1 12).1), (t.1 8).1 0), ((t.1 10).1)), ((t.1 13).1), ((t.1 14).1)), (((t.1 15).1), ((t.1 16).1), ((t.1 17).2.2))).2.1.1.2, (t.1 10).2)), (11, (((((t.1 6).1), ((t.1 7).1), (t.1 5).1 0, (t.1 5).1 1), (((((t.1 9).1), ((t.1 11).1), ((t.1 12).1), (t.1 8).1 0), ((t.1 10).1)), ((t.1 13).1), ((t.1 14).1)), (((t.1 15).1), ((t.1 16).1), ((t.1 17).2.2))).2.1.1.1.2.1, (t.1 11).2)), (12, (((((t.1 6).1), ((t.1 7).1), (t.1 5).1 0, (t.1 5).1 1), (((((t.1 9).1), ((t.1 11).1), ((t.1 12).1), (t.1 8).1 0), ((t.1 10).1)), ((t.1 13).1), ((t.1 14).1)), (((t.1 15).1), ((t.1 16).1), ((t.1 17).2.2))).2.1.1.1.2.2.1, (t.1 12).2)), (13, (((((t.1 6).1), ((t.1 7).1), (t.1 5).1 0, (t.1 5).1 1), (((((t.1 9).1), ((t.1 11).1), ((t.1 12).1), (t.1 8).1 0), ((t.1 10).1)), ((t.1 13).1), ((t.1 14).1)), (((t.1 15).1), ((t.1 16).1), ((t.1 17).2.2))).2.1.2.1, (t.1 13).2)), (14, (((((t.1 6).1), ((t.1 7).1), (t.1 5).1 0, (t.1 5).1 1), (((((t.1 9).1), ((t.1 11).1), ((t.1 12).1), (t.1 8).1 0), ((t.1 10).1)), ((t.1 13).1), ((t.1 14).1)), (((t.1 15).1), ((t.1 16).1), ((t.1 17).2.2))).2.1.2.2, (t.1 14).2)), (15, (((((t.1 6).1), ((t.1 7).1), (t.1 5).1 0, (t.1 5).1 1), (((((t.1 9).1), ((t.1 11).1), ((t.1 12).1), (t.1 8).1 0), ((t.1 10).1)), ((t.1 13).1), ((t.1 14).1)), (((t.1 15).1), ((t.1 16).1), ((t.1 17).2.2))).2.2.1, (t.1 15).2)), (16, (((((t.1 6).1), ((t.1 7).1), (t.1 5).1 0, (t.1 5).1 1), (((((t.1 9).1), ((t.1 11).1), ((t.1 12).1), (t.1 8).1 0), ((t.1 10).1)), ((t.1 13).1), ((t.1 14).1)), (((t.1 15).1), ((t.1 16).1), ((t.1 17).2.2))).2.2.2.1, (t.1 16).2)), (17, ((t.1 17).1, (t.1 17).2.1, ((((t.1 6).1), ((t.1 7).1), (t.1 5).1 0, (t.1 5).1 1), (((((t.1 9).1), ((t.1 11).1), ((t.1 12).1), (t.1 8).1 0), ((t.1 10).1)), ((t.1 13).1), ((t.1 14).1)), (((t.1 15).1), ((t.1 16).1), ((t.1 17).2.2))).2.2.2.2))], t.2) u w1 ∧ z_kf ad w w1) 1 6 := by
  obtain ⟨e_a, w_a, k_a⟩ := hI.1.2 0 (by decide)
  obtain rfl := kd_0.mp k_a
  obtain ⟨e_pa, w_pa, k_pa⟩ := hI.1.2 1 (by decide)
  obtain rfl := kd_1.mp k_pa
  obtain ⟨e_pa1, w_pa1, k_pa1⟩ := hI.1.2 2 (by decide)
  obtain rfl := kd_2.mp k_pa1
  obtain ⟨e_pa2, w_pa2, k_pa2⟩ := hI.1.2 3 (by decide)
  obtain ⟨v_pa2_f, rfl⟩ := kd_3.mp k_pa2
  obtain ⟨e_pa3, w_pa3, k_pa3⟩ := hI.1.2 4 (by decide)
  obtain ⟨v_pa3_h, rfl⟩ := kd_4.mp k_pa3
  obtain ⟨e_ta, w_ta, k_ta⟩ := hI.1.2 5 (by decide)
  obtain rfl := kd_5.mp k_ta
  obtain ⟨e_ta1, w_ta1, k_ta1⟩ := hI.1.2 6 (by decide)
  obtain rfl := kd_6.mp k_ta1
  obtain ⟨e_ta2, w_ta2, k_ta2⟩ := hI.1.2 7 (by decide)
  obtain rfl := kd_7.mp k_ta2
  obtain ⟨e_taz, w_taz, k_taz⟩ := hI.1.2 8 (by decide)
  obtain rfl := kd_8.mp k_taz
  obtain ⟨e_taz1, w_taz1, k_taz1⟩ := hI.1.2 9 (by decide)
  obtain rfl := kd_9.mp k_taz1
  obtain ⟨e_taz2, w_taz2, k_taz2⟩ := hI.1.2 10 (by decide)
  obtain rfl := kd_10.mp k_taz2
  obtain ⟨e_taz3, w_taz3, k_taz3⟩ := hI.1.2 11 (by decide)
  obtain rfl := kd_11.mp k_taz3
  obtain ⟨e_taz4, w_taz4, k_taz4⟩ := hI.1.2 12 (by decide)
  obtain rfl := kd_12.mp k_taz4
  obtain ⟨e_taz5, w_taz5, k_taz5⟩ := hI.1.2 13 (by decide)
  obtain rfl := kd_13.mp k_taz5
  obtain ⟨e_taz6, w_taz6, k_taz6⟩ := hI.1.2 14 (by decide)
  obtain rfl := kd_14.mp k_taz6
  obtain ⟨e_ta4, w_ta4, k_ta4⟩ := hI.1.2 15 (by decide)
  obtain ⟨c_ta4_0, rfl⟩ := kd_15.mp k_ta4
  obtain ⟨e_ta5, w_ta5, k_ta5⟩ := hI.1.2 16 (by decide)
  obtain rfl := kd_16.mp k_ta5
  obtain ⟨e_ta6, w_ta6, k_ta6⟩ := hI.1.2 17 (by decide)
  obtain rfl := kd_17.mp k_ta6
  refine ((C_Ip_drawZ g (ad 0) (ad 1) (ad 5) (ad 18) (ad 31) (ad 32) (ad 36) (ad 42) (ad 45) (ad 47) (ad 49) (ad 50) (ad 51) (ad 2) (ad 3) (ad 4) ((t.1 2).1) v_pa2_f v_pa3_h ((t.1 1).2.2 0) (ad 6) (ad 7) (ad 8) (ad 9) (ad 10) (ad 11) (ad 12) (ad 13) (ad 14) (ad 15) (ad 16) (ad 17) ((((t.1 6).1), ((t.1 7).1), (t.1 5).1 0, (t.1 5).1 1), (((((t.1 9).1), ((t.1 11).1), ((t.1 12).1), (t.1 8).1 0), ((t.1 10).1)), ((t.1 13).1), ((t.1 14).1)), (((t.1 15).1), ((t.1 16).1), ((t.1 17).2.2))) kd hk hki x y u8 v8 hx hy hu hv hz).at (hI.1.I [0, 1, 2, 3, 4, 5, 6, 7, 8, 9, 10, 11, 12, 13, 14, 15, 16, 17] _ rfl (by decide) (by decide) (List.forall_mem_cons.mpr ⟨w_a, (List.forall_mem_cons.mpr ⟨w_pa, (List.forall_mem_cons.mpr ⟨w_pa1, (List.forall_mem_cons.mpr ⟨w_pa2, (List.forall_mem_cons.mpr ⟨w_pa3, (List.forall_mem_cons.mpr ⟨w_ta, (List.forall_mem_cons.mpr ⟨w_ta1, (List.forall_mem_cons.mpr ⟨w_ta2, (List.forall_mem_cons.mpr ⟨w_taz, (List.forall_mem_cons.mpr ⟨w_taz1, (List.forall_mem_cons.mpr ⟨w_taz2, (List.forall_mem_cons.mpr ⟨w_taz3, (List.forall_mem_cons.mpr ⟨w_taz4, (List.forall_mem_cons.mpr ⟨w_taz5, (List.forall_mem_cons.mpr ⟨w_taz6, (List.forall_mem_cons.mpr ⟨w_ta4, (List.forall_mem_cons.mpr ⟨w_ta5, (List.forall_mem_cons.mpr ⟨w_ta6, (fun _ h => nomatch h)⟩)⟩)⟩)⟩)⟩)⟩)⟩)⟩)⟩)⟩)⟩)⟩)⟩)⟩)⟩)⟩)⟩)⟩))).mono (Nat.le_of_ble_eq_true rfl) (Nat.le_of_ble_eq_true rfl) (fun o w1 hp => ?_)
  obtain ⟨cs1, hp, hi9⟩ := hp
  obtain ⟨e1, e2⟩ := hp
  subst e1; subst e2
  exact ⟨rfl, hI.fix (t2 := (zup t.1 [(2, ((prect kd x y u8 (((t.1 2).1), 0) v8).1, (t.1 2).2)), (5, ((upd (upd ((t.1 5).1) 0 (((((t.1 6).1), ((t.1 7).1), (t.1 5).1 0, (t.1 5).1 1), (((((t.1 9).1), ((t.1 11).1), ((t.1 12).1), (t.1 8).1 0), ((t.1 10).1)), ((t.1 13).1), ((t.1 14).1)), (((t.1 15).1), ((t.1 16).1), ((t.1 17).2.2))).1.2.2.1)) 1 (((((t.1 6).1), ((t.1 7).1), (t.1 5).1 0, (t.1 5).1 1), (((((t.1 9).1), ((t.1 11).1), ((t.1 12).1), (t.1 8).1 0), ((t.1 10).1)), ((t.1 13).1), ((t.1 14).1)), (((t.1 15).1), ((t.1 16).1), ((t.1 17).2.2))).1.2.2.2)), (t.1 5).2.1, (t.1 5).2.2)), (6, (((((t.1 6).1), ((t.1 7).1), (t.1 5).1 0, (t.1 5).1 1), (((((t.1 9).1), ((t.1 11).1), ((t.1 12).1), (t.1 8).1 0), ((t.1 10).1)), ((t.1 13).1), ((t.1 14).1)), (((t.1 15).1), ((t.1 16).1), ((t.1 17).2.2))).1.1, (t.1 6).2)), (7, (((((t.1 6).1), ((t.1 7).1), (t.1 5).1 0, (t.1 5).1 1), (((((t.1 9).1), ((t.1 11).1), ((t.1 12).1), (t.1 8).1 0), ((t.1 10).1)), ((t.1 13).1), ((t.1 14).1)), (((t.1 15).1), ((t.1 16).1), ((t.1 17).2.2))).1.2.1, (t.1 7).2)), (8, ((upd ((t.1 8).1) 0 (((((t.1 6).1), ((t.1 7).1), (t.1 5).1 0, (t.1 5).1 1), (((((t.1 9).1), ((t.1 11).1), ((t.1 12).1), (t.1 8).1 0), ((t.1 10).1)), ((t.1 13).1), ((t.1 14).1)), (((t.1 15).1), ((t.1 16).1), ((t.1 17).2.2))).2.1.1.1.2.2.2)), (t.1 8).2.1, (t.1 8).2.2)), (9, (((((t.1 6).1), ((t.1 7).1), (t.1 5).1 0, (t.1 5).1 1), (((((t.1 9).1), ((t.1 11).1), ((t.1 12).1), (t.1 8).1 0), ((t.1 10).1)), ((t.1 13).1), ((t.1 14).1)), (((t.1 15).1), ((t.1 16).1), ((t.1 17).2.2))).2.1.1.1.1, (t.1 9).2)), (10, (((((t.1 6).1), ((t.1 7).1), (t.1 5).1 0, (t.1 5).1 1), (((((t.1 9).1), ((t.1 11).1), ((t.1 12).1), (t.1 8).1 0), ((t.1 10).1)), ((t.1 13).1), ((t.1 14).1)), (((t.1 15).1), ((t.1 16).1), ((t.1 17).2.2))).2.1.1.2, (t.1 10).2)), (11, (((((t.1 6).1), ((t.1 7).1), (t.1 5).1 0, (t.1 5).1 1), (((((t.1 9).1), ((t.1 11).1), ((t.1 12).1), (t.1 8).1 0), ((t.1 10).1)), ((t.1 13).1), ((t.1 14).1)), (((t.1 15).1), ((t.1 16).1), ((t.1 17).2.2))).2.1.1.1.2.1, (t.1 11).2)), (12, (((((t.1 6).1), ((t.1 7).1), (t.1 5).1 0, (t.1 5).1 1), (((((t.1 9).1), ((t.1 11).1), ((t.1 12).1), (t.1 8).1 0), ((t.1 10).1)), ((t.1 13).1), ((t.1 14).1)), (((t.1 15).1), ((t.1 16).1), ((t.1 17).2.2))).2.1.1.1.2.2.1, (t.1 12).2)), (13, (((((t.1 6).1), ((t.1 7).1), (t.1 5).1 0, (t.1 5).1 1), (((((t.1 9).1), ((t.1 11).1), ((t.1 12).1), (t.1 8).1 0), ((t.1 10).1)), ((t.1 13).1), ((t.1 14).1)), (((t.1 15).1), ((t.1 16).1), ((t.1 17).2.2))).2.1.2.1, (t.1 13).2)), (14, (((((t.1 6).1), ((t.1 7).1), (t.1 5).1 0, (t.1 5).1 1), (((((t.1 9).1), ((t.1 11).1), ((t.1 12).1), (t.1 8).1 0), ((t.1 10).1)), ((t.1 13).1), ((t.1 14).1)), (((t.1 15).1), ((t.1 16).1), ((t.1 17).2.2))).2.1.2.2, (t.1 14).2)), (15, (((((t.1 6).1), ((t.1 7).1), (t.1 5).1 0, (t.1 5).1 1), (((((t.1 9).1), ((t.1 11).1), ((t.1 12).1), (t.1 8).1 0), ((t.1 10).1)), ((t.1 13).1), ((t.1 14).1)), (((t.1 15).1), ((t.1 16).1), ((t.1 17).2.2))).2.2.1, (t.1 15).2)), (16, (((((t.1 6).1), ((t.1 7).1), (t.1 5).1 0, (t.1 5).1 1), (((((t.1 9).1), ((t.1 11).1), ((t.1 12).1), (t.1 8).1 0), ((t.1 10).1)), ((t.1 13).1), ((t.1 14).1)), (((t.1 15).1), ((t.1 16).1), ((t.1 17).2.2))).2.2.2.1, (t.1 16).2)), (17, ((t.1 17).1, (t.1 17).2.1, ((((t.1 6).1), ((t.1 7).1), (t.1 5).1 0, (t.1 5).1 1), (((((t.1 9).1), ((t.1 11).1), ((t.1 12).1), (t.1 8).1 0), ((t.1 10).1)), ((t.1 13).1), ((t.1 14).1)), (((t.1 15).1), ((t.1 16).1), ((t.1 17).2.2))).2.2.2.2))], t.2)) (is := [0, 1, 2, 3, 4, 5, 6, 7, 8, 9, 10, 11, 12, 13, 14, 15, 16, 17]) hi9 rfl ⟨kd_0.mpr rfl, kd_1.mpr rfl, kd_2.mpr rfl, kd_3.mpr ⟨_, rfl⟩, kd_4.mpr ⟨_, rfl⟩, kd_5.mpr rfl, kd_6.mpr rfl, kd_7.mpr rfl, kd_8.mpr rfl, kd_9.mpr rfl, kd_10.mpr rfl, kd_11.mpr rfl, kd_12.mpr rfl, kd_13.mpr rfl, kd_14.mpr rfl, kd_15.mpr ⟨c_ta4_0, rfl⟩, kd_16.mpr rfl, kd_17.mpr rfl, trivial⟩ (by decide) (by decide) (fun i hi hn => zup_out (fun q => hn ((by decide : ∀ j ∈ ([2, 5, 6, 7, 8, 9, 10, 11, 12, 13, 14, 15, 16, 17] : List Nat), j ∈ ([0, 1, 2, 3, 4, 5, 6, 7, 8, 9, 10, 11, 12, 13, 14, 15, 16, 17] : List Nat)) i q))) (fun k9 => ⟨prect_ch hk k9.1 v8, k9.2.1, k9.2.2.1, k9.2.2.2.1, (TIX_cg (X := XTt t) k9.2.2.2.2 (prect_0 hz) : TIX (XTt t) (prect kd x y u8 ((t.1 2).1, 0) v8).1)⟩) rfl, z_kf.of (hi9.ke (L := ([0, 1, 2, 3, 4, 5, 6, 7, 8, 9, 10, 11, 12, 13, 14, 15, 16, 17] : List Nat).map ad) rfl) (by decide)⟩
set_option maxHeartbeats 4000000 in
theorem Qx_Ip_drawN {g : zG} {ad : Nat → Nat} {t : zTT} {u : zNN} {w : zW} (hI : IV g ad t u w) (kd : Int32) (hk : z_kind kd) (hki : 0 ≤ z_ix 0 kd) (x : Nat) (y : Nat) (u8 : Nat) (v8 : Nat) (hx : x + u8 ≤ 12) (hy : y + v8 ≤ 9) (hu : 1 ≤ u8) (hv : 1 ≤ v8) (hz : ¬ (prect kd x y u8 (((t.1 2).1), 0) v8).2 = 0) : zMB g M_Ip_draw [.ref (ad 0), .int kd, .int (nI x), .int (nI y), .int (nI u8), .int (nI v8)] w (fun o w1 => o = .inl (some (.int (nI (prect kd x y u8 (((t.1 2).1), 0) v8).2))) ∧ IV g ad (zup t.1 [(2, ((prect kd x y u8 (((t.1 2).1), 0) v8).1, (t.1 2).2)), (5, ((upd (upd ((t.1 5).1) 0 ((tkT (prect kd x y u8 (((t.1 2).1), 0) v8).1 ((((t.1 6).1), ((t.1 7).1), (t.1 5).1 0, (t.1 5).1 1), (((((t.1 9).1), ((t.1 11).1), ((t.1 12).1), (t.1 8).1 0), ((t.1 10).1)), ((t.1 13).1), ((t.1 14).1)), (((t.1 15).1), ((t.1 16).1), ((t.1 17).2.2)))).1.2.2.1)) 1 ((tkT (prect kd x y u8 (((t.1 2).1), 0) v8).1 ((((t.1 6).1), ((t.1 7).1), (t.1 5).1 0, (t.1 5).1 1), (((((t.1 9).1), ((t.1 11).1), ((t.1 12).1), (t.1 8).1 0), ((t.1 10).1)), ((t.1 13).1), ((t.1 14).1)), (((t.1 15).1), ((t.1 16).1), ((t.1 17).2.2)))).1.2.2.2)), (t.1 5).2.1, (t.1 5).2.2)), (6, ((tkT (prect kd x y u8 (((t.1 2).1), 0) v8).1 ((((t.1 6).1), ((t.1 7).1), (t.1 5).1 0, (t.1 5).1 1), (((((t.1 9).1), ((t.1 11).1), ((t.1 12).1), (t.1 8).1 0), ((t.1 10).1)), ((t.1 13).1), ((t.1 14).1)), (((t.1 15).1), ((t.1 16).1), ((t.1 17).2.2)))).1.1, (t.1 6).2)), (7, ((tkT (prect kd x y u8 (((t.1 2).1), 0) v8).1 ((((t.1 6).1), ((t.1 7).1), (t.1 5).1 0, (t.1 5).1 1), (((((t.1 9).1), ((t.1 11).1), ((t.1 12).1), (t.1 8).1 0), ((t.1 10).1)), ((t.1 13).1), ((t.1 14).1)), (((t.1 15).1), ((t.1 16).1), ((t.1 17).2.2)))).1.2.1, (t.1 7).2)), (8, ((upd ((t.1 8).1) 0 ((tkT (prect kd x y u8 (((t.1 2).1), 0) v8).1 ((((t.1 6).1), ((t.1 7).1), (t.1 5).1 0, (t.1 5).1 1), (((((t.1 9).1), ((t.1 11).1), ((t.1 12).1), (t.1 8).1 0), ((t.1 10).1)), ((t.1 13).1), ((t.1 14).1)), (((t.1 15).1), ((t.1 16).1), ((t.1 17).2.2)))).2.1.1.1.2.2.2)), (t.1 8).2.1, (t.1 8).2.2)), (9, ((tkT (prect kd x y u8 (((t.1 2).1), 0) v8).1 ((((t.1 6).1), ((t.1 7).1), (t.1 5).1 0, (t.1 5).1 1), (((((t.1 9).1), ((t.1 11).1), ((t.1 12).1), (t.1 8).1 0), ((t.1 10).1)), ((t.1 13).1), ((t.1 14).1)), (((t.1 15).1), ((t.1 16).1), ((t.1 17).2.2)))).2.1.1.1.1, (t.1 9).2)), (10, ((tkT (prect kd x y u8 (((t.1 2).1), 0) v8).1 ((((t.1 6).1), ((t.1 7).1), (t.1 5).1 0, (t.1 5).1 1), (((((t.1 9).1), ((t.1 11).1), ((t.1 12).1), (t.1 8).1 0), ((t.1 10).1)), ((t.1 13).1), ((t.1 14).1)), (((t.1 15).1), ((t.1 16).1), ((t.1 17).2.2)))).2.1.1.2, (t.1 10).2)), (11, ((tkT (prect kd x y u8 (((t.1 2).1), 0) v8).1 ((((t.1 6).1), ((t.1 7).1), (t.1 5).1 0, (t.1 5).1 1), (((((t.1 9).1), ((t.1 11).1), ((t.1 12).1), (t.1 8).1 0), ((t.1 10).1)), ((t.1 13).1), ((t.1 14).1)), (((t.1 15).1), ((t.1 16).1), ((t.1 17).2.2)))).2.1.1.1.2.1, (t.1 11).2)), (12, ((tkT (prect kd x y u8 (((t.1 2).1), 0) v8).1 ((((t.1 6).1), ((t.1 7).1), (t.1 5).1 0, (t.1 5).1 1), (((((t.1 9).1), ((t.1 11).1), ((t.1 12).1), (t.1 8).1 0), ((t.1 10).1)), ((t.1 13).1), ((t.1 14).1)), (((t.1 15).1), ((t.1 16).1), ((t.1 17).2.2)))).2.1.1.1.2.2.1, (t.1 12).2)), (13, ((tkT (prect kd x y u8 (((t.1 2).1), 0) v8).1 ((((t.1 6).1), ((t.1 7).1), (t.1 5).1 0, (t.1 5).1 1), (((((t.1 9).1), ((t.1 11).1), ((t.1 12).1), (t.1 8).1 0), ((t.1 10).1)), ((t.1 13).1), ((t.1 14).1)), (((t.1 15).1), ((t.1 16).1), ((t.1 17).2.2)))).2.1.2.1, (t.1 13).2)), (14, ((tkT (prect kd x y u8 (((t.1 2).1), 0) v8).1 ((((t.1 6).1), ((t.1 7).1), (t.1 5).1 0, (t.1 5).1 1), (((((t.1 9).1), ((t.1 11).1), ((t.1 12).1), (t.1 8).1 0), ((t.1 10).1)), ((t.1 13).1), ((t.1 14).1)), (((t.1 15).1), ((t.1 16).1), ((t.1 17).2.2)))).2.1.2.2, (t.1 14).2)), (15, ((tkT (prect kd x y u8 (((t.1 2).1), 0) v8).1 ((((t.1 6).1), ((t.1 7).1), (t.1 5).1 0, (t.1 5).1 1), (((((t.1 9).1), ((t.1 11).1), ((t.1 12).1), (t.1 8).1 0), ((t.1 10).1)), ((t.1 13).1), ((t.1 14).1)), (((t.1 15).1), ((t.1 16).1), ((t.1 17).2.2)))).2.2.1, (t.1 15).2)), (16, ((tkT (prect kd x y u8 (((t.1 2).1), 0) v8).1 ((((t.1 6).1), ((t.1 7).1), (t.1 5).1 0, (t.1 5).1 1), (((((t.1 9).1), ((t.1 11).1), ((t.1 12).1), (t.1 8).1 0), ((t.1 10).1)), ((t.1 13).1), ((t.1 14).1)), (((t.1 15).1), ((t.1 16).1), ((t.1 17).2.2)))).2.2.2.1, (t.1 16).2)), (17, ((t.1 17).1, (t.1 17).2.1, (tkT (prect kd x y u8 (((t.1 2).1), 0) v8).1 ((((t.1 6).1), ((t.1 7).1), (t.1 5).1 0, (t.1 5).1 1), (((((t.1 9).1), ((t.1 11).1), ((t.1 12).1), (t.1 8).1 0), ((t.1 10).1)), ((t.1 13).1), ((t.1 14).1)), (((t.1 15).1), ((t.1 16).1), ((t.1 17).2.2)))).2.2.2.2))], t.2) u w1 ∧ z_kf ad w w1) 1 6 := by
  obtain ⟨e_a, w_a, k_a⟩ := hI.1.2 0 (by decide)
  obtain rfl := kd_0.mp k_a
  obtain ⟨e_pa, w_pa, k_pa⟩ := hI.1.2 1 (by decide)
  obtain rfl := kd_1.mp k_pa
  obtain ⟨e_pa1, w_pa1, k_pa1⟩ := hI.1.2 2 (by decide)
  obtain rfl := kd_2.mp k_pa1
  obtain ⟨e_pa2, w_pa2, k_pa2⟩ := hI.1.2 3 (by decide)
  obtain ⟨v_pa2_f, rfl⟩ := kd_3.mp k_pa2
  obtain ⟨e_pa3, w_pa3, k_pa3⟩ := hI.1.2 4 (by decide)
  obtain ⟨v_pa3_h, rfl⟩ := kd_4.mp k_pa3
  obtain ⟨e_ta, w_ta, k_ta⟩ := hI.1.2 5 (by decide)
  obtain rfl := kd_5.mp k_ta
  obtain ⟨e_ta1, w_ta1, k_ta1⟩ := hI.1.2 6 (by decide)
  obtain rfl := kd_6.mp k_ta1
  obtain ⟨e_ta2, w_ta2, k_ta2⟩ := hI.1.2 7 (by decide)
  obtain rfl := kd_7.mp k_ta2
  obtain ⟨e_taz, w_taz, k_taz⟩ := hI.1.2 8 (by decide)
  obtain rfl := kd_8.mp k_taz
  obtain ⟨e_taz1, w_taz1, k_taz1⟩ := hI.1.2 9 (by decide)
  obtain rfl := kd_9.mp k_taz1
  obtain ⟨e_taz2, w_taz2, k_taz2⟩ := hI.1.2 10 (by decide)
  obtain rfl := kd_10.mp k_taz2
  obtain ⟨e_taz3, w_taz3, k_taz3⟩ := hI.1.2 11 (by decide)
  obtain rfl := kd_11.mp k_taz3
  obtain ⟨e_taz4, w_taz4, k_taz4⟩ := hI.1.2 12 (by decide)
  obtain rfl := kd_12.mp k_taz4
  obtain ⟨e_taz5, w_taz5, k_taz5⟩ := hI.1.2 13 (by decide)
  obtain rfl := kd_13.mp k_taz5
  obtain ⟨e_taz6, w_taz6, k_taz6⟩ := hI.1.2 14 (by decide)
  obtain rfl := kd_14.mp k_taz6
  obtain ⟨e_ta4, w_ta4, k_ta4⟩ := hI.1.2 15 (by decide)
  obtain ⟨c_ta4_0, rfl⟩ := kd_15.mp k_ta4
  obtain ⟨e_ta5, w_ta5, k_ta5⟩ := hI.1.2 16 (by decide)
  obtain rfl := kd_16.mp k_ta5
  obtain ⟨e_ta6, w_ta6, k_ta6⟩ := hI.1.2 17 (by decide)
  obtain rfl := kd_17.mp k_ta6
  refine ((C_Ip_drawN g (ad 0) (ad 1) (ad 5) (ad 18) (ad 31) (ad 32) (ad 36) (ad 42) (ad 45) (ad 47) (ad 49) (ad 50) (ad 51) (ad 2) (ad 3) (ad 4) ((t.1 2).1) v_pa2_f v_pa3_h ((t.1 1).2.2 0) (ad 6) (ad 7) (ad 8) (ad 9) (ad 10) (ad 11) (ad 12) (ad 13) (ad 14) (ad 15) (ad 16) (ad 17) ((((t.1 6).1), ((t.1 7).1), (t.1 5).1 0, (t.1 5).1 1), (((((t.1 9).1), ((t.1 11).1), ((t.1 12).1), (t.1 8).1 0), ((t.1 10).1)), ((t.1 13).1), ((t.1 14).1)), (((t.1 15).1), ((t.1 16).1), ((t.1 17).2.2))) kd hk hki x y u8 v8 hx hy hu hv hz (prect_ch hk hI.2.2.1 v8)).at (hI.1.I [0, 1, 2, 3, 4, 5, 6, 7, 8, 9, 10, 11, 12, 13, 14, 15, 16, 17] _ rfl (by decide) (by decide) (List.forall_mem_cons.mpr ⟨w_a, (List.forall_mem_cons.mpr ⟨w_pa, (List.forall_mem_cons.mpr ⟨w_pa1, (List.forall_mem_cons.mpr ⟨w_pa2, (List.forall_mem_cons.mpr ⟨w_pa3, (List.forall_mem_cons.mpr ⟨w_ta, (List.forall_mem_cons.mpr ⟨w_ta1, (List.forall_mem_cons.mpr ⟨w_ta2, (List.forall_mem_cons.mpr ⟨w_taz, (List.forall_mem_cons.mpr ⟨w_taz1, (List.forall_mem_cons.mpr ⟨w_taz2, (List.forall_mem_cons.mpr ⟨w_taz3, (List.forall_mem_cons.mpr ⟨w_taz4, (List.forall_mem_cons.mpr ⟨w_taz5, (List.forall_mem_cons.mpr ⟨w_taz6, (List.forall_mem_cons.mpr ⟨w_ta4, (List.forall_mem_cons.mpr ⟨w_ta5, (List.forall_mem_cons.mpr ⟨w_ta6, (fun _ h => nomatch h)⟩)⟩)⟩)⟩)⟩)⟩)⟩)⟩)⟩)⟩)⟩)⟩)⟩)⟩)⟩)⟩)⟩)⟩))).mono (Nat.le_of_ble_eq_true rfl) (Nat.le_of_ble_eq_true rfl) (fun o w1 hp => ?_)
  obtain ⟨cs1, hp, hi9⟩ := hp
  obtain ⟨e1, e2⟩ := hp
  subst e1; subst e2
  exact ⟨rfl, hI.fix (t2 := (zup t.1 [(2, ((prect kd x y u8 (((t.1 2).1), 0) v8).1, (t.1 2).2)), (5, ((upd (upd ((t.1 5).1) 0 ((tkT (prect kd x y u8 (((t.1 2).1), 0) v8).1 ((((t.1 6).1), ((t.1 7).1), (t.1 5).1 0, (t.1 5).1 1), (((((t.1 9).1), ((t.1 11).1), ((t.1 12).1), (t.1 8).1 0), ((t.1 10).1)), ((t.1 13).1), ((t.1 14).1)), (((t.1 15).1), ((t.1 16).1), ((t.1 17).2.2)))).1.2.2.1)) 1 ((tkT (prect kd x y u8 (((t.1 2).1), 0) v8).1 ((((t.1 6).1), ((t.1 7).1), (t.1 5).1 0, (t.1 5).1 1), (((((t.1 9).1), ((t.1 11).1), ((t.1 12).1), (t.1 8).1 0), ((t.1 10).1)), ((t.1 13).1), ((t.1 14).1)), (((t.1 15).1), ((t.1 16).1), ((t.1 17).2.2)))).1.2.2.2)), (t.1 5).2.1, (t.1 5).2.2)), (6, ((tkT (prect kd x y u8 (((t.1 2).1), 0) v8).1 ((((t.1 6).1), ((t.1 7).1), (t.1 5).1 0, (t.1 5).1 1), (((((t.1 9).1), ((t.1 11).1), ((t.1 12).1), (t.1 8).1 0), ((t.1 10).1)), ((t.1 13).1), ((t.1 14).1)), (((t.1 15).1), ((t.1 16).1), ((t.1 17).2.2)))).1.1, (t.1 6).2)), (7, ((tkT (prect kd x y u8 (((t.1 2).1), 0) v8).1 ((((t.1 6).1), ((t.1 7).1), (t.1 5).1 0, (t.1 5).1 1), (((((t.1 9).1), ((t.1 11).1), ((t.1 12).1), (t.1 8).1 0), ((t.1 10).1)), ((t.1 13).1), ((t.1 14).1)), (((t.1 15).1), ((t.1 16).1), ((t.1 17).2.2)))).1.2.1, (t.1 7).2)), (8, ((upd ((t.1 8).1) 0 ((tkT (prect kd x y u8 (((t.1 2).1), 0) v8).1 ((((t.1 6).1), ((t.1 7).1), (t.1 5).1 0, (t.1 5).1 1), (((((t.1 9).1), ((t.1 11).1), ((t.1 12).1), (t.1 8).1 0), ((t.1 10).1)), ((t.1 13).1), ((t.1 14).1)), (((t.1 15).1), ((t.1 16).1), ((t.1 17).2.2)))).2.1.1.1.2.2.2)), (t.1 8).2.1, (t.1 8).2.2)), (9, ((tkT (prect kd x y u8 (((t.1 2).1), 0) v8).1 ((((t.1 6).1), ((t.1 7).1), (t.1 5).1 0, (t.1 5).1 1), (((((t.1 9).1), ((t.1 11).1), ((t.1 12).1), (t.1 8).1 0), ((t.1 10).1)), ((t.1 13).1), ((t.1 14).1)), (((t.1 15).1), ((t.1 16).1), ((t.1 17).2.2)))).2.1.1.1.1, (t.1 9).2)), (10, ((tkT (prect kd x y u8 (((t.1 2).1), 0) v8).1 ((((t.1 6).1), ((t.1 7).1), (t.1 5).1 0, (t.1 5).1 1), (((((t.1 9).1), ((t.1 11).1), ((t.1 12).1), (t.1 8).1 0), ((t.1 10).1)), ((t.1 13).1), ((t.1 14).1)), (((t.1 15).1), ((t.1 16).1), ((t.1 17).2.2)))).2.1.1.2, (t.1 10).2)), (11, ((tkT (prect kd x y u8 (((t.1 2).1), 0) v8).1 ((((t.1 6).1), ((t.1 7).1), (t.1 5).1 0, (t.1 5).1 1), (((((t.1 9).1), ((t.1 11).1), ((t.1 12).1), (t.1 8).1 0), ((t.1 10).1)), ((t.1 13).1), ((t.1 14).1)), (((t.1 15).1), ((t.1 16).1), ((t.1 17).2.2)))).2.1.1.1.2.1, (t.1 11).2)), (12, ((tkT (prect kd x y u8 (((t.1 2).1), 0) v8).1 ((((t.1 6).1), ((t.1 7).1), (t.1 5).1 0, (t.1 5).1 1), (((((t.1 9).1), ((t.1 11).1), ((t.1 12).1), (t.1 8).1 0), ((t.1 10).1)), ((t.1 13).1), ((t.1 14).1)), (((t.1 15).1), ((t.1 16).1), ((t.1 17).2.2)))).2.1.1.1.2.2.1, (t.1 12).2)), (13, ((tkT (prect kd x y u8 (((t.1 2).1), 0) v8).1 ((((t.1 6).1), ((t.1 7).1), (t.1 5).1 0, (t.1 5).1 1), (((((t.1 9).1), ((t.1 11).1), ((t.1 12).1), (t.1 8).1 0), ((t.1 10).1)), ((t.1 13).1), ((t.1 14).1)), (((t.1 15).1), ((t.1 16).1), ((t.1 17).2.2)))).2.1.2.1, (t.1 13).2)), (14, ((tkT (prect kd x y u8 (((t.1 2).1), 0) v8).1 ((((t.1 6).1), ((t.1 7).1), (t.1 5).1 0, (t.1 5).1 1), (((((t.1 9).1), ((t.1 11).1), ((t.1 12).1), (t.1 8).1 0), ((t.1 10).1)), ((t.1 13).1), ((t.1 14).1)), (((t.1 15).1), ((t.1 16).1), ((t.1 17).2.2)))).2.1.2.2, (t.1 14).2)), (15, ((tkT (prect kd x y u8 (((t.1 2).1), 0) v8).1 ((((t.1 6).1), ((t.1 7).1), (t.1 5).1 0, (t.1 5).1 1), (((((t.1 9).1), ((t.1 11).1), ((t.1 12).1), (t.1 8).1 0), ((t.1 10).1)), ((t.1 13).1), ((t.1 14).1)), (((t.1 15).1), ((t.1 16).1), ((t.1 17).2.2)))).2.2.1, (t.1 15).2)), (16, ((tkT (prect kd x y u8 (((t.1 2).1), 0) v8).1 ((((t.1 6).1), ((t.1 7).1), (t.1 5).1 0, (t.1 5).1 1), (((((t.1 9).1), ((t.1 11).1), ((t.1 12).1), (t.1 8).1 0), ((t.1 10).1)), ((t.1 13).1), ((t.1 14).1)), (((t.1 15).1), ((t.1 16).1), ((t.1 17).2.2)))).2.2.2.1, (t.1 16).2)), (17, ((t.1 17).1, (t.1 17).2.1, (tkT (prect kd x y u8 (((t.1 2).1), 0) v8).1 ((((t.1 6).1), ((t.1 7).1), (t.1 5).1 0, (t.1 5).1 1), (((((t.1 9).1), ((t.1 11).1), ((t.1 12).1), (t.1 8).1 0), ((t.1 10).1)), ((t.1 13).1), ((t.1 14).1)), (((t.1 15).1), ((t.1 16).1), ((t.1 17).2.2)))).2.2.2.2))], t.2)) (is := [0, 1, 2, 3, 4, 5, 6, 7, 8, 9, 10, 11, 12, 13, 14, 15, 16, 17]) hi9 rfl ⟨kd_0.mpr rfl, kd_1.mpr rfl, kd_2.mpr rfl, kd_3.mpr ⟨_, rfl⟩, kd_4.mpr ⟨_, rfl⟩, kd_5.mpr rfl, kd_6.mpr rfl, kd_7.mpr rfl, kd_8.mpr rfl, kd_9.mpr rfl, kd_10.mpr rfl, kd_11.mpr rfl, kd_12.mpr rfl, kd_13.mpr rfl, kd_14.mpr rfl, kd_15.mpr ⟨c_ta4_0, rfl⟩, kd_16.mpr rfl, kd_17.mpr rfl, trivial⟩ (by decide) (by decide) (fun i hi hn => zup_out (fun q => hn ((by decide : ∀ j ∈ ([2, 5, 6, 7, 8, 9, 10, 11, 12, 13, 14, 15, 16, 17] : List Nat), j ∈ ([0, 1, 2, 3, 4, 5, 6, 7, 8, 9, 10, 11, 12, 13, 14, 15, 16, 17] : List Nat)) i q))) (fun k9 => ⟨prect_ch hk k9.1 v8, k9.2.1, k9.2.2.1, k9.2.2.2.1, (TIX_tk (X := XTt t) (f := (prect kd x y u8 ((t.1 2).1, 0) v8).1) (P := (prect kd x y u8 ((t.1 2).1, 0) v8).1) (fun _ _ => rfl) : TIX (tkT (prect kd x y u8 ((t.1 2).1, 0) v8).1 (XTt t)) (prect kd x y u8 ((t.1 2).1, 0) v8).1)⟩) rfl, z_kf.of (hi9.ke (L := ([0, 1, 2, 3, 4, 5, 6, 7, 8, 9, 10, 11, 12, 13, 14, 15, 16, 17] : List Nat).map ad) rfl) (by decide)⟩
set_option maxHeartbeats 4000000 in
theorem Qx_Ip_partN {g : zG} {ad : Nat → Nat} {t : zTT} {u : zNN} {w : zW} (hI : IV g ad t u w) (p9 : Nat) (h1 : 1 ≤ p9) (h2 : p9 < 9) (hr : ¬ ((nI p9) < 1 ∨ 9 ≤ (nI p9))) : zMB g M_Ip_part [.ref (ad 0), .int (nI p9)] w (fun o w1 => o = .inl (some (.int (nI ((t.1 1).2.2 0)))) ∧ IV g ad (zup t.1 [(1, ((t.1 1).1, (t.1 1).2.1, (fun z => ([p9] : List Nat).getD z 0)))], t.2) u w1 ∧ z_kf ad w w1) 1 6 := by
  obtain ⟨e_a, w_a, k_a⟩ := hI.1.2 0 (by decide)
  obtain rfl := kd_0.mp k_a
  obtain ⟨e_pa, w_pa, k_pa⟩ := hI.1.2 1 (by decide)
  obtain rfl := kd_1.mp k_pa
  obtain ⟨e_pa1, w_pa1, k_pa1⟩ := hI.1.2 2 (by decide)
  obtain rfl := kd_2.mp k_pa1
  obtain ⟨e_pa2, w_pa2, k_pa2⟩ := hI.1.2 3 (by decide)
  obtain ⟨v_pa2_f, rfl⟩ := kd_3.mp k_pa2
  obtain ⟨e_pa3, w_pa3, k_pa3⟩ := hI.1.2 4 (by decide)
  obtain ⟨v_pa3_h, rfl⟩ := kd_4.mp k_pa3
  refine ((C_Ip_partN g (ad 0) (ad 1) (ad 5) (ad 18) (ad 31) (ad 32) (ad 36) (ad 42) (ad 45) (ad 47) (ad 49) (ad 50) (ad 51) (ad 2) (ad 3) (ad 4) ((t.1 2).1) v_pa2_f v_pa3_h ((t.1 1).2.2 0) (nI p9) hr).at (hI.1.I [0, 1, 2, 3, 4] _ rfl (by decide) (by decide) (List.forall_mem_cons.mpr ⟨w_a, (List.forall_mem_cons.mpr ⟨w_pa, (List.forall_mem_cons.mpr ⟨w_pa1, (List.forall_mem_cons.mpr ⟨w_pa2, (List.forall_mem_cons.mpr ⟨w_pa3, (fun _ h => nomatch h)⟩)⟩)⟩)⟩)⟩))).mono (Nat.le_of_ble_eq_true rfl) (Nat.le_of_ble_eq_true rfl) (fun o w1 hp => ?_)
  obtain ⟨cs1, hp, hi9⟩ := hp
  obtain ⟨e1, e2⟩ := hp
  subst e1; subst e2
  exact ⟨rfl, hI.fix (t2 := (zup t.1 [(1, ((t.1 1).1, (t.1 1).2.1, (fun z => ([p9] : List Nat).getD z 0)))], t.2)) (is := [0, 1, 2, 3, 4]) hi9 rfl ⟨kd_0.mpr rfl, kd_1.mpr rfl, kd_2.mpr rfl, kd_3.mpr ⟨_, rfl⟩, kd_4.mpr ⟨_, rfl⟩, trivial⟩ (by decide) (by decide) (fun i hi hn => zup_out (fun q => hn ((by decide : ∀ j ∈ ([1] : List Nat), j ∈ ([0, 1, 2, 3, 4] : List Nat)) i q))) (fun h => ⟨h.1, h.2.1, ⟨h1, h2⟩, h.2.2.2⟩) rfl, z_kf.of (hi9.ke (L := ([0, 1, 2, 3, 4] : List Nat).map ad) rfl) (by decide)⟩
set_option maxHeartbeats 4000000 in
theorem Qx_Ip_undercut {g : zG} {ad : Nat → Nat} {t : zTT} {u : zNN} {w : zW} (hI : IV g ad t u w) : zMB g M_Ip_undercut [.ref (ad 0)] w (fun o w1 => o = .inl (some (.int (nI (ucT ((t.1 2).1) ((t.1 1).2.2 0) 12)))) ∧ IV g ad t u w1 ∧ z_kf ad w w1) 0 0 := by
  obtain ⟨e_a, w_a, k_a⟩ := hI.1.2 0 (by decide)
  obtain rfl := kd_0.mp k_a
  obtain ⟨e_pa, w_pa, k_pa⟩ := hI.1.2 1 (by decide)
  obtain rfl := kd_1.mp k_pa
  obtain ⟨e_pa1, w_pa1, k_pa1⟩ := hI.1.2 2 (by decide)
  obtain rfl := kd_2.mp k_pa1
  obtain ⟨e_pa2, w_pa2, k_pa2⟩ := hI.1.2 3 (by decide)
  obtain ⟨v_pa2_f, rfl⟩ := kd_3.mp k_pa2
  obtain ⟨e_pa3, w_pa3, k_pa3⟩ := hI.1.2 4 (by decide)
  obtain ⟨v_pa3_h, rfl⟩ := kd_4.mp k_pa3
  refine ((C_Ip_undercut g (ad 0) (ad 1) (ad 5) (ad 18) (ad 31) (ad 32) (ad 36) (ad 42) (ad 45) (ad 47) (ad 49) (ad 50) (ad 51) (ad 2) (ad 3) (ad 4) ((t.1 2).1) v_pa2_f v_pa3_h ((t.1 1).2.2 0) hI.2.2.2.2.1.1 hI.2.2.2.2.1.2).at (hI.1.I [0, 1, 2, 3, 4] _ rfl (by decide) (by decide) (List.forall_mem_cons.mpr ⟨w_a, (List.forall_mem_cons.mpr ⟨w_pa, (List.forall_mem_cons.mpr ⟨w_pa1, (List.forall_mem_cons.mpr ⟨w_pa2, (List.forall_mem_cons.mpr ⟨w_pa3, (fun _ h => nomatch h)⟩)⟩)⟩)⟩)⟩))).mono (Nat.le_of_ble_eq_true rfl) (Nat.le_of_ble_eq_true rfl) (fun o w1 hp => ?_)
  obtain ⟨cs1, hp, hi9⟩ := hp
  obtain ⟨e1, e2⟩ := hp
  subst e1; subst e2
  exact ⟨rfl, hI.fix (t2 := t) (is := [0, 1, 2, 3, 4]) hi9 rfl ⟨kd_0.mpr rfl, kd_1.mpr rfl, kd_2.mpr rfl, kd_3.mpr ⟨_, rfl⟩, kd_4.mpr ⟨_, rfl⟩, trivial⟩ (by decide) (by decide) (fun _ _ _ => rfl) (fun h => h) rfl, z_kf.of (hi9.ke (L := ([0, 1, 2, 3, 4] : List Nat).map ad) rfl) (by decide)⟩
set_option maxHeartbeats 4000000 in
theorem Qx_Ip_loose {g : zG} {ad : Nat → Nat} {t : zTT} {u : zNN} {w : zW} (hI : IV g ad t u w) : zMB g M_Ip_loose [.ref (ad 0)] w (fun o w1 => o = .inl (some (.int (nI (loN (t.1 2).1)))) ∧ IV g ad t u w1 ∧ z_kf ad w w1) 0 0 := by
  obtain ⟨e_a, w_a, k_a⟩ := hI.1.2 0 (by decide)
  obtain rfl := kd_0.mp k_a
  obtain ⟨e_pa, w_pa, k_pa⟩ := hI.1.2 1 (by decide)
  obtain rfl := kd_1.mp k_pa
  obtain ⟨e_pa1, w_pa1, k_pa1⟩ := hI.1.2 2 (by decide)
  obtain rfl := kd_2.mp k_pa1
  obtain ⟨e_pa2, w_pa2, k_pa2⟩ := hI.1.2 3 (by decide)
  obtain ⟨v_pa2_f, rfl⟩ := kd_3.mp k_pa2
  obtain ⟨e_pa3, w_pa3, k_pa3⟩ := hI.1.2 4 (by decide)
  obtain ⟨v_pa3_h, rfl⟩ := kd_4.mp k_pa3
  refine ((C_Ip_loose g (ad 0) (ad 1) (ad 5) (ad 18) (ad 31) (ad 32) (ad 36) (ad 42) (ad 45) (ad 47) (ad 49) (ad 50) (ad 51) (ad 2) (ad 3) (ad 4) ((t.1 2).1) v_pa2_f v_pa3_h ((t.1 1).2.2 0)).at (hI.1.I [0, 1, 2, 3, 4] _ rfl (by decide) (by decide) (List.forall_mem_cons.mpr ⟨w_a, (List.forall_mem_cons.mpr ⟨w_pa, (List.forall_mem_cons.mpr ⟨w_pa1, (List.forall_mem_cons.mpr ⟨w_pa2, (List.forall_mem_cons.mpr ⟨w_pa3, (fun _ h => nomatch h)⟩)⟩)⟩)⟩)⟩))).mono (Nat.le_of_ble_eq_true rfl) (Nat.le_of_ble_eq_true rfl) (fun o w1 hp => ?_)
  obtain ⟨cs1, hp, hi9⟩ := hp
  obtain ⟨e1, e2⟩ := hp
  subst e1; subst e2
  exact ⟨by rw [lo_c], hI.fix (t2 := t) (is := [0, 1, 2, 3, 4]) hi9 rfl ⟨kd_0.mpr rfl, kd_1.mpr rfl, kd_2.mpr rfl, kd_3.mpr ⟨_, rfl⟩, kd_4.mpr ⟨_, rfl⟩, trivial⟩ (by decide) (by decide) (fun _ _ _ => rfl) (fun h => h) rfl, z_kf.of (hi9.ke (L := ([0, 1, 2, 3, 4] : List Nat).map ad) rfl) (by decide)⟩
set_option maxHeartbeats 4000000 in
theorem Qx_Ip_cores {g : zG} {ad : Nat → Nat} {t : zTT} {u : zNN} {w : zW} (hI : IV g ad t u w) : zMB g M_Ip_cores [.ref (ad 0)] w (fun o w1 => o = .inl (some (.int (nI (coN (t.1 2).1)))) ∧ IV g ad t u w1 ∧ z_kf ad w w1) 0 0 := by
  obtain ⟨e_a, w_a, k_a⟩ := hI.1.2 0 (by decide)
  obtain rfl := kd_0.mp k_a
  obtain ⟨e_pa, w_pa, k_pa⟩ := hI.1.2 1 (by decide)
  obtain rfl := kd_1.mp k_pa
  obtain ⟨e_pa1, w_pa1, k_pa1⟩ := hI.1.2 2 (by decide)
  obtain rfl := kd_2.mp k_pa1
  obtain ⟨e_pa2, w_pa2, k_pa2⟩ := hI.1.2 3 (by decide)
  obtain ⟨v_pa2_f, rfl⟩ := kd_3.mp k_pa2
  obtain ⟨e_pa3, w_pa3, k_pa3⟩ := hI.1.2 4 (by decide)
  obtain ⟨v_pa3_h, rfl⟩ := kd_4.mp k_pa3
  refine ((C_Ip_cores g (ad 0) (ad 1) (ad 5) (ad 18) (ad 31) (ad 32) (ad 36) (ad 42) (ad 45) (ad 47) (ad 49) (ad 50) (ad 51) (ad 2) (ad 3) (ad 4) ((t.1 2).1) v_pa2_f v_pa3_h ((t.1 1).2.2 0)).at (hI.1.I [0, 1, 2, 3, 4] _ rfl (by decide) (by decide) (List.forall_mem_cons.mpr ⟨w_a, (List.forall_mem_cons.mpr ⟨w_pa, (List.forall_mem_cons.mpr ⟨w_pa1, (List.forall_mem_cons.mpr ⟨w_pa2, (List.forall_mem_cons.mpr ⟨w_pa3, (fun _ h => nomatch h)⟩)⟩)⟩)⟩)⟩))).mono (Nat.le_of_ble_eq_true rfl) (Nat.le_of_ble_eq_true rfl) (fun o w1 hp => ?_)
  obtain ⟨cs1, hp, hi9⟩ := hp
  obtain ⟨e1, e2⟩ := hp
  subst e1; subst e2
  exact ⟨by rw [co_c], hI.fix (t2 := t) (is := [0, 1, 2, 3, 4]) hi9 rfl ⟨kd_0.mpr rfl, kd_1.mpr rfl, kd_2.mpr rfl, kd_3.mpr ⟨_, rfl⟩, kd_4.mpr ⟨_, rfl⟩, trivial⟩ (by decide) (by decide) (fun _ _ _ => rfl) (fun h => h) rfl, z_kf.of (hi9.ke (L := ([0, 1, 2, 3, 4] : List Nat).map ad) rfl) (by decide)⟩
set_option maxHeartbeats 4000000 in
theorem Qx_Ip_weight {g : zG} {ad : Nat → Nat} {t : zTT} {u : zNN} {w : zW} (hI : IV g ad t u w) : zMB g M_Ip_weight [.ref (ad 0)] w (fun o w1 => o = .inl (some (.int (2 * nI (fa_cnt (fun k => tmB (((t.1 2).1) k)) 108)))) ∧ w1 = w) 0 0 := by
  obtain ⟨e_a, w_a, k_a⟩ := hI.1.2 0 (by decide)
  obtain rfl := kd_0.mp k_a
  obtain ⟨e_pa, w_pa, k_pa⟩ := hI.1.2 1 (by decide)
  obtain rfl := kd_1.mp k_pa
  obtain ⟨e_pa1, w_pa1, k_pa1⟩ := hI.1.2 2 (by decide)
  obtain rfl := kd_2.mp k_pa1
  obtain ⟨e_pa2, w_pa2, k_pa2⟩ := hI.1.2 3 (by decide)
  obtain ⟨v_pa2_f, rfl⟩ := kd_3.mp k_pa2
  obtain ⟨e_pa3, w_pa3, k_pa3⟩ := hI.1.2 4 (by decide)
  obtain ⟨v_pa3_h, rfl⟩ := kd_4.mp k_pa3
  have hJ := hI.1.I [0, 1, 2, 3, 4] [((ad 0), .inr (11, [.ref (ad 1), .ref (ad 5), .ref (ad 18), .ref (ad 31), .ref (ad 32), .ref (ad 36), .ref (ad 42), .ref (ad 45), .ref (ad 47), .ref (ad 49), .ref (ad 50), .ref (ad 51)])), ((ad 1), .inr (8, [.ref (ad 2), .ref (ad 3), .ref (ad 4), .int (nI ((t.1 1).2.2 0))])), ((ad 2), .inl (1, 108, .inl ((t.1 2).1))), ((ad 3), .inl (2, 108, .inl v_pa2_f)), ((ad 4), .inl (0, 108, .inl (fun k => nI (v_pa3_h k))))] rfl (by decide) (by decide) (List.forall_mem_cons.mpr ⟨w_a, (List.forall_mem_cons.mpr ⟨w_pa, (List.forall_mem_cons.mpr ⟨w_pa1, (List.forall_mem_cons.mpr ⟨w_pa2, (List.forall_mem_cons.mpr ⟨w_pa3, (fun _ h => nomatch h)⟩)⟩)⟩)⟩)⟩)
  refine ((C_Ip_weight g (ad 0) (ad 1) (ad 5) (ad 18) (ad 31) (ad 32) (ad 36) (ad 42) (ad 45) (ad 47) (ad 49) (ad 50) (ad 51) (ad 2) (ad 3) (ad 4) ((t.1 2).1) v_pa2_f v_pa3_h ((t.1 1).2.2 0)).at hJ).mono (Nat.le_of_ble_eq_true rfl) (Nat.le_of_ble_eq_true rfl) (fun o w1 hp => ?_)
  obtain ⟨cs1, hp, hi9⟩ := hp
  obtain ⟨e1, e2⟩ := hp
  subst e1; subst e2
  exact ⟨rfl, z_I.same hJ hi9⟩
set_option maxHeartbeats 4000000 in
theorem Qx_Ip_cellN {g : zG} {ad : Nat → Nat} {t : zTT} {u : zNN} {w : zW} (hI : IV g ad t u w) (x : Int32) (y : Int32) (c : Nat) (hz : z_cl x y = some c) : zMB g M_Ip_cell [.ref (ad 0), .int x, .int y] w (fun o w1 => o = .inl (some (.int (((t.1 2).1) c))) ∧ w1 = w) 1 6 := by
  obtain ⟨e_a, w_a, k_a⟩ := hI.1.2 0 (by decide)
  obtain rfl := kd_0.mp k_a
  obtain ⟨e_pa, w_pa, k_pa⟩ := hI.1.2 1 (by decide)
  obtain rfl := kd_1.mp k_pa
  obtain ⟨e_pa1, w_pa1, k_pa1⟩ := hI.1.2 2 (by decide)
  obtain rfl := kd_2.mp k_pa1
  obtain ⟨e_pa2, w_pa2, k_pa2⟩ := hI.1.2 3 (by decide)
  obtain ⟨v_pa2_f, rfl⟩ := kd_3.mp k_pa2
  obtain ⟨e_pa3, w_pa3, k_pa3⟩ := hI.1.2 4 (by decide)
  obtain ⟨v_pa3_h, rfl⟩ := kd_4.mp k_pa3
  have hJ := hI.1.I [0, 1, 2, 3, 4] [((ad 0), .inr (11, [.ref (ad 1), .ref (ad 5), .ref (ad 18), .ref (ad 31), .ref (ad 32), .ref (ad 36), .ref (ad 42), .ref (ad 45), .ref (ad 47), .ref (ad 49), .ref (ad 50), .ref (ad 51)])), ((ad 1), .inr (8, [.ref (ad 2), .ref (ad 3), .ref (ad 4), .int (nI ((t.1 1).2.2 0))])), ((ad 2), .inl (1, 108, .inl ((t.1 2).1))), ((ad 3), .inl (2, 108, .inl v_pa2_f)), ((ad 4), .inl (0, 108, .inl (fun k => nI (v_pa3_h k))))] rfl (by decide) (by decide) (List.forall_mem_cons.mpr ⟨w_a, (List.forall_mem_cons.mpr ⟨w_pa, (List.forall_mem_cons.mpr ⟨w_pa1, (List.forall_mem_cons.mpr ⟨w_pa2, (List.forall_mem_cons.mpr ⟨w_pa3, (fun _ h => nomatch h)⟩)⟩)⟩)⟩)⟩)
  refine ((C_Ip_cellN g (ad 0) (ad 1) (ad 5) (ad 18) (ad 31) (ad 32) (ad 36) (ad 42) (ad 45) (ad 47) (ad 49) (ad 50) (ad 51) (ad 2) (ad 3) (ad 4) ((t.1 2).1) v_pa2_f v_pa3_h ((t.1 1).2.2 0) x y c hz hI.2.2.1).at hJ).mono (Nat.le_of_ble_eq_true rfl) (Nat.le_of_ble_eq_true rfl) (fun o w1 hp => ?_)
  obtain ⟨cs1, hp, hi9⟩ := hp
  obtain ⟨e1, e2⟩ := hp
  subst e1; subst e2
  exact ⟨rfl, z_I.same hJ hi9⟩
set_option maxHeartbeats 4000000 in
theorem Qx_Ip_filledInN {g : zG} {ad : Nat → Nat} {t : zTT} {u : zNN} {w : zW} (hI : IV g ad t u w) (x : Int32) (y : Int32) (c : Nat) (hz : z_cl x y = some c) : zMB g M_Ip_filledIn [.ref (ad 0), .int x, .int y] w (fun o w1 => o = .inl (some (.int ((flT ((((t.1 6).1), ((t.1 7).1), (t.1 5).1 0, (t.1 5).1 1), (((((t.1 9).1), ((t.1 11).1), ((t.1 12).1), (t.1 8).1 0), ((t.1 10).1)), ((t.1 13).1), ((t.1 14).1)), (((t.1 15).1), ((t.1 16).1), ((t.1 17).2.2)))).1.2.1 c))) ∧ IV g ad (zup t.1 [(5, ((upd (upd ((t.1 5).1) 0 ((flT ((((t.1 6).1), ((t.1 7).1), (t.1 5).1 0, (t.1 5).1 1), (((((t.1 9).1), ((t.1 11).1), ((t.1 12).1), (t.1 8).1 0), ((t.1 10).1)), ((t.1 13).1), ((t.1 14).1)), (((t.1 15).1), ((t.1 16).1), ((t.1 17).2.2)))).1.2.2.1)) 1 ((flT ((((t.1 6).1), ((t.1 7).1), (t.1 5).1 0, (t.1 5).1 1), (((((t.1 9).1), ((t.1 11).1), ((t.1 12).1), (t.1 8).1 0), ((t.1 10).1)), ((t.1 13).1), ((t.1 14).1)), (((t.1 15).1), ((t.1 16).1), ((t.1 17).2.2)))).1.2.2.2)), (t.1 5).2.1, (t.1 5).2.2)), (6, ((flT ((((t.1 6).1), ((t.1 7).1), (t.1 5).1 0, (t.1 5).1 1), (((((t.1 9).1), ((t.1 11).1), ((t.1 12).1), (t.1 8).1 0), ((t.1 10).1)), ((t.1 13).1), ((t.1 14).1)), (((t.1 15).1), ((t.1 16).1), ((t.1 17).2.2)))).1.1, (t.1 6).2)), (7, ((flT ((((t.1 6).1), ((t.1 7).1), (t.1 5).1 0, (t.1 5).1 1), (((((t.1 9).1), ((t.1 11).1), ((t.1 12).1), (t.1 8).1 0), ((t.1 10).1)), ((t.1 13).1), ((t.1 14).1)), (((t.1 15).1), ((t.1 16).1), ((t.1 17).2.2)))).1.2.1, (t.1 7).2)), (8, ((upd ((t.1 8).1) 0 ((flT ((((t.1 6).1), ((t.1 7).1), (t.1 5).1 0, (t.1 5).1 1), (((((t.1 9).1), ((t.1 11).1), ((t.1 12).1), (t.1 8).1 0), ((t.1 10).1)), ((t.1 13).1), ((t.1 14).1)), (((t.1 15).1), ((t.1 16).1), ((t.1 17).2.2)))).2.1.1.1.2.2.2)), (t.1 8).2.1, (t.1 8).2.2)), (9, ((flT ((((t.1 6).1), ((t.1 7).1), (t.1 5).1 0, (t.1 5).1 1), (((((t.1 9).1), ((t.1 11).1), ((t.1 12).1), (t.1 8).1 0), ((t.1 10).1)), ((t.1 13).1), ((t.1 14).1)), (((t.1 15).1), ((t.1 16).1), ((t.1 17).2.2)))).2.1.1.1.1, (t.1 9).2)), (10, ((flT ((((t.1 6).1), ((t.1 7).1), (t.1 5).1 0, (t.1 5).1 1), (((((t.1 9).1), ((t.1 11).1), ((t.1 12).1), (t.1 8).1 0), ((t.1 10).1)), ((t.1 13).1), ((t.1 14).1)), (((t.1 15).1), ((t.1 16).1), ((t.1 17).2.2)))).2.1.1.2, (t.1 10).2)), (11, ((flT ((((t.1 6).1), ((t.1 7).1), (t.1 5).1 0, (t.1 5).1 1), (((((t.1 9).1), ((t.1 11).1), ((t.1 12).1), (t.1 8).1 0), ((t.1 10).1)), ((t.1 13).1), ((t.1 14).1)), (((t.1 15).1), ((t.1 16).1), ((t.1 17).2.2)))).2.1.1.1.2.1, (t.1 11).2)), (12, ((flT ((((t.1 6).1), ((t.1 7).1), (t.1 5).1 0, (t.1 5).1 1), (((((t.1 9).1), ((t.1 11).1), ((t.1 12).1), (t.1 8).1 0), ((t.1 10).1)), ((t.1 13).1), ((t.1 14).1)), (((t.1 15).1), ((t.1 16).1), ((t.1 17).2.2)))).2.1.1.1.2.2.1, (t.1 12).2)), (13, ((flT ((((t.1 6).1), ((t.1 7).1), (t.1 5).1 0, (t.1 5).1 1), (((((t.1 9).1), ((t.1 11).1), ((t.1 12).1), (t.1 8).1 0), ((t.1 10).1)), ((t.1 13).1), ((t.1 14).1)), (((t.1 15).1), ((t.1 16).1), ((t.1 17).2.2)))).2.1.2.1, (t.1 13).2)), (14, ((flT ((((t.1 6).1), ((t.1 7).1), (t.1 5).1 0, (t.1 5).1 1), (((((t.1 9).1), ((t.1 11).1), ((t.1 12).1), (t.1 8).1 0), ((t.1 10).1)), ((t.1 13).1), ((t.1 14).1)), (((t.1 15).1), ((t.1 16).1), ((t.1 17).2.2)))).2.1.2.2, (t.1 14).2)), (15, ((flT ((((t.1 6).1), ((t.1 7).1), (t.1 5).1 0, (t.1 5).1 1), (((((t.1 9).1), ((t.1 11).1), ((t.1 12).1), (t.1 8).1 0), ((t.1 10).1)), ((t.1 13).1), ((t.1 14).1)), (((t.1 15).1), ((t.1 16).1), ((t.1 17).2.2)))).2.2.1, (t.1 15).2)), (16, ((flT ((((t.1 6).1), ((t.1 7).1), (t.1 5).1 0, (t.1 5).1 1), (((((t.1 9).1), ((t.1 11).1), ((t.1 12).1), (t.1 8).1 0), ((t.1 10).1)), ((t.1 13).1), ((t.1 14).1)), (((t.1 15).1), ((t.1 16).1), ((t.1 17).2.2)))).2.2.2.1, (t.1 16).2)), (17, ((t.1 17).1, (t.1 17).2.1, (flT ((((t.1 6).1), ((t.1 7).1), (t.1 5).1 0, (t.1 5).1 1), (((((t.1 9).1), ((t.1 11).1), ((t.1 12).1), (t.1 8).1 0), ((t.1 10).1)), ((t.1 13).1), ((t.1 14).1)), (((t.1 15).1), ((t.1 16).1), ((t.1 17).2.2)))).2.2.2.2))], t.2) u w1 ∧ z_kf ad w w1) 1 6 := by
  obtain ⟨e_a, w_a, k_a⟩ := hI.1.2 0 (by decide)
  obtain rfl := kd_0.mp k_a
  obtain ⟨e_ta, w_ta, k_ta⟩ := hI.1.2 5 (by decide)
  obtain rfl := kd_5.mp k_ta
  obtain ⟨e_ta1, w_ta1, k_ta1⟩ := hI.1.2 6 (by decide)
  obtain rfl := kd_6.mp k_ta1
  obtain ⟨e_ta2, w_ta2, k_ta2⟩ := hI.1.2 7 (by decide)
  obtain rfl := kd_7.mp k_ta2
  obtain ⟨e_taz, w_taz, k_taz⟩ := hI.1.2 8 (by decide)
  obtain rfl := kd_8.mp k_taz
  obtain ⟨e_taz1, w_taz1, k_taz1⟩ := hI.1.2 9 (by decide)
  obtain rfl := kd_9.mp k_taz1
  obtain ⟨e_taz2, w_taz2, k_taz2⟩ := hI.1.2 10 (by decide)
  obtain rfl := kd_10.mp k_taz2
  obtain ⟨e_taz3, w_taz3, k_taz3⟩ := hI.1.2 11 (by decide)
  obtain rfl := kd_11.mp k_taz3
  obtain ⟨e_taz4, w_taz4, k_taz4⟩ := hI.1.2 12 (by decide)
  obtain rfl := kd_12.mp k_taz4
  obtain ⟨e_taz5, w_taz5, k_taz5⟩ := hI.1.2 13 (by decide)
  obtain rfl := kd_13.mp k_taz5
  obtain ⟨e_taz6, w_taz6, k_taz6⟩ := hI.1.2 14 (by decide)
  obtain rfl := kd_14.mp k_taz6
  obtain ⟨e_ta4, w_ta4, k_ta4⟩ := hI.1.2 15 (by decide)
  obtain ⟨c_ta4_0, rfl⟩ := kd_15.mp k_ta4
  obtain ⟨e_ta5, w_ta5, k_ta5⟩ := hI.1.2 16 (by decide)
  obtain rfl := kd_16.mp k_ta5
  obtain ⟨e_ta6, w_ta6, k_ta6⟩ := hI.1.2 17 (by decide)
  obtain rfl := kd_17.mp k_ta6
  refine ((C_Ip_filledInN g (ad 0) (ad 1) (ad 5) (ad 18) (ad 31) (ad 32) (ad 36) (ad 42) (ad 45) (ad 47) (ad 49) (ad 50) (ad 51) (ad 6) (ad 7) (ad 8) (ad 9) (ad 10) (ad 11) (ad 12) (ad 13) (ad 14) (ad 15) (ad 16) (ad 17) ((((t.1 6).1), ((t.1 7).1), (t.1 5).1 0, (t.1 5).1 1), (((((t.1 9).1), ((t.1 11).1), ((t.1 12).1), (t.1 8).1 0), ((t.1 10).1)), ((t.1 13).1), ((t.1 14).1)), (((t.1 15).1), ((t.1 16).1), ((t.1 17).2.2))) x y c hz).at (hI.1.I [0, 5, 6, 7, 8, 9, 10, 11, 12, 13, 14, 15, 16, 17] _ rfl (by decide) (by decide) (List.forall_mem_cons.mpr ⟨w_a, (List.forall_mem_cons.mpr ⟨w_ta, (List.forall_mem_cons.mpr ⟨w_ta1, (List.forall_mem_cons.mpr ⟨w_ta2, (List.forall_mem_cons.mpr ⟨w_taz, (List.forall_mem_cons.mpr ⟨w_taz1, (List.forall_mem_cons.mpr ⟨w_taz2, (List.forall_mem_cons.mpr ⟨w_taz3, (List.forall_mem_cons.mpr ⟨w_taz4, (List.forall_mem_cons.mpr ⟨w_taz5, (List.forall_mem_cons.mpr ⟨w_taz6, (List.forall_mem_cons.mpr ⟨w_ta4, (List.forall_mem_cons.mpr ⟨w_ta5, (List.forall_mem_cons.mpr ⟨w_ta6, (fun _ h => nomatch h)⟩)⟩)⟩)⟩)⟩)⟩)⟩)⟩)⟩)⟩)⟩)⟩)⟩)⟩))).mono (Nat.le_of_ble_eq_true rfl) (Nat.le_of_ble_eq_true rfl) (fun o w1 hp => ?_)
  obtain ⟨cs1, hp, hi9⟩ := hp
  obtain ⟨e1, e2⟩ := hp
  subst e1; subst e2
  exact ⟨rfl, hI.fix (t2 := (zup t.1 [(5, ((upd (upd ((t.1 5).1) 0 ((flT ((((t.1 6).1), ((t.1 7).1), (t.1 5).1 0, (t.1 5).1 1), (((((t.1 9).1), ((t.1 11).1), ((t.1 12).1), (t.1 8).1 0), ((t.1 10).1)), ((t.1 13).1), ((t.1 14).1)), (((t.1 15).1), ((t.1 16).1), ((t.1 17).2.2)))).1.2.2.1)) 1 ((flT ((((t.1 6).1), ((t.1 7).1), (t.1 5).1 0, (t.1 5).1 1), (((((t.1 9).1), ((t.1 11).1), ((t.1 12).1), (t.1 8).1 0), ((t.1 10).1)), ((t.1 13).1), ((t.1 14).1)), (((t.1 15).1), ((t.1 16).1), ((t.1 17).2.2)))).1.2.2.2)), (t.1 5).2.1, (t.1 5).2.2)), (6, ((flT ((((t.1 6).1), ((t.1 7).1), (t.1 5).1 0, (t.1 5).1 1), (((((t.1 9).1), ((t.1 11).1), ((t.1 12).1), (t.1 8).1 0), ((t.1 10).1)), ((t.1 13).1), ((t.1 14).1)), (((t.1 15).1), ((t.1 16).1), ((t.1 17).2.2)))).1.1, (t.1 6).2)), (7, ((flT ((((t.1 6).1), ((t.1 7).1), (t.1 5).1 0, (t.1 5).1 1), (((((t.1 9).1), ((t.1 11).1), ((t.1 12).1), (t.1 8).1 0), ((t.1 10).1)), ((t.1 13).1), ((t.1 14).1)), (((t.1 15).1), ((t.1 16).1), ((t.1 17).2.2)))).1.2.1, (t.1 7).2)), (8, ((upd ((t.1 8).1) 0 ((flT ((((t.1 6).1), ((t.1 7).1), (t.1 5).1 0, (t.1 5).1 1), (((((t.1 9).1), ((t.1 11).1), ((t.1 12).1), (t.1 8).1 0), ((t.1 10).1)), ((t.1 13).1), ((t.1 14).1)), (((t.1 15).1), ((t.1 16).1), ((t.1 17).2.2)))).2.1.1.1.2.2.2)), (t.1 8).2.1, (t.1 8).2.2)), (9, ((flT ((((t.1 6).1), ((t.1 7).1), (t.1 5).1 0, (t.1 5).1 1), (((((t.1 9).1), ((t.1 11).1), ((t.1 12).1), (t.1 8).1 0), ((t.1 10).1)), ((t.1 13).1), ((t.1 14).1)), (((t.1 15).1), ((t.1 16).1), ((t.1 17).2.2)))).2.1.1.1.1, (t.1 9).2)), (10, ((flT ((((t.1 6).1), ((t.1 7).1), (t.1 5).1 0, (t.1 5).1 1), (((((t.1 9).1), ((t.1 11).1), ((t.1 12).1), (t.1 8).1 0), ((t.1 10).1)), ((t.1 13).1), ((t.1 14).1)), (((t.1 15).1), ((t.1 16).1), ((t.1 17).2.2)))).2.1.1.2, (t.1 10).2)), (11, ((flT ((((t.1 6).1), ((t.1 7).1), (t.1 5).1 0, (t.1 5).1 1), (((((t.1 9).1), ((t.1 11).1), ((t.1 12).1), (t.1 8).1 0), ((t.1 10).1)), ((t.1 13).1), ((t.1 14).1)), (((t.1 15).1), ((t.1 16).1), ((t.1 17).2.2)))).2.1.1.1.2.1, (t.1 11).2)), (12, ((flT ((((t.1 6).1), ((t.1 7).1), (t.1 5).1 0, (t.1 5).1 1), (((((t.1 9).1), ((t.1 11).1), ((t.1 12).1), (t.1 8).1 0), ((t.1 10).1)), ((t.1 13).1), ((t.1 14).1)), (((t.1 15).1), ((t.1 16).1), ((t.1 17).2.2)))).2.1.1.1.2.2.1, (t.1 12).2)), (13, ((flT ((((t.1 6).1), ((t.1 7).1), (t.1 5).1 0, (t.1 5).1 1), (((((t.1 9).1), ((t.1 11).1), ((t.1 12).1), (t.1 8).1 0), ((t.1 10).1)), ((t.1 13).1), ((t.1 14).1)), (((t.1 15).1), ((t.1 16).1), ((t.1 17).2.2)))).2.1.2.1, (t.1 13).2)), (14, ((flT ((((t.1 6).1), ((t.1 7).1), (t.1 5).1 0, (t.1 5).1 1), (((((t.1 9).1), ((t.1 11).1), ((t.1 12).1), (t.1 8).1 0), ((t.1 10).1)), ((t.1 13).1), ((t.1 14).1)), (((t.1 15).1), ((t.1 16).1), ((t.1 17).2.2)))).2.1.2.2, (t.1 14).2)), (15, ((flT ((((t.1 6).1), ((t.1 7).1), (t.1 5).1 0, (t.1 5).1 1), (((((t.1 9).1), ((t.1 11).1), ((t.1 12).1), (t.1 8).1 0), ((t.1 10).1)), ((t.1 13).1), ((t.1 14).1)), (((t.1 15).1), ((t.1 16).1), ((t.1 17).2.2)))).2.2.1, (t.1 15).2)), (16, ((flT ((((t.1 6).1), ((t.1 7).1), (t.1 5).1 0, (t.1 5).1 1), (((((t.1 9).1), ((t.1 11).1), ((t.1 12).1), (t.1 8).1 0), ((t.1 10).1)), ((t.1 13).1), ((t.1 14).1)), (((t.1 15).1), ((t.1 16).1), ((t.1 17).2.2)))).2.2.2.1, (t.1 16).2)), (17, ((t.1 17).1, (t.1 17).2.1, (flT ((((t.1 6).1), ((t.1 7).1), (t.1 5).1 0, (t.1 5).1 1), (((((t.1 9).1), ((t.1 11).1), ((t.1 12).1), (t.1 8).1 0), ((t.1 10).1)), ((t.1 13).1), ((t.1 14).1)), (((t.1 15).1), ((t.1 16).1), ((t.1 17).2.2)))).2.2.2.2))], t.2)) (is := [0, 5, 6, 7, 8, 9, 10, 11, 12, 13, 14, 15, 16, 17]) hi9 rfl ⟨kd_0.mpr rfl, kd_5.mpr rfl, kd_6.mpr rfl, kd_7.mpr rfl, kd_8.mpr rfl, kd_9.mpr rfl, kd_10.mpr rfl, kd_11.mpr rfl, kd_12.mpr rfl, kd_13.mpr rfl, kd_14.mpr rfl, kd_15.mpr ⟨c_ta4_0, rfl⟩, kd_16.mpr rfl, kd_17.mpr rfl, trivial⟩ (by decide) (by decide) (fun i hi hn => zup_out (fun q => hn ((by decide : ∀ j ∈ ([5, 6, 7, 8, 9, 10, 11, 12, 13, 14, 15, 16, 17] : List Nat), j ∈ ([0, 5, 6, 7, 8, 9, 10, 11, 12, 13, 14, 15, 16, 17] : List Nat)) i q))) (fun k9 => ⟨k9.1, k9.2.1, k9.2.2.1, k9.2.2.2.1, (TIX_fl (X := XTt t) k9.2.2.2.2 : TIX (flT (XTt t)) (t.1 2).1)⟩) rfl, z_kf.of (hi9.ke (L := ([0, 5, 6, 7, 8, 9, 10, 11, 12, 13, 14, 15, 16, 17] : List Nat).map ad) rfl) (by decide)⟩
set_option maxHeartbeats 4000000 in
theorem Qx_Ip_frozenInN {g : zG} {ad : Nat → Nat} {t : zTT} {u : zNN} {w : zW} (hI : IV g ad t u w) (x : Int32) (y : Int32) (h : Int32) (c : Nat) (hz : z_cl x y = some c) (hh : 1200 ≤ h ∧ h ≤ 1500) : zMB g M_Ip_frozenIn [.ref (ad 0), .int x, .int y, .int h] w (fun o w1 => o = .inl (some (.int ((frT h ((((t.1 6).1), ((t.1 7).1), (t.1 5).1 0, (t.1 5).1 1), (((((t.1 9).1), ((t.1 11).1), ((t.1 12).1), (t.1 8).1 0), ((t.1 10).1)), ((t.1 13).1), ((t.1 14).1)), (((t.1 15).1), ((t.1 16).1), ((t.1 17).2.2)))).2.1.1.1.2.2.1 c))) ∧ IV g ad (zup t.1 [(5, ((upd (upd ((t.1 5).1) 0 ((frT h ((((t.1 6).1), ((t.1 7).1), (t.1 5).1 0, (t.1 5).1 1), (((((t.1 9).1), ((t.1 11).1), ((t.1 12).1), (t.1 8).1 0), ((t.1 10).1)), ((t.1 13).1), ((t.1 14).1)), (((t.1 15).1), ((t.1 16).1), ((t.1 17).2.2)))).1.2.2.1)) 1 ((frT h ((((t.1 6).1), ((t.1 7).1), (t.1 5).1 0, (t.1 5).1 1), (((((t.1 9).1), ((t.1 11).1), ((t.1 12).1), (t.1 8).1 0), ((t.1 10).1)), ((t.1 13).1), ((t.1 14).1)), (((t.1 15).1), ((t.1 16).1), ((t.1 17).2.2)))).1.2.2.2)), (t.1 5).2.1, (t.1 5).2.2)), (6, ((frT h ((((t.1 6).1), ((t.1 7).1), (t.1 5).1 0, (t.1 5).1 1), (((((t.1 9).1), ((t.1 11).1), ((t.1 12).1), (t.1 8).1 0), ((t.1 10).1)), ((t.1 13).1), ((t.1 14).1)), (((t.1 15).1), ((t.1 16).1), ((t.1 17).2.2)))).1.1, (t.1 6).2)), (7, ((frT h ((((t.1 6).1), ((t.1 7).1), (t.1 5).1 0, (t.1 5).1 1), (((((t.1 9).1), ((t.1 11).1), ((t.1 12).1), (t.1 8).1 0), ((t.1 10).1)), ((t.1 13).1), ((t.1 14).1)), (((t.1 15).1), ((t.1 16).1), ((t.1 17).2.2)))).1.2.1, (t.1 7).2)), (8, ((upd ((t.1 8).1) 0 ((frT h ((((t.1 6).1), ((t.1 7).1), (t.1 5).1 0, (t.1 5).1 1), (((((t.1 9).1), ((t.1 11).1), ((t.1 12).1), (t.1 8).1 0), ((t.1 10).1)), ((t.1 13).1), ((t.1 14).1)), (((t.1 15).1), ((t.1 16).1), ((t.1 17).2.2)))).2.1.1.1.2.2.2)), (t.1 8).2.1, (t.1 8).2.2)), (9, ((frT h ((((t.1 6).1), ((t.1 7).1), (t.1 5).1 0, (t.1 5).1 1), (((((t.1 9).1), ((t.1 11).1), ((t.1 12).1), (t.1 8).1 0), ((t.1 10).1)), ((t.1 13).1), ((t.1 14).1)), (((t.1 15).1), ((t.1 16).1), ((t.1 17).2.2)))).2.1.1.1.1, (t.1 9).2)), (10, ((frT h ((((t.1 6).1), ((t.1 7).1), (t.1 5).1 0, (t.1 5).1 1), (((((t.1 9).1), ((t.1 11).1), ((t.1 12).1), (t.1 8).1 0), ((t.1 10).1)), ((t.1 13).1), ((t.1 14).1)), (((t.1 15).1), ((t.1 16).1), ((t.1 17).2.2)))).2.1.1.2, (t.1 10).2)), (11, ((frT h ((((t.1 6).1), ((t.1 7).1), (t.1 5).1 0, (t.1 5).1 1), (((((t.1 9).1), ((t.1 11).1), ((t.1 12).1), (t.1 8).1 0), ((t.1 10).1)), ((t.1 13).1), ((t.1 14).1)), (((t.1 15).1), ((t.1 16).1), ((t.1 17).2.2)))).2.1.1.1.2.1, (t.1 11).2)), (12, ((frT h ((((t.1 6).1), ((t.1 7).1), (t.1 5).1 0, (t.1 5).1 1), (((((t.1 9).1), ((t.1 11).1), ((t.1 12).1), (t.1 8).1 0), ((t.1 10).1)), ((t.1 13).1), ((t.1 14).1)), (((t.1 15).1), ((t.1 16).1), ((t.1 17).2.2)))).2.1.1.1.2.2.1, (t.1 12).2)), (13, ((frT h ((((t.1 6).1), ((t.1 7).1), (t.1 5).1 0, (t.1 5).1 1), (((((t.1 9).1), ((t.1 11).1), ((t.1 12).1), (t.1 8).1 0), ((t.1 10).1)), ((t.1 13).1), ((t.1 14).1)), (((t.1 15).1), ((t.1 16).1), ((t.1 17).2.2)))).2.1.2.1, (t.1 13).2)), (14, ((frT h ((((t.1 6).1), ((t.1 7).1), (t.1 5).1 0, (t.1 5).1 1), (((((t.1 9).1), ((t.1 11).1), ((t.1 12).1), (t.1 8).1 0), ((t.1 10).1)), ((t.1 13).1), ((t.1 14).1)), (((t.1 15).1), ((t.1 16).1), ((t.1 17).2.2)))).2.1.2.2, (t.1 14).2)), (15, ((frT h ((((t.1 6).1), ((t.1 7).1), (t.1 5).1 0, (t.1 5).1 1), (((((t.1 9).1), ((t.1 11).1), ((t.1 12).1), (t.1 8).1 0), ((t.1 10).1)), ((t.1 13).1), ((t.1 14).1)), (((t.1 15).1), ((t.1 16).1), ((t.1 17).2.2)))).2.2.1, (t.1 15).2)), (16, ((frT h ((((t.1 6).1), ((t.1 7).1), (t.1 5).1 0, (t.1 5).1 1), (((((t.1 9).1), ((t.1 11).1), ((t.1 12).1), (t.1 8).1 0), ((t.1 10).1)), ((t.1 13).1), ((t.1 14).1)), (((t.1 15).1), ((t.1 16).1), ((t.1 17).2.2)))).2.2.2.1, (t.1 16).2)), (17, ((t.1 17).1, (t.1 17).2.1, (frT h ((((t.1 6).1), ((t.1 7).1), (t.1 5).1 0, (t.1 5).1 1), (((((t.1 9).1), ((t.1 11).1), ((t.1 12).1), (t.1 8).1 0), ((t.1 10).1)), ((t.1 13).1), ((t.1 14).1)), (((t.1 15).1), ((t.1 16).1), ((t.1 17).2.2)))).2.2.2.2))], t.2) u w1 ∧ z_kf ad w w1) 2 12 := by
  obtain ⟨e_a, w_a, k_a⟩ := hI.1.2 0 (by decide)
  obtain rfl := kd_0.mp k_a
  obtain ⟨e_ta, w_ta, k_ta⟩ := hI.1.2 5 (by decide)
  obtain rfl := kd_5.mp k_ta
  obtain ⟨e_ta1, w_ta1, k_ta1⟩ := hI.1.2 6 (by decide)
  obtain rfl := kd_6.mp k_ta1
  obtain ⟨e_ta2, w_ta2, k_ta2⟩ := hI.1.2 7 (by decide)
  obtain rfl := kd_7.mp k_ta2
  obtain ⟨e_taz, w_taz, k_taz⟩ := hI.1.2 8 (by decide)
  obtain rfl := kd_8.mp k_taz
  obtain ⟨e_taz1, w_taz1, k_taz1⟩ := hI.1.2 9 (by decide)
  obtain rfl := kd_9.mp k_taz1
  obtain ⟨e_taz2, w_taz2, k_taz2⟩ := hI.1.2 10 (by decide)
  obtain rfl := kd_10.mp k_taz2
  obtain ⟨e_taz3, w_taz3, k_taz3⟩ := hI.1.2 11 (by decide)
  obtain rfl := kd_11.mp k_taz3
  obtain ⟨e_taz4, w_taz4, k_taz4⟩ := hI.1.2 12 (by decide)
  obtain rfl := kd_12.mp k_taz4
  obtain ⟨e_taz5, w_taz5, k_taz5⟩ := hI.1.2 13 (by decide)
  obtain rfl := kd_13.mp k_taz5
  obtain ⟨e_taz6, w_taz6, k_taz6⟩ := hI.1.2 14 (by decide)
  obtain rfl := kd_14.mp k_taz6
  obtain ⟨e_ta4, w_ta4, k_ta4⟩ := hI.1.2 15 (by decide)
  obtain ⟨c_ta4_0, rfl⟩ := kd_15.mp k_ta4
  obtain ⟨e_ta5, w_ta5, k_ta5⟩ := hI.1.2 16 (by decide)
  obtain rfl := kd_16.mp k_ta5
  obtain ⟨e_ta6, w_ta6, k_ta6⟩ := hI.1.2 17 (by decide)
  obtain rfl := kd_17.mp k_ta6
  refine ((C_Ip_frozenInN g (ad 0) (ad 1) (ad 5) (ad 18) (ad 31) (ad 32) (ad 36) (ad 42) (ad 45) (ad 47) (ad 49) (ad 50) (ad 51) (ad 6) (ad 7) (ad 8) (ad 9) (ad 10) (ad 11) (ad 12) (ad 13) (ad 14) (ad 15) (ad 16) (ad 17) ((((t.1 6).1), ((t.1 7).1), (t.1 5).1 0, (t.1 5).1 1), (((((t.1 9).1), ((t.1 11).1), ((t.1 12).1), (t.1 8).1 0), ((t.1 10).1)), ((t.1 13).1), ((t.1 14).1)), (((t.1 15).1), ((t.1 16).1), ((t.1 17).2.2))) x y h c hz hh).at (hI.1.I [0, 5, 6, 7, 8, 9, 10, 11, 12, 13, 14, 15, 16, 17] _ rfl (by decide) (by decide) (List.forall_mem_cons.mpr ⟨w_a, (List.forall_mem_cons.mpr ⟨w_ta, (List.forall_mem_cons.mpr ⟨w_ta1, (List.forall_mem_cons.mpr ⟨w_ta2, (List.forall_mem_cons.mpr ⟨w_taz, (List.forall_mem_cons.mpr ⟨w_taz1, (List.forall_mem_cons.mpr ⟨w_taz2, (List.forall_mem_cons.mpr ⟨w_taz3, (List.forall_mem_cons.mpr ⟨w_taz4, (List.forall_mem_cons.mpr ⟨w_taz5, (List.forall_mem_cons.mpr ⟨w_taz6, (List.forall_mem_cons.mpr ⟨w_ta4, (List.forall_mem_cons.mpr ⟨w_ta5, (List.forall_mem_cons.mpr ⟨w_ta6, (fun _ h => nomatch h)⟩)⟩)⟩)⟩)⟩)⟩)⟩)⟩)⟩)⟩)⟩)⟩)⟩)⟩))).mono (Nat.le_of_ble_eq_true rfl) (Nat.le_of_ble_eq_true rfl) (fun o w1 hp => ?_)
  obtain ⟨cs1, hp, hi9⟩ := hp
  obtain ⟨e1, e2⟩ := hp
  subst e1; subst e2
  exact ⟨rfl, hI.fix (t2 := (zup t.1 [(5, ((upd (upd ((t.1 5).1) 0 ((frT h ((((t.1 6).1), ((t.1 7).1), (t.1 5).1 0, (t.1 5).1 1), (((((t.1 9).1), ((t.1 11).1), ((t.1 12).1), (t.1 8).1 0), ((t.1 10).1)), ((t.1 13).1), ((t.1 14).1)), (((t.1 15).1), ((t.1 16).1), ((t.1 17).2.2)))).1.2.2.1)) 1 ((frT h ((((t.1 6).1), ((t.1 7).1), (t.1 5).1 0, (t.1 5).1 1), (((((t.1 9).1), ((t.1 11).1), ((t.1 12).1), (t.1 8).1 0), ((t.1 10).1)), ((t.1 13).1), ((t.1 14).1)), (((t.1 15).1), ((t.1 16).1), ((t.1 17).2.2)))).1.2.2.2)), (t.1 5).2.1, (t.1 5).2.2)), (6, ((frT h ((((t.1 6).1), ((t.1 7).1), (t.1 5).1 0, (t.1 5).1 1), (((((t.1 9).1), ((t.1 11).1), ((t.1 12).1), (t.1 8).1 0), ((t.1 10).1)), ((t.1 13).1), ((t.1 14).1)), (((t.1 15).1), ((t.1 16).1), ((t.1 17).2.2)))).1.1, (t.1 6).2)), (7, ((frT h ((((t.1 6).1), ((t.1 7).1), (t.1 5).1 0, (t.1 5).1 1), (((((t.1 9).1), ((t.1 11).1), ((t.1 12).1), (t.1 8).1 0), ((t.1 10).1)), ((t.1 13).1), ((t.1 14).1)), (((t.1 15).1), ((t.1 16).1), ((t.1 17).2.2)))).1.2.1, (t.1 7).2)), (8, ((upd ((t.1 8).1) 0 ((frT h ((((t.1 6).1), ((t.1 7).1), (t.1 5).1 0, (t.1 5).1 1), (((((t.1 9).1), ((t.1 11).1), ((t.1 12).1), (t.1 8).1 0), ((t.1 10).1)), ((t.1 13).1), ((t.1 14).1)), (((t.1 15).1), ((t.1 16).1), ((t.1 17).2.2)))).2.1.1.1.2.2.2)), (t.1 8).2.1, (t.1 8).2.2)), (9, ((frT h ((((t.1 6).1), ((t.1 7).1), (t.1 5).1 0, (t.1 5).1 1), (((((t.1 9).1), ((t.1 11).1), ((t.1 12).1), (t.1 8).1 0), ((t.1 10).1)), ((t.1 13).1), ((t.1 14).1)), (((t.1 15).1), ((t.1 16).1), ((t.1 17).2.2)))).2.1.1.1.1, (t.1 9).2)), (10, ((frT h ((((t.1 6).1), ((t.1 7).1), (t.1 5).1 0, (t.1 5).1 1), (((((t.1 9).1), ((t.1 11).1), ((t.1 12).1), (t.1 8).1 0), ((t.1 10).1)), ((t.1 13).1), ((t.1 14).1)), (((t.1 15).1), ((t.1 16).1), ((t.1 17).2.2)))).2.1.1.2, (t.1 10).2)), (11, ((frT h ((((t.1 6).1), ((t.1 7).1), (t.1 5).1 0, (t.1 5).1 1), (((((t.1 9).1), ((t.1 11).1), ((t.1 12).1), (t.1 8).1 0), ((t.1 10).1)), ((t.1 13).1), ((t.1 14).1)), (((t.1 15).1), ((t.1 16).1), ((t.1 17).2.2)))).2.1.1.1.2.1, (t.1 11).2)), (12, ((frT h ((((t.1 6).1), ((t.1 7).1), (t.1 5).1 0, (t.1 5).1 1), (((((t.1 9).1), ((t.1 11).1), ((t.1 12).1), (t.1 8).1 0), ((t.1 10).1)), ((t.1 13).1), ((t.1 14).1)), (((t.1 15).1), ((t.1 16).1), ((t.1 17).2.2)))).2.1.1.1.2.2.1, (t.1 12).2)), (13, ((frT h ((((t.1 6).1), ((t.1 7).1), (t.1 5).1 0, (t.1 5).1 1), (((((t.1 9).1), ((t.1 11).1), ((t.1 12).1), (t.1 8).1 0), ((t.1 10).1)), ((t.1 13).1), ((t.1 14).1)), (((t.1 15).1), ((t.1 16).1), ((t.1 17).2.2)))).2.1.2.1, (t.1 13).2)), (14, ((frT h ((((t.1 6).1), ((t.1 7).1), (t.1 5).1 0, (t.1 5).1 1), (((((t.1 9).1), ((t.1 11).1), ((t.1 12).1), (t.1 8).1 0), ((t.1 10).1)), ((t.1 13).1), ((t.1 14).1)), (((t.1 15).1), ((t.1 16).1), ((t.1 17).2.2)))).2.1.2.2, (t.1 14).2)), (15, ((frT h ((((t.1 6).1), ((t.1 7).1), (t.1 5).1 0, (t.1 5).1 1), (((((t.1 9).1), ((t.1 11).1), ((t.1 12).1), (t.1 8).1 0), ((t.1 10).1)), ((t.1 13).1), ((t.1 14).1)), (((t.1 15).1), ((t.1 16).1), ((t.1 17).2.2)))).2.2.1, (t.1 15).2)), (16, ((frT h ((((t.1 6).1), ((t.1 7).1), (t.1 5).1 0, (t.1 5).1 1), (((((t.1 9).1), ((t.1 11).1), ((t.1 12).1), (t.1 8).1 0), ((t.1 10).1)), ((t.1 13).1), ((t.1 14).1)), (((t.1 15).1), ((t.1 16).1), ((t.1 17).2.2)))).2.2.2.1, (t.1 16).2)), (17, ((t.1 17).1, (t.1 17).2.1, (frT h ((((t.1 6).1), ((t.1 7).1), (t.1 5).1 0, (t.1 5).1 1), (((((t.1 9).1), ((t.1 11).1), ((t.1 12).1), (t.1 8).1 0), ((t.1 10).1)), ((t.1 13).1), ((t.1 14).1)), (((t.1 15).1), ((t.1 16).1), ((t.1 17).2.2)))).2.2.2.2))], t.2)) (is := [0, 5, 6, 7, 8, 9, 10, 11, 12, 13, 14, 15, 16, 17]) hi9 rfl ⟨kd_0.mpr rfl, kd_5.mpr rfl, kd_6.mpr rfl, kd_7.mpr rfl, kd_8.mpr rfl, kd_9.mpr rfl, kd_10.mpr rfl, kd_11.mpr rfl, kd_12.mpr rfl, kd_13.mpr rfl, kd_14.mpr rfl, kd_15.mpr ⟨(frT_01 (X := ((((t.1 6).1), ((t.1 7).1), (t.1 5).1 0, (t.1 5).1 1), (((((t.1 9).1), ((t.1 11).1), ((t.1 12).1), (t.1 8).1 0), ((t.1 10).1)), ((t.1 13).1), ((t.1 14).1)), (((t.1 15).1), ((t.1 16).1), ((t.1 17).2.2)))) c_ta4_0), rfl⟩, kd_16.mpr rfl, kd_17.mpr rfl, trivial⟩ (by decide) (by decide) (fun i hi hn => zup_out (fun q => hn ((by decide : ∀ j ∈ ([5, 6, 7, 8, 9, 10, 11, 12, 13, 14, 15, 16, 17] : List Nat), j ∈ ([0, 5, 6, 7, 8, 9, 10, 11, 12, 13, 14, 15, 16, 17] : List Nat)) i q))) (fun k9 => ⟨k9.1, k9.2.1, k9.2.2.1, k9.2.2.2.1, (TIX_fr (X := XTt t) _ k9.2.2.2.2 : TIX (frT h (XTt t)) (t.1 2).1)⟩) rfl, z_kf.of (hi9.ke (L := ([0, 5, 6, 7, 8, 9, 10, 11, 12, 13, 14, 15, 16, 17] : List Nat).map ad) rfl) (by decide)⟩
set_option maxHeartbeats 4000000 in
theorem Qx_Ip_isFedN {g : zG} {ad : Nat → Nat} {t : zTT} {u : zNN} {w : zW} (hI : IV g ad t u w) (x : Int32) (y : Int32) (h : Int32) (c : Nat) (hz : z_cl x y = some c) (hh : 1200 ≤ h ∧ h ≤ 1500) (hb : (frT h ((((t.1 6).1), ((t.1 7).1), (t.1 5).1 0, (t.1 5).1 1), (((((t.1 9).1), ((t.1 11).1), ((t.1 12).1), (t.1 8).1 0), ((t.1 10).1)), ((t.1 13).1), ((t.1 14).1)), (((t.1 15).1), ((t.1 16).1), ((t.1 17).2.2)))).2.2.1 c = 0 ∨ (frT h ((((t.1 6).1), ((t.1 7).1), (t.1 5).1 0, (t.1 5).1 1), (((((t.1 9).1), ((t.1 11).1), ((t.1 12).1), (t.1 8).1 0), ((t.1 10).1)), ((t.1 13).1), ((t.1 14).1)), (((t.1 15).1), ((t.1 16).1), ((t.1 17).2.2)))).2.2.1 c = 1) : zMB g M_Ip_isFed [.ref (ad 0), .int x, .int y, .int h] w (fun o w1 => o = .inl (some (.int ((frT h ((((t.1 6).1), ((t.1 7).1), (t.1 5).1 0, (t.1 5).1 1), (((((t.1 9).1), ((t.1 11).1), ((t.1 12).1), (t.1 8).1 0), ((t.1 10).1)), ((t.1 13).1), ((t.1 14).1)), (((t.1 15).1), ((t.1 16).1), ((t.1 17).2.2)))).2.2.1 c))) ∧ IV g ad (zup t.1 [(5, ((upd (upd ((t.1 5).1) 0 ((frT h ((((t.1 6).1), ((t.1 7).1), (t.1 5).1 0, (t.1 5).1 1), (((((t.1 9).1), ((t.1 11).1), ((t.1 12).1), (t.1 8).1 0), ((t.1 10).1)), ((t.1 13).1), ((t.1 14).1)), (((t.1 15).1), ((t.1 16).1), ((t.1 17).2.2)))).1.2.2.1)) 1 ((frT h ((((t.1 6).1), ((t.1 7).1), (t.1 5).1 0, (t.1 5).1 1), (((((t.1 9).1), ((t.1 11).1), ((t.1 12).1), (t.1 8).1 0), ((t.1 10).1)), ((t.1 13).1), ((t.1 14).1)), (((t.1 15).1), ((t.1 16).1), ((t.1 17).2.2)))).1.2.2.2)), (t.1 5).2.1, (t.1 5).2.2)), (6, ((frT h ((((t.1 6).1), ((t.1 7).1), (t.1 5).1 0, (t.1 5).1 1), (((((t.1 9).1), ((t.1 11).1), ((t.1 12).1), (t.1 8).1 0), ((t.1 10).1)), ((t.1 13).1), ((t.1 14).1)), (((t.1 15).1), ((t.1 16).1), ((t.1 17).2.2)))).1.1, (t.1 6).2)), (7, ((frT h ((((t.1 6).1), ((t.1 7).1), (t.1 5).1 0, (t.1 5).1 1), (((((t.1 9).1), ((t.1 11).1), ((t.1 12).1), (t.1 8).1 0), ((t.1 10).1)), ((t.1 13).1), ((t.1 14).1)), (((t.1 15).1), ((t.1 16).1), ((t.1 17).2.2)))).1.2.1, (t.1 7).2)), (8, ((upd ((t.1 8).1) 0 ((frT h ((((t.1 6).1), ((t.1 7).1), (t.1 5).1 0, (t.1 5).1 1), (((((t.1 9).1), ((t.1 11).1), ((t.1 12).1), (t.1 8).1 0), ((t.1 10).1)), ((t.1 13).1), ((t.1 14).1)), (((t.1 15).1), ((t.1 16).1), ((t.1 17).2.2)))).2.1.1.1.2.2.2)), (t.1 8).2.1, (t.1 8).2.2)), (9, ((frT h ((((t.1 6).1), ((t.1 7).1), (t.1 5).1 0, (t.1 5).1 1), (((((t.1 9).1), ((t.1 11).1), ((t.1 12).1), (t.1 8).1 0), ((t.1 10).1)), ((t.1 13).1), ((t.1 14).1)), (((t.1 15).1), ((t.1 16).1), ((t.1 17).2.2)))).2.1.1.1.1, (t.1 9).2)), (10, ((frT h ((((t.1 6).1), ((t.1 7).1), (t.1 5).1 0, (t.1 5).1 1), (((((t.1 9).1), ((t.1 11).1), ((t.1 12).1), (t.1 8).1 0), ((t.1 10).1)), ((t.1 13).1), ((t.1 14).1)), (((t.1 15).1), ((t.1 16).1), ((t.1 17).2.2)))).2.1.1.2, (t.1 10).2)), (11, ((frT h ((((t.1 6).1), ((t.1 7).1), (t.1 5).1 0, (t.1 5).1 1), (((((t.1 9).1), ((t.1 11).1), ((t.1 12).1), (t.1 8).1 0), ((t.1 10).1)), ((t.1 13).1), ((t.1 14).1)), (((t.1 15).1), ((t.1 16).1), ((t.1 17).2.2)))).2.1.1.1.2.1, (t.1 11).2)), (12, ((frT h ((((t.1 6).1), ((t.1 7).1), (t.1 5).1 0, (t.1 5).1 1), (((((t.1 9).1), ((t.1 11).1), ((t.1 12).1), (t.1 8).1 0), ((t.1 10).1)), ((t.1 13).1), ((t.1 14).1)), (((t.1 15).1), ((t.1 16).1), ((t.1 17).2.2)))).2.1.1.1.2.2.1, (t.1 12).2)), (13, ((frT h ((((t.1 6).1), ((t.1 7).1), (t.1 5).1 0, (t.1 5).1 1), (((((t.1 9).1), ((t.1 11).1), ((t.1 12).1), (t.1 8).1 0), ((t.1 10).1)), ((t.1 13).1), ((t.1 14).1)), (((t.1 15).1), ((t.1 16).1), ((t.1 17).2.2)))).2.1.2.1, (t.1 13).2)), (14, ((frT h ((((t.1 6).1), ((t.1 7).1), (t.1 5).1 0, (t.1 5).1 1), (((((t.1 9).1), ((t.1 11).1), ((t.1 12).1), (t.1 8).1 0), ((t.1 10).1)), ((t.1 13).1), ((t.1 14).1)), (((t.1 15).1), ((t.1 16).1), ((t.1 17).2.2)))).2.1.2.2, (t.1 14).2)), (15, ((frT h ((((t.1 6).1), ((t.1 7).1), (t.1 5).1 0, (t.1 5).1 1), (((((t.1 9).1), ((t.1 11).1), ((t.1 12).1), (t.1 8).1 0), ((t.1 10).1)), ((t.1 13).1), ((t.1 14).1)), (((t.1 15).1), ((t.1 16).1), ((t.1 17).2.2)))).2.2.1, (t.1 15).2)), (16, ((frT h ((((t.1 6).1), ((t.1 7).1), (t.1 5).1 0, (t.1 5).1 1), (((((t.1 9).1), ((t.1 11).1), ((t.1 12).1), (t.1 8).1 0), ((t.1 10).1)), ((t.1 13).1), ((t.1 14).1)), (((t.1 15).1), ((t.1 16).1), ((t.1 17).2.2)))).2.2.2.1, (t.1 16).2)), (17, ((t.1 17).1, (t.1 17).2.1, (frT h ((((t.1 6).1), ((t.1 7).1), (t.1 5).1 0, (t.1 5).1 1), (((((t.1 9).1), ((t.1 11).1), ((t.1 12).1), (t.1 8).1 0), ((t.1 10).1)), ((t.1 13).1), ((t.1 14).1)), (((t.1 15).1), ((t.1 16).1), ((t.1 17).2.2)))).2.2.2.2))], t.2) u w1 ∧ z_kf ad w w1) 2 12 := by
  obtain ⟨e_a, w_a, k_a⟩ := hI.1.2 0 (by decide)
  obtain rfl := kd_0.mp k_a
  obtain ⟨e_ta, w_ta, k_ta⟩ := hI.1.2 5 (by decide)
  obtain rfl := kd_5.mp k_ta
  obtain ⟨e_ta1, w_ta1, k_ta1⟩ := hI.1.2 6 (by decide)
  obtain rfl := kd_6.mp k_ta1
  obtain ⟨e_ta2, w_ta2, k_ta2⟩ := hI.1.2 7 (by decide)
  obtain rfl := kd_7.mp k_ta2
  obtain ⟨e_taz, w_taz, k_taz⟩ := hI.1.2 8 (by decide)
  obtain rfl := kd_8.mp k_taz
  obtain ⟨e_taz1, w_taz1, k_taz1⟩ := hI.1.2 9 (by decide)
  obtain rfl := kd_9.mp k_taz1
  obtain ⟨e_taz2, w_taz2, k_taz2⟩ := hI.1.2 10 (by decide)
  obtain rfl := kd_10.mp k_taz2
  obtain ⟨e_taz3, w_taz3, k_taz3⟩ := hI.1.2 11 (by decide)
  obtain rfl := kd_11.mp k_taz3
  obtain ⟨e_taz4, w_taz4, k_taz4⟩ := hI.1.2 12 (by decide)
  obtain rfl := kd_12.mp k_taz4
  obtain ⟨e_taz5, w_taz5, k_taz5⟩ := hI.1.2 13 (by decide)
  obtain rfl := kd_13.mp k_taz5
  obtain ⟨e_taz6, w_taz6, k_taz6⟩ := hI.1.2 14 (by decide)
  obtain rfl := kd_14.mp k_taz6
  obtain ⟨e_ta4, w_ta4, k_ta4⟩ := hI.1.2 15 (by decide)
  obtain ⟨c_ta4_0, rfl⟩ := kd_15.mp k_ta4
  obtain ⟨e_ta5, w_ta5, k_ta5⟩ := hI.1.2 16 (by decide)
  obtain rfl := kd_16.mp k_ta5
  obtain ⟨e_ta6, w_ta6, k_ta6⟩ := hI.1.2 17 (by decide)
  obtain rfl := kd_17.mp k_ta6
  refine ((C_Ip_isFedN g (ad 0) (ad 1) (ad 5) (ad 18) (ad 31) (ad 32) (ad 36) (ad 42) (ad 45) (ad 47) (ad 49) (ad 50) (ad 51) (ad 6) (ad 7) (ad 8) (ad 9) (ad 10) (ad 11) (ad 12) (ad 13) (ad 14) (ad 15) (ad 16) (ad 17) ((((t.1 6).1), ((t.1 7).1), (t.1 5).1 0, (t.1 5).1 1), (((((t.1 9).1), ((t.1 11).1), ((t.1 12).1), (t.1 8).1 0), ((t.1 10).1)), ((t.1 13).1), ((t.1 14).1)), (((t.1 15).1), ((t.1 16).1), ((t.1 17).2.2))) x y h c hz hh hb).at (hI.1.I [0, 5, 6, 7, 8, 9, 10, 11, 12, 13, 14, 15, 16, 17] _ rfl (by decide) (by decide) (List.forall_mem_cons.mpr ⟨w_a, (List.forall_mem_cons.mpr ⟨w_ta, (List.forall_mem_cons.mpr ⟨w_ta1, (List.forall_mem_cons.mpr ⟨w_ta2, (List.forall_mem_cons.mpr ⟨w_taz, (List.forall_mem_cons.mpr ⟨w_taz1, (List.forall_mem_cons.mpr ⟨w_taz2, (List.forall_mem_cons.mpr ⟨w_taz3, (List.forall_mem_cons.mpr ⟨w_taz4, (List.forall_mem_cons.mpr ⟨w_taz5, (List.forall_mem_cons.mpr ⟨w_taz6, (List.forall_mem_cons.mpr ⟨w_ta4, (List.forall_mem_cons.mpr ⟨w_ta5, (List.forall_mem_cons.mpr ⟨w_ta6, (fun _ h => nomatch h)⟩)⟩)⟩)⟩)⟩)⟩)⟩)⟩)⟩)⟩)⟩)⟩)⟩)⟩))).mono (Nat.le_of_ble_eq_true rfl) (Nat.le_of_ble_eq_true rfl) (fun o w1 hp => ?_)
  obtain ⟨cs1, hp, hi9⟩ := hp
  obtain ⟨e1, e2⟩ := hp
  subst e1; subst e2
  exact ⟨rfl, hI.fix (t2 := (zup t.1 [(5, ((upd (upd ((t.1 5).1) 0 ((frT h ((((t.1 6).1), ((t.1 7).1), (t.1 5).1 0, (t.1 5).1 1), (((((t.1 9).1), ((t.1 11).1), ((t.1 12).1), (t.1 8).1 0), ((t.1 10).1)), ((t.1 13).1), ((t.1 14).1)), (((t.1 15).1), ((t.1 16).1), ((t.1 17).2.2)))).1.2.2.1)) 1 ((frT h ((((t.1 6).1), ((t.1 7).1), (t.1 5).1 0, (t.1 5).1 1), (((((t.1 9).1), ((t.1 11).1), ((t.1 12).1), (t.1 8).1 0), ((t.1 10).1)), ((t.1 13).1), ((t.1 14).1)), (((t.1 15).1), ((t.1 16).1), ((t.1 17).2.2)))).1.2.2.2)), (t.1 5).2.1, (t.1 5).2.2)), (6, ((frT h ((((t.1 6).1), ((t.1 7).1), (t.1 5).1 0, (t.1 5).1 1), (((((t.1 9).1), ((t.1 11).1), ((t.1 12).1), (t.1 8).1 0), ((t.1 10).1)), ((t.1 13).1), ((t.1 14).1)), (((t.1 15).1), ((t.1 16).1), ((t.1 17).2.2)))).1.1, (t.1 6).2)), (7, ((frT h ((((t.1 6).1), ((t.1 7).1), (t.1 5).1 0, (t.1 5).1 1), (((((t.1 9).1), ((t.1 11).1), ((t.1 12).1), (t.1 8).1 0), ((t.1 10).1)), ((t.1 13).1), ((t.1 14).1)), (((t.1 15).1), ((t.1 16).1), ((t.1 17).2.2)))).1.2.1, (t.1 7).2)), (8, ((upd ((t.1 8).1) 0 ((frT h ((((t.1 6).1), ((t.1 7).1), (t.1 5).1 0, (t.1 5).1 1), (((((t.1 9).1), ((t.1 11).1), ((t.1 12).1), (t.1 8).1 0), ((t.1 10).1)), ((t.1 13).1), ((t.1 14).1)), (((t.1 15).1), ((t.1 16).1), ((t.1 17).2.2)))).2.1.1.1.2.2.2)), (t.1 8).2.1, (t.1 8).2.2)), (9, ((frT h ((((t.1 6).1), ((t.1 7).1), (t.1 5).1 0, (t.1 5).1 1), (((((t.1 9).1), ((t.1 11).1), ((t.1 12).1), (t.1 8).1 0), ((t.1 10).1)), ((t.1 13).1), ((t.1 14).1)), (((t.1 15).1), ((t.1 16).1), ((t.1 17).2.2)))).2.1.1.1.1, (t.1 9).2)), (10, ((frT h ((((t.1 6).1), ((t.1 7).1), (t.1 5).1 0, (t.1 5).1 1), (((((t.1 9).1), ((t.1 11).1), ((t.1 12).1), (t.1 8).1 0), ((t.1 10).1)), ((t.1 13).1), ((t.1 14).1)), (((t.1 15).1), ((t.1 16).1), ((t.1 17).2.2)))).2.1.1.2, (t.1 10).2)), (11, ((frT h ((((t.1 6).1), ((t.1 7).1), (t.1 5).1 0, (t.1 5).1 1), (((((t.1 9).1), ((t.1 11).1), ((t.1 12).1), (t.1 8).1 0), ((t.1 10).1)), ((t.1 13).1), ((t.1 14).1)), (((t.1 15).1), ((t.1 16).1), ((t.1 17).2.2)))).2.1.1.1.2.1, (t.1 11).2)), (12, ((frT h ((((t.1 6).1), ((t.1 7).1), (t.1 5).1 0, (t.1 5).1 1), (((((t.1 9).1), ((t.1 11).1), ((t.1 12).1), (t.1 8).1 0), ((t.1 10).1)), ((t.1 13).1), ((t.1 14).1)), (((t.1 15).1), ((t.1 16).1), ((t.1 17).2.2)))).2.1.1.1.2.2.1, (t.1 12).2)), (13, ((frT h ((((t.1 6).1), ((t.1 7).1), (t.1 5).1 0, (t.1 5).1 1), (((((t.1 9).1), ((t.1 11).1), ((t.1 12).1), (t.1 8).1 0), ((t.1 10).1)), ((t.1 13).1), ((t.1 14).1)), (((t.1 15).1), ((t.1 16).1), ((t.1 17).2.2)))).2.1.2.1, (t.1 13).2)), (14, ((frT h ((((t.1 6).1), ((t.1 7).1), (t.1 5).1 0, (t.1 5).1 1), (((((t.1 9).1), ((t.1 11).1), ((t.1 12).1), (t.1 8).1 0), ((t.1 10).1)), ((t.1 13).1), ((t.1 14).1)), (((t.1 15).1), ((t.1 16).1), ((t.1 17).2.2)))).2.1.2.2, (t.1 14).2)), (15, ((frT h ((((t.1 6).1), ((t.1 7).1), (t.1 5).1 0, (t.1 5).1 1), (((((t.1 9).1), ((t.1 11).1), ((t.1 12).1), (t.1 8).1 0), ((t.1 10).1)), ((t.1 13).1), ((t.1 14).1)), (((t.1 15).1), ((t.1 16).1), ((t.1 17).2.2)))).2.2.1, (t.1 15).2)), (16, ((frT h ((((t.1 6).1), ((t.1 7).1), (t.1 5).1 0, (t.1 5).1 1), (((((t.1 9).1), ((t.1 11).1), ((t.1 12).1), (t.1 8).1 0), ((t.1 10).1)), ((t.1 13).1), ((t.1 14).1)), (((t.1 15).1), ((t.1 16).1), ((t.1 17).2.2)))).2.2.2.1, (t.1 16).2)), (17, ((t.1 17).1, (t.1 17).2.1, (frT h ((((t.1 6).1), ((t.1 7).1), (t.1 5).1 0, (t.1 5).1 1), (((((t.1 9).1), ((t.1 11).1), ((t.1 12).1), (t.1 8).1 0), ((t.1 10).1)), ((t.1 13).1), ((t.1 14).1)), (((t.1 15).1), ((t.1 16).1), ((t.1 17).2.2)))).2.2.2.2))], t.2)) (is := [0, 5, 6, 7, 8, 9, 10, 11, 12, 13, 14, 15, 16, 17]) hi9 rfl ⟨kd_0.mpr rfl, kd_5.mpr rfl, kd_6.mpr rfl, kd_7.mpr rfl, kd_8.mpr rfl, kd_9.mpr rfl, kd_10.mpr rfl, kd_11.mpr rfl, kd_12.mpr rfl, kd_13.mpr rfl, kd_14.mpr rfl, kd_15.mpr ⟨(frT_01 (X := ((((t.1 6).1), ((t.1 7).1), (t.1 5).1 0, (t.1 5).1 1), (((((t.1 9).1), ((t.1 11).1), ((t.1 12).1), (t.1 8).1 0), ((t.1 10).1)), ((t.1 13).1), ((t.1 14).1)), (((t.1 15).1), ((t.1 16).1), ((t.1 17).2.2)))) c_ta4_0), rfl⟩, kd_16.mpr rfl, kd_17.mpr rfl, trivial⟩ (by decide) (by decide) (fun i hi hn => zup_out (fun q => hn ((by decide : ∀ j ∈ ([5, 6, 7, 8, 9, 10, 11, 12, 13, 14, 15, 16, 17] : List Nat), j ∈ ([0, 5, 6, 7, 8, 9, 10, 11, 12, 13, 14, 15, 16, 17] : List Nat)) i q))) (fun k9 => ⟨k9.1, k9.2.1, k9.2.2.1, k9.2.2.2.1, (TIX_fr (X := XTt t) _ k9.2.2.2.2 : TIX (frT h (XTt t)) (t.1 2).1)⟩) rfl, z_kf.of (hi9.ke (L := ([0, 5, 6, 7, 8, 9, 10, 11, 12, 13, 14, 15, 16, 17] : List Nat).map ad) rfl) (by decide)⟩
set_option maxHeartbeats 4000000 in
theorem Qx_Ip_shrunkN {g : zG} {ad : Nat → Nat} {t : zTT} {u : zNN} {w : zW} (hI : IV g ad t u w) (h : Int32) (hh : 1200 ≤ h ∧ h ≤ 1500) : zMB g M_Ip_shrunk [.ref (ad 0), .int h] w (fun o w1 => o = .inl (some (.int (nI (shN (frT h ((((t.1 6).1), ((t.1 7).1), (t.1 5).1 0, (t.1 5).1 1), (((((t.1 9).1), ((t.1 11).1), ((t.1 12).1), (t.1 8).1 0), ((t.1 10).1)), ((t.1 13).1), ((t.1 14).1)), (((t.1 15).1), ((t.1 16).1), ((t.1 17).2.2)))))))) ∧ IV g ad (zup t.1 [(5, ((upd (upd ((t.1 5).1) 0 ((frT h ((((t.1 6).1), ((t.1 7).1), (t.1 5).1 0, (t.1 5).1 1), (((((t.1 9).1), ((t.1 11).1), ((t.1 12).1), (t.1 8).1 0), ((t.1 10).1)), ((t.1 13).1), ((t.1 14).1)), (((t.1 15).1), ((t.1 16).1), ((t.1 17).2.2)))).1.2.2.1)) 1 ((frT h ((((t.1 6).1), ((t.1 7).1), (t.1 5).1 0, (t.1 5).1 1), (((((t.1 9).1), ((t.1 11).1), ((t.1 12).1), (t.1 8).1 0), ((t.1 10).1)), ((t.1 13).1), ((t.1 14).1)), (((t.1 15).1), ((t.1 16).1), ((t.1 17).2.2)))).1.2.2.2)), (t.1 5).2.1, (t.1 5).2.2)), (6, ((frT h ((((t.1 6).1), ((t.1 7).1), (t.1 5).1 0, (t.1 5).1 1), (((((t.1 9).1), ((t.1 11).1), ((t.1 12).1), (t.1 8).1 0), ((t.1 10).1)), ((t.1 13).1), ((t.1 14).1)), (((t.1 15).1), ((t.1 16).1), ((t.1 17).2.2)))).1.1, (t.1 6).2)), (7, ((frT h ((((t.1 6).1), ((t.1 7).1), (t.1 5).1 0, (t.1 5).1 1), (((((t.1 9).1), ((t.1 11).1), ((t.1 12).1), (t.1 8).1 0), ((t.1 10).1)), ((t.1 13).1), ((t.1 14).1)), (((t.1 15).1), ((t.1 16).1), ((t.1 17).2.2)))).1.2.1, (t.1 7).2)), (8, ((upd ((t.1 8).1) 0 ((frT h ((((t.1 6).1), ((t.1 7).1), (t.1 5).1 0, (t.1 5).1 1), (((((t.1 9).1), ((t.1 11).1), ((t.1 12).1), (t.1 8).1 0), ((t.1 10).1)), ((t.1 13).1), ((t.1 14).1)), (((t.1 15).1), ((t.1 16).1), ((t.1 17).2.2)))).2.1.1.1.2.2.2)), (t.1 8).2.1, (t.1 8).2.2)), (9, ((frT h ((((t.1 6).1), ((t.1 7).1), (t.1 5).1 0, (t.1 5).1 1), (((((t.1 9).1), ((t.1 11).1), ((t.1 12).1), (t.1 8).1 0), ((t.1 10).1)), ((t.1 13).1), ((t.1 14).1)), (((t.1 15).1), ((t.1 16).1), ((t.1 17).2.2)))).2.1.1.1.1, (t.1 9).2)), (10, ((frT h ((((t.1 6).1), ((t.1 7).1), (t.1 5).1 0, (t.1 5).1 1), (((((t.1 9).1), ((t.1 11).1), ((t.1 12).1), (t.1 8).1 0), ((t.1 10).1)), ((t.1 13).1), ((t.1 14).1)), (((t.1 15).1), ((t.1 16).1), ((t.1 17).2.2)))).2.1.1.2, (t.1 10).2)), (11, ((frT h ((((t.1 6).1), ((t.1 7).1), (t.1 5).1 0, (t.1 5).1 1), (((((t.1 9).1), ((t.1 11).1), ((t.1 12).1), (t.1 8).1 0), ((t.1 10).1)), ((t.1 13).1), ((t.1 14).1)), (((t.1 15).1), ((t.1 16).1), ((t.1 17).2.2)))).2.1.1.1.2.1, (t.1 11).2)), (12, ((frT h ((((t.1 6).1), ((t.1 7).1), (t.1 5).1 0, (t.1 5).1 1), (((((t.1 9).1), ((t.1 11).1), ((t.1 12).1), (t.1 8).1 0), ((t.1 10).1)), ((t.1 13).1), ((t.1 14).1)), (((t.1 15).1), ((t.1 16).1), ((t.1 17).2.2)))).2.1.1.1.2.2.1, (t.1 12).2)), (13, ((frT h ((((t.1 6).1), ((t.1 7).1), (t.1 5).1 0, (t.1 5).1 1), (((((t.1 9).1), ((t.1 11).1), ((t.1 12).1), (t.1 8).1 0), ((t.1 10).1)), ((t.1 13).1), ((t.1 14).1)), (((t.1 15).1), ((t.1 16).1), ((t.1 17).2.2)))).2.1.2.1, (t.1 13).2)), (14, ((frT h ((((t.1 6).1), ((t.1 7).1), (t.1 5).1 0, (t.1 5).1 1), (((((t.1 9).1), ((t.1 11).1), ((t.1 12).1), (t.1 8).1 0), ((t.1 10).1)), ((t.1 13).1), ((t.1 14).1)), (((t.1 15).1), ((t.1 16).1), ((t.1 17).2.2)))).2.1.2.2, (t.1 14).2)), (15, ((frT h ((((t.1 6).1), ((t.1 7).1), (t.1 5).1 0, (t.1 5).1 1), (((((t.1 9).1), ((t.1 11).1), ((t.1 12).1), (t.1 8).1 0), ((t.1 10).1)), ((t.1 13).1), ((t.1 14).1)), (((t.1 15).1), ((t.1 16).1), ((t.1 17).2.2)))).2.2.1, (t.1 15).2)), (16, ((frT h ((((t.1 6).1), ((t.1 7).1), (t.1 5).1 0, (t.1 5).1 1), (((((t.1 9).1), ((t.1 11).1), ((t.1 12).1), (t.1 8).1 0), ((t.1 10).1)), ((t.1 13).1), ((t.1 14).1)), (((t.1 15).1), ((t.1 16).1), ((t.1 17).2.2)))).2.2.2.1, (t.1 16).2)), (17, ((t.1 17).1, (t.1 17).2.1, (frT h ((((t.1 6).1), ((t.1 7).1), (t.1 5).1 0, (t.1 5).1 1), (((((t.1 9).1), ((t.1 11).1), ((t.1 12).1), (t.1 8).1 0), ((t.1 10).1)), ((t.1 13).1), ((t.1 14).1)), (((t.1 15).1), ((t.1 16).1), ((t.1 17).2.2)))).2.2.2.2))], t.2) u w1 ∧ z_kf ad w w1) 1 6 := by
  obtain ⟨e_a, w_a, k_a⟩ := hI.1.2 0 (by decide)
  obtain rfl := kd_0.mp k_a
  obtain ⟨e_ta, w_ta, k_ta⟩ := hI.1.2 5 (by decide)
  obtain rfl := kd_5.mp k_ta
  obtain ⟨e_ta1, w_ta1, k_ta1⟩ := hI.1.2 6 (by decide)
  obtain rfl := kd_6.mp k_ta1
  obtain ⟨e_ta2, w_ta2, k_ta2⟩ := hI.1.2 7 (by decide)
  obtain rfl := kd_7.mp k_ta2
  obtain ⟨e_taz, w_taz, k_taz⟩ := hI.1.2 8 (by decide)
  obtain rfl := kd_8.mp k_taz
  obtain ⟨e_taz1, w_taz1, k_taz1⟩ := hI.1.2 9 (by decide)
  obtain rfl := kd_9.mp k_taz1
  obtain ⟨e_taz2, w_taz2, k_taz2⟩ := hI.1.2 10 (by decide)
  obtain rfl := kd_10.mp k_taz2
  obtain ⟨e_taz3, w_taz3, k_taz3⟩ := hI.1.2 11 (by decide)
  obtain rfl := kd_11.mp k_taz3
  obtain ⟨e_taz4, w_taz4, k_taz4⟩ := hI.1.2 12 (by decide)
  obtain rfl := kd_12.mp k_taz4
  obtain ⟨e_taz5, w_taz5, k_taz5⟩ := hI.1.2 13 (by decide)
  obtain rfl := kd_13.mp k_taz5
  obtain ⟨e_taz6, w_taz6, k_taz6⟩ := hI.1.2 14 (by decide)
  obtain rfl := kd_14.mp k_taz6
  obtain ⟨e_ta4, w_ta4, k_ta4⟩ := hI.1.2 15 (by decide)
  obtain ⟨c_ta4_0, rfl⟩ := kd_15.mp k_ta4
  obtain ⟨e_ta5, w_ta5, k_ta5⟩ := hI.1.2 16 (by decide)
  obtain rfl := kd_16.mp k_ta5
  obtain ⟨e_ta6, w_ta6, k_ta6⟩ := hI.1.2 17 (by decide)
  obtain rfl := kd_17.mp k_ta6
  refine ((C_Ip_shrunkN g (ad 0) (ad 1) (ad 5) (ad 18) (ad 31) (ad 32) (ad 36) (ad 42) (ad 45) (ad 47) (ad 49) (ad 50) (ad 51) (ad 6) (ad 7) (ad 8) (ad 9) (ad 10) (ad 11) (ad 12) (ad 13) (ad 14) (ad 15) (ad 16) (ad 17) ((((t.1 6).1), ((t.1 7).1), (t.1 5).1 0, (t.1 5).1 1), (((((t.1 9).1), ((t.1 11).1), ((t.1 12).1), (t.1 8).1 0), ((t.1 10).1)), ((t.1 13).1), ((t.1 14).1)), (((t.1 15).1), ((t.1 16).1), ((t.1 17).2.2))) h hh).at (hI.1.I [0, 5, 6, 7, 8, 9, 10, 11, 12, 13, 14, 15, 16, 17] _ rfl (by decide) (by decide) (List.forall_mem_cons.mpr ⟨w_a, (List.forall_mem_cons.mpr ⟨w_ta, (List.forall_mem_cons.mpr ⟨w_ta1, (List.forall_mem_cons.mpr ⟨w_ta2, (List.forall_mem_cons.mpr ⟨w_taz, (List.forall_mem_cons.mpr ⟨w_taz1, (List.forall_mem_cons.mpr ⟨w_taz2, (List.forall_mem_cons.mpr ⟨w_taz3, (List.forall_mem_cons.mpr ⟨w_taz4, (List.forall_mem_cons.mpr ⟨w_taz5, (List.forall_mem_cons.mpr ⟨w_taz6, (List.forall_mem_cons.mpr ⟨w_ta4, (List.forall_mem_cons.mpr ⟨w_ta5, (List.forall_mem_cons.mpr ⟨w_ta6, (fun _ h => nomatch h)⟩)⟩)⟩)⟩)⟩)⟩)⟩)⟩)⟩)⟩)⟩)⟩)⟩)⟩))).mono (Nat.le_of_ble_eq_true rfl) (Nat.le_of_ble_eq_true rfl) (fun o w1 hp => ?_)
  obtain ⟨cs1, hp, hi9⟩ := hp
  obtain ⟨e1, e2⟩ := hp
  subst e1; subst e2
  exact ⟨rfl, hI.fix (t2 := (zup t.1 [(5, ((upd (upd ((t.1 5).1) 0 ((frT h ((((t.1 6).1), ((t.1 7).1), (t.1 5).1 0, (t.1 5).1 1), (((((t.1 9).1), ((t.1 11).1), ((t.1 12).1), (t.1 8).1 0), ((t.1 10).1)), ((t.1 13).1), ((t.1 14).1)), (((t.1 15).1), ((t.1 16).1), ((t.1 17).2.2)))).1.2.2.1)) 1 ((frT h ((((t.1 6).1), ((t.1 7).1), (t.1 5).1 0, (t.1 5).1 1), (((((t.1 9).1), ((t.1 11).1), ((t.1 12).1), (t.1 8).1 0), ((t.1 10).1)), ((t.1 13).1), ((t.1 14).1)), (((t.1 15).1), ((t.1 16).1), ((t.1 17).2.2)))).1.2.2.2)), (t.1 5).2.1, (t.1 5).2.2)), (6, ((frT h ((((t.1 6).1), ((t.1 7).1), (t.1 5).1 0, (t.1 5).1 1), (((((t.1 9).1), ((t.1 11).1), ((t.1 12).1), (t.1 8).1 0), ((t.1 10).1)), ((t.1 13).1), ((t.1 14).1)), (((t.1 15).1), ((t.1 16).1), ((t.1 17).2.2)))).1.1, (t.1 6).2)), (7, ((frT h ((((t.1 6).1), ((t.1 7).1), (t.1 5).1 0, (t.1 5).1 1), (((((t.1 9).1), ((t.1 11).1), ((t.1 12).1), (t.1 8).1 0), ((t.1 10).1)), ((t.1 13).1), ((t.1 14).1)), (((t.1 15).1), ((t.1 16).1), ((t.1 17).2.2)))).1.2.1, (t.1 7).2)), (8, ((upd ((t.1 8).1) 0 ((frT h ((((t.1 6).1), ((t.1 7).1), (t.1 5).1 0, (t.1 5).1 1), (((((t.1 9).1), ((t.1 11).1), ((t.1 12).1), (t.1 8).1 0), ((t.1 10).1)), ((t.1 13).1), ((t.1 14).1)), (((t.1 15).1), ((t.1 16).1), ((t.1 17).2.2)))).2.1.1.1.2.2.2)), (t.1 8).2.1, (t.1 8).2.2)), (9, ((frT h ((((t.1 6).1), ((t.1 7).1), (t.1 5).1 0, (t.1 5).1 1), (((((t.1 9).1), ((t.1 11).1), ((t.1 12).1), (t.1 8).1 0), ((t.1 10).1)), ((t.1 13).1), ((t.1 14).1)), (((t.1 15).1), ((t.1 16).1), ((t.1 17).2.2)))).2.1.1.1.1, (t.1 9).2)), (10, ((frT h ((((t.1 6).1), ((t.1 7).1), (t.1 5).1 0, (t.1 5).1 1), (((((t.1 9).1), ((t.1 11).1), ((t.1 12).1), (t.1 8).1 0), ((t.1 10).1)), ((t.1 13).1), ((t.1 14).1)), (((t.1 15).1), ((t.1 16).1), ((t.1 17).2.2)))).2.1.1.2, (t.1 10).2)), (11, ((frT h ((((t.1 6).1), ((t.1 7).1), (t.1 5).1 0, (t.1 5).1 1), (((((t.1 9).1), ((t.1 11).1), ((t.1 12).1), (t.1 8).1 0), ((t.1 10).1)), ((t.1 13).1), ((t.1 14).1)), (((t.1 15).1), ((t.1 16).1), ((t.1 17).2.2)))).2.1.1.1.2.1, (t.1 11).2)), (12, ((frT h ((((t.1 6).1), ((t.1 7).1), (t.1 5).1 0, (t.1 5).1 1), (((((t.1 9).1), ((t.1 11).1), ((t.1 12).1), (t.1 8).1 0), ((t.1 10).1)), ((t.1 13).1), ((t.1 14).1)), (((t.1 15).1), ((t.1 16).1), ((t.1 17).2.2)))).2.1.1.1.2.2.1, (t.1 12).2)), (13, ((frT h ((((t.1 6).1), ((t.1 7).1), (t.1 5).1 0, (t.1 5).1 1), (((((t.1 9).1), ((t.1 11).1), ((t.1 12).1), (t.1 8).1 0), ((t.1 10).1)), ((t.1 13).1), ((t.1 14).1)), (((t.1 15).1), ((t.1 16).1), ((t.1 17).2.2)))).2.1.2.1, (t.1 13).2)), (14, ((frT h ((((t.1 6).1), ((t.1 7).1), (t.1 5).1 0, (t.1 5).1 1), (((((t.1 9).1), ((t.1 11).1), ((t.1 12).1), (t.1 8).1 0), ((t.1 10).1)), ((t.1 13).1), ((t.1 14).1)), (((t.1 15).1), ((t.1 16).1), ((t.1 17).2.2)))).2.1.2.2, (t.1 14).2)), (15, ((frT h ((((t.1 6).1), ((t.1 7).1), (t.1 5).1 0, (t.1 5).1 1), (((((t.1 9).1), ((t.1 11).1), ((t.1 12).1), (t.1 8).1 0), ((t.1 10).1)), ((t.1 13).1), ((t.1 14).1)), (((t.1 15).1), ((t.1 16).1), ((t.1 17).2.2)))).2.2.1, (t.1 15).2)), (16, ((frT h ((((t.1 6).1), ((t.1 7).1), (t.1 5).1 0, (t.1 5).1 1), (((((t.1 9).1), ((t.1 11).1), ((t.1 12).1), (t.1 8).1 0), ((t.1 10).1)), ((t.1 13).1), ((t.1 14).1)), (((t.1 15).1), ((t.1 16).1), ((t.1 17).2.2)))).2.2.2.1, (t.1 16).2)), (17, ((t.1 17).1, (t.1 17).2.1, (frT h ((((t.1 6).1), ((t.1 7).1), (t.1 5).1 0, (t.1 5).1 1), (((((t.1 9).1), ((t.1 11).1), ((t.1 12).1), (t.1 8).1 0), ((t.1 10).1)), ((t.1 13).1), ((t.1 14).1)), (((t.1 15).1), ((t.1 16).1), ((t.1 17).2.2)))).2.2.2.2))], t.2)) (is := [0, 5, 6, 7, 8, 9, 10, 11, 12, 13, 14, 15, 16, 17]) hi9 rfl ⟨kd_0.mpr rfl, kd_5.mpr rfl, kd_6.mpr rfl, kd_7.mpr rfl, kd_8.mpr rfl, kd_9.mpr rfl, kd_10.mpr rfl, kd_11.mpr rfl, kd_12.mpr rfl, kd_13.mpr rfl, kd_14.mpr rfl, kd_15.mpr ⟨(frT_01 (X := ((((t.1 6).1), ((t.1 7).1), (t.1 5).1 0, (t.1 5).1 1), (((((t.1 9).1), ((t.1 11).1), ((t.1 12).1), (t.1 8).1 0), ((t.1 10).1)), ((t.1 13).1), ((t.1 14).1)), (((t.1 15).1), ((t.1 16).1), ((t.1 17).2.2)))) c_ta4_0), rfl⟩, kd_16.mpr rfl, kd_17.mpr rfl, trivial⟩ (by decide) (by decide) (fun i hi hn => zup_out (fun q => hn ((by decide : ∀ j ∈ ([5, 6, 7, 8, 9, 10, 11, 12, 13, 14, 15, 16, 17] : List Nat), j ∈ ([0, 5, 6, 7, 8, 9, 10, 11, 12, 13, 14, 15, 16, 17] : List Nat)) i q))) (fun k9 => ⟨k9.1, k9.2.1, k9.2.2.1, k9.2.2.2.1, (TIX_fr (X := XTt t) _ k9.2.2.2.2 : TIX (frT h (XTt t)) (t.1 2).1)⟩) rfl, z_kf.of (hi9.ke (L := ([0, 5, 6, 7, 8, 9, 10, 11, 12, 13, 14, 15, 16, 17] : List Nat).map ad) rfl) (by decide)⟩
set_option maxHeartbeats 4000000 in
theorem Qx_Ip_shrunkAnewN {g : zG} {ad : Nat → Nat} {t : zTT} {u : zNN} {w : zW} (hI : IV g ad t u w) (h : Int32) (hh : 1200 ≤ h ∧ h ≤ 1500) : zMB g M_Ip_shrunkAnew [.ref (ad 0), .int h] w (fun o w1 => o = .inl (some (.int (nI (cwX (frT h ((((t.1 6).1), ((t.1 7).1), (t.1 5).1 0, (t.1 5).1 1), (((((t.1 9).1), ((t.1 11).1), ((t.1 12).1), (t.1 8).1 0), ((t.1 10).1)), ((t.1 13).1), ((t.1 14).1)), (((t.1 15).1), ((t.1 16).1), ((t.1 17).2.2))))).2.2))) ∧ IV g ad (zup t.1 [(5, ((upd (upd ((t.1 5).1) 0 ((swT (frT h ((((t.1 6).1), ((t.1 7).1), (t.1 5).1 0, (t.1 5).1 1), (((((t.1 9).1), ((t.1 11).1), ((t.1 12).1), (t.1 8).1 0), ((t.1 10).1)), ((t.1 13).1), ((t.1 14).1)), (((t.1 15).1), ((t.1 16).1), ((t.1 17).2.2)))) (cwX (frT h ((((t.1 6).1), ((t.1 7).1), (t.1 5).1 0, (t.1 5).1 1), (((((t.1 9).1), ((t.1 11).1), ((t.1 12).1), (t.1 8).1 0), ((t.1 10).1)), ((t.1 13).1), ((t.1 14).1)), (((t.1 15).1), ((t.1 16).1), ((t.1 17).2.2))))).1 (cwX (frT h ((((t.1 6).1), ((t.1 7).1), (t.1 5).1 0, (t.1 5).1 1), (((((t.1 9).1), ((t.1 11).1), ((t.1 12).1), (t.1 8).1 0), ((t.1 10).1)), ((t.1 13).1), ((t.1 14).1)), (((t.1 15).1), ((t.1 16).1), ((t.1 17).2.2))))).2.1).1.2.2.1)) 1 ((swT (frT h ((((t.1 6).1), ((t.1 7).1), (t.1 5).1 0, (t.1 5).1 1), (((((t.1 9).1), ((t.1 11).1), ((t.1 12).1), (t.1 8).1 0), ((t.1 10).1)), ((t.1 13).1), ((t.1 14).1)), (((t.1 15).1), ((t.1 16).1), ((t.1 17).2.2)))) (cwX (frT h ((((t.1 6).1), ((t.1 7).1), (t.1 5).1 0, (t.1 5).1 1), (((((t.1 9).1), ((t.1 11).1), ((t.1 12).1), (t.1 8).1 0), ((t.1 10).1)), ((t.1 13).1), ((t.1 14).1)), (((t.1 15).1), ((t.1 16).1), ((t.1 17).2.2))))).1 (cwX (frT h ((((t.1 6).1), ((t.1 7).1), (t.1 5).1 0, (t.1 5).1 1), (((((t.1 9).1), ((t.1 11).1), ((t.1 12).1), (t.1 8).1 0), ((t.1 10).1)), ((t.1 13).1), ((t.1 14).1)), (((t.1 15).1), ((t.1 16).1), ((t.1 17).2.2))))).2.1).1.2.2.2)), (t.1 5).2.1, (t.1 5).2.2)), (6, ((swT (frT h ((((t.1 6).1), ((t.1 7).1), (t.1 5).1 0, (t.1 5).1 1), (((((t.1 9).1), ((t.1 11).1), ((t.1 12).1), (t.1 8).1 0), ((t.1 10).1)), ((t.1 13).1), ((t.1 14).1)), (((t.1 15).1), ((t.1 16).1), ((t.1 17).2.2)))) (cwX (frT h ((((t.1 6).1), ((t.1 7).1), (t.1 5).1 0, (t.1 5).1 1), (((((t.1 9).1), ((t.1 11).1), ((t.1 12).1), (t.1 8).1 0), ((t.1 10).1)), ((t.1 13).1), ((t.1 14).1)), (((t.1 15).1), ((t.1 16).1), ((t.1 17).2.2))))).1 (cwX (frT h ((((t.1 6).1), ((t.1 7).1), (t.1 5).1 0, (t.1 5).1 1), (((((t.1 9).1), ((t.1 11).1), ((t.1 12).1), (t.1 8).1 0), ((t.1 10).1)), ((t.1 13).1), ((t.1 14).1)), (((t.1 15).1), ((t.1 16).1), ((t.1 17).2.2))))).2.1).1.1, (t.1 6).2)), (7, ((swT (frT h ((((t.1 6).1), ((t.1 7).1), (t.1 5).1 0, (t.1 5).1 1), (((((t.1 9).1), ((t.1 11).1), ((t.1 12).1), (t.1 8).1 0), ((t.1 10).1)), ((t.1 13).1), ((t.1 14).1)), (((t.1 15).1), ((t.1 16).1), ((t.1 17).2.2)))) (cwX (frT h ((((t.1 6).1), ((t.1 7).1), (t.1 5).1 0, (t.1 5).1 1), (((((t.1 9).1), ((t.1 11).1), ((t.1 12).1), (t.1 8).1 0), ((t.1 10).1)), ((t.1 13).1), ((t.1 14).1)), (((t.1 15).1), ((t.1 16).1), ((t.1 17).2.2))))).1 (cwX (frT h ((((t.1 6).1), ((t.1 7).1), (t.1 5).1 0, (t.1 5).1 1), (((((t.1 9).1), ((t.1 11).1), ((t.1 12).1), (t.1 8).1 0), ((t.1 10).1)), ((t.1 13).1), ((t.1 14).1)), (((t.1 15).1), ((t.1 16).1), ((t.1 17).2.2))))).2.1).1.2.1, (t.1 7).2)), (8, ((upd ((t.1 8).1) 0 ((swT (frT h ((((t.1 6).1), ((t.1 7).1), (t.1 5).1 0, (t.1 5).1 1), (((((t.1 9).1), ((t.1 11).1), ((t.1 12).1), (t.1 8).1 0), ((t.1 10).1)), ((t.1 13).1), ((t.1 14).1)), (((t.1 15).1), ((t.1 16).1), ((t.1 17).2.2)))) (cwX (frT h ((((t.1 6).1), ((t.1 7).1), (t.1 5).1 0, (t.1 5).1 1), (((((t.1 9).1), ((t.1 11).1), ((t.1 12).1), (t.1 8).1 0), ((t.1 10).1)), ((t.1 13).1), ((t.1 14).1)), (((t.1 15).1), ((t.1 16).1), ((t.1 17).2.2))))).1 (cwX (frT h ((((t.1 6).1), ((t.1 7).1), (t.1 5).1 0, (t.1 5).1 1), (((((t.1 9).1), ((t.1 11).1), ((t.1 12).1), (t.1 8).1 0), ((t.1 10).1)), ((t.1 13).1), ((t.1 14).1)), (((t.1 15).1), ((t.1 16).1), ((t.1 17).2.2))))).2.1).2.1.1.1.2.2.2)), (t.1 8).2.1, (t.1 8).2.2)), (9, ((swT (frT h ((((t.1 6).1), ((t.1 7).1), (t.1 5).1 0, (t.1 5).1 1), (((((t.1 9).1), ((t.1 11).1), ((t.1 12).1), (t.1 8).1 0), ((t.1 10).1)), ((t.1 13).1), ((t.1 14).1)), (((t.1 15).1), ((t.1 16).1), ((t.1 17).2.2)))) (cwX (frT h ((((t.1 6).1), ((t.1 7).1), (t.1 5).1 0, (t.1 5).1 1), (((((t.1 9).1), ((t.1 11).1), ((t.1 12).1), (t.1 8).1 0), ((t.1 10).1)), ((t.1 13).1), ((t.1 14).1)), (((t.1 15).1), ((t.1 16).1), ((t.1 17).2.2))))).1 (cwX (frT h ((((t.1 6).1), ((t.1 7).1), (t.1 5).1 0, (t.1 5).1 1), (((((t.1 9).1), ((t.1 11).1), ((t.1 12).1), (t.1 8).1 0), ((t.1 10).1)), ((t.1 13).1), ((t.1 14).1)), (((t.1 15).1), ((t.1 16).1), ((t.1 17).2.2))))).2.1).2.1.1.1.1, (t.1 9).2)), (10, ((swT (frT h ((((t.1 6).1), ((t.1 7).1), (t.1 5).1 0, (t.1 5).1 1), (((((t.1 9).1), ((t.1 11).1), ((t.1 12).1), (t.1 8).1 0), ((t.1 10).1)), ((t.1 13).1), ((t.1 14).1)), (((t.1 15).1), ((t.1 16).1), ((t.1 17).2.2)))) (cwX (frT h ((((t.1 6).1), ((t.1 7).1), (t.1 5).1 0, (t.1 5).1 1), (((((t.1 9).1), ((t.1 11).1), ((t.1 12).1), (t.1 8).1 0), ((t.1 10).1)), ((t.1 13).1), ((t.1 14).1)), (((t.1 15).1), ((t.1 16).1), ((t.1 17).2.2))))).1 (cwX (frT h ((((t.1 6).1), ((t.1 7).1), (t.1 5).1 0, (t.1 5).1 1), (((((t.1 9).1), ((t.1 11).1), ((t.1 12).1), (t.1 8).1 0), ((t.1 10).1)), ((t.1 13).1), ((t.1 14).1)), (((t.1 15).1), ((t.1 16).1), ((t.1 17).2.2))))).2.1).2.1.1.2, (t.1 10).2)), (11, ((swT (frT h ((((t.1 6).1), ((t.1 7).1), (t.1 5).1 0, (t.1 5).1 1), (((((t.1 9).1), ((t.1 11).1), ((t.1 12).1), (t.1 8).1 0), ((t.1 10).1)), ((t.1 13).1), ((t.1 14).1)), (((t.1 15).1), ((t.1 16).1), ((t.1 17).2.2)))) (cwX (frT h ((((t.1 6).1), ((t.1 7).1), (t.1 5).1 0, (t.1 5).1 1), (((((t.1 9).1), ((t.1 11).1), ((t.1 12).1), (t.1 8).1 0), ((t.1 10).1)), ((t.1 13).1), ((t.1 14).1)), (((t.1 15).1), ((t.1 16).1), ((t.1 17).2.2))))).1 (cwX (frT h ((((t.1 6).1), ((t.1 7).1), (t.1 5).1 0, (t.1 5).1 1), (((((t.1 9).1), ((t.1 11).1), ((t.1 12).1), (t.1 8).1 0), ((t.1 10).1)), ((t.1 13).1), ((t.1 14).1)), (((t.1 15).1), ((t.1 16).1), ((t.1 17).2.2))))).2.1).2.1.1.1.2.1, (t.1 11).2)), (12, ((swT (frT h ((((t.1 6).1), ((t.1 7).1), (t.1 5).1 0, (t.1 5).1 1), (((((t.1 9).1), ((t.1 11).1), ((t.1 12).1), (t.1 8).1 0), ((t.1 10).1)), ((t.1 13).1), ((t.1 14).1)), (((t.1 15).1), ((t.1 16).1), ((t.1 17).2.2)))) (cwX (frT h ((((t.1 6).1), ((t.1 7).1), (t.1 5).1 0, (t.1 5).1 1), (((((t.1 9).1), ((t.1 11).1), ((t.1 12).1), (t.1 8).1 0), ((t.1 10).1)), ((t.1 13).1), ((t.1 14).1)), (((t.1 15).1), ((t.1 16).1), ((t.1 17).2.2))))).1 (cwX (frT h ((((t.1 6).1), ((t.1 7).1), (t.1 5).1 0, (t.1 5).1 1), (((((t.1 9).1), ((t.1 11).1), ((t.1 12).1), (t.1 8).1 0), ((t.1 10).1)), ((t.1 13).1), ((t.1 14).1)), (((t.1 15).1), ((t.1 16).1), ((t.1 17).2.2))))).2.1).2.1.1.1.2.2.1, (t.1 12).2)), (13, ((swT (frT h ((((t.1 6).1), ((t.1 7).1), (t.1 5).1 0, (t.1 5).1 1), (((((t.1 9).1), ((t.1 11).1), ((t.1 12).1), (t.1 8).1 0), ((t.1 10).1)), ((t.1 13).1), ((t.1 14).1)), (((t.1 15).1), ((t.1 16).1), ((t.1 17).2.2)))) (cwX (frT h ((((t.1 6).1), ((t.1 7).1), (t.1 5).1 0, (t.1 5).1 1), (((((t.1 9).1), ((t.1 11).1), ((t.1 12).1), (t.1 8).1 0), ((t.1 10).1)), ((t.1 13).1), ((t.1 14).1)), (((t.1 15).1), ((t.1 16).1), ((t.1 17).2.2))))).1 (cwX (frT h ((((t.1 6).1), ((t.1 7).1), (t.1 5).1 0, (t.1 5).1 1), (((((t.1 9).1), ((t.1 11).1), ((t.1 12).1), (t.1 8).1 0), ((t.1 10).1)), ((t.1 13).1), ((t.1 14).1)), (((t.1 15).1), ((t.1 16).1), ((t.1 17).2.2))))).2.1).2.1.2.1, (t.1 13).2)), (14, ((swT (frT h ((((t.1 6).1), ((t.1 7).1), (t.1 5).1 0, (t.1 5).1 1), (((((t.1 9).1), ((t.1 11).1), ((t.1 12).1), (t.1 8).1 0), ((t.1 10).1)), ((t.1 13).1), ((t.1 14).1)), (((t.1 15).1), ((t.1 16).1), ((t.1 17).2.2)))) (cwX (frT h ((((t.1 6).1), ((t.1 7).1), (t.1 5).1 0, (t.1 5).1 1), (((((t.1 9).1), ((t.1 11).1), ((t.1 12).1), (t.1 8).1 0), ((t.1 10).1)), ((t.1 13).1), ((t.1 14).1)), (((t.1 15).1), ((t.1 16).1), ((t.1 17).2.2))))).1 (cwX (frT h ((((t.1 6).1), ((t.1 7).1), (t.1 5).1 0, (t.1 5).1 1), (((((t.1 9).1), ((t.1 11).1), ((t.1 12).1), (t.1 8).1 0), ((t.1 10).1)), ((t.1 13).1), ((t.1 14).1)), (((t.1 15).1), ((t.1 16).1), ((t.1 17).2.2))))).2.1).2.1.2.2, (t.1 14).2)), (15, ((swT (frT h ((((t.1 6).1), ((t.1 7).1), (t.1 5).1 0, (t.1 5).1 1), (((((t.1 9).1), ((t.1 11).1), ((t.1 12).1), (t.1 8).1 0), ((t.1 10).1)), ((t.1 13).1), ((t.1 14).1)), (((t.1 15).1), ((t.1 16).1), ((t.1 17).2.2)))) (cwX (frT h ((((t.1 6).1), ((t.1 7).1), (t.1 5).1 0, (t.1 5).1 1), (((((t.1 9).1), ((t.1 11).1), ((t.1 12).1), (t.1 8).1 0), ((t.1 10).1)), ((t.1 13).1), ((t.1 14).1)), (((t.1 15).1), ((t.1 16).1), ((t.1 17).2.2))))).1 (cwX (frT h ((((t.1 6).1), ((t.1 7).1), (t.1 5).1 0, (t.1 5).1 1), (((((t.1 9).1), ((t.1 11).1), ((t.1 12).1), (t.1 8).1 0), ((t.1 10).1)), ((t.1 13).1), ((t.1 14).1)), (((t.1 15).1), ((t.1 16).1), ((t.1 17).2.2))))).2.1).2.2.1, (t.1 15).2)), (16, ((swT (frT h ((((t.1 6).1), ((t.1 7).1), (t.1 5).1 0, (t.1 5).1 1), (((((t.1 9).1), ((t.1 11).1), ((t.1 12).1), (t.1 8).1 0), ((t.1 10).1)), ((t.1 13).1), ((t.1 14).1)), (((t.1 15).1), ((t.1 16).1), ((t.1 17).2.2)))) (cwX (frT h ((((t.1 6).1), ((t.1 7).1), (t.1 5).1 0, (t.1 5).1 1), (((((t.1 9).1), ((t.1 11).1), ((t.1 12).1), (t.1 8).1 0), ((t.1 10).1)), ((t.1 13).1), ((t.1 14).1)), (((t.1 15).1), ((t.1 16).1), ((t.1 17).2.2))))).1 (cwX (frT h ((((t.1 6).1), ((t.1 7).1), (t.1 5).1 0, (t.1 5).1 1), (((((t.1 9).1), ((t.1 11).1), ((t.1 12).1), (t.1 8).1 0), ((t.1 10).1)), ((t.1 13).1), ((t.1 14).1)), (((t.1 15).1), ((t.1 16).1), ((t.1 17).2.2))))).2.1).2.2.2.1, (t.1 16).2)), (17, ((t.1 17).1, (t.1 17).2.1, (swT (frT h ((((t.1 6).1), ((t.1 7).1), (t.1 5).1 0, (t.1 5).1 1), (((((t.1 9).1), ((t.1 11).1), ((t.1 12).1), (t.1 8).1 0), ((t.1 10).1)), ((t.1 13).1), ((t.1 14).1)), (((t.1 15).1), ((t.1 16).1), ((t.1 17).2.2)))) (cwX (frT h ((((t.1 6).1), ((t.1 7).1), (t.1 5).1 0, (t.1 5).1 1), (((((t.1 9).1), ((t.1 11).1), ((t.1 12).1), (t.1 8).1 0), ((t.1 10).1)), ((t.1 13).1), ((t.1 14).1)), (((t.1 15).1), ((t.1 16).1), ((t.1 17).2.2))))).1 (cwX (frT h ((((t.1 6).1), ((t.1 7).1), (t.1 5).1 0, (t.1 5).1 1), (((((t.1 9).1), ((t.1 11).1), ((t.1 12).1), (t.1 8).1 0), ((t.1 10).1)), ((t.1 13).1), ((t.1 14).1)), (((t.1 15).1), ((t.1 16).1), ((t.1 17).2.2))))).2.1).2.2.2.2))], t.2) u w1 ∧ z_kf ad w w1) 1 6 := by
  obtain ⟨e_a, w_a, k_a⟩ := hI.1.2 0 (by decide)
  obtain rfl := kd_0.mp k_a
  obtain ⟨e_ta, w_ta, k_ta⟩ := hI.1.2 5 (by decide)
  obtain rfl := kd_5.mp k_ta
  obtain ⟨e_ta1, w_ta1, k_ta1⟩ := hI.1.2 6 (by decide)
  obtain rfl := kd_6.mp k_ta1
  obtain ⟨e_ta2, w_ta2, k_ta2⟩ := hI.1.2 7 (by decide)
  obtain rfl := kd_7.mp k_ta2
  obtain ⟨e_taz, w_taz, k_taz⟩ := hI.1.2 8 (by decide)
  obtain rfl := kd_8.mp k_taz
  obtain ⟨e_taz1, w_taz1, k_taz1⟩ := hI.1.2 9 (by decide)
  obtain rfl := kd_9.mp k_taz1
  obtain ⟨e_taz2, w_taz2, k_taz2⟩ := hI.1.2 10 (by decide)
  obtain rfl := kd_10.mp k_taz2
  obtain ⟨e_taz3, w_taz3, k_taz3⟩ := hI.1.2 11 (by decide)
  obtain rfl := kd_11.mp k_taz3
  obtain ⟨e_taz4, w_taz4, k_taz4⟩ := hI.1.2 12 (by decide)
  obtain rfl := kd_12.mp k_taz4
  obtain ⟨e_taz5, w_taz5, k_taz5⟩ := hI.1.2 13 (by decide)
  obtain rfl := kd_13.mp k_taz5
  obtain ⟨e_taz6, w_taz6, k_taz6⟩ := hI.1.2 14 (by decide)
  obtain rfl := kd_14.mp k_taz6
  obtain ⟨e_ta4, w_ta4, k_ta4⟩ := hI.1.2 15 (by decide)
  obtain ⟨c_ta4_0, rfl⟩ := kd_15.mp k_ta4
  obtain ⟨e_ta5, w_ta5, k_ta5⟩ := hI.1.2 16 (by decide)
  obtain rfl := kd_16.mp k_ta5
  obtain ⟨e_ta6, w_ta6, k_ta6⟩ := hI.1.2 17 (by decide)
  obtain rfl := kd_17.mp k_ta6
  refine ((C_Ip_shrunkAnewN g (ad 0) (ad 1) (ad 5) (ad 18) (ad 31) (ad 32) (ad 36) (ad 42) (ad 45) (ad 47) (ad 49) (ad 50) (ad 51) (ad 6) (ad 7) (ad 8) (ad 9) (ad 10) (ad 11) (ad 12) (ad 13) (ad 14) (ad 15) (ad 16) (ad 17) ((((t.1 6).1), ((t.1 7).1), (t.1 5).1 0, (t.1 5).1 1), (((((t.1 9).1), ((t.1 11).1), ((t.1 12).1), (t.1 8).1 0), ((t.1 10).1)), ((t.1 13).1), ((t.1 14).1)), (((t.1 15).1), ((t.1 16).1), ((t.1 17).2.2))) h hh).at (hI.1.I [0, 5, 6, 7, 8, 9, 10, 11, 12, 13, 14, 15, 16, 17] _ rfl (by decide) (by decide) (List.forall_mem_cons.mpr ⟨w_a, (List.forall_mem_cons.mpr ⟨w_ta, (List.forall_mem_cons.mpr ⟨w_ta1, (List.forall_mem_cons.mpr ⟨w_ta2, (List.forall_mem_cons.mpr ⟨w_taz, (List.forall_mem_cons.mpr ⟨w_taz1, (List.forall_mem_cons.mpr ⟨w_taz2, (List.forall_mem_cons.mpr ⟨w_taz3, (List.forall_mem_cons.mpr ⟨w_taz4, (List.forall_mem_cons.mpr ⟨w_taz5, (List.forall_mem_cons.mpr ⟨w_taz6, (List.forall_mem_cons.mpr ⟨w_ta4, (List.forall_mem_cons.mpr ⟨w_ta5, (List.forall_mem_cons.mpr ⟨w_ta6, (fun _ h => nomatch h)⟩)⟩)⟩)⟩)⟩)⟩)⟩)⟩)⟩)⟩)⟩)⟩)⟩)⟩))).mono (Nat.le_of_ble_eq_true rfl) (Nat.le_of_ble_eq_true rfl) (fun o w1 hp => ?_)
  obtain ⟨cs1, hp, hi9⟩ := hp
  obtain ⟨e1, e2⟩ := hp
  subst e1; subst e2
  exact ⟨rfl, hI.fix (t2 := (zup t.1 [(5, ((upd (upd ((t.1 5).1) 0 ((swT (frT h ((((t.1 6).1), ((t.1 7).1), (t.1 5).1 0, (t.1 5).1 1), (((((t.1 9).1), ((t.1 11).1), ((t.1 12).1), (t.1 8).1 0), ((t.1 10).1)), ((t.1 13).1), ((t.1 14).1)), (((t.1 15).1), ((t.1 16).1), ((t.1 17).2.2)))) (cwX (frT h ((((t.1 6).1), ((t.1 7).1), (t.1 5).1 0, (t.1 5).1 1), (((((t.1 9).1), ((t.1 11).1), ((t.1 12).1), (t.1 8).1 0), ((t.1 10).1)), ((t.1 13).1), ((t.1 14).1)), (((t.1 15).1), ((t.1 16).1), ((t.1 17).2.2))))).1 (cwX (frT h ((((t.1 6).1), ((t.1 7).1), (t.1 5).1 0, (t.1 5).1 1), (((((t.1 9).1), ((t.1 11).1), ((t.1 12).1), (t.1 8).1 0), ((t.1 10).1)), ((t.1 13).1), ((t.1 14).1)), (((t.1 15).1), ((t.1 16).1), ((t.1 17).2.2))))).2.1).1.2.2.1)) 1 ((swT (frT h ((((t.1 6).1), ((t.1 7).1), (t.1 5).1 0, (t.1 5).1 1), (((((t.1 9).1), ((t.1 11).1), ((t.1 12).1), (t.1 8).1 0), ((t.1 10).1)), ((t.1 13).1), ((t.1 14).1)), (((t.1 15).1), ((t.1 16).1), ((t.1 17).2.2)))) (cwX (frT h ((((t.1 6).1), ((t.1 7).1), (t.1 5).1 0, (t.1 5).1 1), (((((t.1 9).1), ((t.1 11).1), ((t.1 12).1), (t.1 8).1 0), ((t.1 10).1)), ((t.1 13).1), ((t.1 14).1)), (((t.1 15).1), ((t.1 16).1), ((t.1 17).2.2))))).1 (cwX (frT h ((((t.1 6).1), ((t.1 7).1), (t.1 5).1 0, (t.1 5).1 1), (((((t.1 9).1), ((t.1 11).1), ((t.1 12).1), (t.1 8).1 0), ((t.1 10).1)), ((t.1 13).1), ((t.1 14).1)), (((t.1 15).1), ((t.1 16).1), ((t.1 17).2.2))))).2.1).1.2.2.2)), (t.1 5).2.1, (t.1 5).2.2)), (6, ((swT (frT h ((((t.1 6).1), ((t.1 7).1), (t.1 5).1 0, (t.1 5).1 1), (((((t.1 9).1), ((t.1 11).1), ((t.1 12).1), (t.1 8).1 0), ((t.1 10).1)), ((t.1 13).1), ((t.1 14).1)), (((t.1 15).1), ((t.1 16).1), ((t.1 17).2.2)))) (cwX (frT h ((((t.1 6).1), ((t.1 7).1), (t.1 5).1 0, (t.1 5).1 1), (((((t.1 9).1), ((t.1 11).1), ((t.1 12).1), (t.1 8).1 0), ((t.1 10).1)), ((t.1 13).1), ((t.1 14).1)), (((t.1 15).1), ((t.1 16).1), ((t.1 17).2.2))))).1 (cwX (frT h ((((t.1 6).1), ((t.1 7).1), (t.1 5).1 0, (t.1 5).1 1), (((((t.1 9).1), ((t.1 11).1), ((t.1 12).1), (t.1 8).1 0), ((t.1 10).1)), ((t.1 13).1), ((t.1 14).1)), (((t.1 15).1), ((t.1 16).1), ((t.1 17).2.2))))).2.1).1.1, (t.1 6).2)), (7, ((swT (frT h ((((t.1 6).1), ((t.1 7).1), (t.1 5).1 0, (t.1 5).1 1), (((((t.1 9).1), ((t.1 11).1), ((t.1 12).1), (t.1 8).1 0), ((t.1 10).1)), ((t.1 13).1), ((t.1 14).1)), (((t.1 15).1), ((t.1 16).1), ((t.1 17).2.2)))) (cwX (frT h ((((t.1 6).1), ((t.1 7).1), (t.1 5).1 0, (t.1 5).1 1), (((((t.1 9).1), ((t.1 11).1), ((t.1 12).1), (t.1 8).1 0), ((t.1 10).1)), ((t.1 13).1), ((t.1 14).1)), (((t.1 15).1), ((t.1 16).1), ((t.1 17).2.2))))).1 (cwX (frT h ((((t.1 6).1), ((t.1 7).1), (t.1 5).1 0, (t.1 5).1 1), (((((t.1 9).1), ((t.1 11).1), ((t.1 12).1), (t.1 8).1 0), ((t.1 10).1)), ((t.1 13).1), ((t.1 14).1)), (((t.1 15).1), ((t.1 16).1), ((t.1 17).2.2))))).2.1).1.2.1, (t.1 7).2)), (8, ((upd ((t.1 8).1) 0 ((swT (frT h ((((t.1 6).1), ((t.1 7).1), (t.1 5).1 0, (t.1 5).1 1), (((((t.1 9).1), ((t.1 11).1), ((t.1 12).1), (t.1 8).1 0), ((t.1 10).1)), ((t.1 13).1), ((t.1 14).1)), (((t.1 15).1), ((t.1 16).1), ((t.1 17).2.2)))) (cwX (frT h ((((t.1 6).1), ((t.1 7).1), (t.1 5).1 0, (t.1 5).1 1), (((((t.1 9).1), ((t.1 11).1), ((t.1 12).1), (t.1 8).1 0), ((t.1 10).1)), ((t.1 13).1), ((t.1 14).1)), (((t.1 15).1), ((t.1 16).1), ((t.1 17).2.2))))).1 (cwX (frT h ((((t.1 6).1), ((t.1 7).1), (t.1 5).1 0, (t.1 5).1 1), (((((t.1 9).1), ((t.1 11).1), ((t.1 12).1), (t.1 8).1 0), ((t.1 10).1)), ((t.1 13).1), ((t.1 14).1)), (((t.1 15).1), ((t.1 16).1), ((t.1 17).2.2))))).2.1).2.1.1.1.2.2.2)), (t.1 8).2.1, (t.1 8).2.2)), (9, ((swT (frT h ((((t.1 6).1), ((t.1 7).1), (t.1 5).1 0, (t.1 5).1 1), (((((t.1 9).1), ((t.1 11).1), ((t.1 12).1), (t.1 8).1 0), ((t.1 10).1)), ((t.1 13).1), ((t.1 14).1)), (((t.1 15).1), ((t.1 16).1), ((t.1 17).2.2)))) (cwX (frT h ((((t.1 6).1), ((t.1 7).1), (t.1 5).1 0, (t.1 5).1 1), (((((t.1 9).1), ((t.1 11).1), ((t.1 12).1), (t.1 8).1 0), ((t.1 10).1)), ((t.1 13).1), ((t.1 14).1)), (((t.1 15).1), ((t.1 16).1), ((t.1 17).2.2))))).1 (cwX (frT h ((((t.1 6).1), ((t.1 7).1), (t.1 5).1 0, (t.1 5).1 1), (((((t.1 9).1), ((t.1 11).1), ((t.1 12).1), (t.1 8).1 0), ((t.1 10).1)), ((t.1 13).1), ((t.1 14).1)), (((t.1 15).1), ((t.1 16).1), ((t.1 17).2.2))))).2.1).2.1.1.1.1, (t.1 9).2)), (10, ((swT (frT h ((((t.1 6).1), ((t.1 7).1), (t.1 5).1 0, (t.1 5).1 1), (((((t.1 9).1), ((t.1 11).1), ((t.1 12).1), (t.1 8).1 0), ((t.1 10).1)), ((t.1 13).1), ((t.1 14).1)), (((t.1 15).1), ((t.1 16).1), ((t.1 17).2.2)))) (cwX (frT h ((((t.1 6).1), ((t.1 7).1), (t.1 5).1 0, (t.1 5).1 1), (((((t.1 9).1), ((t.1 11).1), ((t.1 12).1), (t.1 8).1 0), ((t.1 10).1)), ((t.1 13).1), ((t.1 14).1)), (((t.1 15).1), ((t.1 16).1), ((t.1 17).2.2))))).1 (cwX (frT h ((((t.1 6).1), ((t.1 7).1), (t.1 5).1 0, (t.1 5).1 1), (((((t.1 9).1), ((t.1 11).1), ((t.1 12).1), (t.1 8).1 0), ((t.1 10).1)), ((t.1 13).1), ((t.1 14).1)), (((t.1 15).1), ((t.1 16).1), ((t.1 17).2.2))))).2.1).2.1.1.2, (t.1 10).2)), (11, ((swT (frT h ((((t.1 6).1), ((t.1 7).1), (t.1 5).1 0, (t.1 5).1 1), (((((t.1 9).1), ((t.1 11).1), ((t.1 12).1), (t.1 8).1 0), ((t.1 10).1)), ((t.1 13).1), ((t.1 14).1)), (((t.1 15).1), ((t.1 16).1), ((t.1 17).2.2)))) (cwX (frT h ((((t.1 6).1), ((t.1 7).1), (t.1 5).1 0, (t.1 5).1 1), (((((t.1 9).1), ((t.1 11).1), ((t.1 12).1), (t.1 8).1 0), ((t.1 10).1)), ((t.1 13).1), ((t.1 14).1)), (((t.1 15).1), ((t.1 16).1), ((t.1 17).2.2))))).1 (cwX (frT h ((((t.1 6).1), ((t.1 7).1), (t.1 5).1 0, (t.1 5).1 1), (((((t.1 9).1), ((t.1 11).1), ((t.1 12).1), (t.1 8).1 0), ((t.1 10).1)), ((t.1 13).1), ((t.1 14).1)), (((t.1 15).1), ((t.1 16).1), ((t.1 17).2.2))))).2.1).2.1.1.1.2.1, (t.1 11).2)), (12, ((swT (frT h ((((t.1 6).1), ((t.1 7).1), (t.1 5).1 0, (t.1 5).1 1), (((((t.1 9).1), ((t.1 11).1), ((t.1 12).1), (t.1 8).1 0), ((t.1 10).1)), ((t.1 13).1), ((t.1 14).1)), (((t.1 15).1), ((t.1 16).1), ((t.1 17).2.2)))) (cwX (frT h ((((t.1 6).1), ((t.1 7).1), (t.1 5).1 0, (t.1 5).1 1), (((((t.1 9).1), ((t.1 11).1), ((t.1 12).1), (t.1 8).1 0), ((t.1 10).1)), ((t.1 13).1), ((t.1 14).1)), (((t.1 15).1), ((t.1 16).1), ((t.1 17).2.2))))).1 (cwX (frT h ((((t.1 6).1), ((t.1 7).1), (t.1 5).1 0, (t.1 5).1 1), (((((t.1 9).1), ((t.1 11).1), ((t.1 12).1), (t.1 8).1 0), ((t.1 10).1)), ((t.1 13).1), ((t.1 14).1)), (((t.1 15).1), ((t.1 16).1), ((t.1 17).2.2))))).2.1).2.1.1.1.2.2.1, (t.1 12).2)), (13, ((swT (frT h ((((t.1 6).1), ((t.1 7).1), (t.1 5).1 0, (t.1 5).1 1), (((((t.1 9).1), ((t.1 11).1), ((t.1 12).1), (t.1 8).1 0), ((t.1 10).1)), ((t.1 13).1), ((t.1 14).1)), (((t.1 15).1), ((t.1 16).1), ((t.1 17).2.2)))) (cwX (frT h ((((t.1 6).1), ((t.1 7).1), (t.1 5).1 0, (t.1 5).1 1), (((((t.1 9).1), ((t.1 11).1), ((t.1 12).1), (t.1 8).1 0), ((t.1 10).1)), ((t.1 13).1), ((t.1 14).1)), (((t.1 15).1), ((t.1 16).1), ((t.1 17).2.2))))).1 (cwX (frT h ((((t.1 6).1), ((t.1 7).1), (t.1 5).1 0, (t.1 5).1 1), (((((t.1 9).1), ((t.1 11).1), ((t.1 12).1), (t.1 8).1 0), ((t.1 10).1)), ((t.1 13).1), ((t.1 14).1)), (((t.1 15).1), ((t.1 16).1), ((t.1 17).2.2))))).2.1).2.1.2.1, (t.1 13).2)), (14, ((swT (frT h ((((t.1 6).1), ((t.1 7).1), (t.1 5).1 0, (t.1 5).1 1), (((((t.1 9).1), ((t.1 11).1), ((t.1 12).1), (t.1 8).1 0), ((t.1 10).1)), ((t.1 13).1), ((t.1 14).1)), (((t.1 15).1), ((t.1 16).1), ((t.1 17).2.2)))) (cwX (frT h ((((t.1 6).1), ((t.1 7).1), (t.1 5).1 0, (t.1 5).1 1), (((((t.1 9).1), ((t.1 11).1), ((t.1 12).1), (t.1 8).1 0), ((t.1 10).1)), ((t.1 13).1), ((t.1 14).1)), (((t.1 15).1), ((t.1 16).1), ((t.1 17).2.2))))).1 (cwX (frT h ((((t.1 6).1), ((t.1 7).1), (t.1 5).1 0, (t.1 5).1 1), (((((t.1 9).1), ((t.1 11).1), ((t.1 12).1), (t.1 8).1 0), ((t.1 10).1)), ((t.1 13).1), ((t.1 14).1)), (((t.1 15).1), ((t.1 16).1), ((t.1 17).2.2))))).2.1).2.1.2.2, (t.1 14).2)), (15, ((swT (frT h ((((t.1 6).1), ((t.1 7).1), (t.1 5).1 0, (t.1 5).1 1), (((((t.1 9).1), ((t.1 11).1), ((t.1 12).1), (t.1 8).1 0), ((t.1 10).1)), ((t.1 13).1), ((t.1 14).1)), (((t.1 15).1), ((t.1 16).1), ((t.1 17).2.2)))) (cwX (frT h ((((t.1 6).1), ((t.1 7).1), (t.1 5).1 0, (t.1 5).1 1), (((((t.1 9).1), ((t.1 11).1), ((t.1 12).1), (t.1 8).1 0), ((t.1 10).1)), ((t.1 13).1), ((t.1 14).1)), (((t.1 15).1), ((t.1 16).1), ((t.1 17).2.2))))).1 (cwX (frT h ((((t.1 6).1), ((t.1 7).1), (t.1 5).1 0, (t.1 5).1 1), (((((t.1 9).1), ((t.1 11).1), ((t.1 12).1), (t.1 8).1 0), ((t.1 10).1)), ((t.1 13).1), ((t.1 14).1)), (((t.1 15).1), ((t.1 16).1), ((t.1 17).2.2))))).2.1).2.2.1, (t.1 15).2)), (16, ((swT (frT h ((((t.1 6).1), ((t.1 7).1), (t.1 5).1 0, (t.1 5).1 1), (((((t.1 9).1), ((t.1 11).1), ((t.1 12).1), (t.1 8).1 0), ((t.1 10).1)), ((t.1 13).1), ((t.1 14).1)), (((t.1 15).1), ((t.1 16).1), ((t.1 17).2.2)))) (cwX (frT h ((((t.1 6).1), ((t.1 7).1), (t.1 5).1 0, (t.1 5).1 1), (((((t.1 9).1), ((t.1 11).1), ((t.1 12).1), (t.1 8).1 0), ((t.1 10).1)), ((t.1 13).1), ((t.1 14).1)), (((t.1 15).1), ((t.1 16).1), ((t.1 17).2.2))))).1 (cwX (frT h ((((t.1 6).1), ((t.1 7).1), (t.1 5).1 0, (t.1 5).1 1), (((((t.1 9).1), ((t.1 11).1), ((t.1 12).1), (t.1 8).1 0), ((t.1 10).1)), ((t.1 13).1), ((t.1 14).1)), (((t.1 15).1), ((t.1 16).1), ((t.1 17).2.2))))).2.1).2.2.2.1, (t.1 16).2)), (17, ((t.1 17).1, (t.1 17).2.1, (swT (frT h ((((t.1 6).1), ((t.1 7).1), (t.1 5).1 0, (t.1 5).1 1), (((((t.1 9).1), ((t.1 11).1), ((t.1 12).1), (t.1 8).1 0), ((t.1 10).1)), ((t.1 13).1), ((t.1 14).1)), (((t.1 15).1), ((t.1 16).1), ((t.1 17).2.2)))) (cwX (frT h ((((t.1 6).1), ((t.1 7).1), (t.1 5).1 0, (t.1 5).1 1), (((((t.1 9).1), ((t.1 11).1), ((t.1 12).1), (t.1 8).1 0), ((t.1 10).1)), ((t.1 13).1), ((t.1 14).1)), (((t.1 15).1), ((t.1 16).1), ((t.1 17).2.2))))).1 (cwX (frT h ((((t.1 6).1), ((t.1 7).1), (t.1 5).1 0, (t.1 5).1 1), (((((t.1 9).1), ((t.1 11).1), ((t.1 12).1), (t.1 8).1 0), ((t.1 10).1)), ((t.1 13).1), ((t.1 14).1)), (((t.1 15).1), ((t.1 16).1), ((t.1 17).2.2))))).2.1).2.2.2.2))], t.2)) (is := [0, 5, 6, 7, 8, 9, 10, 11, 12, 13, 14, 15, 16, 17]) hi9 rfl ⟨kd_0.mpr rfl, kd_5.mpr rfl, kd_6.mpr rfl, kd_7.mpr rfl, kd_8.mpr rfl, kd_9.mpr rfl, kd_10.mpr rfl, kd_11.mpr rfl, kd_12.mpr rfl, kd_13.mpr rfl, kd_14.mpr rfl, kd_15.mpr ⟨(frT_01 (X := ((((t.1 6).1), ((t.1 7).1), (t.1 5).1 0, (t.1 5).1 1), (((((t.1 9).1), ((t.1 11).1), ((t.1 12).1), (t.1 8).1 0), ((t.1 10).1)), ((t.1 13).1), ((t.1 14).1)), (((t.1 15).1), ((t.1 16).1), ((t.1 17).2.2)))) c_ta4_0), rfl⟩, kd_16.mpr rfl, kd_17.mpr rfl, trivial⟩ (by decide) (by decide) (fun i hi hn => zup_out (fun q => hn ((by decide : ∀ j ∈ ([5, 6, 7, 8, 9, 10, 11, 12, 13, 14, 15, 16, 17] : List Nat), j ∈ ([0, 5, 6, 7, 8, 9, 10, 11, 12, 13, 14, 15, 16, 17] : List Nat)) i q))) (fun k9 => ⟨k9.1, k9.2.1, k9.2.2.1, k9.2.2.2.1, (TIX_fr (X := XTt t) _ k9.2.2.2.2 : TIX (frT h (XTt t)) (t.1 2).1)⟩) rfl, z_kf.of (hi9.ke (L := ([0, 5, 6, 7, 8, 9, 10, 11, 12, 13, 14, 15, 16, 17] : List Nat).map ad) rfl) (by decide)⟩
set_option maxHeartbeats 4000000 in
theorem Qx_Ip_charge112N {g : zG} {ad : Nat → Nat} {t : zTT} {u : zNN} {w : zW} (hI : IV g ad t u w) (m : Int32) (hw : (1 ≤ m ∧ m ≤ 1000)) (hg : ¬ 3000 < ((t.1 37).1 0) + m) : zMB g M_Ip_charge [.ref (ad 0), .int 112, .int m] w (fun o w1 => o = .inl (some (.int (((t.1 37).1 0) + m))) ∧ IV g ad (zup t.1 [(36, ((t.1 36).1, (vp_updL ((t.1 36).2.1) 0 (((t.1 36).2.1 0) + (m : Int32).toInt64)), (t.1 36).2.2)), (37, ((upd ((t.1 37).1) 0 (((t.1 37).1 0) + m)), (t.1 37).2.1, (t.1 37).2.2)), (38, ((t.1 38).1, lfd ((t.1 38).2.1) (fun e => chS m 0 e / 10) 4, (t.1 38).2.2)), (39, ((t.1 39).1, lfd ((t.1 39).2.1) (fun e => chS m 0 e) 4, (t.1 39).2.2)), (40, ((t.1 40).1, lfd ((t.1 40).2.1) (fun e => chS m 0 e - chS m 0 e / 10 * 10) 4, (t.1 40).2.2))], t.2) u w1 ∧ z_kf ad w w1) 1 6 := by
  obtain ⟨e_a, w_a, k_a⟩ := hI.1.2 0 (by decide)
  obtain rfl := kd_0.mp k_a
  obtain ⟨e_fu, w_fu, k_fu⟩ := hI.1.2 36 (by decide)
  obtain rfl := kd_36.mp k_fu
  obtain ⟨e_fub, w_fub, k_fub⟩ := hI.1.2 37 (by decide)
  obtain rfl := kd_37.mp k_fub
  obtain ⟨e_fubg, w_fubg, k_fubg⟩ := hI.1.2 38 (by decide)
  obtain rfl := kd_38.mp k_fubg
  obtain ⟨e_fut1, w_fut1, k_fut1⟩ := hI.1.2 39 (by decide)
  obtain rfl := kd_39.mp k_fut1
  obtain ⟨e_fut2, w_fut2, k_fut2⟩ := hI.1.2 40 (by decide)
  obtain rfl := kd_40.mp k_fut2
  obtain ⟨e_fut3, w_fut3, k_fut3⟩ := hI.1.2 41 (by decide)
  obtain rfl := kd_41.mp k_fut3
  obtain ⟨e_gy, w_gy, k_gy⟩ := hI.1.2 45 (by decide)
  obtain rfl := kd_45.mp k_gy
  obtain ⟨e_gyg, w_gyg, k_gyg⟩ := hI.1.2 46 (by decide)
  obtain rfl := kd_46.mp k_gyg
  obtain ⟨e_du, w_du, k_du⟩ := hI.1.2 47 (by decide)
  obtain rfl := kd_47.mp k_du
  obtain ⟨e_dug, w_dug, k_dug⟩ := hI.1.2 48 (by decide)
  obtain rfl := kd_48.mp k_dug
  refine ((C_Ip_charge112N g (ad 0) (ad 1) (ad 5) (ad 18) (ad 31) (ad 32) (ad 36) (ad 42) (ad 45) (ad 47) (ad 49) (ad 50) (ad 51) (ad 43) (ad 44) (ad 46) (ad 48) (ad 37) (ad 38) (ad 39) (ad 40) (ad 41) ((t.1 38).2.1) ((t.1 39).2.1) ((t.1 40).2.1) ((t.1 41).2.1) ((t.1 46).2.1) ((t.1 48).2.1) ((t.1 37).1 0) ((t.1 45).1 0) ((t.1 47).1 0) ((t.1 36).2.1 0) m hw hg).at (hI.1.I [0, 36, 37, 38, 39, 40, 41, 45, 46, 47, 48] _ rfl (by decide) (by decide) (List.forall_mem_cons.mpr ⟨w_a, (List.forall_mem_cons.mpr ⟨w_fu, (List.forall_mem_cons.mpr ⟨w_fub, (List.forall_mem_cons.mpr ⟨w_fubg, (List.forall_mem_cons.mpr ⟨w_fut1, (List.forall_mem_cons.mpr ⟨w_fut2, (List.forall_mem_cons.mpr ⟨w_fut3, (List.forall_mem_cons.mpr ⟨w_gy, (List.forall_mem_cons.mpr ⟨w_gyg, (List.forall_mem_cons.mpr ⟨w_du, (List.forall_mem_cons.mpr ⟨w_dug, (fun _ h => nomatch h)⟩)⟩)⟩)⟩)⟩)⟩)⟩)⟩)⟩)⟩)⟩))).mono (Nat.le_of_ble_eq_true rfl) (Nat.le_of_ble_eq_true rfl) (fun o w1 hp => ?_)
  obtain ⟨cs1, hp, hi9⟩ := hp
  obtain ⟨e1, e2⟩ := hp
  subst e1; subst e2
  exact ⟨rfl, hI.fix (t2 := (zup t.1 [(36, ((t.1 36).1, (vp_updL ((t.1 36).2.1) 0 (((t.1 36).2.1 0) + (m : Int32).toInt64)), (t.1 36).2.2)), (37, ((upd ((t.1 37).1) 0 (((t.1 37).1 0) + m)), (t.1 37).2.1, (t.1 37).2.2)), (38, ((t.1 38).1, lfd ((t.1 38).2.1) (fun e => chS m 0 e / 10) 4, (t.1 38).2.2)), (39, ((t.1 39).1, lfd ((t.1 39).2.1) (fun e => chS m 0 e) 4, (t.1 39).2.2)), (40, ((t.1 40).1, lfd ((t.1 40).2.1) (fun e => chS m 0 e - chS m 0 e / 10 * 10) 4, (t.1 40).2.2))], t.2)) (is := [0, 36, 37, 38, 39, 40, 41, 45, 46, 47, 48]) hi9 rfl ⟨kd_0.mpr rfl, kd_36.mpr rfl, kd_37.mpr rfl, kd_38.mpr rfl, kd_39.mpr rfl, kd_40.mpr rfl, kd_41.mpr rfl, kd_45.mpr rfl, kd_46.mpr rfl, kd_47.mpr rfl, kd_48.mpr rfl, trivial⟩ (by decide) (by decide) (fun i hi hn => zup_out (fun q => hn ((by decide : ∀ j ∈ ([36, 37, 38, 39, 40] : List Nat), j ∈ ([0, 36, 37, 38, 39, 40, 41, 45, 46, 47, 48] : List Nat)) i q))) (fun h => h) rfl, z_kf.of (hi9.ke (L := ([0, 36, 37, 38, 39, 40, 41, 45, 46, 47, 48] : List Nat).map ad) rfl) (by decide)⟩
set_option maxHeartbeats 4000000 in
theorem Qx_Ip_charge112G {g : zG} {ad : Nat → Nat} {t : zTT} {u : zNN} {w : zW} (hI : IV g ad t u w) (m : Int32) (hw : (1 ≤ m ∧ m ≤ 1000)) (hg : 3000 < ((t.1 37).1 0) + m) : zMB g M_Ip_charge [.ref (ad 0), .int 112, .int m] w (fun o w1 => o = .inr "java/lang/IllegalStateException" ∧ w1 = w) 1 6 := by
  obtain ⟨e_a, w_a, k_a⟩ := hI.1.2 0 (by decide)
  obtain rfl := kd_0.mp k_a
  obtain ⟨e_fu, w_fu, k_fu⟩ := hI.1.2 36 (by decide)
  obtain rfl := kd_36.mp k_fu
  obtain ⟨e_fub, w_fub, k_fub⟩ := hI.1.2 37 (by decide)
  obtain rfl := kd_37.mp k_fub
  obtain ⟨e_fubg, w_fubg, k_fubg⟩ := hI.1.2 38 (by decide)
  obtain rfl := kd_38.mp k_fubg
  obtain ⟨e_fut1, w_fut1, k_fut1⟩ := hI.1.2 39 (by decide)
  obtain rfl := kd_39.mp k_fut1
  obtain ⟨e_fut2, w_fut2, k_fut2⟩ := hI.1.2 40 (by decide)
  obtain rfl := kd_40.mp k_fut2
  obtain ⟨e_fut3, w_fut3, k_fut3⟩ := hI.1.2 41 (by decide)
  obtain rfl := kd_41.mp k_fut3
  obtain ⟨e_gy, w_gy, k_gy⟩ := hI.1.2 45 (by decide)
  obtain rfl := kd_45.mp k_gy
  obtain ⟨e_gyg, w_gyg, k_gyg⟩ := hI.1.2 46 (by decide)
  obtain rfl := kd_46.mp k_gyg
  obtain ⟨e_du, w_du, k_du⟩ := hI.1.2 47 (by decide)
  obtain rfl := kd_47.mp k_du
  obtain ⟨e_dug, w_dug, k_dug⟩ := hI.1.2 48 (by decide)
  obtain rfl := kd_48.mp k_dug
  have hJ := hI.1.I [0, 36, 37, 38, 39, 40, 41, 45, 46, 47, 48] [((ad 0), .inr (11, [.ref (ad 1), .ref (ad 5), .ref (ad 18), .ref (ad 31), .ref (ad 32), .ref (ad 36), .ref (ad 42), .ref (ad 45), .ref (ad 47), .ref (ad 49), .ref (ad 50), .ref (ad 51)])), ((ad 36), .inr (3, [.ref (ad 37), .ref (ad 39), .ref (ad 40), .ref (ad 41), .long ((t.1 36).2.1 0)])), ((ad 37), .inr (6, [.ref (ad 38), .int ((t.1 37).1 0)])), ((ad 38), .inl (3, 4, .inr (.inl ((t.1 38).2.1)))), ((ad 39), .inl (3, 4, .inr (.inl ((t.1 39).2.1)))), ((ad 40), .inl (3, 4, .inr (.inl ((t.1 40).2.1)))), ((ad 41), .inl (3, 4, .inr (.inl ((t.1 41).2.1)))), ((ad 45), .inr (6, [.ref (ad 46), .int ((t.1 45).1 0)])), ((ad 46), .inl (3, 4, .inr (.inl ((t.1 46).2.1)))), ((ad 47), .inr (6, [.ref (ad 48), .int ((t.1 47).1 0)])), ((ad 48), .inl (3, 4, .inr (.inl ((t.1 48).2.1))))] rfl (by decide) (by decide) (List.forall_mem_cons.mpr ⟨w_a, (List.forall_mem_cons.mpr ⟨w_fu, (List.forall_mem_cons.mpr ⟨w_fub, (List.forall_mem_cons.mpr ⟨w_fubg, (List.forall_mem_cons.mpr ⟨w_fut1, (List.forall_mem_cons.mpr ⟨w_fut2, (List.forall_mem_cons.mpr ⟨w_fut3, (List.forall_mem_cons.mpr ⟨w_gy, (List.forall_mem_cons.mpr ⟨w_gyg, (List.forall_mem_cons.mpr ⟨w_du, (List.forall_mem_cons.mpr ⟨w_dug, (fun _ h => nomatch h)⟩)⟩)⟩)⟩)⟩)⟩)⟩)⟩)⟩)⟩)⟩)
  refine ((C_Ip_charge112G g (ad 0) (ad 1) (ad 5) (ad 18) (ad 31) (ad 32) (ad 36) (ad 42) (ad 45) (ad 47) (ad 49) (ad 50) (ad 51) (ad 43) (ad 44) (ad 46) (ad 48) (ad 37) (ad 38) (ad 39) (ad 40) (ad 41) ((t.1 38).2.1) ((t.1 39).2.1) ((t.1 40).2.1) ((t.1 41).2.1) ((t.1 46).2.1) ((t.1 48).2.1) ((t.1 37).1 0) ((t.1 45).1 0) ((t.1 47).1 0) ((t.1 36).2.1 0) m hw hg).at hJ).mono (Nat.le_of_ble_eq_true rfl) (Nat.le_of_ble_eq_true rfl) (fun o w1 hp => ?_)
  obtain ⟨cs1, hp, hi9⟩ := hp
  obtain ⟨e1, e2⟩ := hp
  subst e1; subst e2
  exact ⟨rfl, z_I.same hJ hi9⟩
set_option maxHeartbeats 4000000 in
theorem Qx_Ip_charge115N {g : zG} {ad : Nat → Nat} {t : zTT} {u : zNN} {w : zW} (hI : IV g ad t u w) (m : Int32) (hw : (1 ≤ m ∧ m ≤ 1000)) (hg : ¬ 3000 < ((t.1 37).1 0) + m) : zMB g M_Ip_charge [.ref (ad 0), .int 115, .int m] w (fun o w1 => o = .inl (some (.int (((t.1 37).1 0) + m))) ∧ IV g ad (zup t.1 [(36, ((t.1 36).1, (vp_updL ((t.1 36).2.1) 0 (((t.1 36).2.1 0) + (m : Int32).toInt64)), (t.1 36).2.2)), (37, ((upd ((t.1 37).1) 0 (((t.1 37).1 0) + m)), (t.1 37).2.1, (t.1 37).2.2)), (38, ((t.1 38).1, lfd ((t.1 38).2.1) (fun e => chS m 1 e / 10) 4, (t.1 38).2.2)), (39, ((t.1 39).1, lfd ((t.1 39).2.1) (fun e => chS m 1 e) 4, (t.1 39).2.2)), (40, ((t.1 40).1, lfd ((t.1 40).2.1) (fun e => chS m 1 e - chS m 1 e / 10 * 10) 4, (t.1 40).2.2))], t.2) u w1 ∧ z_kf ad w w1) 1 6 := by
  obtain ⟨e_a, w_a, k_a⟩ := hI.1.2 0 (by decide)
  obtain rfl := kd_0.mp k_a
  obtain ⟨e_fu, w_fu, k_fu⟩ := hI.1.2 36 (by decide)
  obtain rfl := kd_36.mp k_fu
  obtain ⟨e_fub, w_fub, k_fub⟩ := hI.1.2 37 (by decide)
  obtain rfl := kd_37.mp k_fub
  obtain ⟨e_fubg, w_fubg, k_fubg⟩ := hI.1.2 38 (by decide)
  obtain rfl := kd_38.mp k_fubg
  obtain ⟨e_fut1, w_fut1, k_fut1⟩ := hI.1.2 39 (by decide)
  obtain rfl := kd_39.mp k_fut1
  obtain ⟨e_fut2, w_fut2, k_fut2⟩ := hI.1.2 40 (by decide)
  obtain rfl := kd_40.mp k_fut2
  obtain ⟨e_fut3, w_fut3, k_fut3⟩ := hI.1.2 41 (by decide)
  obtain rfl := kd_41.mp k_fut3
  obtain ⟨e_gy, w_gy, k_gy⟩ := hI.1.2 45 (by decide)
  obtain rfl := kd_45.mp k_gy
  obtain ⟨e_gyg, w_gyg, k_gyg⟩ := hI.1.2 46 (by decide)
  obtain rfl := kd_46.mp k_gyg
  obtain ⟨e_du, w_du, k_du⟩ := hI.1.2 47 (by decide)
  obtain rfl := kd_47.mp k_du
  obtain ⟨e_dug, w_dug, k_dug⟩ := hI.1.2 48 (by decide)
  obtain rfl := kd_48.mp k_dug
  refine ((C_Ip_charge115N g (ad 0) (ad 1) (ad 5) (ad 18) (ad 31) (ad 32) (ad 36) (ad 42) (ad 45) (ad 47) (ad 49) (ad 50) (ad 51) (ad 43) (ad 44) (ad 46) (ad 48) (ad 37) (ad 38) (ad 39) (ad 40) (ad 41) ((t.1 38).2.1) ((t.1 39).2.1) ((t.1 40).2.1) ((t.1 41).2.1) ((t.1 46).2.1) ((t.1 48).2.1) ((t.1 37).1 0) ((t.1 45).1 0) ((t.1 47).1 0) ((t.1 36).2.1 0) m hw hg).at (hI.1.I [0, 36, 37, 38, 39, 40, 41, 45, 46, 47, 48] _ rfl (by decide) (by decide) (List.forall_mem_cons.mpr ⟨w_a, (List.forall_mem_cons.mpr ⟨w_fu, (List.forall_mem_cons.mpr ⟨w_fub, (List.forall_mem_cons.mpr ⟨w_fubg, (List.forall_mem_cons.mpr ⟨w_fut1, (List.forall_mem_cons.mpr ⟨w_fut2, (List.forall_mem_cons.mpr ⟨w_fut3, (List.forall_mem_cons.mpr ⟨w_gy, (List.forall_mem_cons.mpr ⟨w_gyg, (List.forall_mem_cons.mpr ⟨w_du, (List.forall_mem_cons.mpr ⟨w_dug, (fun _ h => nomatch h)⟩)⟩)⟩)⟩)⟩)⟩)⟩)⟩)⟩)⟩)⟩))).mono (Nat.le_of_ble_eq_true rfl) (Nat.le_of_ble_eq_true rfl) (fun o w1 hp => ?_)
  obtain ⟨cs1, hp, hi9⟩ := hp
  obtain ⟨e1, e2⟩ := hp
  subst e1; subst e2
  exact ⟨rfl, hI.fix (t2 := (zup t.1 [(36, ((t.1 36).1, (vp_updL ((t.1 36).2.1) 0 (((t.1 36).2.1 0) + (m : Int32).toInt64)), (t.1 36).2.2)), (37, ((upd ((t.1 37).1) 0 (((t.1 37).1 0) + m)), (t.1 37).2.1, (t.1 37).2.2)), (38, ((t.1 38).1, lfd ((t.1 38).2.1) (fun e => chS m 1 e / 10) 4, (t.1 38).2.2)), (39, ((t.1 39).1, lfd ((t.1 39).2.1) (fun e => chS m 1 e) 4, (t.1 39).2.2)), (40, ((t.1 40).1, lfd ((t.1 40).2.1) (fun e => chS m 1 e - chS m 1 e / 10 * 10) 4, (t.1 40).2.2))], t.2)) (is := [0, 36, 37, 38, 39, 40, 41, 45, 46, 47, 48]) hi9 rfl ⟨kd_0.mpr rfl, kd_36.mpr rfl, kd_37.mpr rfl, kd_38.mpr rfl, kd_39.mpr rfl, kd_40.mpr rfl, kd_41.mpr rfl, kd_45.mpr rfl, kd_46.mpr rfl, kd_47.mpr rfl, kd_48.mpr rfl, trivial⟩ (by decide) (by decide) (fun i hi hn => zup_out (fun q => hn ((by decide : ∀ j ∈ ([36, 37, 38, 39, 40] : List Nat), j ∈ ([0, 36, 37, 38, 39, 40, 41, 45, 46, 47, 48] : List Nat)) i q))) (fun h => h) rfl, z_kf.of (hi9.ke (L := ([0, 36, 37, 38, 39, 40, 41, 45, 46, 47, 48] : List Nat).map ad) rfl) (by decide)⟩
set_option maxHeartbeats 4000000 in
theorem Qx_Ip_charge115G {g : zG} {ad : Nat → Nat} {t : zTT} {u : zNN} {w : zW} (hI : IV g ad t u w) (m : Int32) (hw : (1 ≤ m ∧ m ≤ 1000)) (hg : 3000 < ((t.1 37).1 0) + m) : zMB g M_Ip_charge [.ref (ad 0), .int 115, .int m] w (fun o w1 => o = .inr "java/lang/IllegalStateException" ∧ w1 = w) 1 6 := by
  obtain ⟨e_a, w_a, k_a⟩ := hI.1.2 0 (by decide)
  obtain rfl := kd_0.mp k_a
  obtain ⟨e_fu, w_fu, k_fu⟩ := hI.1.2 36 (by decide)
  obtain rfl := kd_36.mp k_fu
  obtain ⟨e_fub, w_fub, k_fub⟩ := hI.1.2 37 (by decide)
  obtain rfl := kd_37.mp k_fub
  obtain ⟨e_fubg, w_fubg, k_fubg⟩ := hI.1.2 38 (by decide)
  obtain rfl := kd_38.mp k_fubg
  obtain ⟨e_fut1, w_fut1, k_fut1⟩ := hI.1.2 39 (by decide)
  obtain rfl := kd_39.mp k_fut1
  obtain ⟨e_fut2, w_fut2, k_fut2⟩ := hI.1.2 40 (by decide)
  obtain rfl := kd_40.mp k_fut2
  obtain ⟨e_fut3, w_fut3, k_fut3⟩ := hI.1.2 41 (by decide)
  obtain rfl := kd_41.mp k_fut3
  obtain ⟨e_gy, w_gy, k_gy⟩ := hI.1.2 45 (by decide)
  obtain rfl := kd_45.mp k_gy
  obtain ⟨e_gyg, w_gyg, k_gyg⟩ := hI.1.2 46 (by decide)
  obtain rfl := kd_46.mp k_gyg
  obtain ⟨e_du, w_du, k_du⟩ := hI.1.2 47 (by decide)
  obtain rfl := kd_47.mp k_du
  obtain ⟨e_dug, w_dug, k_dug⟩ := hI.1.2 48 (by decide)
  obtain rfl := kd_48.mp k_dug
  have hJ := hI.1.I [0, 36, 37, 38, 39, 40, 41, 45, 46, 47, 48] [((ad 0), .inr (11, [.ref (ad 1), .ref (ad 5), .ref (ad 18), .ref (ad 31), .ref (ad 32), .ref (ad 36), .ref (ad 42), .ref (ad 45), .ref (ad 47), .ref (ad 49), .ref (ad 50), .ref (ad 51)])), ((ad 36), .inr (3, [.ref (ad 37), .ref (ad 39), .ref (ad 40), .ref (ad 41), .long ((t.1 36).2.1 0)])), ((ad 37), .inr (6, [.ref (ad 38), .int ((t.1 37).1 0)])), ((ad 38), .inl (3, 4, .inr (.inl ((t.1 38).2.1)))), ((ad 39), .inl (3, 4, .inr (.inl ((t.1 39).2.1)))), ((ad 40), .inl (3, 4, .inr (.inl ((t.1 40).2.1)))), ((ad 41), .inl (3, 4, .inr (.inl ((t.1 41).2.1)))), ((ad 45), .inr (6, [.ref (ad 46), .int ((t.1 45).1 0)])), ((ad 46), .inl (3, 4, .inr (.inl ((t.1 46).2.1)))), ((ad 47), .inr (6, [.ref (ad 48), .int ((t.1 47).1 0)])), ((ad 48), .inl (3, 4, .inr (.inl ((t.1 48).2.1))))] rfl (by decide) (by decide) (List.forall_mem_cons.mpr ⟨w_a, (List.forall_mem_cons.mpr ⟨w_fu, (List.forall_mem_cons.mpr ⟨w_fub, (List.forall_mem_cons.mpr ⟨w_fubg, (List.forall_mem_cons.mpr ⟨w_fut1, (List.forall_mem_cons.mpr ⟨w_fut2, (List.forall_mem_cons.mpr ⟨w_fut3, (List.forall_mem_cons.mpr ⟨w_gy, (List.forall_mem_cons.mpr ⟨w_gyg, (List.forall_mem_cons.mpr ⟨w_du, (List.forall_mem_cons.mpr ⟨w_dug, (fun _ h => nomatch h)⟩)⟩)⟩)⟩)⟩)⟩)⟩)⟩)⟩)⟩)⟩)
  refine ((C_Ip_charge115G g (ad 0) (ad 1) (ad 5) (ad 18) (ad 31) (ad 32) (ad 36) (ad 42) (ad 45) (ad 47) (ad 49) (ad 50) (ad 51) (ad 43) (ad 44) (ad 46) (ad 48) (ad 37) (ad 38) (ad 39) (ad 40) (ad 41) ((t.1 38).2.1) ((t.1 39).2.1) ((t.1 40).2.1) ((t.1 41).2.1) ((t.1 46).2.1) ((t.1 48).2.1) ((t.1 37).1 0) ((t.1 45).1 0) ((t.1 47).1 0) ((t.1 36).2.1 0) m hw hg).at hJ).mono (Nat.le_of_ble_eq_true rfl) (Nat.le_of_ble_eq_true rfl) (fun o w1 hp => ?_)
  obtain ⟨cs1, hp, hi9⟩ := hp
  obtain ⟨e1, e2⟩ := hp
  subst e1; subst e2
  exact ⟨rfl, z_I.same hJ hi9⟩
set_option maxHeartbeats 4000000 in
theorem Qx_Ip_charge102N {g : zG} {ad : Nat → Nat} {t : zTT} {u : zNN} {w : zW} (hI : IV g ad t u w) (m : Int32) (hw : (1 ≤ m ∧ m ≤ 1000)) (hg : ¬ 3000 < ((t.1 37).1 0) + m) : zMB g M_Ip_charge [.ref (ad 0), .int 102, .int m] w (fun o w1 => o = .inl (some (.int (((t.1 37).1 0) + m))) ∧ IV g ad (zup t.1 [(36, ((t.1 36).1, (vp_updL ((t.1 36).2.1) 0 (((t.1 36).2.1 0) + (m : Int32).toInt64)), (t.1 36).2.2)), (37, ((upd ((t.1 37).1) 0 (((t.1 37).1 0) + m)), (t.1 37).2.1, (t.1 37).2.2)), (38, ((t.1 38).1, lfd ((t.1 38).2.1) (fun e => chS m 2 e / 10) 4, (t.1 38).2.2)), (39, ((t.1 39).1, lfd ((t.1 39).2.1) (fun e => chS m 2 e) 4, (t.1 39).2.2)), (40, ((t.1 40).1, lfd ((t.1 40).2.1) (fun e => chS m 2 e - chS m 2 e / 10 * 10) 4, (t.1 40).2.2))], t.2) u w1 ∧ z_kf ad w w1) 1 6 := by
  obtain ⟨e_a, w_a, k_a⟩ := hI.1.2 0 (by decide)
  obtain rfl := kd_0.mp k_a
  obtain ⟨e_fu, w_fu, k_fu⟩ := hI.1.2 36 (by decide)
  obtain rfl := kd_36.mp k_fu
  obtain ⟨e_fub, w_fub, k_fub⟩ := hI.1.2 37 (by decide)
  obtain rfl := kd_37.mp k_fub
  obtain ⟨e_fubg, w_fubg, k_fubg⟩ := hI.1.2 38 (by decide)
  obtain rfl := kd_38.mp k_fubg
  obtain ⟨e_fut1, w_fut1, k_fut1⟩ := hI.1.2 39 (by decide)
  obtain rfl := kd_39.mp k_fut1
  obtain ⟨e_fut2, w_fut2, k_fut2⟩ := hI.1.2 40 (by decide)
  obtain rfl := kd_40.mp k_fut2
  obtain ⟨e_fut3, w_fut3, k_fut3⟩ := hI.1.2 41 (by decide)
  obtain rfl := kd_41.mp k_fut3
  obtain ⟨e_gy, w_gy, k_gy⟩ := hI.1.2 45 (by decide)
  obtain rfl := kd_45.mp k_gy
  obtain ⟨e_gyg, w_gyg, k_gyg⟩ := hI.1.2 46 (by decide)
  obtain rfl := kd_46.mp k_gyg
  obtain ⟨e_du, w_du, k_du⟩ := hI.1.2 47 (by decide)
  obtain rfl := kd_47.mp k_du
  obtain ⟨e_dug, w_dug, k_dug⟩ := hI.1.2 48 (by decide)
  obtain rfl := kd_48.mp k_dug
  refine ((C_Ip_charge102N g (ad 0) (ad 1) (ad 5) (ad 18) (ad 31) (ad 32) (ad 36) (ad 42) (ad 45) (ad 47) (ad 49) (ad 50) (ad 51) (ad 43) (ad 44) (ad 46) (ad 48) (ad 37) (ad 38) (ad 39) (ad 40) (ad 41) ((t.1 38).2.1) ((t.1 39).2.1) ((t.1 40).2.1) ((t.1 41).2.1) ((t.1 46).2.1) ((t.1 48).2.1) ((t.1 37).1 0) ((t.1 45).1 0) ((t.1 47).1 0) ((t.1 36).2.1 0) m hw hg).at (hI.1.I [0, 36, 37, 38, 39, 40, 41, 45, 46, 47, 48] _ rfl (by decide) (by decide) (List.forall_mem_cons.mpr ⟨w_a, (List.forall_mem_cons.mpr ⟨w_fu, (List.forall_mem_cons.mpr ⟨w_fub, (List.forall_mem_cons.mpr ⟨w_fubg, (List.forall_mem_cons.mpr ⟨w_fut1, (List.forall_mem_cons.mpr ⟨w_fut2, (List.forall_mem_cons.mpr ⟨w_fut3, (List.forall_mem_cons.mpr ⟨w_gy, (List.forall_mem_cons.mpr ⟨w_gyg, (List.forall_mem_cons.mpr ⟨w_du, (List.forall_mem_cons.mpr ⟨w_dug, (fun _ h => nomatch h)⟩)⟩)⟩)⟩)⟩)⟩)⟩)⟩)⟩)⟩)⟩))).mono (Nat.le_of_ble_eq_true rfl) (Nat.le_of_ble_eq_true rfl) (fun o w1 hp => ?_)
  obtain ⟨cs1, hp, hi9⟩ := hp
  obtain ⟨e1, e2⟩ := hp
  subst e1; subst e2
  exact ⟨rfl, hI.fix (t2 := (zup t.1 [(36, ((t.1 36).1, (vp_updL ((t.1 36).2.1) 0 (((t.1 36).2.1 0) + (m : Int32).toInt64)), (t.1 36).2.2)), (37, ((upd ((t.1 37).1) 0 (((t.1 37).1 0) + m)), (t.1 37).2.1, (t.1 37).2.2)), (38, ((t.1 38).1, lfd ((t.1 38).2.1) (fun e => chS m 2 e / 10) 4, (t.1 38).2.2)), (39, ((t.1 39).1, lfd ((t.1 39).2.1) (fun e => chS m 2 e) 4, (t.1 39).2.2)), (40, ((t.1 40).1, lfd ((t.1 40).2.1) (fun e => chS m 2 e - chS m 2 e / 10 * 10) 4, (t.1 40).2.2))], t.2)) (is := [0, 36, 37, 38, 39, 40, 41, 45, 46, 47, 48]) hi9 rfl ⟨kd_0.mpr rfl, kd_36.mpr rfl, kd_37.mpr rfl, kd_38.mpr rfl, kd_39.mpr rfl, kd_40.mpr rfl, kd_41.mpr rfl, kd_45.mpr rfl, kd_46.mpr rfl, kd_47.mpr rfl, kd_48.mpr rfl, trivial⟩ (by decide) (by decide) (fun i hi hn => zup_out (fun q => hn ((by decide : ∀ j ∈ ([36, 37, 38, 39, 40] : List Nat), j ∈ ([0, 36, 37, 38, 39, 40, 41, 45, 46, 47, 48] : List Nat)) i q))) (fun h => h) rfl, z_kf.of (hi9.ke (L := ([0, 36, 37, 38, 39, 40, 41, 45, 46, 47, 48] : List Nat).map ad) rfl) (by decide)⟩
set_option maxHeartbeats 4000000 in
theorem Qx_Ip_charge102G {g : zG} {ad : Nat → Nat} {t : zTT} {u : zNN} {w : zW} (hI : IV g ad t u w) (m : Int32) (hw : (1 ≤ m ∧ m ≤ 1000)) (hg : 3000 < ((t.1 37).1 0) + m) : zMB g M_Ip_charge [.ref (ad 0), .int 102, .int m] w (fun o w1 => o = .inr "java/lang/IllegalStateException" ∧ w1 = w) 1 6 := by
  obtain ⟨e_a, w_a, k_a⟩ := hI.1.2 0 (by decide)
  obtain rfl := kd_0.mp k_a
  obtain ⟨e_fu, w_fu, k_fu⟩ := hI.1.2 36 (by decide)
  obtain rfl := kd_36.mp k_fu
  obtain ⟨e_fub, w_fub, k_fub⟩ := hI.1.2 37 (by decide)
  obtain rfl := kd_37.mp k_fub
  obtain ⟨e_fubg, w_fubg, k_fubg⟩ := hI.1.2 38 (by decide)
  obtain rfl := kd_38.mp k_fubg
  obtain ⟨e_fut1, w_fut1, k_fut1⟩ := hI.1.2 39 (by decide)
  obtain rfl := kd_39.mp k_fut1
  obtain ⟨e_fut2, w_fut2, k_fut2⟩ := hI.1.2 40 (by decide)
  obtain rfl := kd_40.mp k_fut2
  obtain ⟨e_fut3, w_fut3, k_fut3⟩ := hI.1.2 41 (by decide)
  obtain rfl := kd_41.mp k_fut3
  obtain ⟨e_gy, w_gy, k_gy⟩ := hI.1.2 45 (by decide)
  obtain rfl := kd_45.mp k_gy
  obtain ⟨e_gyg, w_gyg, k_gyg⟩ := hI.1.2 46 (by decide)
  obtain rfl := kd_46.mp k_gyg
  obtain ⟨e_du, w_du, k_du⟩ := hI.1.2 47 (by decide)
  obtain rfl := kd_47.mp k_du
  obtain ⟨e_dug, w_dug, k_dug⟩ := hI.1.2 48 (by decide)
  obtain rfl := kd_48.mp k_dug
  have hJ := hI.1.I [0, 36, 37, 38, 39, 40, 41, 45, 46, 47, 48] [((ad 0), .inr (11, [.ref (ad 1), .ref (ad 5), .ref (ad 18), .ref (ad 31), .ref (ad 32), .ref (ad 36), .ref (ad 42), .ref (ad 45), .ref (ad 47), .ref (ad 49), .ref (ad 50), .ref (ad 51)])), ((ad 36), .inr (3, [.ref (ad 37), .ref (ad 39), .ref (ad 40), .ref (ad 41), .long ((t.1 36).2.1 0)])), ((ad 37), .inr (6, [.ref (ad 38), .int ((t.1 37).1 0)])), ((ad 38), .inl (3, 4, .inr (.inl ((t.1 38).2.1)))), ((ad 39), .inl (3, 4, .inr (.inl ((t.1 39).2.1)))), ((ad 40), .inl (3, 4, .inr (.inl ((t.1 40).2.1)))), ((ad 41), .inl (3, 4, .inr (.inl ((t.1 41).2.1)))), ((ad 45), .inr (6, [.ref (ad 46), .int ((t.1 45).1 0)])), ((ad 46), .inl (3, 4, .inr (.inl ((t.1 46).2.1)))), ((ad 47), .inr (6, [.ref (ad 48), .int ((t.1 47).1 0)])), ((ad 48), .inl (3, 4, .inr (.inl ((t.1 48).2.1))))] rfl (by decide) (by decide) (List.forall_mem_cons.mpr ⟨w_a, (List.forall_mem_cons.mpr ⟨w_fu, (List.forall_mem_cons.mpr ⟨w_fub, (List.forall_mem_cons.mpr ⟨w_fubg, (List.forall_mem_cons.mpr ⟨w_fut1, (List.forall_mem_cons.mpr ⟨w_fut2, (List.forall_mem_cons.mpr ⟨w_fut3, (List.forall_mem_cons.mpr ⟨w_gy, (List.forall_mem_cons.mpr ⟨w_gyg, (List.forall_mem_cons.mpr ⟨w_du, (List.forall_mem_cons.mpr ⟨w_dug, (fun _ h => nomatch h)⟩)⟩)⟩)⟩)⟩)⟩)⟩)⟩)⟩)⟩)⟩)
  refine ((C_Ip_charge102G g (ad 0) (ad 1) (ad 5) (ad 18) (ad 31) (ad 32) (ad 36) (ad 42) (ad 45) (ad 47) (ad 49) (ad 50) (ad 51) (ad 43) (ad 44) (ad 46) (ad 48) (ad 37) (ad 38) (ad 39) (ad 40) (ad 41) ((t.1 38).2.1) ((t.1 39).2.1) ((t.1 40).2.1) ((t.1 41).2.1) ((t.1 46).2.1) ((t.1 48).2.1) ((t.1 37).1 0) ((t.1 45).1 0) ((t.1 47).1 0) ((t.1 36).2.1 0) m hw hg).at hJ).mono (Nat.le_of_ble_eq_true rfl) (Nat.le_of_ble_eq_true rfl) (fun o w1 hp => ?_)
  obtain ⟨cs1, hp, hi9⟩ := hp
  obtain ⟨e1, e2⟩ := hp
  subst e1; subst e2
  exact ⟨rfl, z_I.same hJ hi9⟩
set_option maxHeartbeats 4000000 in
theorem Qx_Ip_charge103F {g : zG} {ad : Nat → Nat} {t : zTT} {u : zNN} {w : zW} (hI : IV g ad t u w) (m : Int32) (hw : (1 ≤ m ∧ m ≤ 1000)) (hf : ((t.1 45).1 0) < m) : zMB g M_Ip_charge [.ref (ad 0), .int 103, .int m] w (fun o w1 => o = .inr "java/lang/UnsupportedOperationException" ∧ w1 = w) 1 6 := by
  obtain ⟨e_a, w_a, k_a⟩ := hI.1.2 0 (by decide)
  obtain rfl := kd_0.mp k_a
  obtain ⟨e_fu, w_fu, k_fu⟩ := hI.1.2 36 (by decide)
  obtain rfl := kd_36.mp k_fu
  obtain ⟨e_fub, w_fub, k_fub⟩ := hI.1.2 37 (by decide)
  obtain rfl := kd_37.mp k_fub
  obtain ⟨e_fubg, w_fubg, k_fubg⟩ := hI.1.2 38 (by decide)
  obtain rfl := kd_38.mp k_fubg
  obtain ⟨e_fut1, w_fut1, k_fut1⟩ := hI.1.2 39 (by decide)
  obtain rfl := kd_39.mp k_fut1
  obtain ⟨e_fut2, w_fut2, k_fut2⟩ := hI.1.2 40 (by decide)
  obtain rfl := kd_40.mp k_fut2
  obtain ⟨e_fut3, w_fut3, k_fut3⟩ := hI.1.2 41 (by decide)
  obtain rfl := kd_41.mp k_fut3
  obtain ⟨e_gy, w_gy, k_gy⟩ := hI.1.2 45 (by decide)
  obtain rfl := kd_45.mp k_gy
  obtain ⟨e_gyg, w_gyg, k_gyg⟩ := hI.1.2 46 (by decide)
  obtain rfl := kd_46.mp k_gyg
  obtain ⟨e_du, w_du, k_du⟩ := hI.1.2 47 (by decide)
  obtain rfl := kd_47.mp k_du
  obtain ⟨e_dug, w_dug, k_dug⟩ := hI.1.2 48 (by decide)
  obtain rfl := kd_48.mp k_dug
  have hJ := hI.1.I [0, 36, 37, 38, 39, 40, 41, 45, 46, 47, 48] [((ad 0), .inr (11, [.ref (ad 1), .ref (ad 5), .ref (ad 18), .ref (ad 31), .ref (ad 32), .ref (ad 36), .ref (ad 42), .ref (ad 45), .ref (ad 47), .ref (ad 49), .ref (ad 50), .ref (ad 51)])), ((ad 36), .inr (3, [.ref (ad 37), .ref (ad 39), .ref (ad 40), .ref (ad 41), .long ((t.1 36).2.1 0)])), ((ad 37), .inr (6, [.ref (ad 38), .int ((t.1 37).1 0)])), ((ad 38), .inl (3, 4, .inr (.inl ((t.1 38).2.1)))), ((ad 39), .inl (3, 4, .inr (.inl ((t.1 39).2.1)))), ((ad 40), .inl (3, 4, .inr (.inl ((t.1 40).2.1)))), ((ad 41), .inl (3, 4, .inr (.inl ((t.1 41).2.1)))), ((ad 45), .inr (6, [.ref (ad 46), .int ((t.1 45).1 0)])), ((ad 46), .inl (3, 4, .inr (.inl ((t.1 46).2.1)))), ((ad 47), .inr (6, [.ref (ad 48), .int ((t.1 47).1 0)])), ((ad 48), .inl (3, 4, .inr (.inl ((t.1 48).2.1))))] rfl (by decide) (by decide) (List.forall_mem_cons.mpr ⟨w_a, (List.forall_mem_cons.mpr ⟨w_fu, (List.forall_mem_cons.mpr ⟨w_fub, (List.forall_mem_cons.mpr ⟨w_fubg, (List.forall_mem_cons.mpr ⟨w_fut1, (List.forall_mem_cons.mpr ⟨w_fut2, (List.forall_mem_cons.mpr ⟨w_fut3, (List.forall_mem_cons.mpr ⟨w_gy, (List.forall_mem_cons.mpr ⟨w_gyg, (List.forall_mem_cons.mpr ⟨w_du, (List.forall_mem_cons.mpr ⟨w_dug, (fun _ h => nomatch h)⟩)⟩)⟩)⟩)⟩)⟩)⟩)⟩)⟩)⟩)⟩)
  refine ((C_Ip_charge103F g (ad 0) (ad 1) (ad 5) (ad 18) (ad 31) (ad 32) (ad 36) (ad 42) (ad 45) (ad 47) (ad 49) (ad 50) (ad 51) (ad 43) (ad 44) (ad 46) (ad 48) (ad 37) (ad 38) (ad 39) (ad 40) (ad 41) ((t.1 38).2.1) ((t.1 39).2.1) ((t.1 40).2.1) ((t.1 41).2.1) ((t.1 46).2.1) ((t.1 48).2.1) ((t.1 37).1 0) ((t.1 45).1 0) ((t.1 47).1 0) ((t.1 36).2.1 0) m hw hf).at hJ).mono (Nat.le_of_ble_eq_true rfl) (Nat.le_of_ble_eq_true rfl) (fun o w1 hp => ?_)
  obtain ⟨cs1, hp, hi9⟩ := hp
  obtain ⟨e1, e2⟩ := hp
  subst e1; subst e2
  exact ⟨rfl, z_I.same hJ hi9⟩
set_option maxHeartbeats 4000000 in
theorem Qx_Ip_charge103G {g : zG} {ad : Nat → Nat} {t : zTT} {u : zNN} {w : zW} (hI : IV g ad t u w) (m : Int32) (hw : (1 ≤ m ∧ m ≤ 1000)) (hf : ¬ ((t.1 45).1 0) < m) (hg : 3000 < ((t.1 37).1 0) + m) : zMB g M_Ip_charge [.ref (ad 0), .int 103, .int m] w (fun o w1 => o = .inr "java/lang/IllegalStateException" ∧ w1 = w) 1 6 := by
  obtain ⟨e_a, w_a, k_a⟩ := hI.1.2 0 (by decide)
  obtain rfl := kd_0.mp k_a
  obtain ⟨e_fu, w_fu, k_fu⟩ := hI.1.2 36 (by decide)
  obtain rfl := kd_36.mp k_fu
  obtain ⟨e_fub, w_fub, k_fub⟩ := hI.1.2 37 (by decide)
  obtain rfl := kd_37.mp k_fub
  obtain ⟨e_fubg, w_fubg, k_fubg⟩ := hI.1.2 38 (by decide)
  obtain rfl := kd_38.mp k_fubg
  obtain ⟨e_fut1, w_fut1, k_fut1⟩ := hI.1.2 39 (by decide)
  obtain rfl := kd_39.mp k_fut1
  obtain ⟨e_fut2, w_fut2, k_fut2⟩ := hI.1.2 40 (by decide)
  obtain rfl := kd_40.mp k_fut2
  obtain ⟨e_fut3, w_fut3, k_fut3⟩ := hI.1.2 41 (by decide)
  obtain rfl := kd_41.mp k_fut3
  obtain ⟨e_gy, w_gy, k_gy⟩ := hI.1.2 45 (by decide)
  obtain rfl := kd_45.mp k_gy
  obtain ⟨e_gyg, w_gyg, k_gyg⟩ := hI.1.2 46 (by decide)
  obtain rfl := kd_46.mp k_gyg
  obtain ⟨e_du, w_du, k_du⟩ := hI.1.2 47 (by decide)
  obtain rfl := kd_47.mp k_du
  obtain ⟨e_dug, w_dug, k_dug⟩ := hI.1.2 48 (by decide)
  obtain rfl := kd_48.mp k_dug
  have hJ := hI.1.I [0, 36, 37, 38, 39, 40, 41, 45, 46, 47, 48] [((ad 0), .inr (11, [.ref (ad 1), .ref (ad 5), .ref (ad 18), .ref (ad 31), .ref (ad 32), .ref (ad 36), .ref (ad 42), .ref (ad 45), .ref (ad 47), .ref (ad 49), .ref (ad 50), .ref (ad 51)])), ((ad 36), .inr (3, [.ref (ad 37), .ref (ad 39), .ref (ad 40), .ref (ad 41), .long ((t.1 36).2.1 0)])), ((ad 37), .inr (6, [.ref (ad 38), .int ((t.1 37).1 0)])), ((ad 38), .inl (3, 4, .inr (.inl ((t.1 38).2.1)))), ((ad 39), .inl (3, 4, .inr (.inl ((t.1 39).2.1)))), ((ad 40), .inl (3, 4, .inr (.inl ((t.1 40).2.1)))), ((ad 41), .inl (3, 4, .inr (.inl ((t.1 41).2.1)))), ((ad 45), .inr (6, [.ref (ad 46), .int ((t.1 45).1 0)])), ((ad 46), .inl (3, 4, .inr (.inl ((t.1 46).2.1)))), ((ad 47), .inr (6, [.ref (ad 48), .int ((t.1 47).1 0)])), ((ad 48), .inl (3, 4, .inr (.inl ((t.1 48).2.1))))] rfl (by decide) (by decide) (List.forall_mem_cons.mpr ⟨w_a, (List.forall_mem_cons.mpr ⟨w_fu, (List.forall_mem_cons.mpr ⟨w_fub, (List.forall_mem_cons.mpr ⟨w_fubg, (List.forall_mem_cons.mpr ⟨w_fut1, (List.forall_mem_cons.mpr ⟨w_fut2, (List.forall_mem_cons.mpr ⟨w_fut3, (List.forall_mem_cons.mpr ⟨w_gy, (List.forall_mem_cons.mpr ⟨w_gyg, (List.forall_mem_cons.mpr ⟨w_du, (List.forall_mem_cons.mpr ⟨w_dug, (fun _ h => nomatch h)⟩)⟩)⟩)⟩)⟩)⟩)⟩)⟩)⟩)⟩)⟩)
  refine ((C_Ip_charge103G g (ad 0) (ad 1) (ad 5) (ad 18) (ad 31) (ad 32) (ad 36) (ad 42) (ad 45) (ad 47) (ad 49) (ad 50) (ad 51) (ad 43) (ad 44) (ad 46) (ad 48) (ad 37) (ad 38) (ad 39) (ad 40) (ad 41) ((t.1 38).2.1) ((t.1 39).2.1) ((t.1 40).2.1) ((t.1 41).2.1) ((t.1 46).2.1) ((t.1 48).2.1) ((t.1 37).1 0) ((t.1 45).1 0) ((t.1 47).1 0) ((t.1 36).2.1 0) m hw hf hg).at hJ).mono (Nat.le_of_ble_eq_true rfl) (Nat.le_of_ble_eq_true rfl) (fun o w1 hp => ?_)
  obtain ⟨cs1, hp, hi9⟩ := hp
  obtain ⟨e1, e2⟩ := hp
  subst e1; subst e2
  exact ⟨rfl, z_I.same hJ hi9⟩
set_option maxHeartbeats 4000000 in
theorem Qx_Ip_charge103N {g : zG} {ad : Nat → Nat} {t : zTT} {u : zNN} {w : zW} (hI : IV g ad t u w) (m : Int32) (hw : (1 ≤ m ∧ m ≤ 1000)) (hf : ¬ ((t.1 45).1 0) < m) (hg : ¬ 3000 < ((t.1 37).1 0) + m) : zMB g M_Ip_charge [.ref (ad 0), .int 103, .int m] w (fun o w1 => o = .inl (some (.int (((t.1 37).1 0) + m))) ∧ IV g ad (zup t.1 [(37, ((upd ((t.1 37).1) 0 (((t.1 37).1 0) + m)), (t.1 37).2.1, (t.1 37).2.2)), (38, ((t.1 38).1, mvT ((t.1 46).2.1) m ((t.1 45).1 0) ((t.1 38).2.1) 4, (t.1 38).2.2)), (45, ((upd ((t.1 45).1) 0 (((t.1 45).1 0) - m)), (t.1 45).2.1, (t.1 45).2.2)), (46, ((t.1 46).1, mvS ((t.1 46).2.1) m ((t.1 45).1 0) 4, (t.1 46).2.2))], t.2) u w1 ∧ z_kf ad w w1) 1 6 := by
  obtain ⟨e_a, w_a, k_a⟩ := hI.1.2 0 (by decide)
  obtain rfl := kd_0.mp k_a
  obtain ⟨e_fu, w_fu, k_fu⟩ := hI.1.2 36 (by decide)
  obtain rfl := kd_36.mp k_fu
  obtain ⟨e_fub, w_fub, k_fub⟩ := hI.1.2 37 (by decide)
  obtain rfl := kd_37.mp k_fub
  obtain ⟨e_fubg, w_fubg, k_fubg⟩ := hI.1.2 38 (by decide)
  obtain rfl := kd_38.mp k_fubg
  obtain ⟨e_fut1, w_fut1, k_fut1⟩ := hI.1.2 39 (by decide)
  obtain rfl := kd_39.mp k_fut1
  obtain ⟨e_fut2, w_fut2, k_fut2⟩ := hI.1.2 40 (by decide)
  obtain rfl := kd_40.mp k_fut2
  obtain ⟨e_fut3, w_fut3, k_fut3⟩ := hI.1.2 41 (by decide)
  obtain rfl := kd_41.mp k_fut3
  obtain ⟨e_gy, w_gy, k_gy⟩ := hI.1.2 45 (by decide)
  obtain rfl := kd_45.mp k_gy
  obtain ⟨e_gyg, w_gyg, k_gyg⟩ := hI.1.2 46 (by decide)
  obtain rfl := kd_46.mp k_gyg
  obtain ⟨e_du, w_du, k_du⟩ := hI.1.2 47 (by decide)
  obtain rfl := kd_47.mp k_du
  obtain ⟨e_dug, w_dug, k_dug⟩ := hI.1.2 48 (by decide)
  obtain rfl := kd_48.mp k_dug
  refine ((C_Ip_charge103N g (ad 0) (ad 1) (ad 5) (ad 18) (ad 31) (ad 32) (ad 36) (ad 42) (ad 45) (ad 47) (ad 49) (ad 50) (ad 51) (ad 43) (ad 44) (ad 46) (ad 48) (ad 37) (ad 38) (ad 39) (ad 40) (ad 41) ((t.1 38).2.1) ((t.1 39).2.1) ((t.1 40).2.1) ((t.1 41).2.1) ((t.1 46).2.1) ((t.1 48).2.1) ((t.1 37).1 0) ((t.1 45).1 0) ((t.1 47).1 0) ((t.1 36).2.1 0) m hw hf hg (z_ge1 hw.1 hf)).at (hI.1.I [0, 36, 37, 38, 39, 40, 41, 45, 46, 47, 48] _ rfl (by decide) (by decide) (List.forall_mem_cons.mpr ⟨w_a, (List.forall_mem_cons.mpr ⟨w_fu, (List.forall_mem_cons.mpr ⟨w_fub, (List.forall_mem_cons.mpr ⟨w_fubg, (List.forall_mem_cons.mpr ⟨w_fut1, (List.forall_mem_cons.mpr ⟨w_fut2, (List.forall_mem_cons.mpr ⟨w_fut3, (List.forall_mem_cons.mpr ⟨w_gy, (List.forall_mem_cons.mpr ⟨w_gyg, (List.forall_mem_cons.mpr ⟨w_du, (List.forall_mem_cons.mpr ⟨w_dug, (fun _ h => nomatch h)⟩)⟩)⟩)⟩)⟩)⟩)⟩)⟩)⟩)⟩)⟩))).mono (Nat.le_of_ble_eq_true rfl) (Nat.le_of_ble_eq_true rfl) (fun o w1 hp => ?_)
  obtain ⟨cs1, hp, hi9⟩ := hp
  obtain ⟨e1, e2⟩ := hp
  subst e1; subst e2
  exact ⟨rfl, hI.fix (t2 := (zup t.1 [(37, ((upd ((t.1 37).1) 0 (((t.1 37).1 0) + m)), (t.1 37).2.1, (t.1 37).2.2)), (38, ((t.1 38).1, mvT ((t.1 46).2.1) m ((t.1 45).1 0) ((t.1 38).2.1) 4, (t.1 38).2.2)), (45, ((upd ((t.1 45).1) 0 (((t.1 45).1 0) - m)), (t.1 45).2.1, (t.1 45).2.2)), (46, ((t.1 46).1, mvS ((t.1 46).2.1) m ((t.1 45).1 0) 4, (t.1 46).2.2))], t.2)) (is := [0, 36, 37, 38, 39, 40, 41, 45, 46, 47, 48]) hi9 rfl ⟨kd_0.mpr rfl, kd_36.mpr rfl, kd_37.mpr rfl, kd_38.mpr rfl, kd_39.mpr rfl, kd_40.mpr rfl, kd_41.mpr rfl, kd_45.mpr rfl, kd_46.mpr rfl, kd_47.mpr rfl, kd_48.mpr rfl, trivial⟩ (by decide) (by decide) (fun i hi hn => zup_out (fun q => hn ((by decide : ∀ j ∈ ([37, 38, 45, 46] : List Nat), j ∈ ([0, 36, 37, 38, 39, 40, 41, 45, 46, 47, 48] : List Nat)) i q))) (fun h => h) rfl, z_kf.of (hi9.ke (L := ([0, 36, 37, 38, 39, 40, 41, 45, 46, 47, 48] : List Nat).map ad) rfl) (by decide)⟩
set_option maxHeartbeats 4000000 in
theorem Qx_Ip_tapF {g : zG} {ad : Nat → Nat} {t : zTT} {u : zNN} {w : zW} (hI : IV g ad t u w) (m : Int32) (hw : (1 ≤ m ∧ m ≤ 500)) (he0 : ¬ ((t.1 43).1 0) = 0) : zMB g M_Ip_tap [.ref (ad 0), .int m] w (fun o w1 => o = .inr "java/lang/IllegalStateException" ∧ w1 = w) 1 6 := by
  obtain ⟨e_a, w_a, k_a⟩ := hI.1.2 0 (by decide)
  obtain rfl := kd_0.mp k_a
  obtain ⟨e_la, w_la, k_la⟩ := hI.1.2 42 (by decide)
  obtain ⟨c_la_0, rfl⟩ := kd_42.mp k_la
  obtain ⟨e_lab, w_lab, k_lab⟩ := hI.1.2 43 (by decide)
  obtain ⟨c_lab_0, rfl⟩ := kd_43.mp k_lab
  obtain ⟨e_labg, w_labg, k_labg⟩ := hI.1.2 44 (by decide)
  obtain rfl := kd_44.mp k_labg
  obtain ⟨e_fu, w_fu, k_fu⟩ := hI.1.2 36 (by decide)
  obtain rfl := kd_36.mp k_fu
  obtain ⟨e_fub, w_fub, k_fub⟩ := hI.1.2 37 (by decide)
  obtain rfl := kd_37.mp k_fub
  obtain ⟨e_fubg, w_fubg, k_fubg⟩ := hI.1.2 38 (by decide)
  obtain rfl := kd_38.mp k_fubg
  have hJ := hI.1.I [0, 42, 43, 44, 36, 37, 38] [((ad 0), .inr (11, [.ref (ad 1), .ref (ad 5), .ref (ad 18), .ref (ad 31), .ref (ad 32), .ref (ad 36), .ref (ad 42), .ref (ad 45), .ref (ad 47), .ref (ad 49), .ref (ad 50), .ref (ad 51)])), ((ad 42), .inr (5, [.ref (ad 43), .int ((t.1 42).1 0), .int ((t.1 42).1 1), .int ((t.1 42).1 2)])), ((ad 43), .inr (6, [.ref (ad 44), .int ((t.1 43).1 0)])), ((ad 44), .inl (3, 4, .inr (.inl ((t.1 44).2.1)))), ((ad 36), .inr (3, [.ref (ad 37), .ref (ad 39), .ref (ad 40), .ref (ad 41), .long ((t.1 36).2.1 0)])), ((ad 37), .inr (6, [.ref (ad 38), .int ((t.1 37).1 0)])), ((ad 38), .inl (3, 4, .inr (.inl ((t.1 38).2.1))))] rfl (by decide) (by decide) (List.forall_mem_cons.mpr ⟨w_a, (List.forall_mem_cons.mpr ⟨w_la, (List.forall_mem_cons.mpr ⟨w_lab, (List.forall_mem_cons.mpr ⟨w_labg, (List.forall_mem_cons.mpr ⟨w_fu, (List.forall_mem_cons.mpr ⟨w_fub, (List.forall_mem_cons.mpr ⟨w_fubg, (fun _ h => nomatch h)⟩)⟩)⟩)⟩)⟩)⟩)⟩)
  refine ((C_Ip_tapF g (ad 0) (ad 1) (ad 5) (ad 18) (ad 31) (ad 32) (ad 36) (ad 42) (ad 45) (ad 47) (ad 49) (ad 50) (ad 51) (ad 43) (ad 44) (ad 37) (ad 38) (ad 39) (ad 40) (ad 41) ((t.1 44).2.1) ((t.1 38).2.1) ((t.1 42).1 0) ((t.1 42).1 1) ((t.1 42).1 2) ((t.1 43).1 0) ((t.1 37).1 0) ((t.1 36).2.1 0) m hw he0).at hJ).mono (Nat.le_of_ble_eq_true rfl) (Nat.le_of_ble_eq_true rfl) (fun o w1 hp => ?_)
  obtain ⟨cs1, hp, hi9⟩ := hp
  obtain ⟨e1, e2⟩ := hp
  subst e1; subst e2
  exact ⟨rfl, z_I.same hJ hi9⟩
set_option maxHeartbeats 4000000 in
theorem Qx_Ip_tapG {g : zG} {ad : Nat → Nat} {t : zTT} {u : zNN} {w : zW} (hI : IV g ad t u w) (m : Int32) (hw : (1 ≤ m ∧ m ≤ 500)) (he0 : ((t.1 43).1 0) = 0) (hg : ((t.1 37).1 0) < m) : zMB g M_Ip_tap [.ref (ad 0), .int m] w (fun o w1 => o = .inr "java/lang/UnsupportedOperationException" ∧ w1 = w) 1 6 := by
  obtain ⟨e_a, w_a, k_a⟩ := hI.1.2 0 (by decide)
  obtain rfl := kd_0.mp k_a
  obtain ⟨e_la, w_la, k_la⟩ := hI.1.2 42 (by decide)
  obtain ⟨c_la_0, rfl⟩ := kd_42.mp k_la
  obtain ⟨e_lab, w_lab, k_lab⟩ := hI.1.2 43 (by decide)
  obtain ⟨c_lab_0, rfl⟩ := kd_43.mp k_lab
  obtain ⟨e_labg, w_labg, k_labg⟩ := hI.1.2 44 (by decide)
  obtain rfl := kd_44.mp k_labg
  obtain ⟨e_fu, w_fu, k_fu⟩ := hI.1.2 36 (by decide)
  obtain rfl := kd_36.mp k_fu
  obtain ⟨e_fub, w_fub, k_fub⟩ := hI.1.2 37 (by decide)
  obtain rfl := kd_37.mp k_fub
  obtain ⟨e_fubg, w_fubg, k_fubg⟩ := hI.1.2 38 (by decide)
  obtain rfl := kd_38.mp k_fubg
  have hJ := hI.1.I [0, 42, 43, 44, 36, 37, 38] [((ad 0), .inr (11, [.ref (ad 1), .ref (ad 5), .ref (ad 18), .ref (ad 31), .ref (ad 32), .ref (ad 36), .ref (ad 42), .ref (ad 45), .ref (ad 47), .ref (ad 49), .ref (ad 50), .ref (ad 51)])), ((ad 42), .inr (5, [.ref (ad 43), .int ((t.1 42).1 0), .int ((t.1 42).1 1), .int ((t.1 42).1 2)])), ((ad 43), .inr (6, [.ref (ad 44), .int ((t.1 43).1 0)])), ((ad 44), .inl (3, 4, .inr (.inl ((t.1 44).2.1)))), ((ad 36), .inr (3, [.ref (ad 37), .ref (ad 39), .ref (ad 40), .ref (ad 41), .long ((t.1 36).2.1 0)])), ((ad 37), .inr (6, [.ref (ad 38), .int ((t.1 37).1 0)])), ((ad 38), .inl (3, 4, .inr (.inl ((t.1 38).2.1))))] rfl (by decide) (by decide) (List.forall_mem_cons.mpr ⟨w_a, (List.forall_mem_cons.mpr ⟨w_la, (List.forall_mem_cons.mpr ⟨w_lab, (List.forall_mem_cons.mpr ⟨w_labg, (List.forall_mem_cons.mpr ⟨w_fu, (List.forall_mem_cons.mpr ⟨w_fub, (List.forall_mem_cons.mpr ⟨w_fubg, (fun _ h => nomatch h)⟩)⟩)⟩)⟩)⟩)⟩)⟩)
  refine ((C_Ip_tapG g (ad 0) (ad 1) (ad 5) (ad 18) (ad 31) (ad 32) (ad 36) (ad 42) (ad 45) (ad 47) (ad 49) (ad 50) (ad 51) (ad 43) (ad 44) (ad 37) (ad 38) (ad 39) (ad 40) (ad 41) ((t.1 44).2.1) ((t.1 38).2.1) ((t.1 42).1 0) ((t.1 42).1 1) ((t.1 42).1 2) ((t.1 43).1 0) ((t.1 37).1 0) ((t.1 36).2.1 0) m hw he0 hg).at hJ).mono (Nat.le_of_ble_eq_true rfl) (Nat.le_of_ble_eq_true rfl) (fun o w1 hp => ?_)
  obtain ⟨cs1, hp, hi9⟩ := hp
  obtain ⟨e1, e2⟩ := hp
  subst e1; subst e2
  exact ⟨rfl, z_I.same hJ hi9⟩
set_option maxHeartbeats 4000000 in
theorem Qx_Ip_tapN {g : zG} {ad : Nat → Nat} {t : zTT} {u : zNN} {w : zW} (hI : IV g ad t u w) (m : Int32) (hw : (1 ≤ m ∧ m ≤ 500)) (he0 : ((t.1 43).1 0) = 0) (hg : ¬ ((t.1 37).1 0) < m) : zMB g M_Ip_tap [.ref (ad 0), .int m] w (fun o w1 => o = .inl (some (.int (((t.1 37).1 0) - m))) ∧ IV g ad (zup t.1 [(42, ((upd (upd (upd ((t.1 42).1) 0 1450) 1 0) 2 0), (t.1 42).2.1, (t.1 42).2.2)), (43, ((upd ((t.1 43).1) 0 (((t.1 43).1 0) + m)), (t.1 43).2.1, (t.1 43).2.2)), (44, ((t.1 44).1, mvT ((t.1 38).2.1) m ((t.1 37).1 0) ((t.1 44).2.1) 4, (t.1 44).2.2)), (37, ((upd ((t.1 37).1) 0 (((t.1 37).1 0) - m)), (t.1 37).2.1, (t.1 37).2.2)), (38, ((t.1 38).1, mvS ((t.1 38).2.1) m ((t.1 37).1 0) 4, (t.1 38).2.2))], t.2) u w1 ∧ z_kf ad w w1) 1 6 := by
  obtain ⟨e_a, w_a, k_a⟩ := hI.1.2 0 (by decide)
  obtain rfl := kd_0.mp k_a
  obtain ⟨e_la, w_la, k_la⟩ := hI.1.2 42 (by decide)
  obtain ⟨c_la_0, rfl⟩ := kd_42.mp k_la
  obtain ⟨e_lab, w_lab, k_lab⟩ := hI.1.2 43 (by decide)
  obtain ⟨c_lab_0, rfl⟩ := kd_43.mp k_lab
  obtain ⟨e_labg, w_labg, k_labg⟩ := hI.1.2 44 (by decide)
  obtain rfl := kd_44.mp k_labg
  obtain ⟨e_fu, w_fu, k_fu⟩ := hI.1.2 36 (by decide)
  obtain rfl := kd_36.mp k_fu
  obtain ⟨e_fub, w_fub, k_fub⟩ := hI.1.2 37 (by decide)
  obtain rfl := kd_37.mp k_fub
  obtain ⟨e_fubg, w_fubg, k_fubg⟩ := hI.1.2 38 (by decide)
  obtain rfl := kd_38.mp k_fubg
  refine ((C_Ip_tapN g (ad 0) (ad 1) (ad 5) (ad 18) (ad 31) (ad 32) (ad 36) (ad 42) (ad 45) (ad 47) (ad 49) (ad 50) (ad 51) (ad 43) (ad 44) (ad 37) (ad 38) (ad 39) (ad 40) (ad 41) ((t.1 44).2.1) ((t.1 38).2.1) ((t.1 42).1 0) ((t.1 42).1 1) ((t.1 42).1 2) ((t.1 43).1 0) ((t.1 37).1 0) ((t.1 36).2.1 0) m hw he0 hg (z_ge1 hw.1 hg)).at (hI.1.I [0, 42, 43, 44, 36, 37, 38] _ rfl (by decide) (by decide) (List.forall_mem_cons.mpr ⟨w_a, (List.forall_mem_cons.mpr ⟨w_la, (List.forall_mem_cons.mpr ⟨w_lab, (List.forall_mem_cons.mpr ⟨w_labg, (List.forall_mem_cons.mpr ⟨w_fu, (List.forall_mem_cons.mpr ⟨w_fub, (List.forall_mem_cons.mpr ⟨w_fubg, (fun _ h => nomatch h)⟩)⟩)⟩)⟩)⟩)⟩)⟩))).mono (Nat.le_of_ble_eq_true rfl) (Nat.le_of_ble_eq_true rfl) (fun o w1 hp => ?_)
  obtain ⟨cs1, hp, hi9⟩ := hp
  obtain ⟨e1, e2⟩ := hp
  subst e1; subst e2
  exact ⟨rfl, hI.fix (t2 := (zup t.1 [(42, ((upd (upd (upd ((t.1 42).1) 0 1450) 1 0) 2 0), (t.1 42).2.1, (t.1 42).2.2)), (43, ((upd ((t.1 43).1) 0 (((t.1 43).1 0) + m)), (t.1 43).2.1, (t.1 43).2.2)), (44, ((t.1 44).1, mvT ((t.1 38).2.1) m ((t.1 37).1 0) ((t.1 44).2.1) 4, (t.1 44).2.2)), (37, ((upd ((t.1 37).1) 0 (((t.1 37).1 0) - m)), (t.1 37).2.1, (t.1 37).2.2)), (38, ((t.1 38).1, mvS ((t.1 38).2.1) m ((t.1 37).1 0) 4, (t.1 38).2.2))], t.2)) (is := [0, 42, 43, 44, 36, 37, 38]) hi9 rfl ⟨kd_0.mpr rfl, kd_42.mpr ⟨Or.inl rfl, rfl⟩, kd_43.mpr ⟨(show 0 ≤ ((t.1 43).1 0) + m from by rw [he0, Int32.zero_add]; exact Int32.le_trans (by decide) hw.1), rfl⟩, kd_44.mpr rfl, kd_36.mpr rfl, kd_37.mpr rfl, kd_38.mpr rfl, trivial⟩ (by decide) (by decide) (fun i hi hn => zup_out (fun q => hn ((by decide : ∀ j ∈ ([42, 43, 44, 37, 38] : List Nat), j ∈ ([0, 42, 43, 44, 36, 37, 38] : List Nat)) i q))) (fun h => h) rfl, z_kf.of (hi9.ke (L := ([0, 42, 43, 44, 36, 37, 38] : List Nat).map ad) rfl) (by decide)⟩
set_option maxHeartbeats 4000000 in
theorem Qx_Ip_treatF {g : zG} {ad : Nat → Nat} {t : zTT} {u : zNN} {w : zW} (hI : IV g ad t u w) (m : Int32) (hw : (1 ≤ m ∧ m ≤ 100)) (he0 : ((t.1 43).1 0) = 0) : zMB g M_Ip_treat [.ref (ad 0), .int m] w (fun o w1 => o = .inr "java/lang/IllegalStateException" ∧ w1 = w) 1 6 := by
  obtain ⟨e_a, w_a, k_a⟩ := hI.1.2 0 (by decide)
  obtain rfl := kd_0.mp k_a
  obtain ⟨e_la, w_la, k_la⟩ := hI.1.2 42 (by decide)
  obtain ⟨c_la_0, rfl⟩ := kd_42.mp k_la
  obtain ⟨e_lab, w_lab, k_lab⟩ := hI.1.2 43 (by decide)
  obtain ⟨c_lab_0, rfl⟩ := kd_43.mp k_lab
  obtain ⟨e_labg, w_labg, k_labg⟩ := hI.1.2 44 (by decide)
  obtain rfl := kd_44.mp k_labg
  have hJ := hI.1.I [0, 42, 43, 44] [((ad 0), .inr (11, [.ref (ad 1), .ref (ad 5), .ref (ad 18), .ref (ad 31), .ref (ad 32), .ref (ad 36), .ref (ad 42), .ref (ad 45), .ref (ad 47), .ref (ad 49), .ref (ad 50), .ref (ad 51)])), ((ad 42), .inr (5, [.ref (ad 43), .int ((t.1 42).1 0), .int ((t.1 42).1 1), .int ((t.1 42).1 2)])), ((ad 43), .inr (6, [.ref (ad 44), .int ((t.1 43).1 0)])), ((ad 44), .inl (3, 4, .inr (.inl ((t.1 44).2.1))))] rfl (by decide) (by decide) (List.forall_mem_cons.mpr ⟨w_a, (List.forall_mem_cons.mpr ⟨w_la, (List.forall_mem_cons.mpr ⟨w_lab, (List.forall_mem_cons.mpr ⟨w_labg, (fun _ h => nomatch h)⟩)⟩)⟩)⟩)
  refine ((C_Ip_treatF g (ad 0) (ad 1) (ad 5) (ad 18) (ad 31) (ad 32) (ad 36) (ad 42) (ad 45) (ad 47) (ad 49) (ad 50) (ad 51) (ad 43) (ad 44) ((t.1 44).2.1) ((t.1 42).1 0) ((t.1 42).1 1) ((t.1 42).1 2) ((t.1 43).1 0) m hw he0).at hJ).mono (Nat.le_of_ble_eq_true rfl) (Nat.le_of_ble_eq_true rfl) (fun o w1 hp => ?_)
  obtain ⟨cs1, hp, hi9⟩ := hp
  obtain ⟨e1, e2⟩ := hp
  subst e1; subst e2
  exact ⟨rfl, z_I.same hJ hi9⟩
set_option maxHeartbeats 4000000 in
theorem Qx_Ip_treatN {g : zG} {ad : Nat → Nat} {t : zTT} {u : zNN} {w : zW} (hI : IV g ad t u w) (m : Int32) (hw : (1 ≤ m ∧ m ≤ 100)) (he0 : ¬ ((t.1 43).1 0) = 0) (hg : ((t.1 42).1 1) + m ≤ 100) : zMB g M_Ip_treat [.ref (ad 0), .int m] w (fun o w1 => o = .inl (some (.int (((t.1 42).1 1) + m))) ∧ IV g ad (zup t.1 [(42, ((upd (upd ((t.1 42).1) 1 (((t.1 42).1 1) + m)) 2 (if ((t.1 42).1 1) + m < 20 then ((t.1 42).1 2) else 1)), (t.1 42).2.1, (t.1 42).2.2))], t.2) u w1 ∧ z_kf ad w w1) 1 6 := by
  obtain ⟨e_a, w_a, k_a⟩ := hI.1.2 0 (by decide)
  obtain rfl := kd_0.mp k_a
  obtain ⟨e_la, w_la, k_la⟩ := hI.1.2 42 (by decide)
  obtain ⟨c_la_0, rfl⟩ := kd_42.mp k_la
  obtain ⟨e_lab, w_lab, k_lab⟩ := hI.1.2 43 (by decide)
  obtain ⟨c_lab_0, rfl⟩ := kd_43.mp k_lab
  obtain ⟨e_labg, w_labg, k_labg⟩ := hI.1.2 44 (by decide)
  obtain rfl := kd_44.mp k_labg
  refine ((C_Ip_treatN g (ad 0) (ad 1) (ad 5) (ad 18) (ad 31) (ad 32) (ad 36) (ad 42) (ad 45) (ad 47) (ad 49) (ad 50) (ad 51) (ad 43) (ad 44) ((t.1 44).2.1) ((t.1 42).1 0) ((t.1 42).1 1) ((t.1 42).1 2) ((t.1 43).1 0) m c_la_0 hw he0 hg).at (hI.1.I [0, 42, 43, 44] _ rfl (by decide) (by decide) (List.forall_mem_cons.mpr ⟨w_a, (List.forall_mem_cons.mpr ⟨w_la, (List.forall_mem_cons.mpr ⟨w_lab, (List.forall_mem_cons.mpr ⟨w_labg, (fun _ h => nomatch h)⟩)⟩)⟩)⟩))).mono (Nat.le_of_ble_eq_true rfl) (Nat.le_of_ble_eq_true rfl) (fun o w1 hp => ?_)
  obtain ⟨cs1, hp, hi9⟩ := hp
  obtain ⟨e1, e2⟩ := hp
  subst e1; subst e2
  exact ⟨rfl, hI.fix (t2 := (zup t.1 [(42, ((upd (upd ((t.1 42).1) 1 (((t.1 42).1 1) + m)) 2 (if ((t.1 42).1 1) + m < 20 then ((t.1 42).1 2) else 1)), (t.1 42).2.1, (t.1 42).2.2))], t.2)) (is := [0, 42, 43, 44]) hi9 rfl ⟨kd_0.mpr rfl, kd_42.mpr ⟨(by show (if (t.1 42).1 1 + m < 20 then (t.1 42).1 2 else 1) = 0 ∨ (if (t.1 42).1 1 + m < 20 then (t.1 42).1 2 else 1) = 1; split; exact c_la_0; exact Or.inr rfl), rfl⟩, kd_43.mpr ⟨c_lab_0, rfl⟩, kd_44.mpr rfl, trivial⟩ (by decide) (by decide) (fun i hi hn => zup_out (fun q => hn ((by decide : ∀ j ∈ ([42] : List Nat), j ∈ ([0, 42, 43, 44] : List Nat)) i q))) (fun h => h) rfl, z_kf.of (hi9.ke (L := ([0, 42, 43, 44] : List Nat).map ad) rfl) (by decide)⟩
set_option maxHeartbeats 4000000 in
theorem Qx_Ip_treatG {g : zG} {ad : Nat → Nat} {t : zTT} {u : zNN} {w : zW} (hI : IV g ad t u w) (m : Int32) (hw : (1 ≤ m ∧ m ≤ 100)) (he0 : ¬ ((t.1 43).1 0) = 0) (hg : ¬ ((t.1 42).1 1) + m ≤ 100) : zMB g M_Ip_treat [.ref (ad 0), .int m] w (fun o w1 => o = .inr "java/lang/UnsupportedOperationException" ∧ w1 = w) 1 6 := by
  obtain ⟨e_a, w_a, k_a⟩ := hI.1.2 0 (by decide)
  obtain rfl := kd_0.mp k_a
  obtain ⟨e_la, w_la, k_la⟩ := hI.1.2 42 (by decide)
  obtain ⟨c_la_0, rfl⟩ := kd_42.mp k_la
  obtain ⟨e_lab, w_lab, k_lab⟩ := hI.1.2 43 (by decide)
  obtain ⟨c_lab_0, rfl⟩ := kd_43.mp k_lab
  obtain ⟨e_labg, w_labg, k_labg⟩ := hI.1.2 44 (by decide)
  obtain rfl := kd_44.mp k_labg
  have hJ := hI.1.I [0, 42, 43, 44] [((ad 0), .inr (11, [.ref (ad 1), .ref (ad 5), .ref (ad 18), .ref (ad 31), .ref (ad 32), .ref (ad 36), .ref (ad 42), .ref (ad 45), .ref (ad 47), .ref (ad 49), .ref (ad 50), .ref (ad 51)])), ((ad 42), .inr (5, [.ref (ad 43), .int ((t.1 42).1 0), .int ((t.1 42).1 1), .int ((t.1 42).1 2)])), ((ad 43), .inr (6, [.ref (ad 44), .int ((t.1 43).1 0)])), ((ad 44), .inl (3, 4, .inr (.inl ((t.1 44).2.1))))] rfl (by decide) (by decide) (List.forall_mem_cons.mpr ⟨w_a, (List.forall_mem_cons.mpr ⟨w_la, (List.forall_mem_cons.mpr ⟨w_lab, (List.forall_mem_cons.mpr ⟨w_labg, (fun _ h => nomatch h)⟩)⟩)⟩)⟩)
  refine ((C_Ip_treatG g (ad 0) (ad 1) (ad 5) (ad 18) (ad 31) (ad 32) (ad 36) (ad 42) (ad 45) (ad 47) (ad 49) (ad 50) (ad 51) (ad 43) (ad 44) ((t.1 44).2.1) ((t.1 42).1 0) ((t.1 42).1 1) ((t.1 42).1 2) ((t.1 43).1 0) m hw he0 hg).at hJ).mono (Nat.le_of_ble_eq_true rfl) (Nat.le_of_ble_eq_true rfl) (fun o w1 hp => ?_)
  obtain ⟨cs1, hp, hi9⟩ := hp
  obtain ⟨e1, e2⟩ := hp
  subst e1; subst e2
  exact ⟨rfl, z_I.same hJ hi9⟩
set_option maxHeartbeats 4000000 in
theorem Qx_Ip_ladle0 {g : zG} {ad : Nat → Nat} {t : zTT} {u : zNN} {w : zW} (hI : IV g ad t u w) (w8 : Int32) (hw : ¬ z_ix 3 w8 < 0) (he0 : ((t.1 43).1 0) = 0) : zMB g M_Ip_ladle [.ref (ad 0), .int w8] w (fun o w1 => o = .inl (some (.int 0)) ∧ w1 = w) 1 6 := by
  obtain ⟨e_a, w_a, k_a⟩ := hI.1.2 0 (by decide)
  obtain rfl := kd_0.mp k_a
  obtain ⟨e_la, w_la, k_la⟩ := hI.1.2 42 (by decide)
  obtain ⟨c_la_0, rfl⟩ := kd_42.mp k_la
  obtain ⟨e_lab, w_lab, k_lab⟩ := hI.1.2 43 (by decide)
  obtain ⟨c_lab_0, rfl⟩ := kd_43.mp k_lab
  obtain ⟨e_labg, w_labg, k_labg⟩ := hI.1.2 44 (by decide)
  obtain rfl := kd_44.mp k_labg
  have hJ := hI.1.I [0, 42, 43, 44] [((ad 0), .inr (11, [.ref (ad 1), .ref (ad 5), .ref (ad 18), .ref (ad 31), .ref (ad 32), .ref (ad 36), .ref (ad 42), .ref (ad 45), .ref (ad 47), .ref (ad 49), .ref (ad 50), .ref (ad 51)])), ((ad 42), .inr (5, [.ref (ad 43), .int ((t.1 42).1 0), .int ((t.1 42).1 1), .int ((t.1 42).1 2)])), ((ad 43), .inr (6, [.ref (ad 44), .int ((t.1 43).1 0)])), ((ad 44), .inl (3, 4, .inr (.inl ((t.1 44).2.1))))] rfl (by decide) (by decide) (List.forall_mem_cons.mpr ⟨w_a, (List.forall_mem_cons.mpr ⟨w_la, (List.forall_mem_cons.mpr ⟨w_lab, (List.forall_mem_cons.mpr ⟨w_labg, (fun _ h => nomatch h)⟩)⟩)⟩)⟩)
  refine ((C_Ip_ladle0 g (ad 0) (ad 1) (ad 5) (ad 18) (ad 31) (ad 32) (ad 36) (ad 42) (ad 45) (ad 47) (ad 49) (ad 50) (ad 51) (ad 43) (ad 44) ((t.1 44).2.1) ((t.1 42).1 0) ((t.1 42).1 1) ((t.1 42).1 2) ((t.1 43).1 0) w8 hw he0).at hJ).mono (Nat.le_of_ble_eq_true rfl) (Nat.le_of_ble_eq_true rfl) (fun o w1 hp => ?_)
  obtain ⟨cs1, hp, hi9⟩ := hp
  obtain ⟨e1, e2⟩ := hp
  subst e1; subst e2
  exact ⟨rfl, z_I.same hJ hi9⟩
set_option maxHeartbeats 4000000 in
theorem Qx_Ip_ladle119 {g : zG} {ad : Nat → Nat} {t : zTT} {u : zNN} {w : zW} (hI : IV g ad t u w) (he0 : ¬ ((t.1 43).1 0) = 0) : zMB g M_Ip_ladle [.ref (ad 0), .int 119] w (fun o w1 => o = .inl (some (.int ((t.1 43).1 0))) ∧ w1 = w) 1 6 := by
  obtain ⟨e_a, w_a, k_a⟩ := hI.1.2 0 (by decide)
  obtain rfl := kd_0.mp k_a
  obtain ⟨e_la, w_la, k_la⟩ := hI.1.2 42 (by decide)
  obtain ⟨c_la_0, rfl⟩ := kd_42.mp k_la
  obtain ⟨e_lab, w_lab, k_lab⟩ := hI.1.2 43 (by decide)
  obtain ⟨c_lab_0, rfl⟩ := kd_43.mp k_lab
  obtain ⟨e_labg, w_labg, k_labg⟩ := hI.1.2 44 (by decide)
  obtain rfl := kd_44.mp k_labg
  have hJ := hI.1.I [0, 42, 43, 44] [((ad 0), .inr (11, [.ref (ad 1), .ref (ad 5), .ref (ad 18), .ref (ad 31), .ref (ad 32), .ref (ad 36), .ref (ad 42), .ref (ad 45), .ref (ad 47), .ref (ad 49), .ref (ad 50), .ref (ad 51)])), ((ad 42), .inr (5, [.ref (ad 43), .int ((t.1 42).1 0), .int ((t.1 42).1 1), .int ((t.1 42).1 2)])), ((ad 43), .inr (6, [.ref (ad 44), .int ((t.1 43).1 0)])), ((ad 44), .inl (3, 4, .inr (.inl ((t.1 44).2.1))))] rfl (by decide) (by decide) (List.forall_mem_cons.mpr ⟨w_a, (List.forall_mem_cons.mpr ⟨w_la, (List.forall_mem_cons.mpr ⟨w_lab, (List.forall_mem_cons.mpr ⟨w_labg, (fun _ h => nomatch h)⟩)⟩)⟩)⟩)
  refine ((C_Ip_ladle119 g (ad 0) (ad 1) (ad 5) (ad 18) (ad 31) (ad 32) (ad 36) (ad 42) (ad 45) (ad 47) (ad 49) (ad 50) (ad 51) (ad 43) (ad 44) ((t.1 44).2.1) ((t.1 42).1 0) ((t.1 42).1 1) ((t.1 42).1 2) ((t.1 43).1 0) he0).at hJ).mono (Nat.le_of_ble_eq_true rfl) (Nat.le_of_ble_eq_true rfl) (fun o w1 hp => ?_)
  obtain ⟨cs1, hp, hi9⟩ := hp
  obtain ⟨e1, e2⟩ := hp
  subst e1; subst e2
  exact ⟨rfl, z_I.same hJ hi9⟩
set_option maxHeartbeats 4000000 in
theorem Qx_Ip_pigE {g : zG} {ad : Nat → Nat} {t : zTT} {u : zNN} {w : zW} (hI : IV g ad t u w) (he0 : ((t.1 43).1 0) = 0) : zMB g M_Ip_pig [.ref (ad 0)] w (fun o w1 => o = .inr "java/lang/IllegalStateException" ∧ w1 = w) 1 6 := by
  obtain ⟨e_a, w_a, k_a⟩ := hI.1.2 0 (by decide)
  obtain rfl := kd_0.mp k_a
  obtain ⟨e_la, w_la, k_la⟩ := hI.1.2 42 (by decide)
  obtain ⟨c_la_0, rfl⟩ := kd_42.mp k_la
  obtain ⟨e_lab, w_lab, k_lab⟩ := hI.1.2 43 (by decide)
  obtain ⟨c_lab_0, rfl⟩ := kd_43.mp k_lab
  obtain ⟨e_labg, w_labg, k_labg⟩ := hI.1.2 44 (by decide)
  obtain rfl := kd_44.mp k_labg
  obtain ⟨e_gy, w_gy, k_gy⟩ := hI.1.2 45 (by decide)
  obtain rfl := kd_45.mp k_gy
  obtain ⟨e_gyg, w_gyg, k_gyg⟩ := hI.1.2 46 (by decide)
  obtain rfl := kd_46.mp k_gyg
  obtain ⟨e_du, w_du, k_du⟩ := hI.1.2 47 (by decide)
  obtain rfl := kd_47.mp k_du
  obtain ⟨e_dug, w_dug, k_dug⟩ := hI.1.2 48 (by decide)
  obtain rfl := kd_48.mp k_dug
  have hJ := hI.1.I [0, 42, 43, 44, 45, 46, 47, 48] [((ad 0), .inr (11, [.ref (ad 1), .ref (ad 5), .ref (ad 18), .ref (ad 31), .ref (ad 32), .ref (ad 36), .ref (ad 42), .ref (ad 45), .ref (ad 47), .ref (ad 49), .ref (ad 50), .ref (ad 51)])), ((ad 42), .inr (5, [.ref (ad 43), .int ((t.1 42).1 0), .int ((t.1 42).1 1), .int ((t.1 42).1 2)])), ((ad 43), .inr (6, [.ref (ad 44), .int ((t.1 43).1 0)])), ((ad 44), .inl (3, 4, .inr (.inl ((t.1 44).2.1)))), ((ad 45), .inr (6, [.ref (ad 46), .int ((t.1 45).1 0)])), ((ad 46), .inl (3, 4, .inr (.inl ((t.1 46).2.1)))), ((ad 47), .inr (6, [.ref (ad 48), .int ((t.1 47).1 0)])), ((ad 48), .inl (3, 4, .inr (.inl ((t.1 48).2.1))))] rfl (by decide) (by decide) (List.forall_mem_cons.mpr ⟨w_a, (List.forall_mem_cons.mpr ⟨w_la, (List.forall_mem_cons.mpr ⟨w_lab, (List.forall_mem_cons.mpr ⟨w_labg, (List.forall_mem_cons.mpr ⟨w_gy, (List.forall_mem_cons.mpr ⟨w_gyg, (List.forall_mem_cons.mpr ⟨w_du, (List.forall_mem_cons.mpr ⟨w_dug, (fun _ h => nomatch h)⟩)⟩)⟩)⟩)⟩)⟩)⟩)⟩)
  refine ((C_Ip_pigE g (ad 0) (ad 1) (ad 5) (ad 18) (ad 31) (ad 32) (ad 36) (ad 42) (ad 45) (ad 47) (ad 49) (ad 50) (ad 51) (ad 43) (ad 44) (ad 46) (ad 48) ((t.1 44).2.1) ((t.1 46).2.1) ((t.1 48).2.1) ((t.1 42).1 0) ((t.1 42).1 1) ((t.1 42).1 2) ((t.1 43).1 0) ((t.1 45).1 0) ((t.1 47).1 0) he0).at hJ).mono (Nat.le_of_ble_eq_true rfl) (Nat.le_of_ble_eq_true rfl) (fun o w1 hp => ?_)
  obtain ⟨cs1, hp, hi9⟩ := hp
  obtain ⟨e1, e2⟩ := hp
  subst e1; subst e2
  exact ⟨rfl, z_I.same hJ hi9⟩
set_option maxHeartbeats 4000000 in
theorem Qx_Ip_pigN {g : zG} {ad : Nat → Nat} {t : zTT} {u : zNN} {w : zW} (hI : IV g ad t u w) (he0 : ¬ ((t.1 43).1 0) = 0) (hw : ((t.1 42).1 2) = 0) : zMB g M_Ip_pig [.ref (ad 0)] w (fun o w1 => o = .inl (some (.int ((t.1 43).1 0))) ∧ IV g ad (zup t.1 [(43, ((upd ((t.1 43).1) 0 (((t.1 43).1 0) - ((t.1 43).1 0))), (t.1 43).2.1, (t.1 43).2.2)), (44, ((t.1 44).1, mvS ((t.1 44).2.1) ((t.1 43).1 0) ((t.1 43).1 0) 4, (t.1 44).2.2)), (45, ((upd ((t.1 45).1) 0 (((t.1 45).1 0) + ((t.1 43).1 0))), (t.1 45).2.1, (t.1 45).2.2)), (46, ((t.1 46).1, mvT ((t.1 44).2.1) ((t.1 43).1 0) ((t.1 43).1 0) ((t.1 46).2.1) 4, (t.1 46).2.2))], t.2) u w1 ∧ z_kf ad w w1) 1 6 := by
  obtain ⟨e_a, w_a, k_a⟩ := hI.1.2 0 (by decide)
  obtain rfl := kd_0.mp k_a
  obtain ⟨e_la, w_la, k_la⟩ := hI.1.2 42 (by decide)
  obtain ⟨c_la_0, rfl⟩ := kd_42.mp k_la
  obtain ⟨e_lab, w_lab, k_lab⟩ := hI.1.2 43 (by decide)
  obtain ⟨c_lab_0, rfl⟩ := kd_43.mp k_lab
  obtain ⟨e_labg, w_labg, k_labg⟩ := hI.1.2 44 (by decide)
  obtain rfl := kd_44.mp k_labg
  obtain ⟨e_gy, w_gy, k_gy⟩ := hI.1.2 45 (by decide)
  obtain rfl := kd_45.mp k_gy
  obtain ⟨e_gyg, w_gyg, k_gyg⟩ := hI.1.2 46 (by decide)
  obtain rfl := kd_46.mp k_gyg
  obtain ⟨e_du, w_du, k_du⟩ := hI.1.2 47 (by decide)
  obtain rfl := kd_47.mp k_du
  obtain ⟨e_dug, w_dug, k_dug⟩ := hI.1.2 48 (by decide)
  obtain rfl := kd_48.mp k_dug
  refine ((C_Ip_pigN g (ad 0) (ad 1) (ad 5) (ad 18) (ad 31) (ad 32) (ad 36) (ad 42) (ad 45) (ad 47) (ad 49) (ad 50) (ad 51) (ad 43) (ad 44) (ad 46) (ad 48) ((t.1 44).2.1) ((t.1 46).2.1) ((t.1 48).2.1) ((t.1 42).1 0) ((t.1 42).1 1) ((t.1 42).1 2) ((t.1 43).1 0) ((t.1 45).1 0) ((t.1 47).1 0) he0 (z_nnz c_lab_0 he0) hw).at (hI.1.I [0, 42, 43, 44, 45, 46, 47, 48] _ rfl (by decide) (by decide) (List.forall_mem_cons.mpr ⟨w_a, (List.forall_mem_cons.mpr ⟨w_la, (List.forall_mem_cons.mpr ⟨w_lab, (List.forall_mem_cons.mpr ⟨w_labg, (List.forall_mem_cons.mpr ⟨w_gy, (List.forall_mem_cons.mpr ⟨w_gyg, (List.forall_mem_cons.mpr ⟨w_du, (List.forall_mem_cons.mpr ⟨w_dug, (fun _ h => nomatch h)⟩)⟩)⟩)⟩)⟩)⟩)⟩)⟩))).mono (Nat.le_of_ble_eq_true rfl) (Nat.le_of_ble_eq_true rfl) (fun o w1 hp => ?_)
  obtain ⟨cs1, hp, hi9⟩ := hp
  obtain ⟨e1, e2⟩ := hp
  subst e1; subst e2
  exact ⟨rfl, hI.fix (t2 := (zup t.1 [(43, ((upd ((t.1 43).1) 0 (((t.1 43).1 0) - ((t.1 43).1 0))), (t.1 43).2.1, (t.1 43).2.2)), (44, ((t.1 44).1, mvS ((t.1 44).2.1) ((t.1 43).1 0) ((t.1 43).1 0) 4, (t.1 44).2.2)), (45, ((upd ((t.1 45).1) 0 (((t.1 45).1 0) + ((t.1 43).1 0))), (t.1 45).2.1, (t.1 45).2.2)), (46, ((t.1 46).1, mvT ((t.1 44).2.1) ((t.1 43).1 0) ((t.1 43).1 0) ((t.1 46).2.1) 4, (t.1 46).2.2))], t.2)) (is := [0, 42, 43, 44, 45, 46, 47, 48]) hi9 rfl ⟨kd_0.mpr rfl, kd_42.mpr ⟨c_la_0, rfl⟩, kd_43.mpr ⟨(show 0 ≤ (t.1 43).1 0 - (t.1 43).1 0 from by rw [Int32.sub_self]; decide), rfl⟩, kd_44.mpr rfl, kd_45.mpr rfl, kd_46.mpr rfl, kd_47.mpr rfl, kd_48.mpr rfl, trivial⟩ (by decide) (by decide) (fun i hi hn => zup_out (fun q => hn ((by decide : ∀ j ∈ ([43, 44, 45, 46] : List Nat), j ∈ ([0, 42, 43, 44, 45, 46, 47, 48] : List Nat)) i q))) (fun h => h) rfl, z_kf.of (hi9.ke (L := ([0, 42, 43, 44, 45, 46, 47, 48] : List Nat).map ad) rfl) (by decide)⟩
set_option maxHeartbeats 4000000 in
theorem Qx_Ip_pigD {g : zG} {ad : Nat → Nat} {t : zTT} {u : zNN} {w : zW} (hI : IV g ad t u w) (he0 : ¬ ((t.1 43).1 0) = 0) (hw : ¬ ((t.1 42).1 2) = 0) : zMB g M_Ip_pig [.ref (ad 0)] w (fun o w1 => o = .inl (some (.int ((t.1 43).1 0))) ∧ IV g ad (zup t.1 [(43, ((upd ((t.1 43).1) 0 (((t.1 43).1 0) - ((t.1 43).1 0))), (t.1 43).2.1, (t.1 43).2.2)), (44, ((t.1 44).1, mvS ((t.1 44).2.1) ((t.1 43).1 0) ((t.1 43).1 0) 4, (t.1 44).2.2)), (47, ((upd ((t.1 47).1) 0 (((t.1 47).1 0) + ((t.1 43).1 0))), (t.1 47).2.1, (t.1 47).2.2)), (48, ((t.1 48).1, mvT ((t.1 44).2.1) ((t.1 43).1 0) ((t.1 43).1 0) ((t.1 48).2.1) 4, (t.1 48).2.2))], t.2) u w1 ∧ z_kf ad w w1) 1 6 := by
  obtain ⟨e_a, w_a, k_a⟩ := hI.1.2 0 (by decide)
  obtain rfl := kd_0.mp k_a
  obtain ⟨e_la, w_la, k_la⟩ := hI.1.2 42 (by decide)
  obtain ⟨c_la_0, rfl⟩ := kd_42.mp k_la
  obtain ⟨e_lab, w_lab, k_lab⟩ := hI.1.2 43 (by decide)
  obtain ⟨c_lab_0, rfl⟩ := kd_43.mp k_lab
  obtain ⟨e_labg, w_labg, k_labg⟩ := hI.1.2 44 (by decide)
  obtain rfl := kd_44.mp k_labg
  obtain ⟨e_gy, w_gy, k_gy⟩ := hI.1.2 45 (by decide)
  obtain rfl := kd_45.mp k_gy
  obtain ⟨e_gyg, w_gyg, k_gyg⟩ := hI.1.2 46 (by decide)
  obtain rfl := kd_46.mp k_gyg
  obtain ⟨e_du, w_du, k_du⟩ := hI.1.2 47 (by decide)
  obtain rfl := kd_47.mp k_du
  obtain ⟨e_dug, w_dug, k_dug⟩ := hI.1.2 48 (by decide)
  obtain rfl := kd_48.mp k_dug
  refine ((C_Ip_pigD g (ad 0) (ad 1) (ad 5) (ad 18) (ad 31) (ad 32) (ad 36) (ad 42) (ad 45) (ad 47) (ad 49) (ad 50) (ad 51) (ad 43) (ad 44) (ad 46) (ad 48) ((t.1 44).2.1) ((t.1 46).2.1) ((t.1 48).2.1) ((t.1 42).1 0) ((t.1 42).1 1) ((t.1 42).1 2) ((t.1 43).1 0) ((t.1 45).1 0) ((t.1 47).1 0) he0 (z_nnz c_lab_0 he0) hw).at (hI.1.I [0, 42, 43, 44, 45, 46, 47, 48] _ rfl (by decide) (by decide) (List.forall_mem_cons.mpr ⟨w_a, (List.forall_mem_cons.mpr ⟨w_la, (List.forall_mem_cons.mpr ⟨w_lab, (List.forall_mem_cons.mpr ⟨w_labg, (List.forall_mem_cons.mpr ⟨w_gy, (List.forall_mem_cons.mpr ⟨w_gyg, (List.forall_mem_cons.mpr ⟨w_du, (List.forall_mem_cons.mpr ⟨w_dug, (fun _ h => nomatch h)⟩)⟩)⟩)⟩)⟩)⟩)⟩)⟩))).mono (Nat.le_of_ble_eq_true rfl) (Nat.le_of_ble_eq_true rfl) (fun o w1 hp => ?_)
  obtain ⟨cs1, hp, hi9⟩ := hp
  obtain ⟨e1, e2⟩ := hp
  subst e1; subst e2
  exact ⟨rfl, hI.fix (t2 := (zup t.1 [(43, ((upd ((t.1 43).1) 0 (((t.1 43).1 0) - ((t.1 43).1 0))), (t.1 43).2.1, (t.1 43).2.2)), (44, ((t.1 44).1, mvS ((t.1 44).2.1) ((t.1 43).1 0) ((t.1 43).1 0) 4, (t.1 44).2.2)), (47, ((upd ((t.1 47).1) 0 (((t.1 47).1 0) + ((t.1 43).1 0))), (t.1 47).2.1, (t.1 47).2.2)), (48, ((t.1 48).1, mvT ((t.1 44).2.1) ((t.1 43).1 0) ((t.1 43).1 0) ((t.1 48).2.1) 4, (t.1 48).2.2))], t.2)) (is := [0, 42, 43, 44, 45, 46, 47, 48]) hi9 rfl ⟨kd_0.mpr rfl, kd_42.mpr ⟨c_la_0, rfl⟩, kd_43.mpr ⟨(show 0 ≤ (t.1 43).1 0 - (t.1 43).1 0 from by rw [Int32.sub_self]; decide), rfl⟩, kd_44.mpr rfl, kd_45.mpr rfl, kd_46.mpr rfl, kd_47.mpr rfl, kd_48.mpr rfl, trivial⟩ (by decide) (by decide) (fun i hi hn => zup_out (fun q => hn ((by decide : ∀ j ∈ ([43, 44, 47, 48] : List Nat), j ∈ ([0, 42, 43, 44, 45, 46, 47, 48] : List Nat)) i q))) (fun h => h) rfl, z_kf.of (hi9.ke (L := ([0, 42, 43, 44, 45, 46, 47, 48] : List Nat).map ad) rfl) (by decide)⟩
set_option maxHeartbeats 4000000 in
theorem Qx_Ip_pool103 {g : zG} {ad : Nat → Nat} {t : zTT} {u : zNN} {w : zW} (hI : IV g ad t u w) : zMB g M_Ip_pool [.ref (ad 0), .int 103] w (fun o w1 => o = .inl (some (.int ((t.1 45).1 0))) ∧ w1 = w) 1 6 := by
  obtain ⟨e_a, w_a, k_a⟩ := hI.1.2 0 (by decide)
  obtain rfl := kd_0.mp k_a
  obtain ⟨e_gy, w_gy, k_gy⟩ := hI.1.2 45 (by decide)
  obtain rfl := kd_45.mp k_gy
  obtain ⟨e_gyg, w_gyg, k_gyg⟩ := hI.1.2 46 (by decide)
  obtain rfl := kd_46.mp k_gyg
  have hJ := hI.1.I [0, 45, 46] [((ad 0), .inr (11, [.ref (ad 1), .ref (ad 5), .ref (ad 18), .ref (ad 31), .ref (ad 32), .ref (ad 36), .ref (ad 42), .ref (ad 45), .ref (ad 47), .ref (ad 49), .ref (ad 50), .ref (ad 51)])), ((ad 45), .inr (6, [.ref (ad 46), .int ((t.1 45).1 0)])), ((ad 46), .inl (3, 4, .inr (.inl ((t.1 46).2.1))))] rfl (by decide) (by decide) (List.forall_mem_cons.mpr ⟨w_a, (List.forall_mem_cons.mpr ⟨w_gy, (List.forall_mem_cons.mpr ⟨w_gyg, (fun _ h => nomatch h)⟩)⟩)⟩)
  refine ((C_Ip_pool103 g (ad 0) (ad 1) (ad 5) (ad 18) (ad 31) (ad 32) (ad 36) (ad 42) (ad 45) (ad 47) (ad 49) (ad 50) (ad 51) (ad 46) ((t.1 46).2.1) ((t.1 45).1 0)).at hJ).mono (Nat.le_of_ble_eq_true rfl) (Nat.le_of_ble_eq_true rfl) (fun o w1 hp => ?_)
  obtain ⟨cs1, hp, hi9⟩ := hp
  obtain ⟨e1, e2⟩ := hp
  subst e1; subst e2
  exact ⟨rfl, z_I.same hJ hi9⟩
set_option maxHeartbeats 4000000 in
theorem Qx_Ip_pool100 {g : zG} {ad : Nat → Nat} {t : zTT} {u : zNN} {w : zW} (hI : IV g ad t u w) : zMB g M_Ip_pool [.ref (ad 0), .int 100] w (fun o w1 => o = .inl (some (.int ((t.1 47).1 0))) ∧ w1 = w) 1 6 := by
  obtain ⟨e_a, w_a, k_a⟩ := hI.1.2 0 (by decide)
  obtain rfl := kd_0.mp k_a
  obtain ⟨e_du, w_du, k_du⟩ := hI.1.2 47 (by decide)
  obtain rfl := kd_47.mp k_du
  obtain ⟨e_dug, w_dug, k_dug⟩ := hI.1.2 48 (by decide)
  obtain rfl := kd_48.mp k_dug
  have hJ := hI.1.I [0, 47, 48] [((ad 0), .inr (11, [.ref (ad 1), .ref (ad 5), .ref (ad 18), .ref (ad 31), .ref (ad 32), .ref (ad 36), .ref (ad 42), .ref (ad 45), .ref (ad 47), .ref (ad 49), .ref (ad 50), .ref (ad 51)])), ((ad 47), .inr (6, [.ref (ad 48), .int ((t.1 47).1 0)])), ((ad 48), .inl (3, 4, .inr (.inl ((t.1 48).2.1))))] rfl (by decide) (by decide) (List.forall_mem_cons.mpr ⟨w_a, (List.forall_mem_cons.mpr ⟨w_du, (List.forall_mem_cons.mpr ⟨w_dug, (fun _ h => nomatch h)⟩)⟩)⟩)
  refine ((C_Ip_pool100 g (ad 0) (ad 1) (ad 5) (ad 18) (ad 31) (ad 32) (ad 36) (ad 42) (ad 45) (ad 47) (ad 49) (ad 50) (ad 51) (ad 48) ((t.1 48).2.1) ((t.1 47).1 0)).at hJ).mono (Nat.le_of_ble_eq_true rfl) (Nat.le_of_ble_eq_true rfl) (fun o w1 hp => ?_)
  obtain ⟨cs1, hp, hi9⟩ := hp
  obtain ⟨e1, e2⟩ := hp
  subst e1; subst e2
  exact ⟨rfl, z_I.same hJ hi9⟩
