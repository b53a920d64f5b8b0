theorem zriE {Es : List String} {E : String} (h : zri Es (.inr E)) : E ∈ Es := by
  rcases h with ⟨v, e⟩ | ⟨E2, h, e⟩
  · cases e
  · cases e; exact h
theorem zriV {Es : List String} {v : Option Value} (h : zri Es (.inl v)) : ∃ x : Int32, v = some (.int x) := by
  rcases h with ⟨x, e⟩ | ⟨E2, h, e⟩
  · cases e; exact ⟨_, rfl⟩
  · cases e
theorem zri.sub {Es Fs : List String} {o : zO} (h : zri Es o) (k : ∀ E, E ∈ Es → E ∈ Fs) : zri Fs o := h.imp id (fun ⟨E, h1, h2⟩ => ⟨E, k E h1, h2⟩)
theorem zri.th {Es : List String} {E : String} {o : zO} (h : o = .inr E) (k : E ∈ Es) : zri Es o := Or.inr ⟨_, k, h⟩
theorem zri.vl {Es : List String} {x : Int32} {o : zO} (h : o = .inl (some (.int x))) : zri Es o := Or.inl ⟨_, h⟩
theorem z_ix3 {k : Int32} (h : 0 ≤ z_ix 3 k) : k = 119 ∨ k = 104 ∨ k = 109 := by
  have := z_ixm h
  simpa [z_by] using this
theorem z_ix4 {k : Int32} (h : 0 ≤ z_ix 4 k) : k = 112 ∨ k = 115 ∨ k = 102 := by
  have := z_ixm h
  simpa [z_by] using this
theorem z_nlt9 {x : Int32} (h : ¬ x < 0) : 0 ≤ x := Int32.not_lt.mp h
theorem z_pr9 {x : Int32} (h : ¬ (1 ≤ x ∧ x ≤ 8)) : x < 1 ∨ 9 ≤ x := by
  simp only [Int32.le_iff_toInt_le, Int32.lt_iff_toInt_lt] at h ⊢
  have h1 : (1 : Int32).toInt = 1 := rfl
  have h8 : (8 : Int32).toInt = 8 := rfl
  have h9 : (9 : Int32).toInt = 9 := rfl
  rw [h1, h8] at h
  rw [h1, h9]
  omega
def CKx (g : zG) (ad : Nat → Nat) (T : zTT) (n : Nat → Nat) (Es : List String) (o : zO) (w1 : zW) : Prop := zri Es o ∧ ∃ u2 : zNN, u2.1 = n ∧ IVm g ad T u2 w1
def MKx (g : zG) (ad : Nat → Nat) (T : zTT) (n : Nat → Nat) (o : zO) (w1 : zW) : Prop := (∃ v : Int32, o = .inl (some (.int v))) ∧ ∃ u2 : zNN, u2.1 = n ∧ IVm g ad T u2 w1
set_option maxHeartbeats 4000000 in
theorem Qx_Ip_drawZ {g : zG} {ad : Nat → Nat} {t : zTT} {u : zNN} {w : zW} (hI : IV g ad t u w) (kd : Int32) (hk : z_kind kd) (hki : 0 ≤ z_ix 0 kd) (x : Nat) (y : Nat) (u8 : Nat) (v8 : Nat) (hx : x + u8 ≤ 12) (hy : y + v8 ≤ 9) (hu : 1 ≤ u8) (hv : 1 ≤ v8) (hz : (prect kd x y u8 (((t.1 2).1), 0) v8).2 = 0) : zMB g M_Ip_draw [.ref (ad 0), .int kd, .int (nI x), .int (nI y), .int (nI u8), .int (nI v8)] w (fun o w1 => o = .inl (some (.int (nI (prect kd x y u8 (((t.1 2).1), 0) v8).2))) ∧ IV g ad (zup t.1 [(2, ((prect kd x y u8 (((t.1 2).1), 0) v8).1, (t.1 2).2)), (5, ((upd (upd ((t.1 5).1) 0 (((((t.1 6).1), ((t.1 7).1), (t.1 5).1 0, (t.1 5).1 1), (((((t.1 9).1), ((t.1 11).1), ((t.1 12).1), (t.1 8).1 0), ((t.1 10).1)), ((t.1 13).1), ((t.1 14).1)), (((t.1 15).1), ((t.1 16).1), ((t.1 17).2.2))).1.2.2.1)) 1 (((((t.1 6).1), ((t.1 7).1), (t.1 5).1 0, (t.1 5).1 1), (((((t.1 9).1), ((t.1 11).1), ((t.1 12).1), (t.1 8).1 0), ((t.1 10).1)), ((t.1 13).1), ((t.1 14).1)), (((t.1 15).1), ((t.1 16).1), ((t.1 17).2.2))).1.2.2.2)), (t.1 5).2.1, (t.1 5).2.2)), (6, (((((t.1 6).1), ((t.1 7).1), (t.1 5).1 0, (t.1 5).1 1), (((((t.1 9).1), ((t.1 11).1), ((t.1 12).1), (t.1 8).1 0), ((t.1 10).1)), ((t.1 13).1), ((t.1 14).1)), (((t.1 15).1), ((t.1 16).1), ((t.1 17).2.2))).1.1, (t.1 6).2)), (7, (((((t.1 6).1), ((t.1 7).1), (t.1 5).1 0, (t.1 5).1 1), (((((t.1 9).1), ((t.1 11).1), ((t.1 12).1), (t.1 8).1 0), ((t.1 10).1)), ((t.1 13).1), ((t.1 14).1)), (((t.1 15).1), ((t.1 16).1), ((t.1 17).2.2))).1.2.1, (t.1 7).2)), (8, ((upd ((t.1 8).1) 0 (((((t.1 6).1), ((t.1 7).1), (t.1 5).1 0, (t.1 5).1 1), (((((t.1 9).1), ((t.1 11).1), ((t.1 12).1), (t.1 8).1 0), ((t.1 10).1)), ((t.1 13).1), ((t.1 14).1)), (((t.1 15).1), ((t.1 16).1), ((t.1 17).2.2))).2.1.1.1.2.2.2)), (t.1 8).2.1, (t.1 8).2.2)), (9, (((((t.1 6).1), ((t.1 7).1), (t.1 5).1 0, (t.1 5).1 1), (((((t.1 9).1), ((t.1 11).1), ((t.1 12).1), (t.1 8).1 0), ((t.1 10).1)), ((t.1 13).1), ((t.1 14).1)), (((t.1 15).1), ((t.1 16).1), ((t.1 17).2.2))).2.1.1.1.1, (t.1 9).2)), (10, (((((t.1 6).1), ((t.1 7).1), (t.1 5).1 0, (t.1 5).1 1), (((((t.1 9).1), ((t.1 11).1), ((t.1 12).1), (t.1 8).1 0), ((t.1 10).1)), ((t.1 13).1), ((t.1 14).1)), (((t.1 15).1), ((t.1 16).1), ((t.1 17).2.2))).2.1.1.2, (t.1 10).2)), (11, (((((t.1 6).1), ((t.1 7).1), (t.1 5).1 0, (t.1 5).1 1), (((((t.1 9).1), ((t.1 11).1), ((t.1 12).1), (t.1 8).1 0), ((t.1 10).1)), ((t.1 13).1), ((t.1 14).1)), (((t.1 15).1), ((t.1 16).1), ((t.1 17).2.2))).2.1.1.1.2.1, (t.1 11).2)), (12, (((((t.1 6).1), ((t.1 7).1), (t.1 5).1 0, (t.1 5).1 1), (((((t.1 9).1), ((t.1 11).1), ((t.1 12).1), (t.1 8).1 0), ((t.1 10).1)), ((t.1 13).1), ((t.1 14).1)), (((t.1 15).1), ((t.1 16).1), ((t.1 17).2.2))).2.1.1.1.2.2.1, (t.1 12).2)), (13, (((((t.1 6).1), ((t.1 7).1), (t.1 5).1 0, (t.1 5).1 1), (((((t.1 9).1), ((t.1 11).1), ((t.1 12).1), (t.1 8).1 0), ((t.1 10).1)), ((t.1 13).1), ((t.1 14).1)), (((t.1 15).1), ((t.1 16).1), ((t.1 17).2.2))).2.1.2.1, (t.1 13).2)), (14, (((((t.1 6).1), ((t.1 7).1), (t.1 5).1 0, (t.1 5).1 1), (((((t.1 9).1), ((t.1 11).1), ((t.1 12).1), (t.1 8).1 0), ((t.1 10).1)), ((t.1 13).1), ((t.1 14).1)), (((t.1 15).1), ((t.1 16).1), ((t.1 17).2.2))).2.1.2.2, (t.1 14).2)), (15, (((((t.1 6).1), ((t.1 7).1), (t.1 5).1 0, (t.1 5).1 1), (((((t.1 9).1), ((t.1 11).1), ((t.1 12).1), (t.1 8).1 0), ((t.1 10).1)), ((t.1 13).1), ((t.1 14).1)), (((t.1 15).1), ((t.1 16).1), ((t.1 17).2.2))).2.2.1, (t.1 15).2)), (16, (((((t.1 6).1), ((t.1 7).1), (t.1 5).1 0, (t.1 5).1 1), (((((t.1 9).1), ((t.1 11).1), ((t.1 12).1), (t.1 8).1 0), ((t.1 10).1)), ((t.1 13).1), ((t.1 14).1)), (((t.1 15).1), ((t.1 16).1), ((t.1 17).2.2))).2.2.2.1, (t.1 16).2)), (17, ((t.1 17).1, (t.1 17).2.1, ((((t.1 6).1), ((t.1 7).1), (t.1 5).1 0, (t.1 5).1 1), (((((t.1 9).1), ((t.1 11).1), ((t.1 12).1), (t.1 8).1 0), ((t.1 10).1)), ((t.1 13).1), ((t.1 14).1)), (((t.1 15).1), ((t.1 16).1), ((t.1 17).2.2))).2.2.2.2))], t.2) u w1) 1 6 := by
  obtain ⟨e_a, w_a, k_a⟩ := hI.1.2 0 (by decide)
  obtain rfl := kd_0.mp k_a
  obtain ⟨e_pa, w_pa, k_pa⟩ := hI.1.2 1 (by decide)
  obtain rfl := kd_1.mp k_pa
  obtain ⟨e_pa1, w_pa1, k_pa1⟩ := hI.1.2 2 (by decide)
  obtain rfl := kd_2.mp k_pa1
  obtain ⟨e_pa2, w_pa2, k_pa2⟩ := hI.1.2 3 (by decide)
  obtain ⟨v_pa2_f, rfl⟩ := kd_3.mp k_pa2
  obtain ⟨e_pa3, w_pa3, k_pa3⟩ := hI.1.2 4 (by decide)
  obtain ⟨v_pa3_h, rfl⟩ := kd_4.mp k_pa3
  obtain ⟨e_ta, w_ta, k_ta⟩ := hI.1.2 5 (by decide)
  obtain rfl := kd_5.mp k_ta
  obtain ⟨e_ta1, w_ta1, k_ta1⟩ := hI.1.2 6 (by decide)
  obtain rfl := kd_6.mp k_ta1
  obtain ⟨e_ta2, w_ta2, k_ta2⟩ := hI.1.2 7 (by decide)
  obtain rfl := kd_7.mp k_ta2
  obtain ⟨e_taz, w_taz, k_taz⟩ := hI.1.2 8 (by decide)
  obtain rfl := kd_8.mp k_taz
  obtain ⟨e_taz1, w_taz1, k_taz1⟩ := hI.1.2 9 (by decide)
  obtain rfl := kd_9.mp k_taz1
  obtain ⟨e_taz2, w_taz2, k_taz2⟩ := hI.1.2 10 (by decide)
  obtain rfl := kd_10.mp k_taz2
  obtain ⟨e_taz3, w_taz3, k_taz3⟩ := hI.1.2 11 (by decide)
  obtain rfl := kd_11.mp k_taz3
  obtain ⟨e_taz4, w_taz4, k_taz4⟩ := hI.1.2 12 (by decide)
  obtain rfl := kd_12.mp k_taz4
  obtain ⟨e_taz5, w_taz5, k_taz5⟩ := hI.1.2 13 (by decide)
  obtain rfl := kd_13.mp k_taz5
  obtain ⟨e_taz6, w_taz6, k_taz6⟩ := hI.1.2 14 (by decide)
  obtain rfl := kd_14.mp k_taz6
  obtain ⟨e_ta4, w_ta4, k_ta4⟩ := hI.1.2 15 (by decide)
  obtain ⟨c_ta4_0, rfl⟩ := kd_15.mp k_ta4
  obtain ⟨e_ta5, w_ta5, k_ta5⟩ := hI.1.2 16 (by decide)
  obtain rfl := kd_16.mp k_ta5
  obtain ⟨e_ta6, w_ta6, k_ta6⟩ := hI.1.2 17 (by decide)
  obtain rfl := kd_17.mp k_ta6
  refine ((C_Ip_drawZ g (ad 0) (ad 1) (ad 5) (ad 18) (ad 31) (ad 32) (ad 36) (ad 42) (ad 45) (ad 47) (ad 49) (ad 50) (ad 51) (ad 2) (ad 3) (ad 4) ((t.1 2).1) v_pa2_f v_pa3_h ((t.1 1).2.2 0) (ad 6) (ad 7) (ad 8) (ad 9) (ad 10) (ad 11) (ad 12) (ad 13) (ad 14) (ad 15) (ad 16) (ad 17) ((((t.1 6).1), ((t.1 7).1), (t.1 5).1 0, (t.1 5).1 1), (((((t.1 9).1), ((t.1 11).1), ((t.1 12).1), (t.1 8).1 0), ((t.1 10).1)), ((t.1 13).1), ((t.1 14).1)), (((t.1 15).1), ((t.1 16).1), ((t.1 17).2.2))) kd hk hki x y u8 v8 hx hy hu hv hz).at (hI.1.I [0, 1, 2, 3, 4, 5, 6, 7, 8, 9, 10, 11, 12, 13, 14, 15, 16, 17] _ rfl (by decide) (by decide) (List.forall_mem_cons.mpr ⟨w_a, (List.forall_mem_cons.mpr ⟨w_pa, (List.forall_mem_cons.mpr ⟨w_pa1, (List.forall_mem_cons.mpr ⟨w_pa2, (List.forall_mem_cons.mpr ⟨w_pa3, (List.forall_mem_cons.mpr ⟨w_ta, (List.forall_mem_cons.mpr ⟨w_ta1, (List.forall_mem_cons.mpr ⟨w_ta2, (List.forall_mem_cons.mpr ⟨w_taz, (List.forall_mem_cons.mpr ⟨w_taz1, (List.forall_mem_cons.mpr ⟨w_taz2, (List.forall_mem_cons.mpr ⟨w_taz3, (List.forall_mem_cons.mpr ⟨w_taz4, (List.forall_mem_cons.mpr ⟨w_taz5, (List.forall_mem_cons.mpr ⟨w_taz6, (List.forall_mem_cons.mpr ⟨w_ta4, (List.forall_mem_cons.mpr ⟨w_ta5, (List.forall_mem_cons.mpr ⟨w_ta6, (fun _ h => nomatch h)⟩)⟩)⟩)⟩)⟩)⟩)⟩)⟩)⟩)⟩)⟩)⟩)⟩)⟩)⟩)⟩)⟩)⟩))).mono (Nat.le_of_ble_eq_true rfl) (Nat.le_of_ble_eq_true rfl) (fun o w1 hp => ?_)
  obtain ⟨cs1, hp, hi9⟩ := hp
  obtain ⟨e1, e2⟩ := hp
  subst e1; subst e2
  exact ⟨rfl, hI.fix (t2 := (zup t.1 [(2, ((prect kd x y u8 (((t.1 2).1), 0) v8).1, (t.1 2).2)), (5, ((upd (upd ((t.1 5).1) 0 (((((t.1 6).1), ((t.1 7).1), (t.1 5).1 0, (t.1 5).1 1), (((((t.1 9).1), ((t.1 11).1), ((t.1 12).1), (t.1 8).1 0), ((t.1 10).1)), ((t.1 13).1), ((t.1 14).1)), (((t.1 15).1), ((t.1 16).1), ((t.1 17).2.2))).1.2.2.1)) 1 (((((t.1 6).1), ((t.1 7).1), (t.1 5).1 0, (t.1 5).1 1), (((((t.1 9).1), ((t.1 11).1), ((t.1 12).1), (t.1 8).1 0), ((t.1 10).1)), ((t.1 13).1), ((t.1 14).1)), (((t.1 15).1), ((t.1 16).1), ((t.1 17).2.2))).1.2.2.2)), (t.1 5).2.1, (t.1 5).2.2)), (6, (((((t.1 6).1), ((t.1 7).1), (t.1 5).1 0, (t.1 5).1 1), (((((t.1 9).1), ((t.1 11).1), ((t.1 12).1), (t.1 8).1 0), ((t.1 10).1)), ((t.1 13).1), ((t.1 14).1)), (((t.1 15).1), ((t.1 16).1), ((t.1 17).2.2))).1.1, (t.1 6).2)), (7, (((((t.1 6).1), ((t.1 7).1), (t.1 5).1 0, (t.1 5).1 1), (((((t.1 9).1), ((t.1 11).1), ((t.1 12).1), (t.1 8).1 0), ((t.1 10).1)), ((t.1 13).1), ((t.1 14).1)), (((t.1 15).1), ((t.1 16).1), ((t.1 17).2.2))).1.2.1, (t.1 7).2)), (8, ((upd ((t.1 8).1) 0 (((((t.1 6).1), ((t.1 7).1), (t.1 5).1 0, (t.1 5).1 1), (((((t.1 9).1), ((t.1 11).1), ((t.1 12).1), (t.1 8).1 0), ((t.1 10).1)), ((t.1 13).1), ((t.1 14).1)), (((t.1 15).1), ((t.1 16).1), ((t.1 17).2.2))).2.1.1.1.2.2.2)), (t.1 8).2.1, (t.1 8).2.2)), (9, (((((t.1 6).1), ((t.1 7).1), (t.1 5).1 0, (t.1 5).1 1), (((((t.1 9).1), ((t.1 11).1), ((t.1 12).1), (t.1 8).1 0), ((t.1 10).1)), ((t.1 13).1), ((t.1 14).1)), (((t.1 15).1), ((t.1 16).1), ((t.1 17).2.2))).2.1.1.1.1, (t.1 9).2)), (10, (((((t.1 6).1), ((t.1 7).1), (t.1 5).1 0, (t.1 5).1 1), (((((t.1 9).1), ((t.1 11).1), ((t.1 12).1), (t.1 8).1 0), ((t.1 10).1)), ((t.1 13).1), ((t.1 14).1)), (((t.1 15).1), ((t.1 16).1), ((t.1 17).2.2))).2.1.1.2, (t.1 10).2)), (11, (((((t.1 6).1), ((t.1 7).1), (t.1 5).1 0, (t.1 5).1 1), (((((t.1 9).1), ((t.1 11).1), ((t.1 12).1), (t.1 8).1 0), ((t.1 10).1)), ((t.1 13).1), ((t.1 14).1)), (((t.1 15).1), ((t.1 16).1), ((t.1 17).2.2))).2.1.1.1.2.1, (t.1 11).2)), (12, (((((t.1 6).1), ((t.1 7).1), (t.1 5).1 0, (t.1 5).1 1), (((((t.1 9).1), ((t.1 11).1), ((t.1 12).1), (t.1 8).1 0), ((t.1 10).1)), ((t.1 13).1), ((t.1 14).1)), (((t.1 15).1), ((t.1 16).1), ((t.1 17).2.2))).2.1.1.1.2.2.1, (t.1 12).2)), (13, (((((t.1 6).1), ((t.1 7).1), (t.1 5).1 0, (t.1 5).1 1), (((((t.1 9).1), ((t.1 11).1), ((t.1 12).1), (t.1 8).1 0), ((t.1 10).1)), ((t.1 13).1), ((t.1 14).1)), (((t.1 15).1), ((t.1 16).1), ((t.1 17).2.2))).2.1.2.1, (t.1 13).2)), (14, (((((t.1 6).1), ((t.1 7).1), (t.1 5).1 0, (t.1 5).1 1), (((((t.1 9).1), ((t.1 11).1), ((t.1 12).1), (t.1 8).1 0), ((t.1 10).1)), ((t.1 13).1), ((t.1 14).1)), (((t.1 15).1), ((t.1 16).1), ((t.1 17).2.2))).2.1.2.2, (t.1 14).2)), (15, (((((t.1 6).1), ((t.1 7).1), (t.1 5).1 0, (t.1 5).1 1), (((((t.1 9).1), ((t.1 11).1), ((t.1 12).1), (t.1 8).1 0), ((t.1 10).1)), ((t.1 13).1), ((t.1 14).1)), (((t.1 15).1), ((t.1 16).1), ((t.1 17).2.2))).2.2.1, (t.1 15).2)), (16, (((((t.1 6).1), ((t.1 7).1), (t.1 5).1 0, (t.1 5).1 1), (((((t.1 9).1), ((t.1 11).1), ((t.1 12).1), (t.1 8).1 0), ((t.1 10).1)), ((t.1 13).1), ((t.1 14).1)), (((t.1 15).1), ((t.1 16).1), ((t.1 17).2.2))).2.2.2.1, (t.1 16).2)), (17, ((t.1 17).1, (t.1 17).2.1, ((((t.1 6).1), ((t.1 7).1), (t.1 5).1 0, (t.1 5).1 1), (((((t.1 9).1), ((t.1 11).1), ((t.1 12).1), (t.1 8).1 0), ((t.1 10).1)), ((t.1 13).1), ((t.1 14).1)), (((t.1 15).1), ((t.1 16).1), ((t.1 17).2.2))).2.2.2.2))], t.2)) (is := [0, 1, 2, 3, 4, 5, 6, 7, 8, 9, 10, 11, 12, 13, 14, 15, 16, 17]) hi9 rfl ⟨kd_0.mpr rfl, kd_1.mpr rfl, kd_2.mpr rfl, kd_3.mpr ⟨_, rfl⟩, kd_4.mpr ⟨_, rfl⟩, kd_5.mpr rfl, kd_6.mpr rfl, kd_7.mpr rfl, kd_8.mpr rfl, kd_9.mpr rfl, kd_10.mpr rfl, kd_11.mpr rfl, kd_12.mpr rfl, kd_13.mpr rfl, kd_14.mpr rfl, kd_15.mpr ⟨c_ta4_0, rfl⟩, kd_16.mpr rfl, kd_17.mpr rfl, trivial⟩ (by decide) (by decide) (fun i hi hn => zup_out (fun q => hn ((by decide : ∀ j ∈ ([2, 5, 6, 7, 8, 9, 10, 11, 12, 13, 14, 15, 16, 17] : List Nat), j ∈ ([0, 1, 2, 3, 4, 5, 6, 7, 8, 9, 10, 11, 12, 13, 14, 15, 16, 17] : List Nat)) i q))) (fun h => ⟨prect_ch hk h.1 v8, h.2⟩) rfl⟩
set_option maxHeartbeats 4000000 in
theorem Qx_Ip_drawN {g : zG} {ad : Nat → Nat} {t : zTT} {u : zNN} {w : zW} (hI : IV g ad t u w) (kd : Int32) (hk : z_kind kd) (hki : 0 ≤ z_ix 0 kd) (x : Nat) (y : Nat) (u8 : Nat) (v8 : Nat) (hx : x + u8 ≤ 12) (hy : y + v8 ≤ 9) (hu : 1 ≤ u8) (hv : 1 ≤ v8) (hz : ¬ (prect kd x y u8 (((t.1 2).1), 0) v8).2 = 0) : zMB g M_Ip_draw [.ref (ad 0), .int kd, .int (nI x), .int (nI y), .int (nI u8), .int (nI v8)] w (fun o w1 => o = .inl (some (.int (nI (prect kd x y u8 (((t.1 2).1), 0) v8).2))) ∧ IV g ad (zup t.1 [(2, ((prect kd x y u8 (((t.1 2).1), 0) v8).1, (t.1 2).2)), (5, ((upd (upd ((t.1 5).1) 0 ((tkT (prect kd x y u8 (((t.1 2).1), 0) v8).1 ((((t.1 6).1), ((t.1 7).1), (t.1 5).1 0, (t.1 5).1 1), (((((t.1 9).1), ((t.1 11).1), ((t.1 12).1), (t.1 8).1 0), ((t.1 10).1)), ((t.1 13).1), ((t.1 14).1)), (((t.1 15).1), ((t.1 16).1), ((t.1 17).2.2)))).1.2.2.1)) 1 ((tkT (prect kd x y u8 (((t.1 2).1), 0) v8).1 ((((t.1 6).1), ((t.1 7).1), (t.1 5).1 0, (t.1 5).1 1), (((((t.1 9).1), ((t.1 11).1), ((t.1 12).1), (t.1 8).1 0), ((t.1 10).1)), ((t.1 13).1), ((t.1 14).1)), (((t.1 15).1), ((t.1 16).1), ((t.1 17).2.2)))).1.2.2.2)), (t.1 5).2.1, (t.1 5).2.2)), (6, ((tkT (prect kd x y u8 (((t.1 2).1), 0) v8).1 ((((t.1 6).1), ((t.1 7).1), (t.1 5).1 0, (t.1 5).1 1), (((((t.1 9).1), ((t.1 11).1), ((t.1 12).1), (t.1 8).1 0), ((t.1 10).1)), ((t.1 13).1), ((t.1 14).1)), (((t.1 15).1), ((t.1 16).1), ((t.1 17).2.2)))).1.1, (t.1 6).2)), (7, ((tkT (prect kd x y u8 (((t.1 2).1), 0) v8).1 ((((t.1 6).1), ((t.1 7).1), (t.1 5).1 0, (t.1 5).1 1), (((((t.1 9).1), ((t.1 11).1), ((t.1 12).1), (t.1 8).1 0), ((t.1 10).1)), ((t.1 13).1), ((t.1 14).1)), (((t.1 15).1), ((t.1 16).1), ((t.1 17).2.2)))).1.2.1, (t.1 7).2)), (8, ((upd ((t.1 8).1) 0 ((tkT (prect kd x y u8 (((t.1 2).1), 0) v8).1 ((((t.1 6).1), ((t.1 7).1), (t.1 5).1 0, (t.1 5).1 1), (((((t.1 9).1), ((t.1 11).1), ((t.1 12).1), (t.1 8).1 0), ((t.1 10).1)), ((t.1 13).1), ((t.1 14).1)), (((t.1 15).1), ((t.1 16).1), ((t.1 17).2.2)))).2.1.1.1.2.2.2)), (t.1 8).2.1, (t.1 8).2.2)), (9, ((tkT (prect kd x y u8 (((t.1 2).1), 0) v8).1 ((((t.1 6).1), ((t.1 7).1), (t.1 5).1 0, (t.1 5).1 1), (((((t.1 9).1), ((t.1 11).1), ((t.1 12).1), (t.1 8).1 0), ((t.1 10).1)), ((t.1 13).1), ((t.1 14).1)), (((t.1 15).1), ((t.1 16).1), ((t.1 17).2.2)))).2.1.1.1.1, (t.1 9).2)), (10, ((tkT (prect kd x y u8 (((t.1 2).1), 0) v8).1 ((((t.1 6).1), ((t.1 7).1), (t.1 5).1 0, (t.1 5).1 1), (((((t.1 9).1), ((t.1 11).1), ((t.1 12).1), (t.1 8).1 0), ((t.1 10).1)), ((t.1 13).1), ((t.1 14).1)), (((t.1 15).1), ((t.1 16).1), ((t.1 17).2.2)))).2.1.1.2, (t.1 10).2)), (11, ((tkT (prect kd x y u8 (((t.1 2).1), 0) v8).1 ((((t.1 6).1), ((t.1 7).1), (t.1 5).1 0, (t.1 5).1 1), (((((t.1 9).1), ((t.1 11).1), ((t.1 12).1), (t.1 8).1 0), ((t.1 10).1)), ((t.1 13).1), ((t.1 14).1)), (((t.1 15).1), ((t.1 16).1), ((t.1 17).2.2)))).2.1.1.1.2.1, (t.1 11).2)), (12, ((tkT (prect kd x y u8 (((t.1 2).1), 0) v8).1 ((((t.1 6).1), ((t.1 7).1), (t.1 5).1 0, (t.1 5).1 1), (((((t.1 9).1), ((t.1 11).1), ((t.1 12).1), (t.1 8).1 0), ((t.1 10).1)), ((t.1 13).1), ((t.1 14).1)), (((t.1 15).1), ((t.1 16).1), ((t.1 17).2.2)))).2.1.1.1.2.2.1, (t.1 12).2)), (13, ((tkT (prect kd x y u8 (((t.1 2).1), 0) v8).1 ((((t.1 6).1), ((t.1 7).1), (t.1 5).1 0, (t.1 5).1 1), (((((t.1 9).1), ((t.1 11).1), ((t.1 12).1), (t.1 8).1 0), ((t.1 10).1)), ((t.1 13).1), ((t.1 14).1)), (((t.1 15).1), ((t.1 16).1), ((t.1 17).2.2)))).2.1.2.1, (t.1 13).2)), (14, ((tkT (prect kd x y u8 (((t.1 2).1), 0) v8).1 ((((t.1 6).1), ((t.1 7).1), (t.1 5).1 0, (t.1 5).1 1), (((((t.1 9).1), ((t.1 11).1), ((t.1 12).1), (t.1 8).1 0), ((t.1 10).1)), ((t.1 13).1), ((t.1 14).1)), (((t.1 15).1), ((t.1 16).1), ((t.1 17).2.2)))).2.1.2.2, (t.1 14).2)), (15, ((tkT (prect kd x y u8 (((t.1 2).1), 0) v8).1 ((((t.1 6).1), ((t.1 7).1), (t.1 5).1 0, (t.1 5).1 1), (((((t.1 9).1), ((t.1 11).1), ((t.1 12).1), (t.1 8).1 0), ((t.1 10).1)), ((t.1 13).1), ((t.1 14).1)), (((t.1 15).1), ((t.1 16).1), ((t.1 17).2.2)))).2.2.1, (t.1 15).2)), (16, ((tkT (prect kd x y u8 (((t.1 2).1), 0) v8).1 ((((t.1 6).1), ((t.1 7).1), (t.1 5).1 0, (t.1 5).1 1), (((((t.1 9).1), ((t.1 11).1), ((t.1 12).1), (t.1 8).1 0), ((t.1 10).1)), ((t.1 13).1), ((t.1 14).1)), (((t.1 15).1), ((t.1 16).1), ((t.1 17).2.2)))).2.2.2.1, (t.1 16).2)), (17, ((t.1 17).1, (t.1 17).2.1, (tkT (prect kd x y u8 (((t.1 2).1), 0) v8).1 ((((t.1 6).1), ((t.1 7).1), (t.1 5).1 0, (t.1 5).1 1), (((((t.1 9).1), ((t.1 11).1), ((t.1 12).1), (t.1 8).1 0), ((t.1 10).1)), ((t.1 13).1), ((t.1 14).1)), (((t.1 15).1), ((t.1 16).1), ((t.1 17).2.2)))).2.2.2.2))], t.2) u w1) 1 6 := by
  obtain ⟨e_a, w_a, k_a⟩ := hI.1.2 0 (by decide)
  obtain rfl := kd_0.mp k_a
  obtain ⟨e_pa, w_pa, k_pa⟩ := hI.1.2 1 (by decide)
  obtain rfl := kd_1.mp k_pa
  obtain ⟨e_pa1, w_pa1, k_pa1⟩ := hI.1.2 2 (by decide)
  obtain rfl := kd_2.mp k_pa1
  obtain ⟨e_pa2, w_pa2, k_pa2⟩ := hI.1.2 3 (by decide)
  obtain ⟨v_pa2_f, rfl⟩ := kd_3.mp k_pa2
  obtain ⟨e_pa3, w_pa3, k_pa3⟩ := hI.1.2 4 (by decide)
  obtain ⟨v_pa3_h, rfl⟩ := kd_4.mp k_pa3
  obtain ⟨e_ta, w_ta, k_ta⟩ := hI.1.2 5 (by decide)
  obtain rfl := kd_5.mp k_ta
  obtain ⟨e_ta1, w_ta1, k_ta1⟩ := hI.1.2 6 (by decide)
  obtain rfl := kd_6.mp k_ta1
  obtain ⟨e_ta2, w_ta2, k_ta2⟩ := hI.1.2 7 (by decide)
  obtain rfl := kd_7.mp k_ta2
  obtain ⟨e_taz, w_taz, k_taz⟩ := hI.1.2 8 (by decide)
  obtain rfl := kd_8.mp k_taz
  obtain ⟨e_taz1, w_taz1, k_taz1⟩ := hI.1.2 9 (by decide)
  obtain rfl := kd_9.mp k_taz1
  obtain ⟨e_taz2, w_taz2, k_taz2⟩ := hI.1.2 10 (by decide)
  obtain rfl := kd_10.mp k_taz2
  obtain ⟨e_taz3, w_taz3, k_taz3⟩ := hI.1.2 11 (by decide)
  obtain rfl := kd_11.mp k_taz3
  obtain ⟨e_taz4, w_taz4, k_taz4⟩ := hI.1.2 12 (by decide)
  obtain rfl := kd_12.mp k_taz4
  obtain ⟨e_taz5, w_taz5, k_taz5⟩ := hI.1.2 13 (by decide)
  obtain rfl := kd_13.mp k_taz5
  obtain ⟨e_taz6, w_taz6, k_taz6⟩ := hI.1.2 14 (by decide)
  obtain rfl := kd_14.mp k_taz6
  obtain ⟨e_ta4, w_ta4, k_ta4⟩ := hI.1.2 15 (by decide)
  obtain ⟨c_ta4_0, rfl⟩ := kd_15.mp k_ta4
  obtain ⟨e_ta5, w_ta5, k_ta5⟩ := hI.1.2 16 (by decide)
  obtain rfl := kd_16.mp k_ta5
  obtain ⟨e_ta6, w_ta6, k_ta6⟩ := hI.1.2 17 (by decide)
  obtain rfl := kd_17.mp k_ta6
  refine ((C_Ip_drawN g (ad 0) (ad 1) (ad 5) (ad 18) (ad 31) (ad 32) (ad 36) (ad 42) (ad 45) (ad 47) (ad 49) (ad 50) (ad 51) (ad 2) (ad 3) (ad 4) ((t.1 2).1) v_pa2_f v_pa3_h ((t.1 1).2.2 0) (ad 6) (ad 7) (ad 8) (ad 9) (ad 10) (ad 11) (ad 12) (ad 13) (ad 14) (ad 15) (ad 16) (ad 17) ((((t.1 6).1), ((t.1 7).1), (t.1 5).1 0, (t.1 5).1 1), (((((t.1 9).1), ((t.1 11).1), ((t.1 12).1), (t.1 8).1 0), ((t.1 10).1)), ((t.1 13).1), ((t.1 14).1)), (((t.1 15).1), ((t.1 16).1), ((t.1 17).2.2))) kd hk hki x y u8 v8 hx hy hu hv hz (prect_ch hk hI.2.2.1 v8)).at (hI.1.I [0, 1, 2, 3, 4, 5, 6, 7, 8, 9, 10, 11, 12, 13, 14, 15, 16, 17] _ rfl (by decide) (by decide) (List.forall_mem_cons.mpr ⟨w_a, (List.forall_mem_cons.mpr ⟨w_pa, (List.forall_mem_cons.mpr ⟨w_pa1, (List.forall_mem_cons.mpr ⟨w_pa2, (List.forall_mem_cons.mpr ⟨w_pa3, (List.forall_mem_cons.mpr ⟨w_ta, (List.forall_mem_cons.mpr ⟨w_ta1, (List.forall_mem_cons.mpr ⟨w_ta2, (List.forall_mem_cons.mpr ⟨w_taz, (List.forall_mem_cons.mpr ⟨w_taz1, (List.forall_mem_cons.mpr ⟨w_taz2, (List.forall_mem_cons.mpr ⟨w_taz3, (List.forall_mem_cons.mpr ⟨w_taz4, (List.forall_mem_cons.mpr ⟨w_taz5, (List.forall_mem_cons.mpr ⟨w_taz6, (List.forall_mem_cons.mpr ⟨w_ta4, (List.forall_mem_cons.mpr ⟨w_ta5, (List.forall_mem_cons.mpr ⟨w_ta6, (fun _ h => nomatch h)⟩)⟩)⟩)⟩)⟩)⟩)⟩)⟩)⟩)⟩)⟩)⟩)⟩)⟩)⟩)⟩)⟩)⟩))).mono (Nat.le_of_ble_eq_true rfl) (Nat.le_of_ble_eq_true rfl) (fun o w1 hp => ?_)
  obtain ⟨cs1, hp, hi9⟩ := hp
  obtain ⟨e1, e2⟩ := hp
  subst e1; subst e2
  exact ⟨rfl, hI.fix (t2 := (zup t.1 [(2, ((prect kd x y u8 (((t.1 2).1), 0) v8).1, (t.1 2).2)), (5, ((upd (upd ((t.1 5).1) 0 ((tkT (prect kd x y u8 (((t.1 2).1), 0) v8).1 ((((t.1 6).1), ((t.1 7).1), (t.1 5).1 0, (t.1 5).1 1), (((((t.1 9).1), ((t.1 11).1), ((t.1 12).1), (t.1 8).1 0), ((t.1 10).1)), ((t.1 13).1), ((t.1 14).1)), (((t.1 15).1), ((t.1 16).1), ((t.1 17).2.2)))).1.2.2.1)) 1 ((tkT (prect kd x y u8 (((t.1 2).1), 0) v8).1 ((((t.1 6).1), ((t.1 7).1), (t.1 5).1 0, (t.1 5).1 1), (((((t.1 9).1), ((t.1 11).1), ((t.1 12).1), (t.1 8).1 0), ((t.1 10).1)), ((t.1 13).1), ((t.1 14).1)), (((t.1 15).1), ((t.1 16).1), ((t.1 17).2.2)))).1.2.2.2)), (t.1 5).2.1, (t.1 5).2.2)), (6, ((tkT (prect kd x y u8 (((t.1 2).1), 0) v8).1 ((((t.1 6).1), ((t.1 7).1), (t.1 5).1 0, (t.1 5).1 1), (((((t.1 9).1), ((t.1 11).1), ((t.1 12).1), (t.1 8).1 0), ((t.1 10).1)), ((t.1 13).1), ((t.1 14).1)), (((t.1 15).1), ((t.1 16).1), ((t.1 17).2.2)))).1.1, (t.1 6).2)), (7, ((tkT (prect kd x y u8 (((t.1 2).1), 0) v8).1 ((((t.1 6).1), ((t.1 7).1), (t.1 5).1 0, (t.1 5).1 1), (((((t.1 9).1), ((t.1 11).1), ((t.1 12).1), (t.1 8).1 0), ((t.1 10).1)), ((t.1 13).1), ((t.1 14).1)), (((t.1 15).1), ((t.1 16).1), ((t.1 17).2.2)))).1.2.1, (t.1 7).2)), (8, ((upd ((t.1 8).1) 0 ((tkT (prect kd x y u8 (((t.1 2).1), 0) v8).1 ((((t.1 6).1), ((t.1 7).1), (t.1 5).1 0, (t.1 5).1 1), (((((t.1 9).1), ((t.1 11).1), ((t.1 12).1), (t.1 8).1 0), ((t.1 10).1)), ((t.1 13).1), ((t.1 14).1)), (((t.1 15).1), ((t.1 16).1), ((t.1 17).2.2)))).2.1.1.1.2.2.2)), (t.1 8).2.1, (t.1 8).2.2)), (9, ((tkT (prect kd x y u8 (((t.1 2).1), 0) v8).1 ((((t.1 6).1), ((t.1 7).1), (t.1 5).1 0, (t.1 5).1 1), (((((t.1 9).1), ((t.1 11).1), ((t.1 12).1), (t.1 8).1 0), ((t.1 10).1)), ((t.1 13).1), ((t.1 14).1)), (((t.1 15).1), ((t.1 16).1), ((t.1 17).2.2)))).2.1.1.1.1, (t.1 9).2)), (10, ((tkT (prect kd x y u8 (((t.1 2).1), 0) v8).1 ((((t.1 6).1), ((t.1 7).1), (t.1 5).1 0, (t.1 5).1 1), (((((t.1 9).1), ((t.1 11).1), ((t.1 12).1), (t.1 8).1 0), ((t.1 10).1)), ((t.1 13).1), ((t.1 14).1)), (((t.1 15).1), ((t.1 16).1), ((t.1 17).2.2)))).2.1.1.2, (t.1 10).2)), (11, ((tkT (prect kd x y u8 (((t.1 2).1), 0) v8).1 ((((t.1 6).1), ((t.1 7).1), (t.1 5).1 0, (t.1 5).1 1), (((((t.1 9).1), ((t.1 11).1), ((t.1 12).1), (t.1 8).1 0), ((t.1 10).1)), ((t.1 13).1), ((t.1 14).1)), (((t.1 15).1), ((t.1 16).1), ((t.1 17).2.2)))).2.1.1.1.2.1, (t.1 11).2)), (12, ((tkT (prect kd x y u8 (((t.1 2).1), 0) v8).1 ((((t.1 6).1), ((t.1 7).1), (t.1 5).1 0, (t.1 5).1 1), (((((t.1 9).1), ((t.1 11).1), ((t.1 12).1), (t.1 8).1 0), ((t.1 10).1)), ((t.1 13).1), ((t.1 14).1)), (((t.1 15).1), ((t.1 16).1), ((t.1 17).2.2)))).2.1.1.1.2.2.1, (t.1 12).2)), (13, ((tkT (prect kd x y u8 (((t.1 2).1), 0) v8).1 ((((t.1 6).1), ((t.1 7).1), (t.1 5).1 0, (t.1 5).1 1), (((((t.1 9).1), ((t.1 11).1), ((t.1 12).1), (t.1 8).1 0), ((t.1 10).1)), ((t.1 13).1), ((t.1 14).1)), (((t.1 15).1), ((t.1 16).1), ((t.1 17).2.2)))).2.1.2.1, (t.1 13).2)), (14, ((tkT (prect kd x y u8 (((t.1 2).1), 0) v8).1 ((((t.1 6).1), ((t.1 7).1), (t.1 5).1 0, (t.1 5).1 1), (((((t.1 9).1), ((t.1 11).1), ((t.1 12).1), (t.1 8).1 0), ((t.1 10).1)), ((t.1 13).1), ((t.1 14).1)), (((t.1 15).1), ((t.1 16).1), ((t.1 17).2.2)))).2.1.2.2, (t.1 14).2)), (15, ((tkT (prect kd x y u8 (((t.1 2).1), 0) v8).1 ((((t.1 6).1), ((t.1 7).1), (t.1 5).1 0, (t.1 5).1 1), (((((t.1 9).1), ((t.1 11).1), ((t.1 12).1), (t.1 8).1 0), ((t.1 10).1)), ((t.1 13).1), ((t.1 14).1)), (((t.1 15).1), ((t.1 16).1), ((t.1 17).2.2)))).2.2.1, (t.1 15).2)), (16, ((tkT (prect kd x y u8 (((t.1 2).1), 0) v8).1 ((((t.1 6).1), ((t.1 7).1), (t.1 5).1 0, (t.1 5).1 1), (((((t.1 9).1), ((t.1 11).1), ((t.1 12).1), (t.1 8).1 0), ((t.1 10).1)), ((t.1 13).1), ((t.1 14).1)), (((t.1 15).1), ((t.1 16).1), ((t.1 17).2.2)))).2.2.2.1, (t.1 16).2)), (17, ((t.1 17).1, (t.1 17).2.1, (tkT (prect kd x y u8 (((t.1 2).1), 0) v8).1 ((((t.1 6).1), ((t.1 7).1), (t.1 5).1 0, (t.1 5).1 1), (((((t.1 9).1), ((t.1 11).1), ((t.1 12).1), (t.1 8).1 0), ((t.1 10).1)), ((t.1 13).1), ((t.1 14).1)), (((t.1 15).1), ((t.1 16).1), ((t.1 17).2.2)))).2.2.2.2))], t.2)) (is := [0, 1, 2, 3, 4, 5, 6, 7, 8, 9, 10, 11, 12, 13, 14, 15, 16, 17]) hi9 rfl ⟨kd_0.mpr rfl, kd_1.mpr rfl, kd_2.mpr rfl, kd_3.mpr ⟨_, rfl⟩, kd_4.mpr ⟨_, rfl⟩, kd_5.mpr rfl, kd_6.mpr rfl, kd_7.mpr rfl, kd_8.mpr rfl, kd_9.mpr rfl, kd_10.mpr rfl, kd_11.mpr rfl, kd_12.mpr rfl, kd_13.mpr rfl, kd_14.mpr rfl, kd_15.mpr ⟨c_ta4_0, rfl⟩, kd_16.mpr rfl, kd_17.mpr rfl, trivial⟩ (by decide) (by decide) (fun i hi hn => zup_out (fun q => hn ((by decide : ∀ j ∈ ([2, 5, 6, 7, 8, 9, 10, 11, 12, 13, 14, 15, 16, 17] : List Nat), j ∈ ([0, 1, 2, 3, 4, 5, 6, 7, 8, 9, 10, 11, 12, 13, 14, 15, 16, 17] : List Nat)) i q))) (fun h => ⟨prect_ch hk h.1 v8, h.2⟩) rfl⟩
set_option maxHeartbeats 4000000 in
theorem Qx_Ip_drawE {g : zG} {ad : Nat → Nat} {t : zTT} {u : zNN} {w : zW} (hI : IV g ad t u w) (k : Int32) (x : Int32) (y : Int32) (w8 : Int32) (v8 : Int32) (hd : ¬ (0 ≤ z_ix 0 k ∧ (0 ≤ x ∧ x < 12 ∧ 0 ≤ y ∧ y < 9) ∧ 1 ≤ w8 ∧ w8 ≤ 12 - x ∧ 1 ≤ v8 ∧ v8 ≤ 9 - y)) : zMB g M_Ip_draw [.ref (ad 0), .int k, .int x, .int y, .int w8, .int v8] w (fun o w1 => o = .inr "java/lang/IllegalArgumentException" ∧ IV g ad t u w1) 1 6 := by
  obtain ⟨e_a, w_a, k_a⟩ := hI.1.2 0 (by decide)
  obtain rfl := kd_0.mp k_a
  obtain ⟨e_pa, w_pa, k_pa⟩ := hI.1.2 1 (by decide)
  obtain rfl := kd_1.mp k_pa
  obtain ⟨e_pa1, w_pa1, k_pa1⟩ := hI.1.2 2 (by decide)
  obtain rfl := kd_2.mp k_pa1
  obtain ⟨e_pa2, w_pa2, k_pa2⟩ := hI.1.2 3 (by decide)
  obtain ⟨v_pa2_f, rfl⟩ := kd_3.mp k_pa2
  obtain ⟨e_pa3, w_pa3, k_pa3⟩ := hI.1.2 4 (by decide)
  obtain ⟨v_pa3_h, rfl⟩ := kd_4.mp k_pa3
  refine ((C_Ip_drawE g (ad 0) (ad 1) (ad 5) (ad 18) (ad 31) (ad 32) (ad 36) (ad 42) (ad 45) (ad 47) (ad 49) (ad 50) (ad 51) (ad 2) (ad 3) (ad 4) ((t.1 2).1) v_pa2_f v_pa3_h ((t.1 1).2.2 0) k x y w8 v8 hd).at (hI.1.I [0, 1, 2, 3, 4] _ rfl (by decide) (by decide) (List.forall_mem_cons.mpr ⟨w_a, (List.forall_mem_cons.mpr ⟨w_pa, (List.forall_mem_cons.mpr ⟨w_pa1, (List.forall_mem_cons.mpr ⟨w_pa2, (List.forall_mem_cons.mpr ⟨w_pa3, (fun _ h => nomatch h)⟩)⟩)⟩)⟩)⟩))).mono (Nat.le_of_ble_eq_true rfl) (Nat.le_of_ble_eq_true rfl) (fun o w1 hp => ?_)
  obtain ⟨cs1, hp, hi9⟩ := hp
  obtain ⟨e1, e2⟩ := hp
  subst e1; subst e2
  exact ⟨rfl, hI.fix (t2 := t) (is := [0, 1, 2, 3, 4]) hi9 rfl ⟨kd_0.mpr rfl, kd_1.mpr rfl, kd_2.mpr rfl, kd_3.mpr ⟨_, rfl⟩, kd_4.mpr ⟨_, rfl⟩, trivial⟩ (by decide) (by decide) (fun _ _ _ => rfl) (fun h => h) rfl⟩
noncomputable def tK_Ip_draw (k x y p q : Int32) (t : zTT) : zTT := (if 0 ≤ z_ix 0 k ∧ (0 ≤ x ∧ x < 12 ∧ 0 ≤ y ∧ y < 9) ∧ 1 ≤ p ∧ p ≤ 12 - x ∧ 1 ≤ q ∧ q ≤ 9 - y then (zup t.1 [(2, ((prect k x.toNatClampNeg y.toNatClampNeg p.toNatClampNeg (((t.1 2).1), 0) q.toNatClampNeg).1, (t.1 2).2))], t.2) else t)
theorem K_Ip_draw {g : zG} {ad : Nat → Nat} {t : zTT} {u : zNN} {w : zW} (hI : IVm g ad t u w) (k x y p q : Int32) : zMB g M_Ip_draw [.ref (ad 0), .int k, .int x, .int y, .int p, .int q] w (CKx g ad (tK_Ip_draw k x y p q t) u.1 ["java/lang/IllegalArgumentException"]) 10 300 := by
  obtain ⟨s, hI⟩ := hI
  by_cases hd : 0 ≤ z_ix 0 k ∧ (0 ≤ x ∧ x < 12 ∧ 0 ≤ y ∧ y < 9) ∧ 1 ≤ p ∧ p ≤ 12 - x ∧ 1 ≤ q ∧ q ≤ 9 - y
  · obtain ⟨a9, b9, c9, d9, h1, h2, -, -, rfl, rfl, rfl, rfl, hk, -⟩ := z_dr_in hd
    have hp : 1 ≤ c9 := z_1n hd.2.2.1 (by omega)
    have hq : 1 ≤ d9 := z_1n hd.2.2.2.2.1 (by omega)
    by_cases hz : (prect k a9 b9 c9 ((t.1 2).1, 0) d9).2 = 0
    · have eT : (tK_Ip_draw k (nI a9) (nI b9) (nI c9) (nI d9) t) = (zup t.1 [(2, ((prect k a9 b9 c9 (((t.1 2).1), 0) d9).1, (t.1 2).2))], t.2) := by unfold tK_Ip_draw; rw [if_pos hd, nI_clamp (by omega), nI_clamp (by omega), nI_clamp (by omega), nI_clamp (by omega)]
      rw [eT]
      exact (Qx_Ip_drawZ hI k hk hd.1 a9 b9 c9 d9 h1 h2 hp hq hz).mono (by decide) (by decide) (fun o w1 h => ⟨zri.vl h.1, u, rfl, IVm.zt h.2 (tx_all rfl)⟩)
    · have eT : (tK_Ip_draw k (nI a9) (nI b9) (nI c9) (nI d9) t) = (zup t.1 [(2, ((prect k a9 b9 c9 (((t.1 2).1), 0) d9).1, (t.1 2).2))], t.2) := by unfold tK_Ip_draw; rw [if_pos hd, nI_clamp (by omega), nI_clamp (by omega), nI_clamp (by omega), nI_clamp (by omega)]
      rw [eT]
      exact (Qx_Ip_drawN hI k hk hd.1 a9 b9 c9 d9 h1 h2 hp hq hz).mono (by decide) (by decide) (fun o w1 h => ⟨zri.vl h.1, u, rfl, IVm.zt h.2 (tx_all rfl)⟩)
  · have eT : (tK_Ip_draw k x y p q t) = t := by unfold tK_Ip_draw; rw [if_neg hd]
    rw [eT]
    exact (Qx_Ip_drawE hI k x y p q hd).mono (by decide) (by decide) (fun o w1 h => ⟨zri.th h.1 (by simp), u, rfl, ⟨_, h.2⟩⟩)
set_option maxHeartbeats 4000000 in
theorem Qx_Mm_drawN {g : zG} {ad : Nat → Nat} {t : zTT} {u : zNN} {w : zW} (hI : IV g ad t u w) (kd : Int32) (hk : z_kind kd) (hki : 0 ≤ z_ix 0 kd) (x : Nat) (y : Nat) (u8 : Nat) (v8 : Nat) (hx : x + u8 ≤ 12) (hy : y + v8 ≤ 9) (hu : 1 ≤ u8) (hv : 1 ≤ v8) : zMB g M_Mm_draw [.ref (ad 52), .int kd, .int (nI x), .int (nI y), .int (nI u8), .int (nI v8)] w (fun o w1 => o = .inl (some (.int (nI (prect kd x y u8 (((t.1 53).1), 0) v8).2))) ∧ IV g ad (zup t.1 [(53, ((prect kd x y u8 (((t.1 53).1), 0) v8).1, (t.1 53).2))], t.2) u w1) 0 0 := by
  obtain ⟨e_m, w_m, k_m⟩ := hI.1.2 52 (by decide)
  obtain ⟨v_m_th, rfl⟩ := kd_52.mp k_m
  obtain ⟨e_mp, w_mp, k_mp⟩ := hI.1.2 53 (by decide)
  obtain rfl := kd_53.mp k_mp
  refine ((C_Mm_drawN g (ad 52) (ad 53) (ad 54) (ad 55) (ad 56) (ad 57) (ad 58) (ad 59) (ad 60) (ad 61) (ad 62) (ad 63) (ad 64) (ad 65) (ad 66) (ad 67) (ad 68) v_m_th (nI ((t.1 52).2.2 0)) ((t.1 52).1 0) ((t.1 52).1 1) ((t.1 52).1 2) ((t.1 52).1 3) ((t.1 52).1 4) ((t.1 52).1 5) ((t.1 52).1 6) ((t.1 52).1 7) ((t.1 52).1 8) ((t.1 52).1 9) ((t.1 52).1 10) ((t.1 52).2.1 0) ((t.1 52).2.1 1) ((t.1 53).1) kd hk hki x y u8 v8 hx hy hu hv).at (hI.1.I [52, 53] _ rfl (by decide) (by decide) (List.forall_mem_cons.mpr ⟨w_m, (List.forall_mem_cons.mpr ⟨w_mp, (fun _ h => nomatch h)⟩)⟩))).mono (Nat.le_of_ble_eq_true rfl) (Nat.le_of_ble_eq_true rfl) (fun o w1 hp => ?_)
  obtain ⟨cs1, hp, hi9⟩ := hp
  obtain ⟨e1, e2⟩ := hp
  subst e1; subst e2
  exact ⟨rfl, hI.fix (t2 := (zup t.1 [(53, ((prect kd x y u8 (((t.1 53).1), 0) v8).1, (t.1 53).2))], t.2)) (is := [52, 53]) hi9 rfl ⟨kd_52.mpr ⟨_, rfl⟩, kd_53.mpr rfl, trivial⟩ (by decide) (by decide) (fun i hi hn => zup_out (fun q => hn ((by decide : ∀ j ∈ ([53] : List Nat), j ∈ ([52, 53] : List Nat)) i q))) (fun h => ⟨h.1, prect_ch hk h.2.1 v8, h.2.2⟩) rfl⟩
set_option maxHeartbeats 4000000 in
theorem Qx_Mm_drawE {g : zG} {ad : Nat → Nat} {t : zTT} {u : zNN} {w : zW} (hI : IV g ad t u w) (k : Int32) (x : Int32) (y : Int32) (w8 : Int32) (v8 : Int32) (hd : ¬ (0 ≤ z_ix 0 k ∧ (0 ≤ x ∧ x < 12 ∧ 0 ≤ y ∧ y < 9) ∧ 1 ≤ w8 ∧ w8 ≤ 12 - x ∧ 1 ≤ v8 ∧ v8 ≤ 9 - y)) : zMB g M_Mm_draw [.ref (ad 52), .int k, .int x, .int y, .int w8, .int v8] w (fun o w1 => o = .inl (some (.int 0)) ∧ IV g ad t u w1) 0 0 := by
  obtain ⟨e_m, w_m, k_m⟩ := hI.1.2 52 (by decide)
  obtain ⟨v_m_th, rfl⟩ := kd_52.mp k_m
  obtain ⟨e_mp, w_mp, k_mp⟩ := hI.1.2 53 (by decide)
  obtain rfl := kd_53.mp k_mp
  refine ((C_Mm_drawE g (ad 52) (ad 53) (ad 54) (ad 55) (ad 56) (ad 57) (ad 58) (ad 59) (ad 60) (ad 61) (ad 62) (ad 63) (ad 64) (ad 65) (ad 66) (ad 67) (ad 68) v_m_th (nI ((t.1 52).2.2 0)) ((t.1 52).1 0) ((t.1 52).1 1) ((t.1 52).1 2) ((t.1 52).1 3) ((t.1 52).1 4) ((t.1 52).1 5) ((t.1 52).1 6) ((t.1 52).1 7) ((t.1 52).1 8) ((t.1 52).1 9) ((t.1 52).1 10) ((t.1 52).2.1 0) ((t.1 52).2.1 1) ((t.1 53).1) k x y w8 v8 hd).at (hI.1.I [52, 53] _ rfl (by decide) (by decide) (List.forall_mem_cons.mpr ⟨w_m, (List.forall_mem_cons.mpr ⟨w_mp, (fun _ h => nomatch h)⟩)⟩))).mono (Nat.le_of_ble_eq_true rfl) (Nat.le_of_ble_eq_true rfl) (fun o w1 hp => ?_)
  obtain ⟨cs1, hp, hi9⟩ := hp
  obtain ⟨e1, e2⟩ := hp
  subst e1; subst e2
  exact ⟨rfl, hI.fix (t2 := t) (is := [52, 53]) hi9 rfl ⟨kd_52.mpr ⟨_, rfl⟩, kd_53.mpr rfl, trivial⟩ (by decide) (by decide) (fun _ _ _ => rfl) (fun h => h) rfl⟩
noncomputable def tK_Mm_draw (k x y p q : Int32) (t : zTT) : zTT := (if 0 ≤ z_ix 0 k ∧ (0 ≤ x ∧ x < 12 ∧ 0 ≤ y ∧ y < 9) ∧ 1 ≤ p ∧ p ≤ 12 - x ∧ 1 ≤ q ∧ q ≤ 9 - y then (zup t.1 [(53, ((prect k x.toNatClampNeg y.toNatClampNeg p.toNatClampNeg (((t.1 53).1), 0) q.toNatClampNeg).1, (t.1 53).2))], t.2) else t)
theorem K_Mm_draw {g : zG} {ad : Nat → Nat} {t : zTT} {u : zNN} {w : zW} (hI : IVm g ad t u w) (k x y p q : Int32) : zMB g M_Mm_draw [.ref (ad 52), .int k, .int x, .int y, .int p, .int q] w (MKx g ad (tK_Mm_draw k x y p q t) u.1) 10 300 := by
  obtain ⟨s, hI⟩ := hI
  by_cases hd : 0 ≤ z_ix 0 k ∧ (0 ≤ x ∧ x < 12 ∧ 0 ≤ y ∧ y < 9) ∧ 1 ≤ p ∧ p ≤ 12 - x ∧ 1 ≤ q ∧ q ≤ 9 - y
  · obtain ⟨a9, b9, c9, d9, h1, h2, -, -, rfl, rfl, rfl, rfl, hk, -⟩ := z_dr_in hd
    have hp : 1 ≤ c9 := z_1n hd.2.2.1 (by omega)
    have hq : 1 ≤ d9 := z_1n hd.2.2.2.2.1 (by omega)
    have eT : (tK_Mm_draw k (nI a9) (nI b9) (nI c9) (nI d9) t) = (zup t.1 [(53, ((prect k a9 b9 c9 (((t.1 53).1), 0) d9).1, (t.1 53).2))], t.2) := by unfold tK_Mm_draw; rw [if_pos hd, nI_clamp (by omega), nI_clamp (by omega), nI_clamp (by omega), nI_clamp (by omega)]
    rw [eT]
    exact (Qx_Mm_drawN hI k hk hd.1 a9 b9 c9 d9 h1 h2 hp hq).mono (by decide) (by decide) (fun o w1 h => ⟨⟨_, h.1⟩, u, rfl, IVm.zu h.2⟩)
  · have eT : (tK_Mm_draw k x y p q t) = t := by unfold tK_Mm_draw; rw [if_neg hd]
    rw [eT]
    exact (Qx_Mm_drawE hI k x y p q hd).mono (by decide) (by decide) (fun o w1 h => ⟨⟨_, h.1⟩, u, rfl, ⟨_, h.2⟩⟩)
set_option maxHeartbeats 4000000 in
theorem Qx_Ip_partN {g : zG} {ad : Nat → Nat} {t : zTT} {u : zNN} {w : zW} (hI : IV g ad t u w) (p9 : Nat) (h1 : 1 ≤ p9) (h2 : p9 < 9) (hr : ¬ ((nI p9) < 1 ∨ 9 ≤ (nI p9))) : zMB g M_Ip_part [.ref (ad 0), .int (nI p9)] w (fun o w1 => o = .inl (some (.int (nI ((t.1 1).2.2 0)))) ∧ IV g ad (zup t.1 [(1, ((t.1 1).1, (t.1 1).2.1, (fun z => ([p9] : List Nat).getD z 0)))], t.2) u w1) 1 6 := by
  obtain ⟨e_a, w_a, k_a⟩ := hI.1.2 0 (by decide)
  obtain rfl := kd_0.mp k_a
  obtain ⟨e_pa, w_pa, k_pa⟩ := hI.1.2 1 (by decide)
  obtain rfl := kd_1.mp k_pa
  obtain ⟨e_pa1, w_pa1, k_pa1⟩ := hI.1.2 2 (by decide)
  obtain rfl := kd_2.mp k_pa1
  obtain ⟨e_pa2, w_pa2, k_pa2⟩ := hI.1.2 3 (by decide)
  obtain ⟨v_pa2_f, rfl⟩ := kd_3.mp k_pa2
  obtain ⟨e_pa3, w_pa3, k_pa3⟩ := hI.1.2 4 (by decide)
  obtain ⟨v_pa3_h, rfl⟩ := kd_4.mp k_pa3
  refine ((C_Ip_partN g (ad 0) (ad 1) (ad 5) (ad 18) (ad 31) (ad 32) (ad 36) (ad 42) (ad 45) (ad 47) (ad 49) (ad 50) (ad 51) (ad 2) (ad 3) (ad 4) ((t.1 2).1) v_pa2_f v_pa3_h ((t.1 1).2.2 0) (nI p9) hr).at (hI.1.I [0, 1, 2, 3, 4] _ rfl (by decide) (by decide) (List.forall_mem_cons.mpr ⟨w_a, (List.forall_mem_cons.mpr ⟨w_pa, (List.forall_mem_cons.mpr ⟨w_pa1, (List.forall_mem_cons.mpr ⟨w_pa2, (List.forall_mem_cons.mpr ⟨w_pa3, (fun _ h => nomatch h)⟩)⟩)⟩)⟩)⟩))).mono (Nat.le_of_ble_eq_true rfl) (Nat.le_of_ble_eq_true rfl) (fun o w1 hp => ?_)
  obtain ⟨cs1, hp, hi9⟩ := hp
  obtain ⟨e1, e2⟩ := hp
  subst e1; subst e2
  exact ⟨rfl, hI.fix (t2 := (zup t.1 [(1, ((t.1 1).1, (t.1 1).2.1, (fun z => ([p9] : List Nat).getD z 0)))], t.2)) (is := [0, 1, 2, 3, 4]) hi9 rfl ⟨kd_0.mpr rfl, kd_1.mpr rfl, kd_2.mpr rfl, kd_3.mpr ⟨_, rfl⟩, kd_4.mpr ⟨_, rfl⟩, trivial⟩ (by decide) (by decide) (fun i hi hn => zup_out (fun q => hn ((by decide : ∀ j ∈ ([1] : List Nat), j ∈ ([0, 1, 2, 3, 4] : List Nat)) i q))) (fun h => ⟨h.1, h.2.1, ⟨h1, h2⟩, h.2.2.2⟩) rfl⟩
set_option maxHeartbeats 4000000 in
theorem Qx_Ip_partE {g : zG} {ad : Nat → Nat} {t : zTT} {u : zNN} {w : zW} (hI : IV g ad t u w) (r : Int32) (hr : r < 1 ∨ 9 ≤ r) : zMB g M_Ip_part [.ref (ad 0), .int r] w (fun o w1 => o = .inr "java/lang/IllegalArgumentException" ∧ IV g ad t u w1) 1 6 := by
  obtain ⟨e_a, w_a, k_a⟩ := hI.1.2 0 (by decide)
  obtain rfl := kd_0.mp k_a
  obtain ⟨e_pa, w_pa, k_pa⟩ := hI.1.2 1 (by decide)
  obtain rfl := kd_1.mp k_pa
  obtain ⟨e_pa1, w_pa1, k_pa1⟩ := hI.1.2 2 (by decide)
  obtain rfl := kd_2.mp k_pa1
  obtain ⟨e_pa2, w_pa2, k_pa2⟩ := hI.1.2 3 (by decide)
  obtain ⟨v_pa2_f, rfl⟩ := kd_3.mp k_pa2
  obtain ⟨e_pa3, w_pa3, k_pa3⟩ := hI.1.2 4 (by decide)
  obtain ⟨v_pa3_h, rfl⟩ := kd_4.mp k_pa3
  refine ((C_Ip_partE g (ad 0) (ad 1) (ad 5) (ad 18) (ad 31) (ad 32) (ad 36) (ad 42) (ad 45) (ad 47) (ad 49) (ad 50) (ad 51) (ad 2) (ad 3) (ad 4) ((t.1 2).1) v_pa2_f v_pa3_h ((t.1 1).2.2 0) r hr).at (hI.1.I [0, 1, 2, 3, 4] _ rfl (by decide) (by decide) (List.forall_mem_cons.mpr ⟨w_a, (List.forall_mem_cons.mpr ⟨w_pa, (List.forall_mem_cons.mpr ⟨w_pa1, (List.forall_mem_cons.mpr ⟨w_pa2, (List.forall_mem_cons.mpr ⟨w_pa3, (fun _ h => nomatch h)⟩)⟩)⟩)⟩)⟩))).mono (Nat.le_of_ble_eq_true rfl) (Nat.le_of_ble_eq_true rfl) (fun o w1 hp => ?_)
  obtain ⟨cs1, hp, hi9⟩ := hp
  obtain ⟨e1, e2⟩ := hp
  subst e1; subst e2
  exact ⟨rfl, hI.fix (t2 := t) (is := [0, 1, 2, 3, 4]) hi9 rfl ⟨kd_0.mpr rfl, kd_1.mpr rfl, kd_2.mpr rfl, kd_3.mpr ⟨_, rfl⟩, kd_4.mpr ⟨_, rfl⟩, trivial⟩ (by decide) (by decide) (fun _ _ _ => rfl) (fun h => h) rfl⟩
noncomputable def tK_Ip_part (r : Int32) (t : zTT) : zTT := (if 1 ≤ r ∧ r ≤ 8 then (zup t.1 [(1, ((t.1 1).1, (t.1 1).2.1, (fun z => ([r.toNatClampNeg] : List Nat).getD z 0)))], t.2) else t)
theorem K_Ip_part {g : zG} {ad : Nat → Nat} {t : zTT} {u : zNN} {w : zW} (hI : IVm g ad t u w) (r : Int32) : zMB g M_Ip_part [.ref (ad 0), .int r] w (CKx g ad (tK_Ip_part r t) u.1 ["java/lang/IllegalArgumentException"]) 10 300 := by
  obtain ⟨s, hI⟩ := hI
  by_cases hw : 1 ≤ r ∧ r ≤ 8
  · obtain ⟨p9, hp9, e9⟩ := z_in20 (b := 8) (by decide) ⟨Int32.le_trans (by decide) hw.1, hw.2⟩
    subst e9
    have h1 : 1 ≤ p9 := z_1n hw.1 (by omega)
    have eT : (tK_Ip_part (nI p9) t) = (zup t.1 [(1, ((t.1 1).1, (t.1 1).2.1, (fun z => ([p9] : List Nat).getD z 0)))], t.2) := by unfold tK_Ip_part; rw [if_pos hw, nI_clamp (by omega)]
    rw [eT]
    exact (Qx_Ip_partN hI p9 h1 (by omega) (fun q => q.elim (fun q1 => absurd hw.1 (Int32.not_le.mpr q1)) (fun q1 => absurd hw.2 (Int32.not_le.mpr (Int32.lt_of_lt_of_le (by decide) q1))))).mono (by decide) (by decide) (fun o w1 h => ⟨zri.vl h.1, u, rfl, IVm.zu h.2⟩)
  · have eT : (tK_Ip_part r t) = t := by unfold tK_Ip_part; rw [if_neg hw]
    rw [eT]
    exact (Qx_Ip_partE hI r (z_pr9 hw)).mono (by decide) (by decide) (fun o w1 h => ⟨zri.th h.1 (by simp), u, rfl, ⟨_, h.2⟩⟩)
set_option maxHeartbeats 4000000 in
theorem Qx_Mm_partN {g : zG} {ad : Nat → Nat} {t : zTT} {u : zNN} {w : zW} (hI : IV g ad t u w) (p9 : Nat) (h1 : 1 ≤ p9) (h2 : p9 < 9) (hw : (1 ≤ (nI p9) ∧ (nI p9) ≤ 8)) : zMB g M_Mm_part [.ref (ad 52), .int (nI p9)] w (fun o w1 => o = .inl (some (.int (nI ((t.1 52).2.2 0)))) ∧ IV g ad (zup t.1 [(52, ((t.1 52).1, (t.1 52).2.1, (fun z => ([p9] : List Nat).getD z 0)))], t.2) u w1) 0 0 := by
  obtain ⟨e_m, w_m, k_m⟩ := hI.1.2 52 (by decide)
  obtain ⟨v_m_th, rfl⟩ := kd_52.mp k_m
  refine ((C_Mm_partN g (ad 52) (ad 53) (ad 54) (ad 55) (ad 56) (ad 57) (ad 58) (ad 59) (ad 60) (ad 61) (ad 62) (ad 63) (ad 64) (ad 65) (ad 66) (ad 67) (ad 68) v_m_th (nI ((t.1 52).2.2 0)) ((t.1 52).1 0) ((t.1 52).1 1) ((t.1 52).1 2) ((t.1 52).1 3) ((t.1 52).1 4) ((t.1 52).1 5) ((t.1 52).1 6) ((t.1 52).1 7) ((t.1 52).1 8) ((t.1 52).1 9) ((t.1 52).1 10) ((t.1 52).2.1 0) ((t.1 52).2.1 1) (nI p9) hw).at (hI.1.I [52] _ rfl (by decide) (by decide) (List.forall_mem_cons.mpr ⟨w_m, (fun _ h => nomatch h)⟩))).mono (Nat.le_of_ble_eq_true rfl) (Nat.le_of_ble_eq_true rfl) (fun o w1 hp => ?_)
  obtain ⟨cs1, hp, hi9⟩ := hp
  obtain ⟨e1, e2⟩ := hp
  subst e1; subst e2
  exact ⟨rfl, hI.fix (t2 := (zup t.1 [(52, ((t.1 52).1, (t.1 52).2.1, (fun z => ([p9] : List Nat).getD z 0)))], t.2)) (is := [52]) hi9 rfl ⟨kd_52.mpr ⟨_, rfl⟩, trivial⟩ (by decide) (by decide) (fun i hi hn => zup_out (fun q => hn ((by decide : ∀ j ∈ ([52] : List Nat), j ∈ ([52] : List Nat)) i q))) (fun h => ⟨h.1, h.2.1, h.2.2.1, ⟨h1, h2⟩⟩) rfl⟩
set_option maxHeartbeats 4000000 in
theorem Qx_Mm_partE {g : zG} {ad : Nat → Nat} {t : zTT} {u : zNN} {w : zW} (hI : IV g ad t u w) (r : Int32) (hw : ¬ (1 ≤ r ∧ r ≤ 8)) : zMB g M_Mm_part [.ref (ad 52), .int r] w (fun o w1 => o = .inl (some (.int 0)) ∧ IV g ad t u w1) 0 0 := by
  obtain ⟨e_m, w_m, k_m⟩ := hI.1.2 52 (by decide)
  obtain ⟨v_m_th, rfl⟩ := kd_52.mp k_m
  refine ((C_Mm_partE g (ad 52) (ad 53) (ad 54) (ad 55) (ad 56) (ad 57) (ad 58) (ad 59) (ad 60) (ad 61) (ad 62) (ad 63) (ad 64) (ad 65) (ad 66) (ad 67) (ad 68) v_m_th (nI ((t.1 52).2.2 0)) ((t.1 52).1 0) ((t.1 52).1 1) ((t.1 52).1 2) ((t.1 52).1 3) ((t.1 52).1 4) ((t.1 52).1 5) ((t.1 52).1 6) ((t.1 52).1 7) ((t.1 52).1 8) ((t.1 52).1 9) ((t.1 52).1 10) ((t.1 52).2.1 0) ((t.1 52).2.1 1) r hw).at (hI.1.I [52] _ rfl (by decide) (by decide) (List.forall_mem_cons.mpr ⟨w_m, (fun _ h => nomatch h)⟩))).mono (Nat.le_of_ble_eq_true rfl) (Nat.le_of_ble_eq_true rfl) (fun o w1 hp => ?_)
  obtain ⟨cs1, hp, hi9⟩ := hp
  obtain ⟨e1, e2⟩ := hp
  subst e1; subst e2
  exact ⟨rfl, hI.fix (t2 := t) (is := [52]) hi9 rfl ⟨kd_52.mpr ⟨_, rfl⟩, trivial⟩ (by decide) (by decide) (fun _ _ _ => rfl) (fun h => h) rfl⟩
noncomputable def tK_Mm_part (r : Int32) (t : zTT) : zTT := (if 1 ≤ r ∧ r ≤ 8 then (zup t.1 [(52, ((t.1 52).1, (t.1 52).2.1, (fun z => ([r.toNatClampNeg] : List Nat).getD z 0)))], t.2) else t)
theorem K_Mm_part {g : zG} {ad : Nat → Nat} {t : zTT} {u : zNN} {w : zW} (hI : IVm g ad t u w) (r : Int32) : zMB g M_Mm_part [.ref (ad 52), .int r] w (MKx g ad (tK_Mm_part r t) u.1) 10 300 := by
  obtain ⟨s, hI⟩ := hI
  by_cases hw : 1 ≤ r ∧ r ≤ 8
  · obtain ⟨p9, hp9, e9⟩ := z_in20 (b := 8) (by decide) ⟨Int32.le_trans (by decide) hw.1, hw.2⟩
    subst e9
    have h1 : 1 ≤ p9 := z_1n hw.1 (by omega)
    have eT : (tK_Mm_part (nI p9) t) = (zup t.1 [(52, ((t.1 52).1, (t.1 52).2.1, (fun z => ([p9] : List Nat).getD z 0)))], t.2) := by unfold tK_Mm_part; rw [if_pos hw, nI_clamp (by omega)]
    rw [eT]
    exact (Qx_Mm_partN hI p9 h1 (by omega) hw).mono (by decide) (by decide) (fun o w1 h => ⟨⟨_, h.1⟩, u, rfl, IVm.zu h.2⟩)
  · have eT : (tK_Mm_part r t) = t := by unfold tK_Mm_part; rw [if_neg hw]
    rw [eT]
    exact (Qx_Mm_partE hI r hw).mono (by decide) (by decide) (fun o w1 h => ⟨⟨_, h.1⟩, u, rfl, ⟨_, h.2⟩⟩)
set_option maxHeartbeats 4000000 in
theorem Qx_Ip_cores {g : zG} {ad : Nat → Nat} {t : zTT} {u : zNN} {w : zW} (hI : IV g ad t u w) : zMB g M_Ip_cores [.ref (ad 0)] w (fun o w1 => (∃ v : Int32, o = .inl (some (.int v))) ∧ IV g ad t u w1) 0 0 := by
  obtain ⟨e_a, w_a, k_a⟩ := hI.1.2 0 (by decide)
  obtain rfl := kd_0.mp k_a
  obtain ⟨e_pa, w_pa, k_pa⟩ := hI.1.2 1 (by decide)
  obtain rfl := kd_1.mp k_pa
  obtain ⟨e_pa1, w_pa1, k_pa1⟩ := hI.1.2 2 (by decide)
  obtain rfl := kd_2.mp k_pa1
  obtain ⟨e_pa2, w_pa2, k_pa2⟩ := hI.1.2 3 (by decide)
  obtain ⟨v_pa2_f, rfl⟩ := kd_3.mp k_pa2
  obtain ⟨e_pa3, w_pa3, k_pa3⟩ := hI.1.2 4 (by decide)
  obtain ⟨v_pa3_h, rfl⟩ := kd_4.mp k_pa3
  refine ((C_Ip_cores g (ad 0) (ad 1) (ad 5) (ad 18) (ad 31) (ad 32) (ad 36) (ad 42) (ad 45) (ad 47) (ad 49) (ad 50) (ad 51) (ad 2) (ad 3) (ad 4) ((t.1 2).1) v_pa2_f v_pa3_h ((t.1 1).2.2 0)).at (hI.1.I [0, 1, 2, 3, 4] _ rfl (by decide) (by decide) (List.forall_mem_cons.mpr ⟨w_a, (List.forall_mem_cons.mpr ⟨w_pa, (List.forall_mem_cons.mpr ⟨w_pa1, (List.forall_mem_cons.mpr ⟨w_pa2, (List.forall_mem_cons.mpr ⟨w_pa3, (fun _ h => nomatch h)⟩)⟩)⟩)⟩)⟩))).mono (Nat.le_of_ble_eq_true rfl) (Nat.le_of_ble_eq_true rfl) (fun o w1 hp => ?_)
  obtain ⟨cs1, hp, hi9⟩ := hp
  obtain ⟨e1, e2⟩ := hp
  subst e1; subst e2
  exact ⟨⟨_, rfl⟩, hI.fix (t2 := t) (is := [0, 1, 2, 3, 4]) hi9 rfl ⟨kd_0.mpr rfl, kd_1.mpr rfl, kd_2.mpr rfl, kd_3.mpr ⟨_, rfl⟩, kd_4.mpr ⟨_, rfl⟩, trivial⟩ (by decide) (by decide) (fun _ _ _ => rfl) (fun h => h) rfl⟩
theorem K_Ip_cores {g : zG} {ad : Nat → Nat} {t : zTT} {u : zNN} {w : zW} (hI : IVm g ad t u w) : zMB g M_Ip_cores [.ref (ad 0)] w (CKx g ad t u.1 []) 10 300 := by
  obtain ⟨s, hI⟩ := hI
  exact (Qx_Ip_cores hI).mono (by decide) (by decide) (fun o w1 h => ⟨(Or.inl h.1 : zri _ _), u, rfl, ⟨_, h.2⟩⟩)
set_option maxHeartbeats 4000000 in
theorem Qx_Ip_loose {g : zG} {ad : Nat → Nat} {t : zTT} {u : zNN} {w : zW} (hI : IV g ad t u w) : zMB g M_Ip_loose [.ref (ad 0)] w (fun o w1 => (∃ v : Int32, o = .inl (some (.int v))) ∧ IV g ad t u w1) 0 0 := by
  obtain ⟨e_a, w_a, k_a⟩ := hI.1.2 0 (by decide)
  obtain rfl := kd_0.mp k_a
  obtain ⟨e_pa, w_pa, k_pa⟩ := hI.1.2 1 (by decide)
  obtain rfl := kd_1.mp k_pa
  obtain ⟨e_pa1, w_pa1, k_pa1⟩ := hI.1.2 2 (by decide)
  obtain rfl := kd_2.mp k_pa1
  obtain ⟨e_pa2, w_pa2, k_pa2⟩ := hI.1.2 3 (by decide)
  obtain ⟨v_pa2_f, rfl⟩ := kd_3.mp k_pa2
  obtain ⟨e_pa3, w_pa3, k_pa3⟩ := hI.1.2 4 (by decide)
  obtain ⟨v_pa3_h, rfl⟩ := kd_4.mp k_pa3
  refine ((C_Ip_loose g (ad 0) (ad 1) (ad 5) (ad 18) (ad 31) (ad 32) (ad 36) (ad 42) (ad 45) (ad 47) (ad 49) (ad 50) (ad 51) (ad 2) (ad 3) (ad 4) ((t.1 2).1) v_pa2_f v_pa3_h ((t.1 1).2.2 0)).at (hI.1.I [0, 1, 2, 3, 4] _ rfl (by decide) (by decide) (List.forall_mem_cons.mpr ⟨w_a, (List.forall_mem_cons.mpr ⟨w_pa, (List.forall_mem_cons.mpr ⟨w_pa1, (List.forall_mem_cons.mpr ⟨w_pa2, (List.forall_mem_cons.mpr ⟨w_pa3, (fun _ h => nomatch h)⟩)⟩)⟩)⟩)⟩))).mono (Nat.le_of_ble_eq_true rfl) (Nat.le_of_ble_eq_true rfl) (fun o w1 hp => ?_)
  obtain ⟨cs1, hp, hi9⟩ := hp
  obtain ⟨e1, e2⟩ := hp
  subst e1; subst e2
  exact ⟨⟨_, rfl⟩, hI.fix (t2 := t) (is := [0, 1, 2, 3, 4]) hi9 rfl ⟨kd_0.mpr rfl, kd_1.mpr rfl, kd_2.mpr rfl, kd_3.mpr ⟨_, rfl⟩, kd_4.mpr ⟨_, rfl⟩, trivial⟩ (by decide) (by decide) (fun _ _ _ => rfl) (fun h => h) rfl⟩
theorem K_Ip_loose {g : zG} {ad : Nat → Nat} {t : zTT} {u : zNN} {w : zW} (hI : IVm g ad t u w) : zMB g M_Ip_loose [.ref (ad 0)] w (CKx g ad t u.1 []) 10 300 := by
  obtain ⟨s, hI⟩ := hI
  exact (Qx_Ip_loose hI).mono (by decide) (by decide) (fun o w1 h => ⟨(Or.inl h.1 : zri _ _), u, rfl, ⟨_, h.2⟩⟩)
set_option maxHeartbeats 4000000 in
theorem Qx_Ip_goodCores {g : zG} {ad : Nat → Nat} {t : zTT} {u : zNN} {w : zW} (hI : IV g ad t u w) : zMB g M_Ip_goodCores [.ref (ad 0)] w (fun o w1 => o = .inl (some (.int (bx_sum (fun k => if gdB ((t.1 34).1) ((t.1 35).1) k then ((t.1 33).1) k else 0) ((t.1 32).2.2 0)))) ∧ IV g ad t u w1) 0 0 := by
  obtain ⟨e_a, w_a, k_a⟩ := hI.1.2 0 (by decide)
  obtain rfl := kd_0.mp k_a
  obtain ⟨e_co, w_co, k_co⟩ := hI.1.2 32 (by decide)
  obtain ⟨c_co_0, rfl⟩ := kd_32.mp k_co
  obtain ⟨e_co1, w_co1, k_co1⟩ := hI.1.2 33 (by decide)
  obtain rfl := kd_33.mp k_co1
  obtain ⟨e_co2, w_co2, k_co2⟩ := hI.1.2 34 (by decide)
  obtain rfl := kd_34.mp k_co2
  obtain ⟨e_co3, w_co3, k_co3⟩ := hI.1.2 35 (by decide)
  obtain rfl := kd_35.mp k_co3
  refine ((C_Ip_goodCores g (ad 0) (ad 1) (ad 5) (ad 18) (ad 31) (ad 32) (ad 36) (ad 42) (ad 45) (ad 47) (ad 49) (ad 50) (ad 51) (ad 33) (ad 34) (ad 35) ((t.1 33).1) ((t.1 34).1) ((t.1 35).1) ((t.1 32).2.2 0) c_co_0).at (hI.1.I [0, 32, 33, 34, 35] _ rfl (by decide) (by decide) (List.forall_mem_cons.mpr ⟨w_a, (List.forall_mem_cons.mpr ⟨w_co, (List.forall_mem_cons.mpr ⟨w_co1, (List.forall_mem_cons.mpr ⟨w_co2, (List.forall_mem_cons.mpr ⟨w_co3, (fun _ h => nomatch h)⟩)⟩)⟩)⟩)⟩))).mono (Nat.le_of_ble_eq_true rfl) (Nat.le_of_ble_eq_true rfl) (fun o w1 hp => ?_)
  obtain ⟨cs1, hp, hi9⟩ := hp
  obtain ⟨e1, e2⟩ := hp
  subst e1; subst e2
  exact ⟨rfl, hI.fix (t2 := t) (is := [0, 32, 33, 34, 35]) hi9 rfl ⟨kd_0.mpr rfl, kd_32.mpr ⟨c_co_0, rfl⟩, kd_33.mpr rfl, kd_34.mpr rfl, kd_35.mpr rfl, trivial⟩ (by decide) (by decide) (fun _ _ _ => rfl) (fun h => h) rfl⟩
theorem K_Ip_goodCores {g : zG} {ad : Nat → Nat} {t : zTT} {u : zNN} {w : zW} (hI : IVm g ad t u w) : zMB g M_Ip_goodCores [.ref (ad 0)] w (CKx g ad t u.1 []) 10 300 := by
  obtain ⟨s, hI⟩ := hI
  exact (Qx_Ip_goodCores hI).mono (by decide) (by decide) (fun o w1 h => ⟨zri.vl h.1, u, rfl, ⟨_, h.2⟩⟩)
set_option maxHeartbeats 4000000 in
theorem Qx_Ip_undercut {g : zG} {ad : Nat → Nat} {t : zTT} {u : zNN} {w : zW} (hI : IV g ad t u w) : zMB g M_Ip_undercut [.ref (ad 0)] w (fun o w1 => o = .inl (some (.int (nI (ucT ((t.1 2).1) ((t.1 1).2.2 0) 12)))) ∧ IV g ad t u w1) 0 0 := by
  obtain ⟨e_a, w_a, k_a⟩ := hI.1.2 0 (by decide)
  obtain rfl := kd_0.mp k_a
  obtain ⟨e_pa, w_pa, k_pa⟩ := hI.1.2 1 (by decide)
  obtain rfl := kd_1.mp k_pa
  obtain ⟨e_pa1, w_pa1, k_pa1⟩ := hI.1.2 2 (by decide)
  obtain rfl := kd_2.mp k_pa1
  obtain ⟨e_pa2, w_pa2, k_pa2⟩ := hI.1.2 3 (by decide)
  obtain ⟨v_pa2_f, rfl⟩ := kd_3.mp k_pa2
  obtain ⟨e_pa3, w_pa3, k_pa3⟩ := hI.1.2 4 (by decide)
  obtain ⟨v_pa3_h, rfl⟩ := kd_4.mp k_pa3
  refine ((C_Ip_undercut g (ad 0) (ad 1) (ad 5) (ad 18) (ad 31) (ad 32) (ad 36) (ad 42) (ad 45) (ad 47) (ad 49) (ad 50) (ad 51) (ad 2) (ad 3) (ad 4) ((t.1 2).1) v_pa2_f v_pa3_h ((t.1 1).2.2 0) hI.2.2.2.2.1.1 hI.2.2.2.2.1.2).at (hI.1.I [0, 1, 2, 3, 4] _ rfl (by decide) (by decide) (List.forall_mem_cons.mpr ⟨w_a, (List.forall_mem_cons.mpr ⟨w_pa, (List.forall_mem_cons.mpr ⟨w_pa1, (List.forall_mem_cons.mpr ⟨w_pa2, (List.forall_mem_cons.mpr ⟨w_pa3, (fun _ h => nomatch h)⟩)⟩)⟩)⟩)⟩))).mono (Nat.le_of_ble_eq_true rfl) (Nat.le_of_ble_eq_true rfl) (fun o w1 hp => ?_)
  obtain ⟨cs1, hp, hi9⟩ := hp
  obtain ⟨e1, e2⟩ := hp
  subst e1; subst e2
  exact ⟨rfl, hI.fix (t2 := t) (is := [0, 1, 2, 3, 4]) hi9 rfl ⟨kd_0.mpr rfl, kd_1.mpr rfl, kd_2.mpr rfl, kd_3.mpr ⟨_, rfl⟩, kd_4.mpr ⟨_, rfl⟩, trivial⟩ (by decide) (by decide) (fun _ _ _ => rfl) (fun h => h) rfl⟩
theorem K_Ip_undercut {g : zG} {ad : Nat → Nat} {t : zTT} {u : zNN} {w : zW} (hI : IVm g ad t u w) : zMB g M_Ip_undercut [.ref (ad 0)] w (CKx g ad t u.1 []) 10 300 := by
  obtain ⟨s, hI⟩ := hI
  exact (Qx_Ip_undercut hI).mono (by decide) (by decide) (fun o w1 h => ⟨zri.vl h.1, u, rfl, ⟨_, h.2⟩⟩)
set_option maxHeartbeats 4000000 in
theorem Qx_Ip_weight {g : zG} {ad : Nat → Nat} {t : zTT} {u : zNN} {w : zW} (hI : IV g ad t u w) : zMB g M_Ip_weight [.ref (ad 0)] w (fun o w1 => o = .inl (some (.int (2 * nI (fa_cnt (fun k => tmB (((t.1 2).1) k)) 108)))) ∧ IV g ad t u w1) 0 0 := by
  obtain ⟨e_a, w_a, k_a⟩ := hI.1.2 0 (by decide)
  obtain rfl := kd_0.mp k_a
  obtain ⟨e_pa, w_pa, k_pa⟩ := hI.1.2 1 (by decide)
  obtain rfl := kd_1.mp k_pa
  obtain ⟨e_pa1, w_pa1, k_pa1⟩ := hI.1.2 2 (by decide)
  obtain rfl := kd_2.mp k_pa1
  obtain ⟨e_pa2, w_pa2, k_pa2⟩ := hI.1.2 3 (by decide)
  obtain ⟨v_pa2_f, rfl⟩ := kd_3.mp k_pa2
  obtain ⟨e_pa3, w_pa3, k_pa3⟩ := hI.1.2 4 (by decide)
  obtain ⟨v_pa3_h, rfl⟩ := kd_4.mp k_pa3
  refine ((C_Ip_weight g (ad 0) (ad 1) (ad 5) (ad 18) (ad 31) (ad 32) (ad 36) (ad 42) (ad 45) (ad 47) (ad 49) (ad 50) (ad 51) (ad 2) (ad 3) (ad 4) ((t.1 2).1) v_pa2_f v_pa3_h ((t.1 1).2.2 0)).at (hI.1.I [0, 1, 2, 3, 4] _ rfl (by decide) (by decide) (List.forall_mem_cons.mpr ⟨w_a, (List.forall_mem_cons.mpr ⟨w_pa, (List.forall_mem_cons.mpr ⟨w_pa1, (List.forall_mem_cons.mpr ⟨w_pa2, (List.forall_mem_cons.mpr ⟨w_pa3, (fun _ h => nomatch h)⟩)⟩)⟩)⟩)⟩))).mono (Nat.le_of_ble_eq_true rfl) (Nat.le_of_ble_eq_true rfl) (fun o w1 hp => ?_)
  obtain ⟨cs1, hp, hi9⟩ := hp
  obtain ⟨e1, e2⟩ := hp
  subst e1; subst e2
  exact ⟨rfl, hI.fix (t2 := t) (is := [0, 1, 2, 3, 4]) hi9 rfl ⟨kd_0.mpr rfl, kd_1.mpr rfl, kd_2.mpr rfl, kd_3.mpr ⟨_, rfl⟩, kd_4.mpr ⟨_, rfl⟩, trivial⟩ (by decide) (by decide) (fun _ _ _ => rfl) (fun h => h) rfl⟩
theorem K_Ip_weight {g : zG} {ad : Nat → Nat} {t : zTT} {u : zNN} {w : zW} (hI : IVm g ad t u w) : zMB g M_Ip_weight [.ref (ad 0)] w (CKx g ad t u.1 []) 10 300 := by
  obtain ⟨s, hI⟩ := hI
  exact (Qx_Ip_weight hI).mono (by decide) (by decide) (fun o w1 h => ⟨zri.vl h.1, u, rfl, ⟨_, h.2⟩⟩)
set_option maxHeartbeats 4000000 in
theorem Qx_Ip_cellN {g : zG} {ad : Nat → Nat} {t : zTT} {u : zNN} {w : zW} (hI : IV g ad t u w) (x : Int32) (y : Int32) (c : Nat) (hz : z_cl x y = some c) : zMB g M_Ip_cell [.ref (ad 0), .int x, .int y] w (fun o w1 => o = .inl (some (.int (((t.1 2).1) c))) ∧ IV g ad t u w1) 1 6 := by
  obtain ⟨e_a, w_a, k_a⟩ := hI.1.2 0 (by decide)
  obtain rfl := kd_0.mp k_a
  obtain ⟨e_pa, w_pa, k_pa⟩ := hI.1.2 1 (by decide)
  obtain rfl := kd_1.mp k_pa
  obtain ⟨e_pa1, w_pa1, k_pa1⟩ := hI.1.2 2 (by decide)
  obtain rfl := kd_2.mp k_pa1
  obtain ⟨e_pa2, w_pa2, k_pa2⟩ := hI.1.2 3 (by decide)
  obtain ⟨v_pa2_f, rfl⟩ := kd_3.mp k_pa2
  obtain ⟨e_pa3, w_pa3, k_pa3⟩ := hI.1.2 4 (by decide)
  obtain ⟨v_pa3_h, rfl⟩ := kd_4.mp k_pa3
  refine ((C_Ip_cellN g (ad 0) (ad 1) (ad 5) (ad 18) (ad 31) (ad 32) (ad 36) (ad 42) (ad 45) (ad 47) (ad 49) (ad 50) (ad 51) (ad 2) (ad 3) (ad 4) ((t.1 2).1) v_pa2_f v_pa3_h ((t.1 1).2.2 0) x y c hz hI.2.2.1).at (hI.1.I [0, 1, 2, 3, 4] _ rfl (by decide) (by decide) (List.forall_mem_cons.mpr ⟨w_a, (List.forall_mem_cons.mpr ⟨w_pa, (List.forall_mem_cons.mpr ⟨w_pa1, (List.forall_mem_cons.mpr ⟨w_pa2, (List.forall_mem_cons.mpr ⟨w_pa3, (fun _ h => nomatch h)⟩)⟩)⟩)⟩)⟩))).mono (Nat.le_of_ble_eq_true rfl) (Nat.le_of_ble_eq_true rfl) (fun o w1 hp => ?_)
  obtain ⟨cs1, hp, hi9⟩ := hp
  obtain ⟨e1, e2⟩ := hp
  subst e1; subst e2
  exact ⟨rfl, hI.fix (t2 := t) (is := [0, 1, 2, 3, 4]) hi9 rfl ⟨kd_0.mpr rfl, kd_1.mpr rfl, kd_2.mpr rfl, kd_3.mpr ⟨_, rfl⟩, kd_4.mpr ⟨_, rfl⟩, trivial⟩ (by decide) (by decide) (fun _ _ _ => rfl) (fun h => h) rfl⟩
set_option maxHeartbeats 4000000 in
theorem Qx_Ip_cellE {g : zG} {ad : Nat → Nat} {t : zTT} {u : zNN} {w : zW} (hI : IV g ad t u w) (x : Int32) (y : Int32) (hz : z_cl x y = none) : zMB g M_Ip_cell [.ref (ad 0), .int x, .int y] w (fun o w1 => o = .inr "java/lang/IndexOutOfBoundsException" ∧ IV g ad t u w1) 1 6 := by
  obtain ⟨e_a, w_a, k_a⟩ := hI.1.2 0 (by decide)
  obtain rfl := kd_0.mp k_a
  obtain ⟨e_pa, w_pa, k_pa⟩ := hI.1.2 1 (by decide)
  obtain rfl := kd_1.mp k_pa
  obtain ⟨e_pa1, w_pa1, k_pa1⟩ := hI.1.2 2 (by decide)
  obtain rfl := kd_2.mp k_pa1
  obtain ⟨e_pa2, w_pa2, k_pa2⟩ := hI.1.2 3 (by decide)
  obtain ⟨v_pa2_f, rfl⟩ := kd_3.mp k_pa2
  obtain ⟨e_pa3, w_pa3, k_pa3⟩ := hI.1.2 4 (by decide)
  obtain ⟨v_pa3_h, rfl⟩ := kd_4.mp k_pa3
  refine ((C_Ip_cellE g (ad 0) (ad 1) (ad 5) (ad 18) (ad 31) (ad 32) (ad 36) (ad 42) (ad 45) (ad 47) (ad 49) (ad 50) (ad 51) (ad 2) (ad 3) (ad 4) ((t.1 2).1) v_pa2_f v_pa3_h ((t.1 1).2.2 0) x y hz).at (hI.1.I [0, 1, 2, 3, 4] _ rfl (by decide) (by decide) (List.forall_mem_cons.mpr ⟨w_a, (List.forall_mem_cons.mpr ⟨w_pa, (List.forall_mem_cons.mpr ⟨w_pa1, (List.forall_mem_cons.mpr ⟨w_pa2, (List.forall_mem_cons.mpr ⟨w_pa3, (fun _ h => nomatch h)⟩)⟩)⟩)⟩)⟩))).mono (Nat.le_of_ble_eq_true rfl) (Nat.le_of_ble_eq_true rfl) (fun o w1 hp => ?_)
  obtain ⟨cs1, hp, hi9⟩ := hp
  obtain ⟨e1, e2⟩ := hp
  subst e1; subst e2
  exact ⟨rfl, hI.fix (t2 := t) (is := [0, 1, 2, 3, 4]) hi9 rfl ⟨kd_0.mpr rfl, kd_1.mpr rfl, kd_2.mpr rfl, kd_3.mpr ⟨_, rfl⟩, kd_4.mpr ⟨_, rfl⟩, trivial⟩ (by decide) (by decide) (fun _ _ _ => rfl) (fun h => h) rfl⟩
theorem K_Ip_cell {g : zG} {ad : Nat → Nat} {t : zTT} {u : zNN} {w : zW} (hI : IVm g ad t u w) (x y : Int32) : zMB g M_Ip_cell [.ref (ad 0), .int x, .int y] w (CKx g ad t u.1 ["java/lang/IndexOutOfBoundsException"]) 10 300 := by
  obtain ⟨s, hI⟩ := hI
  by_cases hq : 0 ≤ x ∧ x < 12 ∧ 0 ≤ y ∧ y < 9
  · obtain ⟨x0, y0, hx0, hy0, rfl, rfl, hz⟩ := z_cl_in hq
    exact (Qx_Ip_cellN hI (nI x0) (nI y0) _ hz).mono (by decide) (by decide) (fun o w1 h => ⟨zri.vl h.1, u, rfl, ⟨_, h.2⟩⟩)
  · exact (Qx_Ip_cellE hI x y (if_neg hq)).mono (by decide) (by decide) (fun o w1 h => ⟨zri.th h.1 (by simp), u, rfl, ⟨_, h.2⟩⟩)
set_option maxHeartbeats 4000000 in
theorem Qx_Ip_speedE {g : zG} {ad : Nat → Nat} {t : zTT} {u : zNN} {w : zW} (hI : IV g ad t u w) (hg : fa_cnt (fun k => decide (((t.1 2).1) k = 103)) 12 = 0) : zMB g M_Ip_speed [.ref (ad 0)] w (fun o w1 => o = .inr "java/util/NoSuchElementException" ∧ IV g ad t u w1) 1 6 := by
  obtain ⟨e_a, w_a, k_a⟩ := hI.1.2 0 (by decide)
  obtain rfl := kd_0.mp k_a
  obtain ⟨e_pa, w_pa, k_pa⟩ := hI.1.2 1 (by decide)
  obtain rfl := kd_1.mp k_pa
  obtain ⟨e_pa1, w_pa1, k_pa1⟩ := hI.1.2 2 (by decide)
  obtain rfl := kd_2.mp k_pa1
  obtain ⟨e_pa2, w_pa2, k_pa2⟩ := hI.1.2 3 (by decide)
  obtain ⟨v_pa2_f, rfl⟩ := kd_3.mp k_pa2
  obtain ⟨e_pa3, w_pa3, k_pa3⟩ := hI.1.2 4 (by decide)
  obtain ⟨v_pa3_h, rfl⟩ := kd_4.mp k_pa3
  refine ((C_Ip_speedE g (ad 0) (ad 1) (ad 5) (ad 18) (ad 31) (ad 32) (ad 36) (ad 42) (ad 45) (ad 47) (ad 49) (ad 50) (ad 51) (ad 2) (ad 3) (ad 4) ((t.1 2).1) v_pa2_f v_pa3_h ((t.1 1).2.2 0) hg).at (hI.1.I [0, 1, 2, 3, 4] _ rfl (by decide) (by decide) (List.forall_mem_cons.mpr ⟨w_a, (List.forall_mem_cons.mpr ⟨w_pa, (List.forall_mem_cons.mpr ⟨w_pa1, (List.forall_mem_cons.mpr ⟨w_pa2, (List.forall_mem_cons.mpr ⟨w_pa3, (fun _ h => nomatch h)⟩)⟩)⟩)⟩)⟩))).mono (Nat.le_of_ble_eq_true rfl) (Nat.le_of_ble_eq_true rfl) (fun o w1 hp => ?_)
  obtain ⟨cs1, hp, hi9⟩ := hp
  obtain ⟨e1, e2⟩ := hp
  subst e1; subst e2
  exact ⟨rfl, hI.fix (t2 := t) (is := [0, 1, 2, 3, 4]) hi9 rfl ⟨kd_0.mpr rfl, kd_1.mpr rfl, kd_2.mpr rfl, kd_3.mpr ⟨_, rfl⟩, kd_4.mpr ⟨_, rfl⟩, trivial⟩ (by decide) (by decide) (fun _ _ _ => rfl) (fun h => h) rfl⟩
set_option maxHeartbeats 4000000 in
theorem Qx_Ip_speedN {g : zG} {ad : Nat → Nat} {t : zTT} {u : zNN} {w : zW} (hI : IV g ad t u w) (hg : ¬ fa_cnt (fun k => decide (((t.1 2).1) k = 103)) 12 = 0) : zMB g M_Ip_speed [.ref (ad 0)] w (fun o w1 => o = .inl (some (.int (rsR ((t.1 2).1)))) ∧ IV g ad t u w1) 1 6 := by
  obtain ⟨e_a, w_a, k_a⟩ := hI.1.2 0 (by decide)
  obtain rfl := kd_0.mp k_a
  obtain ⟨e_pa, w_pa, k_pa⟩ := hI.1.2 1 (by decide)
  obtain rfl := kd_1.mp k_pa
  obtain ⟨e_pa1, w_pa1, k_pa1⟩ := hI.1.2 2 (by decide)
  obtain rfl := kd_2.mp k_pa1
  obtain ⟨e_pa2, w_pa2, k_pa2⟩ := hI.1.2 3 (by decide)
  obtain ⟨v_pa2_f, rfl⟩ := kd_3.mp k_pa2
  obtain ⟨e_pa3, w_pa3, k_pa3⟩ := hI.1.2 4 (by decide)
  obtain ⟨v_pa3_h, rfl⟩ := kd_4.mp k_pa3
  refine ((C_Ip_speedN g (ad 0) (ad 1) (ad 5) (ad 18) (ad 31) (ad 32) (ad 36) (ad 42) (ad 45) (ad 47) (ad 49) (ad 50) (ad 51) (ad 2) (ad 3) (ad 4) ((t.1 2).1) v_pa2_f v_pa3_h ((t.1 1).2.2 0) hg).at (hI.1.I [0, 1, 2, 3, 4] _ rfl (by decide) (by decide) (List.forall_mem_cons.mpr ⟨w_a, (List.forall_mem_cons.mpr ⟨w_pa, (List.forall_mem_cons.mpr ⟨w_pa1, (List.forall_mem_cons.mpr ⟨w_pa2, (List.forall_mem_cons.mpr ⟨w_pa3, (fun _ h => nomatch h)⟩)⟩)⟩)⟩)⟩))).mono (Nat.le_of_ble_eq_true rfl) (Nat.le_of_ble_eq_true rfl) (fun o w1 hp => ?_)
  obtain ⟨cs1, hp, hi9⟩ := hp
  obtain ⟨e1, e2⟩ := hp
  subst e1; subst e2
  exact ⟨rfl, hI.fix (t2 := t) (is := [0, 1, 2, 3, 4]) hi9 rfl ⟨kd_0.mpr rfl, kd_1.mpr rfl, kd_2.mpr rfl, kd_3.mpr ⟨_, rfl⟩, kd_4.mpr ⟨_, rfl⟩, trivial⟩ (by decide) (by decide) (fun _ _ _ => rfl) (fun h => h) rfl⟩
theorem K_Ip_speed {g : zG} {ad : Nat → Nat} {t : zTT} {u : zNN} {w : zW} (hI : IVm g ad t u w) : zMB g M_Ip_speed [.ref (ad 0)] w (CKx g ad t u.1 ["java/util/NoSuchElementException"]) 10 300 := by
  obtain ⟨s, hI⟩ := hI
  by_cases hg : fa_cnt (fun k => decide ((t.1 2).1 k = 103)) 12 = 0
  · exact (Qx_Ip_speedE hI hg).mono (by decide) (by decide) (fun o w1 h => ⟨zri.th h.1 (by simp), u, rfl, ⟨_, h.2⟩⟩)
  · exact (Qx_Ip_speedN hI hg).mono (by decide) (by decide) (fun o w1 h => ⟨zri.vl h.1, u, rfl, ⟨_, h.2⟩⟩)
set_option maxHeartbeats 4000000 in
theorem Qx_Ip_filledInN {g : zG} {ad : Nat → Nat} {t : zTT} {u : zNN} {w : zW} (hI : IV g ad t u w) (x : Int32) (y : Int32) (c : Nat) (hz : z_cl x y = some c) : zMB g M_Ip_filledIn [.ref (ad 0), .int x, .int y] w (fun o w1 => o = .inl (some (.int ((flT ((((t.1 6).1), ((t.1 7).1), (t.1 5).1 0, (t.1 5).1 1), (((((t.1 9).1), ((t.1 11).1), ((t.1 12).1), (t.1 8).1 0), ((t.1 10).1)), ((t.1 13).1), ((t.1 14).1)), (((t.1 15).1), ((t.1 16).1), ((t.1 17).2.2)))).1.2.1 c))) ∧ IV g ad (zup t.1 [(5, ((upd (upd ((t.1 5).1) 0 ((flT ((((t.1 6).1), ((t.1 7).1), (t.1 5).1 0, (t.1 5).1 1), (((((t.1 9).1), ((t.1 11).1), ((t.1 12).1), (t.1 8).1 0), ((t.1 10).1)), ((t.1 13).1), ((t.1 14).1)), (((t.1 15).1), ((t.1 16).1), ((t.1 17).2.2)))).1.2.2.1)) 1 ((flT ((((t.1 6).1), ((t.1 7).1), (t.1 5).1 0, (t.1 5).1 1), (((((t.1 9).1), ((t.1 11).1), ((t.1 12).1), (t.1 8).1 0), ((t.1 10).1)), ((t.1 13).1), ((t.1 14).1)), (((t.1 15).1), ((t.1 16).1), ((t.1 17).2.2)))).1.2.2.2)), (t.1 5).2.1, (t.1 5).2.2)), (6, ((flT ((((t.1 6).1), ((t.1 7).1), (t.1 5).1 0, (t.1 5).1 1), (((((t.1 9).1), ((t.1 11).1), ((t.1 12).1), (t.1 8).1 0), ((t.1 10).1)), ((t.1 13).1), ((t.1 14).1)), (((t.1 15).1), ((t.1 16).1), ((t.1 17).2.2)))).1.1, (t.1 6).2)), (7, ((flT ((((t.1 6).1), ((t.1 7).1), (t.1 5).1 0, (t.1 5).1 1), (((((t.1 9).1), ((t.1 11).1), ((t.1 12).1), (t.1 8).1 0), ((t.1 10).1)), ((t.1 13).1), ((t.1 14).1)), (((t.1 15).1), ((t.1 16).1), ((t.1 17).2.2)))).1.2.1, (t.1 7).2)), (8, ((upd ((t.1 8).1) 0 ((flT ((((t.1 6).1), ((t.1 7).1), (t.1 5).1 0, (t.1 5).1 1), (((((t.1 9).1), ((t.1 11).1), ((t.1 12).1), (t.1 8).1 0), ((t.1 10).1)), ((t.1 13).1), ((t.1 14).1)), (((t.1 15).1), ((t.1 16).1), ((t.1 17).2.2)))).2.1.1.1.2.2.2)), (t.1 8).2.1, (t.1 8).2.2)), (9, ((flT ((((t.1 6).1), ((t.1 7).1), (t.1 5).1 0, (t.1 5).1 1), (((((t.1 9).1), ((t.1 11).1), ((t.1 12).1), (t.1 8).1 0), ((t.1 10).1)), ((t.1 13).1), ((t.1 14).1)), (((t.1 15).1), ((t.1 16).1), ((t.1 17).2.2)))).2.1.1.1.1, (t.1 9).2)), (10, ((flT ((((t.1 6).1), ((t.1 7).1), (t.1 5).1 0, (t.1 5).1 1), (((((t.1 9).1), ((t.1 11).1), ((t.1 12).1), (t.1 8).1 0), ((t.1 10).1)), ((t.1 13).1), ((t.1 14).1)), (((t.1 15).1), ((t.1 16).1), ((t.1 17).2.2)))).2.1.1.2, (t.1 10).2)), (11, ((flT ((((t.1 6).1), ((t.1 7).1), (t.1 5).1 0, (t.1 5).1 1), (((((t.1 9).1), ((t.1 11).1), ((t.1 12).1), (t.1 8).1 0), ((t.1 10).1)), ((t.1 13).1), ((t.1 14).1)), (((t.1 15).1), ((t.1 16).1), ((t.1 17).2.2)))).2.1.1.1.2.1, (t.1 11).2)), (12, ((flT ((((t.1 6).1), ((t.1 7).1), (t.1 5).1 0, (t.1 5).1 1), (((((t.1 9).1), ((t.1 11).1), ((t.1 12).1), (t.1 8).1 0), ((t.1 10).1)), ((t.1 13).1), ((t.1 14).1)), (((t.1 15).1), ((t.1 16).1), ((t.1 17).2.2)))).2.1.1.1.2.2.1, (t.1 12).2)), (13, ((flT ((((t.1 6).1), ((t.1 7).1), (t.1 5).1 0, (t.1 5).1 1), (((((t.1 9).1), ((t.1 11).1), ((t.1 12).1), (t.1 8).1 0), ((t.1 10).1)), ((t.1 13).1), ((t.1 14).1)), (((t.1 15).1), ((t.1 16).1), ((t.1 17).2.2)))).2.1.2.1, (t.1 13).2)), (14, ((flT ((((t.1 6).1), ((t.1 7).1), (t.1 5).1 0, (t.1 5).1 1), (((((t.1 9).1), ((t.1 11).1), ((t.1 12).1), (t.1 8).1 0), ((t.1 10).1)), ((t.1 13).1), ((t.1 14).1)), (((t.1 15).1), ((t.1 16).1), ((t.1 17).2.2)))).2.1.2.2, (t.1 14).2)), (15, ((flT ((((t.1 6).1), ((t.1 7).1), (t.1 5).1 0, (t.1 5).1 1), (((((t.1 9).1), ((t.1 11).1), ((t.1 12).1), (t.1 8).1 0), ((t.1 10).1)), ((t.1 13).1), ((t.1 14).1)), (((t.1 15).1), ((t.1 16).1), ((t.1 17).2.2)))).2.2.1, (t.1 15).2)), (16, ((flT ((((t.1 6).1), ((t.1 7).1), (t.1 5).1 0, (t.1 5).1 1), (((((t.1 9).1), ((t.1 11).1), ((t.1 12).1), (t.1 8).1 0), ((t.1 10).1)), ((t.1 13).1), ((t.1 14).1)), (((t.1 15).1), ((t.1 16).1), ((t.1 17).2.2)))).2.2.2.1, (t.1 16).2)), (17, ((t.1 17).1, (t.1 17).2.1, (flT ((((t.1 6).1), ((t.1 7).1), (t.1 5).1 0, (t.1 5).1 1), (((((t.1 9).1), ((t.1 11).1), ((t.1 12).1), (t.1 8).1 0), ((t.1 10).1)), ((t.1 13).1), ((t.1 14).1)), (((t.1 15).1), ((t.1 16).1), ((t.1 17).2.2)))).2.2.2.2))], t.2) u w1) 1 6 := by
  obtain ⟨e_a, w_a, k_a⟩ := hI.1.2 0 (by decide)
  obtain rfl := kd_0.mp k_a
  obtain ⟨e_ta, w_ta, k_ta⟩ := hI.1.2 5 (by decide)
  obtain rfl := kd_5.mp k_ta
  obtain ⟨e_ta1, w_ta1, k_ta1⟩ := hI.1.2 6 (by decide)
  obtain rfl := kd_6.mp k_ta1
  obtain ⟨e_ta2, w_ta2, k_ta2⟩ := hI.1.2 7 (by decide)
  obtain rfl := kd_7.mp k_ta2
  obtain ⟨e_taz, w_taz, k_taz⟩ := hI.1.2 8 (by decide)
  obtain rfl := kd_8.mp k_taz
  obtain ⟨e_taz1, w_taz1, k_taz1⟩ := hI.1.2 9 (by decide)
  obtain rfl := kd_9.mp k_taz1
  obtain ⟨e_taz2, w_taz2, k_taz2⟩ := hI.1.2 10 (by decide)
  obtain rfl := kd_10.mp k_taz2
  obtain ⟨e_taz3, w_taz3, k_taz3⟩ := hI.1.2 11 (by decide)
  obtain rfl := kd_11.mp k_taz3
  obtain ⟨e_taz4, w_taz4, k_taz4⟩ := hI.1.2 12 (by decide)
  obtain rfl := kd_12.mp k_taz4
  obtain ⟨e_taz5, w_taz5, k_taz5⟩ := hI.1.2 13 (by decide)
  obtain rfl := kd_13.mp k_taz5
  obtain ⟨e_taz6, w_taz6, k_taz6⟩ := hI.1.2 14 (by decide)
  obtain rfl := kd_14.mp k_taz6
  obtain ⟨e_ta4, w_ta4, k_ta4⟩ := hI.1.2 15 (by decide)
  obtain ⟨c_ta4_0, rfl⟩ := kd_15.mp k_ta4
  obtain ⟨e_ta5, w_ta5, k_ta5⟩ := hI.1.2 16 (by decide)
  obtain rfl := kd_16.mp k_ta5
  obtain ⟨e_ta6, w_ta6, k_ta6⟩ := hI.1.2 17 (by decide)
  obtain rfl := kd_17.mp k_ta6
  refine ((C_Ip_filledInN g (ad 0) (ad 1) (ad 5) (ad 18) (ad 31) (ad 32) (ad 36) (ad 42) (ad 45) (ad 47) (ad 49) (ad 50) (ad 51) (ad 6) (ad 7) (ad 8) (ad 9) (ad 10) (ad 11) (ad 12) (ad 13) (ad 14) (ad 15) (ad 16) (ad 17) ((((t.1 6).1), ((t.1 7).1), (t.1 5).1 0, (t.1 5).1 1), (((((t.1 9).1), ((t.1 11).1), ((t.1 12).1), (t.1 8).1 0), ((t.1 10).1)), ((t.1 13).1), ((t.1 14).1)), (((t.1 15).1), ((t.1 16).1), ((t.1 17).2.2))) x y c hz).at (hI.1.I [0, 5, 6, 7, 8, 9, 10, 11, 12, 13, 14, 15, 16, 17] _ rfl (by decide) (by decide) (List.forall_mem_cons.mpr ⟨w_a, (List.forall_mem_cons.mpr ⟨w_ta, (List.forall_mem_cons.mpr ⟨w_ta1, (List.forall_mem_cons.mpr ⟨w_ta2, (List.forall_mem_cons.mpr ⟨w_taz, (List.forall_mem_cons.mpr ⟨w_taz1, (List.forall_mem_cons.mpr ⟨w_taz2, (List.forall_mem_cons.mpr ⟨w_taz3, (List.forall_mem_cons.mpr ⟨w_taz4, (List.forall_mem_cons.mpr ⟨w_taz5, (List.forall_mem_cons.mpr ⟨w_taz6, (List.forall_mem_cons.mpr ⟨w_ta4, (List.forall_mem_cons.mpr ⟨w_ta5, (List.forall_mem_cons.mpr ⟨w_ta6, (fun _ h => nomatch h)⟩)⟩)⟩)⟩)⟩)⟩)⟩)⟩)⟩)⟩)⟩)⟩)⟩)⟩))).mono (Nat.le_of_ble_eq_true rfl) (Nat.le_of_ble_eq_true rfl) (fun o w1 hp => ?_)
  obtain ⟨cs1, hp, hi9⟩ := hp
  obtain ⟨e1, e2⟩ := hp
  subst e1; subst e2
  exact ⟨rfl, hI.fix (t2 := (zup t.1 [(5, ((upd (upd ((t.1 5).1) 0 ((flT ((((t.1 6).1), ((t.1 7).1), (t.1 5).1 0, (t.1 5).1 1), (((((t.1 9).1), ((t.1 11).1), ((t.1 12).1), (t.1 8).1 0), ((t.1 10).1)), ((t.1 13).1), ((t.1 14).1)), (((t.1 15).1), ((t.1 16).1), ((t.1 17).2.2)))).1.2.2.1)) 1 ((flT ((((t.1 6).1), ((t.1 7).1), (t.1 5).1 0, (t.1 5).1 1), (((((t.1 9).1), ((t.1 11).1), ((t.1 12).1), (t.1 8).1 0), ((t.1 10).1)), ((t.1 13).1), ((t.1 14).1)), (((t.1 15).1), ((t.1 16).1), ((t.1 17).2.2)))).1.2.2.2)), (t.1 5).2.1, (t.1 5).2.2)), (6, ((flT ((((t.1 6).1), ((t.1 7).1), (t.1 5).1 0, (t.1 5).1 1), (((((t.1 9).1), ((t.1 11).1), ((t.1 12).1), (t.1 8).1 0), ((t.1 10).1)), ((t.1 13).1), ((t.1 14).1)), (((t.1 15).1), ((t.1 16).1), ((t.1 17).2.2)))).1.1, (t.1 6).2)), (7, ((flT ((((t.1 6).1), ((t.1 7).1), (t.1 5).1 0, (t.1 5).1 1), (((((t.1 9).1), ((t.1 11).1), ((t.1 12).1), (t.1 8).1 0), ((t.1 10).1)), ((t.1 13).1), ((t.1 14).1)), (((t.1 15).1), ((t.1 16).1), ((t.1 17).2.2)))).1.2.1, (t.1 7).2)), (8, ((upd ((t.1 8).1) 0 ((flT ((((t.1 6).1), ((t.1 7).1), (t.1 5).1 0, (t.1 5).1 1), (((((t.1 9).1), ((t.1 11).1), ((t.1 12).1), (t.1 8).1 0), ((t.1 10).1)), ((t.1 13).1), ((t.1 14).1)), (((t.1 15).1), ((t.1 16).1), ((t.1 17).2.2)))).2.1.1.1.2.2.2)), (t.1 8).2.1, (t.1 8).2.2)), (9, ((flT ((((t.1 6).1), ((t.1 7).1), (t.1 5).1 0, (t.1 5).1 1), (((((t.1 9).1), ((t.1 11).1), ((t.1 12).1), (t.1 8).1 0), ((t.1 10).1)), ((t.1 13).1), ((t.1 14).1)), (((t.1 15).1), ((t.1 16).1), ((t.1 17).2.2)))).2.1.1.1.1, (t.1 9).2)), (10, ((flT ((((t.1 6).1), ((t.1 7).1), (t.1 5).1 0, (t.1 5).1 1), (((((t.1 9).1), ((t.1 11).1), ((t.1 12).1), (t.1 8).1 0), ((t.1 10).1)), ((t.1 13).1), ((t.1 14).1)), (((t.1 15).1), ((t.1 16).1), ((t.1 17).2.2)))).2.1.1.2, (t.1 10).2)), (11, ((flT ((((t.1 6).1), ((t.1 7).1), (t.1 5).1 0, (t.1 5).1 1), (((((t.1 9).1), ((t.1 11).1), ((t.1 12).1), (t.1 8).1 0), ((t.1 10).1)), ((t.1 13).1), ((t.1 14).1)), (((t.1 15).1), ((t.1 16).1), ((t.1 17).2.2)))).2.1.1.1.2.1, (t.1 11).2)), (12, ((flT ((((t.1 6).1), ((t.1 7).1), (t.1 5).1 0, (t.1 5).1 1), (((((t.1 9).1), ((t.1 11).1), ((t.1 12).1), (t.1 8).1 0), ((t.1 10).1)), ((t.1 13).1), ((t.1 14).1)), (((t.1 15).1), ((t.1 16).1), ((t.1 17).2.2)))).2.1.1.1.2.2.1, (t.1 12).2)), (13, ((flT ((((t.1 6).1), ((t.1 7).1), (t.1 5).1 0, (t.1 5).1 1), (((((t.1 9).1), ((t.1 11).1), ((t.1 12).1), (t.1 8).1 0), ((t.1 10).1)), ((t.1 13).1), ((t.1 14).1)), (((t.1 15).1), ((t.1 16).1), ((t.1 17).2.2)))).2.1.2.1, (t.1 13).2)), (14, ((flT ((((t.1 6).1), ((t.1 7).1), (t.1 5).1 0, (t.1 5).1 1), (((((t.1 9).1), ((t.1 11).1), ((t.1 12).1), (t.1 8).1 0), ((t.1 10).1)), ((t.1 13).1), ((t.1 14).1)), (((t.1 15).1), ((t.1 16).1), ((t.1 17).2.2)))).2.1.2.2, (t.1 14).2)), (15, ((flT ((((t.1 6).1), ((t.1 7).1), (t.1 5).1 0, (t.1 5).1 1), (((((t.1 9).1), ((t.1 11).1), ((t.1 12).1), (t.1 8).1 0), ((t.1 10).1)), ((t.1 13).1), ((t.1 14).1)), (((t.1 15).1), ((t.1 16).1), ((t.1 17).2.2)))).2.2.1, (t.1 15).2)), (16, ((flT ((((t.1 6).1), ((t.1 7).1), (t.1 5).1 0, (t.1 5).1 1), (((((t.1 9).1), ((t.1 11).1), ((t.1 12).1), (t.1 8).1 0), ((t.1 10).1)), ((t.1 13).1), ((t.1 14).1)), (((t.1 15).1), ((t.1 16).1), ((t.1 17).2.2)))).2.2.2.1, (t.1 16).2)), (17, ((t.1 17).1, (t.1 17).2.1, (flT ((((t.1 6).1), ((t.1 7).1), (t.1 5).1 0, (t.1 5).1 1), (((((t.1 9).1), ((t.1 11).1), ((t.1 12).1), (t.1 8).1 0), ((t.1 10).1)), ((t.1 13).1), ((t.1 14).1)), (((t.1 15).1), ((t.1 16).1), ((t.1 17).2.2)))).2.2.2.2))], t.2)) (is := [0, 5, 6, 7, 8, 9, 10, 11, 12, 13, 14, 15, 16, 17]) hi9 rfl ⟨kd_0.mpr rfl, kd_5.mpr rfl, kd_6.mpr rfl, kd_7.mpr rfl, kd_8.mpr rfl, kd_9.mpr rfl, kd_10.mpr rfl, kd_11.mpr rfl, kd_12.mpr rfl, kd_13.mpr rfl, kd_14.mpr rfl, kd_15.mpr ⟨c_ta4_0, rfl⟩, kd_16.mpr rfl, kd_17.mpr rfl, trivial⟩ (by decide) (by decide) (fun i hi hn => zup_out (fun q => hn ((by decide : ∀ j ∈ ([5, 6, 7, 8, 9, 10, 11, 12, 13, 14, 15, 16, 17] : List Nat), j ∈ ([0, 5, 6, 7, 8, 9, 10, 11, 12, 13, 14, 15, 16, 17] : List Nat)) i q))) (fun h => h) rfl⟩
set_option maxHeartbeats 4000000 in
theorem Qx_Ip_filledInE {g : zG} {ad : Nat → Nat} {t : zTT} {u : zNN} {w : zW} (hI : IV g ad t u w) (x : Int32) (y : Int32) (hz : z_cl x y = none) : zMB g M_Ip_filledIn [.ref (ad 0), .int x, .int y] w (fun o w1 => o = .inr "java/lang/IndexOutOfBoundsException" ∧ IV g ad (zup t.1 [(5, ((upd (upd ((t.1 5).1) 0 (((((t.1 6).1), ((t.1 7).1), (t.1 5).1 0, (t.1 5).1 1), (((((t.1 9).1), ((t.1 11).1), ((t.1 12).1), (t.1 8).1 0), ((t.1 10).1)), ((t.1 13).1), ((t.1 14).1)), (((t.1 15).1), ((t.1 16).1), ((t.1 17).2.2))).1.2.2.1)) 1 (((((t.1 6).1), ((t.1 7).1), (t.1 5).1 0, (t.1 5).1 1), (((((t.1 9).1), ((t.1 11).1), ((t.1 12).1), (t.1 8).1 0), ((t.1 10).1)), ((t.1 13).1), ((t.1 14).1)), (((t.1 15).1), ((t.1 16).1), ((t.1 17).2.2))).1.2.2.2)), (t.1 5).2.1, (t.1 5).2.2)), (6, (((((t.1 6).1), ((t.1 7).1), (t.1 5).1 0, (t.1 5).1 1), (((((t.1 9).1), ((t.1 11).1), ((t.1 12).1), (t.1 8).1 0), ((t.1 10).1)), ((t.1 13).1), ((t.1 14).1)), (((t.1 15).1), ((t.1 16).1), ((t.1 17).2.2))).1.1, (t.1 6).2)), (7, (((((t.1 6).1), ((t.1 7).1), (t.1 5).1 0, (t.1 5).1 1), (((((t.1 9).1), ((t.1 11).1), ((t.1 12).1), (t.1 8).1 0), ((t.1 10).1)), ((t.1 13).1), ((t.1 14).1)), (((t.1 15).1), ((t.1 16).1), ((t.1 17).2.2))).1.2.1, (t.1 7).2)), (8, ((upd ((t.1 8).1) 0 (((((t.1 6).1), ((t.1 7).1), (t.1 5).1 0, (t.1 5).1 1), (((((t.1 9).1), ((t.1 11).1), ((t.1 12).1), (t.1 8).1 0), ((t.1 10).1)), ((t.1 13).1), ((t.1 14).1)), (((t.1 15).1), ((t.1 16).1), ((t.1 17).2.2))).2.1.1.1.2.2.2)), (t.1 8).2.1, (t.1 8).2.2)), (9, (((((t.1 6).1), ((t.1 7).1), (t.1 5).1 0, (t.1 5).1 1), (((((t.1 9).1), ((t.1 11).1), ((t.1 12).1), (t.1 8).1 0), ((t.1 10).1)), ((t.1 13).1), ((t.1 14).1)), (((t.1 15).1), ((t.1 16).1), ((t.1 17).2.2))).2.1.1.1.1, (t.1 9).2)), (10, (((((t.1 6).1), ((t.1 7).1), (t.1 5).1 0, (t.1 5).1 1), (((((t.1 9).1), ((t.1 11).1), ((t.1 12).1), (t.1 8).1 0), ((t.1 10).1)), ((t.1 13).1), ((t.1 14).1)), (((t.1 15).1), ((t.1 16).1), ((t.1 17).2.2))).2.1.1.2, (t.1 10).2)), (11, (((((t.1 6).1), ((t.1 7).1), (t.1 5).1 0, (t.1 5).1 1), (((((t.1 9).1), ((t.1 11).1), ((t.1 12).1), (t.1 8).1 0), ((t.1 10).1)), ((t.1 13).1), ((t.1 14).1)), (((t.1 15).1), ((t.1 16).1), ((t.1 17).2.2))).2.1.1.1.2.1, (t.1 11).2)), (12, (((((t.1 6).1), ((t.1 7).1), (t.1 5).1 0, (t.1 5).1 1), (((((t.1 9).1), ((t.1 11).1), ((t.1 12).1), (t.1 8).1 0), ((t.1 10).1)), ((t.1 13).1), ((t.1 14).1)), (((t.1 15).1), ((t.1 16).1), ((t.1 17).2.2))).2.1.1.1.2.2.1, (t.1 12).2)), (13, (((((t.1 6).1), ((t.1 7).1), (t.1 5).1 0, (t.1 5).1 1), (((((t.1 9).1), ((t.1 11).1), ((t.1 12).1), (t.1 8).1 0), ((t.1 10).1)), ((t.1 13).1), ((t.1 14).1)), (((t.1 15).1), ((t.1 16).1), ((t.1 17).2.2))).2.1.2.1, (t.1 13).2)), (14, (((((t.1 6).1), ((t.1 7).1), (t.1 5).1 0, (t.1 5).1 1), (((((t.1 9).1), ((t.1 11).1), ((t.1 12).1), (t.1 8).1 0), ((t.1 10).1)), ((t.1 13).1), ((t.1 14).1)), (((t.1 15).1), ((t.1 16).1), ((t.1 17).2.2))).2.1.2.2, (t.1 14).2)), (15, (((((t.1 6).1), ((t.1 7).1), (t.1 5).1 0, (t.1 5).1 1), (((((t.1 9).1), ((t.1 11).1), ((t.1 12).1), (t.1 8).1 0), ((t.1 10).1)), ((t.1 13).1), ((t.1 14).1)), (((t.1 15).1), ((t.1 16).1), ((t.1 17).2.2))).2.2.1, (t.1 15).2)), (16, (((((t.1 6).1), ((t.1 7).1), (t.1 5).1 0, (t.1 5).1 1), (((((t.1 9).1), ((t.1 11).1), ((t.1 12).1), (t.1 8).1 0), ((t.1 10).1)), ((t.1 13).1), ((t.1 14).1)), (((t.1 15).1), ((t.1 16).1), ((t.1 17).2.2))).2.2.2.1, (t.1 16).2)), (17, ((t.1 17).1, (t.1 17).2.1, ((((t.1 6).1), ((t.1 7).1), (t.1 5).1 0, (t.1 5).1 1), (((((t.1 9).1), ((t.1 11).1), ((t.1 12).1), (t.1 8).1 0), ((t.1 10).1)), ((t.1 13).1), ((t.1 14).1)), (((t.1 15).1), ((t.1 16).1), ((t.1 17).2.2))).2.2.2.2))], t.2) u w1) 1 6 := by
  obtain ⟨e_a, w_a, k_a⟩ := hI.1.2 0 (by decide)
  obtain rfl := kd_0.mp k_a
  obtain ⟨e_ta, w_ta, k_ta⟩ := hI.1.2 5 (by decide)
  obtain rfl := kd_5.mp k_ta
  obtain ⟨e_ta1, w_ta1, k_ta1⟩ := hI.1.2 6 (by decide)
  obtain rfl := kd_6.mp k_ta1
  obtain ⟨e_ta2, w_ta2, k_ta2⟩ := hI.1.2 7 (by decide)
  obtain rfl := kd_7.mp k_ta2
  obtain ⟨e_taz, w_taz, k_taz⟩ := hI.1.2 8 (by decide)
  obtain rfl := kd_8.mp k_taz
  obtain ⟨e_taz1, w_taz1, k_taz1⟩ := hI.1.2 9 (by decide)
  obtain rfl := kd_9.mp k_taz1
  obtain ⟨e_taz2, w_taz2, k_taz2⟩ := hI.1.2 10 (by decide)
  obtain rfl := kd_10.mp k_taz2
  obtain ⟨e_taz3, w_taz3, k_taz3⟩ := hI.1.2 11 (by decide)
  obtain rfl := kd_11.mp k_taz3
  obtain ⟨e_taz4, w_taz4, k_taz4⟩ := hI.1.2 12 (by decide)
  obtain rfl := kd_12.mp k_taz4
  obtain ⟨e_taz5, w_taz5, k_taz5⟩ := hI.1.2 13 (by decide)
  obtain rfl := kd_13.mp k_taz5
  obtain ⟨e_taz6, w_taz6, k_taz6⟩ := hI.1.2 14 (by decide)
  obtain rfl := kd_14.mp k_taz6
  obtain ⟨e_ta4, w_ta4, k_ta4⟩ := hI.1.2 15 (by decide)
  obtain ⟨c_ta4_0, rfl⟩ := kd_15.mp k_ta4
  obtain ⟨e_ta5, w_ta5, k_ta5⟩ := hI.1.2 16 (by decide)
  obtain rfl := kd_16.mp k_ta5
  obtain ⟨e_ta6, w_ta6, k_ta6⟩ := hI.1.2 17 (by decide)
  obtain rfl := kd_17.mp k_ta6
  refine ((C_Ip_filledInE g (ad 0) (ad 1) (ad 5) (ad 18) (ad 31) (ad 32) (ad 36) (ad 42) (ad 45) (ad 47) (ad 49) (ad 50) (ad 51) (ad 6) (ad 7) (ad 8) (ad 9) (ad 10) (ad 11) (ad 12) (ad 13) (ad 14) (ad 15) (ad 16) (ad 17) ((((t.1 6).1), ((t.1 7).1), (t.1 5).1 0, (t.1 5).1 1), (((((t.1 9).1), ((t.1 11).1), ((t.1 12).1), (t.1 8).1 0), ((t.1 10).1)), ((t.1 13).1), ((t.1 14).1)), (((t.1 15).1), ((t.1 16).1), ((t.1 17).2.2))) x y hz).at (hI.1.I [0, 5, 6, 7, 8, 9, 10, 11, 12, 13, 14, 15, 16, 17] _ rfl (by decide) (by decide) (List.forall_mem_cons.mpr ⟨w_a, (List.forall_mem_cons.mpr ⟨w_ta, (List.forall_mem_cons.mpr ⟨w_ta1, (List.forall_mem_cons.mpr ⟨w_ta2, (List.forall_mem_cons.mpr ⟨w_taz, (List.forall_mem_cons.mpr ⟨w_taz1, (List.forall_mem_cons.mpr ⟨w_taz2, (List.forall_mem_cons.mpr ⟨w_taz3, (List.forall_mem_cons.mpr ⟨w_taz4, (List.forall_mem_cons.mpr ⟨w_taz5, (List.forall_mem_cons.mpr ⟨w_taz6, (List.forall_mem_cons.mpr ⟨w_ta4, (List.forall_mem_cons.mpr ⟨w_ta5, (List.forall_mem_cons.mpr ⟨w_ta6, (fun _ h => nomatch h)⟩)⟩)⟩)⟩)⟩)⟩)⟩)⟩)⟩)⟩)⟩)⟩)⟩)⟩))).mono (Nat.le_of_ble_eq_true rfl) (Nat.le_of_ble_eq_true rfl) (fun o w1 hp => ?_)
  obtain ⟨cs1, hp, hi9⟩ := hp
  obtain ⟨e1, e2⟩ := hp
  subst e1; subst e2
  exact ⟨rfl, hI.fix (t2 := (zup t.1 [(5, ((upd (upd ((t.1 5).1) 0 (((((t.1 6).1), ((t.1 7).1), (t.1 5).1 0, (t.1 5).1 1), (((((t.1 9).1), ((t.1 11).1), ((t.1 12).1), (t.1 8).1 0), ((t.1 10).1)), ((t.1 13).1), ((t.1 14).1)), (((t.1 15).1), ((t.1 16).1), ((t.1 17).2.2))).1.2.2.1)) 1 (((((t.1 6).1), ((t.1 7).1), (t.1 5).1 0, (t.1 5).1 1), (((((t.1 9).1), ((t.1 11).1), ((t.1 12).1), (t.1 8).1 0), ((t.1 10).1)), ((t.1 13).1), ((t.1 14).1)), (((t.1 15).1), ((t.1 16).1), ((t.1 17).2.2))).1.2.2.2)), (t.1 5).2.1, (t.1 5).2.2)), (6, (((((t.1 6).1), ((t.1 7).1), (t.1 5).1 0, (t.1 5).1 1), (((((t.1 9).1), ((t.1 11).1), ((t.1 12).1), (t.1 8).1 0), ((t.1 10).1)), ((t.1 13).1), ((t.1 14).1)), (((t.1 15).1), ((t.1 16).1), ((t.1 17).2.2))).1.1, (t.1 6).2)), (7, (((((t.1 6).1), ((t.1 7).1), (t.1 5).1 0, (t.1 5).1 1), (((((t.1 9).1), ((t.1 11).1), ((t.1 12).1), (t.1 8).1 0), ((t.1 10).1)), ((t.1 13).1), ((t.1 14).1)), (((t.1 15).1), ((t.1 16).1), ((t.1 17).2.2))).1.2.1, (t.1 7).2)), (8, ((upd ((t.1 8).1) 0 (((((t.1 6).1), ((t.1 7).1), (t.1 5).1 0, (t.1 5).1 1), (((((t.1 9).1), ((t.1 11).1), ((t.1 12).1), (t.1 8).1 0), ((t.1 10).1)), ((t.1 13).1), ((t.1 14).1)), (((t.1 15).1), ((t.1 16).1), ((t.1 17).2.2))).2.1.1.1.2.2.2)), (t.1 8).2.1, (t.1 8).2.2)), (9, (((((t.1 6).1), ((t.1 7).1), (t.1 5).1 0, (t.1 5).1 1), (((((t.1 9).1), ((t.1 11).1), ((t.1 12).1), (t.1 8).1 0), ((t.1 10).1)), ((t.1 13).1), ((t.1 14).1)), (((t.1 15).1), ((t.1 16).1), ((t.1 17).2.2))).2.1.1.1.1, (t.1 9).2)), (10, (((((t.1 6).1), ((t.1 7).1), (t.1 5).1 0, (t.1 5).1 1), (((((t.1 9).1), ((t.1 11).1), ((t.1 12).1), (t.1 8).1 0), ((t.1 10).1)), ((t.1 13).1), ((t.1 14).1)), (((t.1 15).1), ((t.1 16).1), ((t.1 17).2.2))).2.1.1.2, (t.1 10).2)), (11, (((((t.1 6).1), ((t.1 7).1), (t.1 5).1 0, (t.1 5).1 1), (((((t.1 9).1), ((t.1 11).1), ((t.1 12).1), (t.1 8).1 0), ((t.1 10).1)), ((t.1 13).1), ((t.1 14).1)), (((t.1 15).1), ((t.1 16).1), ((t.1 17).2.2))).2.1.1.1.2.1, (t.1 11).2)), (12, (((((t.1 6).1), ((t.1 7).1), (t.1 5).1 0, (t.1 5).1 1), (((((t.1 9).1), ((t.1 11).1), ((t.1 12).1), (t.1 8).1 0), ((t.1 10).1)), ((t.1 13).1), ((t.1 14).1)), (((t.1 15).1), ((t.1 16).1), ((t.1 17).2.2))).2.1.1.1.2.2.1, (t.1 12).2)), (13, (((((t.1 6).1), ((t.1 7).1), (t.1 5).1 0, (t.1 5).1 1), (((((t.1 9).1), ((t.1 11).1), ((t.1 12).1), (t.1 8).1 0), ((t.1 10).1)), ((t.1 13).1), ((t.1 14).1)), (((t.1 15).1), ((t.1 16).1), ((t.1 17).2.2))).2.1.2.1, (t.1 13).2)), (14, (((((t.1 6).1), ((t.1 7).1), (t.1 5).1 0, (t.1 5).1 1), (((((t.1 9).1), ((t.1 11).1), ((t.1 12).1), (t.1 8).1 0), ((t.1 10).1)), ((t.1 13).1), ((t.1 14).1)), (((t.1 15).1), ((t.1 16).1), ((t.1 17).2.2))).2.1.2.2, (t.1 14).2)), (15, (((((t.1 6).1), ((t.1 7).1), (t.1 5).1 0, (t.1 5).1 1), (((((t.1 9).1), ((t.1 11).1), ((t.1 12).1), (t.1 8).1 0), ((t.1 10).1)), ((t.1 13).1), ((t.1 14).1)), (((t.1 15).1), ((t.1 16).1), ((t.1 17).2.2))).2.2.1, (t.1 15).2)), (16, (((((t.1 6).1), ((t.1 7).1), (t.1 5).1 0, (t.1 5).1 1), (((((t.1 9).1), ((t.1 11).1), ((t.1 12).1), (t.1 8).1 0), ((t.1 10).1)), ((t.1 13).1), ((t.1 14).1)), (((t.1 15).1), ((t.1 16).1), ((t.1 17).2.2))).2.2.2.1, (t.1 16).2)), (17, ((t.1 17).1, (t.1 17).2.1, ((((t.1 6).1), ((t.1 7).1), (t.1 5).1 0, (t.1 5).1 1), (((((t.1 9).1), ((t.1 11).1), ((t.1 12).1), (t.1 8).1 0), ((t.1 10).1)), ((t.1 13).1), ((t.1 14).1)), (((t.1 15).1), ((t.1 16).1), ((t.1 17).2.2))).2.2.2.2))], t.2)) (is := [0, 5, 6, 7, 8, 9, 10, 11, 12, 13, 14, 15, 16, 17]) hi9 rfl ⟨kd_0.mpr rfl, kd_5.mpr rfl, kd_6.mpr rfl, kd_7.mpr rfl, kd_8.mpr rfl, kd_9.mpr rfl, kd_10.mpr rfl, kd_11.mpr rfl, kd_12.mpr rfl, kd_13.mpr rfl, kd_14.mpr rfl, kd_15.mpr ⟨c_ta4_0, rfl⟩, kd_16.mpr rfl, kd_17.mpr rfl, trivial⟩ (by decide) (by decide) (fun i hi hn => zup_out (fun q => hn ((by decide : ∀ j ∈ ([5, 6, 7, 8, 9, 10, 11, 12, 13, 14, 15, 16, 17] : List Nat), j ∈ ([0, 5, 6, 7, 8, 9, 10, 11, 12, 13, 14, 15, 16, 17] : List Nat)) i q))) (fun h => h) rfl⟩
theorem K_Ip_filledIn {g : zG} {ad : Nat → Nat} {t : zTT} {u : zNN} {w : zW} (hI : IVm g ad t u w) (x y : Int32) : zMB g M_Ip_filledIn [.ref (ad 0), .int x, .int y] w (CKx g ad t u.1 ["java/lang/IndexOutOfBoundsException"]) 10 300 := by
  obtain ⟨s, hI⟩ := hI
  by_cases hq : 0 ≤ x ∧ x < 12 ∧ 0 ≤ y ∧ y < 9
  · obtain ⟨x0, y0, hx0, hy0, rfl, rfl, hz⟩ := z_cl_in hq
    exact (Qx_Ip_filledInN hI (nI x0) (nI y0) _ hz).mono (by decide) (by decide) (fun o w1 h => ⟨zri.vl h.1, u, rfl, IVm.tz h.2 (tx_all rfl)⟩)
  · exact (Qx_Ip_filledInE hI x y (if_neg hq)).mono (by decide) (by decide) (fun o w1 h => ⟨zri.th h.1 (by simp), u, rfl, IVm.tz h.2 (tx_all rfl)⟩)
set_option maxHeartbeats 4000000 in
theorem Qx_Ip_frozenInN {g : zG} {ad : Nat → Nat} {t : zTT} {u : zNN} {w : zW} (hI : IV g ad t u w) (x : Int32) (y : Int32) (h : Int32) (c : Nat) (hz : z_cl x y = some c) (hh : 1200 ≤ h ∧ h ≤ 1500) : zMB g M_Ip_frozenIn [.ref (ad 0), .int x, .int y, .int h] w (fun o w1 => o = .inl (some (.int ((frT h ((((t.1 6).1), ((t.1 7).1), (t.1 5).1 0, (t.1 5).1 1), (((((t.1 9).1), ((t.1 11).1), ((t.1 12).1), (t.1 8).1 0), ((t.1 10).1)), ((t.1 13).1), ((t.1 14).1)), (((t.1 15).1), ((t.1 16).1), ((t.1 17).2.2)))).2.1.1.1.2.2.1 c))) ∧ IV g ad (zup t.1 [(5, ((upd (upd ((t.1 5).1) 0 ((frT h ((((t.1 6).1), ((t.1 7).1), (t.1 5).1 0, (t.1 5).1 1), (((((t.1 9).1), ((t.1 11).1), ((t.1 12).1), (t.1 8).1 0), ((t.1 10).1)), ((t.1 13).1), ((t.1 14).1)), (((t.1 15).1), ((t.1 16).1), ((t.1 17).2.2)))).1.2.2.1)) 1 ((frT h ((((t.1 6).1), ((t.1 7).1), (t.1 5).1 0, (t.1 5).1 1), (((((t.1 9).1), ((t.1 11).1), ((t.1 12).1), (t.1 8).1 0), ((t.1 10).1)), ((t.1 13).1), ((t.1 14).1)), (((t.1 15).1), ((t.1 16).1), ((t.1 17).2.2)))).1.2.2.2)), (t.1 5).2.1, (t.1 5).2.2)), (6, ((frT h ((((t.1 6).1), ((t.1 7).1), (t.1 5).1 0, (t.1 5).1 1), (((((t.1 9).1), ((t.1 11).1), ((t.1 12).1), (t.1 8).1 0), ((t.1 10).1)), ((t.1 13).1), ((t.1 14).1)), (((t.1 15).1), ((t.1 16).1), ((t.1 17).2.2)))).1.1, (t.1 6).2)), (7, ((frT h ((((t.1 6).1), ((t.1 7).1), (t.1 5).1 0, (t.1 5).1 1), (((((t.1 9).1), ((t.1 11).1), ((t.1 12).1), (t.1 8).1 0), ((t.1 10).1)), ((t.1 13).1), ((t.1 14).1)), (((t.1 15).1), ((t.1 16).1), ((t.1 17).2.2)))).1.2.1, (t.1 7).2)), (8, ((upd ((t.1 8).1) 0 ((frT h ((((t.1 6).1), ((t.1 7).1), (t.1 5).1 0, (t.1 5).1 1), (((((t.1 9).1), ((t.1 11).1), ((t.1 12).1), (t.1 8).1 0), ((t.1 10).1)), ((t.1 13).1), ((t.1 14).1)), (((t.1 15).1), ((t.1 16).1), ((t.1 17).2.2)))).2.1.1.1.2.2.2)), (t.1 8).2.1, (t.1 8).2.2)), (9, ((frT h ((((t.1 6).1), ((t.1 7).1), (t.1 5).1 0, (t.1 5).1 1), (((((t.1 9).1), ((t.1 11).1), ((t.1 12).1), (t.1 8).1 0), ((t.1 10).1)), ((t.1 13).1), ((t.1 14).1)), (((t.1 15).1), ((t.1 16).1), ((t.1 17).2.2)))).2.1.1.1.1, (t.1 9).2)), (10, ((frT h ((((t.1 6).1), ((t.1 7).1), (t.1 5).1 0, (t.1 5).1 1), (((((t.1 9).1), ((t.1 11).1), ((t.1 12).1), (t.1 8).1 0), ((t.1 10).1)), ((t.1 13).1), ((t.1 14).1)), (((t.1 15).1), ((t.1 16).1), ((t.1 17).2.2)))).2.1.1.2, (t.1 10).2)), (11, ((frT h ((((t.1 6).1), ((t.1 7).1), (t.1 5).1 0, (t.1 5).1 1), (((((t.1 9).1), ((t.1 11).1), ((t.1 12).1), (t.1 8).1 0), ((t.1 10).1)), ((t.1 13).1), ((t.1 14).1)), (((t.1 15).1), ((t.1 16).1), ((t.1 17).2.2)))).2.1.1.1.2.1, (t.1 11).2)), (12, ((frT h ((((t.1 6).1), ((t.1 7).1), (t.1 5).1 0, (t.1 5).1 1), (((((t.1 9).1), ((t.1 11).1), ((t.1 12).1), (t.1 8).1 0), ((t.1 10).1)), ((t.1 13).1), ((t.1 14).1)), (((t.1 15).1), ((t.1 16).1), ((t.1 17).2.2)))).2.1.1.1.2.2.1, (t.1 12).2)), (13, ((frT h ((((t.1 6).1), ((t.1 7).1), (t.1 5).1 0, (t.1 5).1 1), (((((t.1 9).1), ((t.1 11).1), ((t.1 12).1), (t.1 8).1 0), ((t.1 10).1)), ((t.1 13).1), ((t.1 14).1)), (((t.1 15).1), ((t.1 16).1), ((t.1 17).2.2)))).2.1.2.1, (t.1 13).2)), (14, ((frT h ((((t.1 6).1), ((t.1 7).1), (t.1 5).1 0, (t.1 5).1 1), (((((t.1 9).1), ((t.1 11).1), ((t.1 12).1), (t.1 8).1 0), ((t.1 10).1)), ((t.1 13).1), ((t.1 14).1)), (((t.1 15).1), ((t.1 16).1), ((t.1 17).2.2)))).2.1.2.2, (t.1 14).2)), (15, ((frT h ((((t.1 6).1), ((t.1 7).1), (t.1 5).1 0, (t.1 5).1 1), (((((t.1 9).1), ((t.1 11).1), ((t.1 12).1), (t.1 8).1 0), ((t.1 10).1)), ((t.1 13).1), ((t.1 14).1)), (((t.1 15).1), ((t.1 16).1), ((t.1 17).2.2)))).2.2.1, (t.1 15).2)), (16, ((frT h ((((t.1 6).1), ((t.1 7).1), (t.1 5).1 0, (t.1 5).1 1), (((((t.1 9).1), ((t.1 11).1), ((t.1 12).1), (t.1 8).1 0), ((t.1 10).1)), ((t.1 13).1), ((t.1 14).1)), (((t.1 15).1), ((t.1 16).1), ((t.1 17).2.2)))).2.2.2.1, (t.1 16).2)), (17, ((t.1 17).1, (t.1 17).2.1, (frT h ((((t.1 6).1), ((t.1 7).1), (t.1 5).1 0, (t.1 5).1 1), (((((t.1 9).1), ((t.1 11).1), ((t.1 12).1), (t.1 8).1 0), ((t.1 10).1)), ((t.1 13).1), ((t.1 14).1)), (((t.1 15).1), ((t.1 16).1), ((t.1 17).2.2)))).2.2.2.2))], t.2) u w1) 2 12 := by
  obtain ⟨e_a, w_a, k_a⟩ := hI.1.2 0 (by decide)
  obtain rfl := kd_0.mp k_a
  obtain ⟨e_ta, w_ta, k_ta⟩ := hI.1.2 5 (by decide)
  obtain rfl := kd_5.mp k_ta
  obtain ⟨e_ta1, w_ta1, k_ta1⟩ := hI.1.2 6 (by decide)
  obtain rfl := kd_6.mp k_ta1
  obtain ⟨e_ta2, w_ta2, k_ta2⟩ := hI.1.2 7 (by decide)
  obtain rfl := kd_7.mp k_ta2
  obtain ⟨e_taz, w_taz, k_taz⟩ := hI.1.2 8 (by decide)
  obtain rfl := kd_8.mp k_taz
  obtain ⟨e_taz1, w_taz1, k_taz1⟩ := hI.1.2 9 (by decide)
  obtain rfl := kd_9.mp k_taz1
  obtain ⟨e_taz2, w_taz2, k_taz2⟩ := hI.1.2 10 (by decide)
  obtain rfl := kd_10.mp k_taz2
  obtain ⟨e_taz3, w_taz3, k_taz3⟩ := hI.1.2 11 (by decide)
  obtain rfl := kd_11.mp k_taz3
  obtain ⟨e_taz4, w_taz4, k_taz4⟩ := hI.1.2 12 (by decide)
  obtain rfl := kd_12.mp k_taz4
  obtain ⟨e_taz5, w_taz5, k_taz5⟩ := hI.1.2 13 (by decide)
  obtain rfl := kd_13.mp k_taz5
  obtain ⟨e_taz6, w_taz6, k_taz6⟩ := hI.1.2 14 (by decide)
  obtain rfl := kd_14.mp k_taz6
  obtain ⟨e_ta4, w_ta4, k_ta4⟩ := hI.1.2 15 (by decide)
  obtain ⟨c_ta4_0, rfl⟩ := kd_15.mp k_ta4
  obtain ⟨e_ta5, w_ta5, k_ta5⟩ := hI.1.2 16 (by decide)
  obtain rfl := kd_16.mp k_ta5
  obtain ⟨e_ta6, w_ta6, k_ta6⟩ := hI.1.2 17 (by decide)
  obtain rfl := kd_17.mp k_ta6
  refine ((C_Ip_frozenInN g (ad 0) (ad 1) (ad 5) (ad 18) (ad 31) (ad 32) (ad 36) (ad 42) (ad 45) (ad 47) (ad 49) (ad 50) (ad 51) (ad 6) (ad 7) (ad 8) (ad 9) (ad 10) (ad 11) (ad 12) (ad 13) (ad 14) (ad 15) (ad 16) (ad 17) ((((t.1 6).1), ((t.1 7).1), (t.1 5).1 0, (t.1 5).1 1), (((((t.1 9).1), ((t.1 11).1), ((t.1 12).1), (t.1 8).1 0), ((t.1 10).1)), ((t.1 13).1), ((t.1 14).1)), (((t.1 15).1), ((t.1 16).1), ((t.1 17).2.2))) x y h c hz hh).at (hI.1.I [0, 5, 6, 7, 8, 9, 10, 11, 12, 13, 14, 15, 16, 17] _ rfl (by decide) (by decide) (List.forall_mem_cons.mpr ⟨w_a, (List.forall_mem_cons.mpr ⟨w_ta, (List.forall_mem_cons.mpr ⟨w_ta1, (List.forall_mem_cons.mpr ⟨w_ta2, (List.forall_mem_cons.mpr ⟨w_taz, (List.forall_mem_cons.mpr ⟨w_taz1, (List.forall_mem_cons.mpr ⟨w_taz2, (List.forall_mem_cons.mpr ⟨w_taz3, (List.forall_mem_cons.mpr ⟨w_taz4, (List.forall_mem_cons.mpr ⟨w_taz5, (List.forall_mem_cons.mpr ⟨w_taz6, (List.forall_mem_cons.mpr ⟨w_ta4, (List.forall_mem_cons.mpr ⟨w_ta5, (List.forall_mem_cons.mpr ⟨w_ta6, (fun _ h => nomatch h)⟩)⟩)⟩)⟩)⟩)⟩)⟩)⟩)⟩)⟩)⟩)⟩)⟩)⟩))).mono (Nat.le_of_ble_eq_true rfl) (Nat.le_of_ble_eq_true rfl) (fun o w1 hp => ?_)
  obtain ⟨cs1, hp, hi9⟩ := hp
  obtain ⟨e1, e2⟩ := hp
  subst e1; subst e2
  exact ⟨rfl, hI.fix (t2 := (zup t.1 [(5, ((upd (upd ((t.1 5).1) 0 ((frT h ((((t.1 6).1), ((t.1 7).1), (t.1 5).1 0, (t.1 5).1 1), (((((t.1 9).1), ((t.1 11).1), ((t.1 12).1), (t.1 8).1 0), ((t.1 10).1)), ((t.1 13).1), ((t.1 14).1)), (((t.1 15).1), ((t.1 16).1), ((t.1 17).2.2)))).1.2.2.1)) 1 ((frT h ((((t.1 6).1), ((t.1 7).1), (t.1 5).1 0, (t.1 5).1 1), (((((t.1 9).1), ((t.1 11).1), ((t.1 12).1), (t.1 8).1 0), ((t.1 10).1)), ((t.1 13).1), ((t.1 14).1)), (((t.1 15).1), ((t.1 16).1), ((t.1 17).2.2)))).1.2.2.2)), (t.1 5).2.1, (t.1 5).2.2)), (6, ((frT h ((((t.1 6).1), ((t.1 7).1), (t.1 5).1 0, (t.1 5).1 1), (((((t.1 9).1), ((t.1 11).1), ((t.1 12).1), (t.1 8).1 0), ((t.1 10).1)), ((t.1 13).1), ((t.1 14).1)), (((t.1 15).1), ((t.1 16).1), ((t.1 17).2.2)))).1.1, (t.1 6).2)), (7, ((frT h ((((t.1 6).1), ((t.1 7).1), (t.1 5).1 0, (t.1 5).1 1), (((((t.1 9).1), ((t.1 11).1), ((t.1 12).1), (t.1 8).1 0), ((t.1 10).1)), ((t.1 13).1), ((t.1 14).1)), (((t.1 15).1), ((t.1 16).1), ((t.1 17).2.2)))).1.2.1, (t.1 7).2)), (8, ((upd ((t.1 8).1) 0 ((frT h ((((t.1 6).1), ((t.1 7).1), (t.1 5).1 0, (t.1 5).1 1), (((((t.1 9).1), ((t.1 11).1), ((t.1 12).1), (t.1 8).1 0), ((t.1 10).1)), ((t.1 13).1), ((t.1 14).1)), (((t.1 15).1), ((t.1 16).1), ((t.1 17).2.2)))).2.1.1.1.2.2.2)), (t.1 8).2.1, (t.1 8).2.2)), (9, ((frT h ((((t.1 6).1), ((t.1 7).1), (t.1 5).1 0, (t.1 5).1 1), (((((t.1 9).1), ((t.1 11).1), ((t.1 12).1), (t.1 8).1 0), ((t.1 10).1)), ((t.1 13).1), ((t.1 14).1)), (((t.1 15).1), ((t.1 16).1), ((t.1 17).2.2)))).2.1.1.1.1, (t.1 9).2)), (10, ((frT h ((((t.1 6).1), ((t.1 7).1), (t.1 5).1 0, (t.1 5).1 1), (((((t.1 9).1), ((t.1 11).1), ((t.1 12).1), (t.1 8).1 0), ((t.1 10).1)), ((t.1 13).1), ((t.1 14).1)), (((t.1 15).1), ((t.1 16).1), ((t.1 17).2.2)))).2.1.1.2, (t.1 10).2)), (11, ((frT h ((((t.1 6).1), ((t.1 7).1), (t.1 5).1 0, (t.1 5).1 1), (((((t.1 9).1), ((t.1 11).1), ((t.1 12).1), (t.1 8).1 0), ((t.1 10).1)), ((t.1 13).1), ((t.1 14).1)), (((t.1 15).1), ((t.1 16).1), ((t.1 17).2.2)))).2.1.1.1.2.1, (t.1 11).2)), (12, ((frT h ((((t.1 6).1), ((t.1 7).1), (t.1 5).1 0, (t.1 5).1 1), (((((t.1 9).1), ((t.1 11).1), ((t.1 12).1), (t.1 8).1 0), ((t.1 10).1)), ((t.1 13).1), ((t.1 14).1)), (((t.1 15).1), ((t.1 16).1), ((t.1 17).2.2)))).2.1.1.1.2.2.1, (t.1 12).2)), (13, ((frT h ((((t.1 6).1), ((t.1 7).1), (t.1 5).1 0, (t.1 5).1 1), (((((t.1 9).1), ((t.1 11).1), ((t.1 12).1), (t.1 8).1 0), ((t.1 10).1)), ((t.1 13).1), ((t.1 14).1)), (((t.1 15).1), ((t.1 16).1), ((t.1 17).2.2)))).2.1.2.1, (t.1 13).2)), (14, ((frT h ((((t.1 6).1), ((t.1 7).1), (t.1 5).1 0, (t.1 5).1 1), (((((t.1 9).1), ((t.1 11).1), ((t.1 12).1), (t.1 8).1 0), ((t.1 10).1)), ((t.1 13).1), ((t.1 14).1)), (((t.1 15).1), ((t.1 16).1), ((t.1 17).2.2)))).2.1.2.2, (t.1 14).2)), (15, ((frT h ((((t.1 6).1), ((t.1 7).1), (t.1 5).1 0, (t.1 5).1 1), (((((t.1 9).1), ((t.1 11).1), ((t.1 12).1), (t.1 8).1 0), ((t.1 10).1)), ((t.1 13).1), ((t.1 14).1)), (((t.1 15).1), ((t.1 16).1), ((t.1 17).2.2)))).2.2.1, (t.1 15).2)), (16, ((frT h ((((t.1 6).1), ((t.1 7).1), (t.1 5).1 0, (t.1 5).1 1), (((((t.1 9).1), ((t.1 11).1), ((t.1 12).1), (t.1 8).1 0), ((t.1 10).1)), ((t.1 13).1), ((t.1 14).1)), (((t.1 15).1), ((t.1 16).1), ((t.1 17).2.2)))).2.2.2.1, (t.1 16).2)), (17, ((t.1 17).1, (t.1 17).2.1, (frT h ((((t.1 6).1), ((t.1 7).1), (t.1 5).1 0, (t.1 5).1 1), (((((t.1 9).1), ((t.1 11).1), ((t.1 12).1), (t.1 8).1 0), ((t.1 10).1)), ((t.1 13).1), ((t.1 14).1)), (((t.1 15).1), ((t.1 16).1), ((t.1 17).2.2)))).2.2.2.2))], t.2)) (is := [0, 5, 6, 7, 8, 9, 10, 11, 12, 13, 14, 15, 16, 17]) hi9 rfl ⟨kd_0.mpr rfl, kd_5.mpr rfl, kd_6.mpr rfl, kd_7.mpr rfl, kd_8.mpr rfl, kd_9.mpr rfl, kd_10.mpr rfl, kd_11.mpr rfl, kd_12.mpr rfl, kd_13.mpr rfl, kd_14.mpr rfl, kd_15.mpr ⟨(frT_01 (X := ((((t.1 6).1), ((t.1 7).1), (t.1 5).1 0, (t.1 5).1 1), (((((t.1 9).1), ((t.1 11).1), ((t.1 12).1), (t.1 8).1 0), ((t.1 10).1)), ((t.1 13).1), ((t.1 14).1)), (((t.1 15).1), ((t.1 16).1), ((t.1 17).2.2)))) c_ta4_0), rfl⟩, kd_16.mpr rfl, kd_17.mpr rfl, trivial⟩ (by decide) (by decide) (fun i hi hn => zup_out (fun q => hn ((by decide : ∀ j ∈ ([5, 6, 7, 8, 9, 10, 11, 12, 13, 14, 15, 16, 17] : List Nat), j ∈ ([0, 5, 6, 7, 8, 9, 10, 11, 12, 13, 14, 15, 16, 17] : List Nat)) i q))) (fun h => h) rfl⟩
set_option maxHeartbeats 4000000 in
theorem Qx_Ip_frozenInF {g : zG} {ad : Nat → Nat} {t : zTT} {u : zNN} {w : zW} (hI : IV g ad t u w) (x : Int32) (y : Int32) (h : Int32) (c : Nat) (hz : z_cl x y = some c) (hh : ¬ (1200 ≤ h ∧ h ≤ 1500)) : zMB g M_Ip_frozenIn [.ref (ad 0), .int x, .int y, .int h] w (fun o w1 => o = .inr "java/lang/IllegalArgumentException" ∧ IV g ad (zup t.1 [(5, ((upd (upd ((t.1 5).1) 0 (((((t.1 6).1), ((t.1 7).1), (t.1 5).1 0, (t.1 5).1 1), (((((t.1 9).1), ((t.1 11).1), ((t.1 12).1), (t.1 8).1 0), ((t.1 10).1)), ((t.1 13).1), ((t.1 14).1)), (((t.1 15).1), ((t.1 16).1), ((t.1 17).2.2))).1.2.2.1)) 1 (((((t.1 6).1), ((t.1 7).1), (t.1 5).1 0, (t.1 5).1 1), (((((t.1 9).1), ((t.1 11).1), ((t.1 12).1), (t.1 8).1 0), ((t.1 10).1)), ((t.1 13).1), ((t.1 14).1)), (((t.1 15).1), ((t.1 16).1), ((t.1 17).2.2))).1.2.2.2)), (t.1 5).2.1, (t.1 5).2.2)), (6, (((((t.1 6).1), ((t.1 7).1), (t.1 5).1 0, (t.1 5).1 1), (((((t.1 9).1), ((t.1 11).1), ((t.1 12).1), (t.1 8).1 0), ((t.1 10).1)), ((t.1 13).1), ((t.1 14).1)), (((t.1 15).1), ((t.1 16).1), ((t.1 17).2.2))).1.1, (t.1 6).2)), (7, (((((t.1 6).1), ((t.1 7).1), (t.1 5).1 0, (t.1 5).1 1), (((((t.1 9).1), ((t.1 11).1), ((t.1 12).1), (t.1 8).1 0), ((t.1 10).1)), ((t.1 13).1), ((t.1 14).1)), (((t.1 15).1), ((t.1 16).1), ((t.1 17).2.2))).1.2.1, (t.1 7).2)), (8, ((upd ((t.1 8).1) 0 (((((t.1 6).1), ((t.1 7).1), (t.1 5).1 0, (t.1 5).1 1), (((((t.1 9).1), ((t.1 11).1), ((t.1 12).1), (t.1 8).1 0), ((t.1 10).1)), ((t.1 13).1), ((t.1 14).1)), (((t.1 15).1), ((t.1 16).1), ((t.1 17).2.2))).2.1.1.1.2.2.2)), (t.1 8).2.1, (t.1 8).2.2)), (9, (((((t.1 6).1), ((t.1 7).1), (t.1 5).1 0, (t.1 5).1 1), (((((t.1 9).1), ((t.1 11).1), ((t.1 12).1), (t.1 8).1 0), ((t.1 10).1)), ((t.1 13).1), ((t.1 14).1)), (((t.1 15).1), ((t.1 16).1), ((t.1 17).2.2))).2.1.1.1.1, (t.1 9).2)), (10, (((((t.1 6).1), ((t.1 7).1), (t.1 5).1 0, (t.1 5).1 1), (((((t.1 9).1), ((t.1 11).1), ((t.1 12).1), (t.1 8).1 0), ((t.1 10).1)), ((t.1 13).1), ((t.1 14).1)), (((t.1 15).1), ((t.1 16).1), ((t.1 17).2.2))).2.1.1.2, (t.1 10).2)), (11, (((((t.1 6).1), ((t.1 7).1), (t.1 5).1 0, (t.1 5).1 1), (((((t.1 9).1), ((t.1 11).1), ((t.1 12).1), (t.1 8).1 0), ((t.1 10).1)), ((t.1 13).1), ((t.1 14).1)), (((t.1 15).1), ((t.1 16).1), ((t.1 17).2.2))).2.1.1.1.2.1, (t.1 11).2)), (12, (((((t.1 6).1), ((t.1 7).1), (t.1 5).1 0, (t.1 5).1 1), (((((t.1 9).1), ((t.1 11).1), ((t.1 12).1), (t.1 8).1 0), ((t.1 10).1)), ((t.1 13).1), ((t.1 14).1)), (((t.1 15).1), ((t.1 16).1), ((t.1 17).2.2))).2.1.1.1.2.2.1, (t.1 12).2)), (13, (((((t.1 6).1), ((t.1 7).1), (t.1 5).1 0, (t.1 5).1 1), (((((t.1 9).1), ((t.1 11).1), ((t.1 12).1), (t.1 8).1 0), ((t.1 10).1)), ((t.1 13).1), ((t.1 14).1)), (((t.1 15).1), ((t.1 16).1), ((t.1 17).2.2))).2.1.2.1, (t.1 13).2)), (14, (((((t.1 6).1), ((t.1 7).1), (t.1 5).1 0, (t.1 5).1 1), (((((t.1 9).1), ((t.1 11).1), ((t.1 12).1), (t.1 8).1 0), ((t.1 10).1)), ((t.1 13).1), ((t.1 14).1)), (((t.1 15).1), ((t.1 16).1), ((t.1 17).2.2))).2.1.2.2, (t.1 14).2)), (15, (((((t.1 6).1), ((t.1 7).1), (t.1 5).1 0, (t.1 5).1 1), (((((t.1 9).1), ((t.1 11).1), ((t.1 12).1), (t.1 8).1 0), ((t.1 10).1)), ((t.1 13).1), ((t.1 14).1)), (((t.1 15).1), ((t.1 16).1), ((t.1 17).2.2))).2.2.1, (t.1 15).2)), (16, (((((t.1 6).1), ((t.1 7).1), (t.1 5).1 0, (t.1 5).1 1), (((((t.1 9).1), ((t.1 11).1), ((t.1 12).1), (t.1 8).1 0), ((t.1 10).1)), ((t.1 13).1), ((t.1 14).1)), (((t.1 15).1), ((t.1 16).1), ((t.1 17).2.2))).2.2.2.1, (t.1 16).2)), (17, ((t.1 17).1, (t.1 17).2.1, ((((t.1 6).1), ((t.1 7).1), (t.1 5).1 0, (t.1 5).1 1), (((((t.1 9).1), ((t.1 11).1), ((t.1 12).1), (t.1 8).1 0), ((t.1 10).1)), ((t.1 13).1), ((t.1 14).1)), (((t.1 15).1), ((t.1 16).1), ((t.1 17).2.2))).2.2.2.2))], t.2) u w1) 2 12 := by
  obtain ⟨e_a, w_a, k_a⟩ := hI.1.2 0 (by decide)
  obtain rfl := kd_0.mp k_a
  obtain ⟨e_ta, w_ta, k_ta⟩ := hI.1.2 5 (by decide)
  obtain rfl := kd_5.mp k_ta
  obtain ⟨e_ta1, w_ta1, k_ta1⟩ := hI.1.2 6 (by decide)
  obtain rfl := kd_6.mp k_ta1
  obtain ⟨e_ta2, w_ta2, k_ta2⟩ := hI.1.2 7 (by decide)
  obtain rfl := kd_7.mp k_ta2
  obtain ⟨e_taz, w_taz, k_taz⟩ := hI.1.2 8 (by decide)
  obtain rfl := kd_8.mp k_taz
  obtain ⟨e_taz1, w_taz1, k_taz1⟩ := hI.1.2 9 (by decide)
  obtain rfl := kd_9.mp k_taz1
  obtain ⟨e_taz2, w_taz2, k_taz2⟩ := hI.1.2 10 (by decide)
  obtain rfl := kd_10.mp k_taz2
  obtain ⟨e_taz3, w_taz3, k_taz3⟩ := hI.1.2 11 (by decide)
  obtain rfl := kd_11.mp k_taz3
  obtain ⟨e_taz4, w_taz4, k_taz4⟩ := hI.1.2 12 (by decide)
  obtain rfl := kd_12.mp k_taz4
  obtain ⟨e_taz5, w_taz5, k_taz5⟩ := hI.1.2 13 (by decide)
  obtain rfl := kd_13.mp k_taz5
  obtain ⟨e_taz6, w_taz6, k_taz6⟩ := hI.1.2 14 (by decide)
  obtain rfl := kd_14.mp k_taz6
  obtain ⟨e_ta4, w_ta4, k_ta4⟩ := hI.1.2 15 (by decide)
  obtain ⟨c_ta4_0, rfl⟩ := kd_15.mp k_ta4
  obtain ⟨e_ta5, w_ta5, k_ta5⟩ := hI.1.2 16 (by decide)
  obtain rfl := kd_16.mp k_ta5
  obtain ⟨e_ta6, w_ta6, k_ta6⟩ := hI.1.2 17 (by decide)
  obtain rfl := kd_17.mp k_ta6
  refine ((C_Ip_frozenInF g (ad 0) (ad 1) (ad 5) (ad 18) (ad 31) (ad 32) (ad 36) (ad 42) (ad 45) (ad 47) (ad 49) (ad 50) (ad 51) (ad 6) (ad 7) (ad 8) (ad 9) (ad 10) (ad 11) (ad 12) (ad 13) (ad 14) (ad 15) (ad 16) (ad 17) ((((t.1 6).1), ((t.1 7).1), (t.1 5).1 0, (t.1 5).1 1), (((((t.1 9).1), ((t.1 11).1), ((t.1 12).1), (t.1 8).1 0), ((t.1 10).1)), ((t.1 13).1), ((t.1 14).1)), (((t.1 15).1), ((t.1 16).1), ((t.1 17).2.2))) x y h c hz hh).at (hI.1.I [0, 5, 6, 7, 8, 9, 10, 11, 12, 13, 14, 15, 16, 17] _ rfl (by decide) (by decide) (List.forall_mem_cons.mpr ⟨w_a, (List.forall_mem_cons.mpr ⟨w_ta, (List.forall_mem_cons.mpr ⟨w_ta1, (List.forall_mem_cons.mpr ⟨w_ta2, (List.forall_mem_cons.mpr ⟨w_taz, (List.forall_mem_cons.mpr ⟨w_taz1, (List.forall_mem_cons.mpr ⟨w_taz2, (List.forall_mem_cons.mpr ⟨w_taz3, (List.forall_mem_cons.mpr ⟨w_taz4, (List.forall_mem_cons.mpr ⟨w_taz5, (List.forall_mem_cons.mpr ⟨w_taz6, (List.forall_mem_cons.mpr ⟨w_ta4, (List.forall_mem_cons.mpr ⟨w_ta5, (List.forall_mem_cons.mpr ⟨w_ta6, (fun _ h => nomatch h)⟩)⟩)⟩)⟩)⟩)⟩)⟩)⟩)⟩)⟩)⟩)⟩)⟩)⟩))).mono (Nat.le_of_ble_eq_true rfl) (Nat.le_of_ble_eq_true rfl) (fun o w1 hp => ?_)
  obtain ⟨cs1, hp, hi9⟩ := hp
  obtain ⟨e1, e2⟩ := hp
  subst e1; subst e2
  exact ⟨rfl, hI.fix (t2 := (zup t.1 [(5, ((upd (upd ((t.1 5).1) 0 (((((t.1 6).1), ((t.1 7).1), (t.1 5).1 0, (t.1 5).1 1), (((((t.1 9).1), ((t.1 11).1), ((t.1 12).1), (t.1 8).1 0), ((t.1 10).1)), ((t.1 13).1), ((t.1 14).1)), (((t.1 15).1), ((t.1 16).1), ((t.1 17).2.2))).1.2.2.1)) 1 (((((t.1 6).1), ((t.1 7).1), (t.1 5).1 0, (t.1 5).1 1), (((((t.1 9).1), ((t.1 11).1), ((t.1 12).1), (t.1 8).1 0), ((t.1 10).1)), ((t.1 13).1), ((t.1 14).1)), (((t.1 15).1), ((t.1 16).1), ((t.1 17).2.2))).1.2.2.2)), (t.1 5).2.1, (t.1 5).2.2)), (6, (((((t.1 6).1), ((t.1 7).1), (t.1 5).1 0, (t.1 5).1 1), (((((t.1 9).1), ((t.1 11).1), ((t.1 12).1), (t.1 8).1 0), ((t.1 10).1)), ((t.1 13).1), ((t.1 14).1)), (((t.1 15).1), ((t.1 16).1), ((t.1 17).2.2))).1.1, (t.1 6).2)), (7, (((((t.1 6).1), ((t.1 7).1), (t.1 5).1 0, (t.1 5).1 1), (((((t.1 9).1), ((t.1 11).1), ((t.1 12).1), (t.1 8).1 0), ((t.1 10).1)), ((t.1 13).1), ((t.1 14).1)), (((t.1 15).1), ((t.1 16).1), ((t.1 17).2.2))).1.2.1, (t.1 7).2)), (8, ((upd ((t.1 8).1) 0 (((((t.1 6).1), ((t.1 7).1), (t.1 5).1 0, (t.1 5).1 1), (((((t.1 9).1), ((t.1 11).1), ((t.1 12).1), (t.1 8).1 0), ((t.1 10).1)), ((t.1 13).1), ((t.1 14).1)), (((t.1 15).1), ((t.1 16).1), ((t.1 17).2.2))).2.1.1.1.2.2.2)), (t.1 8).2.1, (t.1 8).2.2)), (9, (((((t.1 6).1), ((t.1 7).1), (t.1 5).1 0, (t.1 5).1 1), (((((t.1 9).1), ((t.1 11).1), ((t.1 12).1), (t.1 8).1 0), ((t.1 10).1)), ((t.1 13).1), ((t.1 14).1)), (((t.1 15).1), ((t.1 16).1), ((t.1 17).2.2))).2.1.1.1.1, (t.1 9).2)), (10, (((((t.1 6).1), ((t.1 7).1), (t.1 5).1 0, (t.1 5).1 1), (((((t.1 9).1), ((t.1 11).1), ((t.1 12).1), (t.1 8).1 0), ((t.1 10).1)), ((t.1 13).1), ((t.1 14).1)), (((t.1 15).1), ((t.1 16).1), ((t.1 17).2.2))).2.1.1.2, (t.1 10).2)), (11, (((((t.1 6).1), ((t.1 7).1), (t.1 5).1 0, (t.1 5).1 1), (((((t.1 9).1), ((t.1 11).1), ((t.1 12).1), (t.1 8).1 0), ((t.1 10).1)), ((t.1 13).1), ((t.1 14).1)), (((t.1 15).1), ((t.1 16).1), ((t.1 17).2.2))).2.1.1.1.2.1, (t.1 11).2)), (12, (((((t.1 6).1), ((t.1 7).1), (t.1 5).1 0, (t.1 5).1 1), (((((t.1 9).1), ((t.1 11).1), ((t.1 12).1), (t.1 8).1 0), ((t.1 10).1)), ((t.1 13).1), ((t.1 14).1)), (((t.1 15).1), ((t.1 16).1), ((t.1 17).2.2))).2.1.1.1.2.2.1, (t.1 12).2)), (13, (((((t.1 6).1), ((t.1 7).1), (t.1 5).1 0, (t.1 5).1 1), (((((t.1 9).1), ((t.1 11).1), ((t.1 12).1), (t.1 8).1 0), ((t.1 10).1)), ((t.1 13).1), ((t.1 14).1)), (((t.1 15).1), ((t.1 16).1), ((t.1 17).2.2))).2.1.2.1, (t.1 13).2)), (14, (((((t.1 6).1), ((t.1 7).1), (t.1 5).1 0, (t.1 5).1 1), (((((t.1 9).1), ((t.1 11).1), ((t.1 12).1), (t.1 8).1 0), ((t.1 10).1)), ((t.1 13).1), ((t.1 14).1)), (((t.1 15).1), ((t.1 16).1), ((t.1 17).2.2))).2.1.2.2, (t.1 14).2)), (15, (((((t.1 6).1), ((t.1 7).1), (t.1 5).1 0, (t.1 5).1 1), (((((t.1 9).1), ((t.1 11).1), ((t.1 12).1), (t.1 8).1 0), ((t.1 10).1)), ((t.1 13).1), ((t.1 14).1)), (((t.1 15).1), ((t.1 16).1), ((t.1 17).2.2))).2.2.1, (t.1 15).2)), (16, (((((t.1 6).1), ((t.1 7).1), (t.1 5).1 0, (t.1 5).1 1), (((((t.1 9).1), ((t.1 11).1), ((t.1 12).1), (t.1 8).1 0), ((t.1 10).1)), ((t.1 13).1), ((t.1 14).1)), (((t.1 15).1), ((t.1 16).1), ((t.1 17).2.2))).2.2.2.1, (t.1 16).2)), (17, ((t.1 17).1, (t.1 17).2.1, ((((t.1 6).1), ((t.1 7).1), (t.1 5).1 0, (t.1 5).1 1), (((((t.1 9).1), ((t.1 11).1), ((t.1 12).1), (t.1 8).1 0), ((t.1 10).1)), ((t.1 13).1), ((t.1 14).1)), (((t.1 15).1), ((t.1 16).1), ((t.1 17).2.2))).2.2.2.2))], t.2)) (is := [0, 5, 6, 7, 8, 9, 10, 11, 12, 13, 14, 15, 16, 17]) hi9 rfl ⟨kd_0.mpr rfl, kd_5.mpr rfl, kd_6.mpr rfl, kd_7.mpr rfl, kd_8.mpr rfl, kd_9.mpr rfl, kd_10.mpr rfl, kd_11.mpr rfl, kd_12.mpr rfl, kd_13.mpr rfl, kd_14.mpr rfl, kd_15.mpr ⟨c_ta4_0, rfl⟩, kd_16.mpr rfl, kd_17.mpr rfl, trivial⟩ (by decide) (by decide) (fun i hi hn => zup_out (fun q => hn ((by decide : ∀ j ∈ ([5, 6, 7, 8, 9, 10, 11, 12, 13, 14, 15, 16, 17] : List Nat), j ∈ ([0, 5, 6, 7, 8, 9, 10, 11, 12, 13, 14, 15, 16, 17] : List Nat)) i q))) (fun h => h) rfl⟩
set_option maxHeartbeats 4000000 in
theorem Qx_Ip_frozenInE {g : zG} {ad : Nat → Nat} {t : zTT} {u : zNN} {w : zW} (hI : IV g ad t u w) (x : Int32) (y : Int32) (h : Int32) (hz : z_cl x y = none) : zMB g M_Ip_frozenIn [.ref (ad 0), .int x, .int y, .int h] w (fun o w1 => o = .inr "java/lang/IndexOutOfBoundsException" ∧ IV g ad (zup t.1 [(5, ((upd (upd ((t.1 5).1) 0 (((((t.1 6).1), ((t.1 7).1), (t.1 5).1 0, (t.1 5).1 1), (((((t.1 9).1), ((t.1 11).1), ((t.1 12).1), (t.1 8).1 0), ((t.1 10).1)), ((t.1 13).1), ((t.1 14).1)), (((t.1 15).1), ((t.1 16).1), ((t.1 17).2.2))).1.2.2.1)) 1 (((((t.1 6).1), ((t.1 7).1), (t.1 5).1 0, (t.1 5).1 1), (((((t.1 9).1), ((t.1 11).1), ((t.1 12).1), (t.1 8).1 0), ((t.1 10).1)), ((t.1 13).1), ((t.1 14).1)), (((t.1 15).1), ((t.1 16).1), ((t.1 17).2.2))).1.2.2.2)), (t.1 5).2.1, (t.1 5).2.2)), (6, (((((t.1 6).1), ((t.1 7).1), (t.1 5).1 0, (t.1 5).1 1), (((((t.1 9).1), ((t.1 11).1), ((t.1 12).1), (t.1 8).1 0), ((t.1 10).1)), ((t.1 13).1), ((t.1 14).1)), (((t.1 15).1), ((t.1 16).1), ((t.1 17).2.2))).1.1, (t.1 6).2)), (7, (((((t.1 6).1), ((t.1 7).1), (t.1 5).1 0, (t.1 5).1 1), (((((t.1 9).1), ((t.1 11).1), ((t.1 12).1), (t.1 8).1 0), ((t.1 10).1)), ((t.1 13).1), ((t.1 14).1)), (((t.1 15).1), ((t.1 16).1), ((t.1 17).2.2))).1.2.1, (t.1 7).2)), (8, ((upd ((t.1 8).1) 0 (((((t.1 6).1), ((t.1 7).1), (t.1 5).1 0, (t.1 5).1 1), (((((t.1 9).1), ((t.1 11).1), ((t.1 12).1), (t.1 8).1 0), ((t.1 10).1)), ((t.1 13).1), ((t.1 14).1)), (((t.1 15).1), ((t.1 16).1), ((t.1 17).2.2))).2.1.1.1.2.2.2)), (t.1 8).2.1, (t.1 8).2.2)), (9, (((((t.1 6).1), ((t.1 7).1), (t.1 5).1 0, (t.1 5).1 1), (((((t.1 9).1), ((t.1 11).1), ((t.1 12).1), (t.1 8).1 0), ((t.1 10).1)), ((t.1 13).1), ((t.1 14).1)), (((t.1 15).1), ((t.1 16).1), ((t.1 17).2.2))).2.1.1.1.1, (t.1 9).2)), (10, (((((t.1 6).1), ((t.1 7).1), (t.1 5).1 0, (t.1 5).1 1), (((((t.1 9).1), ((t.1 11).1), ((t.1 12).1), (t.1 8).1 0), ((t.1 10).1)), ((t.1 13).1), ((t.1 14).1)), (((t.1 15).1), ((t.1 16).1), ((t.1 17).2.2))).2.1.1.2, (t.1 10).2)), (11, (((((t.1 6).1), ((t.1 7).1), (t.1 5).1 0, (t.1 5).1 1), (((((t.1 9).1), ((t.1 11).1), ((t.1 12).1), (t.1 8).1 0), ((t.1 10).1)), ((t.1 13).1), ((t.1 14).1)), (((t.1 15).1), ((t.1 16).1), ((t.1 17).2.2))).2.1.1.1.2.1, (t.1 11).2)), (12, (((((t.1 6).1), ((t.1 7).1), (t.1 5).1 0, (t.1 5).1 1), (((((t.1 9).1), ((t.1 11).1), ((t.1 12).1), (t.1 8).1 0), ((t.1 10).1)), ((t.1 13).1), ((t.1 14).1)), (((t.1 15).1), ((t.1 16).1), ((t.1 17).2.2))).2.1.1.1.2.2.1, (t.1 12).2)), (13, (((((t.1 6).1), ((t.1 7).1), (t.1 5).1 0, (t.1 5).1 1), (((((t.1 9).1), ((t.1 11).1), ((t.1 12).1), (t.1 8).1 0), ((t.1 10).1)), ((t.1 13).1), ((t.1 14).1)), (((t.1 15).1), ((t.1 16).1), ((t.1 17).2.2))).2.1.2.1, (t.1 13).2)), (14, (((((t.1 6).1), ((t.1 7).1), (t.1 5).1 0, (t.1 5).1 1), (((((t.1 9).1), ((t.1 11).1), ((t.1 12).1), (t.1 8).1 0), ((t.1 10).1)), ((t.1 13).1), ((t.1 14).1)), (((t.1 15).1), ((t.1 16).1), ((t.1 17).2.2))).2.1.2.2, (t.1 14).2)), (15, (((((t.1 6).1), ((t.1 7).1), (t.1 5).1 0, (t.1 5).1 1), (((((t.1 9).1), ((t.1 11).1), ((t.1 12).1), (t.1 8).1 0), ((t.1 10).1)), ((t.1 13).1), ((t.1 14).1)), (((t.1 15).1), ((t.1 16).1), ((t.1 17).2.2))).2.2.1, (t.1 15).2)), (16, (((((t.1 6).1), ((t.1 7).1), (t.1 5).1 0, (t.1 5).1 1), (((((t.1 9).1), ((t.1 11).1), ((t.1 12).1), (t.1 8).1 0), ((t.1 10).1)), ((t.1 13).1), ((t.1 14).1)), (((t.1 15).1), ((t.1 16).1), ((t.1 17).2.2))).2.2.2.1, (t.1 16).2)), (17, ((t.1 17).1, (t.1 17).2.1, ((((t.1 6).1), ((t.1 7).1), (t.1 5).1 0, (t.1 5).1 1), (((((t.1 9).1), ((t.1 11).1), ((t.1 12).1), (t.1 8).1 0), ((t.1 10).1)), ((t.1 13).1), ((t.1 14).1)), (((t.1 15).1), ((t.1 16).1), ((t.1 17).2.2))).2.2.2.2))], t.2) u w1) 2 12 := by
  obtain ⟨e_a, w_a, k_a⟩ := hI.1.2 0 (by decide)
  obtain rfl := kd_0.mp k_a
  obtain ⟨e_ta, w_ta, k_ta⟩ := hI.1.2 5 (by decide)
  obtain rfl := kd_5.mp k_ta
  obtain ⟨e_ta1, w_ta1, k_ta1⟩ := hI.1.2 6 (by decide)
  obtain rfl := kd_6.mp k_ta1
  obtain ⟨e_ta2, w_ta2, k_ta2⟩ := hI.1.2 7 (by decide)
  obtain rfl := kd_7.mp k_ta2
  obtain ⟨e_taz, w_taz, k_taz⟩ := hI.1.2 8 (by decide)
  obtain rfl := kd_8.mp k_taz
  obtain ⟨e_taz1, w_taz1, k_taz1⟩ := hI.1.2 9 (by decide)
  obtain rfl := kd_9.mp k_taz1
  obtain ⟨e_taz2, w_taz2, k_taz2⟩ := hI.1.2 10 (by decide)
  obtain rfl := kd_10.mp k_taz2
  obtain ⟨e_taz3, w_taz3, k_taz3⟩ := hI.1.2 11 (by decide)
  obtain rfl := kd_11.mp k_taz3
  obtain ⟨e_taz4, w_taz4, k_taz4⟩ := hI.1.2 12 (by decide)
  obtain rfl := kd_12.mp k_taz4
  obtain ⟨e_taz5, w_taz5, k_taz5⟩ := hI.1.2 13 (by decide)
  obtain rfl := kd_13.mp k_taz5
  obtain ⟨e_taz6, w_taz6, k_taz6⟩ := hI.1.2 14 (by decide)
  obtain rfl := kd_14.mp k_taz6
  obtain ⟨e_ta4, w_ta4, k_ta4⟩ := hI.1.2 15 (by decide)
  obtain ⟨c_ta4_0, rfl⟩ := kd_15.mp k_ta4
  obtain ⟨e_ta5, w_ta5, k_ta5⟩ := hI.1.2 16 (by decide)
  obtain rfl := kd_16.mp k_ta5
  obtain ⟨e_ta6, w_ta6, k_ta6⟩ := hI.1.2 17 (by decide)
  obtain rfl := kd_17.mp k_ta6
  refine ((C_Ip_frozenInE g (ad 0) (ad 1) (ad 5) (ad 18) (ad 31) (ad 32) (ad 36) (ad 42) (ad 45) (ad 47) (ad 49) (ad 50) (ad 51) (ad 6) (ad 7) (ad 8) (ad 9) (ad 10) (ad 11) (ad 12) (ad 13) (ad 14) (ad 15) (ad 16) (ad 17) ((((t.1 6).1), ((t.1 7).1), (t.1 5).1 0, (t.1 5).1 1), (((((t.1 9).1), ((t.1 11).1), ((t.1 12).1), (t.1 8).1 0), ((t.1 10).1)), ((t.1 13).1), ((t.1 14).1)), (((t.1 15).1), ((t.1 16).1), ((t.1 17).2.2))) x y h hz).at (hI.1.I [0, 5, 6, 7, 8, 9, 10, 11, 12, 13, 14, 15, 16, 17] _ rfl (by decide) (by decide) (List.forall_mem_cons.mpr ⟨w_a, (List.forall_mem_cons.mpr ⟨w_ta, (List.forall_mem_cons.mpr ⟨w_ta1, (List.forall_mem_cons.mpr ⟨w_ta2, (List.forall_mem_cons.mpr ⟨w_taz, (List.forall_mem_cons.mpr ⟨w_taz1, (List.forall_mem_cons.mpr ⟨w_taz2, (List.forall_mem_cons.mpr ⟨w_taz3, (List.forall_mem_cons.mpr ⟨w_taz4, (List.forall_mem_cons.mpr ⟨w_taz5, (List.forall_mem_cons.mpr ⟨w_taz6, (List.forall_mem_cons.mpr ⟨w_ta4, (List.forall_mem_cons.mpr ⟨w_ta5, (List.forall_mem_cons.mpr ⟨w_ta6, (fun _ h => nomatch h)⟩)⟩)⟩)⟩)⟩)⟩)⟩)⟩)⟩)⟩)⟩)⟩)⟩)⟩))).mono (Nat.le_of_ble_eq_true rfl) (Nat.le_of_ble_eq_true rfl) (fun o w1 hp => ?_)
  obtain ⟨cs1, hp, hi9⟩ := hp
  obtain ⟨e1, e2⟩ := hp
  subst e1; subst e2
  exact ⟨rfl, hI.fix (t2 := (zup t.1 [(5, ((upd (upd ((t.1 5).1) 0 (((((t.1 6).1), ((t.1 7).1), (t.1 5).1 0, (t.1 5).1 1), (((((t.1 9).1), ((t.1 11).1), ((t.1 12).1), (t.1 8).1 0), ((t.1 10).1)), ((t.1 13).1), ((t.1 14).1)), (((t.1 15).1), ((t.1 16).1), ((t.1 17).2.2))).1.2.2.1)) 1 (((((t.1 6).1), ((t.1 7).1), (t.1 5).1 0, (t.1 5).1 1), (((((t.1 9).1), ((t.1 11).1), ((t.1 12).1), (t.1 8).1 0), ((t.1 10).1)), ((t.1 13).1), ((t.1 14).1)), (((t.1 15).1), ((t.1 16).1), ((t.1 17).2.2))).1.2.2.2)), (t.1 5).2.1, (t.1 5).2.2)), (6, (((((t.1 6).1), ((t.1 7).1), (t.1 5).1 0, (t.1 5).1 1), (((((t.1 9).1), ((t.1 11).1), ((t.1 12).1), (t.1 8).1 0), ((t.1 10).1)), ((t.1 13).1), ((t.1 14).1)), (((t.1 15).1), ((t.1 16).1), ((t.1 17).2.2))).1.1, (t.1 6).2)), (7, (((((t.1 6).1), ((t.1 7).1), (t.1 5).1 0, (t.1 5).1 1), (((((t.1 9).1), ((t.1 11).1), ((t.1 12).1), (t.1 8).1 0), ((t.1 10).1)), ((t.1 13).1), ((t.1 14).1)), (((t.1 15).1), ((t.1 16).1), ((t.1 17).2.2))).1.2.1, (t.1 7).2)), (8, ((upd ((t.1 8).1) 0 (((((t.1 6).1), ((t.1 7).1), (t.1 5).1 0, (t.1 5).1 1), (((((t.1 9).1), ((t.1 11).1), ((t.1 12).1), (t.1 8).1 0), ((t.1 10).1)), ((t.1 13).1), ((t.1 14).1)), (((t.1 15).1), ((t.1 16).1), ((t.1 17).2.2))).2.1.1.1.2.2.2)), (t.1 8).2.1, (t.1 8).2.2)), (9, (((((t.1 6).1), ((t.1 7).1), (t.1 5).1 0, (t.1 5).1 1), (((((t.1 9).1), ((t.1 11).1), ((t.1 12).1), (t.1 8).1 0), ((t.1 10).1)), ((t.1 13).1), ((t.1 14).1)), (((t.1 15).1), ((t.1 16).1), ((t.1 17).2.2))).2.1.1.1.1, (t.1 9).2)), (10, (((((t.1 6).1), ((t.1 7).1), (t.1 5).1 0, (t.1 5).1 1), (((((t.1 9).1), ((t.1 11).1), ((t.1 12).1), (t.1 8).1 0), ((t.1 10).1)), ((t.1 13).1), ((t.1 14).1)), (((t.1 15).1), ((t.1 16).1), ((t.1 17).2.2))).2.1.1.2, (t.1 10).2)), (11, (((((t.1 6).1), ((t.1 7).1), (t.1 5).1 0, (t.1 5).1 1), (((((t.1 9).1), ((t.1 11).1), ((t.1 12).1), (t.1 8).1 0), ((t.1 10).1)), ((t.1 13).1), ((t.1 14).1)), (((t.1 15).1), ((t.1 16).1), ((t.1 17).2.2))).2.1.1.1.2.1, (t.1 11).2)), (12, (((((t.1 6).1), ((t.1 7).1), (t.1 5).1 0, (t.1 5).1 1), (((((t.1 9).1), ((t.1 11).1), ((t.1 12).1), (t.1 8).1 0), ((t.1 10).1)), ((t.1 13).1), ((t.1 14).1)), (((t.1 15).1), ((t.1 16).1), ((t.1 17).2.2))).2.1.1.1.2.2.1, (t.1 12).2)), (13, (((((t.1 6).1), ((t.1 7).1), (t.1 5).1 0, (t.1 5).1 1), (((((t.1 9).1), ((t.1 11).1), ((t.1 12).1), (t.1 8).1 0), ((t.1 10).1)), ((t.1 13).1), ((t.1 14).1)), (((t.1 15).1), ((t.1 16).1), ((t.1 17).2.2))).2.1.2.1, (t.1 13).2)), (14, (((((t.1 6).1), ((t.1 7).1), (t.1 5).1 0, (t.1 5).1 1), (((((t.1 9).1), ((t.1 11).1), ((t.1 12).1), (t.1 8).1 0), ((t.1 10).1)), ((t.1 13).1), ((t.1 14).1)), (((t.1 15).1), ((t.1 16).1), ((t.1 17).2.2))).2.1.2.2, (t.1 14).2)), (15, (((((t.1 6).1), ((t.1 7).1), (t.1 5).1 0, (t.1 5).1 1), (((((t.1 9).1), ((t.1 11).1), ((t.1 12).1), (t.1 8).1 0), ((t.1 10).1)), ((t.1 13).1), ((t.1 14).1)), (((t.1 15).1), ((t.1 16).1), ((t.1 17).2.2))).2.2.1, (t.1 15).2)), (16, (((((t.1 6).1), ((t.1 7).1), (t.1 5).1 0, (t.1 5).1 1), (((((t.1 9).1), ((t.1 11).1), ((t.1 12).1), (t.1 8).1 0), ((t.1 10).1)), ((t.1 13).1), ((t.1 14).1)), (((t.1 15).1), ((t.1 16).1), ((t.1 17).2.2))).2.2.2.1, (t.1 16).2)), (17, ((t.1 17).1, (t.1 17).2.1, ((((t.1 6).1), ((t.1 7).1), (t.1 5).1 0, (t.1 5).1 1), (((((t.1 9).1), ((t.1 11).1), ((t.1 12).1), (t.1 8).1 0), ((t.1 10).1)), ((t.1 13).1), ((t.1 14).1)), (((t.1 15).1), ((t.1 16).1), ((t.1 17).2.2))).2.2.2.2))], t.2)) (is := [0, 5, 6, 7, 8, 9, 10, 11, 12, 13, 14, 15, 16, 17]) hi9 rfl ⟨kd_0.mpr rfl, kd_5.mpr rfl, kd_6.mpr rfl, kd_7.mpr rfl, kd_8.mpr rfl, kd_9.mpr rfl, kd_10.mpr rfl, kd_11.mpr rfl, kd_12.mpr rfl, kd_13.mpr rfl, kd_14.mpr rfl, kd_15.mpr ⟨c_ta4_0, rfl⟩, kd_16.mpr rfl, kd_17.mpr rfl, trivial⟩ (by decide) (by decide) (fun i hi hn => zup_out (fun q => hn ((by decide : ∀ j ∈ ([5, 6, 7, 8, 9, 10, 11, 12, 13, 14, 15, 16, 17] : List Nat), j ∈ ([0, 5, 6, 7, 8, 9, 10, 11, 12, 13, 14, 15, 16, 17] : List Nat)) i q))) (fun h => h) rfl⟩
theorem K_Ip_frozenIn {g : zG} {ad : Nat → Nat} {t : zTT} {u : zNN} {w : zW} (hI : IVm g ad t u w) (x y h : Int32) : zMB g M_Ip_frozenIn [.ref (ad 0), .int x, .int y, .int h] w (CKx g ad t u.1 ["java/lang/IndexOutOfBoundsException", "java/lang/IllegalArgumentException"]) 10 300 := by
  obtain ⟨s, hI⟩ := hI
  by_cases hq : 0 ≤ x ∧ x < 12 ∧ 0 ≤ y ∧ y < 9
  · obtain ⟨x0, y0, hx0, hy0, rfl, rfl, hz⟩ := z_cl_in hq
    by_cases hh : 1200 ≤ h ∧ h ≤ 1500
    · exact (Qx_Ip_frozenInN hI (nI x0) (nI y0) h _ hz hh).mono (by decide) (by decide) (fun o w1 h => ⟨zri.vl h.1, u, rfl, IVm.tz h.2 (tx_all rfl)⟩)
    · exact (Qx_Ip_frozenInF hI (nI x0) (nI y0) h _ hz hh).mono (by decide) (by decide) (fun o w1 h => ⟨zri.th h.1 (by simp), u, rfl, IVm.tz h.2 (tx_all rfl)⟩)
  · exact (Qx_Ip_frozenInE hI x y h (if_neg hq)).mono (by decide) (by decide) (fun o w1 h => ⟨zri.th h.1 (by simp), u, rfl, IVm.tz h.2 (tx_all rfl)⟩)
set_option maxHeartbeats 4000000 in
theorem Qx_Ip_isFedN {g : zG} {ad : Nat → Nat} {t : zTT} {u : zNN} {w : zW} (hI : IV g ad t u w) (x : Int32) (y : Int32) (h : Int32) (c : Nat) (hz : z_cl x y = some c) (hh : 1200 ≤ h ∧ h ≤ 1500) (hb : (frT h ((((t.1 6).1), ((t.1 7).1), (t.1 5).1 0, (t.1 5).1 1), (((((t.1 9).1), ((t.1 11).1), ((t.1 12).1), (t.1 8).1 0), ((t.1 10).1)), ((t.1 13).1), ((t.1 14).1)), (((t.1 15).1), ((t.1 16).1), ((t.1 17).2.2)))).2.2.1 c = 0 ∨ (frT h ((((t.1 6).1), ((t.1 7).1), (t.1 5).1 0, (t.1 5).1 1), (((((t.1 9).1), ((t.1 11).1), ((t.1 12).1), (t.1 8).1 0), ((t.1 10).1)), ((t.1 13).1), ((t.1 14).1)), (((t.1 15).1), ((t.1 16).1), ((t.1 17).2.2)))).2.2.1 c = 1) : zMB g M_Ip_isFed [.ref (ad 0), .int x, .int y, .int h] w (fun o w1 => o = .inl (some (.int ((frT h ((((t.1 6).1), ((t.1 7).1), (t.1 5).1 0, (t.1 5).1 1), (((((t.1 9).1), ((t.1 11).1), ((t.1 12).1), (t.1 8).1 0), ((t.1 10).1)), ((t.1 13).1), ((t.1 14).1)), (((t.1 15).1), ((t.1 16).1), ((t.1 17).2.2)))).2.2.1 c))) ∧ IV g ad (zup t.1 [(5, ((upd (upd ((t.1 5).1) 0 ((frT h ((((t.1 6).1), ((t.1 7).1), (t.1 5).1 0, (t.1 5).1 1), (((((t.1 9).1), ((t.1 11).1), ((t.1 12).1), (t.1 8).1 0), ((t.1 10).1)), ((t.1 13).1), ((t.1 14).1)), (((t.1 15).1), ((t.1 16).1), ((t.1 17).2.2)))).1.2.2.1)) 1 ((frT h ((((t.1 6).1), ((t.1 7).1), (t.1 5).1 0, (t.1 5).1 1), (((((t.1 9).1), ((t.1 11).1), ((t.1 12).1), (t.1 8).1 0), ((t.1 10).1)), ((t.1 13).1), ((t.1 14).1)), (((t.1 15).1), ((t.1 16).1), ((t.1 17).2.2)))).1.2.2.2)), (t.1 5).2.1, (t.1 5).2.2)), (6, ((frT h ((((t.1 6).1), ((t.1 7).1), (t.1 5).1 0, (t.1 5).1 1), (((((t.1 9).1), ((t.1 11).1), ((t.1 12).1), (t.1 8).1 0), ((t.1 10).1)), ((t.1 13).1), ((t.1 14).1)), (((t.1 15).1), ((t.1 16).1), ((t.1 17).2.2)))).1.1, (t.1 6).2)), (7, ((frT h ((((t.1 6).1), ((t.1 7).1), (t.1 5).1 0, (t.1 5).1 1), (((((t.1 9).1), ((t.1 11).1), ((t.1 12).1), (t.1 8).1 0), ((t.1 10).1)), ((t.1 13).1), ((t.1 14).1)), (((t.1 15).1), ((t.1 16).1), ((t.1 17).2.2)))).1.2.1, (t.1 7).2)), (8, ((upd ((t.1 8).1) 0 ((frT h ((((t.1 6).1), ((t.1 7).1), (t.1 5).1 0, (t.1 5).1 1), (((((t.1 9).1), ((t.1 11).1), ((t.1 12).1), (t.1 8).1 0), ((t.1 10).1)), ((t.1 13).1), ((t.1 14).1)), (((t.1 15).1), ((t.1 16).1), ((t.1 17).2.2)))).2.1.1.1.2.2.2)), (t.1 8).2.1, (t.1 8).2.2)), (9, ((frT h ((((t.1 6).1), ((t.1 7).1), (t.1 5).1 0, (t.1 5).1 1), (((((t.1 9).1), ((t.1 11).1), ((t.1 12).1), (t.1 8).1 0), ((t.1 10).1)), ((t.1 13).1), ((t.1 14).1)), (((t.1 15).1), ((t.1 16).1), ((t.1 17).2.2)))).2.1.1.1.1, (t.1 9).2)), (10, ((frT h ((((t.1 6).1), ((t.1 7).1), (t.1 5).1 0, (t.1 5).1 1), (((((t.1 9).1), ((t.1 11).1), ((t.1 12).1), (t.1 8).1 0), ((t.1 10).1)), ((t.1 13).1), ((t.1 14).1)), (((t.1 15).1), ((t.1 16).1), ((t.1 17).2.2)))).2.1.1.2, (t.1 10).2)), (11, ((frT h ((((t.1 6).1), ((t.1 7).1), (t.1 5).1 0, (t.1 5).1 1), (((((t.1 9).1), ((t.1 11).1), ((t.1 12).1), (t.1 8).1 0), ((t.1 10).1)), ((t.1 13).1), ((t.1 14).1)), (((t.1 15).1), ((t.1 16).1), ((t.1 17).2.2)))).2.1.1.1.2.1, (t.1 11).2)), (12, ((frT h ((((t.1 6).1), ((t.1 7).1), (t.1 5).1 0, (t.1 5).1 1), (((((t.1 9).1), ((t.1 11).1), ((t.1 12).1), (t.1 8).1 0), ((t.1 10).1)), ((t.1 13).1), ((t.1 14).1)), (((t.1 15).1), ((t.1 16).1), ((t.1 17).2.2)))).2.1.1.1.2.2.1, (t.1 12).2)), (13, ((frT h ((((t.1 6).1), ((t.1 7).1), (t.1 5).1 0, (t.1 5).1 1), (((((t.1 9).1), ((t.1 11).1), ((t.1 12).1), (t.1 8).1 0), ((t.1 10).1)), ((t.1 13).1), ((t.1 14).1)), (((t.1 15).1), ((t.1 16).1), ((t.1 17).2.2)))).2.1.2.1, (t.1 13).2)), (14, ((frT h ((((t.1 6).1), ((t.1 7).1), (t.1 5).1 0, (t.1 5).1 1), (((((t.1 9).1), ((t.1 11).1), ((t.1 12).1), (t.1 8).1 0), ((t.1 10).1)), ((t.1 13).1), ((t.1 14).1)), (((t.1 15).1), ((t.1 16).1), ((t.1 17).2.2)))).2.1.2.2, (t.1 14).2)), (15, ((frT h ((((t.1 6).1), ((t.1 7).1), (t.1 5).1 0, (t.1 5).1 1), (((((t.1 9).1), ((t.1 11).1), ((t.1 12).1), (t.1 8).1 0), ((t.1 10).1)), ((t.1 13).1), ((t.1 14).1)), (((t.1 15).1), ((t.1 16).1), ((t.1 17).2.2)))).2.2.1, (t.1 15).2)), (16, ((frT h ((((t.1 6).1), ((t.1 7).1), (t.1 5).1 0, (t.1 5).1 1), (((((t.1 9).1), ((t.1 11).1), ((t.1 12).1), (t.1 8).1 0), ((t.1 10).1)), ((t.1 13).1), ((t.1 14).1)), (((t.1 15).1), ((t.1 16).1), ((t.1 17).2.2)))).2.2.2.1, (t.1 16).2)), (17, ((t.1 17).1, (t.1 17).2.1, (frT h ((((t.1 6).1), ((t.1 7).1), (t.1 5).1 0, (t.1 5).1 1), (((((t.1 9).1), ((t.1 11).1), ((t.1 12).1), (t.1 8).1 0), ((t.1 10).1)), ((t.1 13).1), ((t.1 14).1)), (((t.1 15).1), ((t.1 16).1), ((t.1 17).2.2)))).2.2.2.2))], t.2) u w1) 2 12 := by
  obtain ⟨e_a, w_a, k_a⟩ := hI.1.2 0 (by decide)
  obtain rfl := kd_0.mp k_a
  obtain ⟨e_ta, w_ta, k_ta⟩ := hI.1.2 5 (by decide)
  obtain rfl := kd_5.mp k_ta
  obtain ⟨e_ta1, w_ta1, k_ta1⟩ := hI.1.2 6 (by decide)
  obtain rfl := kd_6.mp k_ta1
  obtain ⟨e_ta2, w_ta2, k_ta2⟩ := hI.1.2 7 (by decide)
  obtain rfl := kd_7.mp k_ta2
  obtain ⟨e_taz, w_taz, k_taz⟩ := hI.1.2 8 (by decide)
  obtain rfl := kd_8.mp k_taz
  obtain ⟨e_taz1, w_taz1, k_taz1⟩ := hI.1.2 9 (by decide)
  obtain rfl := kd_9.mp k_taz1
  obtain ⟨e_taz2, w_taz2, k_taz2⟩ := hI.1.2 10 (by decide)
  obtain rfl := kd_10.mp k_taz2
  obtain ⟨e_taz3, w_taz3, k_taz3⟩ := hI.1.2 11 (by decide)
  obtain rfl := kd_11.mp k_taz3
  obtain ⟨e_taz4, w_taz4, k_taz4⟩ := hI.1.2 12 (by decide)
  obtain rfl := kd_12.mp k_taz4
  obtain ⟨e_taz5, w_taz5, k_taz5⟩ := hI.1.2 13 (by decide)
  obtain rfl := kd_13.mp k_taz5
  obtain ⟨e_taz6, w_taz6, k_taz6⟩ := hI.1.2 14 (by decide)
  obtain rfl := kd_14.mp k_taz6
  obtain ⟨e_ta4, w_ta4, k_ta4⟩ := hI.1.2 15 (by decide)
  obtain ⟨c_ta4_0, rfl⟩ := kd_15.mp k_ta4
  obtain ⟨e_ta5, w_ta5, k_ta5⟩ := hI.1.2 16 (by decide)
  obtain rfl := kd_16.mp k_ta5
  obtain ⟨e_ta6, w_ta6, k_ta6⟩ := hI.1.2 17 (by decide)
  obtain rfl := kd_17.mp k_ta6
  refine ((C_Ip_isFedN g (ad 0) (ad 1) (ad 5) (ad 18) (ad 31) (ad 32) (ad 36) (ad 42) (ad 45) (ad 47) (ad 49) (ad 50) (ad 51) (ad 6) (ad 7) (ad 8) (ad 9) (ad 10) (ad 11) (ad 12) (ad 13) (ad 14) (ad 15) (ad 16) (ad 17) ((((t.1 6).1), ((t.1 7).1), (t.1 5).1 0, (t.1 5).1 1), (((((t.1 9).1), ((t.1 11).1), ((t.1 12).1), (t.1 8).1 0), ((t.1 10).1)), ((t.1 13).1), ((t.1 14).1)), (((t.1 15).1), ((t.1 16).1), ((t.1 17).2.2))) x y h c hz hh hb).at (hI.1.I [0, 5, 6, 7, 8, 9, 10, 11, 12, 13, 14, 15, 16, 17] _ rfl (by decide) (by decide) (List.forall_mem_cons.mpr ⟨w_a, (List.forall_mem_cons.mpr ⟨w_ta, (List.forall_mem_cons.mpr ⟨w_ta1, (List.forall_mem_cons.mpr ⟨w_ta2, (List.forall_mem_cons.mpr ⟨w_taz, (List.forall_mem_cons.mpr ⟨w_taz1, (List.forall_mem_cons.mpr ⟨w_taz2, (List.forall_mem_cons.mpr ⟨w_taz3, (List.forall_mem_cons.mpr ⟨w_taz4, (List.forall_mem_cons.mpr ⟨w_taz5, (List.forall_mem_cons.mpr ⟨w_taz6, (List.forall_mem_cons.mpr ⟨w_ta4, (List.forall_mem_cons.mpr ⟨w_ta5, (List.forall_mem_cons.mpr ⟨w_ta6, (fun _ h => nomatch h)⟩)⟩)⟩)⟩)⟩)⟩)⟩)⟩)⟩)⟩)⟩)⟩)⟩)⟩))).mono (Nat.le_of_ble_eq_true rfl) (Nat.le_of_ble_eq_true rfl) (fun o w1 hp => ?_)
  obtain ⟨cs1, hp, hi9⟩ := hp
  obtain ⟨e1, e2⟩ := hp
  subst e1; subst e2
  exact ⟨rfl, hI.fix (t2 := (zup t.1 [(5, ((upd (upd ((t.1 5).1) 0 ((frT h ((((t.1 6).1), ((t.1 7).1), (t.1 5).1 0, (t.1 5).1 1), (((((t.1 9).1), ((t.1 11).1), ((t.1 12).1), (t.1 8).1 0), ((t.1 10).1)), ((t.1 13).1), ((t.1 14).1)), (((t.1 15).1), ((t.1 16).1), ((t.1 17).2.2)))).1.2.2.1)) 1 ((frT h ((((t.1 6).1), ((t.1 7).1), (t.1 5).1 0, (t.1 5).1 1), (((((t.1 9).1), ((t.1 11).1), ((t.1 12).1), (t.1 8).1 0), ((t.1 10).1)), ((t.1 13).1), ((t.1 14).1)), (((t.1 15).1), ((t.1 16).1), ((t.1 17).2.2)))).1.2.2.2)), (t.1 5).2.1, (t.1 5).2.2)), (6, ((frT h ((((t.1 6).1), ((t.1 7).1), (t.1 5).1 0, (t.1 5).1 1), (((((t.1 9).1), ((t.1 11).1), ((t.1 12).1), (t.1 8).1 0), ((t.1 10).1)), ((t.1 13).1), ((t.1 14).1)), (((t.1 15).1), ((t.1 16).1), ((t.1 17).2.2)))).1.1, (t.1 6).2)), (7, ((frT h ((((t.1 6).1), ((t.1 7).1), (t.1 5).1 0, (t.1 5).1 1), (((((t.1 9).1), ((t.1 11).1), ((t.1 12).1), (t.1 8).1 0), ((t.1 10).1)), ((t.1 13).1), ((t.1 14).1)), (((t.1 15).1), ((t.1 16).1), ((t.1 17).2.2)))).1.2.1, (t.1 7).2)), (8, ((upd ((t.1 8).1) 0 ((frT h ((((t.1 6).1), ((t.1 7).1), (t.1 5).1 0, (t.1 5).1 1), (((((t.1 9).1), ((t.1 11).1), ((t.1 12).1), (t.1 8).1 0), ((t.1 10).1)), ((t.1 13).1), ((t.1 14).1)), (((t.1 15).1), ((t.1 16).1), ((t.1 17).2.2)))).2.1.1.1.2.2.2)), (t.1 8).2.1, (t.1 8).2.2)), (9, ((frT h ((((t.1 6).1), ((t.1 7).1), (t.1 5).1 0, (t.1 5).1 1), (((((t.1 9).1), ((t.1 11).1), ((t.1 12).1), (t.1 8).1 0), ((t.1 10).1)), ((t.1 13).1), ((t.1 14).1)), (((t.1 15).1), ((t.1 16).1), ((t.1 17).2.2)))).2.1.1.1.1, (t.1 9).2)), (10, ((frT h ((((t.1 6).1), ((t.1 7).1), (t.1 5).1 0, (t.1 5).1 1), (((((t.1 9).1), ((t.1 11).1), ((t.1 12).1), (t.1 8).1 0), ((t.1 10).1)), ((t.1 13).1), ((t.1 14).1)), (((t.1 15).1), ((t.1 16).1), ((t.1 17).2.2)))).2.1.1.2, (t.1 10).2)), (11, ((frT h ((((t.1 6).1), ((t.1 7).1), (t.1 5).1 0, (t.1 5).1 1), (((((t.1 9).1), ((t.1 11).1), ((t.1 12).1), (t.1 8).1 0), ((t.1 10).1)), ((t.1 13).1), ((t.1 14).1)), (((t.1 15).1), ((t.1 16).1), ((t.1 17).2.2)))).2.1.1.1.2.1, (t.1 11).2)), (12, ((frT h ((((t.1 6).1), ((t.1 7).1), (t.1 5).1 0, (t.1 5).1 1), (((((t.1 9).1), ((t.1 11).1), ((t.1 12).1), (t.1 8).1 0), ((t.1 10).1)), ((t.1 13).1), ((t.1 14).1)), (((t.1 15).1), ((t.1 16).1), ((t.1 17).2.2)))).2.1.1.1.2.2.1, (t.1 12).2)), (13, ((frT h ((((t.1 6).1), ((t.1 7).1), (t.1 5).1 0, (t.1 5).1 1), (((((t.1 9).1), ((t.1 11).1), ((t.1 12).1), (t.1 8).1 0), ((t.1 10).1)), ((t.1 13).1), ((t.1 14).1)), (((t.1 15).1), ((t.1 16).1), ((t.1 17).2.2)))).2.1.2.1, (t.1 13).2)), (14, ((frT h ((((t.1 6).1), ((t.1 7).1), (t.1 5).1 0, (t.1 5).1 1), (((((t.1 9).1), ((t.1 11).1), ((t.1 12).1), (t.1 8).1 0), ((t.1 10).1)), ((t.1 13).1), ((t.1 14).1)), (((t.1 15).1), ((t.1 16).1), ((t.1 17).2.2)))).2.1.2.2, (t.1 14).2)), (15, ((frT h ((((t.1 6).1), ((t.1 7).1), (t.1 5).1 0, (t.1 5).1 1), (((((t.1 9).1), ((t.1 11).1), ((t.1 12).1), (t.1 8).1 0), ((t.1 10).1)), ((t.1 13).1), ((t.1 14).1)), (((t.1 15).1), ((t.1 16).1), ((t.1 17).2.2)))).2.2.1, (t.1 15).2)), (16, ((frT h ((((t.1 6).1), ((t.1 7).1), (t.1 5).1 0, (t.1 5).1 1), (((((t.1 9).1), ((t.1 11).1), ((t.1 12).1), (t.1 8).1 0), ((t.1 10).1)), ((t.1 13).1), ((t.1 14).1)), (((t.1 15).1), ((t.1 16).1), ((t.1 17).2.2)))).2.2.2.1, (t.1 16).2)), (17, ((t.1 17).1, (t.1 17).2.1, (frT h ((((t.1 6).1), ((t.1 7).1), (t.1 5).1 0, (t.1 5).1 1), (((((t.1 9).1), ((t.1 11).1), ((t.1 12).1), (t.1 8).1 0), ((t.1 10).1)), ((t.1 13).1), ((t.1 14).1)), (((t.1 15).1), ((t.1 16).1), ((t.1 17).2.2)))).2.2.2.2))], t.2)) (is := [0, 5, 6, 7, 8, 9, 10, 11, 12, 13, 14, 15, 16, 17]) hi9 rfl ⟨kd_0.mpr rfl, kd_5.mpr rfl, kd_6.mpr rfl, kd_7.mpr rfl, kd_8.mpr rfl, kd_9.mpr rfl, kd_10.mpr rfl, kd_11.mpr rfl, kd_12.mpr rfl, kd_13.mpr rfl, kd_14.mpr rfl, kd_15.mpr ⟨(frT_01 (X := ((((t.1 6).1), ((t.1 7).1), (t.1 5).1 0, (t.1 5).1 1), (((((t.1 9).1), ((t.1 11).1), ((t.1 12).1), (t.1 8).1 0), ((t.1 10).1)), ((t.1 13).1), ((t.1 14).1)), (((t.1 15).1), ((t.1 16).1), ((t.1 17).2.2)))) c_ta4_0), rfl⟩, kd_16.mpr rfl, kd_17.mpr rfl, trivial⟩ (by decide) (by decide) (fun i hi hn => zup_out (fun q => hn ((by decide : ∀ j ∈ ([5, 6, 7, 8, 9, 10, 11, 12, 13, 14, 15, 16, 17] : List Nat), j ∈ ([0, 5, 6, 7, 8, 9, 10, 11, 12, 13, 14, 15, 16, 17] : List Nat)) i q))) (fun h => h) rfl⟩
set_option maxHeartbeats 4000000 in
theorem Qx_Ip_isFedF {g : zG} {ad : Nat → Nat} {t : zTT} {u : zNN} {w : zW} (hI : IV g ad t u w) (x : Int32) (y : Int32) (h : Int32) (c : Nat) (hz : z_cl x y = some c) (hh : ¬ (1200 ≤ h ∧ h ≤ 1500)) : zMB g M_Ip_isFed [.ref (ad 0), .int x, .int y, .int h] w (fun o w1 => o = .inr "java/lang/IllegalArgumentException" ∧ IV g ad (zup t.1 [(5, ((upd (upd ((t.1 5).1) 0 (((((t.1 6).1), ((t.1 7).1), (t.1 5).1 0, (t.1 5).1 1), (((((t.1 9).1), ((t.1 11).1), ((t.1 12).1), (t.1 8).1 0), ((t.1 10).1)), ((t.1 13).1), ((t.1 14).1)), (((t.1 15).1), ((t.1 16).1), ((t.1 17).2.2))).1.2.2.1)) 1 (((((t.1 6).1), ((t.1 7).1), (t.1 5).1 0, (t.1 5).1 1), (((((t.1 9).1), ((t.1 11).1), ((t.1 12).1), (t.1 8).1 0), ((t.1 10).1)), ((t.1 13).1), ((t.1 14).1)), (((t.1 15).1), ((t.1 16).1), ((t.1 17).2.2))).1.2.2.2)), (t.1 5).2.1, (t.1 5).2.2)), (6, (((((t.1 6).1), ((t.1 7).1), (t.1 5).1 0, (t.1 5).1 1), (((((t.1 9).1), ((t.1 11).1), ((t.1 12).1), (t.1 8).1 0), ((t.1 10).1)), ((t.1 13).1), ((t.1 14).1)), (((t.1 15).1), ((t.1 16).1), ((t.1 17).2.2))).1.1, (t.1 6).2)), (7, (((((t.1 6).1), ((t.1 7).1), (t.1 5).1 0, (t.1 5).1 1), (((((t.1 9).1), ((t.1 11).1), ((t.1 12).1), (t.1 8).1 0), ((t.1 10).1)), ((t.1 13).1), ((t.1 14).1)), (((t.1 15).1), ((t.1 16).1), ((t.1 17).2.2))).1.2.1, (t.1 7).2)), (8, ((upd ((t.1 8).1) 0 (((((t.1 6).1), ((t.1 7).1), (t.1 5).1 0, (t.1 5).1 1), (((((t.1 9).1), ((t.1 11).1), ((t.1 12).1), (t.1 8).1 0), ((t.1 10).1)), ((t.1 13).1), ((t.1 14).1)), (((t.1 15).1), ((t.1 16).1), ((t.1 17).2.2))).2.1.1.1.2.2.2)), (t.1 8).2.1, (t.1 8).2.2)), (9, (((((t.1 6).1), ((t.1 7).1), (t.1 5).1 0, (t.1 5).1 1), (((((t.1 9).1), ((t.1 11).1), ((t.1 12).1), (t.1 8).1 0), ((t.1 10).1)), ((t.1 13).1), ((t.1 14).1)), (((t.1 15).1), ((t.1 16).1), ((t.1 17).2.2))).2.1.1.1.1, (t.1 9).2)), (10, (((((t.1 6).1), ((t.1 7).1), (t.1 5).1 0, (t.1 5).1 1), (((((t.1 9).1), ((t.1 11).1), ((t.1 12).1), (t.1 8).1 0), ((t.1 10).1)), ((t.1 13).1), ((t.1 14).1)), (((t.1 15).1), ((t.1 16).1), ((t.1 17).2.2))).2.1.1.2, (t.1 10).2)), (11, (((((t.1 6).1), ((t.1 7).1), (t.1 5).1 0, (t.1 5).1 1), (((((t.1 9).1), ((t.1 11).1), ((t.1 12).1), (t.1 8).1 0), ((t.1 10).1)), ((t.1 13).1), ((t.1 14).1)), (((t.1 15).1), ((t.1 16).1), ((t.1 17).2.2))).2.1.1.1.2.1, (t.1 11).2)), (12, (((((t.1 6).1), ((t.1 7).1), (t.1 5).1 0, (t.1 5).1 1), (((((t.1 9).1), ((t.1 11).1), ((t.1 12).1), (t.1 8).1 0), ((t.1 10).1)), ((t.1 13).1), ((t.1 14).1)), (((t.1 15).1), ((t.1 16).1), ((t.1 17).2.2))).2.1.1.1.2.2.1, (t.1 12).2)), (13, (((((t.1 6).1), ((t.1 7).1), (t.1 5).1 0, (t.1 5).1 1), (((((t.1 9).1), ((t.1 11).1), ((t.1 12).1), (t.1 8).1 0), ((t.1 10).1)), ((t.1 13).1), ((t.1 14).1)), (((t.1 15).1), ((t.1 16).1), ((t.1 17).2.2))).2.1.2.1, (t.1 13).2)), (14, (((((t.1 6).1), ((t.1 7).1), (t.1 5).1 0, (t.1 5).1 1), (((((t.1 9).1), ((t.1 11).1), ((t.1 12).1), (t.1 8).1 0), ((t.1 10).1)), ((t.1 13).1), ((t.1 14).1)), (((t.1 15).1), ((t.1 16).1), ((t.1 17).2.2))).2.1.2.2, (t.1 14).2)), (15, (((((t.1 6).1), ((t.1 7).1), (t.1 5).1 0, (t.1 5).1 1), (((((t.1 9).1), ((t.1 11).1), ((t.1 12).1), (t.1 8).1 0), ((t.1 10).1)), ((t.1 13).1), ((t.1 14).1)), (((t.1 15).1), ((t.1 16).1), ((t.1 17).2.2))).2.2.1, (t.1 15).2)), (16, (((((t.1 6).1), ((t.1 7).1), (t.1 5).1 0, (t.1 5).1 1), (((((t.1 9).1), ((t.1 11).1), ((t.1 12).1), (t.1 8).1 0), ((t.1 10).1)), ((t.1 13).1), ((t.1 14).1)), (((t.1 15).1), ((t.1 16).1), ((t.1 17).2.2))).2.2.2.1, (t.1 16).2)), (17, ((t.1 17).1, (t.1 17).2.1, ((((t.1 6).1), ((t.1 7).1), (t.1 5).1 0, (t.1 5).1 1), (((((t.1 9).1), ((t.1 11).1), ((t.1 12).1), (t.1 8).1 0), ((t.1 10).1)), ((t.1 13).1), ((t.1 14).1)), (((t.1 15).1), ((t.1 16).1), ((t.1 17).2.2))).2.2.2.2))], t.2) u w1) 2 12 := by
  obtain ⟨e_a, w_a, k_a⟩ := hI.1.2 0 (by decide)
  obtain rfl := kd_0.mp k_a
  obtain ⟨e_ta, w_ta, k_ta⟩ := hI.1.2 5 (by decide)
  obtain rfl := kd_5.mp k_ta
  obtain ⟨e_ta1, w_ta1, k_ta1⟩ := hI.1.2 6 (by decide)
  obtain rfl := kd_6.mp k_ta1
  obtain ⟨e_ta2, w_ta2, k_ta2⟩ := hI.1.2 7 (by decide)
  obtain rfl := kd_7.mp k_ta2
  obtain ⟨e_taz, w_taz, k_taz⟩ := hI.1.2 8 (by decide)
  obtain rfl := kd_8.mp k_taz
  obtain ⟨e_taz1, w_taz1, k_taz1⟩ := hI.1.2 9 (by decide)
  obtain rfl := kd_9.mp k_taz1
  obtain ⟨e_taz2, w_taz2, k_taz2⟩ := hI.1.2 10 (by decide)
  obtain rfl := kd_10.mp k_taz2
  obtain ⟨e_taz3, w_taz3, k_taz3⟩ := hI.1.2 11 (by decide)
  obtain rfl := kd_11.mp k_taz3
  obtain ⟨e_taz4, w_taz4, k_taz4⟩ := hI.1.2 12 (by decide)
  obtain rfl := kd_12.mp k_taz4
  obtain ⟨e_taz5, w_taz5, k_taz5⟩ := hI.1.2 13 (by decide)
  obtain rfl := kd_13.mp k_taz5
  obtain ⟨e_taz6, w_taz6, k_taz6⟩ := hI.1.2 14 (by decide)
  obtain rfl := kd_14.mp k_taz6
  obtain ⟨e_ta4, w_ta4, k_ta4⟩ := hI.1.2 15 (by decide)
  obtain ⟨c_ta4_0, rfl⟩ := kd_15.mp k_ta4
  obtain ⟨e_ta5, w_ta5, k_ta5⟩ := hI.1.2 16 (by decide)
  obtain rfl := kd_16.mp k_ta5
  obtain ⟨e_ta6, w_ta6, k_ta6⟩ := hI.1.2 17 (by decide)
  obtain rfl := kd_17.mp k_ta6
  refine ((C_Ip_isFedF g (ad 0) (ad 1) (ad 5) (ad 18) (ad 31) (ad 32) (ad 36) (ad 42) (ad 45) (ad 47) (ad 49) (ad 50) (ad 51) (ad 6) (ad 7) (ad 8) (ad 9) (ad 10) (ad 11) (ad 12) (ad 13) (ad 14) (ad 15) (ad 16) (ad 17) ((((t.1 6).1), ((t.1 7).1), (t.1 5).1 0, (t.1 5).1 1), (((((t.1 9).1), ((t.1 11).1), ((t.1 12).1), (t.1 8).1 0), ((t.1 10).1)), ((t.1 13).1), ((t.1 14).1)), (((t.1 15).1), ((t.1 16).1), ((t.1 17).2.2))) x y h c hz hh).at (hI.1.I [0, 5, 6, 7, 8, 9, 10, 11, 12, 13, 14, 15, 16, 17] _ rfl (by decide) (by decide) (List.forall_mem_cons.mpr ⟨w_a, (List.forall_mem_cons.mpr ⟨w_ta, (List.forall_mem_cons.mpr ⟨w_ta1, (List.forall_mem_cons.mpr ⟨w_ta2, (List.forall_mem_cons.mpr ⟨w_taz, (List.forall_mem_cons.mpr ⟨w_taz1, (List.forall_mem_cons.mpr ⟨w_taz2, (List.forall_mem_cons.mpr ⟨w_taz3, (List.forall_mem_cons.mpr ⟨w_taz4, (List.forall_mem_cons.mpr ⟨w_taz5, (List.forall_mem_cons.mpr ⟨w_taz6, (List.forall_mem_cons.mpr ⟨w_ta4, (List.forall_mem_cons.mpr ⟨w_ta5, (List.forall_mem_cons.mpr ⟨w_ta6, (fun _ h => nomatch h)⟩)⟩)⟩)⟩)⟩)⟩)⟩)⟩)⟩)⟩)⟩)⟩)⟩)⟩))).mono (Nat.le_of_ble_eq_true rfl) (Nat.le_of_ble_eq_true rfl) (fun o w1 hp => ?_)
  obtain ⟨cs1, hp, hi9⟩ := hp
  obtain ⟨e1, e2⟩ := hp
  subst e1; subst e2
  exact ⟨rfl, hI.fix (t2 := (zup t.1 [(5, ((upd (upd ((t.1 5).1) 0 (((((t.1 6).1), ((t.1 7).1), (t.1 5).1 0, (t.1 5).1 1), (((((t.1 9).1), ((t.1 11).1), ((t.1 12).1), (t.1 8).1 0), ((t.1 10).1)), ((t.1 13).1), ((t.1 14).1)), (((t.1 15).1), ((t.1 16).1), ((t.1 17).2.2))).1.2.2.1)) 1 (((((t.1 6).1), ((t.1 7).1), (t.1 5).1 0, (t.1 5).1 1), (((((t.1 9).1), ((t.1 11).1), ((t.1 12).1), (t.1 8).1 0), ((t.1 10).1)), ((t.1 13).1), ((t.1 14).1)), (((t.1 15).1), ((t.1 16).1), ((t.1 17).2.2))).1.2.2.2)), (t.1 5).2.1, (t.1 5).2.2)), (6, (((((t.1 6).1), ((t.1 7).1), (t.1 5).1 0, (t.1 5).1 1), (((((t.1 9).1), ((t.1 11).1), ((t.1 12).1), (t.1 8).1 0), ((t.1 10).1)), ((t.1 13).1), ((t.1 14).1)), (((t.1 15).1), ((t.1 16).1), ((t.1 17).2.2))).1.1, (t.1 6).2)), (7, (((((t.1 6).1), ((t.1 7).1), (t.1 5).1 0, (t.1 5).1 1), (((((t.1 9).1), ((t.1 11).1), ((t.1 12).1), (t.1 8).1 0), ((t.1 10).1)), ((t.1 13).1), ((t.1 14).1)), (((t.1 15).1), ((t.1 16).1), ((t.1 17).2.2))).1.2.1, (t.1 7).2)), (8, ((upd ((t.1 8).1) 0 (((((t.1 6).1), ((t.1 7).1), (t.1 5).1 0, (t.1 5).1 1), (((((t.1 9).1), ((t.1 11).1), ((t.1 12).1), (t.1 8).1 0), ((t.1 10).1)), ((t.1 13).1), ((t.1 14).1)), (((t.1 15).1), ((t.1 16).1), ((t.1 17).2.2))).2.1.1.1.2.2.2)), (t.1 8).2.1, (t.1 8).2.2)), (9, (((((t.1 6).1), ((t.1 7).1), (t.1 5).1 0, (t.1 5).1 1), (((((t.1 9).1), ((t.1 11).1), ((t.1 12).1), (t.1 8).1 0), ((t.1 10).1)), ((t.1 13).1), ((t.1 14).1)), (((t.1 15).1), ((t.1 16).1), ((t.1 17).2.2))).2.1.1.1.1, (t.1 9).2)), (10, (((((t.1 6).1), ((t.1 7).1), (t.1 5).1 0, (t.1 5).1 1), (((((t.1 9).1), ((t.1 11).1), ((t.1 12).1), (t.1 8).1 0), ((t.1 10).1)), ((t.1 13).1), ((t.1 14).1)), (((t.1 15).1), ((t.1 16).1), ((t.1 17).2.2))).2.1.1.2, (t.1 10).2)), (11, (((((t.1 6).1), ((t.1 7).1), (t.1 5).1 0, (t.1 5).1 1), (((((t.1 9).1), ((t.1 11).1), ((t.1 12).1), (t.1 8).1 0), ((t.1 10).1)), ((t.1 13).1), ((t.1 14).1)), (((t.1 15).1), ((t.1 16).1), ((t.1 17).2.2))).2.1.1.1.2.1, (t.1 11).2)), (12, (((((t.1 6).1), ((t.1 7).1), (t.1 5).1 0, (t.1 5).1 1), (((((t.1 9).1), ((t.1 11).1), ((t.1 12).1), (t.1 8).1 0), ((t.1 10).1)), ((t.1 13).1), ((t.1 14).1)), (((t.1 15).1), ((t.1 16).1), ((t.1 17).2.2))).2.1.1.1.2.2.1, (t.1 12).2)), (13, (((((t.1 6).1), ((t.1 7).1), (t.1 5).1 0, (t.1 5).1 1), (((((t.1 9).1), ((t.1 11).1), ((t.1 12).1), (t.1 8).1 0), ((t.1 10).1)), ((t.1 13).1), ((t.1 14).1)), (((t.1 15).1), ((t.1 16).1), ((t.1 17).2.2))).2.1.2.1, (t.1 13).2)), (14, (((((t.1 6).1), ((t.1 7).1), (t.1 5).1 0, (t.1 5).1 1), (((((t.1 9).1), ((t.1 11).1), ((t.1 12).1), (t.1 8).1 0), ((t.1 10).1)), ((t.1 13).1), ((t.1 14).1)), (((t.1 15).1), ((t.1 16).1), ((t.1 17).2.2))).2.1.2.2, (t.1 14).2)), (15, (((((t.1 6).1), ((t.1 7).1), (t.1 5).1 0, (t.1 5).1 1), (((((t.1 9).1), ((t.1 11).1), ((t.1 12).1), (t.1 8).1 0), ((t.1 10).1)), ((t.1 13).1), ((t.1 14).1)), (((t.1 15).1), ((t.1 16).1), ((t.1 17).2.2))).2.2.1, (t.1 15).2)), (16, (((((t.1 6).1), ((t.1 7).1), (t.1 5).1 0, (t.1 5).1 1), (((((t.1 9).1), ((t.1 11).1), ((t.1 12).1), (t.1 8).1 0), ((t.1 10).1)), ((t.1 13).1), ((t.1 14).1)), (((t.1 15).1), ((t.1 16).1), ((t.1 17).2.2))).2.2.2.1, (t.1 16).2)), (17, ((t.1 17).1, (t.1 17).2.1, ((((t.1 6).1), ((t.1 7).1), (t.1 5).1 0, (t.1 5).1 1), (((((t.1 9).1), ((t.1 11).1), ((t.1 12).1), (t.1 8).1 0), ((t.1 10).1)), ((t.1 13).1), ((t.1 14).1)), (((t.1 15).1), ((t.1 16).1), ((t.1 17).2.2))).2.2.2.2))], t.2)) (is := [0, 5, 6, 7, 8, 9, 10, 11, 12, 13, 14, 15, 16, 17]) hi9 rfl ⟨kd_0.mpr rfl, kd_5.mpr rfl, kd_6.mpr rfl, kd_7.mpr rfl, kd_8.mpr rfl, kd_9.mpr rfl, kd_10.mpr rfl, kd_11.mpr rfl, kd_12.mpr rfl, kd_13.mpr rfl, kd_14.mpr rfl, kd_15.mpr ⟨c_ta4_0, rfl⟩, kd_16.mpr rfl, kd_17.mpr rfl, trivial⟩ (by decide) (by decide) (fun i hi hn => zup_out (fun q => hn ((by decide : ∀ j ∈ ([5, 6, 7, 8, 9, 10, 11, 12, 13, 14, 15, 16, 17] : List Nat), j ∈ ([0, 5, 6, 7, 8, 9, 10, 11, 12, 13, 14, 15, 16, 17] : List Nat)) i q))) (fun h => h) rfl⟩
set_option maxHeartbeats 4000000 in
theorem Qx_Ip_isFedE {g : zG} {ad : Nat → Nat} {t : zTT} {u : zNN} {w : zW} (hI : IV g ad t u w) (x : Int32) (y : Int32) (h : Int32) (hz : z_cl x y = none) : zMB g M_Ip_isFed [.ref (ad 0), .int x, .int y, .int h] w (fun o w1 => o = .inr "java/lang/IndexOutOfBoundsException" ∧ IV g ad (zup t.1 [(5, ((upd (upd ((t.1 5).1) 0 (((((t.1 6).1), ((t.1 7).1), (t.1 5).1 0, (t.1 5).1 1), (((((t.1 9).1), ((t.1 11).1), ((t.1 12).1), (t.1 8).1 0), ((t.1 10).1)), ((t.1 13).1), ((t.1 14).1)), (((t.1 15).1), ((t.1 16).1), ((t.1 17).2.2))).1.2.2.1)) 1 (((((t.1 6).1), ((t.1 7).1), (t.1 5).1 0, (t.1 5).1 1), (((((t.1 9).1), ((t.1 11).1), ((t.1 12).1), (t.1 8).1 0), ((t.1 10).1)), ((t.1 13).1), ((t.1 14).1)), (((t.1 15).1), ((t.1 16).1), ((t.1 17).2.2))).1.2.2.2)), (t.1 5).2.1, (t.1 5).2.2)), (6, (((((t.1 6).1), ((t.1 7).1), (t.1 5).1 0, (t.1 5).1 1), (((((t.1 9).1), ((t.1 11).1), ((t.1 12).1), (t.1 8).1 0), ((t.1 10).1)), ((t.1 13).1), ((t.1 14).1)), (((t.1 15).1), ((t.1 16).1), ((t.1 17).2.2))).1.1, (t.1 6).2)), (7, (((((t.1 6).1), ((t.1 7).1), (t.1 5).1 0, (t.1 5).1 1), (((((t.1 9).1), ((t.1 11).1), ((t.1 12).1), (t.1 8).1 0), ((t.1 10).1)), ((t.1 13).1), ((t.1 14).1)), (((t.1 15).1), ((t.1 16).1), ((t.1 17).2.2))).1.2.1, (t.1 7).2)), (8, ((upd ((t.1 8).1) 0 (((((t.1 6).1), ((t.1 7).1), (t.1 5).1 0, (t.1 5).1 1), (((((t.1 9).1), ((t.1 11).1), ((t.1 12).1), (t.1 8).1 0), ((t.1 10).1)), ((t.1 13).1), ((t.1 14).1)), (((t.1 15).1), ((t.1 16).1), ((t.1 17).2.2))).2.1.1.1.2.2.2)), (t.1 8).2.1, (t.1 8).2.2)), (9, (((((t.1 6).1), ((t.1 7).1), (t.1 5).1 0, (t.1 5).1 1), (((((t.1 9).1), ((t.1 11).1), ((t.1 12).1), (t.1 8).1 0), ((t.1 10).1)), ((t.1 13).1), ((t.1 14).1)), (((t.1 15).1), ((t.1 16).1), ((t.1 17).2.2))).2.1.1.1.1, (t.1 9).2)), (10, (((((t.1 6).1), ((t.1 7).1), (t.1 5).1 0, (t.1 5).1 1), (((((t.1 9).1), ((t.1 11).1), ((t.1 12).1), (t.1 8).1 0), ((t.1 10).1)), ((t.1 13).1), ((t.1 14).1)), (((t.1 15).1), ((t.1 16).1), ((t.1 17).2.2))).2.1.1.2, (t.1 10).2)), (11, (((((t.1 6).1), ((t.1 7).1), (t.1 5).1 0, (t.1 5).1 1), (((((t.1 9).1), ((t.1 11).1), ((t.1 12).1), (t.1 8).1 0), ((t.1 10).1)), ((t.1 13).1), ((t.1 14).1)), (((t.1 15).1), ((t.1 16).1), ((t.1 17).2.2))).2.1.1.1.2.1, (t.1 11).2)), (12, (((((t.1 6).1), ((t.1 7).1), (t.1 5).1 0, (t.1 5).1 1), (((((t.1 9).1), ((t.1 11).1), ((t.1 12).1), (t.1 8).1 0), ((t.1 10).1)), ((t.1 13).1), ((t.1 14).1)), (((t.1 15).1), ((t.1 16).1), ((t.1 17).2.2))).2.1.1.1.2.2.1, (t.1 12).2)), (13, (((((t.1 6).1), ((t.1 7).1), (t.1 5).1 0, (t.1 5).1 1), (((((t.1 9).1), ((t.1 11).1), ((t.1 12).1), (t.1 8).1 0), ((t.1 10).1)), ((t.1 13).1), ((t.1 14).1)), (((t.1 15).1), ((t.1 16).1), ((t.1 17).2.2))).2.1.2.1, (t.1 13).2)), (14, (((((t.1 6).1), ((t.1 7).1), (t.1 5).1 0, (t.1 5).1 1), (((((t.1 9).1), ((t.1 11).1), ((t.1 12).1), (t.1 8).1 0), ((t.1 10).1)), ((t.1 13).1), ((t.1 14).1)), (((t.1 15).1), ((t.1 16).1), ((t.1 17).2.2))).2.1.2.2, (t.1 14).2)), (15, (((((t.1 6).1), ((t.1 7).1), (t.1 5).1 0, (t.1 5).1 1), (((((t.1 9).1), ((t.1 11).1), ((t.1 12).1), (t.1 8).1 0), ((t.1 10).1)), ((t.1 13).1), ((t.1 14).1)), (((t.1 15).1), ((t.1 16).1), ((t.1 17).2.2))).2.2.1, (t.1 15).2)), (16, (((((t.1 6).1), ((t.1 7).1), (t.1 5).1 0, (t.1 5).1 1), (((((t.1 9).1), ((t.1 11).1), ((t.1 12).1), (t.1 8).1 0), ((t.1 10).1)), ((t.1 13).1), ((t.1 14).1)), (((t.1 15).1), ((t.1 16).1), ((t.1 17).2.2))).2.2.2.1, (t.1 16).2)), (17, ((t.1 17).1, (t.1 17).2.1, ((((t.1 6).1), ((t.1 7).1), (t.1 5).1 0, (t.1 5).1 1), (((((t.1 9).1), ((t.1 11).1), ((t.1 12).1), (t.1 8).1 0), ((t.1 10).1)), ((t.1 13).1), ((t.1 14).1)), (((t.1 15).1), ((t.1 16).1), ((t.1 17).2.2))).2.2.2.2))], t.2) u w1) 2 12 := by
  obtain ⟨e_a, w_a, k_a⟩ := hI.1.2 0 (by decide)
  obtain rfl := kd_0.mp k_a
  obtain ⟨e_ta, w_ta, k_ta⟩ := hI.1.2 5 (by decide)
  obtain rfl := kd_5.mp k_ta
  obtain ⟨e_ta1, w_ta1, k_ta1⟩ := hI.1.2 6 (by decide)
  obtain rfl := kd_6.mp k_ta1
  obtain ⟨e_ta2, w_ta2, k_ta2⟩ := hI.1.2 7 (by decide)
  obtain rfl := kd_7.mp k_ta2
  obtain ⟨e_taz, w_taz, k_taz⟩ := hI.1.2 8 (by decide)
  obtain rfl := kd_8.mp k_taz
  obtain ⟨e_taz1, w_taz1, k_taz1⟩ := hI.1.2 9 (by decide)
  obtain rfl := kd_9.mp k_taz1
  obtain ⟨e_taz2, w_taz2, k_taz2⟩ := hI.1.2 10 (by decide)
  obtain rfl := kd_10.mp k_taz2
  obtain ⟨e_taz3, w_taz3, k_taz3⟩ := hI.1.2 11 (by decide)
  obtain rfl := kd_11.mp k_taz3
  obtain ⟨e_taz4, w_taz4, k_taz4⟩ := hI.1.2 12 (by decide)
  obtain rfl := kd_12.mp k_taz4
  obtain ⟨e_taz5, w_taz5, k_taz5⟩ := hI.1.2 13 (by decide)
  obtain rfl := kd_13.mp k_taz5
  obtain ⟨e_taz6, w_taz6, k_taz6⟩ := hI.1.2 14 (by decide)
  obtain rfl := kd_14.mp k_taz6
  obtain ⟨e_ta4, w_ta4, k_ta4⟩ := hI.1.2 15 (by decide)
  obtain ⟨c_ta4_0, rfl⟩ := kd_15.mp k_ta4
  obtain ⟨e_ta5, w_ta5, k_ta5⟩ := hI.1.2 16 (by decide)
  obtain rfl := kd_16.mp k_ta5
  obtain ⟨e_ta6, w_ta6, k_ta6⟩ := hI.1.2 17 (by decide)
  obtain rfl := kd_17.mp k_ta6
  refine ((C_Ip_isFedE g (ad 0) (ad 1) (ad 5) (ad 18) (ad 31) (ad 32) (ad 36) (ad 42) (ad 45) (ad 47) (ad 49) (ad 50) (ad 51) (ad 6) (ad 7) (ad 8) (ad 9) (ad 10) (ad 11) (ad 12) (ad 13) (ad 14) (ad 15) (ad 16) (ad 17) ((((t.1 6).1), ((t.1 7).1), (t.1 5).1 0, (t.1 5).1 1), (((((t.1 9).1), ((t.1 11).1), ((t.1 12).1), (t.1 8).1 0), ((t.1 10).1)), ((t.1 13).1), ((t.1 14).1)), (((t.1 15).1), ((t.1 16).1), ((t.1 17).2.2))) x y h hz).at (hI.1.I [0, 5, 6, 7, 8, 9, 10, 11, 12, 13, 14, 15, 16, 17] _ rfl (by decide) (by decide) (List.forall_mem_cons.mpr ⟨w_a, (List.forall_mem_cons.mpr ⟨w_ta, (List.forall_mem_cons.mpr ⟨w_ta1, (List.forall_mem_cons.mpr ⟨w_ta2, (List.forall_mem_cons.mpr ⟨w_taz, (List.forall_mem_cons.mpr ⟨w_taz1, (List.forall_mem_cons.mpr ⟨w_taz2, (List.forall_mem_cons.mpr ⟨w_taz3, (List.forall_mem_cons.mpr ⟨w_taz4, (List.forall_mem_cons.mpr ⟨w_taz5, (List.forall_mem_cons.mpr ⟨w_taz6, (List.forall_mem_cons.mpr ⟨w_ta4, (List.forall_mem_cons.mpr ⟨w_ta5, (List.forall_mem_cons.mpr ⟨w_ta6, (fun _ h => nomatch h)⟩)⟩)⟩)⟩)⟩)⟩)⟩)⟩)⟩)⟩)⟩)⟩)⟩)⟩))).mono (Nat.le_of_ble_eq_true rfl) (Nat.le_of_ble_eq_true rfl) (fun o w1 hp => ?_)
  obtain ⟨cs1, hp, hi9⟩ := hp
  obtain ⟨e1, e2⟩ := hp
  subst e1; subst e2
  exact ⟨rfl, hI.fix (t2 := (zup t.1 [(5, ((upd (upd ((t.1 5).1) 0 (((((t.1 6).1), ((t.1 7).1), (t.1 5).1 0, (t.1 5).1 1), (((((t.1 9).1), ((t.1 11).1), ((t.1 12).1), (t.1 8).1 0), ((t.1 10).1)), ((t.1 13).1), ((t.1 14).1)), (((t.1 15).1), ((t.1 16).1), ((t.1 17).2.2))).1.2.2.1)) 1 (((((t.1 6).1), ((t.1 7).1), (t.1 5).1 0, (t.1 5).1 1), (((((t.1 9).1), ((t.1 11).1), ((t.1 12).1), (t.1 8).1 0), ((t.1 10).1)), ((t.1 13).1), ((t.1 14).1)), (((t.1 15).1), ((t.1 16).1), ((t.1 17).2.2))).1.2.2.2)), (t.1 5).2.1, (t.1 5).2.2)), (6, (((((t.1 6).1), ((t.1 7).1), (t.1 5).1 0, (t.1 5).1 1), (((((t.1 9).1), ((t.1 11).1), ((t.1 12).1), (t.1 8).1 0), ((t.1 10).1)), ((t.1 13).1), ((t.1 14).1)), (((t.1 15).1), ((t.1 16).1), ((t.1 17).2.2))).1.1, (t.1 6).2)), (7, (((((t.1 6).1), ((t.1 7).1), (t.1 5).1 0, (t.1 5).1 1), (((((t.1 9).1), ((t.1 11).1), ((t.1 12).1), (t.1 8).1 0), ((t.1 10).1)), ((t.1 13).1), ((t.1 14).1)), (((t.1 15).1), ((t.1 16).1), ((t.1 17).2.2))).1.2.1, (t.1 7).2)), (8, ((upd ((t.1 8).1) 0 (((((t.1 6).1), ((t.1 7).1), (t.1 5).1 0, (t.1 5).1 1), (((((t.1 9).1), ((t.1 11).1), ((t.1 12).1), (t.1 8).1 0), ((t.1 10).1)), ((t.1 13).1), ((t.1 14).1)), (((t.1 15).1), ((t.1 16).1), ((t.1 17).2.2))).2.1.1.1.2.2.2)), (t.1 8).2.1, (t.1 8).2.2)), (9, (((((t.1 6).1), ((t.1 7).1), (t.1 5).1 0, (t.1 5).1 1), (((((t.1 9).1), ((t.1 11).1), ((t.1 12).1), (t.1 8).1 0), ((t.1 10).1)), ((t.1 13).1), ((t.1 14).1)), (((t.1 15).1), ((t.1 16).1), ((t.1 17).2.2))).2.1.1.1.1, (t.1 9).2)), (10, (((((t.1 6).1), ((t.1 7).1), (t.1 5).1 0, (t.1 5).1 1), (((((t.1 9).1), ((t.1 11).1), ((t.1 12).1), (t.1 8).1 0), ((t.1 10).1)), ((t.1 13).1), ((t.1 14).1)), (((t.1 15).1), ((t.1 16).1), ((t.1 17).2.2))).2.1.1.2, (t.1 10).2)), (11, (((((t.1 6).1), ((t.1 7).1), (t.1 5).1 0, (t.1 5).1 1), (((((t.1 9).1), ((t.1 11).1), ((t.1 12).1), (t.1 8).1 0), ((t.1 10).1)), ((t.1 13).1), ((t.1 14).1)), (((t.1 15).1), ((t.1 16).1), ((t.1 17).2.2))).2.1.1.1.2.1, (t.1 11).2)), (12, (((((t.1 6).1), ((t.1 7).1), (t.1 5).1 0, (t.1 5).1 1), (((((t.1 9).1), ((t.1 11).1), ((t.1 12).1), (t.1 8).1 0), ((t.1 10).1)), ((t.1 13).1), ((t.1 14).1)), (((t.1 15).1), ((t.1 16).1), ((t.1 17).2.2))).2.1.1.1.2.2.1, (t.1 12).2)), (13, (((((t.1 6).1), ((t.1 7).1), (t.1 5).1 0, (t.1 5).1 1), (((((t.1 9).1), ((t.1 11).1), ((t.1 12).1), (t.1 8).1 0), ((t.1 10).1)), ((t.1 13).1), ((t.1 14).1)), (((t.1 15).1), ((t.1 16).1), ((t.1 17).2.2))).2.1.2.1, (t.1 13).2)), (14, (((((t.1 6).1), ((t.1 7).1), (t.1 5).1 0, (t.1 5).1 1), (((((t.1 9).1), ((t.1 11).1), ((t.1 12).1), (t.1 8).1 0), ((t.1 10).1)), ((t.1 13).1), ((t.1 14).1)), (((t.1 15).1), ((t.1 16).1), ((t.1 17).2.2))).2.1.2.2, (t.1 14).2)), (15, (((((t.1 6).1), ((t.1 7).1), (t.1 5).1 0, (t.1 5).1 1), (((((t.1 9).1), ((t.1 11).1), ((t.1 12).1), (t.1 8).1 0), ((t.1 10).1)), ((t.1 13).1), ((t.1 14).1)), (((t.1 15).1), ((t.1 16).1), ((t.1 17).2.2))).2.2.1, (t.1 15).2)), (16, (((((t.1 6).1), ((t.1 7).1), (t.1 5).1 0, (t.1 5).1 1), (((((t.1 9).1), ((t.1 11).1), ((t.1 12).1), (t.1 8).1 0), ((t.1 10).1)), ((t.1 13).1), ((t.1 14).1)), (((t.1 15).1), ((t.1 16).1), ((t.1 17).2.2))).2.2.2.1, (t.1 16).2)), (17, ((t.1 17).1, (t.1 17).2.1, ((((t.1 6).1), ((t.1 7).1), (t.1 5).1 0, (t.1 5).1 1), (((((t.1 9).1), ((t.1 11).1), ((t.1 12).1), (t.1 8).1 0), ((t.1 10).1)), ((t.1 13).1), ((t.1 14).1)), (((t.1 15).1), ((t.1 16).1), ((t.1 17).2.2))).2.2.2.2))], t.2)) (is := [0, 5, 6, 7, 8, 9, 10, 11, 12, 13, 14, 15, 16, 17]) hi9 rfl ⟨kd_0.mpr rfl, kd_5.mpr rfl, kd_6.mpr rfl, kd_7.mpr rfl, kd_8.mpr rfl, kd_9.mpr rfl, kd_10.mpr rfl, kd_11.mpr rfl, kd_12.mpr rfl, kd_13.mpr rfl, kd_14.mpr rfl, kd_15.mpr ⟨c_ta4_0, rfl⟩, kd_16.mpr rfl, kd_17.mpr rfl, trivial⟩ (by decide) (by decide) (fun i hi hn => zup_out (fun q => hn ((by decide : ∀ j ∈ ([5, 6, 7, 8, 9, 10, 11, 12, 13, 14, 15, 16, 17] : List Nat), j ∈ ([0, 5, 6, 7, 8, 9, 10, 11, 12, 13, 14, 15, 16, 17] : List Nat)) i q))) (fun h => h) rfl⟩
theorem K_Ip_isFed {g : zG} {ad : Nat → Nat} {t : zTT} {u : zNN} {w : zW} (hI : IVm g ad t u w) (x y h : Int32) : zMB g M_Ip_isFed [.ref (ad 0), .int x, .int y, .int h] w (CKx g ad t u.1 ["java/lang/IndexOutOfBoundsException", "java/lang/IllegalArgumentException"]) 10 300 := by
  obtain ⟨s, hI⟩ := hI
  by_cases hq : 0 ≤ x ∧ x < 12 ∧ 0 ≤ y ∧ y < 9
  · obtain ⟨x0, y0, hx0, hy0, rfl, rfl, hz⟩ := z_cl_in hq
    by_cases hh : 1200 ≤ h ∧ h ≤ 1500
    · exact (Qx_Ip_isFedN hI (nI x0) (nI y0) h _ hz hh (frT_01 (X := (((((mg t s).1 6).1), (((mg t s).1 7).1), ((mg t s).1 5).1 0, ((mg t s).1 5).1 1), ((((((mg t s).1 9).1), (((mg t s).1 11).1), (((mg t s).1 12).1), ((mg t s).1 8).1 0), (((mg t s).1 10).1)), (((mg t s).1 13).1), (((mg t s).1 14).1)), ((((mg t s).1 15).1), (((mg t s).1 16).1), (((mg t s).1 17).2.2)))) hI.ta4 _ (by omega))).mono (by decide) (by decide) (fun o w1 h => ⟨zri.vl h.1, u, rfl, IVm.tz h.2 (tx_all rfl)⟩)
    · exact (Qx_Ip_isFedF hI (nI x0) (nI y0) h _ hz hh).mono (by decide) (by decide) (fun o w1 h => ⟨zri.th h.1 (by simp), u, rfl, IVm.tz h.2 (tx_all rfl)⟩)
  · exact (Qx_Ip_isFedE hI x y h (if_neg hq)).mono (by decide) (by decide) (fun o w1 h => ⟨zri.th h.1 (by simp), u, rfl, IVm.tz h.2 (tx_all rfl)⟩)
set_option maxHeartbeats 4000000 in
theorem Qx_Ip_heatAtN {g : zG} {ad : Nat → Nat} {t : zTT} {u : zNN} {w : zW} (hI : IV g ad t u w) (x : Int32) (y : Int32) (h : Int32) (ks : Nat) (hks : ks ≤ 400) (c : Nat) (hz : z_cl x y = some c) (hh : 1200 ≤ h ∧ h ≤ 1500) : zMB g M_Ip_heatAt [.ref (ad 0), .int x, .int y, .int h, .int (nI ks)] w (fun o w1 => (∃ v : Int32, o = .inl (some (.int v))) ∧ IV g ad t u w1) 2 12 := by
  obtain ⟨e_a, w_a, k_a⟩ := hI.1.2 0 (by decide)
  obtain rfl := kd_0.mp k_a
  obtain ⟨e_pa, w_pa, k_pa⟩ := hI.1.2 1 (by decide)
  obtain rfl := kd_1.mp k_pa
  obtain ⟨e_pa1, w_pa1, k_pa1⟩ := hI.1.2 2 (by decide)
  obtain rfl := kd_2.mp k_pa1
  obtain ⟨e_pa2, w_pa2, k_pa2⟩ := hI.1.2 3 (by decide)
  obtain ⟨v_pa2_f, rfl⟩ := kd_3.mp k_pa2
  obtain ⟨e_pa3, w_pa3, k_pa3⟩ := hI.1.2 4 (by decide)
  obtain ⟨v_pa3_h, rfl⟩ := kd_4.mp k_pa3
  obtain ⟨e_sa, w_sa, k_sa⟩ := hI.1.2 18 (by decide)
  obtain ⟨v_sa_x, v_sa_y, rfl⟩ := kd_18.mp k_sa
  obtain ⟨e_sa1, w_sa1, k_sa1⟩ := hI.1.2 19 (by decide)
  obtain ⟨v_sa1_f, rfl⟩ := kd_19.mp k_sa1
  obtain ⟨e_sa2, w_sa2, k_sa2⟩ := hI.1.2 20 (by decide)
  obtain ⟨v_sa2_f, rfl⟩ := kd_20.mp k_sa2
  obtain ⟨e_saz, w_saz, k_saz⟩ := hI.1.2 21 (by decide)
  obtain ⟨v_saz_x, rfl⟩ := kd_21.mp k_saz
  obtain ⟨e_saz1, w_saz1, k_saz1⟩ := hI.1.2 22 (by decide)
  obtain ⟨v_saz1_f, rfl⟩ := kd_22.mp k_saz1
  obtain ⟨e_saz2, w_saz2, k_saz2⟩ := hI.1.2 23 (by decide)
  obtain ⟨v_saz2_f, rfl⟩ := kd_23.mp k_saz2
  obtain ⟨e_saz3, w_saz3, k_saz3⟩ := hI.1.2 24 (by decide)
  obtain ⟨v_saz3_f, rfl⟩ := kd_24.mp k_saz3
  obtain ⟨e_saz4, w_saz4, k_saz4⟩ := hI.1.2 25 (by decide)
  obtain ⟨v_saz4_f, rfl⟩ := kd_25.mp k_saz4
  obtain ⟨e_saz5, w_saz5, k_saz5⟩ := hI.1.2 26 (by decide)
  obtain ⟨v_saz5_f, rfl⟩ := kd_26.mp k_saz5
  obtain ⟨e_saz6, w_saz6, k_saz6⟩ := hI.1.2 27 (by decide)
  obtain ⟨v_saz6_f, rfl⟩ := kd_27.mp k_saz6
  obtain ⟨e_sa4, w_sa4, k_sa4⟩ := hI.1.2 28 (by decide)
  obtain ⟨v_sa4_f, rfl⟩ := kd_28.mp k_sa4
  obtain ⟨e_sa5, w_sa5, k_sa5⟩ := hI.1.2 29 (by decide)
  obtain ⟨v_sa5_f, rfl⟩ := kd_29.mp k_sa5
  obtain ⟨e_sa6, w_sa6, k_sa6⟩ := hI.1.2 30 (by decide)
  obtain ⟨v_sa6_h, rfl⟩ := kd_30.mp k_sa6
  refine ((C_Ip_heatAtN g (ad 0) (ad 1) (ad 5) (ad 18) (ad 31) (ad 32) (ad 36) (ad 42) (ad 45) (ad 47) (ad 49) (ad 50) (ad 51) (ad 2) (ad 3) (ad 4) ((t.1 2).1) v_pa2_f v_pa3_h ((t.1 1).2.2 0) (ad 19) (ad 20) (ad 21) (ad 22) (ad 23) (ad 24) (ad 25) (ad 26) (ad 27) (ad 28) (ad 29) (ad 30) ((v_sa1_f, v_sa2_f, v_sa_x, v_sa_y), (((v_saz1_f, v_saz3_f, v_saz4_f, v_saz_x), v_saz2_f), v_saz5_f, v_saz6_f), (v_sa4_f, v_sa5_f, v_sa6_h)) x y h ks hks hI.2.2.1 c hz hh).at (hI.1.I [0, 1, 2, 3, 4, 18, 19, 20, 21, 22, 23, 24, 25, 26, 27, 28, 29, 30] _ rfl (by decide) (by decide) (List.forall_mem_cons.mpr ⟨w_a, (List.forall_mem_cons.mpr ⟨w_pa, (List.forall_mem_cons.mpr ⟨w_pa1, (List.forall_mem_cons.mpr ⟨w_pa2, (List.forall_mem_cons.mpr ⟨w_pa3, (List.forall_mem_cons.mpr ⟨w_sa, (List.forall_mem_cons.mpr ⟨w_sa1, (List.forall_mem_cons.mpr ⟨w_sa2, (List.forall_mem_cons.mpr ⟨w_saz, (List.forall_mem_cons.mpr ⟨w_saz1, (List.forall_mem_cons.mpr ⟨w_saz2, (List.forall_mem_cons.mpr ⟨w_saz3, (List.forall_mem_cons.mpr ⟨w_saz4, (List.forall_mem_cons.mpr ⟨w_saz5, (List.forall_mem_cons.mpr ⟨w_saz6, (List.forall_mem_cons.mpr ⟨w_sa4, (List.forall_mem_cons.mpr ⟨w_sa5, (List.forall_mem_cons.mpr ⟨w_sa6, (fun _ h => nomatch h)⟩)⟩)⟩)⟩)⟩)⟩)⟩)⟩)⟩)⟩)⟩)⟩)⟩)⟩)⟩)⟩)⟩)⟩))).mono (Nat.le_of_ble_eq_true rfl) (Nat.le_of_ble_eq_true rfl) (fun o w1 hp => ?_)
  obtain ⟨cs1, hp, hi9⟩ := hp
  obtain ⟨e1, e2⟩ := hp
  subst e1; subst e2
  exact ⟨⟨_, rfl⟩, hI.fix (t2 := t) (is := [0, 1, 2, 3, 4, 18, 19, 20, 21, 22, 23, 24, 25, 26, 27, 28, 29, 30]) hi9 rfl ⟨kd_0.mpr rfl, kd_1.mpr rfl, kd_2.mpr rfl, kd_3.mpr ⟨_, rfl⟩, kd_4.mpr ⟨_, rfl⟩, kd_18.mpr ⟨_, _, rfl⟩, kd_19.mpr ⟨_, rfl⟩, kd_20.mpr ⟨_, rfl⟩, kd_21.mpr ⟨_, rfl⟩, kd_22.mpr ⟨_, rfl⟩, kd_23.mpr ⟨_, rfl⟩, kd_24.mpr ⟨_, rfl⟩, kd_25.mpr ⟨_, rfl⟩, kd_26.mpr ⟨_, rfl⟩, kd_27.mpr ⟨_, rfl⟩, kd_28.mpr ⟨_, rfl⟩, kd_29.mpr ⟨_, rfl⟩, kd_30.mpr ⟨_, rfl⟩, trivial⟩ (by decide) (by decide) (fun _ _ _ => rfl) (fun h => h) rfl⟩
set_option maxHeartbeats 4000000 in
theorem Qx_Ip_heatAtG {g : zG} {ad : Nat → Nat} {t : zTT} {u : zNN} {w : zW} (hI : IV g ad t u w) (x : Int32) (y : Int32) (h : Int32) (st : Int32) (c : Nat) (hz : z_cl x y = some c) (hh : 1200 ≤ h ∧ h ≤ 1500) (hs : st < 0 ∨ 400 < st) : zMB g M_Ip_heatAt [.ref (ad 0), .int x, .int y, .int h, .int st] w (fun o w1 => o = .inr "java/lang/IllegalArgumentException" ∧ IV g ad t u w1) 3 18 := by
  obtain ⟨e_a, w_a, k_a⟩ := hI.1.2 0 (by decide)
  obtain rfl := kd_0.mp k_a
  obtain ⟨e_pa, w_pa, k_pa⟩ := hI.1.2 1 (by decide)
  obtain rfl := kd_1.mp k_pa
  obtain ⟨e_pa1, w_pa1, k_pa1⟩ := hI.1.2 2 (by decide)
  obtain rfl := kd_2.mp k_pa1
  obtain ⟨e_pa2, w_pa2, k_pa2⟩ := hI.1.2 3 (by decide)
  obtain ⟨v_pa2_f, rfl⟩ := kd_3.mp k_pa2
  obtain ⟨e_pa3, w_pa3, k_pa3⟩ := hI.1.2 4 (by decide)
  obtain ⟨v_pa3_h, rfl⟩ := kd_4.mp k_pa3
  obtain ⟨e_sa, w_sa, k_sa⟩ := hI.1.2 18 (by decide)
  obtain ⟨v_sa_x, v_sa_y, rfl⟩ := kd_18.mp k_sa
  obtain ⟨e_sa1, w_sa1, k_sa1⟩ := hI.1.2 19 (by decide)
  obtain ⟨v_sa1_f, rfl⟩ := kd_19.mp k_sa1
  obtain ⟨e_sa2, w_sa2, k_sa2⟩ := hI.1.2 20 (by decide)
  obtain ⟨v_sa2_f, rfl⟩ := kd_20.mp k_sa2
  obtain ⟨e_saz, w_saz, k_saz⟩ := hI.1.2 21 (by decide)
  obtain ⟨v_saz_x, rfl⟩ := kd_21.mp k_saz
  obtain ⟨e_saz1, w_saz1, k_saz1⟩ := hI.1.2 22 (by decide)
  obtain ⟨v_saz1_f, rfl⟩ := kd_22.mp k_saz1
  obtain ⟨e_saz2, w_saz2, k_saz2⟩ := hI.1.2 23 (by decide)
  obtain ⟨v_saz2_f, rfl⟩ := kd_23.mp k_saz2
  obtain ⟨e_saz3, w_saz3, k_saz3⟩ := hI.1.2 24 (by decide)
  obtain ⟨v_saz3_f, rfl⟩ := kd_24.mp k_saz3
  obtain ⟨e_saz4, w_saz4, k_saz4⟩ := hI.1.2 25 (by decide)
  obtain ⟨v_saz4_f, rfl⟩ := kd_25.mp k_saz4
  obtain ⟨e_saz5, w_saz5, k_saz5⟩ := hI.1.2 26 (by decide)
  obtain ⟨v_saz5_f, rfl⟩ := kd_26.mp k_saz5
  obtain ⟨e_saz6, w_saz6, k_saz6⟩ := hI.1.2 27 (by decide)
  obtain ⟨v_saz6_f, rfl⟩ := kd_27.mp k_saz6
  obtain ⟨e_sa4, w_sa4, k_sa4⟩ := hI.1.2 28 (by decide)
  obtain ⟨v_sa4_f, rfl⟩ := kd_28.mp k_sa4
  obtain ⟨e_sa5, w_sa5, k_sa5⟩ := hI.1.2 29 (by decide)
  obtain ⟨v_sa5_f, rfl⟩ := kd_29.mp k_sa5
  obtain ⟨e_sa6, w_sa6, k_sa6⟩ := hI.1.2 30 (by decide)
  obtain ⟨v_sa6_h, rfl⟩ := kd_30.mp k_sa6
  refine ((C_Ip_heatAtG g (ad 0) (ad 1) (ad 5) (ad 18) (ad 31) (ad 32) (ad 36) (ad 42) (ad 45) (ad 47) (ad 49) (ad 50) (ad 51) (ad 2) (ad 3) (ad 4) ((t.1 2).1) v_pa2_f v_pa3_h ((t.1 1).2.2 0) (ad 19) (ad 20) (ad 21) (ad 22) (ad 23) (ad 24) (ad 25) (ad 26) (ad 27) (ad 28) (ad 29) (ad 30) ((v_sa1_f, v_sa2_f, v_sa_x, v_sa_y), (((v_saz1_f, v_saz3_f, v_saz4_f, v_saz_x), v_saz2_f), v_saz5_f, v_saz6_f), (v_sa4_f, v_sa5_f, v_sa6_h)) x y h st c hz hh hs).at (hI.1.I [0, 1, 2, 3, 4, 18, 19, 20, 21, 22, 23, 24, 25, 26, 27, 28, 29, 30] _ rfl (by decide) (by decide) (List.forall_mem_cons.mpr ⟨w_a, (List.forall_mem_cons.mpr ⟨w_pa, (List.forall_mem_cons.mpr ⟨w_pa1, (List.forall_mem_cons.mpr ⟨w_pa2, (List.forall_mem_cons.mpr ⟨w_pa3, (List.forall_mem_cons.mpr ⟨w_sa, (List.forall_mem_cons.mpr ⟨w_sa1, (List.forall_mem_cons.mpr ⟨w_sa2, (List.forall_mem_cons.mpr ⟨w_saz, (List.forall_mem_cons.mpr ⟨w_saz1, (List.forall_mem_cons.mpr ⟨w_saz2, (List.forall_mem_cons.mpr ⟨w_saz3, (List.forall_mem_cons.mpr ⟨w_saz4, (List.forall_mem_cons.mpr ⟨w_saz5, (List.forall_mem_cons.mpr ⟨w_saz6, (List.forall_mem_cons.mpr ⟨w_sa4, (List.forall_mem_cons.mpr ⟨w_sa5, (List.forall_mem_cons.mpr ⟨w_sa6, (fun _ h => nomatch h)⟩)⟩)⟩)⟩)⟩)⟩)⟩)⟩)⟩)⟩)⟩)⟩)⟩)⟩)⟩)⟩)⟩)⟩))).mono (Nat.le_of_ble_eq_true rfl) (Nat.le_of_ble_eq_true rfl) (fun o w1 hp => ?_)
  obtain ⟨cs1, hp, hi9⟩ := hp
  obtain ⟨e1, e2⟩ := hp
  subst e1; subst e2
  exact ⟨rfl, hI.fix (t2 := t) (is := [0, 1, 2, 3, 4, 18, 19, 20, 21, 22, 23, 24, 25, 26, 27, 28, 29, 30]) hi9 rfl ⟨kd_0.mpr rfl, kd_1.mpr rfl, kd_2.mpr rfl, kd_3.mpr ⟨_, rfl⟩, kd_4.mpr ⟨_, rfl⟩, kd_18.mpr ⟨_, _, rfl⟩, kd_19.mpr ⟨_, rfl⟩, kd_20.mpr ⟨_, rfl⟩, kd_21.mpr ⟨_, rfl⟩, kd_22.mpr ⟨_, rfl⟩, kd_23.mpr ⟨_, rfl⟩, kd_24.mpr ⟨_, rfl⟩, kd_25.mpr ⟨_, rfl⟩, kd_26.mpr ⟨_, rfl⟩, kd_27.mpr ⟨_, rfl⟩, kd_28.mpr ⟨_, rfl⟩, kd_29.mpr ⟨_, rfl⟩, kd_30.mpr ⟨_, rfl⟩, trivial⟩ (by decide) (by decide) (fun _ _ _ => rfl) (fun h => h) rfl⟩
set_option maxHeartbeats 4000000 in
theorem Qx_Ip_heatAtF {g : zG} {ad : Nat → Nat} {t : zTT} {u : zNN} {w : zW} (hI : IV g ad t u w) (x : Int32) (y : Int32) (h : Int32) (st : Int32) (c : Nat) (hz : z_cl x y = some c) (hh : ¬ (1200 ≤ h ∧ h ≤ 1500)) : zMB g M_Ip_heatAt [.ref (ad 0), .int x, .int y, .int h, .int st] w (fun o w1 => o = .inr "java/lang/IllegalArgumentException" ∧ IV g ad t u w1) 2 12 := by
  obtain ⟨e_a, w_a, k_a⟩ := hI.1.2 0 (by decide)
  obtain rfl := kd_0.mp k_a
  obtain ⟨e_pa, w_pa, k_pa⟩ := hI.1.2 1 (by decide)
  obtain rfl := kd_1.mp k_pa
  obtain ⟨e_pa1, w_pa1, k_pa1⟩ := hI.1.2 2 (by decide)
  obtain rfl := kd_2.mp k_pa1
  obtain ⟨e_pa2, w_pa2, k_pa2⟩ := hI.1.2 3 (by decide)
  obtain ⟨v_pa2_f, rfl⟩ := kd_3.mp k_pa2
  obtain ⟨e_pa3, w_pa3, k_pa3⟩ := hI.1.2 4 (by decide)
  obtain ⟨v_pa3_h, rfl⟩ := kd_4.mp k_pa3
  obtain ⟨e_sa, w_sa, k_sa⟩ := hI.1.2 18 (by decide)
  obtain ⟨v_sa_x, v_sa_y, rfl⟩ := kd_18.mp k_sa
  obtain ⟨e_sa1, w_sa1, k_sa1⟩ := hI.1.2 19 (by decide)
  obtain ⟨v_sa1_f, rfl⟩ := kd_19.mp k_sa1
  obtain ⟨e_sa2, w_sa2, k_sa2⟩ := hI.1.2 20 (by decide)
  obtain ⟨v_sa2_f, rfl⟩ := kd_20.mp k_sa2
  obtain ⟨e_saz, w_saz, k_saz⟩ := hI.1.2 21 (by decide)
  obtain ⟨v_saz_x, rfl⟩ := kd_21.mp k_saz
  obtain ⟨e_saz1, w_saz1, k_saz1⟩ := hI.1.2 22 (by decide)
  obtain ⟨v_saz1_f, rfl⟩ := kd_22.mp k_saz1
  obtain ⟨e_saz2, w_saz2, k_saz2⟩ := hI.1.2 23 (by decide)
  obtain ⟨v_saz2_f, rfl⟩ := kd_23.mp k_saz2
  obtain ⟨e_saz3, w_saz3, k_saz3⟩ := hI.1.2 24 (by decide)
  obtain ⟨v_saz3_f, rfl⟩ := kd_24.mp k_saz3
  obtain ⟨e_saz4, w_saz4, k_saz4⟩ := hI.1.2 25 (by decide)
  obtain ⟨v_saz4_f, rfl⟩ := kd_25.mp k_saz4
  obtain ⟨e_saz5, w_saz5, k_saz5⟩ := hI.1.2 26 (by decide)
  obtain ⟨v_saz5_f, rfl⟩ := kd_26.mp k_saz5
  obtain ⟨e_saz6, w_saz6, k_saz6⟩ := hI.1.2 27 (by decide)
  obtain ⟨v_saz6_f, rfl⟩ := kd_27.mp k_saz6
  obtain ⟨e_sa4, w_sa4, k_sa4⟩ := hI.1.2 28 (by decide)
  obtain ⟨v_sa4_f, rfl⟩ := kd_28.mp k_sa4
  obtain ⟨e_sa5, w_sa5, k_sa5⟩ := hI.1.2 29 (by decide)
  obtain ⟨v_sa5_f, rfl⟩ := kd_29.mp k_sa5
  obtain ⟨e_sa6, w_sa6, k_sa6⟩ := hI.1.2 30 (by decide)
  obtain ⟨v_sa6_h, rfl⟩ := kd_30.mp k_sa6
  refine ((C_Ip_heatAtF g (ad 0) (ad 1) (ad 5) (ad 18) (ad 31) (ad 32) (ad 36) (ad 42) (ad 45) (ad 47) (ad 49) (ad 50) (ad 51) (ad 2) (ad 3) (ad 4) ((t.1 2).1) v_pa2_f v_pa3_h ((t.1 1).2.2 0) (ad 19) (ad 20) (ad 21) (ad 22) (ad 23) (ad 24) (ad 25) (ad 26) (ad 27) (ad 28) (ad 29) (ad 30) ((v_sa1_f, v_sa2_f, v_sa_x, v_sa_y), (((v_saz1_f, v_saz3_f, v_saz4_f, v_saz_x), v_saz2_f), v_saz5_f, v_saz6_f), (v_sa4_f, v_sa5_f, v_sa6_h)) x y h st c hz hh).at (hI.1.I [0, 1, 2, 3, 4, 18, 19, 20, 21, 22, 23, 24, 25, 26, 27, 28, 29, 30] _ rfl (by decide) (by decide) (List.forall_mem_cons.mpr ⟨w_a, (List.forall_mem_cons.mpr ⟨w_pa, (List.forall_mem_cons.mpr ⟨w_pa1, (List.forall_mem_cons.mpr ⟨w_pa2, (List.forall_mem_cons.mpr ⟨w_pa3, (List.forall_mem_cons.mpr ⟨w_sa, (List.forall_mem_cons.mpr ⟨w_sa1, (List.forall_mem_cons.mpr ⟨w_sa2, (List.forall_mem_cons.mpr ⟨w_saz, (List.forall_mem_cons.mpr ⟨w_saz1, (List.forall_mem_cons.mpr ⟨w_saz2, (List.forall_mem_cons.mpr ⟨w_saz3, (List.forall_mem_cons.mpr ⟨w_saz4, (List.forall_mem_cons.mpr ⟨w_saz5, (List.forall_mem_cons.mpr ⟨w_saz6, (List.forall_mem_cons.mpr ⟨w_sa4, (List.forall_mem_cons.mpr ⟨w_sa5, (List.forall_mem_cons.mpr ⟨w_sa6, (fun _ h => nomatch h)⟩)⟩)⟩)⟩)⟩)⟩)⟩)⟩)⟩)⟩)⟩)⟩)⟩)⟩)⟩)⟩)⟩)⟩))).mono (Nat.le_of_ble_eq_true rfl) (Nat.le_of_ble_eq_true rfl) (fun o w1 hp => ?_)
  obtain ⟨cs1, hp, hi9⟩ := hp
  obtain ⟨e1, e2⟩ := hp
  subst e1; subst e2
  exact ⟨rfl, hI.fix (t2 := t) (is := [0, 1, 2, 3, 4, 18, 19, 20, 21, 22, 23, 24, 25, 26, 27, 28, 29, 30]) hi9 rfl ⟨kd_0.mpr rfl, kd_1.mpr rfl, kd_2.mpr rfl, kd_3.mpr ⟨_, rfl⟩, kd_4.mpr ⟨_, rfl⟩, kd_18.mpr ⟨_, _, rfl⟩, kd_19.mpr ⟨_, rfl⟩, kd_20.mpr ⟨_, rfl⟩, kd_21.mpr ⟨_, rfl⟩, kd_22.mpr ⟨_, rfl⟩, kd_23.mpr ⟨_, rfl⟩, kd_24.mpr ⟨_, rfl⟩, kd_25.mpr ⟨_, rfl⟩, kd_26.mpr ⟨_, rfl⟩, kd_27.mpr ⟨_, rfl⟩, kd_28.mpr ⟨_, rfl⟩, kd_29.mpr ⟨_, rfl⟩, kd_30.mpr ⟨_, rfl⟩, trivial⟩ (by decide) (by decide) (fun _ _ _ => rfl) (fun h => h) rfl⟩
set_option maxHeartbeats 4000000 in
theorem Qx_Ip_heatAtE {g : zG} {ad : Nat → Nat} {t : zTT} {u : zNN} {w : zW} (hI : IV g ad t u w) (x : Int32) (y : Int32) (h : Int32) (st : Int32) (hz : z_cl x y = none) : zMB g M_Ip_heatAt [.ref (ad 0), .int x, .int y, .int h, .int st] w (fun o w1 => o = .inr "java/lang/IndexOutOfBoundsException" ∧ IV g ad t u w1) 1 6 := by
  obtain ⟨e_a, w_a, k_a⟩ := hI.1.2 0 (by decide)
  obtain rfl := kd_0.mp k_a
  obtain ⟨e_pa, w_pa, k_pa⟩ := hI.1.2 1 (by decide)
  obtain rfl := kd_1.mp k_pa
  obtain ⟨e_pa1, w_pa1, k_pa1⟩ := hI.1.2 2 (by decide)
  obtain rfl := kd_2.mp k_pa1
  obtain ⟨e_pa2, w_pa2, k_pa2⟩ := hI.1.2 3 (by decide)
  obtain ⟨v_pa2_f, rfl⟩ := kd_3.mp k_pa2
  obtain ⟨e_pa3, w_pa3, k_pa3⟩ := hI.1.2 4 (by decide)
  obtain ⟨v_pa3_h, rfl⟩ := kd_4.mp k_pa3
  obtain ⟨e_sa, w_sa, k_sa⟩ := hI.1.2 18 (by decide)
  obtain ⟨v_sa_x, v_sa_y, rfl⟩ := kd_18.mp k_sa
  obtain ⟨e_sa1, w_sa1, k_sa1⟩ := hI.1.2 19 (by decide)
  obtain ⟨v_sa1_f, rfl⟩ := kd_19.mp k_sa1
  obtain ⟨e_sa2, w_sa2, k_sa2⟩ := hI.1.2 20 (by decide)
  obtain ⟨v_sa2_f, rfl⟩ := kd_20.mp k_sa2
  obtain ⟨e_saz, w_saz, k_saz⟩ := hI.1.2 21 (by decide)
  obtain ⟨v_saz_x, rfl⟩ := kd_21.mp k_saz
  obtain ⟨e_saz1, w_saz1, k_saz1⟩ := hI.1.2 22 (by decide)
  obtain ⟨v_saz1_f, rfl⟩ := kd_22.mp k_saz1
  obtain ⟨e_saz2, w_saz2, k_saz2⟩ := hI.1.2 23 (by decide)
  obtain ⟨v_saz2_f, rfl⟩ := kd_23.mp k_saz2
  obtain ⟨e_saz3, w_saz3, k_saz3⟩ := hI.1.2 24 (by decide)
  obtain ⟨v_saz3_f, rfl⟩ := kd_24.mp k_saz3
  obtain ⟨e_saz4, w_saz4, k_saz4⟩ := hI.1.2 25 (by decide)
  obtain ⟨v_saz4_f, rfl⟩ := kd_25.mp k_saz4
  obtain ⟨e_saz5, w_saz5, k_saz5⟩ := hI.1.2 26 (by decide)
  obtain ⟨v_saz5_f, rfl⟩ := kd_26.mp k_saz5
  obtain ⟨e_saz6, w_saz6, k_saz6⟩ := hI.1.2 27 (by decide)
  obtain ⟨v_saz6_f, rfl⟩ := kd_27.mp k_saz6
  obtain ⟨e_sa4, w_sa4, k_sa4⟩ := hI.1.2 28 (by decide)
  obtain ⟨v_sa4_f, rfl⟩ := kd_28.mp k_sa4
  obtain ⟨e_sa5, w_sa5, k_sa5⟩ := hI.1.2 29 (by decide)
  obtain ⟨v_sa5_f, rfl⟩ := kd_29.mp k_sa5
  obtain ⟨e_sa6, w_sa6, k_sa6⟩ := hI.1.2 30 (by decide)
  obtain ⟨v_sa6_h, rfl⟩ := kd_30.mp k_sa6
  refine ((C_Ip_heatAtE g (ad 0) (ad 1) (ad 5) (ad 18) (ad 31) (ad 32) (ad 36) (ad 42) (ad 45) (ad 47) (ad 49) (ad 50) (ad 51) (ad 2) (ad 3) (ad 4) ((t.1 2).1) v_pa2_f v_pa3_h ((t.1 1).2.2 0) (ad 19) (ad 20) (ad 21) (ad 22) (ad 23) (ad 24) (ad 25) (ad 26) (ad 27) (ad 28) (ad 29) (ad 30) ((v_sa1_f, v_sa2_f, v_sa_x, v_sa_y), (((v_saz1_f, v_saz3_f, v_saz4_f, v_saz_x), v_saz2_f), v_saz5_f, v_saz6_f), (v_sa4_f, v_sa5_f, v_sa6_h)) x y h st hz).at (hI.1.I [0, 1, 2, 3, 4, 18, 19, 20, 21, 22, 23, 24, 25, 26, 27, 28, 29, 30] _ rfl (by decide) (by decide) (List.forall_mem_cons.mpr ⟨w_a, (List.forall_mem_cons.mpr ⟨w_pa, (List.forall_mem_cons.mpr ⟨w_pa1, (List.forall_mem_cons.mpr ⟨w_pa2, (List.forall_mem_cons.mpr ⟨w_pa3, (List.forall_mem_cons.mpr ⟨w_sa, (List.forall_mem_cons.mpr ⟨w_sa1, (List.forall_mem_cons.mpr ⟨w_sa2, (List.forall_mem_cons.mpr ⟨w_saz, (List.forall_mem_cons.mpr ⟨w_saz1, (List.forall_mem_cons.mpr ⟨w_saz2, (List.forall_mem_cons.mpr ⟨w_saz3, (List.forall_mem_cons.mpr ⟨w_saz4, (List.forall_mem_cons.mpr ⟨w_saz5, (List.forall_mem_cons.mpr ⟨w_saz6, (List.forall_mem_cons.mpr ⟨w_sa4, (List.forall_mem_cons.mpr ⟨w_sa5, (List.forall_mem_cons.mpr ⟨w_sa6, (fun _ h => nomatch h)⟩)⟩)⟩)⟩)⟩)⟩)⟩)⟩)⟩)⟩)⟩)⟩)⟩)⟩)⟩)⟩)⟩)⟩))).mono (Nat.le_of_ble_eq_true rfl) (Nat.le_of_ble_eq_true rfl) (fun o w1 hp => ?_)
  obtain ⟨cs1, hp, hi9⟩ := hp
  obtain ⟨e1, e2⟩ := hp
  subst e1; subst e2
  exact ⟨rfl, hI.fix (t2 := t) (is := [0, 1, 2, 3, 4, 18, 19, 20, 21, 22, 23, 24, 25, 26, 27, 28, 29, 30]) hi9 rfl ⟨kd_0.mpr rfl, kd_1.mpr rfl, kd_2.mpr rfl, kd_3.mpr ⟨_, rfl⟩, kd_4.mpr ⟨_, rfl⟩, kd_18.mpr ⟨_, _, rfl⟩, kd_19.mpr ⟨_, rfl⟩, kd_20.mpr ⟨_, rfl⟩, kd_21.mpr ⟨_, rfl⟩, kd_22.mpr ⟨_, rfl⟩, kd_23.mpr ⟨_, rfl⟩, kd_24.mpr ⟨_, rfl⟩, kd_25.mpr ⟨_, rfl⟩, kd_26.mpr ⟨_, rfl⟩, kd_27.mpr ⟨_, rfl⟩, kd_28.mpr ⟨_, rfl⟩, kd_29.mpr ⟨_, rfl⟩, kd_30.mpr ⟨_, rfl⟩, trivial⟩ (by decide) (by decide) (fun _ _ _ => rfl) (fun h => h) rfl⟩
theorem K_Ip_heatAt {g : zG} {ad : Nat → Nat} {t : zTT} {u : zNN} {w : zW} (hI : IVm g ad t u w) (x y h st : Int32) : zMB g M_Ip_heatAt [.ref (ad 0), .int x, .int y, .int h, .int st] w (CKx g ad t u.1 ["java/lang/IndexOutOfBoundsException", "java/lang/IllegalArgumentException"]) 10 300 := by
  obtain ⟨s, hI⟩ := hI
  by_cases hq : 0 ≤ x ∧ x < 12 ∧ 0 ≤ y ∧ y < 9
  · obtain ⟨x0, y0, hx0, hy0, rfl, rfl, hz⟩ := z_cl_in hq
    by_cases hh : 1200 ≤ h ∧ h ≤ 1500
    · by_cases hs : 0 ≤ st ∧ st ≤ 400
      · obtain ⟨kd, hkd, es⟩ := z_in20 (b := 400) (by decide) hs
        subst es
        exact (Qx_Ip_heatAtN hI (nI x0) (nI y0) h kd hkd _ hz hh).mono (by decide) (by decide) (fun o w1 h => ⟨(Or.inl h.1 : zri _ _), u, rfl, ⟨_, h.2⟩⟩)
      · exact (Qx_Ip_heatAtG hI (nI x0) (nI y0) h st _ hz hh (z_stp hs)).mono (by decide) (by decide) (fun o w1 h => ⟨zri.th h.1 (by simp), u, rfl, ⟨_, h.2⟩⟩)
    · exact (Qx_Ip_heatAtF hI (nI x0) (nI y0) h st _ hz hh).mono (by decide) (by decide) (fun o w1 h => ⟨zri.th h.1 (by simp), u, rfl, ⟨_, h.2⟩⟩)
  · exact (Qx_Ip_heatAtE hI x y h st (if_neg hq)).mono (by decide) (by decide) (fun o w1 h => ⟨zri.th h.1 (by simp), u, rfl, ⟨_, h.2⟩⟩)
set_option maxHeartbeats 4000000 in
theorem Qx_Ip_shrunkN {g : zG} {ad : Nat → Nat} {t : zTT} {u : zNN} {w : zW} (hI : IV g ad t u w) (h : Int32) (hh : 1200 ≤ h ∧ h ≤ 1500) : zMB g M_Ip_shrunk [.ref (ad 0), .int h] w (fun o w1 => o = .inl (some (.int (nI (shN (frT h ((((t.1 6).1), ((t.1 7).1), (t.1 5).1 0, (t.1 5).1 1), (((((t.1 9).1), ((t.1 11).1), ((t.1 12).1), (t.1 8).1 0), ((t.1 10).1)), ((t.1 13).1), ((t.1 14).1)), (((t.1 15).1), ((t.1 16).1), ((t.1 17).2.2)))))))) ∧ IV g ad (zup t.1 [(5, ((upd (upd ((t.1 5).1) 0 ((frT h ((((t.1 6).1), ((t.1 7).1), (t.1 5).1 0, (t.1 5).1 1), (((((t.1 9).1), ((t.1 11).1), ((t.1 12).1), (t.1 8).1 0), ((t.1 10).1)), ((t.1 13).1), ((t.1 14).1)), (((t.1 15).1), ((t.1 16).1), ((t.1 17).2.2)))).1.2.2.1)) 1 ((frT h ((((t.1 6).1), ((t.1 7).1), (t.1 5).1 0, (t.1 5).1 1), (((((t.1 9).1), ((t.1 11).1), ((t.1 12).1), (t.1 8).1 0), ((t.1 10).1)), ((t.1 13).1), ((t.1 14).1)), (((t.1 15).1), ((t.1 16).1), ((t.1 17).2.2)))).1.2.2.2)), (t.1 5).2.1, (t.1 5).2.2)), (6, ((frT h ((((t.1 6).1), ((t.1 7).1), (t.1 5).1 0, (t.1 5).1 1), (((((t.1 9).1), ((t.1 11).1), ((t.1 12).1), (t.1 8).1 0), ((t.1 10).1)), ((t.1 13).1), ((t.1 14).1)), (((t.1 15).1), ((t.1 16).1), ((t.1 17).2.2)))).1.1, (t.1 6).2)), (7, ((frT h ((((t.1 6).1), ((t.1 7).1), (t.1 5).1 0, (t.1 5).1 1), (((((t.1 9).1), ((t.1 11).1), ((t.1 12).1), (t.1 8).1 0), ((t.1 10).1)), ((t.1 13).1), ((t.1 14).1)), (((t.1 15).1), ((t.1 16).1), ((t.1 17).2.2)))).1.2.1, (t.1 7).2)), (8, ((upd ((t.1 8).1) 0 ((frT h ((((t.1 6).1), ((t.1 7).1), (t.1 5).1 0, (t.1 5).1 1), (((((t.1 9).1), ((t.1 11).1), ((t.1 12).1), (t.1 8).1 0), ((t.1 10).1)), ((t.1 13).1), ((t.1 14).1)), (((t.1 15).1), ((t.1 16).1), ((t.1 17).2.2)))).2.1.1.1.2.2.2)), (t.1 8).2.1, (t.1 8).2.2)), (9, ((frT h ((((t.1 6).1), ((t.1 7).1), (t.1 5).1 0, (t.1 5).1 1), (((((t.1 9).1), ((t.1 11).1), ((t.1 12).1), (t.1 8).1 0), ((t.1 10).1)), ((t.1 13).1), ((t.1 14).1)), (((t.1 15).1), ((t.1 16).1), ((t.1 17).2.2)))).2.1.1.1.1, (t.1 9).2)), (10, ((frT h ((((t.1 6).1), ((t.1 7).1), (t.1 5).1 0, (t.1 5).1 1), (((((t.1 9).1), ((t.1 11).1), ((t.1 12).1), (t.1 8).1 0), ((t.1 10).1)), ((t.1 13).1), ((t.1 14).1)), (((t.1 15).1), ((t.1 16).1), ((t.1 17).2.2)))).2.1.1.2, (t.1 10).2)), (11, ((frT h ((((t.1 6).1), ((t.1 7).1), (t.1 5).1 0, (t.1 5).1 1), (((((t.1 9).1), ((t.1 11).1), ((t.1 12).1), (t.1 8).1 0), ((t.1 10).1)), ((t.1 13).1), ((t.1 14).1)), (((t.1 15).1), ((t.1 16).1), ((t.1 17).2.2)))).2.1.1.1.2.1, (t.1 11).2)), (12, ((frT h ((((t.1 6).1), ((t.1 7).1), (t.1 5).1 0, (t.1 5).1 1), (((((t.1 9).1), ((t.1 11).1), ((t.1 12).1), (t.1 8).1 0), ((t.1 10).1)), ((t.1 13).1), ((t.1 14).1)), (((t.1 15).1), ((t.1 16).1), ((t.1 17).2.2)))).2.1.1.1.2.2.1, (t.1 12).2)), (13, ((frT h ((((t.1 6).1), ((t.1 7).1), (t.1 5).1 0, (t.1 5).1 1), (((((t.1 9).1), ((t.1 11).1), ((t.1 12).1), (t.1 8).1 0), ((t.1 10).1)), ((t.1 13).1), ((t.1 14).1)), (((t.1 15).1), ((t.1 16).1), ((t.1 17).2.2)))).2.1.2.1, (t.1 13).2)), (14, ((frT h ((((t.1 6).1), ((t.1 7).1), (t.1 5).1 0, (t.1 5).1 1), (((((t.1 9).1), ((t.1 11).1), ((t.1 12).1), (t.1 8).1 0), ((t.1 10).1)), ((t.1 13).1), ((t.1 14).1)), (((t.1 15).1), ((t.1 16).1), ((t.1 17).2.2)))).2.1.2.2, (t.1 14).2)), (15, ((frT h ((((t.1 6).1), ((t.1 7).1), (t.1 5).1 0, (t.1 5).1 1), (((((t.1 9).1), ((t.1 11).1), ((t.1 12).1), (t.1 8).1 0), ((t.1 10).1)), ((t.1 13).1), ((t.1 14).1)), (((t.1 15).1), ((t.1 16).1), ((t.1 17).2.2)))).2.2.1, (t.1 15).2)), (16, ((frT h ((((t.1 6).1), ((t.1 7).1), (t.1 5).1 0, (t.1 5).1 1), (((((t.1 9).1), ((t.1 11).1), ((t.1 12).1), (t.1 8).1 0), ((t.1 10).1)), ((t.1 13).1), ((t.1 14).1)), (((t.1 15).1), ((t.1 16).1), ((t.1 17).2.2)))).2.2.2.1, (t.1 16).2)), (17, ((t.1 17).1, (t.1 17).2.1, (frT h ((((t.1 6).1), ((t.1 7).1), (t.1 5).1 0, (t.1 5).1 1), (((((t.1 9).1), ((t.1 11).1), ((t.1 12).1), (t.1 8).1 0), ((t.1 10).1)), ((t.1 13).1), ((t.1 14).1)), (((t.1 15).1), ((t.1 16).1), ((t.1 17).2.2)))).2.2.2.2))], t.2) u w1) 1 6 := by
  obtain ⟨e_a, w_a, k_a⟩ := hI.1.2 0 (by decide)
  obtain rfl := kd_0.mp k_a
  obtain ⟨e_ta, w_ta, k_ta⟩ := hI.1.2 5 (by decide)
  obtain rfl := kd_5.mp k_ta
  obtain ⟨e_ta1, w_ta1, k_ta1⟩ := hI.1.2 6 (by decide)
  obtain rfl := kd_6.mp k_ta1
  obtain ⟨e_ta2, w_ta2, k_ta2⟩ := hI.1.2 7 (by decide)
  obtain rfl := kd_7.mp k_ta2
  obtain ⟨e_taz, w_taz, k_taz⟩ := hI.1.2 8 (by decide)
  obtain rfl := kd_8.mp k_taz
  obtain ⟨e_taz1, w_taz1, k_taz1⟩ := hI.1.2 9 (by decide)
  obtain rfl := kd_9.mp k_taz1
  obtain ⟨e_taz2, w_taz2, k_taz2⟩ := hI.1.2 10 (by decide)
  obtain rfl := kd_10.mp k_taz2
  obtain ⟨e_taz3, w_taz3, k_taz3⟩ := hI.1.2 11 (by decide)
  obtain rfl := kd_11.mp k_taz3
  obtain ⟨e_taz4, w_taz4, k_taz4⟩ := hI.1.2 12 (by decide)
  obtain rfl := kd_12.mp k_taz4
  obtain ⟨e_taz5, w_taz5, k_taz5⟩ := hI.1.2 13 (by decide)
  obtain rfl := kd_13.mp k_taz5
  obtain ⟨e_taz6, w_taz6, k_taz6⟩ := hI.1.2 14 (by decide)
  obtain rfl := kd_14.mp k_taz6
  obtain ⟨e_ta4, w_ta4, k_ta4⟩ := hI.1.2 15 (by decide)
  obtain ⟨c_ta4_0, rfl⟩ := kd_15.mp k_ta4
  obtain ⟨e_ta5, w_ta5, k_ta5⟩ := hI.1.2 16 (by decide)
  obtain rfl := kd_16.mp k_ta5
  obtain ⟨e_ta6, w_ta6, k_ta6⟩ := hI.1.2 17 (by decide)
  obtain rfl := kd_17.mp k_ta6
  refine ((C_Ip_shrunkN g (ad 0) (ad 1) (ad 5) (ad 18) (ad 31) (ad 32) (ad 36) (ad 42) (ad 45) (ad 47) (ad 49) (ad 50) (ad 51) (ad 6) (ad 7) (ad 8) (ad 9) (ad 10) (ad 11) (ad 12) (ad 13) (ad 14) (ad 15) (ad 16) (ad 17) ((((t.1 6).1), ((t.1 7).1), (t.1 5).1 0, (t.1 5).1 1), (((((t.1 9).1), ((t.1 11).1), ((t.1 12).1), (t.1 8).1 0), ((t.1 10).1)), ((t.1 13).1), ((t.1 14).1)), (((t.1 15).1), ((t.1 16).1), ((t.1 17).2.2))) h hh).at (hI.1.I [0, 5, 6, 7, 8, 9, 10, 11, 12, 13, 14, 15, 16, 17] _ rfl (by decide) (by decide) (List.forall_mem_cons.mpr ⟨w_a, (List.forall_mem_cons.mpr ⟨w_ta, (List.forall_mem_cons.mpr ⟨w_ta1, (List.forall_mem_cons.mpr ⟨w_ta2, (List.forall_mem_cons.mpr ⟨w_taz, (List.forall_mem_cons.mpr ⟨w_taz1, (List.forall_mem_cons.mpr ⟨w_taz2, (List.forall_mem_cons.mpr ⟨w_taz3, (List.forall_mem_cons.mpr ⟨w_taz4, (List.forall_mem_cons.mpr ⟨w_taz5, (List.forall_mem_cons.mpr ⟨w_taz6, (List.forall_mem_cons.mpr ⟨w_ta4, (List.forall_mem_cons.mpr ⟨w_ta5, (List.forall_mem_cons.mpr ⟨w_ta6, (fun _ h => nomatch h)⟩)⟩)⟩)⟩)⟩)⟩)⟩)⟩)⟩)⟩)⟩)⟩)⟩)⟩))).mono (Nat.le_of_ble_eq_true rfl) (Nat.le_of_ble_eq_true rfl) (fun o w1 hp => ?_)
  obtain ⟨cs1, hp, hi9⟩ := hp
  obtain ⟨e1, e2⟩ := hp
  subst e1; subst e2
  exact ⟨rfl, hI.fix (t2 := (zup t.1 [(5, ((upd (upd ((t.1 5).1) 0 ((frT h ((((t.1 6).1), ((t.1 7).1), (t.1 5).1 0, (t.1 5).1 1), (((((t.1 9).1), ((t.1 11).1), ((t.1 12).1), (t.1 8).1 0), ((t.1 10).1)), ((t.1 13).1), ((t.1 14).1)), (((t.1 15).1), ((t.1 16).1), ((t.1 17).2.2)))).1.2.2.1)) 1 ((frT h ((((t.1 6).1), ((t.1 7).1), (t.1 5).1 0, (t.1 5).1 1), (((((t.1 9).1), ((t.1 11).1), ((t.1 12).1), (t.1 8).1 0), ((t.1 10).1)), ((t.1 13).1), ((t.1 14).1)), (((t.1 15).1), ((t.1 16).1), ((t.1 17).2.2)))).1.2.2.2)), (t.1 5).2.1, (t.1 5).2.2)), (6, ((frT h ((((t.1 6).1), ((t.1 7).1), (t.1 5).1 0, (t.1 5).1 1), (((((t.1 9).1), ((t.1 11).1), ((t.1 12).1), (t.1 8).1 0), ((t.1 10).1)), ((t.1 13).1), ((t.1 14).1)), (((t.1 15).1), ((t.1 16).1), ((t.1 17).2.2)))).1.1, (t.1 6).2)), (7, ((frT h ((((t.1 6).1), ((t.1 7).1), (t.1 5).1 0, (t.1 5).1 1), (((((t.1 9).1), ((t.1 11).1), ((t.1 12).1), (t.1 8).1 0), ((t.1 10).1)), ((t.1 13).1), ((t.1 14).1)), (((t.1 15).1), ((t.1 16).1), ((t.1 17).2.2)))).1.2.1, (t.1 7).2)), (8, ((upd ((t.1 8).1) 0 ((frT h ((((t.1 6).1), ((t.1 7).1), (t.1 5).1 0, (t.1 5).1 1), (((((t.1 9).1), ((t.1 11).1), ((t.1 12).1), (t.1 8).1 0), ((t.1 10).1)), ((t.1 13).1), ((t.1 14).1)), (((t.1 15).1), ((t.1 16).1), ((t.1 17).2.2)))).2.1.1.1.2.2.2)), (t.1 8).2.1, (t.1 8).2.2)), (9, ((frT h ((((t.1 6).1), ((t.1 7).1), (t.1 5).1 0, (t.1 5).1 1), (((((t.1 9).1), ((t.1 11).1), ((t.1 12).1), (t.1 8).1 0), ((t.1 10).1)), ((t.1 13).1), ((t.1 14).1)), (((t.1 15).1), ((t.1 16).1), ((t.1 17).2.2)))).2.1.1.1.1, (t.1 9).2)), (10, ((frT h ((((t.1 6).1), ((t.1 7).1), (t.1 5).1 0, (t.1 5).1 1), (((((t.1 9).1), ((t.1 11).1), ((t.1 12).1), (t.1 8).1 0), ((t.1 10).1)), ((t.1 13).1), ((t.1 14).1)), (((t.1 15).1), ((t.1 16).1), ((t.1 17).2.2)))).2.1.1.2, (t.1 10).2)), (11, ((frT h ((((t.1 6).1), ((t.1 7).1), (t.1 5).1 0, (t.1 5).1 1), (((((t.1 9).1), ((t.1 11).1), ((t.1 12).1), (t.1 8).1 0), ((t.1 10).1)), ((t.1 13).1), ((t.1 14).1)), (((t.1 15).1), ((t.1 16).1), ((t.1 17).2.2)))).2.1.1.1.2.1, (t.1 11).2)), (12, ((frT h ((((t.1 6).1), ((t.1 7).1), (t.1 5).1 0, (t.1 5).1 1), (((((t.1 9).1), ((t.1 11).1), ((t.1 12).1), (t.1 8).1 0), ((t.1 10).1)), ((t.1 13).1), ((t.1 14).1)), (((t.1 15).1), ((t.1 16).1), ((t.1 17).2.2)))).2.1.1.1.2.2.1, (t.1 12).2)), (13, ((frT h ((((t.1 6).1), ((t.1 7).1), (t.1 5).1 0, (t.1 5).1 1), (((((t.1 9).1), ((t.1 11).1), ((t.1 12).1), (t.1 8).1 0), ((t.1 10).1)), ((t.1 13).1), ((t.1 14).1)), (((t.1 15).1), ((t.1 16).1), ((t.1 17).2.2)))).2.1.2.1, (t.1 13).2)), (14, ((frT h ((((t.1 6).1), ((t.1 7).1), (t.1 5).1 0, (t.1 5).1 1), (((((t.1 9).1), ((t.1 11).1), ((t.1 12).1), (t.1 8).1 0), ((t.1 10).1)), ((t.1 13).1), ((t.1 14).1)), (((t.1 15).1), ((t.1 16).1), ((t.1 17).2.2)))).2.1.2.2, (t.1 14).2)), (15, ((frT h ((((t.1 6).1), ((t.1 7).1), (t.1 5).1 0, (t.1 5).1 1), (((((t.1 9).1), ((t.1 11).1), ((t.1 12).1), (t.1 8).1 0), ((t.1 10).1)), ((t.1 13).1), ((t.1 14).1)), (((t.1 15).1), ((t.1 16).1), ((t.1 17).2.2)))).2.2.1, (t.1 15).2)), (16, ((frT h ((((t.1 6).1), ((t.1 7).1), (t.1 5).1 0, (t.1 5).1 1), (((((t.1 9).1), ((t.1 11).1), ((t.1 12).1), (t.1 8).1 0), ((t.1 10).1)), ((t.1 13).1), ((t.1 14).1)), (((t.1 15).1), ((t.1 16).1), ((t.1 17).2.2)))).2.2.2.1, (t.1 16).2)), (17, ((t.1 17).1, (t.1 17).2.1, (frT h ((((t.1 6).1), ((t.1 7).1), (t.1 5).1 0, (t.1 5).1 1), (((((t.1 9).1), ((t.1 11).1), ((t.1 12).1), (t.1 8).1 0), ((t.1 10).1)), ((t.1 13).1), ((t.1 14).1)), (((t.1 15).1), ((t.1 16).1), ((t.1 17).2.2)))).2.2.2.2))], t.2)) (is := [0, 5, 6, 7, 8, 9, 10, 11, 12, 13, 14, 15, 16, 17]) hi9 rfl ⟨kd_0.mpr rfl, kd_5.mpr rfl, kd_6.mpr rfl, kd_7.mpr rfl, kd_8.mpr rfl, kd_9.mpr rfl, kd_10.mpr rfl, kd_11.mpr rfl, kd_12.mpr rfl, kd_13.mpr rfl, kd_14.mpr rfl, kd_15.mpr ⟨(frT_01 (X := ((((t.1 6).1), ((t.1 7).1), (t.1 5).1 0, (t.1 5).1 1), (((((t.1 9).1), ((t.1 11).1), ((t.1 12).1), (t.1 8).1 0), ((t.1 10).1)), ((t.1 13).1), ((t.1 14).1)), (((t.1 15).1), ((t.1 16).1), ((t.1 17).2.2)))) c_ta4_0), rfl⟩, kd_16.mpr rfl, kd_17.mpr rfl, trivial⟩ (by decide) (by decide) (fun i hi hn => zup_out (fun q => hn ((by decide : ∀ j ∈ ([5, 6, 7, 8, 9, 10, 11, 12, 13, 14, 15, 16, 17] : List Nat), j ∈ ([0, 5, 6, 7, 8, 9, 10, 11, 12, 13, 14, 15, 16, 17] : List Nat)) i q))) (fun h => h) rfl⟩
set_option maxHeartbeats 4000000 in
theorem Qx_Ip_shrunkE {g : zG} {ad : Nat → Nat} {t : zTT} {u : zNN} {w : zW} (hI : IV g ad t u w) (h : Int32) (hh : ¬ (1200 ≤ h ∧ h ≤ 1500)) : zMB g M_Ip_shrunk [.ref (ad 0), .int h] w (fun o w1 => o = .inr "java/lang/IllegalArgumentException" ∧ IV g ad (zup t.1 [(5, ((upd (upd ((t.1 5).1) 0 (((((t.1 6).1), ((t.1 7).1), (t.1 5).1 0, (t.1 5).1 1), (((((t.1 9).1), ((t.1 11).1), ((t.1 12).1), (t.1 8).1 0), ((t.1 10).1)), ((t.1 13).1), ((t.1 14).1)), (((t.1 15).1), ((t.1 16).1), ((t.1 17).2.2))).1.2.2.1)) 1 (((((t.1 6).1), ((t.1 7).1), (t.1 5).1 0, (t.1 5).1 1), (((((t.1 9).1), ((t.1 11).1), ((t.1 12).1), (t.1 8).1 0), ((t.1 10).1)), ((t.1 13).1), ((t.1 14).1)), (((t.1 15).1), ((t.1 16).1), ((t.1 17).2.2))).1.2.2.2)), (t.1 5).2.1, (t.1 5).2.2)), (6, (((((t.1 6).1), ((t.1 7).1), (t.1 5).1 0, (t.1 5).1 1), (((((t.1 9).1), ((t.1 11).1), ((t.1 12).1), (t.1 8).1 0), ((t.1 10).1)), ((t.1 13).1), ((t.1 14).1)), (((t.1 15).1), ((t.1 16).1), ((t.1 17).2.2))).1.1, (t.1 6).2)), (7, (((((t.1 6).1), ((t.1 7).1), (t.1 5).1 0, (t.1 5).1 1), (((((t.1 9).1), ((t.1 11).1), ((t.1 12).1), (t.1 8).1 0), ((t.1 10).1)), ((t.1 13).1), ((t.1 14).1)), (((t.1 15).1), ((t.1 16).1), ((t.1 17).2.2))).1.2.1, (t.1 7).2)), (8, ((upd ((t.1 8).1) 0 (((((t.1 6).1), ((t.1 7).1), (t.1 5).1 0, (t.1 5).1 1), (((((t.1 9).1), ((t.1 11).1), ((t.1 12).1), (t.1 8).1 0), ((t.1 10).1)), ((t.1 13).1), ((t.1 14).1)), (((t.1 15).1), ((t.1 16).1), ((t.1 17).2.2))).2.1.1.1.2.2.2)), (t.1 8).2.1, (t.1 8).2.2)), (9, (((((t.1 6).1), ((t.1 7).1), (t.1 5).1 0, (t.1 5).1 1), (((((t.1 9).1), ((t.1 11).1), ((t.1 12).1), (t.1 8).1 0), ((t.1 10).1)), ((t.1 13).1), ((t.1 14).1)), (((t.1 15).1), ((t.1 16).1), ((t.1 17).2.2))).2.1.1.1.1, (t.1 9).2)), (10, (((((t.1 6).1), ((t.1 7).1), (t.1 5).1 0, (t.1 5).1 1), (((((t.1 9).1), ((t.1 11).1), ((t.1 12).1), (t.1 8).1 0), ((t.1 10).1)), ((t.1 13).1), ((t.1 14).1)), (((t.1 15).1), ((t.1 16).1), ((t.1 17).2.2))).2.1.1.2, (t.1 10).2)), (11, (((((t.1 6).1), ((t.1 7).1), (t.1 5).1 0, (t.1 5).1 1), (((((t.1 9).1), ((t.1 11).1), ((t.1 12).1), (t.1 8).1 0), ((t.1 10).1)), ((t.1 13).1), ((t.1 14).1)), (((t.1 15).1), ((t.1 16).1), ((t.1 17).2.2))).2.1.1.1.2.1, (t.1 11).2)), (12, (((((t.1 6).1), ((t.1 7).1), (t.1 5).1 0, (t.1 5).1 1), (((((t.1 9).1), ((t.1 11).1), ((t.1 12).1), (t.1 8).1 0), ((t.1 10).1)), ((t.1 13).1), ((t.1 14).1)), (((t.1 15).1), ((t.1 16).1), ((t.1 17).2.2))).2.1.1.1.2.2.1, (t.1 12).2)), (13, (((((t.1 6).1), ((t.1 7).1), (t.1 5).1 0, (t.1 5).1 1), (((((t.1 9).1), ((t.1 11).1), ((t.1 12).1), (t.1 8).1 0), ((t.1 10).1)), ((t.1 13).1), ((t.1 14).1)), (((t.1 15).1), ((t.1 16).1), ((t.1 17).2.2))).2.1.2.1, (t.1 13).2)), (14, (((((t.1 6).1), ((t.1 7).1), (t.1 5).1 0, (t.1 5).1 1), (((((t.1 9).1), ((t.1 11).1), ((t.1 12).1), (t.1 8).1 0), ((t.1 10).1)), ((t.1 13).1), ((t.1 14).1)), (((t.1 15).1), ((t.1 16).1), ((t.1 17).2.2))).2.1.2.2, (t.1 14).2)), (15, (((((t.1 6).1), ((t.1 7).1), (t.1 5).1 0, (t.1 5).1 1), (((((t.1 9).1), ((t.1 11).1), ((t.1 12).1), (t.1 8).1 0), ((t.1 10).1)), ((t.1 13).1), ((t.1 14).1)), (((t.1 15).1), ((t.1 16).1), ((t.1 17).2.2))).2.2.1, (t.1 15).2)), (16, (((((t.1 6).1), ((t.1 7).1), (t.1 5).1 0, (t.1 5).1 1), (((((t.1 9).1), ((t.1 11).1), ((t.1 12).1), (t.1 8).1 0), ((t.1 10).1)), ((t.1 13).1), ((t.1 14).1)), (((t.1 15).1), ((t.1 16).1), ((t.1 17).2.2))).2.2.2.1, (t.1 16).2)), (17, ((t.1 17).1, (t.1 17).2.1, ((((t.1 6).1), ((t.1 7).1), (t.1 5).1 0, (t.1 5).1 1), (((((t.1 9).1), ((t.1 11).1), ((t.1 12).1), (t.1 8).1 0), ((t.1 10).1)), ((t.1 13).1), ((t.1 14).1)), (((t.1 15).1), ((t.1 16).1), ((t.1 17).2.2))).2.2.2.2))], t.2) u w1) 1 6 := by
  obtain ⟨e_a, w_a, k_a⟩ := hI.1.2 0 (by decide)
  obtain rfl := kd_0.mp k_a
  obtain ⟨e_ta, w_ta, k_ta⟩ := hI.1.2 5 (by decide)
  obtain rfl := kd_5.mp k_ta
  obtain ⟨e_ta1, w_ta1, k_ta1⟩ := hI.1.2 6 (by decide)
  obtain rfl := kd_6.mp k_ta1
  obtain ⟨e_ta2, w_ta2, k_ta2⟩ := hI.1.2 7 (by decide)
  obtain rfl := kd_7.mp k_ta2
  obtain ⟨e_taz, w_taz, k_taz⟩ := hI.1.2 8 (by decide)
  obtain rfl := kd_8.mp k_taz
  obtain ⟨e_taz1, w_taz1, k_taz1⟩ := hI.1.2 9 (by decide)
  obtain rfl := kd_9.mp k_taz1
  obtain ⟨e_taz2, w_taz2, k_taz2⟩ := hI.1.2 10 (by decide)
  obtain rfl := kd_10.mp k_taz2
  obtain ⟨e_taz3, w_taz3, k_taz3⟩ := hI.1.2 11 (by decide)
  obtain rfl := kd_11.mp k_taz3
  obtain ⟨e_taz4, w_taz4, k_taz4⟩ := hI.1.2 12 (by decide)
  obtain rfl := kd_12.mp k_taz4
  obtain ⟨e_taz5, w_taz5, k_taz5⟩ := hI.1.2 13 (by decide)
  obtain rfl := kd_13.mp k_taz5
  obtain ⟨e_taz6, w_taz6, k_taz6⟩ := hI.1.2 14 (by decide)
  obtain rfl := kd_14.mp k_taz6
  obtain ⟨e_ta4, w_ta4, k_ta4⟩ := hI.1.2 15 (by decide)
  obtain ⟨c_ta4_0, rfl⟩ := kd_15.mp k_ta4
  obtain ⟨e_ta5, w_ta5, k_ta5⟩ := hI.1.2 16 (by decide)
  obtain rfl := kd_16.mp k_ta5
  obtain ⟨e_ta6, w_ta6, k_ta6⟩ := hI.1.2 17 (by decide)
  obtain rfl := kd_17.mp k_ta6
  refine ((C_Ip_shrunkE g (ad 0) (ad 1) (ad 5) (ad 18) (ad 31) (ad 32) (ad 36) (ad 42) (ad 45) (ad 47) (ad 49) (ad 50) (ad 51) (ad 6) (ad 7) (ad 8) (ad 9) (ad 10) (ad 11) (ad 12) (ad 13) (ad 14) (ad 15) (ad 16) (ad 17) ((((t.1 6).1), ((t.1 7).1), (t.1 5).1 0, (t.1 5).1 1), (((((t.1 9).1), ((t.1 11).1), ((t.1 12).1), (t.1 8).1 0), ((t.1 10).1)), ((t.1 13).1), ((t.1 14).1)), (((t.1 15).1), ((t.1 16).1), ((t.1 17).2.2))) h hh).at (hI.1.I [0, 5, 6, 7, 8, 9, 10, 11, 12, 13, 14, 15, 16, 17] _ rfl (by decide) (by decide) (List.forall_mem_cons.mpr ⟨w_a, (List.forall_mem_cons.mpr ⟨w_ta, (List.forall_mem_cons.mpr ⟨w_ta1, (List.forall_mem_cons.mpr ⟨w_ta2, (List.forall_mem_cons.mpr ⟨w_taz, (List.forall_mem_cons.mpr ⟨w_taz1, (List.forall_mem_cons.mpr ⟨w_taz2, (List.forall_mem_cons.mpr ⟨w_taz3, (List.forall_mem_cons.mpr ⟨w_taz4, (List.forall_mem_cons.mpr ⟨w_taz5, (List.forall_mem_cons.mpr ⟨w_taz6, (List.forall_mem_cons.mpr ⟨w_ta4, (List.forall_mem_cons.mpr ⟨w_ta5, (List.forall_mem_cons.mpr ⟨w_ta6, (fun _ h => nomatch h)⟩)⟩)⟩)⟩)⟩)⟩)⟩)⟩)⟩)⟩)⟩)⟩)⟩)⟩))).mono (Nat.le_of_ble_eq_true rfl) (Nat.le_of_ble_eq_true rfl) (fun o w1 hp => ?_)
  obtain ⟨cs1, hp, hi9⟩ := hp
  obtain ⟨e1, e2⟩ := hp
  subst e1; subst e2
  exact ⟨rfl, hI.fix (t2 := (zup t.1 [(5, ((upd (upd ((t.1 5).1) 0 (((((t.1 6).1), ((t.1 7).1), (t.1 5).1 0, (t.1 5).1 1), (((((t.1 9).1), ((t.1 11).1), ((t.1 12).1), (t.1 8).1 0), ((t.1 10).1)), ((t.1 13).1), ((t.1 14).1)), (((t.1 15).1), ((t.1 16).1), ((t.1 17).2.2))).1.2.2.1)) 1 (((((t.1 6).1), ((t.1 7).1), (t.1 5).1 0, (t.1 5).1 1), (((((t.1 9).1), ((t.1 11).1), ((t.1 12).1), (t.1 8).1 0), ((t.1 10).1)), ((t.1 13).1), ((t.1 14).1)), (((t.1 15).1), ((t.1 16).1), ((t.1 17).2.2))).1.2.2.2)), (t.1 5).2.1, (t.1 5).2.2)), (6, (((((t.1 6).1), ((t.1 7).1), (t.1 5).1 0, (t.1 5).1 1), (((((t.1 9).1), ((t.1 11).1), ((t.1 12).1), (t.1 8).1 0), ((t.1 10).1)), ((t.1 13).1), ((t.1 14).1)), (((t.1 15).1), ((t.1 16).1), ((t.1 17).2.2))).1.1, (t.1 6).2)), (7, (((((t.1 6).1), ((t.1 7).1), (t.1 5).1 0, (t.1 5).1 1), (((((t.1 9).1), ((t.1 11).1), ((t.1 12).1), (t.1 8).1 0), ((t.1 10).1)), ((t.1 13).1), ((t.1 14).1)), (((t.1 15).1), ((t.1 16).1), ((t.1 17).2.2))).1.2.1, (t.1 7).2)), (8, ((upd ((t.1 8).1) 0 (((((t.1 6).1), ((t.1 7).1), (t.1 5).1 0, (t.1 5).1 1), (((((t.1 9).1), ((t.1 11).1), ((t.1 12).1), (t.1 8).1 0), ((t.1 10).1)), ((t.1 13).1), ((t.1 14).1)), (((t.1 15).1), ((t.1 16).1), ((t.1 17).2.2))).2.1.1.1.2.2.2)), (t.1 8).2.1, (t.1 8).2.2)), (9, (((((t.1 6).1), ((t.1 7).1), (t.1 5).1 0, (t.1 5).1 1), (((((t.1 9).1), ((t.1 11).1), ((t.1 12).1), (t.1 8).1 0), ((t.1 10).1)), ((t.1 13).1), ((t.1 14).1)), (((t.1 15).1), ((t.1 16).1), ((t.1 17).2.2))).2.1.1.1.1, (t.1 9).2)), (10, (((((t.1 6).1), ((t.1 7).1), (t.1 5).1 0, (t.1 5).1 1), (((((t.1 9).1), ((t.1 11).1), ((t.1 12).1), (t.1 8).1 0), ((t.1 10).1)), ((t.1 13).1), ((t.1 14).1)), (((t.1 15).1), ((t.1 16).1), ((t.1 17).2.2))).2.1.1.2, (t.1 10).2)), (11, (((((t.1 6).1), ((t.1 7).1), (t.1 5).1 0, (t.1 5).1 1), (((((t.1 9).1), ((t.1 11).1), ((t.1 12).1), (t.1 8).1 0), ((t.1 10).1)), ((t.1 13).1), ((t.1 14).1)), (((t.1 15).1), ((t.1 16).1), ((t.1 17).2.2))).2.1.1.1.2.1, (t.1 11).2)), (12, (((((t.1 6).1), ((t.1 7).1), (t.1 5).1 0, (t.1 5).1 1), (((((t.1 9).1), ((t.1 11).1), ((t.1 12).1), (t.1 8).1 0), ((t.1 10).1)), ((t.1 13).1), ((t.1 14).1)), (((t.1 15).1), ((t.1 16).1), ((t.1 17).2.2))).2.1.1.1.2.2.1, (t.1 12).2)), (13, (((((t.1 6).1), ((t.1 7).1), (t.1 5).1 0, (t.1 5).1 1), (((((t.1 9).1), ((t.1 11).1), ((t.1 12).1), (t.1 8).1 0), ((t.1 10).1)), ((t.1 13).1), ((t.1 14).1)), (((t.1 15).1), ((t.1 16).1), ((t.1 17).2.2))).2.1.2.1, (t.1 13).2)), (14, (((((t.1 6).1), ((t.1 7).1), (t.1 5).1 0, (t.1 5).1 1), (((((t.1 9).1), ((t.1 11).1), ((t.1 12).1), (t.1 8).1 0), ((t.1 10).1)), ((t.1 13).1), ((t.1 14).1)), (((t.1 15).1), ((t.1 16).1), ((t.1 17).2.2))).2.1.2.2, (t.1 14).2)), (15, (((((t.1 6).1), ((t.1 7).1), (t.1 5).1 0, (t.1 5).1 1), (((((t.1 9).1), ((t.1 11).1), ((t.1 12).1), (t.1 8).1 0), ((t.1 10).1)), ((t.1 13).1), ((t.1 14).1)), (((t.1 15).1), ((t.1 16).1), ((t.1 17).2.2))).2.2.1, (t.1 15).2)), (16, (((((t.1 6).1), ((t.1 7).1), (t.1 5).1 0, (t.1 5).1 1), (((((t.1 9).1), ((t.1 11).1), ((t.1 12).1), (t.1 8).1 0), ((t.1 10).1)), ((t.1 13).1), ((t.1 14).1)), (((t.1 15).1), ((t.1 16).1), ((t.1 17).2.2))).2.2.2.1, (t.1 16).2)), (17, ((t.1 17).1, (t.1 17).2.1, ((((t.1 6).1), ((t.1 7).1), (t.1 5).1 0, (t.1 5).1 1), (((((t.1 9).1), ((t.1 11).1), ((t.1 12).1), (t.1 8).1 0), ((t.1 10).1)), ((t.1 13).1), ((t.1 14).1)), (((t.1 15).1), ((t.1 16).1), ((t.1 17).2.2))).2.2.2.2))], t.2)) (is := [0, 5, 6, 7, 8, 9, 10, 11, 12, 13, 14, 15, 16, 17]) hi9 rfl ⟨kd_0.mpr rfl, kd_5.mpr rfl, kd_6.mpr rfl, kd_7.mpr rfl, kd_8.mpr rfl, kd_9.mpr rfl, kd_10.mpr rfl, kd_11.mpr rfl, kd_12.mpr rfl, kd_13.mpr rfl, kd_14.mpr rfl, kd_15.mpr ⟨c_ta4_0, rfl⟩, kd_16.mpr rfl, kd_17.mpr rfl, trivial⟩ (by decide) (by decide) (fun i hi hn => zup_out (fun q => hn ((by decide : ∀ j ∈ ([5, 6, 7, 8, 9, 10, 11, 12, 13, 14, 15, 16, 17] : List Nat), j ∈ ([0, 5, 6, 7, 8, 9, 10, 11, 12, 13, 14, 15, 16, 17] : List Nat)) i q))) (fun h => h) rfl⟩
theorem K_Ip_shrunk {g : zG} {ad : Nat → Nat} {t : zTT} {u : zNN} {w : zW} (hI : IVm g ad t u w) (h : Int32) : zMB g M_Ip_shrunk [.ref (ad 0), .int h] w (CKx g ad t u.1 ["java/lang/IllegalArgumentException"]) 10 300 := by
  obtain ⟨s, hI⟩ := hI
  by_cases hh : 1200 ≤ h ∧ h ≤ 1500
  · exact (Qx_Ip_shrunkN hI h hh).mono (by decide) (by decide) (fun o w1 h => ⟨zri.vl h.1, u, rfl, IVm.tz h.2 (tx_all rfl)⟩)
  · exact (Qx_Ip_shrunkE hI h hh).mono (by decide) (by decide) (fun o w1 h => ⟨zri.th h.1 (by simp), u, rfl, IVm.tz h.2 (tx_all rfl)⟩)
set_option maxHeartbeats 4000000 in
theorem Qx_Ip_shrunkAnewN {g : zG} {ad : Nat → Nat} {t : zTT} {u : zNN} {w : zW} (hI : IV g ad t u w) (h : Int32) (hh : 1200 ≤ h ∧ h ≤ 1500) : zMB g M_Ip_shrunkAnew [.ref (ad 0), .int h] w (fun o w1 => o = .inl (some (.int (nI (cwX (frT h ((((t.1 6).1), ((t.1 7).1), (t.1 5).1 0, (t.1 5).1 1), (((((t.1 9).1), ((t.1 11).1), ((t.1 12).1), (t.1 8).1 0), ((t.1 10).1)), ((t.1 13).1), ((t.1 14).1)), (((t.1 15).1), ((t.1 16).1), ((t.1 17).2.2))))).2.2))) ∧ IV g ad (zup t.1 [(5, ((upd (upd ((t.1 5).1) 0 ((swT (frT h ((((t.1 6).1), ((t.1 7).1), (t.1 5).1 0, (t.1 5).1 1), (((((t.1 9).1), ((t.1 11).1), ((t.1 12).1), (t.1 8).1 0), ((t.1 10).1)), ((t.1 13).1), ((t.1 14).1)), (((t.1 15).1), ((t.1 16).1), ((t.1 17).2.2)))) (cwX (frT h ((((t.1 6).1), ((t.1 7).1), (t.1 5).1 0, (t.1 5).1 1), (((((t.1 9).1), ((t.1 11).1), ((t.1 12).1), (t.1 8).1 0), ((t.1 10).1)), ((t.1 13).1), ((t.1 14).1)), (((t.1 15).1), ((t.1 16).1), ((t.1 17).2.2))))).1 (cwX (frT h ((((t.1 6).1), ((t.1 7).1), (t.1 5).1 0, (t.1 5).1 1), (((((t.1 9).1), ((t.1 11).1), ((t.1 12).1), (t.1 8).1 0), ((t.1 10).1)), ((t.1 13).1), ((t.1 14).1)), (((t.1 15).1), ((t.1 16).1), ((t.1 17).2.2))))).2.1).1.2.2.1)) 1 ((swT (frT h ((((t.1 6).1), ((t.1 7).1), (t.1 5).1 0, (t.1 5).1 1), (((((t.1 9).1), ((t.1 11).1), ((t.1 12).1), (t.1 8).1 0), ((t.1 10).1)), ((t.1 13).1), ((t.1 14).1)), (((t.1 15).1), ((t.1 16).1), ((t.1 17).2.2)))) (cwX (frT h ((((t.1 6).1), ((t.1 7).1), (t.1 5).1 0, (t.1 5).1 1), (((((t.1 9).1), ((t.1 11).1), ((t.1 12).1), (t.1 8).1 0), ((t.1 10).1)), ((t.1 13).1), ((t.1 14).1)), (((t.1 15).1), ((t.1 16).1), ((t.1 17).2.2))))).1 (cwX (frT h ((((t.1 6).1), ((t.1 7).1), (t.1 5).1 0, (t.1 5).1 1), (((((t.1 9).1), ((t.1 11).1), ((t.1 12).1), (t.1 8).1 0), ((t.1 10).1)), ((t.1 13).1), ((t.1 14).1)), (((t.1 15).1), ((t.1 16).1), ((t.1 17).2.2))))).2.1).1.2.2.2)), (t.1 5).2.1, (t.1 5).2.2)), (6, ((swT (frT h ((((t.1 6).1), ((t.1 7).1), (t.1 5).1 0, (t.1 5).1 1), (((((t.1 9).1), ((t.1 11).1), ((t.1 12).1), (t.1 8).1 0), ((t.1 10).1)), ((t.1 13).1), ((t.1 14).1)), (((t.1 15).1), ((t.1 16).1), ((t.1 17).2.2)))) (cwX (frT h ((((t.1 6).1), ((t.1 7).1), (t.1 5).1 0, (t.1 5).1 1), (((((t.1 9).1), ((t.1 11).1), ((t.1 12).1), (t.1 8).1 0), ((t.1 10).1)), ((t.1 13).1), ((t.1 14).1)), (((t.1 15).1), ((t.1 16).1), ((t.1 17).2.2))))).1 (cwX (frT h ((((t.1 6).1), ((t.1 7).1), (t.1 5).1 0, (t.1 5).1 1), (((((t.1 9).1), ((t.1 11).1), ((t.1 12).1), (t.1 8).1 0), ((t.1 10).1)), ((t.1 13).1), ((t.1 14).1)), (((t.1 15).1), ((t.1 16).1), ((t.1 17).2.2))))).2.1).1.1, (t.1 6).2)), (7, ((swT (frT h ((((t.1 6).1), ((t.1 7).1), (t.1 5).1 0, (t.1 5).1 1), (((((t.1 9).1), ((t.1 11).1), ((t.1 12).1), (t.1 8).1 0), ((t.1 10).1)), ((t.1 13).1), ((t.1 14).1)), (((t.1 15).1), ((t.1 16).1), ((t.1 17).2.2)))) (cwX (frT h ((((t.1 6).1), ((t.1 7).1), (t.1 5).1 0, (t.1 5).1 1), (((((t.1 9).1), ((t.1 11).1), ((t.1 12).1), (t.1 8).1 0), ((t.1 10).1)), ((t.1 13).1), ((t.1 14).1)), (((t.1 15).1), ((t.1 16).1), ((t.1 17).2.2))))).1 (cwX (frT h ((((t.1 6).1), ((t.1 7).1), (t.1 5).1 0, (t.1 5).1 1), (((((t.1 9).1), ((t.1 11).1), ((t.1 12).1), (t.1 8).1 0), ((t.1 10).1)), ((t.1 13).1), ((t.1 14).1)), (((t.1 15).1), ((t.1 16).1), ((t.1 17).2.2))))).2.1).1.2.1, (t.1 7).2)), (8, ((upd ((t.1 8).1) 0 ((swT (frT h ((((t.1 6).1), ((t.1 7).1), (t.1 5).1 0, (t.1 5).1 1), (((((t.1 9).1), ((t.1 11).1), ((t.1 12).1), (t.1 8).1 0), ((t.1 10).1)), ((t.1 13).1), ((t.1 14).1)), (((t.1 15).1), ((t.1 16).1), ((t.1 17).2.2)))) (cwX (frT h ((((t.1 6).1), ((t.1 7).1), (t.1 5).1 0, (t.1 5).1 1), (((((t.1 9).1), ((t.1 11).1), ((t.1 12).1), (t.1 8).1 0), ((t.1 10).1)), ((t.1 13).1), ((t.1 14).1)), (((t.1 15).1), ((t.1 16).1), ((t.1 17).2.2))))).1 (cwX (frT h ((((t.1 6).1), ((t.1 7).1), (t.1 5).1 0, (t.1 5).1 1), (((((t.1 9).1), ((t.1 11).1), ((t.1 12).1), (t.1 8).1 0), ((t.1 10).1)), ((t.1 13).1), ((t.1 14).1)), (((t.1 15).1), ((t.1 16).1), ((t.1 17).2.2))))).2.1).2.1.1.1.2.2.2)), (t.1 8).2.1, (t.1 8).2.2)), (9, ((swT (frT h ((((t.1 6).1), ((t.1 7).1), (t.1 5).1 0, (t.1 5).1 1), (((((t.1 9).1), ((t.1 11).1), ((t.1 12).1), (t.1 8).1 0), ((t.1 10).1)), ((t.1 13).1), ((t.1 14).1)), (((t.1 15).1), ((t.1 16).1), ((t.1 17).2.2)))) (cwX (frT h ((((t.1 6).1), ((t.1 7).1), (t.1 5).1 0, (t.1 5).1 1), (((((t.1 9).1), ((t.1 11).1), ((t.1 12).1), (t.1 8).1 0), ((t.1 10).1)), ((t.1 13).1), ((t.1 14).1)), (((t.1 15).1), ((t.1 16).1), ((t.1 17).2.2))))).1 (cwX (frT h ((((t.1 6).1), ((t.1 7).1), (t.1 5).1 0, (t.1 5).1 1), (((((t.1 9).1), ((t.1 11).1), ((t.1 12).1), (t.1 8).1 0), ((t.1 10).1)), ((t.1 13).1), ((t.1 14).1)), (((t.1 15).1), ((t.1 16).1), ((t.1 17).2.2))))).2.1).2.1.1.1.1, (t.1 9).2)), (10, ((swT (frT h ((((t.1 6).1), ((t.1 7).1), (t.1 5).1 0, (t.1 5).1 1), (((((t.1 9).1), ((t.1 11).1), ((t.1 12).1), (t.1 8).1 0), ((t.1 10).1)), ((t.1 13).1), ((t.1 14).1)), (((t.1 15).1), ((t.1 16).1), ((t.1 17).2.2)))) (cwX (frT h ((((t.1 6).1), ((t.1 7).1), (t.1 5).1 0, (t.1 5).1 1), (((((t.1 9).1), ((t.1 11).1), ((t.1 12).1), (t.1 8).1 0), ((t.1 10).1)), ((t.1 13).1), ((t.1 14).1)), (((t.1 15).1), ((t.1 16).1), ((t.1 17).2.2))))).1 (cwX (frT h ((((t.1 6).1), ((t.1 7).1), (t.1 5).1 0, (t.1 5).1 1), (((((t.1 9).1), ((t.1 11).1), ((t.1 12).1), (t.1 8).1 0), ((t.1 10).1)), ((t.1 13).1), ((t.1 14).1)), (((t.1 15).1), ((t.1 16).1), ((t.1 17).2.2))))).2.1).2.1.1.2, (t.1 10).2)), (11, ((swT (frT h ((((t.1 6).1), ((t.1 7).1), (t.1 5).1 0, (t.1 5).1 1), (((((t.1 9).1), ((t.1 11).1), ((t.1 12).1), (t.1 8).1 0), ((t.1 10).1)), ((t.1 13).1), ((t.1 14).1)), (((t.1 15).1), ((t.1 16).1), ((t.1 17).2.2)))) (cwX (frT h ((((t.1 6).1), ((t.1 7).1), (t.1 5).1 0, (t.1 5).1 1), (((((t.1 9).1), ((t.1 11).1), ((t.1 12).1), (t.1 8).1 0), ((t.1 10).1)), ((t.1 13).1), ((t.1 14).1)), (((t.1 15).1), ((t.1 16).1), ((t.1 17).2.2))))).1 (cwX (frT h ((((t.1 6).1), ((t.1 7).1), (t.1 5).1 0, (t.1 5).1 1), (((((t.1 9).1), ((t.1 11).1), ((t.1 12).1), (t.1 8).1 0), ((t.1 10).1)), ((t.1 13).1), ((t.1 14).1)), (((t.1 15).1), ((t.1 16).1), ((t.1 17).2.2))))).2.1).2.1.1.1.2.1, (t.1 11).2)), (12, ((swT (frT h ((((t.1 6).1), ((t.1 7).1), (t.1 5).1 0, (t.1 5).1 1), (((((t.1 9).1), ((t.1 11).1), ((t.1 12).1), (t.1 8).1 0), ((t.1 10).1)), ((t.1 13).1), ((t.1 14).1)), (((t.1 15).1), ((t.1 16).1), ((t.1 17).2.2)))) (cwX (frT h ((((t.1 6).1), ((t.1 7).1), (t.1 5).1 0, (t.1 5).1 1), (((((t.1 9).1), ((t.1 11).1), ((t.1 12).1), (t.1 8).1 0), ((t.1 10).1)), ((t.1 13).1), ((t.1 14).1)), (((t.1 15).1), ((t.1 16).1), ((t.1 17).2.2))))).1 (cwX (frT h ((((t.1 6).1), ((t.1 7).1), (t.1 5).1 0, (t.1 5).1 1), (((((t.1 9).1), ((t.1 11).1), ((t.1 12).1), (t.1 8).1 0), ((t.1 10).1)), ((t.1 13).1), ((t.1 14).1)), (((t.1 15).1), ((t.1 16).1), ((t.1 17).2.2))))).2.1).2.1.1.1.2.2.1, (t.1 12).2)), (13, ((swT (frT h ((((t.1 6).1), ((t.1 7).1), (t.1 5).1 0, (t.1 5).1 1), (((((t.1 9).1), ((t.1 11).1), ((t.1 12).1), (t.1 8).1 0), ((t.1 10).1)), ((t.1 13).1), ((t.1 14).1)), (((t.1 15).1), ((t.1 16).1), ((t.1 17).2.2)))) (cwX (frT h ((((t.1 6).1), ((t.1 7).1), (t.1 5).1 0, (t.1 5).1 1), (((((t.1 9).1), ((t.1 11).1), ((t.1 12).1), (t.1 8).1 0), ((t.1 10).1)), ((t.1 13).1), ((t.1 14).1)), (((t.1 15).1), ((t.1 16).1), ((t.1 17).2.2))))).1 (cwX (frT h ((((t.1 6).1), ((t.1 7).1), (t.1 5).1 0, (t.1 5).1 1), (((((t.1 9).1), ((t.1 11).1), ((t.1 12).1), (t.1 8).1 0), ((t.1 10).1)), ((t.1 13).1), ((t.1 14).1)), (((t.1 15).1), ((t.1 16).1), ((t.1 17).2.2))))).2.1).2.1.2.1, (t.1 13).2)), (14, ((swT (frT h ((((t.1 6).1), ((t.1 7).1), (t.1 5).1 0, (t.1 5).1 1), (((((t.1 9).1), ((t.1 11).1), ((t.1 12).1), (t.1 8).1 0), ((t.1 10).1)), ((t.1 13).1), ((t.1 14).1)), (((t.1 15).1), ((t.1 16).1), ((t.1 17).2.2)))) (cwX (frT h ((((t.1 6).1), ((t.1 7).1), (t.1 5).1 0, (t.1 5).1 1), (((((t.1 9).1), ((t.1 11).1), ((t.1 12).1), (t.1 8).1 0), ((t.1 10).1)), ((t.1 13).1), ((t.1 14).1)), (((t.1 15).1), ((t.1 16).1), ((t.1 17).2.2))))).1 (cwX (frT h ((((t.1 6).1), ((t.1 7).1), (t.1 5).1 0, (t.1 5).1 1), (((((t.1 9).1), ((t.1 11).1), ((t.1 12).1), (t.1 8).1 0), ((t.1 10).1)), ((t.1 13).1), ((t.1 14).1)), (((t.1 15).1), ((t.1 16).1), ((t.1 17).2.2))))).2.1).2.1.2.2, (t.1 14).2)), (15, ((swT (frT h ((((t.1 6).1), ((t.1 7).1), (t.1 5).1 0, (t.1 5).1 1), (((((t.1 9).1), ((t.1 11).1), ((t.1 12).1), (t.1 8).1 0), ((t.1 10).1)), ((t.1 13).1), ((t.1 14).1)), (((t.1 15).1), ((t.1 16).1), ((t.1 17).2.2)))) (cwX (frT h ((((t.1 6).1), ((t.1 7).1), (t.1 5).1 0, (t.1 5).1 1), (((((t.1 9).1), ((t.1 11).1), ((t.1 12).1), (t.1 8).1 0), ((t.1 10).1)), ((t.1 13).1), ((t.1 14).1)), (((t.1 15).1), ((t.1 16).1), ((t.1 17).2.2))))).1 (cwX (frT h ((((t.1 6).1), ((t.1 7).1), (t.1 5).1 0, (t.1 5).1 1), (((((t.1 9).1), ((t.1 11).1), ((t.1 12).1), (t.1 8).1 0), ((t.1 10).1)), ((t.1 13).1), ((t.1 14).1)), (((t.1 15).1), ((t.1 16).1), ((t.1 17).2.2))))).2.1).2.2.1, (t.1 15).2)), (16, ((swT (frT h ((((t.1 6).1), ((t.1 7).1), (t.1 5).1 0, (t.1 5).1 1), (((((t.1 9).1), ((t.1 11).1), ((t.1 12).1), (t.1 8).1 0), ((t.1 10).1)), ((t.1 13).1), ((t.1 14).1)), (((t.1 15).1), ((t.1 16).1), ((t.1 17).2.2)))) (cwX (frT h ((((t.1 6).1), ((t.1 7).1), (t.1 5).1 0, (t.1 5).1 1), (((((t.1 9).1), ((t.1 11).1), ((t.1 12).1), (t.1 8).1 0), ((t.1 10).1)), ((t.1 13).1), ((t.1 14).1)), (((t.1 15).1), ((t.1 16).1), ((t.1 17).2.2))))).1 (cwX (frT h ((((t.1 6).1), ((t.1 7).1), (t.1 5).1 0, (t.1 5).1 1), (((((t.1 9).1), ((t.1 11).1), ((t.1 12).1), (t.1 8).1 0), ((t.1 10).1)), ((t.1 13).1), ((t.1 14).1)), (((t.1 15).1), ((t.1 16).1), ((t.1 17).2.2))))).2.1).2.2.2.1, (t.1 16).2)), (17, ((t.1 17).1, (t.1 17).2.1, (swT (frT h ((((t.1 6).1), ((t.1 7).1), (t.1 5).1 0, (t.1 5).1 1), (((((t.1 9).1), ((t.1 11).1), ((t.1 12).1), (t.1 8).1 0), ((t.1 10).1)), ((t.1 13).1), ((t.1 14).1)), (((t.1 15).1), ((t.1 16).1), ((t.1 17).2.2)))) (cwX (frT h ((((t.1 6).1), ((t.1 7).1), (t.1 5).1 0, (t.1 5).1 1), (((((t.1 9).1), ((t.1 11).1), ((t.1 12).1), (t.1 8).1 0), ((t.1 10).1)), ((t.1 13).1), ((t.1 14).1)), (((t.1 15).1), ((t.1 16).1), ((t.1 17).2.2))))).1 (cwX (frT h ((((t.1 6).1), ((t.1 7).1), (t.1 5).1 0, (t.1 5).1 1), (((((t.1 9).1), ((t.1 11).1), ((t.1 12).1), (t.1 8).1 0), ((t.1 10).1)), ((t.1 13).1), ((t.1 14).1)), (((t.1 15).1), ((t.1 16).1), ((t.1 17).2.2))))).2.1).2.2.2.2))], t.2) u w1) 1 6 := by
  obtain ⟨e_a, w_a, k_a⟩ := hI.1.2 0 (by decide)
  obtain rfl := kd_0.mp k_a
  obtain ⟨e_ta, w_ta, k_ta⟩ := hI.1.2 5 (by decide)
  obtain rfl := kd_5.mp k_ta
  obtain ⟨e_ta1, w_ta1, k_ta1⟩ := hI.1.2 6 (by decide)
  obtain rfl := kd_6.mp k_ta1
  obtain ⟨e_ta2, w_ta2, k_ta2⟩ := hI.1.2 7 (by decide)
  obtain rfl := kd_7.mp k_ta2
  obtain ⟨e_taz, w_taz, k_taz⟩ := hI.1.2 8 (by decide)
  obtain rfl := kd_8.mp k_taz
  obtain ⟨e_taz1, w_taz1, k_taz1⟩ := hI.1.2 9 (by decide)
  obtain rfl := kd_9.mp k_taz1
  obtain ⟨e_taz2, w_taz2, k_taz2⟩ := hI.1.2 10 (by decide)
  obtain rfl := kd_10.mp k_taz2
  obtain ⟨e_taz3, w_taz3, k_taz3⟩ := hI.1.2 11 (by decide)
  obtain rfl := kd_11.mp k_taz3
  obtain ⟨e_taz4, w_taz4, k_taz4⟩ := hI.1.2 12 (by decide)
  obtain rfl := kd_12.mp k_taz4
  obtain ⟨e_taz5, w_taz5, k_taz5⟩ := hI.1.2 13 (by decide)
  obtain rfl := kd_13.mp k_taz5
  obtain ⟨e_taz6, w_taz6, k_taz6⟩ := hI.1.2 14 (by decide)
  obtain rfl := kd_14.mp k_taz6
  obtain ⟨e_ta4, w_ta4, k_ta4⟩ := hI.1.2 15 (by decide)
  obtain ⟨c_ta4_0, rfl⟩ := kd_15.mp k_ta4
  obtain ⟨e_ta5, w_ta5, k_ta5⟩ := hI.1.2 16 (by decide)
  obtain rfl := kd_16.mp k_ta5
  obtain ⟨e_ta6, w_ta6, k_ta6⟩ := hI.1.2 17 (by decide)
  obtain rfl := kd_17.mp k_ta6
  refine ((C_Ip_shrunkAnewN g (ad 0) (ad 1) (ad 5) (ad 18) (ad 31) (ad 32) (ad 36) (ad 42) (ad 45) (ad 47) (ad 49) (ad 50) (ad 51) (ad 6) (ad 7) (ad 8) (ad 9) (ad 10) (ad 11) (ad 12) (ad 13) (ad 14) (ad 15) (ad 16) (ad 17) ((((t.1 6).1), ((t.1 7).1), (t.1 5).1 0, (t.1 5).1 1), (((((t.1 9).1), ((t.1 11).1), ((t.1 12).1), (t.1 8).1 0), ((t.1 10).1)), ((t.1 13).1), ((t.1 14).1)), (((t.1 15).1), ((t.1 16).1), ((t.1 17).2.2))) h hh).at (hI.1.I [0, 5, 6, 7, 8, 9, 10, 11, 12, 13, 14, 15, 16, 17] _ rfl (by decide) (by decide) (List.forall_mem_cons.mpr ⟨w_a, (List.forall_mem_cons.mpr ⟨w_ta, (List.forall_mem_cons.mpr ⟨w_ta1, (List.forall_mem_cons.mpr ⟨w_ta2, (List.forall_mem_cons.mpr ⟨w_taz, (List.forall_mem_cons.mpr ⟨w_taz1, (List.forall_mem_cons.mpr ⟨w_taz2, (List.forall_mem_cons.mpr ⟨w_taz3, (List.forall_mem_cons.mpr ⟨w_taz4, (List.forall_mem_cons.mpr ⟨w_taz5, (List.forall_mem_cons.mpr ⟨w_taz6, (List.forall_mem_cons.mpr ⟨w_ta4, (List.forall_mem_cons.mpr ⟨w_ta5, (List.forall_mem_cons.mpr ⟨w_ta6, (fun _ h => nomatch h)⟩)⟩)⟩)⟩)⟩)⟩)⟩)⟩)⟩)⟩)⟩)⟩)⟩)⟩))).mono (Nat.le_of_ble_eq_true rfl) (Nat.le_of_ble_eq_true rfl) (fun o w1 hp => ?_)
  obtain ⟨cs1, hp, hi9⟩ := hp
  obtain ⟨e1, e2⟩ := hp
  subst e1; subst e2
  exact ⟨rfl, hI.fix (t2 := (zup t.1 [(5, ((upd (upd ((t.1 5).1) 0 ((swT (frT h ((((t.1 6).1), ((t.1 7).1), (t.1 5).1 0, (t.1 5).1 1), (((((t.1 9).1), ((t.1 11).1), ((t.1 12).1), (t.1 8).1 0), ((t.1 10).1)), ((t.1 13).1), ((t.1 14).1)), (((t.1 15).1), ((t.1 16).1), ((t.1 17).2.2)))) (cwX (frT h ((((t.1 6).1), ((t.1 7).1), (t.1 5).1 0, (t.1 5).1 1), (((((t.1 9).1), ((t.1 11).1), ((t.1 12).1), (t.1 8).1 0), ((t.1 10).1)), ((t.1 13).1), ((t.1 14).1)), (((t.1 15).1), ((t.1 16).1), ((t.1 17).2.2))))).1 (cwX (frT h ((((t.1 6).1), ((t.1 7).1), (t.1 5).1 0, (t.1 5).1 1), (((((t.1 9).1), ((t.1 11).1), ((t.1 12).1), (t.1 8).1 0), ((t.1 10).1)), ((t.1 13).1), ((t.1 14).1)), (((t.1 15).1), ((t.1 16).1), ((t.1 17).2.2))))).2.1).1.2.2.1)) 1 ((swT (frT h ((((t.1 6).1), ((t.1 7).1), (t.1 5).1 0, (t.1 5).1 1), (((((t.1 9).1), ((t.1 11).1), ((t.1 12).1), (t.1 8).1 0), ((t.1 10).1)), ((t.1 13).1), ((t.1 14).1)), (((t.1 15).1), ((t.1 16).1), ((t.1 17).2.2)))) (cwX (frT h ((((t.1 6).1), ((t.1 7).1), (t.1 5).1 0, (t.1 5).1 1), (((((t.1 9).1), ((t.1 11).1), ((t.1 12).1), (t.1 8).1 0), ((t.1 10).1)), ((t.1 13).1), ((t.1 14).1)), (((t.1 15).1), ((t.1 16).1), ((t.1 17).2.2))))).1 (cwX (frT h ((((t.1 6).1), ((t.1 7).1), (t.1 5).1 0, (t.1 5).1 1), (((((t.1 9).1), ((t.1 11).1), ((t.1 12).1), (t.1 8).1 0), ((t.1 10).1)), ((t.1 13).1), ((t.1 14).1)), (((t.1 15).1), ((t.1 16).1), ((t.1 17).2.2))))).2.1).1.2.2.2)), (t.1 5).2.1, (t.1 5).2.2)), (6, ((swT (frT h ((((t.1 6).1), ((t.1 7).1), (t.1 5).1 0, (t.1 5).1 1), (((((t.1 9).1), ((t.1 11).1), ((t.1 12).1), (t.1 8).1 0), ((t.1 10).1)), ((t.1 13).1), ((t.1 14).1)), (((t.1 15).1), ((t.1 16).1), ((t.1 17).2.2)))) (cwX (frT h ((((t.1 6).1), ((t.1 7).1), (t.1 5).1 0, (t.1 5).1 1), (((((t.1 9).1), ((t.1 11).1), ((t.1 12).1), (t.1 8).1 0), ((t.1 10).1)), ((t.1 13).1), ((t.1 14).1)), (((t.1 15).1), ((t.1 16).1), ((t.1 17).2.2))))).1 (cwX (frT h ((((t.1 6).1), ((t.1 7).1), (t.1 5).1 0, (t.1 5).1 1), (((((t.1 9).1), ((t.1 11).1), ((t.1 12).1), (t.1 8).1 0), ((t.1 10).1)), ((t.1 13).1), ((t.1 14).1)), (((t.1 15).1), ((t.1 16).1), ((t.1 17).2.2))))).2.1).1.1, (t.1 6).2)), (7, ((swT (frT h ((((t.1 6).1), ((t.1 7).1), (t.1 5).1 0, (t.1 5).1 1), (((((t.1 9).1), ((t.1 11).1), ((t.1 12).1), (t.1 8).1 0), ((t.1 10).1)), ((t.1 13).1), ((t.1 14).1)), (((t.1 15).1), ((t.1 16).1), ((t.1 17).2.2)))) (cwX (frT h ((((t.1 6).1), ((t.1 7).1), (t.1 5).1 0, (t.1 5).1 1), (((((t.1 9).1), ((t.1 11).1), ((t.1 12).1), (t.1 8).1 0), ((t.1 10).1)), ((t.1 13).1), ((t.1 14).1)), (((t.1 15).1), ((t.1 16).1), ((t.1 17).2.2))))).1 (cwX (frT h ((((t.1 6).1), ((t.1 7).1), (t.1 5).1 0, (t.1 5).1 1), (((((t.1 9).1), ((t.1 11).1), ((t.1 12).1), (t.1 8).1 0), ((t.1 10).1)), ((t.1 13).1), ((t.1 14).1)), (((t.1 15).1), ((t.1 16).1), ((t.1 17).2.2))))).2.1).1.2.1, (t.1 7).2)), (8, ((upd ((t.1 8).1) 0 ((swT (frT h ((((t.1 6).1), ((t.1 7).1), (t.1 5).1 0, (t.1 5).1 1), (((((t.1 9).1), ((t.1 11).1), ((t.1 12).1), (t.1 8).1 0), ((t.1 10).1)), ((t.1 13).1), ((t.1 14).1)), (((t.1 15).1), ((t.1 16).1), ((t.1 17).2.2)))) (cwX (frT h ((((t.1 6).1), ((t.1 7).1), (t.1 5).1 0, (t.1 5).1 1), (((((t.1 9).1), ((t.1 11).1), ((t.1 12).1), (t.1 8).1 0), ((t.1 10).1)), ((t.1 13).1), ((t.1 14).1)), (((t.1 15).1), ((t.1 16).1), ((t.1 17).2.2))))).1 (cwX (frT h ((((t.1 6).1), ((t.1 7).1), (t.1 5).1 0, (t.1 5).1 1), (((((t.1 9).1), ((t.1 11).1), ((t.1 12).1), (t.1 8).1 0), ((t.1 10).1)), ((t.1 13).1), ((t.1 14).1)), (((t.1 15).1), ((t.1 16).1), ((t.1 17).2.2))))).2.1).2.1.1.1.2.2.2)), (t.1 8).2.1, (t.1 8).2.2)), (9, ((swT (frT h ((((t.1 6).1), ((t.1 7).1), (t.1 5).1 0, (t.1 5).1 1), (((((t.1 9).1), ((t.1 11).1), ((t.1 12).1), (t.1 8).1 0), ((t.1 10).1)), ((t.1 13).1), ((t.1 14).1)), (((t.1 15).1), ((t.1 16).1), ((t.1 17).2.2)))) (cwX (frT h ((((t.1 6).1), ((t.1 7).1), (t.1 5).1 0, (t.1 5).1 1), (((((t.1 9).1), ((t.1 11).1), ((t.1 12).1), (t.1 8).1 0), ((t.1 10).1)), ((t.1 13).1), ((t.1 14).1)), (((t.1 15).1), ((t.1 16).1), ((t.1 17).2.2))))).1 (cwX (frT h ((((t.1 6).1), ((t.1 7).1), (t.1 5).1 0, (t.1 5).1 1), (((((t.1 9).1), ((t.1 11).1), ((t.1 12).1), (t.1 8).1 0), ((t.1 10).1)), ((t.1 13).1), ((t.1 14).1)), (((t.1 15).1), ((t.1 16).1), ((t.1 17).2.2))))).2.1).2.1.1.1.1, (t.1 9).2)), (10, ((swT (frT h ((((t.1 6).1), ((t.1 7).1), (t.1 5).1 0, (t.1 5).1 1), (((((t.1 9).1), ((t.1 11).1), ((t.1 12).1), (t.1 8).1 0), ((t.1 10).1)), ((t.1 13).1), ((t.1 14).1)), (((t.1 15).1), ((t.1 16).1), ((t.1 17).2.2)))) (cwX (frT h ((((t.1 6).1), ((t.1 7).1), (t.1 5).1 0, (t.1 5).1 1), (((((t.1 9).1), ((t.1 11).1), ((t.1 12).1), (t.1 8).1 0), ((t.1 10).1)), ((t.1 13).1), ((t.1 14).1)), (((t.1 15).1), ((t.1 16).1), ((t.1 17).2.2))))).1 (cwX (frT h ((((t.1 6).1), ((t.1 7).1), (t.1 5).1 0, (t.1 5).1 1), (((((t.1 9).1), ((t.1 11).1), ((t.1 12).1), (t.1 8).1 0), ((t.1 10).1)), ((t.1 13).1), ((t.1 14).1)), (((t.1 15).1), ((t.1 16).1), ((t.1 17).2.2))))).2.1).2.1.1.2, (t.1 10).2)), (11, ((swT (frT h ((((t.1 6).1), ((t.1 7).1), (t.1 5).1 0, (t.1 5).1 1), (((((t.1 9).1), ((t.1 11).1), ((t.1 12).1), (t.1 8).1 0), ((t.1 10).1)), ((t.1 13).1), ((t.1 14).1)), (((t.1 15).1), ((t.1 16).1), ((t.1 17).2.2)))) (cwX (frT h ((((t.1 6).1), ((t.1 7).1), (t.1 5).1 0, (t.1 5).1 1), (((((t.1 9).1), ((t.1 11).1), ((t.1 12).1), (t.1 8).1 0), ((t.1 10).1)), ((t.1 13).1), ((t.1 14).1)), (((t.1 15).1), ((t.1 16).1), ((t.1 17).2.2))))).1 (cwX (frT h ((((t.1 6).1), ((t.1 7).1), (t.1 5).1 0, (t.1 5).1 1), (((((t.1 9).1), ((t.1 11).1), ((t.1 12).1), (t.1 8).1 0), ((t.1 10).1)), ((t.1 13).1), ((t.1 14).1)), (((t.1 15).1), ((t.1 16).1), ((t.1 17).2.2))))).2.1).2.1.1.1.2.1, (t.1 11).2)), (12, ((swT (frT h ((((t.1 6).1), ((t.1 7).1), (t.1 5).1 0, (t.1 5).1 1), (((((t.1 9).1), ((t.1 11).1), ((t.1 12).1), (t.1 8).1 0), ((t.1 10).1)), ((t.1 13).1), ((t.1 14).1)), (((t.1 15).1), ((t.1 16).1), ((t.1 17).2.2)))) (cwX (frT h ((((t.1 6).1), ((t.1 7).1), (t.1 5).1 0, (t.1 5).1 1), (((((t.1 9).1), ((t.1 11).1), ((t.1 12).1), (t.1 8).1 0), ((t.1 10).1)), ((t.1 13).1), ((t.1 14).1)), (((t.1 15).1), ((t.1 16).1), ((t.1 17).2.2))))).1 (cwX (frT h ((((t.1 6).1), ((t.1 7).1), (t.1 5).1 0, (t.1 5).1 1), (((((t.1 9).1), ((t.1 11).1), ((t.1 12).1), (t.1 8).1 0), ((t.1 10).1)), ((t.1 13).1), ((t.1 14).1)), (((t.1 15).1), ((t.1 16).1), ((t.1 17).2.2))))).2.1).2.1.1.1.2.2.1, (t.1 12).2)), (13, ((swT (frT h ((((t.1 6).1), ((t.1 7).1), (t.1 5).1 0, (t.1 5).1 1), (((((t.1 9).1), ((t.1 11).1), ((t.1 12).1), (t.1 8).1 0), ((t.1 10).1)), ((t.1 13).1), ((t.1 14).1)), (((t.1 15).1), ((t.1 16).1), ((t.1 17).2.2)))) (cwX (frT h ((((t.1 6).1), ((t.1 7).1), (t.1 5).1 0, (t.1 5).1 1), (((((t.1 9).1), ((t.1 11).1), ((t.1 12).1), (t.1 8).1 0), ((t.1 10).1)), ((t.1 13).1), ((t.1 14).1)), (((t.1 15).1), ((t.1 16).1), ((t.1 17).2.2))))).1 (cwX (frT h ((((t.1 6).1), ((t.1 7).1), (t.1 5).1 0, (t.1 5).1 1), (((((t.1 9).1), ((t.1 11).1), ((t.1 12).1), (t.1 8).1 0), ((t.1 10).1)), ((t.1 13).1), ((t.1 14).1)), (((t.1 15).1), ((t.1 16).1), ((t.1 17).2.2))))).2.1).2.1.2.1, (t.1 13).2)), (14, ((swT (frT h ((((t.1 6).1), ((t.1 7).1), (t.1 5).1 0, (t.1 5).1 1), (((((t.1 9).1), ((t.1 11).1), ((t.1 12).1), (t.1 8).1 0), ((t.1 10).1)), ((t.1 13).1), ((t.1 14).1)), (((t.1 15).1), ((t.1 16).1), ((t.1 17).2.2)))) (cwX (frT h ((((t.1 6).1), ((t.1 7).1), (t.1 5).1 0, (t.1 5).1 1), (((((t.1 9).1), ((t.1 11).1), ((t.1 12).1), (t.1 8).1 0), ((t.1 10).1)), ((t.1 13).1), ((t.1 14).1)), (((t.1 15).1), ((t.1 16).1), ((t.1 17).2.2))))).1 (cwX (frT h ((((t.1 6).1), ((t.1 7).1), (t.1 5).1 0, (t.1 5).1 1), (((((t.1 9).1), ((t.1 11).1), ((t.1 12).1), (t.1 8).1 0), ((t.1 10).1)), ((t.1 13).1), ((t.1 14).1)), (((t.1 15).1), ((t.1 16).1), ((t.1 17).2.2))))).2.1).2.1.2.2, (t.1 14).2)), (15, ((swT (frT h ((((t.1 6).1), ((t.1 7).1), (t.1 5).1 0, (t.1 5).1 1), (((((t.1 9).1), ((t.1 11).1), ((t.1 12).1), (t.1 8).1 0), ((t.1 10).1)), ((t.1 13).1), ((t.1 14).1)), (((t.1 15).1), ((t.1 16).1), ((t.1 17).2.2)))) (cwX (frT h ((((t.1 6).1), ((t.1 7).1), (t.1 5).1 0, (t.1 5).1 1), (((((t.1 9).1), ((t.1 11).1), ((t.1 12).1), (t.1 8).1 0), ((t.1 10).1)), ((t.1 13).1), ((t.1 14).1)), (((t.1 15).1), ((t.1 16).1), ((t.1 17).2.2))))).1 (cwX (frT h ((((t.1 6).1), ((t.1 7).1), (t.1 5).1 0, (t.1 5).1 1), (((((t.1 9).1), ((t.1 11).1), ((t.1 12).1), (t.1 8).1 0), ((t.1 10).1)), ((t.1 13).1), ((t.1 14).1)), (((t.1 15).1), ((t.1 16).1), ((t.1 17).2.2))))).2.1).2.2.1, (t.1 15).2)), (16, ((swT (frT h ((((t.1 6).1), ((t.1 7).1), (t.1 5).1 0, (t.1 5).1 1), (((((t.1 9).1), ((t.1 11).1), ((t.1 12).1), (t.1 8).1 0), ((t.1 10).1)), ((t.1 13).1), ((t.1 14).1)), (((t.1 15).1), ((t.1 16).1), ((t.1 17).2.2)))) (cwX (frT h ((((t.1 6).1), ((t.1 7).1), (t.1 5).1 0, (t.1 5).1 1), (((((t.1 9).1), ((t.1 11).1), ((t.1 12).1), (t.1 8).1 0), ((t.1 10).1)), ((t.1 13).1), ((t.1 14).1)), (((t.1 15).1), ((t.1 16).1), ((t.1 17).2.2))))).1 (cwX (frT h ((((t.1 6).1), ((t.1 7).1), (t.1 5).1 0, (t.1 5).1 1), (((((t.1 9).1), ((t.1 11).1), ((t.1 12).1), (t.1 8).1 0), ((t.1 10).1)), ((t.1 13).1), ((t.1 14).1)), (((t.1 15).1), ((t.1 16).1), ((t.1 17).2.2))))).2.1).2.2.2.1, (t.1 16).2)), (17, ((t.1 17).1, (t.1 17).2.1, (swT (frT h ((((t.1 6).1), ((t.1 7).1), (t.1 5).1 0, (t.1 5).1 1), (((((t.1 9).1), ((t.1 11).1), ((t.1 12).1), (t.1 8).1 0), ((t.1 10).1)), ((t.1 13).1), ((t.1 14).1)), (((t.1 15).1), ((t.1 16).1), ((t.1 17).2.2)))) (cwX (frT h ((((t.1 6).1), ((t.1 7).1), (t.1 5).1 0, (t.1 5).1 1), (((((t.1 9).1), ((t.1 11).1), ((t.1 12).1), (t.1 8).1 0), ((t.1 10).1)), ((t.1 13).1), ((t.1 14).1)), (((t.1 15).1), ((t.1 16).1), ((t.1 17).2.2))))).1 (cwX (frT h ((((t.1 6).1), ((t.1 7).1), (t.1 5).1 0, (t.1 5).1 1), (((((t.1 9).1), ((t.1 11).1), ((t.1 12).1), (t.1 8).1 0), ((t.1 10).1)), ((t.1 13).1), ((t.1 14).1)), (((t.1 15).1), ((t.1 16).1), ((t.1 17).2.2))))).2.1).2.2.2.2))], t.2)) (is := [0, 5, 6, 7, 8, 9, 10, 11, 12, 13, 14, 15, 16, 17]) hi9 rfl ⟨kd_0.mpr rfl, kd_5.mpr rfl, kd_6.mpr rfl, kd_7.mpr rfl, kd_8.mpr rfl, kd_9.mpr rfl, kd_10.mpr rfl, kd_11.mpr rfl, kd_12.mpr rfl, kd_13.mpr rfl, kd_14.mpr rfl, kd_15.mpr ⟨(frT_01 (X := ((((t.1 6).1), ((t.1 7).1), (t.1 5).1 0, (t.1 5).1 1), (((((t.1 9).1), ((t.1 11).1), ((t.1 12).1), (t.1 8).1 0), ((t.1 10).1)), ((t.1 13).1), ((t.1 14).1)), (((t.1 15).1), ((t.1 16).1), ((t.1 17).2.2)))) c_ta4_0), rfl⟩, kd_16.mpr rfl, kd_17.mpr rfl, trivial⟩ (by decide) (by decide) (fun i hi hn => zup_out (fun q => hn ((by decide : ∀ j ∈ ([5, 6, 7, 8, 9, 10, 11, 12, 13, 14, 15, 16, 17] : List Nat), j ∈ ([0, 5, 6, 7, 8, 9, 10, 11, 12, 13, 14, 15, 16, 17] : List Nat)) i q))) (fun h => h) rfl⟩
set_option maxHeartbeats 4000000 in
theorem Qx_Ip_shrunkAnewE {g : zG} {ad : Nat → Nat} {t : zTT} {u : zNN} {w : zW} (hI : IV g ad t u w) (h : Int32) (hh : ¬ (1200 ≤ h ∧ h ≤ 1500)) : zMB g M_Ip_shrunkAnew [.ref (ad 0), .int h] w (fun o w1 => o = .inr "java/lang/IllegalArgumentException" ∧ IV g ad (zup t.1 [(5, ((upd (upd ((t.1 5).1) 0 (((((t.1 6).1), ((t.1 7).1), (t.1 5).1 0, (t.1 5).1 1), (((((t.1 9).1), ((t.1 11).1), ((t.1 12).1), (t.1 8).1 0), ((t.1 10).1)), ((t.1 13).1), ((t.1 14).1)), (((t.1 15).1), ((t.1 16).1), ((t.1 17).2.2))).1.2.2.1)) 1 (((((t.1 6).1), ((t.1 7).1), (t.1 5).1 0, (t.1 5).1 1), (((((t.1 9).1), ((t.1 11).1), ((t.1 12).1), (t.1 8).1 0), ((t.1 10).1)), ((t.1 13).1), ((t.1 14).1)), (((t.1 15).1), ((t.1 16).1), ((t.1 17).2.2))).1.2.2.2)), (t.1 5).2.1, (t.1 5).2.2)), (6, (((((t.1 6).1), ((t.1 7).1), (t.1 5).1 0, (t.1 5).1 1), (((((t.1 9).1), ((t.1 11).1), ((t.1 12).1), (t.1 8).1 0), ((t.1 10).1)), ((t.1 13).1), ((t.1 14).1)), (((t.1 15).1), ((t.1 16).1), ((t.1 17).2.2))).1.1, (t.1 6).2)), (7, (((((t.1 6).1), ((t.1 7).1), (t.1 5).1 0, (t.1 5).1 1), (((((t.1 9).1), ((t.1 11).1), ((t.1 12).1), (t.1 8).1 0), ((t.1 10).1)), ((t.1 13).1), ((t.1 14).1)), (((t.1 15).1), ((t.1 16).1), ((t.1 17).2.2))).1.2.1, (t.1 7).2)), (8, ((upd ((t.1 8).1) 0 (((((t.1 6).1), ((t.1 7).1), (t.1 5).1 0, (t.1 5).1 1), (((((t.1 9).1), ((t.1 11).1), ((t.1 12).1), (t.1 8).1 0), ((t.1 10).1)), ((t.1 13).1), ((t.1 14).1)), (((t.1 15).1), ((t.1 16).1), ((t.1 17).2.2))).2.1.1.1.2.2.2)), (t.1 8).2.1, (t.1 8).2.2)), (9, (((((t.1 6).1), ((t.1 7).1), (t.1 5).1 0, (t.1 5).1 1), (((((t.1 9).1), ((t.1 11).1), ((t.1 12).1), (t.1 8).1 0), ((t.1 10).1)), ((t.1 13).1), ((t.1 14).1)), (((t.1 15).1), ((t.1 16).1), ((t.1 17).2.2))).2.1.1.1.1, (t.1 9).2)), (10, (((((t.1 6).1), ((t.1 7).1), (t.1 5).1 0, (t.1 5).1 1), (((((t.1 9).1), ((t.1 11).1), ((t.1 12).1), (t.1 8).1 0), ((t.1 10).1)), ((t.1 13).1), ((t.1 14).1)), (((t.1 15).1), ((t.1 16).1), ((t.1 17).2.2))).2.1.1.2, (t.1 10).2)), (11, (((((t.1 6).1), ((t.1 7).1), (t.1 5).1 0, (t.1 5).1 1), (((((t.1 9).1), ((t.1 11).1), ((t.1 12).1), (t.1 8).1 0), ((t.1 10).1)), ((t.1 13).1), ((t.1 14).1)), (((t.1 15).1), ((t.1 16).1), ((t.1 17).2.2))).2.1.1.1.2.1, (t.1 11).2)), (12, (((((t.1 6).1), ((t.1 7).1), (t.1 5).1 0, (t.1 5).1 1), (((((t.1 9).1), ((t.1 11).1), ((t.1 12).1), (t.1 8).1 0), ((t.1 10).1)), ((t.1 13).1), ((t.1 14).1)), (((t.1 15).1), ((t.1 16).1), ((t.1 17).2.2))).2.1.1.1.2.2.1, (t.1 12).2)), (13, (((((t.1 6).1), ((t.1 7).1), (t.1 5).1 0, (t.1 5).1 1), (((((t.1 9).1), ((t.1 11).1), ((t.1 12).1), (t.1 8).1 0), ((t.1 10).1)), ((t.1 13).1), ((t.1 14).1)), (((t.1 15).1), ((t.1 16).1), ((t.1 17).2.2))).2.1.2.1, (t.1 13).2)), (14, (((((t.1 6).1), ((t.1 7).1), (t.1 5).1 0, (t.1 5).1 1), (((((t.1 9).1), ((t.1 11).1), ((t.1 12).1), (t.1 8).1 0), ((t.1 10).1)), ((t.1 13).1), ((t.1 14).1)), (((t.1 15).1), ((t.1 16).1), ((t.1 17).2.2))).2.1.2.2, (t.1 14).2)), (15, (((((t.1 6).1), ((t.1 7).1), (t.1 5).1 0, (t.1 5).1 1), (((((t.1 9).1), ((t.1 11).1), ((t.1 12).1), (t.1 8).1 0), ((t.1 10).1)), ((t.1 13).1), ((t.1 14).1)), (((t.1 15).1), ((t.1 16).1), ((t.1 17).2.2))).2.2.1, (t.1 15).2)), (16, (((((t.1 6).1), ((t.1 7).1), (t.1 5).1 0, (t.1 5).1 1), (((((t.1 9).1), ((t.1 11).1), ((t.1 12).1), (t.1 8).1 0), ((t.1 10).1)), ((t.1 13).1), ((t.1 14).1)), (((t.1 15).1), ((t.1 16).1), ((t.1 17).2.2))).2.2.2.1, (t.1 16).2)), (17, ((t.1 17).1, (t.1 17).2.1, ((((t.1 6).1), ((t.1 7).1), (t.1 5).1 0, (t.1 5).1 1), (((((t.1 9).1), ((t.1 11).1), ((t.1 12).1), (t.1 8).1 0), ((t.1 10).1)), ((t.1 13).1), ((t.1 14).1)), (((t.1 15).1), ((t.1 16).1), ((t.1 17).2.2))).2.2.2.2))], t.2) u w1) 1 6 := by
  obtain ⟨e_a, w_a, k_a⟩ := hI.1.2 0 (by decide)
  obtain rfl := kd_0.mp k_a
  obtain ⟨e_ta, w_ta, k_ta⟩ := hI.1.2 5 (by decide)
  obtain rfl := kd_5.mp k_ta
  obtain ⟨e_ta1, w_ta1, k_ta1⟩ := hI.1.2 6 (by decide)
  obtain rfl := kd_6.mp k_ta1
  obtain ⟨e_ta2, w_ta2, k_ta2⟩ := hI.1.2 7 (by decide)
  obtain rfl := kd_7.mp k_ta2
  obtain ⟨e_taz, w_taz, k_taz⟩ := hI.1.2 8 (by decide)
  obtain rfl := kd_8.mp k_taz
  obtain ⟨e_taz1, w_taz1, k_taz1⟩ := hI.1.2 9 (by decide)
  obtain rfl := kd_9.mp k_taz1
  obtain ⟨e_taz2, w_taz2, k_taz2⟩ := hI.1.2 10 (by decide)
  obtain rfl := kd_10.mp k_taz2
  obtain ⟨e_taz3, w_taz3, k_taz3⟩ := hI.1.2 11 (by decide)
  obtain rfl := kd_11.mp k_taz3
  obtain ⟨e_taz4, w_taz4, k_taz4⟩ := hI.1.2 12 (by decide)
  obtain rfl := kd_12.mp k_taz4
  obtain ⟨e_taz5, w_taz5, k_taz5⟩ := hI.1.2 13 (by decide)
  obtain rfl := kd_13.mp k_taz5
  obtain ⟨e_taz6, w_taz6, k_taz6⟩ := hI.1.2 14 (by decide)
  obtain rfl := kd_14.mp k_taz6
  obtain ⟨e_ta4, w_ta4, k_ta4⟩ := hI.1.2 15 (by decide)
  obtain ⟨c_ta4_0, rfl⟩ := kd_15.mp k_ta4
  obtain ⟨e_ta5, w_ta5, k_ta5⟩ := hI.1.2 16 (by decide)
  obtain rfl := kd_16.mp k_ta5
  obtain ⟨e_ta6, w_ta6, k_ta6⟩ := hI.1.2 17 (by decide)
  obtain rfl := kd_17.mp k_ta6
  refine ((C_Ip_shrunkAnewE g (ad 0) (ad 1) (ad 5) (ad 18) (ad 31) (ad 32) (ad 36) (ad 42) (ad 45) (ad 47) (ad 49) (ad 50) (ad 51) (ad 6) (ad 7) (ad 8) (ad 9) (ad 10) (ad 11) (ad 12) (ad 13) (ad 14) (ad 15) (ad 16) (ad 17) ((((t.1 6).1), ((t.1 7).1), (t.1 5).1 0, (t.1 5).1 1), (((((t.1 9).1), ((t.1 11).1), ((t.1 12).1), (t.1 8).1 0), ((t.1 10).1)), ((t.1 13).1), ((t.1 14).1)), (((t.1 15).1), ((t.1 16).1), ((t.1 17).2.2))) h hh).at (hI.1.I [0, 5, 6, 7, 8, 9, 10, 11, 12, 13, 14, 15, 16, 17] _ rfl (by decide) (by decide) (List.forall_mem_cons.mpr ⟨w_a, (List.forall_mem_cons.mpr ⟨w_ta, (List.forall_mem_cons.mpr ⟨w_ta1, (List.forall_mem_cons.mpr ⟨w_ta2, (List.forall_mem_cons.mpr ⟨w_taz, (List.forall_mem_cons.mpr ⟨w_taz1, (List.forall_mem_cons.mpr ⟨w_taz2, (List.forall_mem_cons.mpr ⟨w_taz3, (List.forall_mem_cons.mpr ⟨w_taz4, (List.forall_mem_cons.mpr ⟨w_taz5, (List.forall_mem_cons.mpr ⟨w_taz6, (List.forall_mem_cons.mpr ⟨w_ta4, (List.forall_mem_cons.mpr ⟨w_ta5, (List.forall_mem_cons.mpr ⟨w_ta6, (fun _ h => nomatch h)⟩)⟩)⟩)⟩)⟩)⟩)⟩)⟩)⟩)⟩)⟩)⟩)⟩)⟩))).mono (Nat.le_of_ble_eq_true rfl) (Nat.le_of_ble_eq_true rfl) (fun o w1 hp => ?_)
  obtain ⟨cs1, hp, hi9⟩ := hp
  obtain ⟨e1, e2⟩ := hp
  subst e1; subst e2
  exact ⟨rfl, hI.fix (t2 := (zup t.1 [(5, ((upd (upd ((t.1 5).1) 0 (((((t.1 6).1), ((t.1 7).1), (t.1 5).1 0, (t.1 5).1 1), (((((t.1 9).1), ((t.1 11).1), ((t.1 12).1), (t.1 8).1 0), ((t.1 10).1)), ((t.1 13).1), ((t.1 14).1)), (((t.1 15).1), ((t.1 16).1), ((t.1 17).2.2))).1.2.2.1)) 1 (((((t.1 6).1), ((t.1 7).1), (t.1 5).1 0, (t.1 5).1 1), (((((t.1 9).1), ((t.1 11).1), ((t.1 12).1), (t.1 8).1 0), ((t.1 10).1)), ((t.1 13).1), ((t.1 14).1)), (((t.1 15).1), ((t.1 16).1), ((t.1 17).2.2))).1.2.2.2)), (t.1 5).2.1, (t.1 5).2.2)), (6, (((((t.1 6).1), ((t.1 7).1), (t.1 5).1 0, (t.1 5).1 1), (((((t.1 9).1), ((t.1 11).1), ((t.1 12).1), (t.1 8).1 0), ((t.1 10).1)), ((t.1 13).1), ((t.1 14).1)), (((t.1 15).1), ((t.1 16).1), ((t.1 17).2.2))).1.1, (t.1 6).2)), (7, (((((t.1 6).1), ((t.1 7).1), (t.1 5).1 0, (t.1 5).1 1), (((((t.1 9).1), ((t.1 11).1), ((t.1 12).1), (t.1 8).1 0), ((t.1 10).1)), ((t.1 13).1), ((t.1 14).1)), (((t.1 15).1), ((t.1 16).1), ((t.1 17).2.2))).1.2.1, (t.1 7).2)), (8, ((upd ((t.1 8).1) 0 (((((t.1 6).1), ((t.1 7).1), (t.1 5).1 0, (t.1 5).1 1), (((((t.1 9).1), ((t.1 11).1), ((t.1 12).1), (t.1 8).1 0), ((t.1 10).1)), ((t.1 13).1), ((t.1 14).1)), (((t.1 15).1), ((t.1 16).1), ((t.1 17).2.2))).2.1.1.1.2.2.2)), (t.1 8).2.1, (t.1 8).2.2)), (9, (((((t.1 6).1), ((t.1 7).1), (t.1 5).1 0, (t.1 5).1 1), (((((t.1 9).1), ((t.1 11).1), ((t.1 12).1), (t.1 8).1 0), ((t.1 10).1)), ((t.1 13).1), ((t.1 14).1)), (((t.1 15).1), ((t.1 16).1), ((t.1 17).2.2))).2.1.1.1.1, (t.1 9).2)), (10, (((((t.1 6).1), ((t.1 7).1), (t.1 5).1 0, (t.1 5).1 1), (((((t.1 9).1), ((t.1 11).1), ((t.1 12).1), (t.1 8).1 0), ((t.1 10).1)), ((t.1 13).1), ((t.1 14).1)), (((t.1 15).1), ((t.1 16).1), ((t.1 17).2.2))).2.1.1.2, (t.1 10).2)), (11, (((((t.1 6).1), ((t.1 7).1), (t.1 5).1 0, (t.1 5).1 1), (((((t.1 9).1), ((t.1 11).1), ((t.1 12).1), (t.1 8).1 0), ((t.1 10).1)), ((t.1 13).1), ((t.1 14).1)), (((t.1 15).1), ((t.1 16).1), ((t.1 17).2.2))).2.1.1.1.2.1, (t.1 11).2)), (12, (((((t.1 6).1), ((t.1 7).1), (t.1 5).1 0, (t.1 5).1 1), (((((t.1 9).1), ((t.1 11).1), ((t.1 12).1), (t.1 8).1 0), ((t.1 10).1)), ((t.1 13).1), ((t.1 14).1)), (((t.1 15).1), ((t.1 16).1), ((t.1 17).2.2))).2.1.1.1.2.2.1, (t.1 12).2)), (13, (((((t.1 6).1), ((t.1 7).1), (t.1 5).1 0, (t.1 5).1 1), (((((t.1 9).1), ((t.1 11).1), ((t.1 12).1), (t.1 8).1 0), ((t.1 10).1)), ((t.1 13).1), ((t.1 14).1)), (((t.1 15).1), ((t.1 16).1), ((t.1 17).2.2))).2.1.2.1, (t.1 13).2)), (14, (((((t.1 6).1), ((t.1 7).1), (t.1 5).1 0, (t.1 5).1 1), (((((t.1 9).1), ((t.1 11).1), ((t.1 12).1), (t.1 8).1 0), ((t.1 10).1)), ((t.1 13).1), ((t.1 14).1)), (((t.1 15).1), ((t.1 16).1), ((t.1 17).2.2))).2.1.2.2, (t.1 14).2)), (15, (((((t.1 6).1), ((t.1 7).1), (t.1 5).1 0, (t.1 5).1 1), (((((t.1 9).1), ((t.1 11).1), ((t.1 12).1), (t.1 8).1 0), ((t.1 10).1)), ((t.1 13).1), ((t.1 14).1)), (((t.1 15).1), ((t.1 16).1), ((t.1 17).2.2))).2.2.1, (t.1 15).2)), (16, (((((t.1 6).1), ((t.1 7).1), (t.1 5).1 0, (t.1 5).1 1), (((((t.1 9).1), ((t.1 11).1), ((t.1 12).1), (t.1 8).1 0), ((t.1 10).1)), ((t.1 13).1), ((t.1 14).1)), (((t.1 15).1), ((t.1 16).1), ((t.1 17).2.2))).2.2.2.1, (t.1 16).2)), (17, ((t.1 17).1, (t.1 17).2.1, ((((t.1 6).1), ((t.1 7).1), (t.1 5).1 0, (t.1 5).1 1), (((((t.1 9).1), ((t.1 11).1), ((t.1 12).1), (t.1 8).1 0), ((t.1 10).1)), ((t.1 13).1), ((t.1 14).1)), (((t.1 15).1), ((t.1 16).1), ((t.1 17).2.2))).2.2.2.2))], t.2)) (is := [0, 5, 6, 7, 8, 9, 10, 11, 12, 13, 14, 15, 16, 17]) hi9 rfl ⟨kd_0.mpr rfl, kd_5.mpr rfl, kd_6.mpr rfl, kd_7.mpr rfl, kd_8.mpr rfl, kd_9.mpr rfl, kd_10.mpr rfl, kd_11.mpr rfl, kd_12.mpr rfl, kd_13.mpr rfl, kd_14.mpr rfl, kd_15.mpr ⟨c_ta4_0, rfl⟩, kd_16.mpr rfl, kd_17.mpr rfl, trivial⟩ (by decide) (by decide) (fun i hi hn => zup_out (fun q => hn ((by decide : ∀ j ∈ ([5, 6, 7, 8, 9, 10, 11, 12, 13, 14, 15, 16, 17] : List Nat), j ∈ ([0, 5, 6, 7, 8, 9, 10, 11, 12, 13, 14, 15, 16, 17] : List Nat)) i q))) (fun h => h) rfl⟩
theorem K_Ip_shrunkAnew {g : zG} {ad : Nat → Nat} {t : zTT} {u : zNN} {w : zW} (hI : IVm g ad t u w) (h : Int32) : zMB g M_Ip_shrunkAnew [.ref (ad 0), .int h] w (CKx g ad t u.1 ["java/lang/IllegalArgumentException"]) 10 300 := by
  obtain ⟨s, hI⟩ := hI
  by_cases hh : 1200 ≤ h ∧ h ≤ 1500
  · exact (Qx_Ip_shrunkAnewN hI h hh).mono (by decide) (by decide) (fun o w1 h => ⟨zri.vl h.1, u, rfl, IVm.tz h.2 (tx_all rfl)⟩)
  · exact (Qx_Ip_shrunkAnewE hI h hh).mono (by decide) (by decide) (fun o w1 h => ⟨zri.th h.1 (by simp), u, rfl, IVm.tz h.2 (tx_all rfl)⟩)
set_option maxHeartbeats 4000000 in
theorem Qx_Ip_lastPlaceF {g : zG} {ad : Nat → Nat} {t : zTT} {u : zNN} {w : zW} (hI : IV g ad t u w) (h : Int32) (hh : 1200 ≤ h ∧ h ≤ 1500) (hl : lfX (frT h ((((t.1 6).1), ((t.1 7).1), (t.1 5).1 0, (t.1 5).1 1), (((((t.1 9).1), ((t.1 11).1), ((t.1 12).1), (t.1 8).1 0), ((t.1 10).1)), ((t.1 13).1), ((t.1 14).1)), (((t.1 15).1), ((t.1 16).1), ((t.1 17).2.2)))) < 0) : zMB g M_Ip_lastPlace [.ref (ad 0), .int h] w (fun o w1 => o = .inr "java/util/NoSuchElementException" ∧ IV g ad (zup t.1 [(5, ((upd (upd ((t.1 5).1) 0 ((frT h ((((t.1 6).1), ((t.1 7).1), (t.1 5).1 0, (t.1 5).1 1), (((((t.1 9).1), ((t.1 11).1), ((t.1 12).1), (t.1 8).1 0), ((t.1 10).1)), ((t.1 13).1), ((t.1 14).1)), (((t.1 15).1), ((t.1 16).1), ((t.1 17).2.2)))).1.2.2.1)) 1 ((frT h ((((t.1 6).1), ((t.1 7).1), (t.1 5).1 0, (t.1 5).1 1), (((((t.1 9).1), ((t.1 11).1), ((t.1 12).1), (t.1 8).1 0), ((t.1 10).1)), ((t.1 13).1), ((t.1 14).1)), (((t.1 15).1), ((t.1 16).1), ((t.1 17).2.2)))).1.2.2.2)), (t.1 5).2.1, (t.1 5).2.2)), (6, ((frT h ((((t.1 6).1), ((t.1 7).1), (t.1 5).1 0, (t.1 5).1 1), (((((t.1 9).1), ((t.1 11).1), ((t.1 12).1), (t.1 8).1 0), ((t.1 10).1)), ((t.1 13).1), ((t.1 14).1)), (((t.1 15).1), ((t.1 16).1), ((t.1 17).2.2)))).1.1, (t.1 6).2)), (7, ((frT h ((((t.1 6).1), ((t.1 7).1), (t.1 5).1 0, (t.1 5).1 1), (((((t.1 9).1), ((t.1 11).1), ((t.1 12).1), (t.1 8).1 0), ((t.1 10).1)), ((t.1 13).1), ((t.1 14).1)), (((t.1 15).1), ((t.1 16).1), ((t.1 17).2.2)))).1.2.1, (t.1 7).2)), (8, ((upd ((t.1 8).1) 0 ((frT h ((((t.1 6).1), ((t.1 7).1), (t.1 5).1 0, (t.1 5).1 1), (((((t.1 9).1), ((t.1 11).1), ((t.1 12).1), (t.1 8).1 0), ((t.1 10).1)), ((t.1 13).1), ((t.1 14).1)), (((t.1 15).1), ((t.1 16).1), ((t.1 17).2.2)))).2.1.1.1.2.2.2)), (t.1 8).2.1, (t.1 8).2.2)), (9, ((frT h ((((t.1 6).1), ((t.1 7).1), (t.1 5).1 0, (t.1 5).1 1), (((((t.1 9).1), ((t.1 11).1), ((t.1 12).1), (t.1 8).1 0), ((t.1 10).1)), ((t.1 13).1), ((t.1 14).1)), (((t.1 15).1), ((t.1 16).1), ((t.1 17).2.2)))).2.1.1.1.1, (t.1 9).2)), (10, ((frT h ((((t.1 6).1), ((t.1 7).1), (t.1 5).1 0, (t.1 5).1 1), (((((t.1 9).1), ((t.1 11).1), ((t.1 12).1), (t.1 8).1 0), ((t.1 10).1)), ((t.1 13).1), ((t.1 14).1)), (((t.1 15).1), ((t.1 16).1), ((t.1 17).2.2)))).2.1.1.2, (t.1 10).2)), (11, ((frT h ((((t.1 6).1), ((t.1 7).1), (t.1 5).1 0, (t.1 5).1 1), (((((t.1 9).1), ((t.1 11).1), ((t.1 12).1), (t.1 8).1 0), ((t.1 10).1)), ((t.1 13).1), ((t.1 14).1)), (((t.1 15).1), ((t.1 16).1), ((t.1 17).2.2)))).2.1.1.1.2.1, (t.1 11).2)), (12, ((frT h ((((t.1 6).1), ((t.1 7).1), (t.1 5).1 0, (t.1 5).1 1), (((((t.1 9).1), ((t.1 11).1), ((t.1 12).1), (t.1 8).1 0), ((t.1 10).1)), ((t.1 13).1), ((t.1 14).1)), (((t.1 15).1), ((t.1 16).1), ((t.1 17).2.2)))).2.1.1.1.2.2.1, (t.1 12).2)), (13, ((frT h ((((t.1 6).1), ((t.1 7).1), (t.1 5).1 0, (t.1 5).1 1), (((((t.1 9).1), ((t.1 11).1), ((t.1 12).1), (t.1 8).1 0), ((t.1 10).1)), ((t.1 13).1), ((t.1 14).1)), (((t.1 15).1), ((t.1 16).1), ((t.1 17).2.2)))).2.1.2.1, (t.1 13).2)), (14, ((frT h ((((t.1 6).1), ((t.1 7).1), (t.1 5).1 0, (t.1 5).1 1), (((((t.1 9).1), ((t.1 11).1), ((t.1 12).1), (t.1 8).1 0), ((t.1 10).1)), ((t.1 13).1), ((t.1 14).1)), (((t.1 15).1), ((t.1 16).1), ((t.1 17).2.2)))).2.1.2.2, (t.1 14).2)), (15, ((frT h ((((t.1 6).1), ((t.1 7).1), (t.1 5).1 0, (t.1 5).1 1), (((((t.1 9).1), ((t.1 11).1), ((t.1 12).1), (t.1 8).1 0), ((t.1 10).1)), ((t.1 13).1), ((t.1 14).1)), (((t.1 15).1), ((t.1 16).1), ((t.1 17).2.2)))).2.2.1, (t.1 15).2)), (16, ((frT h ((((t.1 6).1), ((t.1 7).1), (t.1 5).1 0, (t.1 5).1 1), (((((t.1 9).1), ((t.1 11).1), ((t.1 12).1), (t.1 8).1 0), ((t.1 10).1)), ((t.1 13).1), ((t.1 14).1)), (((t.1 15).1), ((t.1 16).1), ((t.1 17).2.2)))).2.2.2.1, (t.1 16).2)), (17, ((t.1 17).1, (t.1 17).2.1, (frT h ((((t.1 6).1), ((t.1 7).1), (t.1 5).1 0, (t.1 5).1 1), (((((t.1 9).1), ((t.1 11).1), ((t.1 12).1), (t.1 8).1 0), ((t.1 10).1)), ((t.1 13).1), ((t.1 14).1)), (((t.1 15).1), ((t.1 16).1), ((t.1 17).2.2)))).2.2.2.2))], t.2) u w1) 2 12 := by
  obtain ⟨e_a, w_a, k_a⟩ := hI.1.2 0 (by decide)
  obtain rfl := kd_0.mp k_a
  obtain ⟨e_ta, w_ta, k_ta⟩ := hI.1.2 5 (by decide)
  obtain rfl := kd_5.mp k_ta
  obtain ⟨e_ta1, w_ta1, k_ta1⟩ := hI.1.2 6 (by decide)
  obtain rfl := kd_6.mp k_ta1
  obtain ⟨e_ta2, w_ta2, k_ta2⟩ := hI.1.2 7 (by decide)
  obtain rfl := kd_7.mp k_ta2
  obtain ⟨e_taz, w_taz, k_taz⟩ := hI.1.2 8 (by decide)
  obtain rfl := kd_8.mp k_taz
  obtain ⟨e_taz1, w_taz1, k_taz1⟩ := hI.1.2 9 (by decide)
  obtain rfl := kd_9.mp k_taz1
  obtain ⟨e_taz2, w_taz2, k_taz2⟩ := hI.1.2 10 (by decide)
  obtain rfl := kd_10.mp k_taz2
  obtain ⟨e_taz3, w_taz3, k_taz3⟩ := hI.1.2 11 (by decide)
  obtain rfl := kd_11.mp k_taz3
  obtain ⟨e_taz4, w_taz4, k_taz4⟩ := hI.1.2 12 (by decide)
  obtain rfl := kd_12.mp k_taz4
  obtain ⟨e_taz5, w_taz5, k_taz5⟩ := hI.1.2 13 (by decide)
  obtain rfl := kd_13.mp k_taz5
  obtain ⟨e_taz6, w_taz6, k_taz6⟩ := hI.1.2 14 (by decide)
  obtain rfl := kd_14.mp k_taz6
  obtain ⟨e_ta4, w_ta4, k_ta4⟩ := hI.1.2 15 (by decide)
  obtain ⟨c_ta4_0, rfl⟩ := kd_15.mp k_ta4
  obtain ⟨e_ta5, w_ta5, k_ta5⟩ := hI.1.2 16 (by decide)
  obtain rfl := kd_16.mp k_ta5
  obtain ⟨e_ta6, w_ta6, k_ta6⟩ := hI.1.2 17 (by decide)
  obtain rfl := kd_17.mp k_ta6
  refine ((C_Ip_lastPlaceF g (ad 0) (ad 1) (ad 5) (ad 18) (ad 31) (ad 32) (ad 36) (ad 42) (ad 45) (ad 47) (ad 49) (ad 50) (ad 51) (ad 6) (ad 7) (ad 8) (ad 9) (ad 10) (ad 11) (ad 12) (ad 13) (ad 14) (ad 15) (ad 16) (ad 17) ((((t.1 6).1), ((t.1 7).1), (t.1 5).1 0, (t.1 5).1 1), (((((t.1 9).1), ((t.1 11).1), ((t.1 12).1), (t.1 8).1 0), ((t.1 10).1)), ((t.1 13).1), ((t.1 14).1)), (((t.1 15).1), ((t.1 16).1), ((t.1 17).2.2))) h hh hl).at (hI.1.I [0, 5, 6, 7, 8, 9, 10, 11, 12, 13, 14, 15, 16, 17] _ rfl (by decide) (by decide) (List.forall_mem_cons.mpr ⟨w_a, (List.forall_mem_cons.mpr ⟨w_ta, (List.forall_mem_cons.mpr ⟨w_ta1, (List.forall_mem_cons.mpr ⟨w_ta2, (List.forall_mem_cons.mpr ⟨w_taz, (List.forall_mem_cons.mpr ⟨w_taz1, (List.forall_mem_cons.mpr ⟨w_taz2, (List.forall_mem_cons.mpr ⟨w_taz3, (List.forall_mem_cons.mpr ⟨w_taz4, (List.forall_mem_cons.mpr ⟨w_taz5, (List.forall_mem_cons.mpr ⟨w_taz6, (List.forall_mem_cons.mpr ⟨w_ta4, (List.forall_mem_cons.mpr ⟨w_ta5, (List.forall_mem_cons.mpr ⟨w_ta6, (fun _ h => nomatch h)⟩)⟩)⟩)⟩)⟩)⟩)⟩)⟩)⟩)⟩)⟩)⟩)⟩)⟩))).mono (Nat.le_of_ble_eq_true rfl) (Nat.le_of_ble_eq_true rfl) (fun o w1 hp => ?_)
  obtain ⟨cs1, hp, hi9⟩ := hp
  obtain ⟨e1, e2⟩ := hp
  subst e1; subst e2
  exact ⟨rfl, hI.fix (t2 := (zup t.1 [(5, ((upd (upd ((t.1 5).1) 0 ((frT h ((((t.1 6).1), ((t.1 7).1), (t.1 5).1 0, (t.1 5).1 1), (((((t.1 9).1), ((t.1 11).1), ((t.1 12).1), (t.1 8).1 0), ((t.1 10).1)), ((t.1 13).1), ((t.1 14).1)), (((t.1 15).1), ((t.1 16).1), ((t.1 17).2.2)))).1.2.2.1)) 1 ((frT h ((((t.1 6).1), ((t.1 7).1), (t.1 5).1 0, (t.1 5).1 1), (((((t.1 9).1), ((t.1 11).1), ((t.1 12).1), (t.1 8).1 0), ((t.1 10).1)), ((t.1 13).1), ((t.1 14).1)), (((t.1 15).1), ((t.1 16).1), ((t.1 17).2.2)))).1.2.2.2)), (t.1 5).2.1, (t.1 5).2.2)), (6, ((frT h ((((t.1 6).1), ((t.1 7).1), (t.1 5).1 0, (t.1 5).1 1), (((((t.1 9).1), ((t.1 11).1), ((t.1 12).1), (t.1 8).1 0), ((t.1 10).1)), ((t.1 13).1), ((t.1 14).1)), (((t.1 15).1), ((t.1 16).1), ((t.1 17).2.2)))).1.1, (t.1 6).2)), (7, ((frT h ((((t.1 6).1), ((t.1 7).1), (t.1 5).1 0, (t.1 5).1 1), (((((t.1 9).1), ((t.1 11).1), ((t.1 12).1), (t.1 8).1 0), ((t.1 10).1)), ((t.1 13).1), ((t.1 14).1)), (((t.1 15).1), ((t.1 16).1), ((t.1 17).2.2)))).1.2.1, (t.1 7).2)), (8, ((upd ((t.1 8).1) 0 ((frT h ((((t.1 6).1), ((t.1 7).1), (t.1 5).1 0, (t.1 5).1 1), (((((t.1 9).1), ((t.1 11).1), ((t.1 12).1), (t.1 8).1 0), ((t.1 10).1)), ((t.1 13).1), ((t.1 14).1)), (((t.1 15).1), ((t.1 16).1), ((t.1 17).2.2)))).2.1.1.1.2.2.2)), (t.1 8).2.1, (t.1 8).2.2)), (9, ((frT h ((((t.1 6).1), ((t.1 7).1), (t.1 5).1 0, (t.1 5).1 1), (((((t.1 9).1), ((t.1 11).1), ((t.1 12).1), (t.1 8).1 0), ((t.1 10).1)), ((t.1 13).1), ((t.1 14).1)), (((t.1 15).1), ((t.1 16).1), ((t.1 17).2.2)))).2.1.1.1.1, (t.1 9).2)), (10, ((frT h ((((t.1 6).1), ((t.1 7).1), (t.1 5).1 0, (t.1 5).1 1), (((((t.1 9).1), ((t.1 11).1), ((t.1 12).1), (t.1 8).1 0), ((t.1 10).1)), ((t.1 13).1), ((t.1 14).1)), (((t.1 15).1), ((t.1 16).1), ((t.1 17).2.2)))).2.1.1.2, (t.1 10).2)), (11, ((frT h ((((t.1 6).1), ((t.1 7).1), (t.1 5).1 0, (t.1 5).1 1), (((((t.1 9).1), ((t.1 11).1), ((t.1 12).1), (t.1 8).1 0), ((t.1 10).1)), ((t.1 13).1), ((t.1 14).1)), (((t.1 15).1), ((t.1 16).1), ((t.1 17).2.2)))).2.1.1.1.2.1, (t.1 11).2)), (12, ((frT h ((((t.1 6).1), ((t.1 7).1), (t.1 5).1 0, (t.1 5).1 1), (((((t.1 9).1), ((t.1 11).1), ((t.1 12).1), (t.1 8).1 0), ((t.1 10).1)), ((t.1 13).1), ((t.1 14).1)), (((t.1 15).1), ((t.1 16).1), ((t.1 17).2.2)))).2.1.1.1.2.2.1, (t.1 12).2)), (13, ((frT h ((((t.1 6).1), ((t.1 7).1), (t.1 5).1 0, (t.1 5).1 1), (((((t.1 9).1), ((t.1 11).1), ((t.1 12).1), (t.1 8).1 0), ((t.1 10).1)), ((t.1 13).1), ((t.1 14).1)), (((t.1 15).1), ((t.1 16).1), ((t.1 17).2.2)))).2.1.2.1, (t.1 13).2)), (14, ((frT h ((((t.1 6).1), ((t.1 7).1), (t.1 5).1 0, (t.1 5).1 1), (((((t.1 9).1), ((t.1 11).1), ((t.1 12).1), (t.1 8).1 0), ((t.1 10).1)), ((t.1 13).1), ((t.1 14).1)), (((t.1 15).1), ((t.1 16).1), ((t.1 17).2.2)))).2.1.2.2, (t.1 14).2)), (15, ((frT h ((((t.1 6).1), ((t.1 7).1), (t.1 5).1 0, (t.1 5).1 1), (((((t.1 9).1), ((t.1 11).1), ((t.1 12).1), (t.1 8).1 0), ((t.1 10).1)), ((t.1 13).1), ((t.1 14).1)), (((t.1 15).1), ((t.1 16).1), ((t.1 17).2.2)))).2.2.1, (t.1 15).2)), (16, ((frT h ((((t.1 6).1), ((t.1 7).1), (t.1 5).1 0, (t.1 5).1 1), (((((t.1 9).1), ((t.1 11).1), ((t.1 12).1), (t.1 8).1 0), ((t.1 10).1)), ((t.1 13).1), ((t.1 14).1)), (((t.1 15).1), ((t.1 16).1), ((t.1 17).2.2)))).2.2.2.1, (t.1 16).2)), (17, ((t.1 17).1, (t.1 17).2.1, (frT h ((((t.1 6).1), ((t.1 7).1), (t.1 5).1 0, (t.1 5).1 1), (((((t.1 9).1), ((t.1 11).1), ((t.1 12).1), (t.1 8).1 0), ((t.1 10).1)), ((t.1 13).1), ((t.1 14).1)), (((t.1 15).1), ((t.1 16).1), ((t.1 17).2.2)))).2.2.2.2))], t.2)) (is := [0, 5, 6, 7, 8, 9, 10, 11, 12, 13, 14, 15, 16, 17]) hi9 rfl ⟨kd_0.mpr rfl, kd_5.mpr rfl, kd_6.mpr rfl, kd_7.mpr rfl, kd_8.mpr rfl, kd_9.mpr rfl, kd_10.mpr rfl, kd_11.mpr rfl, kd_12.mpr rfl, kd_13.mpr rfl, kd_14.mpr rfl, kd_15.mpr ⟨(frT_01 (X := ((((t.1 6).1), ((t.1 7).1), (t.1 5).1 0, (t.1 5).1 1), (((((t.1 9).1), ((t.1 11).1), ((t.1 12).1), (t.1 8).1 0), ((t.1 10).1)), ((t.1 13).1), ((t.1 14).1)), (((t.1 15).1), ((t.1 16).1), ((t.1 17).2.2)))) c_ta4_0), rfl⟩, kd_16.mpr rfl, kd_17.mpr rfl, trivial⟩ (by decide) (by decide) (fun i hi hn => zup_out (fun q => hn ((by decide : ∀ j ∈ ([5, 6, 7, 8, 9, 10, 11, 12, 13, 14, 15, 16, 17] : List Nat), j ∈ ([0, 5, 6, 7, 8, 9, 10, 11, 12, 13, 14, 15, 16, 17] : List Nat)) i q))) (fun h => h) rfl⟩
set_option maxHeartbeats 4000000 in
theorem Qx_Ip_lastPlaceN {g : zG} {ad : Nat → Nat} {t : zTT} {u : zNN} {w : zW} (hI : IV g ad t u w) (h : Int32) (hh : 1200 ≤ h ∧ h ≤ 1500) (hl : ¬ lfX (frT h ((((t.1 6).1), ((t.1 7).1), (t.1 5).1 0, (t.1 5).1 1), (((((t.1 9).1), ((t.1 11).1), ((t.1 12).1), (t.1 8).1 0), ((t.1 10).1)), ((t.1 13).1), ((t.1 14).1)), (((t.1 15).1), ((t.1 16).1), ((t.1 17).2.2)))) < 0) : zMB g M_Ip_lastPlace [.ref (ad 0), .int h] w (fun o w1 => o = .inl (some (.int (lfX (frT h ((((t.1 6).1), ((t.1 7).1), (t.1 5).1 0, (t.1 5).1 1), (((((t.1 9).1), ((t.1 11).1), ((t.1 12).1), (t.1 8).1 0), ((t.1 10).1)), ((t.1 13).1), ((t.1 14).1)), (((t.1 15).1), ((t.1 16).1), ((t.1 17).2.2))))))) ∧ IV g ad (zup t.1 [(5, ((upd (upd ((t.1 5).1) 0 ((frT h ((((t.1 6).1), ((t.1 7).1), (t.1 5).1 0, (t.1 5).1 1), (((((t.1 9).1), ((t.1 11).1), ((t.1 12).1), (t.1 8).1 0), ((t.1 10).1)), ((t.1 13).1), ((t.1 14).1)), (((t.1 15).1), ((t.1 16).1), ((t.1 17).2.2)))).1.2.2.1)) 1 ((frT h ((((t.1 6).1), ((t.1 7).1), (t.1 5).1 0, (t.1 5).1 1), (((((t.1 9).1), ((t.1 11).1), ((t.1 12).1), (t.1 8).1 0), ((t.1 10).1)), ((t.1 13).1), ((t.1 14).1)), (((t.1 15).1), ((t.1 16).1), ((t.1 17).2.2)))).1.2.2.2)), (t.1 5).2.1, (t.1 5).2.2)), (6, ((frT h ((((t.1 6).1), ((t.1 7).1), (t.1 5).1 0, (t.1 5).1 1), (((((t.1 9).1), ((t.1 11).1), ((t.1 12).1), (t.1 8).1 0), ((t.1 10).1)), ((t.1 13).1), ((t.1 14).1)), (((t.1 15).1), ((t.1 16).1), ((t.1 17).2.2)))).1.1, (t.1 6).2)), (7, ((frT h ((((t.1 6).1), ((t.1 7).1), (t.1 5).1 0, (t.1 5).1 1), (((((t.1 9).1), ((t.1 11).1), ((t.1 12).1), (t.1 8).1 0), ((t.1 10).1)), ((t.1 13).1), ((t.1 14).1)), (((t.1 15).1), ((t.1 16).1), ((t.1 17).2.2)))).1.2.1, (t.1 7).2)), (8, ((upd ((t.1 8).1) 0 ((frT h ((((t.1 6).1), ((t.1 7).1), (t.1 5).1 0, (t.1 5).1 1), (((((t.1 9).1), ((t.1 11).1), ((t.1 12).1), (t.1 8).1 0), ((t.1 10).1)), ((t.1 13).1), ((t.1 14).1)), (((t.1 15).1), ((t.1 16).1), ((t.1 17).2.2)))).2.1.1.1.2.2.2)), (t.1 8).2.1, (t.1 8).2.2)), (9, ((frT h ((((t.1 6).1), ((t.1 7).1), (t.1 5).1 0, (t.1 5).1 1), (((((t.1 9).1), ((t.1 11).1), ((t.1 12).1), (t.1 8).1 0), ((t.1 10).1)), ((t.1 13).1), ((t.1 14).1)), (((t.1 15).1), ((t.1 16).1), ((t.1 17).2.2)))).2.1.1.1.1, (t.1 9).2)), (10, ((frT h ((((t.1 6).1), ((t.1 7).1), (t.1 5).1 0, (t.1 5).1 1), (((((t.1 9).1), ((t.1 11).1), ((t.1 12).1), (t.1 8).1 0), ((t.1 10).1)), ((t.1 13).1), ((t.1 14).1)), (((t.1 15).1), ((t.1 16).1), ((t.1 17).2.2)))).2.1.1.2, (t.1 10).2)), (11, ((frT h ((((t.1 6).1), ((t.1 7).1), (t.1 5).1 0, (t.1 5).1 1), (((((t.1 9).1), ((t.1 11).1), ((t.1 12).1), (t.1 8).1 0), ((t.1 10).1)), ((t.1 13).1), ((t.1 14).1)), (((t.1 15).1), ((t.1 16).1), ((t.1 17).2.2)))).2.1.1.1.2.1, (t.1 11).2)), (12, ((frT h ((((t.1 6).1), ((t.1 7).1), (t.1 5).1 0, (t.1 5).1 1), (((((t.1 9).1), ((t.1 11).1), ((t.1 12).1), (t.1 8).1 0), ((t.1 10).1)), ((t.1 13).1), ((t.1 14).1)), (((t.1 15).1), ((t.1 16).1), ((t.1 17).2.2)))).2.1.1.1.2.2.1, (t.1 12).2)), (13, ((frT h ((((t.1 6).1), ((t.1 7).1), (t.1 5).1 0, (t.1 5).1 1), (((((t.1 9).1), ((t.1 11).1), ((t.1 12).1), (t.1 8).1 0), ((t.1 10).1)), ((t.1 13).1), ((t.1 14).1)), (((t.1 15).1), ((t.1 16).1), ((t.1 17).2.2)))).2.1.2.1, (t.1 13).2)), (14, ((frT h ((((t.1 6).1), ((t.1 7).1), (t.1 5).1 0, (t.1 5).1 1), (((((t.1 9).1), ((t.1 11).1), ((t.1 12).1), (t.1 8).1 0), ((t.1 10).1)), ((t.1 13).1), ((t.1 14).1)), (((t.1 15).1), ((t.1 16).1), ((t.1 17).2.2)))).2.1.2.2, (t.1 14).2)), (15, ((frT h ((((t.1 6).1), ((t.1 7).1), (t.1 5).1 0, (t.1 5).1 1), (((((t.1 9).1), ((t.1 11).1), ((t.1 12).1), (t.1 8).1 0), ((t.1 10).1)), ((t.1 13).1), ((t.1 14).1)), (((t.1 15).1), ((t.1 16).1), ((t.1 17).2.2)))).2.2.1, (t.1 15).2)), (16, ((frT h ((((t.1 6).1), ((t.1 7).1), (t.1 5).1 0, (t.1 5).1 1), (((((t.1 9).1), ((t.1 11).1), ((t.1 12).1), (t.1 8).1 0), ((t.1 10).1)), ((t.1 13).1), ((t.1 14).1)), (((t.1 15).1), ((t.1 16).1), ((t.1 17).2.2)))).2.2.2.1, (t.1 16).2)), (17, ((t.1 17).1, (t.1 17).2.1, (frT h ((((t.1 6).1), ((t.1 7).1), (t.1 5).1 0, (t.1 5).1 1), (((((t.1 9).1), ((t.1 11).1), ((t.1 12).1), (t.1 8).1 0), ((t.1 10).1)), ((t.1 13).1), ((t.1 14).1)), (((t.1 15).1), ((t.1 16).1), ((t.1 17).2.2)))).2.2.2.2))], t.2) u w1) 2 12 := by
  obtain ⟨e_a, w_a, k_a⟩ := hI.1.2 0 (by decide)
  obtain rfl := kd_0.mp k_a
  obtain ⟨e_ta, w_ta, k_ta⟩ := hI.1.2 5 (by decide)
  obtain rfl := kd_5.mp k_ta
  obtain ⟨e_ta1, w_ta1, k_ta1⟩ := hI.1.2 6 (by decide)
  obtain rfl := kd_6.mp k_ta1
  obtain ⟨e_ta2, w_ta2, k_ta2⟩ := hI.1.2 7 (by decide)
  obtain rfl := kd_7.mp k_ta2
  obtain ⟨e_taz, w_taz, k_taz⟩ := hI.1.2 8 (by decide)
  obtain rfl := kd_8.mp k_taz
  obtain ⟨e_taz1, w_taz1, k_taz1⟩ := hI.1.2 9 (by decide)
  obtain rfl := kd_9.mp k_taz1
  obtain ⟨e_taz2, w_taz2, k_taz2⟩ := hI.1.2 10 (by decide)
  obtain rfl := kd_10.mp k_taz2
  obtain ⟨e_taz3, w_taz3, k_taz3⟩ := hI.1.2 11 (by decide)
  obtain rfl := kd_11.mp k_taz3
  obtain ⟨e_taz4, w_taz4, k_taz4⟩ := hI.1.2 12 (by decide)
  obtain rfl := kd_12.mp k_taz4
  obtain ⟨e_taz5, w_taz5, k_taz5⟩ := hI.1.2 13 (by decide)
  obtain rfl := kd_13.mp k_taz5
  obtain ⟨e_taz6, w_taz6, k_taz6⟩ := hI.1.2 14 (by decide)
  obtain rfl := kd_14.mp k_taz6
  obtain ⟨e_ta4, w_ta4, k_ta4⟩ := hI.1.2 15 (by decide)
  obtain ⟨c_ta4_0, rfl⟩ := kd_15.mp k_ta4
  obtain ⟨e_ta5, w_ta5, k_ta5⟩ := hI.1.2 16 (by decide)
  obtain rfl := kd_16.mp k_ta5
  obtain ⟨e_ta6, w_ta6, k_ta6⟩ := hI.1.2 17 (by decide)
  obtain rfl := kd_17.mp k_ta6
  refine ((C_Ip_lastPlaceN g (ad 0) (ad 1) (ad 5) (ad 18) (ad 31) (ad 32) (ad 36) (ad 42) (ad 45) (ad 47) (ad 49) (ad 50) (ad 51) (ad 6) (ad 7) (ad 8) (ad 9) (ad 10) (ad 11) (ad 12) (ad 13) (ad 14) (ad 15) (ad 16) (ad 17) ((((t.1 6).1), ((t.1 7).1), (t.1 5).1 0, (t.1 5).1 1), (((((t.1 9).1), ((t.1 11).1), ((t.1 12).1), (t.1 8).1 0), ((t.1 10).1)), ((t.1 13).1), ((t.1 14).1)), (((t.1 15).1), ((t.1 16).1), ((t.1 17).2.2))) h hh hl).at (hI.1.I [0, 5, 6, 7, 8, 9, 10, 11, 12, 13, 14, 15, 16, 17] _ rfl (by decide) (by decide) (List.forall_mem_cons.mpr ⟨w_a, (List.forall_mem_cons.mpr ⟨w_ta, (List.forall_mem_cons.mpr ⟨w_ta1, (List.forall_mem_cons.mpr ⟨w_ta2, (List.forall_mem_cons.mpr ⟨w_taz, (List.forall_mem_cons.mpr ⟨w_taz1, (List.forall_mem_cons.mpr ⟨w_taz2, (List.forall_mem_cons.mpr ⟨w_taz3, (List.forall_mem_cons.mpr ⟨w_taz4, (List.forall_mem_cons.mpr ⟨w_taz5, (List.forall_mem_cons.mpr ⟨w_taz6, (List.forall_mem_cons.mpr ⟨w_ta4, (List.forall_mem_cons.mpr ⟨w_ta5, (List.forall_mem_cons.mpr ⟨w_ta6, (fun _ h => nomatch h)⟩)⟩)⟩)⟩)⟩)⟩)⟩)⟩)⟩)⟩)⟩)⟩)⟩)⟩))).mono (Nat.le_of_ble_eq_true rfl) (Nat.le_of_ble_eq_true rfl) (fun o w1 hp => ?_)
  obtain ⟨cs1, hp, hi9⟩ := hp
  obtain ⟨e1, e2⟩ := hp
  subst e1; subst e2
  exact ⟨rfl, hI.fix (t2 := (zup t.1 [(5, ((upd (upd ((t.1 5).1) 0 ((frT h ((((t.1 6).1), ((t.1 7).1), (t.1 5).1 0, (t.1 5).1 1), (((((t.1 9).1), ((t.1 11).1), ((t.1 12).1), (t.1 8).1 0), ((t.1 10).1)), ((t.1 13).1), ((t.1 14).1)), (((t.1 15).1), ((t.1 16).1), ((t.1 17).2.2)))).1.2.2.1)) 1 ((frT h ((((t.1 6).1), ((t.1 7).1), (t.1 5).1 0, (t.1 5).1 1), (((((t.1 9).1), ((t.1 11).1), ((t.1 12).1), (t.1 8).1 0), ((t.1 10).1)), ((t.1 13).1), ((t.1 14).1)), (((t.1 15).1), ((t.1 16).1), ((t.1 17).2.2)))).1.2.2.2)), (t.1 5).2.1, (t.1 5).2.2)), (6, ((frT h ((((t.1 6).1), ((t.1 7).1), (t.1 5).1 0, (t.1 5).1 1), (((((t.1 9).1), ((t.1 11).1), ((t.1 12).1), (t.1 8).1 0), ((t.1 10).1)), ((t.1 13).1), ((t.1 14).1)), (((t.1 15).1), ((t.1 16).1), ((t.1 17).2.2)))).1.1, (t.1 6).2)), (7, ((frT h ((((t.1 6).1), ((t.1 7).1), (t.1 5).1 0, (t.1 5).1 1), (((((t.1 9).1), ((t.1 11).1), ((t.1 12).1), (t.1 8).1 0), ((t.1 10).1)), ((t.1 13).1), ((t.1 14).1)), (((t.1 15).1), ((t.1 16).1), ((t.1 17).2.2)))).1.2.1, (t.1 7).2)), (8, ((upd ((t.1 8).1) 0 ((frT h ((((t.1 6).1), ((t.1 7).1), (t.1 5).1 0, (t.1 5).1 1), (((((t.1 9).1), ((t.1 11).1), ((t.1 12).1), (t.1 8).1 0), ((t.1 10).1)), ((t.1 13).1), ((t.1 14).1)), (((t.1 15).1), ((t.1 16).1), ((t.1 17).2.2)))).2.1.1.1.2.2.2)), (t.1 8).2.1, (t.1 8).2.2)), (9, ((frT h ((((t.1 6).1), ((t.1 7).1), (t.1 5).1 0, (t.1 5).1 1), (((((t.1 9).1), ((t.1 11).1), ((t.1 12).1), (t.1 8).1 0), ((t.1 10).1)), ((t.1 13).1), ((t.1 14).1)), (((t.1 15).1), ((t.1 16).1), ((t.1 17).2.2)))).2.1.1.1.1, (t.1 9).2)), (10, ((frT h ((((t.1 6).1), ((t.1 7).1), (t.1 5).1 0, (t.1 5).1 1), (((((t.1 9).1), ((t.1 11).1), ((t.1 12).1), (t.1 8).1 0), ((t.1 10).1)), ((t.1 13).1), ((t.1 14).1)), (((t.1 15).1), ((t.1 16).1), ((t.1 17).2.2)))).2.1.1.2, (t.1 10).2)), (11, ((frT h ((((t.1 6).1), ((t.1 7).1), (t.1 5).1 0, (t.1 5).1 1), (((((t.1 9).1), ((t.1 11).1), ((t.1 12).1), (t.1 8).1 0), ((t.1 10).1)), ((t.1 13).1), ((t.1 14).1)), (((t.1 15).1), ((t.1 16).1), ((t.1 17).2.2)))).2.1.1.1.2.1, (t.1 11).2)), (12, ((frT h ((((t.1 6).1), ((t.1 7).1), (t.1 5).1 0, (t.1 5).1 1), (((((t.1 9).1), ((t.1 11).1), ((t.1 12).1), (t.1 8).1 0), ((t.1 10).1)), ((t.1 13).1), ((t.1 14).1)), (((t.1 15).1), ((t.1 16).1), ((t.1 17).2.2)))).2.1.1.1.2.2.1, (t.1 12).2)), (13, ((frT h ((((t.1 6).1), ((t.1 7).1), (t.1 5).1 0, (t.1 5).1 1), (((((t.1 9).1), ((t.1 11).1), ((t.1 12).1), (t.1 8).1 0), ((t.1 10).1)), ((t.1 13).1), ((t.1 14).1)), (((t.1 15).1), ((t.1 16).1), ((t.1 17).2.2)))).2.1.2.1, (t.1 13).2)), (14, ((frT h ((((t.1 6).1), ((t.1 7).1), (t.1 5).1 0, (t.1 5).1 1), (((((t.1 9).1), ((t.1 11).1), ((t.1 12).1), (t.1 8).1 0), ((t.1 10).1)), ((t.1 13).1), ((t.1 14).1)), (((t.1 15).1), ((t.1 16).1), ((t.1 17).2.2)))).2.1.2.2, (t.1 14).2)), (15, ((frT h ((((t.1 6).1), ((t.1 7).1), (t.1 5).1 0, (t.1 5).1 1), (((((t.1 9).1), ((t.1 11).1), ((t.1 12).1), (t.1 8).1 0), ((t.1 10).1)), ((t.1 13).1), ((t.1 14).1)), (((t.1 15).1), ((t.1 16).1), ((t.1 17).2.2)))).2.2.1, (t.1 15).2)), (16, ((frT h ((((t.1 6).1), ((t.1 7).1), (t.1 5).1 0, (t.1 5).1 1), (((((t.1 9).1), ((t.1 11).1), ((t.1 12).1), (t.1 8).1 0), ((t.1 10).1)), ((t.1 13).1), ((t.1 14).1)), (((t.1 15).1), ((t.1 16).1), ((t.1 17).2.2)))).2.2.2.1, (t.1 16).2)), (17, ((t.1 17).1, (t.1 17).2.1, (frT h ((((t.1 6).1), ((t.1 7).1), (t.1 5).1 0, (t.1 5).1 1), (((((t.1 9).1), ((t.1 11).1), ((t.1 12).1), (t.1 8).1 0), ((t.1 10).1)), ((t.1 13).1), ((t.1 14).1)), (((t.1 15).1), ((t.1 16).1), ((t.1 17).2.2)))).2.2.2.2))], t.2)) (is := [0, 5, 6, 7, 8, 9, 10, 11, 12, 13, 14, 15, 16, 17]) hi9 rfl ⟨kd_0.mpr rfl, kd_5.mpr rfl, kd_6.mpr rfl, kd_7.mpr rfl, kd_8.mpr rfl, kd_9.mpr rfl, kd_10.mpr rfl, kd_11.mpr rfl, kd_12.mpr rfl, kd_13.mpr rfl, kd_14.mpr rfl, kd_15.mpr ⟨(frT_01 (X := ((((t.1 6).1), ((t.1 7).1), (t.1 5).1 0, (t.1 5).1 1), (((((t.1 9).1), ((t.1 11).1), ((t.1 12).1), (t.1 8).1 0), ((t.1 10).1)), ((t.1 13).1), ((t.1 14).1)), (((t.1 15).1), ((t.1 16).1), ((t.1 17).2.2)))) c_ta4_0), rfl⟩, kd_16.mpr rfl, kd_17.mpr rfl, trivial⟩ (by decide) (by decide) (fun i hi hn => zup_out (fun q => hn ((by decide : ∀ j ∈ ([5, 6, 7, 8, 9, 10, 11, 12, 13, 14, 15, 16, 17] : List Nat), j ∈ ([0, 5, 6, 7, 8, 9, 10, 11, 12, 13, 14, 15, 16, 17] : List Nat)) i q))) (fun h => h) rfl⟩
set_option maxHeartbeats 4000000 in
theorem Qx_Ip_lastPlaceE {g : zG} {ad : Nat → Nat} {t : zTT} {u : zNN} {w : zW} (hI : IV g ad t u w) (h : Int32) (hh : ¬ (1200 ≤ h ∧ h ≤ 1500)) : zMB g M_Ip_lastPlace [.ref (ad 0), .int h] w (fun o w1 => o = .inr "java/lang/IllegalArgumentException" ∧ IV g ad (zup t.1 [(5, ((upd (upd ((t.1 5).1) 0 (((((t.1 6).1), ((t.1 7).1), (t.1 5).1 0, (t.1 5).1 1), (((((t.1 9).1), ((t.1 11).1), ((t.1 12).1), (t.1 8).1 0), ((t.1 10).1)), ((t.1 13).1), ((t.1 14).1)), (((t.1 15).1), ((t.1 16).1), ((t.1 17).2.2))).1.2.2.1)) 1 (((((t.1 6).1), ((t.1 7).1), (t.1 5).1 0, (t.1 5).1 1), (((((t.1 9).1), ((t.1 11).1), ((t.1 12).1), (t.1 8).1 0), ((t.1 10).1)), ((t.1 13).1), ((t.1 14).1)), (((t.1 15).1), ((t.1 16).1), ((t.1 17).2.2))).1.2.2.2)), (t.1 5).2.1, (t.1 5).2.2)), (6, (((((t.1 6).1), ((t.1 7).1), (t.1 5).1 0, (t.1 5).1 1), (((((t.1 9).1), ((t.1 11).1), ((t.1 12).1), (t.1 8).1 0), ((t.1 10).1)), ((t.1 13).1), ((t.1 14).1)), (((t.1 15).1), ((t.1 16).1), ((t.1 17).2.2))).1.1, (t.1 6).2)), (7, (((((t.1 6).1), ((t.1 7).1), (t.1 5).1 0, (t.1 5).1 1), (((((t.1 9).1), ((t.1 11).1), ((t.1 12).1), (t.1 8).1 0), ((t.1 10).1)), ((t.1 13).1), ((t.1 14).1)), (((t.1 15).1), ((t.1 16).1), ((t.1 17).2.2))).1.2.1, (t.1 7).2)), (8, ((upd ((t.1 8).1) 0 (((((t.1 6).1), ((t.1 7).1), (t.1 5).1 0, (t.1 5).1 1), (((((t.1 9).1), ((t.1 11).1), ((t.1 12).1), (t.1 8).1 0), ((t.1 10).1)), ((t.1 13).1), ((t.1 14).1)), (((t.1 15).1), ((t.1 16).1), ((t.1 17).2.2))).2.1.1.1.2.2.2)), (t.1 8).2.1, (t.1 8).2.2)), (9, (((((t.1 6).1), ((t.1 7).1), (t.1 5).1 0, (t.1 5).1 1), (((((t.1 9).1), ((t.1 11).1), ((t.1 12).1), (t.1 8).1 0), ((t.1 10).1)), ((t.1 13).1), ((t.1 14).1)), (((t.1 15).1), ((t.1 16).1), ((t.1 17).2.2))).2.1.1.1.1, (t.1 9).2)), (10, (((((t.1 6).1), ((t.1 7).1), (t.1 5).1 0, (t.1 5).1 1), (((((t.1 9).1), ((t.1 11).1), ((t.1 12).1), (t.1 8).1 0), ((t.1 10).1)), ((t.1 13).1), ((t.1 14).1)), (((t.1 15).1), ((t.1 16).1), ((t.1 17).2.2))).2.1.1.2, (t.1 10).2)), (11, (((((t.1 6).1), ((t.1 7).1), (t.1 5).1 0, (t.1 5).1 1), (((((t.1 9).1), ((t.1 11).1), ((t.1 12).1), (t.1 8).1 0), ((t.1 10).1)), ((t.1 13).1), ((t.1 14).1)), (((t.1 15).1), ((t.1 16).1), ((t.1 17).2.2))).2.1.1.1.2.1, (t.1 11).2)), (12, (((((t.1 6).1), ((t.1 7).1), (t.1 5).1 0, (t.1 5).1 1), (((((t.1 9).1), ((t.1 11).1), ((t.1 12).1), (t.1 8).1 0), ((t.1 10).1)), ((t.1 13).1), ((t.1 14).1)), (((t.1 15).1), ((t.1 16).1), ((t.1 17).2.2))).2.1.1.1.2.2.1, (t.1 12).2)), (13, (((((t.1 6).1), ((t.1 7).1), (t.1 5).1 0, (t.1 5).1 1), (((((t.1 9).1), ((t.1 11).1), ((t.1 12).1), (t.1 8).1 0), ((t.1 10).1)), ((t.1 13).1), ((t.1 14).1)), (((t.1 15).1), ((t.1 16).1), ((t.1 17).2.2))).2.1.2.1, (t.1 13).2)), (14, (((((t.1 6).1), ((t.1 7).1), (t.1 5).1 0, (t.1 5).1 1), (((((t.1 9).1), ((t.1 11).1), ((t.1 12).1), (t.1 8).1 0), ((t.1 10).1)), ((t.1 13).1), ((t.1 14).1)), (((t.1 15).1), ((t.1 16).1), ((t.1 17).2.2))).2.1.2.2, (t.1 14).2)), (15, (((((t.1 6).1), ((t.1 7).1), (t.1 5).1 0, (t.1 5).1 1), (((((t.1 9).1), ((t.1 11).1), ((t.1 12).1), (t.1 8).1 0), ((t.1 10).1)), ((t.1 13).1), ((t.1 14).1)), (((t.1 15).1), ((t.1 16).1), ((t.1 17).2.2))).2.2.1, (t.1 15).2)), (16, (((((t.1 6).1), ((t.1 7).1), (t.1 5).1 0, (t.1 5).1 1), (((((t.1 9).1), ((t.1 11).1), ((t.1 12).1), (t.1 8).1 0), ((t.1 10).1)), ((t.1 13).1), ((t.1 14).1)), (((t.1 15).1), ((t.1 16).1), ((t.1 17).2.2))).2.2.2.1, (t.1 16).2)), (17, ((t.1 17).1, (t.1 17).2.1, ((((t.1 6).1), ((t.1 7).1), (t.1 5).1 0, (t.1 5).1 1), (((((t.1 9).1), ((t.1 11).1), ((t.1 12).1), (t.1 8).1 0), ((t.1 10).1)), ((t.1 13).1), ((t.1 14).1)), (((t.1 15).1), ((t.1 16).1), ((t.1 17).2.2))).2.2.2.2))], t.2) u w1) 1 6 := by
  obtain ⟨e_a, w_a, k_a⟩ := hI.1.2 0 (by decide)
  obtain rfl := kd_0.mp k_a
  obtain ⟨e_ta, w_ta, k_ta⟩ := hI.1.2 5 (by decide)
  obtain rfl := kd_5.mp k_ta
  obtain ⟨e_ta1, w_ta1, k_ta1⟩ := hI.1.2 6 (by decide)
  obtain rfl := kd_6.mp k_ta1
  obtain ⟨e_ta2, w_ta2, k_ta2⟩ := hI.1.2 7 (by decide)
  obtain rfl := kd_7.mp k_ta2
  obtain ⟨e_taz, w_taz, k_taz⟩ := hI.1.2 8 (by decide)
  obtain rfl := kd_8.mp k_taz
  obtain ⟨e_taz1, w_taz1, k_taz1⟩ := hI.1.2 9 (by decide)
  obtain rfl := kd_9.mp k_taz1
  obtain ⟨e_taz2, w_taz2, k_taz2⟩ := hI.1.2 10 (by decide)
  obtain rfl := kd_10.mp k_taz2
  obtain ⟨e_taz3, w_taz3, k_taz3⟩ := hI.1.2 11 (by decide)
  obtain rfl := kd_11.mp k_taz3
  obtain ⟨e_taz4, w_taz4, k_taz4⟩ := hI.1.2 12 (by decide)
  obtain rfl := kd_12.mp k_taz4
  obtain ⟨e_taz5, w_taz5, k_taz5⟩ := hI.1.2 13 (by decide)
  obtain rfl := kd_13.mp k_taz5
  obtain ⟨e_taz6, w_taz6, k_taz6⟩ := hI.1.2 14 (by decide)
  obtain rfl := kd_14.mp k_taz6
  obtain ⟨e_ta4, w_ta4, k_ta4⟩ := hI.1.2 15 (by decide)
  obtain ⟨c_ta4_0, rfl⟩ := kd_15.mp k_ta4
  obtain ⟨e_ta5, w_ta5, k_ta5⟩ := hI.1.2 16 (by decide)
  obtain rfl := kd_16.mp k_ta5
  obtain ⟨e_ta6, w_ta6, k_ta6⟩ := hI.1.2 17 (by decide)
  obtain rfl := kd_17.mp k_ta6
  refine ((C_Ip_lastPlaceE g (ad 0) (ad 1) (ad 5) (ad 18) (ad 31) (ad 32) (ad 36) (ad 42) (ad 45) (ad 47) (ad 49) (ad 50) (ad 51) (ad 6) (ad 7) (ad 8) (ad 9) (ad 10) (ad 11) (ad 12) (ad 13) (ad 14) (ad 15) (ad 16) (ad 17) ((((t.1 6).1), ((t.1 7).1), (t.1 5).1 0, (t.1 5).1 1), (((((t.1 9).1), ((t.1 11).1), ((t.1 12).1), (t.1 8).1 0), ((t.1 10).1)), ((t.1 13).1), ((t.1 14).1)), (((t.1 15).1), ((t.1 16).1), ((t.1 17).2.2))) h hh).at (hI.1.I [0, 5, 6, 7, 8, 9, 10, 11, 12, 13, 14, 15, 16, 17] _ rfl (by decide) (by decide) (List.forall_mem_cons.mpr ⟨w_a, (List.forall_mem_cons.mpr ⟨w_ta, (List.forall_mem_cons.mpr ⟨w_ta1, (List.forall_mem_cons.mpr ⟨w_ta2, (List.forall_mem_cons.mpr ⟨w_taz, (List.forall_mem_cons.mpr ⟨w_taz1, (List.forall_mem_cons.mpr ⟨w_taz2, (List.forall_mem_cons.mpr ⟨w_taz3, (List.forall_mem_cons.mpr ⟨w_taz4, (List.forall_mem_cons.mpr ⟨w_taz5, (List.forall_mem_cons.mpr ⟨w_taz6, (List.forall_mem_cons.mpr ⟨w_ta4, (List.forall_mem_cons.mpr ⟨w_ta5, (List.forall_mem_cons.mpr ⟨w_ta6, (fun _ h => nomatch h)⟩)⟩)⟩)⟩)⟩)⟩)⟩)⟩)⟩)⟩)⟩)⟩)⟩)⟩))).mono (Nat.le_of_ble_eq_true rfl) (Nat.le_of_ble_eq_true rfl) (fun o w1 hp => ?_)
  obtain ⟨cs1, hp, hi9⟩ := hp
  obtain ⟨e1, e2⟩ := hp
  subst e1; subst e2
  exact ⟨rfl, hI.fix (t2 := (zup t.1 [(5, ((upd (upd ((t.1 5).1) 0 (((((t.1 6).1), ((t.1 7).1), (t.1 5).1 0, (t.1 5).1 1), (((((t.1 9).1), ((t.1 11).1), ((t.1 12).1), (t.1 8).1 0), ((t.1 10).1)), ((t.1 13).1), ((t.1 14).1)), (((t.1 15).1), ((t.1 16).1), ((t.1 17).2.2))).1.2.2.1)) 1 (((((t.1 6).1), ((t.1 7).1), (t.1 5).1 0, (t.1 5).1 1), (((((t.1 9).1), ((t.1 11).1), ((t.1 12).1), (t.1 8).1 0), ((t.1 10).1)), ((t.1 13).1), ((t.1 14).1)), (((t.1 15).1), ((t.1 16).1), ((t.1 17).2.2))).1.2.2.2)), (t.1 5).2.1, (t.1 5).2.2)), (6, (((((t.1 6).1), ((t.1 7).1), (t.1 5).1 0, (t.1 5).1 1), (((((t.1 9).1), ((t.1 11).1), ((t.1 12).1), (t.1 8).1 0), ((t.1 10).1)), ((t.1 13).1), ((t.1 14).1)), (((t.1 15).1), ((t.1 16).1), ((t.1 17).2.2))).1.1, (t.1 6).2)), (7, (((((t.1 6).1), ((t.1 7).1), (t.1 5).1 0, (t.1 5).1 1), (((((t.1 9).1), ((t.1 11).1), ((t.1 12).1), (t.1 8).1 0), ((t.1 10).1)), ((t.1 13).1), ((t.1 14).1)), (((t.1 15).1), ((t.1 16).1), ((t.1 17).2.2))).1.2.1, (t.1 7).2)), (8, ((upd ((t.1 8).1) 0 (((((t.1 6).1), ((t.1 7).1), (t.1 5).1 0, (t.1 5).1 1), (((((t.1 9).1), ((t.1 11).1), ((t.1 12).1), (t.1 8).1 0), ((t.1 10).1)), ((t.1 13).1), ((t.1 14).1)), (((t.1 15).1), ((t.1 16).1), ((t.1 17).2.2))).2.1.1.1.2.2.2)), (t.1 8).2.1, (t.1 8).2.2)), (9, (((((t.1 6).1), ((t.1 7).1), (t.1 5).1 0, (t.1 5).1 1), (((((t.1 9).1), ((t.1 11).1), ((t.1 12).1), (t.1 8).1 0), ((t.1 10).1)), ((t.1 13).1), ((t.1 14).1)), (((t.1 15).1), ((t.1 16).1), ((t.1 17).2.2))).2.1.1.1.1, (t.1 9).2)), (10, (((((t.1 6).1), ((t.1 7).1), (t.1 5).1 0, (t.1 5).1 1), (((((t.1 9).1), ((t.1 11).1), ((t.1 12).1), (t.1 8).1 0), ((t.1 10).1)), ((t.1 13).1), ((t.1 14).1)), (((t.1 15).1), ((t.1 16).1), ((t.1 17).2.2))).2.1.1.2, (t.1 10).2)), (11, (((((t.1 6).1), ((t.1 7).1), (t.1 5).1 0, (t.1 5).1 1), (((((t.1 9).1), ((t.1 11).1), ((t.1 12).1), (t.1 8).1 0), ((t.1 10).1)), ((t.1 13).1), ((t.1 14).1)), (((t.1 15).1), ((t.1 16).1), ((t.1 17).2.2))).2.1.1.1.2.1, (t.1 11).2)), (12, (((((t.1 6).1), ((t.1 7).1), (t.1 5).1 0, (t.1 5).1 1), (((((t.1 9).1), ((t.1 11).1), ((t.1 12).1), (t.1 8).1 0), ((t.1 10).1)), ((t.1 13).1), ((t.1 14).1)), (((t.1 15).1), ((t.1 16).1), ((t.1 17).2.2))).2.1.1.1.2.2.1, (t.1 12).2)), (13, (((((t.1 6).1), ((t.1 7).1), (t.1 5).1 0, (t.1 5).1 1), (((((t.1 9).1), ((t.1 11).1), ((t.1 12).1), (t.1 8).1 0), ((t.1 10).1)), ((t.1 13).1), ((t.1 14).1)), (((t.1 15).1), ((t.1 16).1), ((t.1 17).2.2))).2.1.2.1, (t.1 13).2)), (14, (((((t.1 6).1), ((t.1 7).1), (t.1 5).1 0, (t.1 5).1 1), (((((t.1 9).1), ((t.1 11).1), ((t.1 12).1), (t.1 8).1 0), ((t.1 10).1)), ((t.1 13).1), ((t.1 14).1)), (((t.1 15).1), ((t.1 16).1), ((t.1 17).2.2))).2.1.2.2, (t.1 14).2)), (15, (((((t.1 6).1), ((t.1 7).1), (t.1 5).1 0, (t.1 5).1 1), (((((t.1 9).1), ((t.1 11).1), ((t.1 12).1), (t.1 8).1 0), ((t.1 10).1)), ((t.1 13).1), ((t.1 14).1)), (((t.1 15).1), ((t.1 16).1), ((t.1 17).2.2))).2.2.1, (t.1 15).2)), (16, (((((t.1 6).1), ((t.1 7).1), (t.1 5).1 0, (t.1 5).1 1), (((((t.1 9).1), ((t.1 11).1), ((t.1 12).1), (t.1 8).1 0), ((t.1 10).1)), ((t.1 13).1), ((t.1 14).1)), (((t.1 15).1), ((t.1 16).1), ((t.1 17).2.2))).2.2.2.1, (t.1 16).2)), (17, ((t.1 17).1, (t.1 17).2.1, ((((t.1 6).1), ((t.1 7).1), (t.1 5).1 0, (t.1 5).1 1), (((((t.1 9).1), ((t.1 11).1), ((t.1 12).1), (t.1 8).1 0), ((t.1 10).1)), ((t.1 13).1), ((t.1 14).1)), (((t.1 15).1), ((t.1 16).1), ((t.1 17).2.2))).2.2.2.2))], t.2)) (is := [0, 5, 6, 7, 8, 9, 10, 11, 12, 13, 14, 15, 16, 17]) hi9 rfl ⟨kd_0.mpr rfl, kd_5.mpr rfl, kd_6.mpr rfl, kd_7.mpr rfl, kd_8.mpr rfl, kd_9.mpr rfl, kd_10.mpr rfl, kd_11.mpr rfl, kd_12.mpr rfl, kd_13.mpr rfl, kd_14.mpr rfl, kd_15.mpr ⟨c_ta4_0, rfl⟩, kd_16.mpr rfl, kd_17.mpr rfl, trivial⟩ (by decide) (by decide) (fun i hi hn => zup_out (fun q => hn ((by decide : ∀ j ∈ ([5, 6, 7, 8, 9, 10, 11, 12, 13, 14, 15, 16, 17] : List Nat), j ∈ ([0, 5, 6, 7, 8, 9, 10, 11, 12, 13, 14, 15, 16, 17] : List Nat)) i q))) (fun h => h) rfl⟩
theorem K_Ip_lastPlace {g : zG} {ad : Nat → Nat} {t : zTT} {u : zNN} {w : zW} (hI : IVm g ad t u w) (h : Int32) : zMB g M_Ip_lastPlace [.ref (ad 0), .int h] w (CKx g ad t u.1 ["java/lang/IllegalArgumentException", "java/util/NoSuchElementException"]) 10 300 := by
  obtain ⟨s, hI⟩ := hI
  by_cases hh : 1200 ≤ h ∧ h ≤ 1500
  · by_cases hl : lfX (frT h (((((mg t s).1 6).1), (((mg t s).1 7).1), ((mg t s).1 5).1 0, ((mg t s).1 5).1 1), ((((((mg t s).1 9).1), (((mg t s).1 11).1), (((mg t s).1 12).1), ((mg t s).1 8).1 0), (((mg t s).1 10).1)), (((mg t s).1 13).1), (((mg t s).1 14).1)), ((((mg t s).1 15).1), (((mg t s).1 16).1), (((mg t s).1 17).2.2)))) < 0
    · exact (Qx_Ip_lastPlaceF hI h hh hl).mono (by decide) (by decide) (fun o w1 h => ⟨zri.th h.1 (by simp), u, rfl, IVm.tz h.2 (tx_all rfl)⟩)
    · exact (Qx_Ip_lastPlaceN hI h hh hl).mono (by decide) (by decide) (fun o w1 h => ⟨zri.vl h.1, u, rfl, IVm.tz h.2 (tx_all rfl)⟩)
  · exact (Qx_Ip_lastPlaceE hI h hh).mono (by decide) (by decide) (fun o w1 h => ⟨zri.th h.1 (by simp), u, rfl, IVm.tz h.2 (tx_all rfl)⟩)
set_option maxHeartbeats 4000000 in
theorem Qx_Ip_millN {g : zG} {ad : Nat → Nat} {t : zTT} {u : zNN} {w : zW} (hI : IV g ad t u w) (m1 : Int32) (m2 : Int32) (m3 : Int32) (m4 : Int32) (hw : ((0 ≤ m1 ∧ m1 ≤ 20) ∧ (0 ≤ m2 ∧ m2 ≤ 20) ∧ (0 ≤ m3 ∧ m3 ≤ 20) ∧ (0 ≤ m4 ∧ m4 ≤ 50))) : zMB g M_Ip_mill [.ref (ad 0), .int m1, .int m2, .int m3, .int m4] w (fun o w1 => o = .inl (some (.int (S_GS_strength (ad 31) (if ((t.1 31).1 0) + m1 < 300 then ((t.1 31).1 0) + m1 else 300) (if ((t.1 31).1 1) + m2 < 300 then ((t.1 31).1 1) + m2 else 300) (if ((t.1 31).1 2) + m3 < 300 then ((t.1 31).1 2) + m3 else 300) (((t.1 31).1 3) - ((((t.1 31).1 3) * m4) / 100)) (((t.1 31).1 4) - ((((t.1 31).1 4) * m4) / 100))))) ∧ IV g ad (zup t.1 [(31, ((upd (upd (upd (upd (upd ((t.1 31).1) 0 (if ((t.1 31).1 0) + m1 < 300 then ((t.1 31).1 0) + m1 else 300)) 1 (if ((t.1 31).1 1) + m2 < 300 then ((t.1 31).1 1) + m2 else 300)) 2 (if ((t.1 31).1 2) + m3 < 300 then ((t.1 31).1 2) + m3 else 300)) 3 (((t.1 31).1 3) - ((((t.1 31).1 3) * m4) / 100))) 4 (((t.1 31).1 4) - ((((t.1 31).1 4) * m4) / 100))), (t.1 31).2.1, (t.1 31).2.2))], t.2) u w1) 1 6 := by
  obtain ⟨e_a, w_a, k_a⟩ := hI.1.2 0 (by decide)
  obtain rfl := kd_0.mp k_a
  obtain ⟨e_gs, w_gs, k_gs⟩ := hI.1.2 31 (by decide)
  obtain rfl := kd_31.mp k_gs
  refine ((C_Ip_millN g (ad 0) (ad 1) (ad 5) (ad 18) (ad 31) (ad 32) (ad 36) (ad 42) (ad 45) (ad 47) (ad 49) (ad 50) (ad 51) ((t.1 31).1 0) ((t.1 31).1 1) ((t.1 31).1 2) ((t.1 31).1 3) ((t.1 31).1 4) m1 m2 m3 m4 hw).at (hI.1.I [0, 31] _ rfl (by decide) (by decide) (List.forall_mem_cons.mpr ⟨w_a, (List.forall_mem_cons.mpr ⟨w_gs, (fun _ h => nomatch h)⟩)⟩))).mono (Nat.le_of_ble_eq_true rfl) (Nat.le_of_ble_eq_true rfl) (fun o w1 hp => ?_)
  obtain ⟨cs1, hp, hi9⟩ := hp
  obtain ⟨e1, e2⟩ := hp
  subst e1; subst e2
  exact ⟨rfl, hI.fix (t2 := (zup t.1 [(31, ((upd (upd (upd (upd (upd ((t.1 31).1) 0 (if ((t.1 31).1 0) + m1 < 300 then ((t.1 31).1 0) + m1 else 300)) 1 (if ((t.1 31).1 1) + m2 < 300 then ((t.1 31).1 1) + m2 else 300)) 2 (if ((t.1 31).1 2) + m3 < 300 then ((t.1 31).1 2) + m3 else 300)) 3 (((t.1 31).1 3) - ((((t.1 31).1 3) * m4) / 100))) 4 (((t.1 31).1 4) - ((((t.1 31).1 4) * m4) / 100))), (t.1 31).2.1, (t.1 31).2.2))], t.2)) (is := [0, 31]) hi9 rfl ⟨kd_0.mpr rfl, kd_31.mpr rfl, trivial⟩ (by decide) (by decide) (fun i hi hn => zup_out (fun q => hn ((by decide : ∀ j ∈ ([31] : List Nat), j ∈ ([0, 31] : List Nat)) i q))) (fun h => h) rfl⟩
set_option maxHeartbeats 4000000 in
theorem Qx_Ip_millE {g : zG} {ad : Nat → Nat} {t : zTT} {u : zNN} {w : zW} (hI : IV g ad t u w) (m1 : Int32) (m2 : Int32) (m3 : Int32) (m4 : Int32) (hw : ¬ ((0 ≤ m1 ∧ m1 ≤ 20) ∧ (0 ≤ m2 ∧ m2 ≤ 20) ∧ (0 ≤ m3 ∧ m3 ≤ 20) ∧ (0 ≤ m4 ∧ m4 ≤ 50))) : zMB g M_Ip_mill [.ref (ad 0), .int m1, .int m2, .int m3, .int m4] w (fun o w1 => o = .inr "java/lang/IllegalArgumentException" ∧ IV g ad t u w1) 1 6 := by
  obtain ⟨e_a, w_a, k_a⟩ := hI.1.2 0 (by decide)
  obtain rfl := kd_0.mp k_a
  obtain ⟨e_gs, w_gs, k_gs⟩ := hI.1.2 31 (by decide)
  obtain rfl := kd_31.mp k_gs
  refine ((C_Ip_millE g (ad 0) (ad 1) (ad 5) (ad 18) (ad 31) (ad 32) (ad 36) (ad 42) (ad 45) (ad 47) (ad 49) (ad 50) (ad 51) ((t.1 31).1 0) ((t.1 31).1 1) ((t.1 31).1 2) ((t.1 31).1 3) ((t.1 31).1 4) m1 m2 m3 m4 hw).at (hI.1.I [0, 31] _ rfl (by decide) (by decide) (List.forall_mem_cons.mpr ⟨w_a, (List.forall_mem_cons.mpr ⟨w_gs, (fun _ h => nomatch h)⟩)⟩))).mono (Nat.le_of_ble_eq_true rfl) (Nat.le_of_ble_eq_true rfl) (fun o w1 hp => ?_)
  obtain ⟨cs1, hp, hi9⟩ := hp
  obtain ⟨e1, e2⟩ := hp
  subst e1; subst e2
  exact ⟨rfl, hI.fix (t2 := t) (is := [0, 31]) hi9 rfl ⟨kd_0.mpr rfl, kd_31.mpr rfl, trivial⟩ (by decide) (by decide) (fun _ _ _ => rfl) (fun h => h) rfl⟩
noncomputable def tK_Ip_mill (m1 m2 m3 m4 : Int32) (t : zTT) : zTT := (if (0 ≤ m1 ∧ m1 ≤ 20) ∧ (0 ≤ m2 ∧ m2 ≤ 20) ∧ (0 ≤ m3 ∧ m3 ≤ 20) ∧ (0 ≤ m4 ∧ m4 ≤ 50) then (zup t.1 [(31, ((upd (upd (upd (upd (upd ((t.1 31).1) 0 (if ((t.1 31).1 0) + m1 < 300 then ((t.1 31).1 0) + m1 else 300)) 1 (if ((t.1 31).1 1) + m2 < 300 then ((t.1 31).1 1) + m2 else 300)) 2 (if ((t.1 31).1 2) + m3 < 300 then ((t.1 31).1 2) + m3 else 300)) 3 (((t.1 31).1 3) - ((((t.1 31).1 3) * m4) / 100))) 4 (((t.1 31).1 4) - ((((t.1 31).1 4) * m4) / 100))), (t.1 31).2.1, (t.1 31).2.2))], t.2) else t)
theorem K_Ip_mill {g : zG} {ad : Nat → Nat} {t : zTT} {u : zNN} {w : zW} (hI : IVm g ad t u w) (m1 m2 m3 m4 : Int32) : zMB g M_Ip_mill [.ref (ad 0), .int m1, .int m2, .int m3, .int m4] w (CKx g ad (tK_Ip_mill m1 m2 m3 m4 t) u.1 ["java/lang/IllegalArgumentException"]) 10 300 := by
  obtain ⟨s, hI⟩ := hI
  by_cases hw : (0 ≤ m1 ∧ m1 ≤ 20) ∧ (0 ≤ m2 ∧ m2 ≤ 20) ∧ (0 ≤ m3 ∧ m3 ≤ 20) ∧ (0 ≤ m4 ∧ m4 ≤ 50)
  · have eT : (tK_Ip_mill m1 m2 m3 m4 t) = (zup t.1 [(31, ((upd (upd (upd (upd (upd ((t.1 31).1) 0 (if ((t.1 31).1 0) + m1 < 300 then ((t.1 31).1 0) + m1 else 300)) 1 (if ((t.1 31).1 1) + m2 < 300 then ((t.1 31).1 1) + m2 else 300)) 2 (if ((t.1 31).1 2) + m3 < 300 then ((t.1 31).1 2) + m3 else 300)) 3 (((t.1 31).1 3) - ((((t.1 31).1 3) * m4) / 100))) 4 (((t.1 31).1 4) - ((((t.1 31).1 4) * m4) / 100))), (t.1 31).2.1, (t.1 31).2.2))], t.2) := by unfold tK_Ip_mill; rw [if_pos hw]
    rw [eT]
    exact (Qx_Ip_millN hI m1 m2 m3 m4 hw).mono (by decide) (by decide) (fun o w1 h => ⟨zri.vl h.1, u, rfl, IVm.zu h.2⟩)
  · have eT : (tK_Ip_mill m1 m2 m3 m4 t) = t := by unfold tK_Ip_mill; rw [if_neg hw]
    rw [eT]
    exact (Qx_Ip_millE hI m1 m2 m3 m4 hw).mono (by decide) (by decide) (fun o w1 h => ⟨zri.th h.1 (by simp), u, rfl, ⟨_, h.2⟩⟩)
set_option maxHeartbeats 4000000 in
theorem Qx_Ip_sand99 {g : zG} {ad : Nat → Nat} {t : zTT} {u : zNN} {w : zW} (hI : IV g ad t u w) : zMB g M_Ip_sand [.ref (ad 0), .int 99] w (fun o w1 => o = .inl (some (.int ((t.1 31).1 0))) ∧ IV g ad t u w1) 1 6 := by
  obtain ⟨e_a, w_a, k_a⟩ := hI.1.2 0 (by decide)
  obtain rfl := kd_0.mp k_a
  obtain ⟨e_gs, w_gs, k_gs⟩ := hI.1.2 31 (by decide)
  obtain rfl := kd_31.mp k_gs
  refine ((C_Ip_sand99 g (ad 0) (ad 1) (ad 5) (ad 18) (ad 31) (ad 32) (ad 36) (ad 42) (ad 45) (ad 47) (ad 49) (ad 50) (ad 51) ((t.1 31).1 0) ((t.1 31).1 1) ((t.1 31).1 2) ((t.1 31).1 3) ((t.1 31).1 4)).at (hI.1.I [0, 31] _ rfl (by decide) (by decide) (List.forall_mem_cons.mpr ⟨w_a, (List.forall_mem_cons.mpr ⟨w_gs, (fun _ h => nomatch h)⟩)⟩))).mono (Nat.le_of_ble_eq_true rfl) (Nat.le_of_ble_eq_true rfl) (fun o w1 hp => ?_)
  obtain ⟨cs1, hp, hi9⟩ := hp
  obtain ⟨e1, e2⟩ := hp
  subst e1; subst e2
  exact ⟨rfl, hI.fix (t2 := t) (is := [0, 31]) hi9 rfl ⟨kd_0.mpr rfl, kd_31.mpr rfl, trivial⟩ (by decide) (by decide) (fun _ _ _ => rfl) (fun h => h) rfl⟩
set_option maxHeartbeats 4000000 in
theorem Qx_Ip_sand119 {g : zG} {ad : Nat → Nat} {t : zTT} {u : zNN} {w : zW} (hI : IV g ad t u w) : zMB g M_Ip_sand [.ref (ad 0), .int 119] w (fun o w1 => o = .inl (some (.int ((t.1 31).1 1))) ∧ IV g ad t u w1) 1 6 := by
  obtain ⟨e_a, w_a, k_a⟩ := hI.1.2 0 (by decide)
  obtain rfl := kd_0.mp k_a
  obtain ⟨e_gs, w_gs, k_gs⟩ := hI.1.2 31 (by decide)
  obtain rfl := kd_31.mp k_gs
  refine ((C_Ip_sand119 g (ad 0) (ad 1) (ad 5) (ad 18) (ad 31) (ad 32) (ad 36) (ad 42) (ad 45) (ad 47) (ad 49) (ad 50) (ad 51) ((t.1 31).1 0) ((t.1 31).1 1) ((t.1 31).1 2) ((t.1 31).1 3) ((t.1 31).1 4)).at (hI.1.I [0, 31] _ rfl (by decide) (by decide) (List.forall_mem_cons.mpr ⟨w_a, (List.forall_mem_cons.mpr ⟨w_gs, (fun _ h => nomatch h)⟩)⟩))).mono (Nat.le_of_ble_eq_true rfl) (Nat.le_of_ble_eq_true rfl) (fun o w1 hp => ?_)
  obtain ⟨cs1, hp, hi9⟩ := hp
  obtain ⟨e1, e2⟩ := hp
  subst e1; subst e2
  exact ⟨rfl, hI.fix (t2 := t) (is := [0, 31]) hi9 rfl ⟨kd_0.mpr rfl, kd_31.mpr rfl, trivial⟩ (by decide) (by decide) (fun _ _ _ => rfl) (fun h => h) rfl⟩
set_option maxHeartbeats 4000000 in
theorem Qx_Ip_sand107 {g : zG} {ad : Nat → Nat} {t : zTT} {u : zNN} {w : zW} (hI : IV g ad t u w) : zMB g M_Ip_sand [.ref (ad 0), .int 107] w (fun o w1 => o = .inl (some (.int ((t.1 31).1 2))) ∧ IV g ad t u w1) 1 6 := by
  obtain ⟨e_a, w_a, k_a⟩ := hI.1.2 0 (by decide)
  obtain rfl := kd_0.mp k_a
  obtain ⟨e_gs, w_gs, k_gs⟩ := hI.1.2 31 (by decide)
  obtain rfl := kd_31.mp k_gs
  refine ((C_Ip_sand107 g (ad 0) (ad 1) (ad 5) (ad 18) (ad 31) (ad 32) (ad 36) (ad 42) (ad 45) (ad 47) (ad 49) (ad 50) (ad 51) ((t.1 31).1 0) ((t.1 31).1 1) ((t.1 31).1 2) ((t.1 31).1 3) ((t.1 31).1 4)).at (hI.1.I [0, 31] _ rfl (by decide) (by decide) (List.forall_mem_cons.mpr ⟨w_a, (List.forall_mem_cons.mpr ⟨w_gs, (fun _ h => nomatch h)⟩)⟩))).mono (Nat.le_of_ble_eq_true rfl) (Nat.le_of_ble_eq_true rfl) (fun o w1 hp => ?_)
  obtain ⟨cs1, hp, hi9⟩ := hp
  obtain ⟨e1, e2⟩ := hp
  subst e1; subst e2
  exact ⟨rfl, hI.fix (t2 := t) (is := [0, 31]) hi9 rfl ⟨kd_0.mpr rfl, kd_31.mpr rfl, trivial⟩ (by decide) (by decide) (fun _ _ _ => rfl) (fun h => h) rfl⟩
set_option maxHeartbeats 4000000 in
theorem Qx_Ip_sand102 {g : zG} {ad : Nat → Nat} {t : zTT} {u : zNN} {w : zW} (hI : IV g ad t u w) : zMB g M_Ip_sand [.ref (ad 0), .int 102] w (fun o w1 => o = .inl (some (.int ((t.1 31).1 3))) ∧ IV g ad t u w1) 1 6 := by
  obtain ⟨e_a, w_a, k_a⟩ := hI.1.2 0 (by decide)
  obtain rfl := kd_0.mp k_a
  obtain ⟨e_gs, w_gs, k_gs⟩ := hI.1.2 31 (by decide)
  obtain rfl := kd_31.mp k_gs
  refine ((C_Ip_sand102 g (ad 0) (ad 1) (ad 5) (ad 18) (ad 31) (ad 32) (ad 36) (ad 42) (ad 45) (ad 47) (ad 49) (ad 50) (ad 51) ((t.1 31).1 0) ((t.1 31).1 1) ((t.1 31).1 2) ((t.1 31).1 3) ((t.1 31).1 4)).at (hI.1.I [0, 31] _ rfl (by decide) (by decide) (List.forall_mem_cons.mpr ⟨w_a, (List.forall_mem_cons.mpr ⟨w_gs, (fun _ h => nomatch h)⟩)⟩))).mono (Nat.le_of_ble_eq_true rfl) (Nat.le_of_ble_eq_true rfl) (fun o w1 hp => ?_)
  obtain ⟨cs1, hp, hi9⟩ := hp
  obtain ⟨e1, e2⟩ := hp
  subst e1; subst e2
  exact ⟨rfl, hI.fix (t2 := t) (is := [0, 31]) hi9 rfl ⟨kd_0.mpr rfl, kd_31.mpr rfl, trivial⟩ (by decide) (by decide) (fun _ _ _ => rfl) (fun h => h) rfl⟩
set_option maxHeartbeats 4000000 in
theorem Qx_Ip_sand98 {g : zG} {ad : Nat → Nat} {t : zTT} {u : zNN} {w : zW} (hI : IV g ad t u w) : zMB g M_Ip_sand [.ref (ad 0), .int 98] w (fun o w1 => o = .inl (some (.int ((t.1 31).1 4))) ∧ IV g ad t u w1) 1 6 := by
  obtain ⟨e_a, w_a, k_a⟩ := hI.1.2 0 (by decide)
  obtain rfl := kd_0.mp k_a
  obtain ⟨e_gs, w_gs, k_gs⟩ := hI.1.2 31 (by decide)
  obtain rfl := kd_31.mp k_gs
  refine ((C_Ip_sand98 g (ad 0) (ad 1) (ad 5) (ad 18) (ad 31) (ad 32) (ad 36) (ad 42) (ad 45) (ad 47) (ad 49) (ad 50) (ad 51) ((t.1 31).1 0) ((t.1 31).1 1) ((t.1 31).1 2) ((t.1 31).1 3) ((t.1 31).1 4)).at (hI.1.I [0, 31] _ rfl (by decide) (by decide) (List.forall_mem_cons.mpr ⟨w_a, (List.forall_mem_cons.mpr ⟨w_gs, (fun _ h => nomatch h)⟩)⟩))).mono (Nat.le_of_ble_eq_true rfl) (Nat.le_of_ble_eq_true rfl) (fun o w1 hp => ?_)
  obtain ⟨cs1, hp, hi9⟩ := hp
  obtain ⟨e1, e2⟩ := hp
  subst e1; subst e2
  exact ⟨rfl, hI.fix (t2 := t) (is := [0, 31]) hi9 rfl ⟨kd_0.mpr rfl, kd_31.mpr rfl, trivial⟩ (by decide) (by decide) (fun _ _ _ => rfl) (fun h => h) rfl⟩
set_option maxHeartbeats 4000000 in
theorem Qx_Ip_sand115 {g : zG} {ad : Nat → Nat} {t : zTT} {u : zNN} {w : zW} (hI : IV g ad t u w) : zMB g M_Ip_sand [.ref (ad 0), .int 115] w (fun o w1 => o = .inl (some (.int (S_GS_strength (ad 31) ((t.1 31).1 0) ((t.1 31).1 1) ((t.1 31).1 2) ((t.1 31).1 3) ((t.1 31).1 4)))) ∧ IV g ad t u w1) 1 6 := by
  obtain ⟨e_a, w_a, k_a⟩ := hI.1.2 0 (by decide)
  obtain rfl := kd_0.mp k_a
  obtain ⟨e_gs, w_gs, k_gs⟩ := hI.1.2 31 (by decide)
  obtain rfl := kd_31.mp k_gs
  refine ((C_Ip_sand115 g (ad 0) (ad 1) (ad 5) (ad 18) (ad 31) (ad 32) (ad 36) (ad 42) (ad 45) (ad 47) (ad 49) (ad 50) (ad 51) ((t.1 31).1 0) ((t.1 31).1 1) ((t.1 31).1 2) ((t.1 31).1 3) ((t.1 31).1 4)).at (hI.1.I [0, 31] _ rfl (by decide) (by decide) (List.forall_mem_cons.mpr ⟨w_a, (List.forall_mem_cons.mpr ⟨w_gs, (fun _ h => nomatch h)⟩)⟩))).mono (Nat.le_of_ble_eq_true rfl) (Nat.le_of_ble_eq_true rfl) (fun o w1 hp => ?_)
  obtain ⟨cs1, hp, hi9⟩ := hp
  obtain ⟨e1, e2⟩ := hp
  subst e1; subst e2
  exact ⟨rfl, hI.fix (t2 := t) (is := [0, 31]) hi9 rfl ⟨kd_0.mpr rfl, kd_31.mpr rfl, trivial⟩ (by decide) (by decide) (fun _ _ _ => rfl) (fun h => h) rfl⟩
set_option maxHeartbeats 4000000 in
theorem Qx_Ip_sand100 {g : zG} {ad : Nat → Nat} {t : zTT} {u : zNN} {w : zW} (hI : IV g ad t u w) : zMB g M_Ip_sand [.ref (ad 0), .int 100] w (fun o w1 => o = .inl (some (.int (S_GS_draught (ad 31) ((t.1 31).1 0) ((t.1 31).1 1) ((t.1 31).1 2) ((t.1 31).1 3) ((t.1 31).1 4)))) ∧ IV g ad t u w1) 1 6 := by
  obtain ⟨e_a, w_a, k_a⟩ := hI.1.2 0 (by decide)
  obtain rfl := kd_0.mp k_a
  obtain ⟨e_gs, w_gs, k_gs⟩ := hI.1.2 31 (by decide)
  obtain rfl := kd_31.mp k_gs
  refine ((C_Ip_sand100 g (ad 0) (ad 1) (ad 5) (ad 18) (ad 31) (ad 32) (ad 36) (ad 42) (ad 45) (ad 47) (ad 49) (ad 50) (ad 51) ((t.1 31).1 0) ((t.1 31).1 1) ((t.1 31).1 2) ((t.1 31).1 3) ((t.1 31).1 4)).at (hI.1.I [0, 31] _ rfl (by decide) (by decide) (List.forall_mem_cons.mpr ⟨w_a, (List.forall_mem_cons.mpr ⟨w_gs, (fun _ h => nomatch h)⟩)⟩))).mono (Nat.le_of_ble_eq_true rfl) (Nat.le_of_ble_eq_true rfl) (fun o w1 hp => ?_)
  obtain ⟨cs1, hp, hi9⟩ := hp
  obtain ⟨e1, e2⟩ := hp
  subst e1; subst e2
  exact ⟨rfl, hI.fix (t2 := t) (is := [0, 31]) hi9 rfl ⟨kd_0.mpr rfl, kd_31.mpr rfl, trivial⟩ (by decide) (by decide) (fun _ _ _ => rfl) (fun h => h) rfl⟩
set_option maxHeartbeats 4000000 in
theorem Qx_Ip_sandE {g : zG} {ad : Nat → Nat} {t : zTT} {u : zNN} {w : zW} (hI : IV g ad t u w) (w8 : Int32) (hn : ¬ (w8 = 99 ∨ w8 = 119 ∨ w8 = 107 ∨ w8 = 102 ∨ w8 = 98 ∨ w8 = 115 ∨ w8 = 100)) : zMB g M_Ip_sand [.ref (ad 0), .int w8] w (fun o w1 => o = .inr "java/lang/IllegalArgumentException" ∧ IV g ad t u w1) 1 6 := by
  obtain ⟨e_a, w_a, k_a⟩ := hI.1.2 0 (by decide)
  obtain rfl := kd_0.mp k_a
  obtain ⟨e_gs, w_gs, k_gs⟩ := hI.1.2 31 (by decide)
  obtain rfl := kd_31.mp k_gs
  refine ((C_Ip_sandE g (ad 0) (ad 1) (ad 5) (ad 18) (ad 31) (ad 32) (ad 36) (ad 42) (ad 45) (ad 47) (ad 49) (ad 50) (ad 51) ((t.1 31).1 0) ((t.1 31).1 1) ((t.1 31).1 2) ((t.1 31).1 3) ((t.1 31).1 4) w8 hn).at (hI.1.I [0, 31] _ rfl (by decide) (by decide) (List.forall_mem_cons.mpr ⟨w_a, (List.forall_mem_cons.mpr ⟨w_gs, (fun _ h => nomatch h)⟩)⟩))).mono (Nat.le_of_ble_eq_true rfl) (Nat.le_of_ble_eq_true rfl) (fun o w1 hp => ?_)
  obtain ⟨cs1, hp, hi9⟩ := hp
  obtain ⟨e1, e2⟩ := hp
  subst e1; subst e2
  exact ⟨rfl, hI.fix (t2 := t) (is := [0, 31]) hi9 rfl ⟨kd_0.mpr rfl, kd_31.mpr rfl, trivial⟩ (by decide) (by decide) (fun _ _ _ => rfl) (fun h => h) rfl⟩
theorem K_Ip_sand {g : zG} {ad : Nat → Nat} {t : zTT} {u : zNN} {w : zW} (hI : IVm g ad t u w) (w9 : Int32) : zMB g M_Ip_sand [.ref (ad 0), .int w9] w (CKx g ad t u.1 ["java/lang/IllegalArgumentException"]) 10 300 := by
  obtain ⟨s, hI⟩ := hI
  by_cases hn : (w9 = 99 ∨ w9 = 119 ∨ w9 = 107 ∨ w9 = 102 ∨ w9 = 98 ∨ w9 = 115 ∨ w9 = 100)
  · rcases hn with rfl | rfl | rfl | rfl | rfl | rfl | rfl
    · exact (Qx_Ip_sand99 hI).mono (by decide) (by decide) (fun o w1 h => ⟨zri.vl h.1, u, rfl, ⟨_, h.2⟩⟩)
    · exact (Qx_Ip_sand119 hI).mono (by decide) (by decide) (fun o w1 h => ⟨zri.vl h.1, u, rfl, ⟨_, h.2⟩⟩)
    · exact (Qx_Ip_sand107 hI).mono (by decide) (by decide) (fun o w1 h => ⟨zri.vl h.1, u, rfl, ⟨_, h.2⟩⟩)
    · exact (Qx_Ip_sand102 hI).mono (by decide) (by decide) (fun o w1 h => ⟨zri.vl h.1, u, rfl, ⟨_, h.2⟩⟩)
    · exact (Qx_Ip_sand98 hI).mono (by decide) (by decide) (fun o w1 h => ⟨zri.vl h.1, u, rfl, ⟨_, h.2⟩⟩)
    · exact (Qx_Ip_sand115 hI).mono (by decide) (by decide) (fun o w1 h => ⟨zri.vl h.1, u, rfl, ⟨_, h.2⟩⟩)
    · exact (Qx_Ip_sand100 hI).mono (by decide) (by decide) (fun o w1 h => ⟨zri.vl h.1, u, rfl, ⟨_, h.2⟩⟩)
  · exact (Qx_Ip_sandE hI w9 hn).mono (by decide) (by decide) (fun o w1 h => ⟨zri.th h.1 (by simp), u, rfl, ⟨_, h.2⟩⟩)
set_option maxHeartbeats 4000000 in
theorem Qx_Ip_makeCoresN {g : zG} {ad : Nat → Nat} {t : zTT} {u : zNN} {w : zW} (hI : IV g ad t u w) (c : Int32) (k : Int32) (hw : (1 ≤ c ∧ c ≤ 10) ∧ (1 ≤ k ∧ k ≤ 24)) (hf : ((t.1 32).2.2 0) < 20) : zMB g M_Ip_makeCores [.ref (ad 0), .int c, .int k] w (fun o w1 => o = .inl (some (.int (bx_sum (upd ((t.1 33).1) ((t.1 32).2.2 0) c) (((t.1 32).2.2 0) + 1)))) ∧ IV g ad (zup t.1 [(32, ((t.1 32).1, (t.1 32).2.1, (fun z => ([(((t.1 32).2.2 0) + 1)] : List Nat).getD z 0))), (33, (upd ((t.1 33).1) ((t.1 32).2.2 0) c, (t.1 33).2)), (34, (upd ((t.1 34).1) ((t.1 32).2.2 0) k, (t.1 34).2)), (35, (upd ((t.1 35).1) ((t.1 32).2.2 0) 0, (t.1 35).2))], t.2) u w1) 1 6 := by
  obtain ⟨e_a, w_a, k_a⟩ := hI.1.2 0 (by decide)
  obtain rfl := kd_0.mp k_a
  obtain ⟨e_co, w_co, k_co⟩ := hI.1.2 32 (by decide)
  obtain ⟨c_co_0, rfl⟩ := kd_32.mp k_co
  obtain ⟨e_co1, w_co1, k_co1⟩ := hI.1.2 33 (by decide)
  obtain rfl := kd_33.mp k_co1
  obtain ⟨e_co2, w_co2, k_co2⟩ := hI.1.2 34 (by decide)
  obtain rfl := kd_34.mp k_co2
  obtain ⟨e_co3, w_co3, k_co3⟩ := hI.1.2 35 (by decide)
  obtain rfl := kd_35.mp k_co3
  refine ((C_Ip_makeCoresN g (ad 0) (ad 1) (ad 5) (ad 18) (ad 31) (ad 32) (ad 36) (ad 42) (ad 45) (ad 47) (ad 49) (ad 50) (ad 51) (ad 33) (ad 34) (ad 35) ((t.1 33).1) ((t.1 34).1) ((t.1 35).1) ((t.1 32).2.2 0) c_co_0 c k hw hf).at (hI.1.I [0, 32, 33, 34, 35] _ rfl (by decide) (by decide) (List.forall_mem_cons.mpr ⟨w_a, (List.forall_mem_cons.mpr ⟨w_co, (List.forall_mem_cons.mpr ⟨w_co1, (List.forall_mem_cons.mpr ⟨w_co2, (List.forall_mem_cons.mpr ⟨w_co3, (fun _ h => nomatch h)⟩)⟩)⟩)⟩)⟩))).mono (Nat.le_of_ble_eq_true rfl) (Nat.le_of_ble_eq_true rfl) (fun o w1 hp => ?_)
  obtain ⟨cs1, hp, hi9⟩ := hp
  obtain ⟨e1, e2⟩ := hp
  subst e1; subst e2
  exact ⟨rfl, hI.fix (t2 := (zup t.1 [(32, ((t.1 32).1, (t.1 32).2.1, (fun z => ([(((t.1 32).2.2 0) + 1)] : List Nat).getD z 0))), (33, (upd ((t.1 33).1) ((t.1 32).2.2 0) c, (t.1 33).2)), (34, (upd ((t.1 34).1) ((t.1 32).2.2 0) k, (t.1 34).2)), (35, (upd ((t.1 35).1) ((t.1 32).2.2 0) 0, (t.1 35).2))], t.2)) (is := [0, 32, 33, 34, 35]) hi9 rfl ⟨kd_0.mpr rfl, kd_32.mpr ⟨hf, rfl⟩, kd_33.mpr rfl, kd_34.mpr rfl, kd_35.mpr rfl, trivial⟩ (by decide) (by decide) (fun i hi hn => zup_out (fun q => hn ((by decide : ∀ j ∈ ([32, 33, 34, 35] : List Nat), j ∈ ([0, 32, 33, 34, 35] : List Nat)) i q))) (fun h => h) rfl⟩
set_option maxHeartbeats 4000000 in
theorem Qx_Ip_makeCoresF {g : zG} {ad : Nat → Nat} {t : zTT} {u : zNN} {w : zW} (hI : IV g ad t u w) (c : Int32) (k : Int32) (hw : (1 ≤ c ∧ c ≤ 10) ∧ (1 ≤ k ∧ k ≤ 24)) (hf : ¬ ((t.1 32).2.2 0) < 20) : zMB g M_Ip_makeCores [.ref (ad 0), .int c, .int k] w (fun o w1 => o = .inr "java/lang/IllegalStateException" ∧ IV g ad t u w1) 1 6 := by
  obtain ⟨e_a, w_a, k_a⟩ := hI.1.2 0 (by decide)
  obtain rfl := kd_0.mp k_a
  obtain ⟨e_co, w_co, k_co⟩ := hI.1.2 32 (by decide)
  obtain ⟨c_co_0, rfl⟩ := kd_32.mp k_co
  obtain ⟨e_co1, w_co1, k_co1⟩ := hI.1.2 33 (by decide)
  obtain rfl := kd_33.mp k_co1
  obtain ⟨e_co2, w_co2, k_co2⟩ := hI.1.2 34 (by decide)
  obtain rfl := kd_34.mp k_co2
  obtain ⟨e_co3, w_co3, k_co3⟩ := hI.1.2 35 (by decide)
  obtain rfl := kd_35.mp k_co3
  refine ((C_Ip_makeCoresF g (ad 0) (ad 1) (ad 5) (ad 18) (ad 31) (ad 32) (ad 36) (ad 42) (ad 45) (ad 47) (ad 49) (ad 50) (ad 51) (ad 33) (ad 34) (ad 35) ((t.1 33).1) ((t.1 34).1) ((t.1 35).1) ((t.1 32).2.2 0) c_co_0 c k hw hf).at (hI.1.I [0, 32, 33, 34, 35] _ rfl (by decide) (by decide) (List.forall_mem_cons.mpr ⟨w_a, (List.forall_mem_cons.mpr ⟨w_co, (List.forall_mem_cons.mpr ⟨w_co1, (List.forall_mem_cons.mpr ⟨w_co2, (List.forall_mem_cons.mpr ⟨w_co3, (fun _ h => nomatch h)⟩)⟩)⟩)⟩)⟩))).mono (Nat.le_of_ble_eq_true rfl) (Nat.le_of_ble_eq_true rfl) (fun o w1 hp => ?_)
  obtain ⟨cs1, hp, hi9⟩ := hp
  obtain ⟨e1, e2⟩ := hp
  subst e1; subst e2
  exact ⟨rfl, hI.fix (t2 := t) (is := [0, 32, 33, 34, 35]) hi9 rfl ⟨kd_0.mpr rfl, kd_32.mpr ⟨c_co_0, rfl⟩, kd_33.mpr rfl, kd_34.mpr rfl, kd_35.mpr rfl, trivial⟩ (by decide) (by decide) (fun _ _ _ => rfl) (fun h => h) rfl⟩
set_option maxHeartbeats 4000000 in
theorem Qx_Ip_makeCoresE {g : zG} {ad : Nat → Nat} {t : zTT} {u : zNN} {w : zW} (hI : IV g ad t u w) (c : Int32) (k : Int32) (hw : ¬ ((1 ≤ c ∧ c ≤ 10) ∧ (1 ≤ k ∧ k ≤ 24))) : zMB g M_Ip_makeCores [.ref (ad 0), .int c, .int k] w (fun o w1 => o = .inr "java/lang/IllegalArgumentException" ∧ IV g ad t u w1) 1 6 := by
  obtain ⟨e_a, w_a, k_a⟩ := hI.1.2 0 (by decide)
  obtain rfl := kd_0.mp k_a
  obtain ⟨e_co, w_co, k_co⟩ := hI.1.2 32 (by decide)
  obtain ⟨c_co_0, rfl⟩ := kd_32.mp k_co
  obtain ⟨e_co1, w_co1, k_co1⟩ := hI.1.2 33 (by decide)
  obtain rfl := kd_33.mp k_co1
  obtain ⟨e_co2, w_co2, k_co2⟩ := hI.1.2 34 (by decide)
  obtain rfl := kd_34.mp k_co2
  obtain ⟨e_co3, w_co3, k_co3⟩ := hI.1.2 35 (by decide)
  obtain rfl := kd_35.mp k_co3
  refine ((C_Ip_makeCoresE g (ad 0) (ad 1) (ad 5) (ad 18) (ad 31) (ad 32) (ad 36) (ad 42) (ad 45) (ad 47) (ad 49) (ad 50) (ad 51) (ad 33) (ad 34) (ad 35) ((t.1 33).1) ((t.1 34).1) ((t.1 35).1) ((t.1 32).2.2 0) c_co_0 c k hw).at (hI.1.I [0, 32, 33, 34, 35] _ rfl (by decide) (by decide) (List.forall_mem_cons.mpr ⟨w_a, (List.forall_mem_cons.mpr ⟨w_co, (List.forall_mem_cons.mpr ⟨w_co1, (List.forall_mem_cons.mpr ⟨w_co2, (List.forall_mem_cons.mpr ⟨w_co3, (fun _ h => nomatch h)⟩)⟩)⟩)⟩)⟩))).mono (Nat.le_of_ble_eq_true rfl) (Nat.le_of_ble_eq_true rfl) (fun o w1 hp => ?_)
  obtain ⟨cs1, hp, hi9⟩ := hp
  obtain ⟨e1, e2⟩ := hp
  subst e1; subst e2
  exact ⟨rfl, hI.fix (t2 := t) (is := [0, 32, 33, 34, 35]) hi9 rfl ⟨kd_0.mpr rfl, kd_32.mpr ⟨c_co_0, rfl⟩, kd_33.mpr rfl, kd_34.mpr rfl, kd_35.mpr rfl, trivial⟩ (by decide) (by decide) (fun _ _ _ => rfl) (fun h => h) rfl⟩
noncomputable def tK_Ip_makeCores (c k : Int32) (t : zTT) : zTT := (if (1 ≤ c ∧ c ≤ 10) ∧ (1 ≤ k ∧ k ≤ 24) then (if (t.1 32).2.2 0 < 20 then (zup t.1 [(32, ((t.1 32).1, (t.1 32).2.1, (fun z => ([(((t.1 32).2.2 0) + 1)] : List Nat).getD z 0))), (33, (upd ((t.1 33).1) ((t.1 32).2.2 0) c, (t.1 33).2)), (34, (upd ((t.1 34).1) ((t.1 32).2.2 0) k, (t.1 34).2)), (35, (upd ((t.1 35).1) ((t.1 32).2.2 0) 0, (t.1 35).2))], t.2) else t) else t)
theorem K_Ip_makeCores {g : zG} {ad : Nat → Nat} {t : zTT} {u : zNN} {w : zW} (hI : IVm g ad t u w) (c k : Int32) : zMB g M_Ip_makeCores [.ref (ad 0), .int c, .int k] w (CKx g ad (tK_Ip_makeCores c k t) u.1 ["java/lang/IllegalArgumentException", "java/lang/IllegalStateException"]) 10 300 := by
  obtain ⟨s, hI⟩ := hI
  by_cases hw : (1 ≤ c ∧ c ≤ 10) ∧ (1 ≤ k ∧ k ≤ 24)
  · by_cases hf : (t.1 32).2.2 0 < 20
    · have eT : (tK_Ip_makeCores c k t) = (zup t.1 [(32, ((t.1 32).1, (t.1 32).2.1, (fun z => ([(((t.1 32).2.2 0) + 1)] : List Nat).getD z 0))), (33, (upd ((t.1 33).1) ((t.1 32).2.2 0) c, (t.1 33).2)), (34, (upd ((t.1 34).1) ((t.1 32).2.2 0) k, (t.1 34).2)), (35, (upd ((t.1 35).1) ((t.1 32).2.2 0) 0, (t.1 35).2))], t.2) := by unfold tK_Ip_makeCores; rw [if_pos hw, if_pos hf]
      rw [eT]
      exact (Qx_Ip_makeCoresN hI c k hw hf).mono (by decide) (by decide) (fun o w1 h => ⟨zri.vl h.1, u, rfl, IVm.zu h.2⟩)
    · have eT : (tK_Ip_makeCores c k t) = t := by unfold tK_Ip_makeCores; rw [if_pos hw, if_neg hf]
      rw [eT]
      exact (Qx_Ip_makeCoresF hI c k hw hf).mono (by decide) (by decide) (fun o w1 h => ⟨zri.th h.1 (by simp), u, rfl, ⟨_, h.2⟩⟩)
  · have eT : (tK_Ip_makeCores c k t) = t := by unfold tK_Ip_makeCores; rw [if_neg hw]
    rw [eT]
    exact (Qx_Ip_makeCoresE hI c k hw).mono (by decide) (by decide) (fun o w1 h => ⟨zri.th h.1 (by simp), u, rfl, ⟨_, h.2⟩⟩)
set_option maxHeartbeats 4000000 in
theorem Qx_Ip_hoursN {g : zG} {ad : Nat → Nat} {t : zTT} {u : zNN} {w : zW} (hI : IV g ad t u w) (h : Int32) (hw : (1 ≤ h ∧ h ≤ 48)) : zMB g M_Ip_hours [.ref (ad 0), .int h] w (fun o w1 => o = .inl (some (.int ((gwS ((t.1 33).1) ((t.1 34).1) ((t.1 35).1) h ((t.1 32).2.2 0)).2.2))) ∧ IV g ad (zup t.1 [(32, ((t.1 32).1, (t.1 32).2.1, (fun z => ([(dlS (gwS ((t.1 33).1) ((t.1 34).1) ((t.1 35).1) h ((t.1 32).2.2 0)).1 ((t.1 34).1) (gwS ((t.1 33).1) ((t.1 34).1) ((t.1 35).1) h ((t.1 32).2.2 0)).2.1 ((t.1 32).2.2 0)).1] : List Nat).getD z 0))), (33, ((dlS (gwS ((t.1 33).1) ((t.1 34).1) ((t.1 35).1) h ((t.1 32).2.2 0)).1 ((t.1 34).1) (gwS ((t.1 33).1) ((t.1 34).1) ((t.1 35).1) h ((t.1 32).2.2 0)).2.1 ((t.1 32).2.2 0)).2.1, (t.1 33).2)), (34, ((dlS (gwS ((t.1 33).1) ((t.1 34).1) ((t.1 35).1) h ((t.1 32).2.2 0)).1 ((t.1 34).1) (gwS ((t.1 33).1) ((t.1 34).1) ((t.1 35).1) h ((t.1 32).2.2 0)).2.1 ((t.1 32).2.2 0)).2.2.1, (t.1 34).2)), (35, ((dlS (gwS ((t.1 33).1) ((t.1 34).1) ((t.1 35).1) h ((t.1 32).2.2 0)).1 ((t.1 34).1) (gwS ((t.1 33).1) ((t.1 34).1) ((t.1 35).1) h ((t.1 32).2.2 0)).2.1 ((t.1 32).2.2 0)).2.2.2, (t.1 35).2))], t.2) u w1) 1 6 := by
  obtain ⟨e_a, w_a, k_a⟩ := hI.1.2 0 (by decide)
  obtain rfl := kd_0.mp k_a
  obtain ⟨e_co, w_co, k_co⟩ := hI.1.2 32 (by decide)
  obtain ⟨c_co_0, rfl⟩ := kd_32.mp k_co
  obtain ⟨e_co1, w_co1, k_co1⟩ := hI.1.2 33 (by decide)
  obtain rfl := kd_33.mp k_co1
  obtain ⟨e_co2, w_co2, k_co2⟩ := hI.1.2 34 (by decide)
  obtain rfl := kd_34.mp k_co2
  obtain ⟨e_co3, w_co3, k_co3⟩ := hI.1.2 35 (by decide)
  obtain rfl := kd_35.mp k_co3
  refine ((C_Ip_hoursN g (ad 0) (ad 1) (ad 5) (ad 18) (ad 31) (ad 32) (ad 36) (ad 42) (ad 45) (ad 47) (ad 49) (ad 50) (ad 51) (ad 33) (ad 34) (ad 35) ((t.1 33).1) ((t.1 34).1) ((t.1 35).1) ((t.1 32).2.2 0) c_co_0 h hw).at (hI.1.I [0, 32, 33, 34, 35] _ rfl (by decide) (by decide) (List.forall_mem_cons.mpr ⟨w_a, (List.forall_mem_cons.mpr ⟨w_co, (List.forall_mem_cons.mpr ⟨w_co1, (List.forall_mem_cons.mpr ⟨w_co2, (List.forall_mem_cons.mpr ⟨w_co3, (fun _ h => nomatch h)⟩)⟩)⟩)⟩)⟩))).mono (Nat.le_of_ble_eq_true rfl) (Nat.le_of_ble_eq_true rfl) (fun o w1 hp => ?_)
  obtain ⟨cs1, hp, hi9⟩ := hp
  obtain ⟨e1, e2⟩ := hp
  subst e1; subst e2
  exact ⟨rfl, hI.fix (t2 := (zup t.1 [(32, ((t.1 32).1, (t.1 32).2.1, (fun z => ([(dlS (gwS ((t.1 33).1) ((t.1 34).1) ((t.1 35).1) h ((t.1 32).2.2 0)).1 ((t.1 34).1) (gwS ((t.1 33).1) ((t.1 34).1) ((t.1 35).1) h ((t.1 32).2.2 0)).2.1 ((t.1 32).2.2 0)).1] : List Nat).getD z 0))), (33, ((dlS (gwS ((t.1 33).1) ((t.1 34).1) ((t.1 35).1) h ((t.1 32).2.2 0)).1 ((t.1 34).1) (gwS ((t.1 33).1) ((t.1 34).1) ((t.1 35).1) h ((t.1 32).2.2 0)).2.1 ((t.1 32).2.2 0)).2.1, (t.1 33).2)), (34, ((dlS (gwS ((t.1 33).1) ((t.1 34).1) ((t.1 35).1) h ((t.1 32).2.2 0)).1 ((t.1 34).1) (gwS ((t.1 33).1) ((t.1 34).1) ((t.1 35).1) h ((t.1 32).2.2 0)).2.1 ((t.1 32).2.2 0)).2.2.1, (t.1 34).2)), (35, ((dlS (gwS ((t.1 33).1) ((t.1 34).1) ((t.1 35).1) h ((t.1 32).2.2 0)).1 ((t.1 34).1) (gwS ((t.1 33).1) ((t.1 34).1) ((t.1 35).1) h ((t.1 32).2.2 0)).2.1 ((t.1 32).2.2 0)).2.2.2, (t.1 35).2))], t.2)) (is := [0, 32, 33, 34, 35]) hi9 rfl ⟨kd_0.mpr rfl, kd_32.mpr ⟨(Nat.le_trans (dlS_le _ _ _ _) c_co_0), rfl⟩, kd_33.mpr rfl, kd_34.mpr rfl, kd_35.mpr rfl, trivial⟩ (by decide) (by decide) (fun i hi hn => zup_out (fun q => hn ((by decide : ∀ j ∈ ([32, 33, 34, 35] : List Nat), j ∈ ([0, 32, 33, 34, 35] : List Nat)) i q))) (fun h => h) rfl⟩
set_option maxHeartbeats 4000000 in
theorem Qx_Ip_hoursE {g : zG} {ad : Nat → Nat} {t : zTT} {u : zNN} {w : zW} (hI : IV g ad t u w) (h : Int32) (hw : ¬ (1 ≤ h ∧ h ≤ 48)) : zMB g M_Ip_hours [.ref (ad 0), .int h] w (fun o w1 => o = .inr "java/lang/IllegalArgumentException" ∧ IV g ad t u w1) 1 6 := by
  obtain ⟨e_a, w_a, k_a⟩ := hI.1.2 0 (by decide)
  obtain rfl := kd_0.mp k_a
  obtain ⟨e_co, w_co, k_co⟩ := hI.1.2 32 (by decide)
  obtain ⟨c_co_0, rfl⟩ := kd_32.mp k_co
  obtain ⟨e_co1, w_co1, k_co1⟩ := hI.1.2 33 (by decide)
  obtain rfl := kd_33.mp k_co1
  obtain ⟨e_co2, w_co2, k_co2⟩ := hI.1.2 34 (by decide)
  obtain rfl := kd_34.mp k_co2
  obtain ⟨e_co3, w_co3, k_co3⟩ := hI.1.2 35 (by decide)
  obtain rfl := kd_35.mp k_co3
  refine ((C_Ip_hoursE g (ad 0) (ad 1) (ad 5) (ad 18) (ad 31) (ad 32) (ad 36) (ad 42) (ad 45) (ad 47) (ad 49) (ad 50) (ad 51) (ad 33) (ad 34) (ad 35) ((t.1 33).1) ((t.1 34).1) ((t.1 35).1) ((t.1 32).2.2 0) c_co_0 h hw).at (hI.1.I [0, 32, 33, 34, 35] _ rfl (by decide) (by decide) (List.forall_mem_cons.mpr ⟨w_a, (List.forall_mem_cons.mpr ⟨w_co, (List.forall_mem_cons.mpr ⟨w_co1, (List.forall_mem_cons.mpr ⟨w_co2, (List.forall_mem_cons.mpr ⟨w_co3, (fun _ h => nomatch h)⟩)⟩)⟩)⟩)⟩))).mono (Nat.le_of_ble_eq_true rfl) (Nat.le_of_ble_eq_true rfl) (fun o w1 hp => ?_)
  obtain ⟨cs1, hp, hi9⟩ := hp
  obtain ⟨e1, e2⟩ := hp
  subst e1; subst e2
  exact ⟨rfl, hI.fix (t2 := t) (is := [0, 32, 33, 34, 35]) hi9 rfl ⟨kd_0.mpr rfl, kd_32.mpr ⟨c_co_0, rfl⟩, kd_33.mpr rfl, kd_34.mpr rfl, kd_35.mpr rfl, trivial⟩ (by decide) (by decide) (fun _ _ _ => rfl) (fun h => h) rfl⟩
noncomputable def tK_Ip_hours (h : Int32) (t : zTT) : zTT := (if 1 ≤ h ∧ h ≤ 48 then (zup t.1 [(32, ((t.1 32).1, (t.1 32).2.1, (fun z => ([(dlS (gwS ((t.1 33).1) ((t.1 34).1) ((t.1 35).1) h ((t.1 32).2.2 0)).1 ((t.1 34).1) (gwS ((t.1 33).1) ((t.1 34).1) ((t.1 35).1) h ((t.1 32).2.2 0)).2.1 ((t.1 32).2.2 0)).1] : List Nat).getD z 0))), (33, ((dlS (gwS ((t.1 33).1) ((t.1 34).1) ((t.1 35).1) h ((t.1 32).2.2 0)).1 ((t.1 34).1) (gwS ((t.1 33).1) ((t.1 34).1) ((t.1 35).1) h ((t.1 32).2.2 0)).2.1 ((t.1 32).2.2 0)).2.1, (t.1 33).2)), (34, ((dlS (gwS ((t.1 33).1) ((t.1 34).1) ((t.1 35).1) h ((t.1 32).2.2 0)).1 ((t.1 34).1) (gwS ((t.1 33).1) ((t.1 34).1) ((t.1 35).1) h ((t.1 32).2.2 0)).2.1 ((t.1 32).2.2 0)).2.2.1, (t.1 34).2)), (35, ((dlS (gwS ((t.1 33).1) ((t.1 34).1) ((t.1 35).1) h ((t.1 32).2.2 0)).1 ((t.1 34).1) (gwS ((t.1 33).1) ((t.1 34).1) ((t.1 35).1) h ((t.1 32).2.2 0)).2.1 ((t.1 32).2.2 0)).2.2.2, (t.1 35).2))], t.2) else t)
theorem K_Ip_hours {g : zG} {ad : Nat → Nat} {t : zTT} {u : zNN} {w : zW} (hI : IVm g ad t u w) (h : Int32) : zMB g M_Ip_hours [.ref (ad 0), .int h] w (CKx g ad (tK_Ip_hours h t) u.1 ["java/lang/IllegalArgumentException"]) 10 300 := by
  obtain ⟨s, hI⟩ := hI
  by_cases hw : 1 ≤ h ∧ h ≤ 48
  · have eT : (tK_Ip_hours h t) = (zup t.1 [(32, ((t.1 32).1, (t.1 32).2.1, (fun z => ([(dlS (gwS ((t.1 33).1) ((t.1 34).1) ((t.1 35).1) h ((t.1 32).2.2 0)).1 ((t.1 34).1) (gwS ((t.1 33).1) ((t.1 34).1) ((t.1 35).1) h ((t.1 32).2.2 0)).2.1 ((t.1 32).2.2 0)).1] : List Nat).getD z 0))), (33, ((dlS (gwS ((t.1 33).1) ((t.1 34).1) ((t.1 35).1) h ((t.1 32).2.2 0)).1 ((t.1 34).1) (gwS ((t.1 33).1) ((t.1 34).1) ((t.1 35).1) h ((t.1 32).2.2 0)).2.1 ((t.1 32).2.2 0)).2.1, (t.1 33).2)), (34, ((dlS (gwS ((t.1 33).1) ((t.1 34).1) ((t.1 35).1) h ((t.1 32).2.2 0)).1 ((t.1 34).1) (gwS ((t.1 33).1) ((t.1 34).1) ((t.1 35).1) h ((t.1 32).2.2 0)).2.1 ((t.1 32).2.2 0)).2.2.1, (t.1 34).2)), (35, ((dlS (gwS ((t.1 33).1) ((t.1 34).1) ((t.1 35).1) h ((t.1 32).2.2 0)).1 ((t.1 34).1) (gwS ((t.1 33).1) ((t.1 34).1) ((t.1 35).1) h ((t.1 32).2.2 0)).2.1 ((t.1 32).2.2 0)).2.2.2, (t.1 35).2))], t.2) := by unfold tK_Ip_hours; rw [if_pos hw]
    rw [eT]
    exact (Qx_Ip_hoursN hI h hw).mono (by decide) (by decide) (fun o w1 h => ⟨zri.vl h.1, u, rfl, IVm.zu h.2⟩)
  · have eT : (tK_Ip_hours h t) = t := by unfold tK_Ip_hours; rw [if_neg hw]
    rw [eT]
    exact (Qx_Ip_hoursE hI h hw).mono (by decide) (by decide) (fun o w1 h => ⟨zri.th h.1 (by simp), u, rfl, ⟨_, h.2⟩⟩)
set_option maxHeartbeats 4000000 in
theorem Qx_Ip_charge112G {g : zG} {ad : Nat → Nat} {t : zTT} {u : zNN} {w : zW} (hI : IV g ad t u w) (m : Int32) (hw : (1 ≤ m ∧ m ≤ 1000)) (hg : 3000 < ((t.1 37).1 0) + m) : zMB g M_Ip_charge [.ref (ad 0), .int 112, .int m] w (fun o w1 => o = .inr "java/lang/IllegalStateException" ∧ IV g ad t u w1) 1 6 := by
  obtain ⟨e_a, w_a, k_a⟩ := hI.1.2 0 (by decide)
  obtain rfl := kd_0.mp k_a
  obtain ⟨e_fu, w_fu, k_fu⟩ := hI.1.2 36 (by decide)
  obtain rfl := kd_36.mp k_fu
  obtain ⟨e_fub, w_fub, k_fub⟩ := hI.1.2 37 (by decide)
  obtain rfl := kd_37.mp k_fub
  obtain ⟨e_fubg, w_fubg, k_fubg⟩ := hI.1.2 38 (by decide)
  obtain rfl := kd_38.mp k_fubg
  obtain ⟨e_fut1, w_fut1, k_fut1⟩ := hI.1.2 39 (by decide)
  obtain rfl := kd_39.mp k_fut1
  obtain ⟨e_fut2, w_fut2, k_fut2⟩ := hI.1.2 40 (by decide)
  obtain rfl := kd_40.mp k_fut2
  obtain ⟨e_fut3, w_fut3, k_fut3⟩ := hI.1.2 41 (by decide)
  obtain rfl := kd_41.mp k_fut3
  obtain ⟨e_gy, w_gy, k_gy⟩ := hI.1.2 45 (by decide)
  obtain rfl := kd_45.mp k_gy
  obtain ⟨e_gyg, w_gyg, k_gyg⟩ := hI.1.2 46 (by decide)
  obtain rfl := kd_46.mp k_gyg
  obtain ⟨e_du, w_du, k_du⟩ := hI.1.2 47 (by decide)
  obtain rfl := kd_47.mp k_du
  obtain ⟨e_dug, w_dug, k_dug⟩ := hI.1.2 48 (by decide)
  obtain rfl := kd_48.mp k_dug
  refine ((C_Ip_charge112G g (ad 0) (ad 1) (ad 5) (ad 18) (ad 31) (ad 32) (ad 36) (ad 42) (ad 45) (ad 47) (ad 49) (ad 50) (ad 51) (ad 43) (ad 44) (ad 46) (ad 48) (ad 37) (ad 38) (ad 39) (ad 40) (ad 41) ((t.1 38).2.1) ((t.1 39).2.1) ((t.1 40).2.1) ((t.1 41).2.1) ((t.1 46).2.1) ((t.1 48).2.1) ((t.1 37).1 0) ((t.1 45).1 0) ((t.1 47).1 0) ((t.1 36).2.1 0) m hw hg).at (hI.1.I [0, 36, 37, 38, 39, 40, 41, 45, 46, 47, 48] _ rfl (by decide) (by decide) (List.forall_mem_cons.mpr ⟨w_a, (List.forall_mem_cons.mpr ⟨w_fu, (List.forall_mem_cons.mpr ⟨w_fub, (List.forall_mem_cons.mpr ⟨w_fubg, (List.forall_mem_cons.mpr ⟨w_fut1, (List.forall_mem_cons.mpr ⟨w_fut2, (List.forall_mem_cons.mpr ⟨w_fut3, (List.forall_mem_cons.mpr ⟨w_gy, (List.forall_mem_cons.mpr ⟨w_gyg, (List.forall_mem_cons.mpr ⟨w_du, (List.forall_mem_cons.mpr ⟨w_dug, (fun _ h => nomatch h)⟩)⟩)⟩)⟩)⟩)⟩)⟩)⟩)⟩)⟩)⟩))).mono (Nat.le_of_ble_eq_true rfl) (Nat.le_of_ble_eq_true rfl) (fun o w1 hp => ?_)
  obtain ⟨cs1, hp, hi9⟩ := hp
  obtain ⟨e1, e2⟩ := hp
  subst e1; subst e2
  exact ⟨rfl, hI.fix (t2 := t) (is := [0, 36, 37, 38, 39, 40, 41, 45, 46, 47, 48]) hi9 rfl ⟨kd_0.mpr rfl, kd_36.mpr rfl, kd_37.mpr rfl, kd_38.mpr rfl, kd_39.mpr rfl, kd_40.mpr rfl, kd_41.mpr rfl, kd_45.mpr rfl, kd_46.mpr rfl, kd_47.mpr rfl, kd_48.mpr rfl, trivial⟩ (by decide) (by decide) (fun _ _ _ => rfl) (fun h => h) rfl⟩
set_option maxHeartbeats 4000000 in
theorem Qx_Ip_charge112N {g : zG} {ad : Nat → Nat} {t : zTT} {u : zNN} {w : zW} (hI : IV g ad t u w) (m : Int32) (hw : (1 ≤ m ∧ m ≤ 1000)) (hg : ¬ 3000 < ((t.1 37).1 0) + m) : zMB g M_Ip_charge [.ref (ad 0), .int 112, .int m] w (fun o w1 => o = .inl (some (.int (((t.1 37).1 0) + m))) ∧ IV g ad (zup t.1 [(36, ((t.1 36).1, (vp_updL ((t.1 36).2.1) 0 (((t.1 36).2.1 0) + (m : Int32).toInt64)), (t.1 36).2.2)), (37, ((upd ((t.1 37).1) 0 (((t.1 37).1 0) + m)), (t.1 37).2.1, (t.1 37).2.2)), (38, ((t.1 38).1, lfd ((t.1 38).2.1) (fun e => chS m 0 e / 10) 4, (t.1 38).2.2)), (39, ((t.1 39).1, lfd ((t.1 39).2.1) (fun e => chS m 0 e) 4, (t.1 39).2.2)), (40, ((t.1 40).1, lfd ((t.1 40).2.1) (fun e => chS m 0 e - chS m 0 e / 10 * 10) 4, (t.1 40).2.2))], t.2) u w1) 1 6 := by
  obtain ⟨e_a, w_a, k_a⟩ := hI.1.2 0 (by decide)
  obtain rfl := kd_0.mp k_a
  obtain ⟨e_fu, w_fu, k_fu⟩ := hI.1.2 36 (by decide)
  obtain rfl := kd_36.mp k_fu
  obtain ⟨e_fub, w_fub, k_fub⟩ := hI.1.2 37 (by decide)
  obtain rfl := kd_37.mp k_fub
  obtain ⟨e_fubg, w_fubg, k_fubg⟩ := hI.1.2 38 (by decide)
  obtain rfl := kd_38.mp k_fubg
  obtain ⟨e_fut1, w_fut1, k_fut1⟩ := hI.1.2 39 (by decide)
  obtain rfl := kd_39.mp k_fut1
  obtain ⟨e_fut2, w_fut2, k_fut2⟩ := hI.1.2 40 (by decide)
  obtain rfl := kd_40.mp k_fut2
  obtain ⟨e_fut3, w_fut3, k_fut3⟩ := hI.1.2 41 (by decide)
  obtain rfl := kd_41.mp k_fut3
  obtain ⟨e_gy, w_gy, k_gy⟩ := hI.1.2 45 (by decide)
  obtain rfl := kd_45.mp k_gy
  obtain ⟨e_gyg, w_gyg, k_gyg⟩ := hI.1.2 46 (by decide)
  obtain rfl := kd_46.mp k_gyg
  obtain ⟨e_du, w_du, k_du⟩ := hI.1.2 47 (by decide)
  obtain rfl := kd_47.mp k_du
  obtain ⟨e_dug, w_dug, k_dug⟩ := hI.1.2 48 (by decide)
  obtain rfl := kd_48.mp k_dug
  refine ((C_Ip_charge112N g (ad 0) (ad 1) (ad 5) (ad 18) (ad 31) (ad 32) (ad 36) (ad 42) (ad 45) (ad 47) (ad 49) (ad 50) (ad 51) (ad 43) (ad 44) (ad 46) (ad 48) (ad 37) (ad 38) (ad 39) (ad 40) (ad 41) ((t.1 38).2.1) ((t.1 39).2.1) ((t.1 40).2.1) ((t.1 41).2.1) ((t.1 46).2.1) ((t.1 48).2.1) ((t.1 37).1 0) ((t.1 45).1 0) ((t.1 47).1 0) ((t.1 36).2.1 0) m hw hg).at (hI.1.I [0, 36, 37, 38, 39, 40, 41, 45, 46, 47, 48] _ rfl (by decide) (by decide) (List.forall_mem_cons.mpr ⟨w_a, (List.forall_mem_cons.mpr ⟨w_fu, (List.forall_mem_cons.mpr ⟨w_fub, (List.forall_mem_cons.mpr ⟨w_fubg, (List.forall_mem_cons.mpr ⟨w_fut1, (List.forall_mem_cons.mpr ⟨w_fut2, (List.forall_mem_cons.mpr ⟨w_fut3, (List.forall_mem_cons.mpr ⟨w_gy, (List.forall_mem_cons.mpr ⟨w_gyg, (List.forall_mem_cons.mpr ⟨w_du, (List.forall_mem_cons.mpr ⟨w_dug, (fun _ h => nomatch h)⟩)⟩)⟩)⟩)⟩)⟩)⟩)⟩)⟩)⟩)⟩))).mono (Nat.le_of_ble_eq_true rfl) (Nat.le_of_ble_eq_true rfl) (fun o w1 hp => ?_)
  obtain ⟨cs1, hp, hi9⟩ := hp
  obtain ⟨e1, e2⟩ := hp
  subst e1; subst e2
  exact ⟨rfl, hI.fix (t2 := (zup t.1 [(36, ((t.1 36).1, (vp_updL ((t.1 36).2.1) 0 (((t.1 36).2.1 0) + (m : Int32).toInt64)), (t.1 36).2.2)), (37, ((upd ((t.1 37).1) 0 (((t.1 37).1 0) + m)), (t.1 37).2.1, (t.1 37).2.2)), (38, ((t.1 38).1, lfd ((t.1 38).2.1) (fun e => chS m 0 e / 10) 4, (t.1 38).2.2)), (39, ((t.1 39).1, lfd ((t.1 39).2.1) (fun e => chS m 0 e) 4, (t.1 39).2.2)), (40, ((t.1 40).1, lfd ((t.1 40).2.1) (fun e => chS m 0 e - chS m 0 e / 10 * 10) 4, (t.1 40).2.2))], t.2)) (is := [0, 36, 37, 38, 39, 40, 41, 45, 46, 47, 48]) hi9 rfl ⟨kd_0.mpr rfl, kd_36.mpr rfl, kd_37.mpr rfl, kd_38.mpr rfl, kd_39.mpr rfl, kd_40.mpr rfl, kd_41.mpr rfl, kd_45.mpr rfl, kd_46.mpr rfl, kd_47.mpr rfl, kd_48.mpr rfl, trivial⟩ (by decide) (by decide) (fun i hi hn => zup_out (fun q => hn ((by decide : ∀ j ∈ ([36, 37, 38, 39, 40] : List Nat), j ∈ ([0, 36, 37, 38, 39, 40, 41, 45, 46, 47, 48] : List Nat)) i q))) (fun h => h) rfl⟩
set_option maxHeartbeats 4000000 in
theorem Qx_Ip_charge115G {g : zG} {ad : Nat → Nat} {t : zTT} {u : zNN} {w : zW} (hI : IV g ad t u w) (m : Int32) (hw : (1 ≤ m ∧ m ≤ 1000)) (hg : 3000 < ((t.1 37).1 0) + m) : zMB g M_Ip_charge [.ref (ad 0), .int 115, .int m] w (fun o w1 => o = .inr "java/lang/IllegalStateException" ∧ IV g ad t u w1) 1 6 := by
  obtain ⟨e_a, w_a, k_a⟩ := hI.1.2 0 (by decide)
  obtain rfl := kd_0.mp k_a
  obtain ⟨e_fu, w_fu, k_fu⟩ := hI.1.2 36 (by decide)
  obtain rfl := kd_36.mp k_fu
  obtain ⟨e_fub, w_fub, k_fub⟩ := hI.1.2 37 (by decide)
  obtain rfl := kd_37.mp k_fub
  obtain ⟨e_fubg, w_fubg, k_fubg⟩ := hI.1.2 38 (by decide)
  obtain rfl := kd_38.mp k_fubg
  obtain ⟨e_fut1, w_fut1, k_fut1⟩ := hI.1.2 39 (by decide)
  obtain rfl := kd_39.mp k_fut1
  obtain ⟨e_fut2, w_fut2, k_fut2⟩ := hI.1.2 40 (by decide)
  obtain rfl := kd_40.mp k_fut2
  obtain ⟨e_fut3, w_fut3, k_fut3⟩ := hI.1.2 41 (by decide)
  obtain rfl := kd_41.mp k_fut3
  obtain ⟨e_gy, w_gy, k_gy⟩ := hI.1.2 45 (by decide)
  obtain rfl := kd_45.mp k_gy
  obtain ⟨e_gyg, w_gyg, k_gyg⟩ := hI.1.2 46 (by decide)
  obtain rfl := kd_46.mp k_gyg
  obtain ⟨e_du, w_du, k_du⟩ := hI.1.2 47 (by decide)
  obtain rfl := kd_47.mp k_du
  obtain ⟨e_dug, w_dug, k_dug⟩ := hI.1.2 48 (by decide)
  obtain rfl := kd_48.mp k_dug
  refine ((C_Ip_charge115G g (ad 0) (ad 1) (ad 5) (ad 18) (ad 31) (ad 32) (ad 36) (ad 42) (ad 45) (ad 47) (ad 49) (ad 50) (ad 51) (ad 43) (ad 44) (ad 46) (ad 48) (ad 37) (ad 38) (ad 39) (ad 40) (ad 41) ((t.1 38).2.1) ((t.1 39).2.1) ((t.1 40).2.1) ((t.1 41).2.1) ((t.1 46).2.1) ((t.1 48).2.1) ((t.1 37).1 0) ((t.1 45).1 0) ((t.1 47).1 0) ((t.1 36).2.1 0) m hw hg).at (hI.1.I [0, 36, 37, 38, 39, 40, 41, 45, 46, 47, 48] _ rfl (by decide) (by decide) (List.forall_mem_cons.mpr ⟨w_a, (List.forall_mem_cons.mpr ⟨w_fu, (List.forall_mem_cons.mpr ⟨w_fub, (List.forall_mem_cons.mpr ⟨w_fubg, (List.forall_mem_cons.mpr ⟨w_fut1, (List.forall_mem_cons.mpr ⟨w_fut2, (List.forall_mem_cons.mpr ⟨w_fut3, (List.forall_mem_cons.mpr ⟨w_gy, (List.forall_mem_cons.mpr ⟨w_gyg, (List.forall_mem_cons.mpr ⟨w_du, (List.forall_mem_cons.mpr ⟨w_dug, (fun _ h => nomatch h)⟩)⟩)⟩)⟩)⟩)⟩)⟩)⟩)⟩)⟩)⟩))).mono (Nat.le_of_ble_eq_true rfl) (Nat.le_of_ble_eq_true rfl) (fun o w1 hp => ?_)
  obtain ⟨cs1, hp, hi9⟩ := hp
  obtain ⟨e1, e2⟩ := hp
  subst e1; subst e2
  exact ⟨rfl, hI.fix (t2 := t) (is := [0, 36, 37, 38, 39, 40, 41, 45, 46, 47, 48]) hi9 rfl ⟨kd_0.mpr rfl, kd_36.mpr rfl, kd_37.mpr rfl, kd_38.mpr rfl, kd_39.mpr rfl, kd_40.mpr rfl, kd_41.mpr rfl, kd_45.mpr rfl, kd_46.mpr rfl, kd_47.mpr rfl, kd_48.mpr rfl, trivial⟩ (by decide) (by decide) (fun _ _ _ => rfl) (fun h => h) rfl⟩
set_option maxHeartbeats 4000000 in
theorem Qx_Ip_charge115N {g : zG} {ad : Nat → Nat} {t : zTT} {u : zNN} {w : zW} (hI : IV g ad t u w) (m : Int32) (hw : (1 ≤ m ∧ m ≤ 1000)) (hg : ¬ 3000 < ((t.1 37).1 0) + m) : zMB g M_Ip_charge [.ref (ad 0), .int 115, .int m] w (fun o w1 => o = .inl (some (.int (((t.1 37).1 0) + m))) ∧ IV g ad (zup t.1 [(36, ((t.1 36).1, (vp_updL ((t.1 36).2.1) 0 (((t.1 36).2.1 0) + (m : Int32).toInt64)), (t.1 36).2.2)), (37, ((upd ((t.1 37).1) 0 (((t.1 37).1 0) + m)), (t.1 37).2.1, (t.1 37).2.2)), (38, ((t.1 38).1, lfd ((t.1 38).2.1) (fun e => chS m 1 e / 10) 4, (t.1 38).2.2)), (39, ((t.1 39).1, lfd ((t.1 39).2.1) (fun e => chS m 1 e) 4, (t.1 39).2.2)), (40, ((t.1 40).1, lfd ((t.1 40).2.1) (fun e => chS m 1 e - chS m 1 e / 10 * 10) 4, (t.1 40).2.2))], t.2) u w1) 1 6 := by
  obtain ⟨e_a, w_a, k_a⟩ := hI.1.2 0 (by decide)
  obtain rfl := kd_0.mp k_a
  obtain ⟨e_fu, w_fu, k_fu⟩ := hI.1.2 36 (by decide)
  obtain rfl := kd_36.mp k_fu
  obtain ⟨e_fub, w_fub, k_fub⟩ := hI.1.2 37 (by decide)
  obtain rfl := kd_37.mp k_fub
  obtain ⟨e_fubg, w_fubg, k_fubg⟩ := hI.1.2 38 (by decide)
  obtain rfl := kd_38.mp k_fubg
  obtain ⟨e_fut1, w_fut1, k_fut1⟩ := hI.1.2 39 (by decide)
  obtain rfl := kd_39.mp k_fut1
  obtain ⟨e_fut2, w_fut2, k_fut2⟩ := hI.1.2 40 (by decide)
  obtain rfl := kd_40.mp k_fut2
  obtain ⟨e_fut3, w_fut3, k_fut3⟩ := hI.1.2 41 (by decide)
  obtain rfl := kd_41.mp k_fut3
  obtain ⟨e_gy, w_gy, k_gy⟩ := hI.1.2 45 (by decide)
  obtain rfl := kd_45.mp k_gy
  obtain ⟨e_gyg, w_gyg, k_gyg⟩ := hI.1.2 46 (by decide)
  obtain rfl := kd_46.mp k_gyg
  obtain ⟨e_du, w_du, k_du⟩ := hI.1.2 47 (by decide)
  obtain rfl := kd_47.mp k_du
  obtain ⟨e_dug, w_dug, k_dug⟩ := hI.1.2 48 (by decide)
  obtain rfl := kd_48.mp k_dug
  refine ((C_Ip_charge115N g (ad 0) (ad 1) (ad 5) (ad 18) (ad 31) (ad 32) (ad 36) (ad 42) (ad 45) (ad 47) (ad 49) (ad 50) (ad 51) (ad 43) (ad 44) (ad 46) (ad 48) (ad 37) (ad 38) (ad 39) (ad 40) (ad 41) ((t.1 38).2.1) ((t.1 39).2.1) ((t.1 40).2.1) ((t.1 41).2.1) ((t.1 46).2.1) ((t.1 48).2.1) ((t.1 37).1 0) ((t.1 45).1 0) ((t.1 47).1 0) ((t.1 36).2.1 0) m hw hg).at (hI.1.I [0, 36, 37, 38, 39, 40, 41, 45, 46, 47, 48] _ rfl (by decide) (by decide) (List.forall_mem_cons.mpr ⟨w_a, (List.forall_mem_cons.mpr ⟨w_fu, (List.forall_mem_cons.mpr ⟨w_fub, (List.forall_mem_cons.mpr ⟨w_fubg, (List.forall_mem_cons.mpr ⟨w_fut1, (List.forall_mem_cons.mpr ⟨w_fut2, (List.forall_mem_cons.mpr ⟨w_fut3, (List.forall_mem_cons.mpr ⟨w_gy, (List.forall_mem_cons.mpr ⟨w_gyg, (List.forall_mem_cons.mpr ⟨w_du, (List.forall_mem_cons.mpr ⟨w_dug, (fun _ h => nomatch h)⟩)⟩)⟩)⟩)⟩)⟩)⟩)⟩)⟩)⟩)⟩))).mono (Nat.le_of_ble_eq_true rfl) (Nat.le_of_ble_eq_true rfl) (fun o w1 hp => ?_)
  obtain ⟨cs1, hp, hi9⟩ := hp
  obtain ⟨e1, e2⟩ := hp
  subst e1; subst e2
  exact ⟨rfl, hI.fix (t2 := (zup t.1 [(36, ((t.1 36).1, (vp_updL ((t.1 36).2.1) 0 (((t.1 36).2.1 0) + (m : Int32).toInt64)), (t.1 36).2.2)), (37, ((upd ((t.1 37).1) 0 (((t.1 37).1 0) + m)), (t.1 37).2.1, (t.1 37).2.2)), (38, ((t.1 38).1, lfd ((t.1 38).2.1) (fun e => chS m 1 e / 10) 4, (t.1 38).2.2)), (39, ((t.1 39).1, lfd ((t.1 39).2.1) (fun e => chS m 1 e) 4, (t.1 39).2.2)), (40, ((t.1 40).1, lfd ((t.1 40).2.1) (fun e => chS m 1 e - chS m 1 e / 10 * 10) 4, (t.1 40).2.2))], t.2)) (is := [0, 36, 37, 38, 39, 40, 41, 45, 46, 47, 48]) hi9 rfl ⟨kd_0.mpr rfl, kd_36.mpr rfl, kd_37.mpr rfl, kd_38.mpr rfl, kd_39.mpr rfl, kd_40.mpr rfl, kd_41.mpr rfl, kd_45.mpr rfl, kd_46.mpr rfl, kd_47.mpr rfl, kd_48.mpr rfl, trivial⟩ (by decide) (by decide) (fun i hi hn => zup_out (fun q => hn ((by decide : ∀ j ∈ ([36, 37, 38, 39, 40] : List Nat), j ∈ ([0, 36, 37, 38, 39, 40, 41, 45, 46, 47, 48] : List Nat)) i q))) (fun h => h) rfl⟩
set_option maxHeartbeats 4000000 in
theorem Qx_Ip_charge102G {g : zG} {ad : Nat → Nat} {t : zTT} {u : zNN} {w : zW} (hI : IV g ad t u w) (m : Int32) (hw : (1 ≤ m ∧ m ≤ 1000)) (hg : 3000 < ((t.1 37).1 0) + m) : zMB g M_Ip_charge [.ref (ad 0), .int 102, .int m] w (fun o w1 => o = .inr "java/lang/IllegalStateException" ∧ IV g ad t u w1) 1 6 := by
  obtain ⟨e_a, w_a, k_a⟩ := hI.1.2 0 (by decide)
  obtain rfl := kd_0.mp k_a
  obtain ⟨e_fu, w_fu, k_fu⟩ := hI.1.2 36 (by decide)
  obtain rfl := kd_36.mp k_fu
  obtain ⟨e_fub, w_fub, k_fub⟩ := hI.1.2 37 (by decide)
  obtain rfl := kd_37.mp k_fub
  obtain ⟨e_fubg, w_fubg, k_fubg⟩ := hI.1.2 38 (by decide)
  obtain rfl := kd_38.mp k_fubg
  obtain ⟨e_fut1, w_fut1, k_fut1⟩ := hI.1.2 39 (by decide)
  obtain rfl := kd_39.mp k_fut1
  obtain ⟨e_fut2, w_fut2, k_fut2⟩ := hI.1.2 40 (by decide)
  obtain rfl := kd_40.mp k_fut2
  obtain ⟨e_fut3, w_fut3, k_fut3⟩ := hI.1.2 41 (by decide)
  obtain rfl := kd_41.mp k_fut3
  obtain ⟨e_gy, w_gy, k_gy⟩ := hI.1.2 45 (by decide)
  obtain rfl := kd_45.mp k_gy
  obtain ⟨e_gyg, w_gyg, k_gyg⟩ := hI.1.2 46 (by decide)
  obtain rfl := kd_46.mp k_gyg
  obtain ⟨e_du, w_du, k_du⟩ := hI.1.2 47 (by decide)
  obtain rfl := kd_47.mp k_du
  obtain ⟨e_dug, w_dug, k_dug⟩ := hI.1.2 48 (by decide)
  obtain rfl := kd_48.mp k_dug
  refine ((C_Ip_charge102G g (ad 0) (ad 1) (ad 5) (ad 18) (ad 31) (ad 32) (ad 36) (ad 42) (ad 45) (ad 47) (ad 49) (ad 50) (ad 51) (ad 43) (ad 44) (ad 46) (ad 48) (ad 37) (ad 38) (ad 39) (ad 40) (ad 41) ((t.1 38).2.1) ((t.1 39).2.1) ((t.1 40).2.1) ((t.1 41).2.1) ((t.1 46).2.1) ((t.1 48).2.1) ((t.1 37).1 0) ((t.1 45).1 0) ((t.1 47).1 0) ((t.1 36).2.1 0) m hw hg).at (hI.1.I [0, 36, 37, 38, 39, 40, 41, 45, 46, 47, 48] _ rfl (by decide) (by decide) (List.forall_mem_cons.mpr ⟨w_a, (List.forall_mem_cons.mpr ⟨w_fu, (List.forall_mem_cons.mpr ⟨w_fub, (List.forall_mem_cons.mpr ⟨w_fubg, (List.forall_mem_cons.mpr ⟨w_fut1, (List.forall_mem_cons.mpr ⟨w_fut2, (List.forall_mem_cons.mpr ⟨w_fut3, (List.forall_mem_cons.mpr ⟨w_gy, (List.forall_mem_cons.mpr ⟨w_gyg, (List.forall_mem_cons.mpr ⟨w_du, (List.forall_mem_cons.mpr ⟨w_dug, (fun _ h => nomatch h)⟩)⟩)⟩)⟩)⟩)⟩)⟩)⟩)⟩)⟩)⟩))).mono (Nat.le_of_ble_eq_true rfl) (Nat.le_of_ble_eq_true rfl) (fun o w1 hp => ?_)
  obtain ⟨cs1, hp, hi9⟩ := hp
  obtain ⟨e1, e2⟩ := hp
  subst e1; subst e2
  exact ⟨rfl, hI.fix (t2 := t) (is := [0, 36, 37, 38, 39, 40, 41, 45, 46, 47, 48]) hi9 rfl ⟨kd_0.mpr rfl, kd_36.mpr rfl, kd_37.mpr rfl, kd_38.mpr rfl, kd_39.mpr rfl, kd_40.mpr rfl, kd_41.mpr rfl, kd_45.mpr rfl, kd_46.mpr rfl, kd_47.mpr rfl, kd_48.mpr rfl, trivial⟩ (by decide) (by decide) (fun _ _ _ => rfl) (fun h => h) rfl⟩
set_option maxHeartbeats 4000000 in
theorem Qx_Ip_charge102N {g : zG} {ad : Nat → Nat} {t : zTT} {u : zNN} {w : zW} (hI : IV g ad t u w) (m : Int32) (hw : (1 ≤ m ∧ m ≤ 1000)) (hg : ¬ 3000 < ((t.1 37).1 0) + m) : zMB g M_Ip_charge [.ref (ad 0), .int 102, .int m] w (fun o w1 => o = .inl (some (.int (((t.1 37).1 0) + m))) ∧ IV g ad (zup t.1 [(36, ((t.1 36).1, (vp_updL ((t.1 36).2.1) 0 (((t.1 36).2.1 0) + (m : Int32).toInt64)), (t.1 36).2.2)), (37, ((upd ((t.1 37).1) 0 (((t.1 37).1 0) + m)), (t.1 37).2.1, (t.1 37).2.2)), (38, ((t.1 38).1, lfd ((t.1 38).2.1) (fun e => chS m 2 e / 10) 4, (t.1 38).2.2)), (39, ((t.1 39).1, lfd ((t.1 39).2.1) (fun e => chS m 2 e) 4, (t.1 39).2.2)), (40, ((t.1 40).1, lfd ((t.1 40).2.1) (fun e => chS m 2 e - chS m 2 e / 10 * 10) 4, (t.1 40).2.2))], t.2) u w1) 1 6 := by
  obtain ⟨e_a, w_a, k_a⟩ := hI.1.2 0 (by decide)
  obtain rfl := kd_0.mp k_a
  obtain ⟨e_fu, w_fu, k_fu⟩ := hI.1.2 36 (by decide)
  obtain rfl := kd_36.mp k_fu
  obtain ⟨e_fub, w_fub, k_fub⟩ := hI.1.2 37 (by decide)
  obtain rfl := kd_37.mp k_fub
  obtain ⟨e_fubg, w_fubg, k_fubg⟩ := hI.1.2 38 (by decide)
  obtain rfl := kd_38.mp k_fubg
  obtain ⟨e_fut1, w_fut1, k_fut1⟩ := hI.1.2 39 (by decide)
  obtain rfl := kd_39.mp k_fut1
  obtain ⟨e_fut2, w_fut2, k_fut2⟩ := hI.1.2 40 (by decide)
  obtain rfl := kd_40.mp k_fut2
  obtain ⟨e_fut3, w_fut3, k_fut3⟩ := hI.1.2 41 (by decide)
  obtain rfl := kd_41.mp k_fut3
  obtain ⟨e_gy, w_gy, k_gy⟩ := hI.1.2 45 (by decide)
  obtain rfl := kd_45.mp k_gy
  obtain ⟨e_gyg, w_gyg, k_gyg⟩ := hI.1.2 46 (by decide)
  obtain rfl := kd_46.mp k_gyg
  obtain ⟨e_du, w_du, k_du⟩ := hI.1.2 47 (by decide)
  obtain rfl := kd_47.mp k_du
  obtain ⟨e_dug, w_dug, k_dug⟩ := hI.1.2 48 (by decide)
  obtain rfl := kd_48.mp k_dug
  refine ((C_Ip_charge102N g (ad 0) (ad 1) (ad 5) (ad 18) (ad 31) (ad 32) (ad 36) (ad 42) (ad 45) (ad 47) (ad 49) (ad 50) (ad 51) (ad 43) (ad 44) (ad 46) (ad 48) (ad 37) (ad 38) (ad 39) (ad 40) (ad 41) ((t.1 38).2.1) ((t.1 39).2.1) ((t.1 40).2.1) ((t.1 41).2.1) ((t.1 46).2.1) ((t.1 48).2.1) ((t.1 37).1 0) ((t.1 45).1 0) ((t.1 47).1 0) ((t.1 36).2.1 0) m hw hg).at (hI.1.I [0, 36, 37, 38, 39, 40, 41, 45, 46, 47, 48] _ rfl (by decide) (by decide) (List.forall_mem_cons.mpr ⟨w_a, (List.forall_mem_cons.mpr ⟨w_fu, (List.forall_mem_cons.mpr ⟨w_fub, (List.forall_mem_cons.mpr ⟨w_fubg, (List.forall_mem_cons.mpr ⟨w_fut1, (List.forall_mem_cons.mpr ⟨w_fut2, (List.forall_mem_cons.mpr ⟨w_fut3, (List.forall_mem_cons.mpr ⟨w_gy, (List.forall_mem_cons.mpr ⟨w_gyg, (List.forall_mem_cons.mpr ⟨w_du, (List.forall_mem_cons.mpr ⟨w_dug, (fun _ h => nomatch h)⟩)⟩)⟩)⟩)⟩)⟩)⟩)⟩)⟩)⟩)⟩))).mono (Nat.le_of_ble_eq_true rfl) (Nat.le_of_ble_eq_true rfl) (fun o w1 hp => ?_)
  obtain ⟨cs1, hp, hi9⟩ := hp
  obtain ⟨e1, e2⟩ := hp
  subst e1; subst e2
  exact ⟨rfl, hI.fix (t2 := (zup t.1 [(36, ((t.1 36).1, (vp_updL ((t.1 36).2.1) 0 (((t.1 36).2.1 0) + (m : Int32).toInt64)), (t.1 36).2.2)), (37, ((upd ((t.1 37).1) 0 (((t.1 37).1 0) + m)), (t.1 37).2.1, (t.1 37).2.2)), (38, ((t.1 38).1, lfd ((t.1 38).2.1) (fun e => chS m 2 e / 10) 4, (t.1 38).2.2)), (39, ((t.1 39).1, lfd ((t.1 39).2.1) (fun e => chS m 2 e) 4, (t.1 39).2.2)), (40, ((t.1 40).1, lfd ((t.1 40).2.1) (fun e => chS m 2 e - chS m 2 e / 10 * 10) 4, (t.1 40).2.2))], t.2)) (is := [0, 36, 37, 38, 39, 40, 41, 45, 46, 47, 48]) hi9 rfl ⟨kd_0.mpr rfl, kd_36.mpr rfl, kd_37.mpr rfl, kd_38.mpr rfl, kd_39.mpr rfl, kd_40.mpr rfl, kd_41.mpr rfl, kd_45.mpr rfl, kd_46.mpr rfl, kd_47.mpr rfl, kd_48.mpr rfl, trivial⟩ (by decide) (by decide) (fun i hi hn => zup_out (fun q => hn ((by decide : ∀ j ∈ ([36, 37, 38, 39, 40] : List Nat), j ∈ ([0, 36, 37, 38, 39, 40, 41, 45, 46, 47, 48] : List Nat)) i q))) (fun h => h) rfl⟩
set_option maxHeartbeats 4000000 in
theorem Qx_Ip_charge107G {g : zG} {ad : Nat → Nat} {t : zTT} {u : zNN} {w : zW} (hI : IV g ad t u w) (m : Int32) (hw : (1 ≤ m ∧ m ≤ 1000)) (hg : 3000 < ((t.1 37).1 0) + 0) : zMB g M_Ip_charge [.ref (ad 0), .int 107, .int m] w (fun o w1 => o = .inr "java/lang/IllegalStateException" ∧ IV g ad t u w1) 1 6 := by
  obtain ⟨e_a, w_a, k_a⟩ := hI.1.2 0 (by decide)
  obtain rfl := kd_0.mp k_a
  obtain ⟨e_fu, w_fu, k_fu⟩ := hI.1.2 36 (by decide)
  obtain rfl := kd_36.mp k_fu
  obtain ⟨e_fub, w_fub, k_fub⟩ := hI.1.2 37 (by decide)
  obtain rfl := kd_37.mp k_fub
  obtain ⟨e_fubg, w_fubg, k_fubg⟩ := hI.1.2 38 (by decide)
  obtain rfl := kd_38.mp k_fubg
  obtain ⟨e_fut1, w_fut1, k_fut1⟩ := hI.1.2 39 (by decide)
  obtain rfl := kd_39.mp k_fut1
  obtain ⟨e_fut2, w_fut2, k_fut2⟩ := hI.1.2 40 (by decide)
  obtain rfl := kd_40.mp k_fut2
  obtain ⟨e_fut3, w_fut3, k_fut3⟩ := hI.1.2 41 (by decide)
  obtain rfl := kd_41.mp k_fut3
  obtain ⟨e_gy, w_gy, k_gy⟩ := hI.1.2 45 (by decide)
  obtain rfl := kd_45.mp k_gy
  obtain ⟨e_gyg, w_gyg, k_gyg⟩ := hI.1.2 46 (by decide)
  obtain rfl := kd_46.mp k_gyg
  obtain ⟨e_du, w_du, k_du⟩ := hI.1.2 47 (by decide)
  obtain rfl := kd_47.mp k_du
  obtain ⟨e_dug, w_dug, k_dug⟩ := hI.1.2 48 (by decide)
  obtain rfl := kd_48.mp k_dug
  refine ((C_Ip_charge107G g (ad 0) (ad 1) (ad 5) (ad 18) (ad 31) (ad 32) (ad 36) (ad 42) (ad 45) (ad 47) (ad 49) (ad 50) (ad 51) (ad 43) (ad 44) (ad 46) (ad 48) (ad 37) (ad 38) (ad 39) (ad 40) (ad 41) ((t.1 38).2.1) ((t.1 39).2.1) ((t.1 40).2.1) ((t.1 41).2.1) ((t.1 46).2.1) ((t.1 48).2.1) ((t.1 37).1 0) ((t.1 45).1 0) ((t.1 47).1 0) ((t.1 36).2.1 0) m hw hg).at (hI.1.I [0, 36, 37, 38, 39, 40, 41, 45, 46, 47, 48] _ rfl (by decide) (by decide) (List.forall_mem_cons.mpr ⟨w_a, (List.forall_mem_cons.mpr ⟨w_fu, (List.forall_mem_cons.mpr ⟨w_fub, (List.forall_mem_cons.mpr ⟨w_fubg, (List.forall_mem_cons.mpr ⟨w_fut1, (List.forall_mem_cons.mpr ⟨w_fut2, (List.forall_mem_cons.mpr ⟨w_fut3, (List.forall_mem_cons.mpr ⟨w_gy, (List.forall_mem_cons.mpr ⟨w_gyg, (List.forall_mem_cons.mpr ⟨w_du, (List.forall_mem_cons.mpr ⟨w_dug, (fun _ h => nomatch h)⟩)⟩)⟩)⟩)⟩)⟩)⟩)⟩)⟩)⟩)⟩))).mono (Nat.le_of_ble_eq_true rfl) (Nat.le_of_ble_eq_true rfl) (fun o w1 hp => ?_)
  obtain ⟨cs1, hp, hi9⟩ := hp
  obtain ⟨e1, e2⟩ := hp
  subst e1; subst e2
  exact ⟨rfl, hI.fix (t2 := t) (is := [0, 36, 37, 38, 39, 40, 41, 45, 46, 47, 48]) hi9 rfl ⟨kd_0.mpr rfl, kd_36.mpr rfl, kd_37.mpr rfl, kd_38.mpr rfl, kd_39.mpr rfl, kd_40.mpr rfl, kd_41.mpr rfl, kd_45.mpr rfl, kd_46.mpr rfl, kd_47.mpr rfl, kd_48.mpr rfl, trivial⟩ (by decide) (by decide) (fun _ _ _ => rfl) (fun h => h) rfl⟩
set_option maxHeartbeats 4000000 in
theorem Qx_Ip_charge107N {g : zG} {ad : Nat → Nat} {t : zTT} {u : zNN} {w : zW} (hI : IV g ad t u w) (m : Int32) (hw : (1 ≤ m ∧ m ≤ 1000)) (hg : ¬ 3000 < ((t.1 37).1 0) + 0) : zMB g M_Ip_charge [.ref (ad 0), .int 107, .int m] w (fun o w1 => o = .inl (some (.int (((t.1 37).1 0) + 0))) ∧ IV g ad (zup t.1 [(36, ((t.1 36).1, (vp_updL ((t.1 36).2.1) 0 (((t.1 36).2.1 0) + (0 : Int32).toInt64)), (t.1 36).2.2)), (37, ((upd ((t.1 37).1) 0 (((t.1 37).1 0) + 0)), (t.1 37).2.1, (t.1 37).2.2)), (38, ((t.1 38).1, lfd ((t.1 38).2.1) (fun e => chS m 3 e / 10) 4, (t.1 38).2.2)), (39, ((t.1 39).1, lfd ((t.1 39).2.1) (fun e => chS m 3 e) 4, (t.1 39).2.2)), (40, ((t.1 40).1, lfd ((t.1 40).2.1) (fun e => chS m 3 e - chS m 3 e / 10 * 10) 4, (t.1 40).2.2))], t.2) u w1) 1 6 := by
  obtain ⟨e_a, w_a, k_a⟩ := hI.1.2 0 (by decide)
  obtain rfl := kd_0.mp k_a
  obtain ⟨e_fu, w_fu, k_fu⟩ := hI.1.2 36 (by decide)
  obtain rfl := kd_36.mp k_fu
  obtain ⟨e_fub, w_fub, k_fub⟩ := hI.1.2 37 (by decide)
  obtain rfl := kd_37.mp k_fub
  obtain ⟨e_fubg, w_fubg, k_fubg⟩ := hI.1.2 38 (by decide)
  obtain rfl := kd_38.mp k_fubg
  obtain ⟨e_fut1, w_fut1, k_fut1⟩ := hI.1.2 39 (by decide)
  obtain rfl := kd_39.mp k_fut1
  obtain ⟨e_fut2, w_fut2, k_fut2⟩ := hI.1.2 40 (by decide)
  obtain rfl := kd_40.mp k_fut2
  obtain ⟨e_fut3, w_fut3, k_fut3⟩ := hI.1.2 41 (by decide)
  obtain rfl := kd_41.mp k_fut3
  obtain ⟨e_gy, w_gy, k_gy⟩ := hI.1.2 45 (by decide)
  obtain rfl := kd_45.mp k_gy
  obtain ⟨e_gyg, w_gyg, k_gyg⟩ := hI.1.2 46 (by decide)
  obtain rfl := kd_46.mp k_gyg
  obtain ⟨e_du, w_du, k_du⟩ := hI.1.2 47 (by decide)
  obtain rfl := kd_47.mp k_du
  obtain ⟨e_dug, w_dug, k_dug⟩ := hI.1.2 48 (by decide)
  obtain rfl := kd_48.mp k_dug
  refine ((C_Ip_charge107N g (ad 0) (ad 1) (ad 5) (ad 18) (ad 31) (ad 32) (ad 36) (ad 42) (ad 45) (ad 47) (ad 49) (ad 50) (ad 51) (ad 43) (ad 44) (ad 46) (ad 48) (ad 37) (ad 38) (ad 39) (ad 40) (ad 41) ((t.1 38).2.1) ((t.1 39).2.1) ((t.1 40).2.1) ((t.1 41).2.1) ((t.1 46).2.1) ((t.1 48).2.1) ((t.1 37).1 0) ((t.1 45).1 0) ((t.1 47).1 0) ((t.1 36).2.1 0) m hw hg).at (hI.1.I [0, 36, 37, 38, 39, 40, 41, 45, 46, 47, 48] _ rfl (by decide) (by decide) (List.forall_mem_cons.mpr ⟨w_a, (List.forall_mem_cons.mpr ⟨w_fu, (List.forall_mem_cons.mpr ⟨w_fub, (List.forall_mem_cons.mpr ⟨w_fubg, (List.forall_mem_cons.mpr ⟨w_fut1, (List.forall_mem_cons.mpr ⟨w_fut2, (List.forall_mem_cons.mpr ⟨w_fut3, (List.forall_mem_cons.mpr ⟨w_gy, (List.forall_mem_cons.mpr ⟨w_gyg, (List.forall_mem_cons.mpr ⟨w_du, (List.forall_mem_cons.mpr ⟨w_dug, (fun _ h => nomatch h)⟩)⟩)⟩)⟩)⟩)⟩)⟩)⟩)⟩)⟩)⟩))).mono (Nat.le_of_ble_eq_true rfl) (Nat.le_of_ble_eq_true rfl) (fun o w1 hp => ?_)
  obtain ⟨cs1, hp, hi9⟩ := hp
  obtain ⟨e1, e2⟩ := hp
  subst e1; subst e2
  exact ⟨rfl, hI.fix (t2 := (zup t.1 [(36, ((t.1 36).1, (vp_updL ((t.1 36).2.1) 0 (((t.1 36).2.1 0) + (0 : Int32).toInt64)), (t.1 36).2.2)), (37, ((upd ((t.1 37).1) 0 (((t.1 37).1 0) + 0)), (t.1 37).2.1, (t.1 37).2.2)), (38, ((t.1 38).1, lfd ((t.1 38).2.1) (fun e => chS m 3 e / 10) 4, (t.1 38).2.2)), (39, ((t.1 39).1, lfd ((t.1 39).2.1) (fun e => chS m 3 e) 4, (t.1 39).2.2)), (40, ((t.1 40).1, lfd ((t.1 40).2.1) (fun e => chS m 3 e - chS m 3 e / 10 * 10) 4, (t.1 40).2.2))], t.2)) (is := [0, 36, 37, 38, 39, 40, 41, 45, 46, 47, 48]) hi9 rfl ⟨kd_0.mpr rfl, kd_36.mpr rfl, kd_37.mpr rfl, kd_38.mpr rfl, kd_39.mpr rfl, kd_40.mpr rfl, kd_41.mpr rfl, kd_45.mpr rfl, kd_46.mpr rfl, kd_47.mpr rfl, kd_48.mpr rfl, trivial⟩ (by decide) (by decide) (fun i hi hn => zup_out (fun q => hn ((by decide : ∀ j ∈ ([36, 37, 38, 39, 40] : List Nat), j ∈ ([0, 36, 37, 38, 39, 40, 41, 45, 46, 47, 48] : List Nat)) i q))) (fun h => h) rfl⟩
set_option maxHeartbeats 4000000 in
theorem Qx_Ip_charge103F {g : zG} {ad : Nat → Nat} {t : zTT} {u : zNN} {w : zW} (hI : IV g ad t u w) (m : Int32) (hw : (1 ≤ m ∧ m ≤ 1000)) (hf : ((t.1 45).1 0) < m) : zMB g M_Ip_charge [.ref (ad 0), .int 103, .int m] w (fun o w1 => o = .inr "java/lang/UnsupportedOperationException" ∧ IV g ad t u w1) 1 6 := by
  obtain ⟨e_a, w_a, k_a⟩ := hI.1.2 0 (by decide)
  obtain rfl := kd_0.mp k_a
  obtain ⟨e_fu, w_fu, k_fu⟩ := hI.1.2 36 (by decide)
  obtain rfl := kd_36.mp k_fu
  obtain ⟨e_fub, w_fub, k_fub⟩ := hI.1.2 37 (by decide)
  obtain rfl := kd_37.mp k_fub
  obtain ⟨e_fubg, w_fubg, k_fubg⟩ := hI.1.2 38 (by decide)
  obtain rfl := kd_38.mp k_fubg
  obtain ⟨e_fut1, w_fut1, k_fut1⟩ := hI.1.2 39 (by decide)
  obtain rfl := kd_39.mp k_fut1
  obtain ⟨e_fut2, w_fut2, k_fut2⟩ := hI.1.2 40 (by decide)
  obtain rfl := kd_40.mp k_fut2
  obtain ⟨e_fut3, w_fut3, k_fut3⟩ := hI.1.2 41 (by decide)
  obtain rfl := kd_41.mp k_fut3
  obtain ⟨e_gy, w_gy, k_gy⟩ := hI.1.2 45 (by decide)
  obtain rfl := kd_45.mp k_gy
  obtain ⟨e_gyg, w_gyg, k_gyg⟩ := hI.1.2 46 (by decide)
  obtain rfl := kd_46.mp k_gyg
  obtain ⟨e_du, w_du, k_du⟩ := hI.1.2 47 (by decide)
  obtain rfl := kd_47.mp k_du
  obtain ⟨e_dug, w_dug, k_dug⟩ := hI.1.2 48 (by decide)
  obtain rfl := kd_48.mp k_dug
  refine ((C_Ip_charge103F g (ad 0) (ad 1) (ad 5) (ad 18) (ad 31) (ad 32) (ad 36) (ad 42) (ad 45) (ad 47) (ad 49) (ad 50) (ad 51) (ad 43) (ad 44) (ad 46) (ad 48) (ad 37) (ad 38) (ad 39) (ad 40) (ad 41) ((t.1 38).2.1) ((t.1 39).2.1) ((t.1 40).2.1) ((t.1 41).2.1) ((t.1 46).2.1) ((t.1 48).2.1) ((t.1 37).1 0) ((t.1 45).1 0) ((t.1 47).1 0) ((t.1 36).2.1 0) m hw hf).at (hI.1.I [0, 36, 37, 38, 39, 40, 41, 45, 46, 47, 48] _ rfl (by decide) (by decide) (List.forall_mem_cons.mpr ⟨w_a, (List.forall_mem_cons.mpr ⟨w_fu, (List.forall_mem_cons.mpr ⟨w_fub, (List.forall_mem_cons.mpr ⟨w_fubg, (List.forall_mem_cons.mpr ⟨w_fut1, (List.forall_mem_cons.mpr ⟨w_fut2, (List.forall_mem_cons.mpr ⟨w_fut3, (List.forall_mem_cons.mpr ⟨w_gy, (List.forall_mem_cons.mpr ⟨w_gyg, (List.forall_mem_cons.mpr ⟨w_du, (List.forall_mem_cons.mpr ⟨w_dug, (fun _ h => nomatch h)⟩)⟩)⟩)⟩)⟩)⟩)⟩)⟩)⟩)⟩)⟩))).mono (Nat.le_of_ble_eq_true rfl) (Nat.le_of_ble_eq_true rfl) (fun o w1 hp => ?_)
  obtain ⟨cs1, hp, hi9⟩ := hp
  obtain ⟨e1, e2⟩ := hp
  subst e1; subst e2
  exact ⟨rfl, hI.fix (t2 := t) (is := [0, 36, 37, 38, 39, 40, 41, 45, 46, 47, 48]) hi9 rfl ⟨kd_0.mpr rfl, kd_36.mpr rfl, kd_37.mpr rfl, kd_38.mpr rfl, kd_39.mpr rfl, kd_40.mpr rfl, kd_41.mpr rfl, kd_45.mpr rfl, kd_46.mpr rfl, kd_47.mpr rfl, kd_48.mpr rfl, trivial⟩ (by decide) (by decide) (fun _ _ _ => rfl) (fun h => h) rfl⟩
set_option maxHeartbeats 4000000 in
theorem Qx_Ip_charge103G {g : zG} {ad : Nat → Nat} {t : zTT} {u : zNN} {w : zW} (hI : IV g ad t u w) (m : Int32) (hw : (1 ≤ m ∧ m ≤ 1000)) (hf : ¬ ((t.1 45).1 0) < m) (hg : 3000 < ((t.1 37).1 0) + m) : zMB g M_Ip_charge [.ref (ad 0), .int 103, .int m] w (fun o w1 => o = .inr "java/lang/IllegalStateException" ∧ IV g ad t u w1) 1 6 := by
  obtain ⟨e_a, w_a, k_a⟩ := hI.1.2 0 (by decide)
  obtain rfl := kd_0.mp k_a
  obtain ⟨e_fu, w_fu, k_fu⟩ := hI.1.2 36 (by decide)
  obtain rfl := kd_36.mp k_fu
  obtain ⟨e_fub, w_fub, k_fub⟩ := hI.1.2 37 (by decide)
  obtain rfl := kd_37.mp k_fub
  obtain ⟨e_fubg, w_fubg, k_fubg⟩ := hI.1.2 38 (by decide)
  obtain rfl := kd_38.mp k_fubg
  obtain ⟨e_fut1, w_fut1, k_fut1⟩ := hI.1.2 39 (by decide)
  obtain rfl := kd_39.mp k_fut1
  obtain ⟨e_fut2, w_fut2, k_fut2⟩ := hI.1.2 40 (by decide)
  obtain rfl := kd_40.mp k_fut2
  obtain ⟨e_fut3, w_fut3, k_fut3⟩ := hI.1.2 41 (by decide)
  obtain rfl := kd_41.mp k_fut3
  obtain ⟨e_gy, w_gy, k_gy⟩ := hI.1.2 45 (by decide)
  obtain rfl := kd_45.mp k_gy
  obtain ⟨e_gyg, w_gyg, k_gyg⟩ := hI.1.2 46 (by decide)
  obtain rfl := kd_46.mp k_gyg
  obtain ⟨e_du, w_du, k_du⟩ := hI.1.2 47 (by decide)
  obtain rfl := kd_47.mp k_du
  obtain ⟨e_dug, w_dug, k_dug⟩ := hI.1.2 48 (by decide)
  obtain rfl := kd_48.mp k_dug
  refine ((C_Ip_charge103G g (ad 0) (ad 1) (ad 5) (ad 18) (ad 31) (ad 32) (ad 36) (ad 42) (ad 45) (ad 47) (ad 49) (ad 50) (ad 51) (ad 43) (ad 44) (ad 46) (ad 48) (ad 37) (ad 38) (ad 39) (ad 40) (ad 41) ((t.1 38).2.1) ((t.1 39).2.1) ((t.1 40).2.1) ((t.1 41).2.1) ((t.1 46).2.1) ((t.1 48).2.1) ((t.1 37).1 0) ((t.1 45).1 0) ((t.1 47).1 0) ((t.1 36).2.1 0) m hw hf hg).at (hI.1.I [0, 36, 37, 38, 39, 40, 41, 45, 46, 47, 48] _ rfl (by decide) (by decide) (List.forall_mem_cons.mpr ⟨w_a, (List.forall_mem_cons.mpr ⟨w_fu, (List.forall_mem_cons.mpr ⟨w_fub, (List.forall_mem_cons.mpr ⟨w_fubg, (List.forall_mem_cons.mpr ⟨w_fut1, (List.forall_mem_cons.mpr ⟨w_fut2, (List.forall_mem_cons.mpr ⟨w_fut3, (List.forall_mem_cons.mpr ⟨w_gy, (List.forall_mem_cons.mpr ⟨w_gyg, (List.forall_mem_cons.mpr ⟨w_du, (List.forall_mem_cons.mpr ⟨w_dug, (fun _ h => nomatch h)⟩)⟩)⟩)⟩)⟩)⟩)⟩)⟩)⟩)⟩)⟩))).mono (Nat.le_of_ble_eq_true rfl) (Nat.le_of_ble_eq_true rfl) (fun o w1 hp => ?_)
  obtain ⟨cs1, hp, hi9⟩ := hp
  obtain ⟨e1, e2⟩ := hp
  subst e1; subst e2
  exact ⟨rfl, hI.fix (t2 := t) (is := [0, 36, 37, 38, 39, 40, 41, 45, 46, 47, 48]) hi9 rfl ⟨kd_0.mpr rfl, kd_36.mpr rfl, kd_37.mpr rfl, kd_38.mpr rfl, kd_39.mpr rfl, kd_40.mpr rfl, kd_41.mpr rfl, kd_45.mpr rfl, kd_46.mpr rfl, kd_47.mpr rfl, kd_48.mpr rfl, trivial⟩ (by decide) (by decide) (fun _ _ _ => rfl) (fun h => h) rfl⟩
set_option maxHeartbeats 4000000 in
theorem Qx_Ip_charge103N {g : zG} {ad : Nat → Nat} {t : zTT} {u : zNN} {w : zW} (hI : IV g ad t u w) (m : Int32) (hw : (1 ≤ m ∧ m ≤ 1000)) (hf : ¬ ((t.1 45).1 0) < m) (hg : ¬ 3000 < ((t.1 37).1 0) + m) : zMB g M_Ip_charge [.ref (ad 0), .int 103, .int m] w (fun o w1 => o = .inl (some (.int (((t.1 37).1 0) + m))) ∧ IV g ad (zup t.1 [(37, ((upd ((t.1 37).1) 0 (((t.1 37).1 0) + m)), (t.1 37).2.1, (t.1 37).2.2)), (38, ((t.1 38).1, mvT ((t.1 46).2.1) m ((t.1 45).1 0) ((t.1 38).2.1) 4, (t.1 38).2.2)), (45, ((upd ((t.1 45).1) 0 (((t.1 45).1 0) - m)), (t.1 45).2.1, (t.1 45).2.2)), (46, ((t.1 46).1, mvS ((t.1 46).2.1) m ((t.1 45).1 0) 4, (t.1 46).2.2))], t.2) u w1) 1 6 := by
  obtain ⟨e_a, w_a, k_a⟩ := hI.1.2 0 (by decide)
  obtain rfl := kd_0.mp k_a
  obtain ⟨e_fu, w_fu, k_fu⟩ := hI.1.2 36 (by decide)
  obtain rfl := kd_36.mp k_fu
  obtain ⟨e_fub, w_fub, k_fub⟩ := hI.1.2 37 (by decide)
  obtain rfl := kd_37.mp k_fub
  obtain ⟨e_fubg, w_fubg, k_fubg⟩ := hI.1.2 38 (by decide)
  obtain rfl := kd_38.mp k_fubg
  obtain ⟨e_fut1, w_fut1, k_fut1⟩ := hI.1.2 39 (by decide)
  obtain rfl := kd_39.mp k_fut1
  obtain ⟨e_fut2, w_fut2, k_fut2⟩ := hI.1.2 40 (by decide)
  obtain rfl := kd_40.mp k_fut2
  obtain ⟨e_fut3, w_fut3, k_fut3⟩ := hI.1.2 41 (by decide)
  obtain rfl := kd_41.mp k_fut3
  obtain ⟨e_gy, w_gy, k_gy⟩ := hI.1.2 45 (by decide)
  obtain rfl := kd_45.mp k_gy
  obtain ⟨e_gyg, w_gyg, k_gyg⟩ := hI.1.2 46 (by decide)
  obtain rfl := kd_46.mp k_gyg
  obtain ⟨e_du, w_du, k_du⟩ := hI.1.2 47 (by decide)
  obtain rfl := kd_47.mp k_du
  obtain ⟨e_dug, w_dug, k_dug⟩ := hI.1.2 48 (by decide)
  obtain rfl := kd_48.mp k_dug
  refine ((C_Ip_charge103N g (ad 0) (ad 1) (ad 5) (ad 18) (ad 31) (ad 32) (ad 36) (ad 42) (ad 45) (ad 47) (ad 49) (ad 50) (ad 51) (ad 43) (ad 44) (ad 46) (ad 48) (ad 37) (ad 38) (ad 39) (ad 40) (ad 41) ((t.1 38).2.1) ((t.1 39).2.1) ((t.1 40).2.1) ((t.1 41).2.1) ((t.1 46).2.1) ((t.1 48).2.1) ((t.1 37).1 0) ((t.1 45).1 0) ((t.1 47).1 0) ((t.1 36).2.1 0) m hw hf hg (z_ge1 hw.1 hf)).at (hI.1.I [0, 36, 37, 38, 39, 40, 41, 45, 46, 47, 48] _ rfl (by decide) (by decide) (List.forall_mem_cons.mpr ⟨w_a, (List.forall_mem_cons.mpr ⟨w_fu, (List.forall_mem_cons.mpr ⟨w_fub, (List.forall_mem_cons.mpr ⟨w_fubg, (List.forall_mem_cons.mpr ⟨w_fut1, (List.forall_mem_cons.mpr ⟨w_fut2, (List.forall_mem_cons.mpr ⟨w_fut3, (List.forall_mem_cons.mpr ⟨w_gy, (List.forall_mem_cons.mpr ⟨w_gyg, (List.forall_mem_cons.mpr ⟨w_du, (List.forall_mem_cons.mpr ⟨w_dug, (fun _ h => nomatch h)⟩)⟩)⟩)⟩)⟩)⟩)⟩)⟩)⟩)⟩)⟩))).mono (Nat.le_of_ble_eq_true rfl) (Nat.le_of_ble_eq_true rfl) (fun o w1 hp => ?_)
  obtain ⟨cs1, hp, hi9⟩ := hp
  obtain ⟨e1, e2⟩ := hp
  subst e1; subst e2
  exact ⟨rfl, hI.fix (t2 := (zup t.1 [(37, ((upd ((t.1 37).1) 0 (((t.1 37).1 0) + m)), (t.1 37).2.1, (t.1 37).2.2)), (38, ((t.1 38).1, mvT ((t.1 46).2.1) m ((t.1 45).1 0) ((t.1 38).2.1) 4, (t.1 38).2.2)), (45, ((upd ((t.1 45).1) 0 (((t.1 45).1 0) - m)), (t.1 45).2.1, (t.1 45).2.2)), (46, ((t.1 46).1, mvS ((t.1 46).2.1) m ((t.1 45).1 0) 4, (t.1 46).2.2))], t.2)) (is := [0, 36, 37, 38, 39, 40, 41, 45, 46, 47, 48]) hi9 rfl ⟨kd_0.mpr rfl, kd_36.mpr rfl, kd_37.mpr rfl, kd_38.mpr rfl, kd_39.mpr rfl, kd_40.mpr rfl, kd_41.mpr rfl, kd_45.mpr rfl, kd_46.mpr rfl, kd_47.mpr rfl, kd_48.mpr rfl, trivial⟩ (by decide) (by decide) (fun i hi hn => zup_out (fun q => hn ((by decide : ∀ j ∈ ([37, 38, 45, 46] : List Nat), j ∈ ([0, 36, 37, 38, 39, 40, 41, 45, 46, 47, 48] : List Nat)) i q))) (fun h => h) rfl⟩
set_option maxHeartbeats 4000000 in
theorem Qx_Ip_charge100F {g : zG} {ad : Nat → Nat} {t : zTT} {u : zNN} {w : zW} (hI : IV g ad t u w) (m : Int32) (hw : (1 ≤ m ∧ m ≤ 1000)) (hf : ((t.1 47).1 0) < m) : zMB g M_Ip_charge [.ref (ad 0), .int 100, .int m] w (fun o w1 => o = .inr "java/lang/UnsupportedOperationException" ∧ IV g ad t u w1) 1 6 := by
  obtain ⟨e_a, w_a, k_a⟩ := hI.1.2 0 (by decide)
  obtain rfl := kd_0.mp k_a
  obtain ⟨e_fu, w_fu, k_fu⟩ := hI.1.2 36 (by decide)
  obtain rfl := kd_36.mp k_fu
  obtain ⟨e_fub, w_fub, k_fub⟩ := hI.1.2 37 (by decide)
  obtain rfl := kd_37.mp k_fub
  obtain ⟨e_fubg, w_fubg, k_fubg⟩ := hI.1.2 38 (by decide)
  obtain rfl := kd_38.mp k_fubg
  obtain ⟨e_fut1, w_fut1, k_fut1⟩ := hI.1.2 39 (by decide)
  obtain rfl := kd_39.mp k_fut1
  obtain ⟨e_fut2, w_fut2, k_fut2⟩ := hI.1.2 40 (by decide)
  obtain rfl := kd_40.mp k_fut2
  obtain ⟨e_fut3, w_fut3, k_fut3⟩ := hI.1.2 41 (by decide)
  obtain rfl := kd_41.mp k_fut3
  obtain ⟨e_gy, w_gy, k_gy⟩ := hI.1.2 45 (by decide)
  obtain rfl := kd_45.mp k_gy
  obtain ⟨e_gyg, w_gyg, k_gyg⟩ := hI.1.2 46 (by decide)
  obtain rfl := kd_46.mp k_gyg
  obtain ⟨e_du, w_du, k_du⟩ := hI.1.2 47 (by decide)
  obtain rfl := kd_47.mp k_du
  obtain ⟨e_dug, w_dug, k_dug⟩ := hI.1.2 48 (by decide)
  obtain rfl := kd_48.mp k_dug
  refine ((C_Ip_charge100F g (ad 0) (ad 1) (ad 5) (ad 18) (ad 31) (ad 32) (ad 36) (ad 42) (ad 45) (ad 47) (ad 49) (ad 50) (ad 51) (ad 43) (ad 44) (ad 46) (ad 48) (ad 37) (ad 38) (ad 39) (ad 40) (ad 41) ((t.1 38).2.1) ((t.1 39).2.1) ((t.1 40).2.1) ((t.1 41).2.1) ((t.1 46).2.1) ((t.1 48).2.1) ((t.1 37).1 0) ((t.1 45).1 0) ((t.1 47).1 0) ((t.1 36).2.1 0) m hw hf).at (hI.1.I [0, 36, 37, 38, 39, 40, 41, 45, 46, 47, 48] _ rfl (by decide) (by decide) (List.forall_mem_cons.mpr ⟨w_a, (List.forall_mem_cons.mpr ⟨w_fu, (List.forall_mem_cons.mpr ⟨w_fub, (List.forall_mem_cons.mpr ⟨w_fubg, (List.forall_mem_cons.mpr ⟨w_fut1, (List.forall_mem_cons.mpr ⟨w_fut2, (List.forall_mem_cons.mpr ⟨w_fut3, (List.forall_mem_cons.mpr ⟨w_gy, (List.forall_mem_cons.mpr ⟨w_gyg, (List.forall_mem_cons.mpr ⟨w_du, (List.forall_mem_cons.mpr ⟨w_dug, (fun _ h => nomatch h)⟩)⟩)⟩)⟩)⟩)⟩)⟩)⟩)⟩)⟩)⟩))).mono (Nat.le_of_ble_eq_true rfl) (Nat.le_of_ble_eq_true rfl) (fun o w1 hp => ?_)
  obtain ⟨cs1, hp, hi9⟩ := hp
  obtain ⟨e1, e2⟩ := hp
  subst e1; subst e2
  exact ⟨rfl, hI.fix (t2 := t) (is := [0, 36, 37, 38, 39, 40, 41, 45, 46, 47, 48]) hi9 rfl ⟨kd_0.mpr rfl, kd_36.mpr rfl, kd_37.mpr rfl, kd_38.mpr rfl, kd_39.mpr rfl, kd_40.mpr rfl, kd_41.mpr rfl, kd_45.mpr rfl, kd_46.mpr rfl, kd_47.mpr rfl, kd_48.mpr rfl, trivial⟩ (by decide) (by decide) (fun _ _ _ => rfl) (fun h => h) rfl⟩
set_option maxHeartbeats 4000000 in
theorem Qx_Ip_charge100G {g : zG} {ad : Nat → Nat} {t : zTT} {u : zNN} {w : zW} (hI : IV g ad t u w) (m : Int32) (hw : (1 ≤ m ∧ m ≤ 1000)) (hf : ¬ ((t.1 47).1 0) < m) (hg : 3000 < ((t.1 37).1 0) + m) : zMB g M_Ip_charge [.ref (ad 0), .int 100, .int m] w (fun o w1 => o = .inr "java/lang/IllegalStateException" ∧ IV g ad t u w1) 1 6 := by
  obtain ⟨e_a, w_a, k_a⟩ := hI.1.2 0 (by decide)
  obtain rfl := kd_0.mp k_a
  obtain ⟨e_fu, w_fu, k_fu⟩ := hI.1.2 36 (by decide)
  obtain rfl := kd_36.mp k_fu
  obtain ⟨e_fub, w_fub, k_fub⟩ := hI.1.2 37 (by decide)
  obtain rfl := kd_37.mp k_fub
  obtain ⟨e_fubg, w_fubg, k_fubg⟩ := hI.1.2 38 (by decide)
  obtain rfl := kd_38.mp k_fubg
  obtain ⟨e_fut1, w_fut1, k_fut1⟩ := hI.1.2 39 (by decide)
  obtain rfl := kd_39.mp k_fut1
  obtain ⟨e_fut2, w_fut2, k_fut2⟩ := hI.1.2 40 (by decide)
  obtain rfl := kd_40.mp k_fut2
  obtain ⟨e_fut3, w_fut3, k_fut3⟩ := hI.1.2 41 (by decide)
  obtain rfl := kd_41.mp k_fut3
  obtain ⟨e_gy, w_gy, k_gy⟩ := hI.1.2 45 (by decide)
  obtain rfl := kd_45.mp k_gy
  obtain ⟨e_gyg, w_gyg, k_gyg⟩ := hI.1.2 46 (by decide)
  obtain rfl := kd_46.mp k_gyg
  obtain ⟨e_du, w_du, k_du⟩ := hI.1.2 47 (by decide)
  obtain rfl := kd_47.mp k_du
  obtain ⟨e_dug, w_dug, k_dug⟩ := hI.1.2 48 (by decide)
  obtain rfl := kd_48.mp k_dug
  refine ((C_Ip_charge100G g (ad 0) (ad 1) (ad 5) (ad 18) (ad 31) (ad 32) (ad 36) (ad 42) (ad 45) (ad 47) (ad 49) (ad 50) (ad 51) (ad 43) (ad 44) (ad 46) (ad 48) (ad 37) (ad 38) (ad 39) (ad 40) (ad 41) ((t.1 38).2.1) ((t.1 39).2.1) ((t.1 40).2.1) ((t.1 41).2.1) ((t.1 46).2.1) ((t.1 48).2.1) ((t.1 37).1 0) ((t.1 45).1 0) ((t.1 47).1 0) ((t.1 36).2.1 0) m hw hf hg).at (hI.1.I [0, 36, 37, 38, 39, 40, 41, 45, 46, 47, 48] _ rfl (by decide) (by decide) (List.forall_mem_cons.mpr ⟨w_a, (List.forall_mem_cons.mpr ⟨w_fu, (List.forall_mem_cons.mpr ⟨w_fub, (List.forall_mem_cons.mpr ⟨w_fubg, (List.forall_mem_cons.mpr ⟨w_fut1, (List.forall_mem_cons.mpr ⟨w_fut2, (List.forall_mem_cons.mpr ⟨w_fut3, (List.forall_mem_cons.mpr ⟨w_gy, (List.forall_mem_cons.mpr ⟨w_gyg, (List.forall_mem_cons.mpr ⟨w_du, (List.forall_mem_cons.mpr ⟨w_dug, (fun _ h => nomatch h)⟩)⟩)⟩)⟩)⟩)⟩)⟩)⟩)⟩)⟩)⟩))).mono (Nat.le_of_ble_eq_true rfl) (Nat.le_of_ble_eq_true rfl) (fun o w1 hp => ?_)
  obtain ⟨cs1, hp, hi9⟩ := hp
  obtain ⟨e1, e2⟩ := hp
  subst e1; subst e2
  exact ⟨rfl, hI.fix (t2 := t) (is := [0, 36, 37, 38, 39, 40, 41, 45, 46, 47, 48]) hi9 rfl ⟨kd_0.mpr rfl, kd_36.mpr rfl, kd_37.mpr rfl, kd_38.mpr rfl, kd_39.mpr rfl, kd_40.mpr rfl, kd_41.mpr rfl, kd_45.mpr rfl, kd_46.mpr rfl, kd_47.mpr rfl, kd_48.mpr rfl, trivial⟩ (by decide) (by decide) (fun _ _ _ => rfl) (fun h => h) rfl⟩
set_option maxHeartbeats 4000000 in
theorem Qx_Ip_charge100N {g : zG} {ad : Nat → Nat} {t : zTT} {u : zNN} {w : zW} (hI : IV g ad t u w) (m : Int32) (hw : (1 ≤ m ∧ m ≤ 1000)) (hf : ¬ ((t.1 47).1 0) < m) (hg : ¬ 3000 < ((t.1 37).1 0) + m) : zMB g M_Ip_charge [.ref (ad 0), .int 100, .int m] w (fun o w1 => o = .inl (some (.int (((t.1 37).1 0) + m))) ∧ IV g ad (zup t.1 [(37, ((upd ((t.1 37).1) 0 (((t.1 37).1 0) + m)), (t.1 37).2.1, (t.1 37).2.2)), (38, ((t.1 38).1, mvT ((t.1 48).2.1) m ((t.1 47).1 0) ((t.1 38).2.1) 4, (t.1 38).2.2)), (47, ((upd ((t.1 47).1) 0 (((t.1 47).1 0) - m)), (t.1 47).2.1, (t.1 47).2.2)), (48, ((t.1 48).1, mvS ((t.1 48).2.1) m ((t.1 47).1 0) 4, (t.1 48).2.2))], t.2) u w1) 1 6 := by
  obtain ⟨e_a, w_a, k_a⟩ := hI.1.2 0 (by decide)
  obtain rfl := kd_0.mp k_a
  obtain ⟨e_fu, w_fu, k_fu⟩ := hI.1.2 36 (by decide)
  obtain rfl := kd_36.mp k_fu
  obtain ⟨e_fub, w_fub, k_fub⟩ := hI.1.2 37 (by decide)
  obtain rfl := kd_37.mp k_fub
  obtain ⟨e_fubg, w_fubg, k_fubg⟩ := hI.1.2 38 (by decide)
  obtain rfl := kd_38.mp k_fubg
  obtain ⟨e_fut1, w_fut1, k_fut1⟩ := hI.1.2 39 (by decide)
  obtain rfl := kd_39.mp k_fut1
  obtain ⟨e_fut2, w_fut2, k_fut2⟩ := hI.1.2 40 (by decide)
  obtain rfl := kd_40.mp k_fut2
  obtain ⟨e_fut3, w_fut3, k_fut3⟩ := hI.1.2 41 (by decide)
  obtain rfl := kd_41.mp k_fut3
  obtain ⟨e_gy, w_gy, k_gy⟩ := hI.1.2 45 (by decide)
  obtain rfl := kd_45.mp k_gy
  obtain ⟨e_gyg, w_gyg, k_gyg⟩ := hI.1.2 46 (by decide)
  obtain rfl := kd_46.mp k_gyg
  obtain ⟨e_du, w_du, k_du⟩ := hI.1.2 47 (by decide)
  obtain rfl := kd_47.mp k_du
  obtain ⟨e_dug, w_dug, k_dug⟩ := hI.1.2 48 (by decide)
  obtain rfl := kd_48.mp k_dug
  refine ((C_Ip_charge100N g (ad 0) (ad 1) (ad 5) (ad 18) (ad 31) (ad 32) (ad 36) (ad 42) (ad 45) (ad 47) (ad 49) (ad 50) (ad 51) (ad 43) (ad 44) (ad 46) (ad 48) (ad 37) (ad 38) (ad 39) (ad 40) (ad 41) ((t.1 38).2.1) ((t.1 39).2.1) ((t.1 40).2.1) ((t.1 41).2.1) ((t.1 46).2.1) ((t.1 48).2.1) ((t.1 37).1 0) ((t.1 45).1 0) ((t.1 47).1 0) ((t.1 36).2.1 0) m hw hf hg (z_ge1 hw.1 hf)).at (hI.1.I [0, 36, 37, 38, 39, 40, 41, 45, 46, 47, 48] _ rfl (by decide) (by decide) (List.forall_mem_cons.mpr ⟨w_a, (List.forall_mem_cons.mpr ⟨w_fu, (List.forall_mem_cons.mpr ⟨w_fub, (List.forall_mem_cons.mpr ⟨w_fubg, (List.forall_mem_cons.mpr ⟨w_fut1, (List.forall_mem_cons.mpr ⟨w_fut2, (List.forall_mem_cons.mpr ⟨w_fut3, (List.forall_mem_cons.mpr ⟨w_gy, (List.forall_mem_cons.mpr ⟨w_gyg, (List.forall_mem_cons.mpr ⟨w_du, (List.forall_mem_cons.mpr ⟨w_dug, (fun _ h => nomatch h)⟩)⟩)⟩)⟩)⟩)⟩)⟩)⟩)⟩)⟩)⟩))).mono (Nat.le_of_ble_eq_true rfl) (Nat.le_of_ble_eq_true rfl) (fun o w1 hp => ?_)
  obtain ⟨cs1, hp, hi9⟩ := hp
  obtain ⟨e1, e2⟩ := hp
  subst e1; subst e2
  exact ⟨rfl, hI.fix (t2 := (zup t.1 [(37, ((upd ((t.1 37).1) 0 (((t.1 37).1 0) + m)), (t.1 37).2.1, (t.1 37).2.2)), (38, ((t.1 38).1, mvT ((t.1 48).2.1) m ((t.1 47).1 0) ((t.1 38).2.1) 4, (t.1 38).2.2)), (47, ((upd ((t.1 47).1) 0 (((t.1 47).1 0) - m)), (t.1 47).2.1, (t.1 47).2.2)), (48, ((t.1 48).1, mvS ((t.1 48).2.1) m ((t.1 47).1 0) 4, (t.1 48).2.2))], t.2)) (is := [0, 36, 37, 38, 39, 40, 41, 45, 46, 47, 48]) hi9 rfl ⟨kd_0.mpr rfl, kd_36.mpr rfl, kd_37.mpr rfl, kd_38.mpr rfl, kd_39.mpr rfl, kd_40.mpr rfl, kd_41.mpr rfl, kd_45.mpr rfl, kd_46.mpr rfl, kd_47.mpr rfl, kd_48.mpr rfl, trivial⟩ (by decide) (by decide) (fun i hi hn => zup_out (fun q => hn ((by decide : ∀ j ∈ ([37, 38, 47, 48] : List Nat), j ∈ ([0, 36, 37, 38, 39, 40, 41, 45, 46, 47, 48] : List Nat)) i q))) (fun h => h) rfl⟩
set_option maxHeartbeats 4000000 in
theorem Qx_Ip_chargeE {g : zG} {ad : Nat → Nat} {t : zTT} {u : zNN} {w : zW} (hI : IV g ad t u w) (m : Int32) (k : Int32) (hw : ¬ (0 ≤ z_ix 1 k ∧ (1 ≤ m ∧ m ≤ 1000))) : zMB g M_Ip_charge [.ref (ad 0), .int k, .int m] w (fun o w1 => o = .inr "java/lang/IllegalArgumentException" ∧ IV g ad t u w1) 1 6 := by
  obtain ⟨e_a, w_a, k_a⟩ := hI.1.2 0 (by decide)
  obtain rfl := kd_0.mp k_a
  obtain ⟨e_fu, w_fu, k_fu⟩ := hI.1.2 36 (by decide)
  obtain rfl := kd_36.mp k_fu
  obtain ⟨e_fub, w_fub, k_fub⟩ := hI.1.2 37 (by decide)
  obtain rfl := kd_37.mp k_fub
  obtain ⟨e_fubg, w_fubg, k_fubg⟩ := hI.1.2 38 (by decide)
  obtain rfl := kd_38.mp k_fubg
  obtain ⟨e_fut1, w_fut1, k_fut1⟩ := hI.1.2 39 (by decide)
  obtain rfl := kd_39.mp k_fut1
  obtain ⟨e_fut2, w_fut2, k_fut2⟩ := hI.1.2 40 (by decide)
  obtain rfl := kd_40.mp k_fut2
  obtain ⟨e_fut3, w_fut3, k_fut3⟩ := hI.1.2 41 (by decide)
  obtain rfl := kd_41.mp k_fut3
  obtain ⟨e_gy, w_gy, k_gy⟩ := hI.1.2 45 (by decide)
  obtain rfl := kd_45.mp k_gy
  obtain ⟨e_gyg, w_gyg, k_gyg⟩ := hI.1.2 46 (by decide)
  obtain rfl := kd_46.mp k_gyg
  obtain ⟨e_du, w_du, k_du⟩ := hI.1.2 47 (by decide)
  obtain rfl := kd_47.mp k_du
  obtain ⟨e_dug, w_dug, k_dug⟩ := hI.1.2 48 (by decide)
  obtain rfl := kd_48.mp k_dug
  refine ((C_Ip_chargeE g (ad 0) (ad 1) (ad 5) (ad 18) (ad 31) (ad 32) (ad 36) (ad 42) (ad 45) (ad 47) (ad 49) (ad 50) (ad 51) (ad 43) (ad 44) (ad 46) (ad 48) (ad 37) (ad 38) (ad 39) (ad 40) (ad 41) ((t.1 38).2.1) ((t.1 39).2.1) ((t.1 40).2.1) ((t.1 41).2.1) ((t.1 46).2.1) ((t.1 48).2.1) ((t.1 37).1 0) ((t.1 45).1 0) ((t.1 47).1 0) ((t.1 36).2.1 0) m k hw).at (hI.1.I [0, 36, 37, 38, 39, 40, 41, 45, 46, 47, 48] _ rfl (by decide) (by decide) (List.forall_mem_cons.mpr ⟨w_a, (List.forall_mem_cons.mpr ⟨w_fu, (List.forall_mem_cons.mpr ⟨w_fub, (List.forall_mem_cons.mpr ⟨w_fubg, (List.forall_mem_cons.mpr ⟨w_fut1, (List.forall_mem_cons.mpr ⟨w_fut2, (List.forall_mem_cons.mpr ⟨w_fut3, (List.forall_mem_cons.mpr ⟨w_gy, (List.forall_mem_cons.mpr ⟨w_gyg, (List.forall_mem_cons.mpr ⟨w_du, (List.forall_mem_cons.mpr ⟨w_dug, (fun _ h => nomatch h)⟩)⟩)⟩)⟩)⟩)⟩)⟩)⟩)⟩)⟩)⟩))).mono (Nat.le_of_ble_eq_true rfl) (Nat.le_of_ble_eq_true rfl) (fun o w1 hp => ?_)
  obtain ⟨cs1, hp, hi9⟩ := hp
  obtain ⟨e1, e2⟩ := hp
  subst e1; subst e2
  exact ⟨rfl, hI.fix (t2 := t) (is := [0, 36, 37, 38, 39, 40, 41, 45, 46, 47, 48]) hi9 rfl ⟨kd_0.mpr rfl, kd_36.mpr rfl, kd_37.mpr rfl, kd_38.mpr rfl, kd_39.mpr rfl, kd_40.mpr rfl, kd_41.mpr rfl, kd_45.mpr rfl, kd_46.mpr rfl, kd_47.mpr rfl, kd_48.mpr rfl, trivial⟩ (by decide) (by decide) (fun _ _ _ => rfl) (fun h => h) rfl⟩
noncomputable def tK_Ip_charge (k m : Int32) (t : zTT) : zTT := (if 0 ≤ z_ix 1 k ∧ (1 ≤ m ∧ m ≤ 1000) then (if k = 112 then (if 3000 < (t.1 37).1 0 + m then t else (zup t.1 [(36, ((t.1 36).1, (vp_updL ((t.1 36).2.1) 0 (((t.1 36).2.1 0) + (m : Int32).toInt64)), (t.1 36).2.2)), (37, ((upd ((t.1 37).1) 0 (((t.1 37).1 0) + m)), (t.1 37).2.1, (t.1 37).2.2)), (38, ((t.1 38).1, lfd ((t.1 38).2.1) (fun e => chS m 0 e / 10) 4, (t.1 38).2.2)), (39, ((t.1 39).1, lfd ((t.1 39).2.1) (fun e => chS m 0 e) 4, (t.1 39).2.2)), (40, ((t.1 40).1, lfd ((t.1 40).2.1) (fun e => chS m 0 e - chS m 0 e / 10 * 10) 4, (t.1 40).2.2))], t.2)) else (if k = 115 then (if 3000 < (t.1 37).1 0 + m then t else (zup t.1 [(36, ((t.1 36).1, (vp_updL ((t.1 36).2.1) 0 (((t.1 36).2.1 0) + (m : Int32).toInt64)), (t.1 36).2.2)), (37, ((upd ((t.1 37).1) 0 (((t.1 37).1 0) + m)), (t.1 37).2.1, (t.1 37).2.2)), (38, ((t.1 38).1, lfd ((t.1 38).2.1) (fun e => chS m 1 e / 10) 4, (t.1 38).2.2)), (39, ((t.1 39).1, lfd ((t.1 39).2.1) (fun e => chS m 1 e) 4, (t.1 39).2.2)), (40, ((t.1 40).1, lfd ((t.1 40).2.1) (fun e => chS m 1 e - chS m 1 e / 10 * 10) 4, (t.1 40).2.2))], t.2)) else (if k = 102 then (if 3000 < (t.1 37).1 0 + m then t else (zup t.1 [(36, ((t.1 36).1, (vp_updL ((t.1 36).2.1) 0 (((t.1 36).2.1 0) + (m : Int32).toInt64)), (t.1 36).2.2)), (37, ((upd ((t.1 37).1) 0 (((t.1 37).1 0) + m)), (t.1 37).2.1, (t.1 37).2.2)), (38, ((t.1 38).1, lfd ((t.1 38).2.1) (fun e => chS m 2 e / 10) 4, (t.1 38).2.2)), (39, ((t.1 39).1, lfd ((t.1 39).2.1) (fun e => chS m 2 e) 4, (t.1 39).2.2)), (40, ((t.1 40).1, lfd ((t.1 40).2.1) (fun e => chS m 2 e - chS m 2 e / 10 * 10) 4, (t.1 40).2.2))], t.2)) else (if k = 107 then (if 3000 < (t.1 37).1 0 + 0 then t else (zup t.1 [(36, ((t.1 36).1, (vp_updL ((t.1 36).2.1) 0 (((t.1 36).2.1 0) + (0 : Int32).toInt64)), (t.1 36).2.2)), (37, ((upd ((t.1 37).1) 0 (((t.1 37).1 0) + 0)), (t.1 37).2.1, (t.1 37).2.2)), (38, ((t.1 38).1, lfd ((t.1 38).2.1) (fun e => chS m 3 e / 10) 4, (t.1 38).2.2)), (39, ((t.1 39).1, lfd ((t.1 39).2.1) (fun e => chS m 3 e) 4, (t.1 39).2.2)), (40, ((t.1 40).1, lfd ((t.1 40).2.1) (fun e => chS m 3 e - chS m 3 e / 10 * 10) 4, (t.1 40).2.2))], t.2)) else (if k = 103 then (if (t.1 45).1 0 < m then t else (if 3000 < (t.1 37).1 0 + m then t else (zup t.1 [(37, ((upd ((t.1 37).1) 0 (((t.1 37).1 0) + m)), (t.1 37).2.1, (t.1 37).2.2)), (38, ((t.1 38).1, mvT ((t.1 46).2.1) m ((t.1 45).1 0) ((t.1 38).2.1) 4, (t.1 38).2.2)), (45, ((upd ((t.1 45).1) 0 (((t.1 45).1 0) - m)), (t.1 45).2.1, (t.1 45).2.2)), (46, ((t.1 46).1, mvS ((t.1 46).2.1) m ((t.1 45).1 0) 4, (t.1 46).2.2))], t.2))) else (if (t.1 47).1 0 < m then t else (if 3000 < (t.1 37).1 0 + m then t else (zup t.1 [(37, ((upd ((t.1 37).1) 0 (((t.1 37).1 0) + m)), (t.1 37).2.1, (t.1 37).2.2)), (38, ((t.1 38).1, mvT ((t.1 48).2.1) m ((t.1 47).1 0) ((t.1 38).2.1) 4, (t.1 38).2.2)), (47, ((upd ((t.1 47).1) 0 (((t.1 47).1 0) - m)), (t.1 47).2.1, (t.1 47).2.2)), (48, ((t.1 48).1, mvS ((t.1 48).2.1) m ((t.1 47).1 0) 4, (t.1 48).2.2))], t.2)))))))) else t)
theorem K_Ip_charge {g : zG} {ad : Nat → Nat} {t : zTT} {u : zNN} {w : zW} (hI : IVm g ad t u w) (k m : Int32) : zMB g M_Ip_charge [.ref (ad 0), .int k, .int m] w (CKx g ad (tK_Ip_charge k m t) u.1 ["java/lang/IllegalArgumentException", "java/lang/UnsupportedOperationException", "java/lang/IllegalStateException"]) 10 300 := by
  obtain ⟨s, hI⟩ := hI
  by_cases hw : 0 ≤ z_ix 1 k ∧ (1 ≤ m ∧ m ≤ 1000)
  · rcases z_ix1 hw.1 with rfl | rfl | rfl | rfl | rfl | rfl
    · by_cases hg : 3000 < (t.1 37).1 0 + m
      · have eT : (tK_Ip_charge 112 m t) = t := by unfold tK_Ip_charge; rw [if_pos hw, if_pos (rfl : (112 : Int32) = 112), if_pos hg]
        rw [eT]
        exact (Qx_Ip_charge112G hI m hw.2 hg).mono (by decide) (by decide) (fun o w1 h => ⟨zri.th h.1 (by simp), u, rfl, ⟨_, h.2⟩⟩)
      · have eT : (tK_Ip_charge 112 m t) = (zup t.1 [(36, ((t.1 36).1, (vp_updL ((t.1 36).2.1) 0 (((t.1 36).2.1 0) + (m : Int32).toInt64)), (t.1 36).2.2)), (37, ((upd ((t.1 37).1) 0 (((t.1 37).1 0) + m)), (t.1 37).2.1, (t.1 37).2.2)), (38, ((t.1 38).1, lfd ((t.1 38).2.1) (fun e => chS m 0 e / 10) 4, (t.1 38).2.2)), (39, ((t.1 39).1, lfd ((t.1 39).2.1) (fun e => chS m 0 e) 4, (t.1 39).2.2)), (40, ((t.1 40).1, lfd ((t.1 40).2.1) (fun e => chS m 0 e - chS m 0 e / 10 * 10) 4, (t.1 40).2.2))], t.2) := by unfold tK_Ip_charge; rw [if_pos hw, if_pos (rfl : (112 : Int32) = 112), if_neg hg]
        rw [eT]
        exact (Qx_Ip_charge112N hI m hw.2 hg).mono (by decide) (by decide) (fun o w1 h => ⟨zri.vl h.1, u, rfl, IVm.zu h.2⟩)
    · by_cases hg : 3000 < (t.1 37).1 0 + m
      · have eT : (tK_Ip_charge 115 m t) = t := by unfold tK_Ip_charge; rw [if_pos hw, if_neg (show ¬ ((115 : Int32) = 112) by decide), if_pos (rfl : (115 : Int32) = 115), if_pos hg]
        rw [eT]
        exact (Qx_Ip_charge115G hI m hw.2 hg).mono (by decide) (by decide) (fun o w1 h => ⟨zri.th h.1 (by simp), u, rfl, ⟨_, h.2⟩⟩)
      · have eT : (tK_Ip_charge 115 m t) = (zup t.1 [(36, ((t.1 36).1, (vp_updL ((t.1 36).2.1) 0 (((t.1 36).2.1 0) + (m : Int32).toInt64)), (t.1 36).2.2)), (37, ((upd ((t.1 37).1) 0 (((t.1 37).1 0) + m)), (t.1 37).2.1, (t.1 37).2.2)), (38, ((t.1 38).1, lfd ((t.1 38).2.1) (fun e => chS m 1 e / 10) 4, (t.1 38).2.2)), (39, ((t.1 39).1, lfd ((t.1 39).2.1) (fun e => chS m 1 e) 4, (t.1 39).2.2)), (40, ((t.1 40).1, lfd ((t.1 40).2.1) (fun e => chS m 1 e - chS m 1 e / 10 * 10) 4, (t.1 40).2.2))], t.2) := by unfold tK_Ip_charge; rw [if_pos hw, if_neg (show ¬ ((115 : Int32) = 112) by decide), if_pos (rfl : (115 : Int32) = 115), if_neg hg]
        rw [eT]
        exact (Qx_Ip_charge115N hI m hw.2 hg).mono (by decide) (by decide) (fun o w1 h => ⟨zri.vl h.1, u, rfl, IVm.zu h.2⟩)
    · by_cases hg : 3000 < (t.1 37).1 0 + m
      · have eT : (tK_Ip_charge 102 m t) = t := by unfold tK_Ip_charge; rw [if_pos hw, if_neg (show ¬ ((102 : Int32) = 112) by decide), if_neg (show ¬ ((102 : Int32) = 115) by decide), if_pos (rfl : (102 : Int32) = 102), if_pos hg]
        rw [eT]
        exact (Qx_Ip_charge102G hI m hw.2 hg).mono (by decide) (by decide) (fun o w1 h => ⟨zri.th h.1 (by simp), u, rfl, ⟨_, h.2⟩⟩)
      · have eT : (tK_Ip_charge 102 m t) = (zup t.1 [(36, ((t.1 36).1, (vp_updL ((t.1 36).2.1) 0 (((t.1 36).2.1 0) + (m : Int32).toInt64)), (t.1 36).2.2)), (37, ((upd ((t.1 37).1) 0 (((t.1 37).1 0) + m)), (t.1 37).2.1, (t.1 37).2.2)), (38, ((t.1 38).1, lfd ((t.1 38).2.1) (fun e => chS m 2 e / 10) 4, (t.1 38).2.2)), (39, ((t.1 39).1, lfd ((t.1 39).2.1) (fun e => chS m 2 e) 4, (t.1 39).2.2)), (40, ((t.1 40).1, lfd ((t.1 40).2.1) (fun e => chS m 2 e - chS m 2 e / 10 * 10) 4, (t.1 40).2.2))], t.2) := by unfold tK_Ip_charge; rw [if_pos hw, if_neg (show ¬ ((102 : Int32) = 112) by decide), if_neg (show ¬ ((102 : Int32) = 115) by decide), if_pos (rfl : (102 : Int32) = 102), if_neg hg]
        rw [eT]
        exact (Qx_Ip_charge102N hI m hw.2 hg).mono (by decide) (by decide) (fun o w1 h => ⟨zri.vl h.1, u, rfl, IVm.zu h.2⟩)
    · by_cases hg : 3000 < (t.1 37).1 0 + 0
      · have eT : (tK_Ip_charge 107 m t) = t := by unfold tK_Ip_charge; rw [if_pos hw, if_neg (show ¬ ((107 : Int32) = 112) by decide), if_neg (show ¬ ((107 : Int32) = 115) by decide), if_neg (show ¬ ((107 : Int32) = 102) by decide), if_pos (rfl : (107 : Int32) = 107), if_pos hg]
        rw [eT]
        exact (Qx_Ip_charge107G hI m hw.2 hg).mono (by decide) (by decide) (fun o w1 h => ⟨zri.th h.1 (by simp), u, rfl, ⟨_, h.2⟩⟩)
      · have eT : (tK_Ip_charge 107 m t) = (zup t.1 [(36, ((t.1 36).1, (vp_updL ((t.1 36).2.1) 0 (((t.1 36).2.1 0) + (0 : Int32).toInt64)), (t.1 36).2.2)), (37, ((upd ((t.1 37).1) 0 (((t.1 37).1 0) + 0)), (t.1 37).2.1, (t.1 37).2.2)), (38, ((t.1 38).1, lfd ((t.1 38).2.1) (fun e => chS m 3 e / 10) 4, (t.1 38).2.2)), (39, ((t.1 39).1, lfd ((t.1 39).2.1) (fun e => chS m 3 e) 4, (t.1 39).2.2)), (40, ((t.1 40).1, lfd ((t.1 40).2.1) (fun e => chS m 3 e - chS m 3 e / 10 * 10) 4, (t.1 40).2.2))], t.2) := by unfold tK_Ip_charge; rw [if_pos hw, if_neg (show ¬ ((107 : Int32) = 112) by decide), if_neg (show ¬ ((107 : Int32) = 115) by decide), if_neg (show ¬ ((107 : Int32) = 102) by decide), if_pos (rfl : (107 : Int32) = 107), if_neg hg]
        rw [eT]
        exact (Qx_Ip_charge107N hI m hw.2 hg).mono (by decide) (by decide) (fun o w1 h => ⟨zri.vl h.1, u, rfl, IVm.zu h.2⟩)
    · by_cases hf : (t.1 45).1 0 < m
      · have eT : (tK_Ip_charge 103 m t) = t := by unfold tK_Ip_charge; rw [if_pos hw, if_neg (show ¬ ((103 : Int32) = 112) by decide), if_neg (show ¬ ((103 : Int32) = 115) by decide), if_neg (show ¬ ((103 : Int32) = 102) by decide), if_neg (show ¬ ((103 : Int32) = 107) by decide), if_pos (rfl : (103 : Int32) = 103), if_pos hf]
        rw [eT]
        exact (Qx_Ip_charge103F hI m hw.2 hf).mono (by decide) (by decide) (fun o w1 h => ⟨zri.th h.1 (by simp), u, rfl, ⟨_, h.2⟩⟩)
      · by_cases hg : 3000 < (t.1 37).1 0 + m
        · have eT : (tK_Ip_charge 103 m t) = t := by unfold tK_Ip_charge; rw [if_pos hw, if_neg (show ¬ ((103 : Int32) = 112) by decide), if_neg (show ¬ ((103 : Int32) = 115) by decide), if_neg (show ¬ ((103 : Int32) = 102) by decide), if_neg (show ¬ ((103 : Int32) = 107) by decide), if_pos (rfl : (103 : Int32) = 103), if_neg hf, if_pos hg]
          rw [eT]
          exact (Qx_Ip_charge103G hI m hw.2 hf hg).mono (by decide) (by decide) (fun o w1 h => ⟨zri.th h.1 (by simp), u, rfl, ⟨_, h.2⟩⟩)
        · have eT : (tK_Ip_charge 103 m t) = (zup t.1 [(37, ((upd ((t.1 37).1) 0 (((t.1 37).1 0) + m)), (t.1 37).2.1, (t.1 37).2.2)), (38, ((t.1 38).1, mvT ((t.1 46).2.1) m ((t.1 45).1 0) ((t.1 38).2.1) 4, (t.1 38).2.2)), (45, ((upd ((t.1 45).1) 0 (((t.1 45).1 0) - m)), (t.1 45).2.1, (t.1 45).2.2)), (46, ((t.1 46).1, mvS ((t.1 46).2.1) m ((t.1 45).1 0) 4, (t.1 46).2.2))], t.2) := by unfold tK_Ip_charge; rw [if_pos hw, if_neg (show ¬ ((103 : Int32) = 112) by decide), if_neg (show ¬ ((103 : Int32) = 115) by decide), if_neg (show ¬ ((103 : Int32) = 102) by decide), if_neg (show ¬ ((103 : Int32) = 107) by decide), if_pos (rfl : (103 : Int32) = 103), if_neg hf, if_neg hg]
          rw [eT]
          exact (Qx_Ip_charge103N hI m hw.2 hf hg).mono (by decide) (by decide) (fun o w1 h => ⟨zri.vl h.1, u, rfl, IVm.zu h.2⟩)
    · by_cases hf : (t.1 47).1 0 < m
      · have eT : (tK_Ip_charge 100 m t) = t := by unfold tK_Ip_charge; rw [if_pos hw, if_neg (show ¬ ((100 : Int32) = 112) by decide), if_neg (show ¬ ((100 : Int32) = 115) by decide), if_neg (show ¬ ((100 : Int32) = 102) by decide), if_neg (show ¬ ((100 : Int32) = 107) by decide), if_neg (show ¬ ((100 : Int32) = 103) by decide), if_pos hf]
        rw [eT]
        exact (Qx_Ip_charge100F hI m hw.2 hf).mono (by decide) (by decide) (fun o w1 h => ⟨zri.th h.1 (by simp), u, rfl, ⟨_, h.2⟩⟩)
      · by_cases hg : 3000 < (t.1 37).1 0 + m
        · have eT : (tK_Ip_charge 100 m t) = t := by unfold tK_Ip_charge; rw [if_pos hw, if_neg (show ¬ ((100 : Int32) = 112) by decide), if_neg (show ¬ ((100 : Int32) = 115) by decide), if_neg (show ¬ ((100 : Int32) = 102) by decide), if_neg (show ¬ ((100 : Int32) = 107) by decide), if_neg (show ¬ ((100 : Int32) = 103) by decide), if_neg hf, if_pos hg]
          rw [eT]
          exact (Qx_Ip_charge100G hI m hw.2 hf hg).mono (by decide) (by decide) (fun o w1 h => ⟨zri.th h.1 (by simp), u, rfl, ⟨_, h.2⟩⟩)
        · have eT : (tK_Ip_charge 100 m t) = (zup t.1 [(37, ((upd ((t.1 37).1) 0 (((t.1 37).1 0) + m)), (t.1 37).2.1, (t.1 37).2.2)), (38, ((t.1 38).1, mvT ((t.1 48).2.1) m ((t.1 47).1 0) ((t.1 38).2.1) 4, (t.1 38).2.2)), (47, ((upd ((t.1 47).1) 0 (((t.1 47).1 0) - m)), (t.1 47).2.1, (t.1 47).2.2)), (48, ((t.1 48).1, mvS ((t.1 48).2.1) m ((t.1 47).1 0) 4, (t.1 48).2.2))], t.2) := by unfold tK_Ip_charge; rw [if_pos hw, if_neg (show ¬ ((100 : Int32) = 112) by decide), if_neg (show ¬ ((100 : Int32) = 115) by decide), if_neg (show ¬ ((100 : Int32) = 102) by decide), if_neg (show ¬ ((100 : Int32) = 107) by decide), if_neg (show ¬ ((100 : Int32) = 103) by decide), if_neg hf, if_neg hg]
          rw [eT]
          exact (Qx_Ip_charge100N hI m hw.2 hf hg).mono (by decide) (by decide) (fun o w1 h => ⟨zri.vl h.1, u, rfl, IVm.zu h.2⟩)
  · have eT : (tK_Ip_charge k m t) = t := by unfold tK_Ip_charge; rw [if_neg hw]
    rw [eT]
    exact (Qx_Ip_chargeE hI m k hw).mono (by decide) (by decide) (fun o w1 h => ⟨zri.th h.1 (by simp), u, rfl, ⟨_, h.2⟩⟩)
set_option maxHeartbeats 4000000 in
theorem Qx_Ip_furnaceE {g : zG} {ad : Nat → Nat} {t : zTT} {u : zNN} {w : zW} (hI : IV g ad t u w) (k : Int32) (hk : z_ix 2 k < 0) : zMB g M_Ip_furnace [.ref (ad 0), .int k] w (fun o w1 => o = .inr "java/lang/IllegalArgumentException" ∧ IV g ad t u w1) 1 6 := by
  obtain ⟨e_a, w_a, k_a⟩ := hI.1.2 0 (by decide)
  obtain rfl := kd_0.mp k_a
  obtain ⟨e_fu, w_fu, k_fu⟩ := hI.1.2 36 (by decide)
  obtain rfl := kd_36.mp k_fu
  obtain ⟨e_fub, w_fub, k_fub⟩ := hI.1.2 37 (by decide)
  obtain rfl := kd_37.mp k_fub
  obtain ⟨e_fubg, w_fubg, k_fubg⟩ := hI.1.2 38 (by decide)
  obtain rfl := kd_38.mp k_fubg
  refine ((C_Ip_furnaceE g (ad 0) (ad 1) (ad 5) (ad 18) (ad 31) (ad 32) (ad 36) (ad 42) (ad 45) (ad 47) (ad 49) (ad 50) (ad 51) (ad 37) (ad 38) (ad 39) (ad 40) (ad 41) ((t.1 38).2.1) ((t.1 37).1 0) ((t.1 36).2.1 0) k hk).at (hI.1.I [0, 36, 37, 38] _ rfl (by decide) (by decide) (List.forall_mem_cons.mpr ⟨w_a, (List.forall_mem_cons.mpr ⟨w_fu, (List.forall_mem_cons.mpr ⟨w_fub, (List.forall_mem_cons.mpr ⟨w_fubg, (fun _ h => nomatch h)⟩)⟩)⟩)⟩))).mono (Nat.le_of_ble_eq_true rfl) (Nat.le_of_ble_eq_true rfl) (fun o w1 hp => ?_)
  obtain ⟨cs1, hp, hi9⟩ := hp
  obtain ⟨e1, e2⟩ := hp
  subst e1; subst e2
  exact ⟨rfl, hI.fix (t2 := t) (is := [0, 36, 37, 38]) hi9 rfl ⟨kd_0.mpr rfl, kd_36.mpr rfl, kd_37.mpr rfl, kd_38.mpr rfl, trivial⟩ (by decide) (by decide) (fun _ _ _ => rfl) (fun h => h) rfl⟩
set_option maxHeartbeats 4000000 in
theorem Qx_Ip_furnaceF {g : zG} {ad : Nat → Nat} {t : zTT} {u : zNN} {w : zW} (hI : IV g ad t u w) (k : Int32) (e : Nat) (he : e < 4) (hk : z_ix 2 k = nI e) (hi : ((t.1 37).1 0) ≤ 0) : zMB g M_Ip_furnace [.ref (ad 0), .int k] w (fun o w1 => o = .inr "java/util/NoSuchElementException" ∧ IV g ad t u w1) 2 12 := by
  obtain ⟨e_a, w_a, k_a⟩ := hI.1.2 0 (by decide)
  obtain rfl := kd_0.mp k_a
  obtain ⟨e_fu, w_fu, k_fu⟩ := hI.1.2 36 (by decide)
  obtain rfl := kd_36.mp k_fu
  obtain ⟨e_fub, w_fub, k_fub⟩ := hI.1.2 37 (by decide)
  obtain rfl := kd_37.mp k_fub
  obtain ⟨e_fubg, w_fubg, k_fubg⟩ := hI.1.2 38 (by decide)
  obtain rfl := kd_38.mp k_fubg
  refine ((C_Ip_furnaceF g (ad 0) (ad 1) (ad 5) (ad 18) (ad 31) (ad 32) (ad 36) (ad 42) (ad 45) (ad 47) (ad 49) (ad 50) (ad 51) (ad 37) (ad 38) (ad 39) (ad 40) (ad 41) ((t.1 38).2.1) ((t.1 37).1 0) ((t.1 36).2.1 0) k e he hk hi).at (hI.1.I [0, 36, 37, 38] _ rfl (by decide) (by decide) (List.forall_mem_cons.mpr ⟨w_a, (List.forall_mem_cons.mpr ⟨w_fu, (List.forall_mem_cons.mpr ⟨w_fub, (List.forall_mem_cons.mpr ⟨w_fubg, (fun _ h => nomatch h)⟩)⟩)⟩)⟩))).mono (Nat.le_of_ble_eq_true rfl) (Nat.le_of_ble_eq_true rfl) (fun o w1 hp => ?_)
  obtain ⟨cs1, hp, hi9⟩ := hp
  obtain ⟨e1, e2⟩ := hp
  subst e1; subst e2
  exact ⟨rfl, hI.fix (t2 := t) (is := [0, 36, 37, 38]) hi9 rfl ⟨kd_0.mpr rfl, kd_36.mpr rfl, kd_37.mpr rfl, kd_38.mpr rfl, trivial⟩ (by decide) (by decide) (fun _ _ _ => rfl) (fun h => h) rfl⟩
set_option maxHeartbeats 4000000 in
theorem Qx_Ip_furnaceN {g : zG} {ad : Nat → Nat} {t : zTT} {u : zNN} {w : zW} (hI : IV g ad t u w) (k : Int32) (e : Nat) (he : e < 4) (hk : z_ix 2 k = nI e) (hi : ¬ ((t.1 37).1 0) ≤ 0) : zMB g M_Ip_furnace [.ref (ad 0), .int k] w (fun o w1 => o = .inl (some (.int (poI ((t.1 38).2.1) ((t.1 37).1 0) e))) ∧ IV g ad t u w1) 2 12 := by
  obtain ⟨e_a, w_a, k_a⟩ := hI.1.2 0 (by decide)
  obtain rfl := kd_0.mp k_a
  obtain ⟨e_fu, w_fu, k_fu⟩ := hI.1.2 36 (by decide)
  obtain rfl := kd_36.mp k_fu
  obtain ⟨e_fub, w_fub, k_fub⟩ := hI.1.2 37 (by decide)
  obtain rfl := kd_37.mp k_fub
  obtain ⟨e_fubg, w_fubg, k_fubg⟩ := hI.1.2 38 (by decide)
  obtain rfl := kd_38.mp k_fubg
  refine ((C_Ip_furnaceN g (ad 0) (ad 1) (ad 5) (ad 18) (ad 31) (ad 32) (ad 36) (ad 42) (ad 45) (ad 47) (ad 49) (ad 50) (ad 51) (ad 37) (ad 38) (ad 39) (ad 40) (ad 41) ((t.1 38).2.1) ((t.1 37).1 0) ((t.1 36).2.1 0) k e he hk hi).at (hI.1.I [0, 36, 37, 38] _ rfl (by decide) (by decide) (List.forall_mem_cons.mpr ⟨w_a, (List.forall_mem_cons.mpr ⟨w_fu, (List.forall_mem_cons.mpr ⟨w_fub, (List.forall_mem_cons.mpr ⟨w_fubg, (fun _ h => nomatch h)⟩)⟩)⟩)⟩))).mono (Nat.le_of_ble_eq_true rfl) (Nat.le_of_ble_eq_true rfl) (fun o w1 hp => ?_)
  obtain ⟨cs1, hp, hi9⟩ := hp
  obtain ⟨e1, e2⟩ := hp
  subst e1; subst e2
  exact ⟨rfl, hI.fix (t2 := t) (is := [0, 36, 37, 38]) hi9 rfl ⟨kd_0.mpr rfl, kd_36.mpr rfl, kd_37.mpr rfl, kd_38.mpr rfl, trivial⟩ (by decide) (by decide) (fun _ _ _ => rfl) (fun h => h) rfl⟩
theorem K_Ip_furnace {g : zG} {ad : Nat → Nat} {t : zTT} {u : zNN} {w : zW} (hI : IVm g ad t u w) (k : Int32) : zMB g M_Ip_furnace [.ref (ad 0), .int k] w (CKx g ad t u.1 ["java/lang/IllegalArgumentException", "java/util/NoSuchElementException"]) 10 300 := by
  obtain ⟨s, hI⟩ := hI
  by_cases hk : z_ix 2 k < 0
  · exact (Qx_Ip_furnaceE hI k hk).mono (by decide) (by decide) (fun o w1 h => ⟨zri.th h.1 (by simp), u, rfl, ⟨_, h.2⟩⟩)
  · obtain ⟨e9, he9, h2⟩ := z_ix2 hk
    by_cases hi : (t.1 37).1 0 ≤ 0
    · exact (Qx_Ip_furnaceF hI k e9 he9 h2 hi).mono (by decide) (by decide) (fun o w1 h => ⟨zri.th h.1 (by simp), u, rfl, ⟨_, h.2⟩⟩)
    · exact (Qx_Ip_furnaceN hI k e9 he9 h2 hi).mono (by decide) (by decide) (fun o w1 h => ⟨zri.vl h.1, u, rfl, ⟨_, h.2⟩⟩)
set_option maxHeartbeats 4000000 in
theorem Qx_Ip_holdN {g : zG} {ad : Nat → Nat} {t : zTT} {u : zNN} {w : zW} (hI : IV g ad t u w) (m : Nat) (hm : m < 1000) (hw : (1 ≤ nI m ∧ nI m ≤ 120)) : zMB g M_Ip_hold [.ref (ad 0), .int (nI m)] w (fun o w1 => o = .inl (some (.int (((lmS (((t.1 38).2.1), ((t.1 41).2.1)) m).1 0).toInt32))) ∧ IV g ad (zup t.1 [(38, ((t.1 38).1, (lmS (((t.1 38).2.1), ((t.1 41).2.1)) m).1, (t.1 38).2.2)), (41, ((t.1 41).1, (lmS (((t.1 38).2.1), ((t.1 41).2.1)) m).2, (t.1 41).2.2))], t.2) u w1) 1 6 := by
  obtain ⟨e_a, w_a, k_a⟩ := hI.1.2 0 (by decide)
  obtain rfl := kd_0.mp k_a
  obtain ⟨e_fu, w_fu, k_fu⟩ := hI.1.2 36 (by decide)
  obtain rfl := kd_36.mp k_fu
  obtain ⟨e_fub, w_fub, k_fub⟩ := hI.1.2 37 (by decide)
  obtain rfl := kd_37.mp k_fub
  obtain ⟨e_fubg, w_fubg, k_fubg⟩ := hI.1.2 38 (by decide)
  obtain rfl := kd_38.mp k_fubg
  obtain ⟨e_fut1, w_fut1, k_fut1⟩ := hI.1.2 39 (by decide)
  obtain rfl := kd_39.mp k_fut1
  obtain ⟨e_fut2, w_fut2, k_fut2⟩ := hI.1.2 40 (by decide)
  obtain rfl := kd_40.mp k_fut2
  obtain ⟨e_fut3, w_fut3, k_fut3⟩ := hI.1.2 41 (by decide)
  obtain rfl := kd_41.mp k_fut3
  refine ((C_Ip_holdN g (ad 0) (ad 1) (ad 5) (ad 18) (ad 31) (ad 32) (ad 36) (ad 42) (ad 45) (ad 47) (ad 49) (ad 50) (ad 51) (ad 37) (ad 38) (ad 39) (ad 40) (ad 41) ((t.1 38).2.1) ((t.1 39).2.1) ((t.1 40).2.1) ((t.1 41).2.1) ((t.1 37).1 0) ((t.1 36).2.1 0) m hm hw).at (hI.1.I [0, 36, 37, 38, 39, 40, 41] _ rfl (by decide) (by decide) (List.forall_mem_cons.mpr ⟨w_a, (List.forall_mem_cons.mpr ⟨w_fu, (List.forall_mem_cons.mpr ⟨w_fub, (List.forall_mem_cons.mpr ⟨w_fubg, (List.forall_mem_cons.mpr ⟨w_fut1, (List.forall_mem_cons.mpr ⟨w_fut2, (List.forall_mem_cons.mpr ⟨w_fut3, (fun _ h => nomatch h)⟩)⟩)⟩)⟩)⟩)⟩)⟩))).mono (Nat.le_of_ble_eq_true rfl) (Nat.le_of_ble_eq_true rfl) (fun o w1 hp => ?_)
  obtain ⟨cs1, hp, hi9⟩ := hp
  obtain ⟨e1, e2⟩ := hp
  subst e1; subst e2
  exact ⟨rfl, hI.fix (t2 := (zup t.1 [(38, ((t.1 38).1, (lmS (((t.1 38).2.1), ((t.1 41).2.1)) m).1, (t.1 38).2.2)), (41, ((t.1 41).1, (lmS (((t.1 38).2.1), ((t.1 41).2.1)) m).2, (t.1 41).2.2))], t.2)) (is := [0, 36, 37, 38, 39, 40, 41]) hi9 rfl ⟨kd_0.mpr rfl, kd_36.mpr rfl, kd_37.mpr rfl, kd_38.mpr rfl, kd_39.mpr rfl, kd_40.mpr rfl, kd_41.mpr rfl, trivial⟩ (by decide) (by decide) (fun i hi hn => zup_out (fun q => hn ((by decide : ∀ j ∈ ([38, 41] : List Nat), j ∈ ([0, 36, 37, 38, 39, 40, 41] : List Nat)) i q))) (fun h => h) rfl⟩
set_option maxHeartbeats 4000000 in
theorem Qx_Ip_holdE {g : zG} {ad : Nat → Nat} {t : zTT} {u : zNN} {w : zW} (hI : IV g ad t u w) (h : Int32) (hw : ¬ (1 ≤ h ∧ h ≤ 120)) : zMB g M_Ip_hold [.ref (ad 0), .int h] w (fun o w1 => o = .inr "java/lang/IllegalArgumentException" ∧ IV g ad t u w1) 1 6 := by
  obtain ⟨e_a, w_a, k_a⟩ := hI.1.2 0 (by decide)
  obtain rfl := kd_0.mp k_a
  obtain ⟨e_fu, w_fu, k_fu⟩ := hI.1.2 36 (by decide)
  obtain rfl := kd_36.mp k_fu
  obtain ⟨e_fub, w_fub, k_fub⟩ := hI.1.2 37 (by decide)
  obtain rfl := kd_37.mp k_fub
  obtain ⟨e_fubg, w_fubg, k_fubg⟩ := hI.1.2 38 (by decide)
  obtain rfl := kd_38.mp k_fubg
  obtain ⟨e_fut1, w_fut1, k_fut1⟩ := hI.1.2 39 (by decide)
  obtain rfl := kd_39.mp k_fut1
  obtain ⟨e_fut2, w_fut2, k_fut2⟩ := hI.1.2 40 (by decide)
  obtain rfl := kd_40.mp k_fut2
  obtain ⟨e_fut3, w_fut3, k_fut3⟩ := hI.1.2 41 (by decide)
  obtain rfl := kd_41.mp k_fut3
  refine ((C_Ip_holdE g (ad 0) (ad 1) (ad 5) (ad 18) (ad 31) (ad 32) (ad 36) (ad 42) (ad 45) (ad 47) (ad 49) (ad 50) (ad 51) (ad 37) (ad 38) (ad 39) (ad 40) (ad 41) ((t.1 38).2.1) ((t.1 39).2.1) ((t.1 40).2.1) ((t.1 41).2.1) ((t.1 37).1 0) ((t.1 36).2.1 0) h hw).at (hI.1.I [0, 36, 37, 38, 39, 40, 41] _ rfl (by decide) (by decide) (List.forall_mem_cons.mpr ⟨w_a, (List.forall_mem_cons.mpr ⟨w_fu, (List.forall_mem_cons.mpr ⟨w_fub, (List.forall_mem_cons.mpr ⟨w_fubg, (List.forall_mem_cons.mpr ⟨w_fut1, (List.forall_mem_cons.mpr ⟨w_fut2, (List.forall_mem_cons.mpr ⟨w_fut3, (fun _ h => nomatch h)⟩)⟩)⟩)⟩)⟩)⟩)⟩))).mono (Nat.le_of_ble_eq_true rfl) (Nat.le_of_ble_eq_true rfl) (fun o w1 hp => ?_)
  obtain ⟨cs1, hp, hi9⟩ := hp
  obtain ⟨e1, e2⟩ := hp
  subst e1; subst e2
  exact ⟨rfl, hI.fix (t2 := t) (is := [0, 36, 37, 38, 39, 40, 41]) hi9 rfl ⟨kd_0.mpr rfl, kd_36.mpr rfl, kd_37.mpr rfl, kd_38.mpr rfl, kd_39.mpr rfl, kd_40.mpr rfl, kd_41.mpr rfl, trivial⟩ (by decide) (by decide) (fun _ _ _ => rfl) (fun h => h) rfl⟩
noncomputable def tK_Ip_hold (x : Int32) (t : zTT) : zTT := (if 1 ≤ x ∧ x ≤ 120 then (zup t.1 [(38, ((t.1 38).1, (lmS (((t.1 38).2.1), ((t.1 41).2.1)) x.toNatClampNeg).1, (t.1 38).2.2)), (41, ((t.1 41).1, (lmS (((t.1 38).2.1), ((t.1 41).2.1)) x.toNatClampNeg).2, (t.1 41).2.2))], t.2) else t)
theorem K_Ip_hold {g : zG} {ad : Nat → Nat} {t : zTT} {u : zNN} {w : zW} (hI : IVm g ad t u w) (x : Int32) : zMB g M_Ip_hold [.ref (ad 0), .int x] w (CKx g ad (tK_Ip_hold x t) u.1 ["java/lang/IllegalArgumentException"]) 10 300 := by
  obtain ⟨s, hI⟩ := hI
  by_cases hw : 1 ≤ x ∧ x ≤ 120
  · obtain ⟨a9, ha9, e9⟩ := z_in20 (b := 120) (by decide) ⟨Int32.le_trans (by decide) hw.1, hw.2⟩
    subst e9
    have eT : (tK_Ip_hold (nI a9) t) = (zup t.1 [(38, ((t.1 38).1, (lmS (((t.1 38).2.1), ((t.1 41).2.1)) a9).1, (t.1 38).2.2)), (41, ((t.1 41).1, (lmS (((t.1 38).2.1), ((t.1 41).2.1)) a9).2, (t.1 41).2.2))], t.2) := by unfold tK_Ip_hold; rw [if_pos hw, nI_clamp (by omega)]
    rw [eT]
    exact (Qx_Ip_holdN hI a9 (by omega) hw).mono (by decide) (by decide) (fun o w1 h => ⟨zri.vl h.1, u, rfl, IVm.zu h.2⟩)
  · have eT : (tK_Ip_hold x t) = t := by unfold tK_Ip_hold; rw [if_neg hw]
    rw [eT]
    exact (Qx_Ip_holdE hI x hw).mono (by decide) (by decide) (fun o w1 h => ⟨zri.th h.1 (by simp), u, rfl, ⟨_, h.2⟩⟩)
set_option maxHeartbeats 4000000 in
theorem Qx_Ip_tapG {g : zG} {ad : Nat → Nat} {t : zTT} {u : zNN} {w : zW} (hI : IV g ad t u w) (m : Int32) (hw : (1 ≤ m ∧ m ≤ 500)) (he0 : ((t.1 43).1 0) = 0) (hg : ((t.1 37).1 0) < m) : zMB g M_Ip_tap [.ref (ad 0), .int m] w (fun o w1 => o = .inr "java/lang/UnsupportedOperationException" ∧ IV g ad t u w1) 1 6 := by
  obtain ⟨e_a, w_a, k_a⟩ := hI.1.2 0 (by decide)
  obtain rfl := kd_0.mp k_a
  obtain ⟨e_la, w_la, k_la⟩ := hI.1.2 42 (by decide)
  obtain ⟨c_la_0, rfl⟩ := kd_42.mp k_la
  obtain ⟨e_lab, w_lab, k_lab⟩ := hI.1.2 43 (by decide)
  obtain ⟨c_lab_0, rfl⟩ := kd_43.mp k_lab
  obtain ⟨e_labg, w_labg, k_labg⟩ := hI.1.2 44 (by decide)
  obtain rfl := kd_44.mp k_labg
  obtain ⟨e_fu, w_fu, k_fu⟩ := hI.1.2 36 (by decide)
  obtain rfl := kd_36.mp k_fu
  obtain ⟨e_fub, w_fub, k_fub⟩ := hI.1.2 37 (by decide)
  obtain rfl := kd_37.mp k_fub
  obtain ⟨e_fubg, w_fubg, k_fubg⟩ := hI.1.2 38 (by decide)
  obtain rfl := kd_38.mp k_fubg
  refine ((C_Ip_tapG g (ad 0) (ad 1) (ad 5) (ad 18) (ad 31) (ad 32) (ad 36) (ad 42) (ad 45) (ad 47) (ad 49) (ad 50) (ad 51) (ad 43) (ad 44) (ad 37) (ad 38) (ad 39) (ad 40) (ad 41) ((t.1 44).2.1) ((t.1 38).2.1) ((t.1 42).1 0) ((t.1 42).1 1) ((t.1 42).1 2) ((t.1 43).1 0) ((t.1 37).1 0) ((t.1 36).2.1 0) m hw he0 hg).at (hI.1.I [0, 42, 43, 44, 36, 37, 38] _ rfl (by decide) (by decide) (List.forall_mem_cons.mpr ⟨w_a, (List.forall_mem_cons.mpr ⟨w_la, (List.forall_mem_cons.mpr ⟨w_lab, (List.forall_mem_cons.mpr ⟨w_labg, (List.forall_mem_cons.mpr ⟨w_fu, (List.forall_mem_cons.mpr ⟨w_fub, (List.forall_mem_cons.mpr ⟨w_fubg, (fun _ h => nomatch h)⟩)⟩)⟩)⟩)⟩)⟩)⟩))).mono (Nat.le_of_ble_eq_true rfl) (Nat.le_of_ble_eq_true rfl) (fun o w1 hp => ?_)
  obtain ⟨cs1, hp, hi9⟩ := hp
  obtain ⟨e1, e2⟩ := hp
  subst e1; subst e2
  exact ⟨rfl, hI.fix (t2 := t) (is := [0, 42, 43, 44, 36, 37, 38]) hi9 rfl ⟨kd_0.mpr rfl, kd_42.mpr ⟨c_la_0, rfl⟩, kd_43.mpr ⟨c_lab_0, rfl⟩, kd_44.mpr rfl, kd_36.mpr rfl, kd_37.mpr rfl, kd_38.mpr rfl, trivial⟩ (by decide) (by decide) (fun _ _ _ => rfl) (fun h => h) rfl⟩
set_option maxHeartbeats 4000000 in
theorem Qx_Ip_tapN {g : zG} {ad : Nat → Nat} {t : zTT} {u : zNN} {w : zW} (hI : IV g ad t u w) (m : Int32) (hw : (1 ≤ m ∧ m ≤ 500)) (he0 : ((t.1 43).1 0) = 0) (hg : ¬ ((t.1 37).1 0) < m) : zMB g M_Ip_tap [.ref (ad 0), .int m] w (fun o w1 => o = .inl (some (.int (((t.1 37).1 0) - m))) ∧ IV g ad (zup t.1 [(42, ((upd (upd (upd ((t.1 42).1) 0 1450) 1 0) 2 0), (t.1 42).2.1, (t.1 42).2.2)), (43, ((upd ((t.1 43).1) 0 (((t.1 43).1 0) + m)), (t.1 43).2.1, (t.1 43).2.2)), (44, ((t.1 44).1, mvT ((t.1 38).2.1) m ((t.1 37).1 0) ((t.1 44).2.1) 4, (t.1 44).2.2)), (37, ((upd ((t.1 37).1) 0 (((t.1 37).1 0) - m)), (t.1 37).2.1, (t.1 37).2.2)), (38, ((t.1 38).1, mvS ((t.1 38).2.1) m ((t.1 37).1 0) 4, (t.1 38).2.2))], t.2) u w1) 1 6 := by
  obtain ⟨e_a, w_a, k_a⟩ := hI.1.2 0 (by decide)
  obtain rfl := kd_0.mp k_a
  obtain ⟨e_la, w_la, k_la⟩ := hI.1.2 42 (by decide)
  obtain ⟨c_la_0, rfl⟩ := kd_42.mp k_la
  obtain ⟨e_lab, w_lab, k_lab⟩ := hI.1.2 43 (by decide)
  obtain ⟨c_lab_0, rfl⟩ := kd_43.mp k_lab
  obtain ⟨e_labg, w_labg, k_labg⟩ := hI.1.2 44 (by decide)
  obtain rfl := kd_44.mp k_labg
  obtain ⟨e_fu, w_fu, k_fu⟩ := hI.1.2 36 (by decide)
  obtain rfl := kd_36.mp k_fu
  obtain ⟨e_fub, w_fub, k_fub⟩ := hI.1.2 37 (by decide)
  obtain rfl := kd_37.mp k_fub
  obtain ⟨e_fubg, w_fubg, k_fubg⟩ := hI.1.2 38 (by decide)
  obtain rfl := kd_38.mp k_fubg
  refine ((C_Ip_tapN g (ad 0) (ad 1) (ad 5) (ad 18) (ad 31) (ad 32) (ad 36) (ad 42) (ad 45) (ad 47) (ad 49) (ad 50) (ad 51) (ad 43) (ad 44) (ad 37) (ad 38) (ad 39) (ad 40) (ad 41) ((t.1 44).2.1) ((t.1 38).2.1) ((t.1 42).1 0) ((t.1 42).1 1) ((t.1 42).1 2) ((t.1 43).1 0) ((t.1 37).1 0) ((t.1 36).2.1 0) m hw he0 hg (z_ge1 hw.1 hg)).at (hI.1.I [0, 42, 43, 44, 36, 37, 38] _ rfl (by decide) (by decide) (List.forall_mem_cons.mpr ⟨w_a, (List.forall_mem_cons.mpr ⟨w_la, (List.forall_mem_cons.mpr ⟨w_lab, (List.forall_mem_cons.mpr ⟨w_labg, (List.forall_mem_cons.mpr ⟨w_fu, (List.forall_mem_cons.mpr ⟨w_fub, (List.forall_mem_cons.mpr ⟨w_fubg, (fun _ h => nomatch h)⟩)⟩)⟩)⟩)⟩)⟩)⟩))).mono (Nat.le_of_ble_eq_true rfl) (Nat.le_of_ble_eq_true rfl) (fun o w1 hp => ?_)
  obtain ⟨cs1, hp, hi9⟩ := hp
  obtain ⟨e1, e2⟩ := hp
  subst e1; subst e2
  exact ⟨rfl, hI.fix (t2 := (zup t.1 [(42, ((upd (upd (upd ((t.1 42).1) 0 1450) 1 0) 2 0), (t.1 42).2.1, (t.1 42).2.2)), (43, ((upd ((t.1 43).1) 0 (((t.1 43).1 0) + m)), (t.1 43).2.1, (t.1 43).2.2)), (44, ((t.1 44).1, mvT ((t.1 38).2.1) m ((t.1 37).1 0) ((t.1 44).2.1) 4, (t.1 44).2.2)), (37, ((upd ((t.1 37).1) 0 (((t.1 37).1 0) - m)), (t.1 37).2.1, (t.1 37).2.2)), (38, ((t.1 38).1, mvS ((t.1 38).2.1) m ((t.1 37).1 0) 4, (t.1 38).2.2))], t.2)) (is := [0, 42, 43, 44, 36, 37, 38]) hi9 rfl ⟨kd_0.mpr rfl, kd_42.mpr ⟨Or.inl rfl, rfl⟩, kd_43.mpr ⟨(show 0 ≤ ((t.1 43).1 0) + m from by rw [he0, Int32.zero_add]; exact Int32.le_trans (by decide) hw.1), rfl⟩, kd_44.mpr rfl, kd_36.mpr rfl, kd_37.mpr rfl, kd_38.mpr rfl, trivial⟩ (by decide) (by decide) (fun i hi hn => zup_out (fun q => hn ((by decide : ∀ j ∈ ([42, 43, 44, 37, 38] : List Nat), j ∈ ([0, 42, 43, 44, 36, 37, 38] : List Nat)) i q))) (fun h => h) rfl⟩
set_option maxHeartbeats 4000000 in
theorem Qx_Ip_tapF {g : zG} {ad : Nat → Nat} {t : zTT} {u : zNN} {w : zW} (hI : IV g ad t u w) (m : Int32) (hw : (1 ≤ m ∧ m ≤ 500)) (he0 : ¬ ((t.1 43).1 0) = 0) : zMB g M_Ip_tap [.ref (ad 0), .int m] w (fun o w1 => o = .inr "java/lang/IllegalStateException" ∧ IV g ad t u w1) 1 6 := by
  obtain ⟨e_a, w_a, k_a⟩ := hI.1.2 0 (by decide)
  obtain rfl := kd_0.mp k_a
  obtain ⟨e_la, w_la, k_la⟩ := hI.1.2 42 (by decide)
  obtain ⟨c_la_0, rfl⟩ := kd_42.mp k_la
  obtain ⟨e_lab, w_lab, k_lab⟩ := hI.1.2 43 (by decide)
  obtain ⟨c_lab_0, rfl⟩ := kd_43.mp k_lab
  obtain ⟨e_labg, w_labg, k_labg⟩ := hI.1.2 44 (by decide)
  obtain rfl := kd_44.mp k_labg
  obtain ⟨e_fu, w_fu, k_fu⟩ := hI.1.2 36 (by decide)
  obtain rfl := kd_36.mp k_fu
  obtain ⟨e_fub, w_fub, k_fub⟩ := hI.1.2 37 (by decide)
  obtain rfl := kd_37.mp k_fub
  obtain ⟨e_fubg, w_fubg, k_fubg⟩ := hI.1.2 38 (by decide)
  obtain rfl := kd_38.mp k_fubg
  refine ((C_Ip_tapF g (ad 0) (ad 1) (ad 5) (ad 18) (ad 31) (ad 32) (ad 36) (ad 42) (ad 45) (ad 47) (ad 49) (ad 50) (ad 51) (ad 43) (ad 44) (ad 37) (ad 38) (ad 39) (ad 40) (ad 41) ((t.1 44).2.1) ((t.1 38).2.1) ((t.1 42).1 0) ((t.1 42).1 1) ((t.1 42).1 2) ((t.1 43).1 0) ((t.1 37).1 0) ((t.1 36).2.1 0) m hw he0).at (hI.1.I [0, 42, 43, 44, 36, 37, 38] _ rfl (by decide) (by decide) (List.forall_mem_cons.mpr ⟨w_a, (List.forall_mem_cons.mpr ⟨w_la, (List.forall_mem_cons.mpr ⟨w_lab, (List.forall_mem_cons.mpr ⟨w_labg, (List.forall_mem_cons.mpr ⟨w_fu, (List.forall_mem_cons.mpr ⟨w_fub, (List.forall_mem_cons.mpr ⟨w_fubg, (fun _ h => nomatch h)⟩)⟩)⟩)⟩)⟩)⟩)⟩))).mono (Nat.le_of_ble_eq_true rfl) (Nat.le_of_ble_eq_true rfl) (fun o w1 hp => ?_)
  obtain ⟨cs1, hp, hi9⟩ := hp
  obtain ⟨e1, e2⟩ := hp
  subst e1; subst e2
  exact ⟨rfl, hI.fix (t2 := t) (is := [0, 42, 43, 44, 36, 37, 38]) hi9 rfl ⟨kd_0.mpr rfl, kd_42.mpr ⟨c_la_0, rfl⟩, kd_43.mpr ⟨c_lab_0, rfl⟩, kd_44.mpr rfl, kd_36.mpr rfl, kd_37.mpr rfl, kd_38.mpr rfl, trivial⟩ (by decide) (by decide) (fun _ _ _ => rfl) (fun h => h) rfl⟩
set_option maxHeartbeats 4000000 in
theorem Qx_Ip_tapE {g : zG} {ad : Nat → Nat} {t : zTT} {u : zNN} {w : zW} (hI : IV g ad t u w) (m : Int32) (hw : ¬ (1 ≤ m ∧ m ≤ 500)) : zMB g M_Ip_tap [.ref (ad 0), .int m] w (fun o w1 => o = .inr "java/lang/IllegalArgumentException" ∧ IV g ad t u w1) 1 6 := by
  obtain ⟨e_a, w_a, k_a⟩ := hI.1.2 0 (by decide)
  obtain rfl := kd_0.mp k_a
  obtain ⟨e_la, w_la, k_la⟩ := hI.1.2 42 (by decide)
  obtain ⟨c_la_0, rfl⟩ := kd_42.mp k_la
  obtain ⟨e_lab, w_lab, k_lab⟩ := hI.1.2 43 (by decide)
  obtain ⟨c_lab_0, rfl⟩ := kd_43.mp k_lab
  obtain ⟨e_labg, w_labg, k_labg⟩ := hI.1.2 44 (by decide)
  obtain rfl := kd_44.mp k_labg
  obtain ⟨e_fu, w_fu, k_fu⟩ := hI.1.2 36 (by decide)
  obtain rfl := kd_36.mp k_fu
  obtain ⟨e_fub, w_fub, k_fub⟩ := hI.1.2 37 (by decide)
  obtain rfl := kd_37.mp k_fub
  obtain ⟨e_fubg, w_fubg, k_fubg⟩ := hI.1.2 38 (by decide)
  obtain rfl := kd_38.mp k_fubg
  refine ((C_Ip_tapE g (ad 0) (ad 1) (ad 5) (ad 18) (ad 31) (ad 32) (ad 36) (ad 42) (ad 45) (ad 47) (ad 49) (ad 50) (ad 51) (ad 43) (ad 44) (ad 37) (ad 38) (ad 39) (ad 40) (ad 41) ((t.1 44).2.1) ((t.1 38).2.1) ((t.1 42).1 0) ((t.1 42).1 1) ((t.1 42).1 2) ((t.1 43).1 0) ((t.1 37).1 0) ((t.1 36).2.1 0) m hw).at (hI.1.I [0, 42, 43, 44, 36, 37, 38] _ rfl (by decide) (by decide) (List.forall_mem_cons.mpr ⟨w_a, (List.forall_mem_cons.mpr ⟨w_la, (List.forall_mem_cons.mpr ⟨w_lab, (List.forall_mem_cons.mpr ⟨w_labg, (List.forall_mem_cons.mpr ⟨w_fu, (List.forall_mem_cons.mpr ⟨w_fub, (List.forall_mem_cons.mpr ⟨w_fubg, (fun _ h => nomatch h)⟩)⟩)⟩)⟩)⟩)⟩)⟩))).mono (Nat.le_of_ble_eq_true rfl) (Nat.le_of_ble_eq_true rfl) (fun o w1 hp => ?_)
  obtain ⟨cs1, hp, hi9⟩ := hp
  obtain ⟨e1, e2⟩ := hp
  subst e1; subst e2
  exact ⟨rfl, hI.fix (t2 := t) (is := [0, 42, 43, 44, 36, 37, 38]) hi9 rfl ⟨kd_0.mpr rfl, kd_42.mpr ⟨c_la_0, rfl⟩, kd_43.mpr ⟨c_lab_0, rfl⟩, kd_44.mpr rfl, kd_36.mpr rfl, kd_37.mpr rfl, kd_38.mpr rfl, trivial⟩ (by decide) (by decide) (fun _ _ _ => rfl) (fun h => h) rfl⟩
noncomputable def tK_Ip_tap (m : Int32) (t : zTT) : zTT := (if 1 ≤ m ∧ m ≤ 500 then (if (t.1 43).1 0 = 0 then (if (t.1 37).1 0 < m then t else (zup t.1 [(42, ((upd (upd (upd ((t.1 42).1) 0 1450) 1 0) 2 0), (t.1 42).2.1, (t.1 42).2.2)), (43, ((upd ((t.1 43).1) 0 (((t.1 43).1 0) + m)), (t.1 43).2.1, (t.1 43).2.2)), (44, ((t.1 44).1, mvT ((t.1 38).2.1) m ((t.1 37).1 0) ((t.1 44).2.1) 4, (t.1 44).2.2)), (37, ((upd ((t.1 37).1) 0 (((t.1 37).1 0) - m)), (t.1 37).2.1, (t.1 37).2.2)), (38, ((t.1 38).1, mvS ((t.1 38).2.1) m ((t.1 37).1 0) 4, (t.1 38).2.2))], t.2)) else t) else t)
theorem K_Ip_tap {g : zG} {ad : Nat → Nat} {t : zTT} {u : zNN} {w : zW} (hI : IVm g ad t u w) (m : Int32) : zMB g M_Ip_tap [.ref (ad 0), .int m] w (CKx g ad (tK_Ip_tap m t) u.1 ["java/lang/IllegalArgumentException", "java/lang/IllegalStateException", "java/lang/UnsupportedOperationException"]) 10 300 := by
  obtain ⟨s, hI⟩ := hI
  by_cases hw : 1 ≤ m ∧ m ≤ 500
  · by_cases he0 : (t.1 43).1 0 = 0
    · by_cases hg : (t.1 37).1 0 < m
      · have eT : (tK_Ip_tap m t) = t := by unfold tK_Ip_tap; rw [if_pos hw, if_pos he0, if_pos hg]
        rw [eT]
        exact (Qx_Ip_tapG hI m hw he0 hg).mono (by decide) (by decide) (fun o w1 h => ⟨zri.th h.1 (by simp), u, rfl, ⟨_, h.2⟩⟩)
      · have eT : (tK_Ip_tap m t) = (zup t.1 [(42, ((upd (upd (upd ((t.1 42).1) 0 1450) 1 0) 2 0), (t.1 42).2.1, (t.1 42).2.2)), (43, ((upd ((t.1 43).1) 0 (((t.1 43).1 0) + m)), (t.1 43).2.1, (t.1 43).2.2)), (44, ((t.1 44).1, mvT ((t.1 38).2.1) m ((t.1 37).1 0) ((t.1 44).2.1) 4, (t.1 44).2.2)), (37, ((upd ((t.1 37).1) 0 (((t.1 37).1 0) - m)), (t.1 37).2.1, (t.1 37).2.2)), (38, ((t.1 38).1, mvS ((t.1 38).2.1) m ((t.1 37).1 0) 4, (t.1 38).2.2))], t.2) := by unfold tK_Ip_tap; rw [if_pos hw, if_pos he0, if_neg hg]
        rw [eT]
        exact (Qx_Ip_tapN hI m hw he0 hg).mono (by decide) (by decide) (fun o w1 h => ⟨zri.vl h.1, u, rfl, IVm.zu h.2⟩)
    · have eT : (tK_Ip_tap m t) = t := by unfold tK_Ip_tap; rw [if_pos hw, if_neg he0]
      rw [eT]
      exact (Qx_Ip_tapF hI m hw he0).mono (by decide) (by decide) (fun o w1 h => ⟨zri.th h.1 (by simp), u, rfl, ⟨_, h.2⟩⟩)
  · have eT : (tK_Ip_tap m t) = t := by unfold tK_Ip_tap; rw [if_neg hw]
    rw [eT]
    exact (Qx_Ip_tapE hI m hw).mono (by decide) (by decide) (fun o w1 h => ⟨zri.th h.1 (by simp), u, rfl, ⟨_, h.2⟩⟩)
set_option maxHeartbeats 4000000 in
theorem Qx_Ip_treatF {g : zG} {ad : Nat → Nat} {t : zTT} {u : zNN} {w : zW} (hI : IV g ad t u w) (m : Int32) (hw : (1 ≤ m ∧ m ≤ 100)) (he0 : ((t.1 43).1 0) = 0) : zMB g M_Ip_treat [.ref (ad 0), .int m] w (fun o w1 => o = .inr "java/lang/IllegalStateException" ∧ IV g ad t u w1) 1 6 := by
  obtain ⟨e_a, w_a, k_a⟩ := hI.1.2 0 (by decide)
  obtain rfl := kd_0.mp k_a
  obtain ⟨e_la, w_la, k_la⟩ := hI.1.2 42 (by decide)
  obtain ⟨c_la_0, rfl⟩ := kd_42.mp k_la
  obtain ⟨e_lab, w_lab, k_lab⟩ := hI.1.2 43 (by decide)
  obtain ⟨c_lab_0, rfl⟩ := kd_43.mp k_lab
  obtain ⟨e_labg, w_labg, k_labg⟩ := hI.1.2 44 (by decide)
  obtain rfl := kd_44.mp k_labg
  refine ((C_Ip_treatF g (ad 0) (ad 1) (ad 5) (ad 18) (ad 31) (ad 32) (ad 36) (ad 42) (ad 45) (ad 47) (ad 49) (ad 50) (ad 51) (ad 43) (ad 44) ((t.1 44).2.1) ((t.1 42).1 0) ((t.1 42).1 1) ((t.1 42).1 2) ((t.1 43).1 0) m hw he0).at (hI.1.I [0, 42, 43, 44] _ rfl (by decide) (by decide) (List.forall_mem_cons.mpr ⟨w_a, (List.forall_mem_cons.mpr ⟨w_la, (List.forall_mem_cons.mpr ⟨w_lab, (List.forall_mem_cons.mpr ⟨w_labg, (fun _ h => nomatch h)⟩)⟩)⟩)⟩))).mono (Nat.le_of_ble_eq_true rfl) (Nat.le_of_ble_eq_true rfl) (fun o w1 hp => ?_)
  obtain ⟨cs1, hp, hi9⟩ := hp
  obtain ⟨e1, e2⟩ := hp
  subst e1; subst e2
  exact ⟨rfl, hI.fix (t2 := t) (is := [0, 42, 43, 44]) hi9 rfl ⟨kd_0.mpr rfl, kd_42.mpr ⟨c_la_0, rfl⟩, kd_43.mpr ⟨c_lab_0, rfl⟩, kd_44.mpr rfl, trivial⟩ (by decide) (by decide) (fun _ _ _ => rfl) (fun h => h) rfl⟩
set_option maxHeartbeats 4000000 in
theorem Qx_Ip_treatN {g : zG} {ad : Nat → Nat} {t : zTT} {u : zNN} {w : zW} (hI : IV g ad t u w) (m : Int32) (hw : (1 ≤ m ∧ m ≤ 100)) (he0 : ¬ ((t.1 43).1 0) = 0) (hg : ((t.1 42).1 1) + m ≤ 100) : zMB g M_Ip_treat [.ref (ad 0), .int m] w (fun o w1 => o = .inl (some (.int (((t.1 42).1 1) + m))) ∧ IV g ad (zup t.1 [(42, ((upd (upd ((t.1 42).1) 1 (((t.1 42).1 1) + m)) 2 (if ((t.1 42).1 1) + m < 20 then ((t.1 42).1 2) else 1)), (t.1 42).2.1, (t.1 42).2.2))], t.2) u w1) 1 6 := by
  obtain ⟨e_a, w_a, k_a⟩ := hI.1.2 0 (by decide)
  obtain rfl := kd_0.mp k_a
  obtain ⟨e_la, w_la, k_la⟩ := hI.1.2 42 (by decide)
  obtain ⟨c_la_0, rfl⟩ := kd_42.mp k_la
  obtain ⟨e_lab, w_lab, k_lab⟩ := hI.1.2 43 (by decide)
  obtain ⟨c_lab_0, rfl⟩ := kd_43.mp k_lab
  obtain ⟨e_labg, w_labg, k_labg⟩ := hI.1.2 44 (by decide)
  obtain rfl := kd_44.mp k_labg
  refine ((C_Ip_treatN g (ad 0) (ad 1) (ad 5) (ad 18) (ad 31) (ad 32) (ad 36) (ad 42) (ad 45) (ad 47) (ad 49) (ad 50) (ad 51) (ad 43) (ad 44) ((t.1 44).2.1) ((t.1 42).1 0) ((t.1 42).1 1) ((t.1 42).1 2) ((t.1 43).1 0) m c_la_0 hw he0 hg).at (hI.1.I [0, 42, 43, 44] _ rfl (by decide) (by decide) (List.forall_mem_cons.mpr ⟨w_a, (List.forall_mem_cons.mpr ⟨w_la, (List.forall_mem_cons.mpr ⟨w_lab, (List.forall_mem_cons.mpr ⟨w_labg, (fun _ h => nomatch h)⟩)⟩)⟩)⟩))).mono (Nat.le_of_ble_eq_true rfl) (Nat.le_of_ble_eq_true rfl) (fun o w1 hp => ?_)
  obtain ⟨cs1, hp, hi9⟩ := hp
  obtain ⟨e1, e2⟩ := hp
  subst e1; subst e2
  exact ⟨rfl, hI.fix (t2 := (zup t.1 [(42, ((upd (upd ((t.1 42).1) 1 (((t.1 42).1 1) + m)) 2 (if ((t.1 42).1 1) + m < 20 then ((t.1 42).1 2) else 1)), (t.1 42).2.1, (t.1 42).2.2))], t.2)) (is := [0, 42, 43, 44]) hi9 rfl ⟨kd_0.mpr rfl, kd_42.mpr ⟨(by show (if (t.1 42).1 1 + m < 20 then (t.1 42).1 2 else 1) = 0 ∨ (if (t.1 42).1 1 + m < 20 then (t.1 42).1 2 else 1) = 1; split; exact c_la_0; exact Or.inr rfl), rfl⟩, kd_43.mpr ⟨c_lab_0, rfl⟩, kd_44.mpr rfl, trivial⟩ (by decide) (by decide) (fun i hi hn => zup_out (fun q => hn ((by decide : ∀ j ∈ ([42] : List Nat), j ∈ ([0, 42, 43, 44] : List Nat)) i q))) (fun h => h) rfl⟩
set_option maxHeartbeats 4000000 in
theorem Qx_Ip_treatG {g : zG} {ad : Nat → Nat} {t : zTT} {u : zNN} {w : zW} (hI : IV g ad t u w) (m : Int32) (hw : (1 ≤ m ∧ m ≤ 100)) (he0 : ¬ ((t.1 43).1 0) = 0) (hg : ¬ ((t.1 42).1 1) + m ≤ 100) : zMB g M_Ip_treat [.ref (ad 0), .int m] w (fun o w1 => o = .inr "java/lang/UnsupportedOperationException" ∧ IV g ad t u w1) 1 6 := by
  obtain ⟨e_a, w_a, k_a⟩ := hI.1.2 0 (by decide)
  obtain rfl := kd_0.mp k_a
  obtain ⟨e_la, w_la, k_la⟩ := hI.1.2 42 (by decide)
  obtain ⟨c_la_0, rfl⟩ := kd_42.mp k_la
  obtain ⟨e_lab, w_lab, k_lab⟩ := hI.1.2 43 (by decide)
  obtain ⟨c_lab_0, rfl⟩ := kd_43.mp k_lab
  obtain ⟨e_labg, w_labg, k_labg⟩ := hI.1.2 44 (by decide)
  obtain rfl := kd_44.mp k_labg
  refine ((C_Ip_treatG g (ad 0) (ad 1) (ad 5) (ad 18) (ad 31) (ad 32) (ad 36) (ad 42) (ad 45) (ad 47) (ad 49) (ad 50) (ad 51) (ad 43) (ad 44) ((t.1 44).2.1) ((t.1 42).1 0) ((t.1 42).1 1) ((t.1 42).1 2) ((t.1 43).1 0) m hw he0 hg).at (hI.1.I [0, 42, 43, 44] _ rfl (by decide) (by decide) (List.forall_mem_cons.mpr ⟨w_a, (List.forall_mem_cons.mpr ⟨w_la, (List.forall_mem_cons.mpr ⟨w_lab, (List.forall_mem_cons.mpr ⟨w_labg, (fun _ h => nomatch h)⟩)⟩)⟩)⟩))).mono (Nat.le_of_ble_eq_true rfl) (Nat.le_of_ble_eq_true rfl) (fun o w1 hp => ?_)
  obtain ⟨cs1, hp, hi9⟩ := hp
  obtain ⟨e1, e2⟩ := hp
  subst e1; subst e2
  exact ⟨rfl, hI.fix (t2 := t) (is := [0, 42, 43, 44]) hi9 rfl ⟨kd_0.mpr rfl, kd_42.mpr ⟨c_la_0, rfl⟩, kd_43.mpr ⟨c_lab_0, rfl⟩, kd_44.mpr rfl, trivial⟩ (by decide) (by decide) (fun _ _ _ => rfl) (fun h => h) rfl⟩
set_option maxHeartbeats 4000000 in
theorem Qx_Ip_treatE {g : zG} {ad : Nat → Nat} {t : zTT} {u : zNN} {w : zW} (hI : IV g ad t u w) (m : Int32) (hw : ¬ (1 ≤ m ∧ m ≤ 100)) : zMB g M_Ip_treat [.ref (ad 0), .int m] w (fun o w1 => o = .inr "java/lang/IllegalArgumentException" ∧ IV g ad t u w1) 1 6 := by
  obtain ⟨e_a, w_a, k_a⟩ := hI.1.2 0 (by decide)
  obtain rfl := kd_0.mp k_a
  obtain ⟨e_la, w_la, k_la⟩ := hI.1.2 42 (by decide)
  obtain ⟨c_la_0, rfl⟩ := kd_42.mp k_la
  obtain ⟨e_lab, w_lab, k_lab⟩ := hI.1.2 43 (by decide)
  obtain ⟨c_lab_0, rfl⟩ := kd_43.mp k_lab
  obtain ⟨e_labg, w_labg, k_labg⟩ := hI.1.2 44 (by decide)
  obtain rfl := kd_44.mp k_labg
  refine ((C_Ip_treatE g (ad 0) (ad 1) (ad 5) (ad 18) (ad 31) (ad 32) (ad 36) (ad 42) (ad 45) (ad 47) (ad 49) (ad 50) (ad 51) (ad 43) (ad 44) ((t.1 44).2.1) ((t.1 42).1 0) ((t.1 42).1 1) ((t.1 42).1 2) ((t.1 43).1 0) m hw).at (hI.1.I [0, 42, 43, 44] _ rfl (by decide) (by decide) (List.forall_mem_cons.mpr ⟨w_a, (List.forall_mem_cons.mpr ⟨w_la, (List.forall_mem_cons.mpr ⟨w_lab, (List.forall_mem_cons.mpr ⟨w_labg, (fun _ h => nomatch h)⟩)⟩)⟩)⟩))).mono (Nat.le_of_ble_eq_true rfl) (Nat.le_of_ble_eq_true rfl) (fun o w1 hp => ?_)
  obtain ⟨cs1, hp, hi9⟩ := hp
  obtain ⟨e1, e2⟩ := hp
  subst e1; subst e2
  exact ⟨rfl, hI.fix (t2 := t) (is := [0, 42, 43, 44]) hi9 rfl ⟨kd_0.mpr rfl, kd_42.mpr ⟨c_la_0, rfl⟩, kd_43.mpr ⟨c_lab_0, rfl⟩, kd_44.mpr rfl, trivial⟩ (by decide) (by decide) (fun _ _ _ => rfl) (fun h => h) rfl⟩
noncomputable def tK_Ip_treat (m : Int32) (t : zTT) : zTT := (if 1 ≤ m ∧ m ≤ 100 then (if (t.1 43).1 0 = 0 then t else (if (t.1 42).1 1 + m ≤ 100 then (zup t.1 [(42, ((upd (upd ((t.1 42).1) 1 (((t.1 42).1 1) + m)) 2 (if ((t.1 42).1 1) + m < 20 then ((t.1 42).1 2) else 1)), (t.1 42).2.1, (t.1 42).2.2))], t.2) else t)) else t)
theorem K_Ip_treat {g : zG} {ad : Nat → Nat} {t : zTT} {u : zNN} {w : zW} (hI : IVm g ad t u w) (m : Int32) : zMB g M_Ip_treat [.ref (ad 0), .int m] w (CKx g ad (tK_Ip_treat m t) u.1 ["java/lang/IllegalArgumentException", "java/lang/IllegalStateException", "java/lang/UnsupportedOperationException"]) 10 300 := by
  obtain ⟨s, hI⟩ := hI
  by_cases hw : 1 ≤ m ∧ m ≤ 100
  · by_cases he0 : (t.1 43).1 0 = 0
    · have eT : (tK_Ip_treat m t) = t := by unfold tK_Ip_treat; rw [if_pos hw, if_pos he0]
      rw [eT]
      exact (Qx_Ip_treatF hI m hw he0).mono (by decide) (by decide) (fun o w1 h => ⟨zri.th h.1 (by simp), u, rfl, ⟨_, h.2⟩⟩)
    · by_cases hg : (t.1 42).1 1 + m ≤ 100
      · have eT : (tK_Ip_treat m t) = (zup t.1 [(42, ((upd (upd ((t.1 42).1) 1 (((t.1 42).1 1) + m)) 2 (if ((t.1 42).1 1) + m < 20 then ((t.1 42).1 2) else 1)), (t.1 42).2.1, (t.1 42).2.2))], t.2) := by unfold tK_Ip_treat; rw [if_pos hw, if_neg he0, if_pos hg]
        rw [eT]
        exact (Qx_Ip_treatN hI m hw he0 hg).mono (by decide) (by decide) (fun o w1 h => ⟨zri.vl h.1, u, rfl, IVm.zu h.2⟩)
      · have eT : (tK_Ip_treat m t) = t := by unfold tK_Ip_treat; rw [if_pos hw, if_neg he0, if_neg hg]
        rw [eT]
        exact (Qx_Ip_treatG hI m hw he0 hg).mono (by decide) (by decide) (fun o w1 h => ⟨zri.th h.1 (by simp), u, rfl, ⟨_, h.2⟩⟩)
  · have eT : (tK_Ip_treat m t) = t := by unfold tK_Ip_treat; rw [if_neg hw]
    rw [eT]
    exact (Qx_Ip_treatE hI m hw).mono (by decide) (by decide) (fun o w1 h => ⟨zri.th h.1 (by simp), u, rfl, ⟨_, h.2⟩⟩)
set_option maxHeartbeats 4000000 in
theorem Qx_Ip_ladleE {g : zG} {ad : Nat → Nat} {t : zTT} {u : zNN} {w : zW} (hI : IV g ad t u w) (w8 : Int32) (hw : z_ix 3 w8 < 0) : zMB g M_Ip_ladle [.ref (ad 0), .int w8] w (fun o w1 => o = .inr "java/lang/IllegalArgumentException" ∧ IV g ad t u w1) 1 6 := by
  obtain ⟨e_a, w_a, k_a⟩ := hI.1.2 0 (by decide)
  obtain rfl := kd_0.mp k_a
  obtain ⟨e_la, w_la, k_la⟩ := hI.1.2 42 (by decide)
  obtain ⟨c_la_0, rfl⟩ := kd_42.mp k_la
  obtain ⟨e_lab, w_lab, k_lab⟩ := hI.1.2 43 (by decide)
  obtain ⟨c_lab_0, rfl⟩ := kd_43.mp k_lab
  obtain ⟨e_labg, w_labg, k_labg⟩ := hI.1.2 44 (by decide)
  obtain rfl := kd_44.mp k_labg
  refine ((C_Ip_ladleE g (ad 0) (ad 1) (ad 5) (ad 18) (ad 31) (ad 32) (ad 36) (ad 42) (ad 45) (ad 47) (ad 49) (ad 50) (ad 51) (ad 43) (ad 44) ((t.1 44).2.1) ((t.1 42).1 0) ((t.1 42).1 1) ((t.1 42).1 2) ((t.1 43).1 0) w8 hw).at (hI.1.I [0, 42, 43, 44] _ rfl (by decide) (by decide) (List.forall_mem_cons.mpr ⟨w_a, (List.forall_mem_cons.mpr ⟨w_la, (List.forall_mem_cons.mpr ⟨w_lab, (List.forall_mem_cons.mpr ⟨w_labg, (fun _ h => nomatch h)⟩)⟩)⟩)⟩))).mono (Nat.le_of_ble_eq_true rfl) (Nat.le_of_ble_eq_true rfl) (fun o w1 hp => ?_)
  obtain ⟨cs1, hp, hi9⟩ := hp
  obtain ⟨e1, e2⟩ := hp
  subst e1; subst e2
  exact ⟨rfl, hI.fix (t2 := t) (is := [0, 42, 43, 44]) hi9 rfl ⟨kd_0.mpr rfl, kd_42.mpr ⟨c_la_0, rfl⟩, kd_43.mpr ⟨c_lab_0, rfl⟩, kd_44.mpr rfl, trivial⟩ (by decide) (by decide) (fun _ _ _ => rfl) (fun h => h) rfl⟩
set_option maxHeartbeats 4000000 in
theorem Qx_Ip_ladle0 {g : zG} {ad : Nat → Nat} {t : zTT} {u : zNN} {w : zW} (hI : IV g ad t u w) (w8 : Int32) (hw : ¬ z_ix 3 w8 < 0) (he0 : ((t.1 43).1 0) = 0) : zMB g M_Ip_ladle [.ref (ad 0), .int w8] w (fun o w1 => o = .inl (some (.int 0)) ∧ IV g ad t u w1) 1 6 := by
  obtain ⟨e_a, w_a, k_a⟩ := hI.1.2 0 (by decide)
  obtain rfl := kd_0.mp k_a
  obtain ⟨e_la, w_la, k_la⟩ := hI.1.2 42 (by decide)
  obtain ⟨c_la_0, rfl⟩ := kd_42.mp k_la
  obtain ⟨e_lab, w_lab, k_lab⟩ := hI.1.2 43 (by decide)
  obtain ⟨c_lab_0, rfl⟩ := kd_43.mp k_lab
  obtain ⟨e_labg, w_labg, k_labg⟩ := hI.1.2 44 (by decide)
  obtain rfl := kd_44.mp k_labg
  refine ((C_Ip_ladle0 g (ad 0) (ad 1) (ad 5) (ad 18) (ad 31) (ad 32) (ad 36) (ad 42) (ad 45) (ad 47) (ad 49) (ad 50) (ad 51) (ad 43) (ad 44) ((t.1 44).2.1) ((t.1 42).1 0) ((t.1 42).1 1) ((t.1 42).1 2) ((t.1 43).1 0) w8 hw he0).at (hI.1.I [0, 42, 43, 44] _ rfl (by decide) (by decide) (List.forall_mem_cons.mpr ⟨w_a, (List.forall_mem_cons.mpr ⟨w_la, (List.forall_mem_cons.mpr ⟨w_lab, (List.forall_mem_cons.mpr ⟨w_labg, (fun _ h => nomatch h)⟩)⟩)⟩)⟩))).mono (Nat.le_of_ble_eq_true rfl) (Nat.le_of_ble_eq_true rfl) (fun o w1 hp => ?_)
  obtain ⟨cs1, hp, hi9⟩ := hp
  obtain ⟨e1, e2⟩ := hp
  subst e1; subst e2
  exact ⟨rfl, hI.fix (t2 := t) (is := [0, 42, 43, 44]) hi9 rfl ⟨kd_0.mpr rfl, kd_42.mpr ⟨c_la_0, rfl⟩, kd_43.mpr ⟨c_lab_0, rfl⟩, kd_44.mpr rfl, trivial⟩ (by decide) (by decide) (fun _ _ _ => rfl) (fun h => h) rfl⟩
set_option maxHeartbeats 4000000 in
theorem Qx_Ip_ladle119 {g : zG} {ad : Nat → Nat} {t : zTT} {u : zNN} {w : zW} (hI : IV g ad t u w) (he0 : ¬ ((t.1 43).1 0) = 0) : zMB g M_Ip_ladle [.ref (ad 0), .int 119] w (fun o w1 => o = .inl (some (.int ((t.1 43).1 0))) ∧ IV g ad t u w1) 1 6 := by
  obtain ⟨e_a, w_a, k_a⟩ := hI.1.2 0 (by decide)
  obtain rfl := kd_0.mp k_a
  obtain ⟨e_la, w_la, k_la⟩ := hI.1.2 42 (by decide)
  obtain ⟨c_la_0, rfl⟩ := kd_42.mp k_la
  obtain ⟨e_lab, w_lab, k_lab⟩ := hI.1.2 43 (by decide)
  obtain ⟨c_lab_0, rfl⟩ := kd_43.mp k_lab
  obtain ⟨e_labg, w_labg, k_labg⟩ := hI.1.2 44 (by decide)
  obtain rfl := kd_44.mp k_labg
  refine ((C_Ip_ladle119 g (ad 0) (ad 1) (ad 5) (ad 18) (ad 31) (ad 32) (ad 36) (ad 42) (ad 45) (ad 47) (ad 49) (ad 50) (ad 51) (ad 43) (ad 44) ((t.1 44).2.1) ((t.1 42).1 0) ((t.1 42).1 1) ((t.1 42).1 2) ((t.1 43).1 0) he0).at (hI.1.I [0, 42, 43, 44] _ rfl (by decide) (by decide) (List.forall_mem_cons.mpr ⟨w_a, (List.forall_mem_cons.mpr ⟨w_la, (List.forall_mem_cons.mpr ⟨w_lab, (List.forall_mem_cons.mpr ⟨w_labg, (fun _ h => nomatch h)⟩)⟩)⟩)⟩))).mono (Nat.le_of_ble_eq_true rfl) (Nat.le_of_ble_eq_true rfl) (fun o w1 hp => ?_)
  obtain ⟨cs1, hp, hi9⟩ := hp
  obtain ⟨e1, e2⟩ := hp
  subst e1; subst e2
  exact ⟨rfl, hI.fix (t2 := t) (is := [0, 42, 43, 44]) hi9 rfl ⟨kd_0.mpr rfl, kd_42.mpr ⟨c_la_0, rfl⟩, kd_43.mpr ⟨c_lab_0, rfl⟩, kd_44.mpr rfl, trivial⟩ (by decide) (by decide) (fun _ _ _ => rfl) (fun h => h) rfl⟩
set_option maxHeartbeats 4000000 in
theorem Qx_Ip_ladle104 {g : zG} {ad : Nat → Nat} {t : zTT} {u : zNN} {w : zW} (hI : IV g ad t u w) (he0 : ¬ ((t.1 43).1 0) = 0) : zMB g M_Ip_ladle [.ref (ad 0), .int 104] w (fun o w1 => o = .inl (some (.int ((t.1 42).1 0))) ∧ IV g ad t u w1) 1 6 := by
  obtain ⟨e_a, w_a, k_a⟩ := hI.1.2 0 (by decide)
  obtain rfl := kd_0.mp k_a
  obtain ⟨e_la, w_la, k_la⟩ := hI.1.2 42 (by decide)
  obtain ⟨c_la_0, rfl⟩ := kd_42.mp k_la
  obtain ⟨e_lab, w_lab, k_lab⟩ := hI.1.2 43 (by decide)
  obtain ⟨c_lab_0, rfl⟩ := kd_43.mp k_lab
  obtain ⟨e_labg, w_labg, k_labg⟩ := hI.1.2 44 (by decide)
  obtain rfl := kd_44.mp k_labg
  refine ((C_Ip_ladle104 g (ad 0) (ad 1) (ad 5) (ad 18) (ad 31) (ad 32) (ad 36) (ad 42) (ad 45) (ad 47) (ad 49) (ad 50) (ad 51) (ad 43) (ad 44) ((t.1 44).2.1) ((t.1 42).1 0) ((t.1 42).1 1) ((t.1 42).1 2) ((t.1 43).1 0) he0).at (hI.1.I [0, 42, 43, 44] _ rfl (by decide) (by decide) (List.forall_mem_cons.mpr ⟨w_a, (List.forall_mem_cons.mpr ⟨w_la, (List.forall_mem_cons.mpr ⟨w_lab, (List.forall_mem_cons.mpr ⟨w_labg, (fun _ h => nomatch h)⟩)⟩)⟩)⟩))).mono (Nat.le_of_ble_eq_true rfl) (Nat.le_of_ble_eq_true rfl) (fun o w1 hp => ?_)
  obtain ⟨cs1, hp, hi9⟩ := hp
  obtain ⟨e1, e2⟩ := hp
  subst e1; subst e2
  exact ⟨rfl, hI.fix (t2 := t) (is := [0, 42, 43, 44]) hi9 rfl ⟨kd_0.mpr rfl, kd_42.mpr ⟨c_la_0, rfl⟩, kd_43.mpr ⟨c_lab_0, rfl⟩, kd_44.mpr rfl, trivial⟩ (by decide) (by decide) (fun _ _ _ => rfl) (fun h => h) rfl⟩
set_option maxHeartbeats 4000000 in
theorem Qx_Ip_ladle109 {g : zG} {ad : Nat → Nat} {t : zTT} {u : zNN} {w : zW} (hI : IV g ad t u w) (he0 : ¬ ((t.1 43).1 0) = 0) : zMB g M_Ip_ladle [.ref (ad 0), .int 109] w (fun o w1 => o = .inl (some (.int ((t.1 42).1 1))) ∧ IV g ad t u w1) 1 6 := by
  obtain ⟨e_a, w_a, k_a⟩ := hI.1.2 0 (by decide)
  obtain rfl := kd_0.mp k_a
  obtain ⟨e_la, w_la, k_la⟩ := hI.1.2 42 (by decide)
  obtain ⟨c_la_0, rfl⟩ := kd_42.mp k_la
  obtain ⟨e_lab, w_lab, k_lab⟩ := hI.1.2 43 (by decide)
  obtain ⟨c_lab_0, rfl⟩ := kd_43.mp k_lab
  obtain ⟨e_labg, w_labg, k_labg⟩ := hI.1.2 44 (by decide)
  obtain rfl := kd_44.mp k_labg
  refine ((C_Ip_ladle109 g (ad 0) (ad 1) (ad 5) (ad 18) (ad 31) (ad 32) (ad 36) (ad 42) (ad 45) (ad 47) (ad 49) (ad 50) (ad 51) (ad 43) (ad 44) ((t.1 44).2.1) ((t.1 42).1 0) ((t.1 42).1 1) ((t.1 42).1 2) ((t.1 43).1 0) he0).at (hI.1.I [0, 42, 43, 44] _ rfl (by decide) (by decide) (List.forall_mem_cons.mpr ⟨w_a, (List.forall_mem_cons.mpr ⟨w_la, (List.forall_mem_cons.mpr ⟨w_lab, (List.forall_mem_cons.mpr ⟨w_labg, (fun _ h => nomatch h)⟩)⟩)⟩)⟩))).mono (Nat.le_of_ble_eq_true rfl) (Nat.le_of_ble_eq_true rfl) (fun o w1 hp => ?_)
  obtain ⟨cs1, hp, hi9⟩ := hp
  obtain ⟨e1, e2⟩ := hp
  subst e1; subst e2
  exact ⟨rfl, hI.fix (t2 := t) (is := [0, 42, 43, 44]) hi9 rfl ⟨kd_0.mpr rfl, kd_42.mpr ⟨c_la_0, rfl⟩, kd_43.mpr ⟨c_lab_0, rfl⟩, kd_44.mpr rfl, trivial⟩ (by decide) (by decide) (fun _ _ _ => rfl) (fun h => h) rfl⟩
theorem K_Ip_ladle {g : zG} {ad : Nat → Nat} {t : zTT} {u : zNN} {w : zW} (hI : IVm g ad t u w) (c : Int32) : zMB g M_Ip_ladle [.ref (ad 0), .int c] w (CKx g ad t u.1 ["java/lang/IllegalArgumentException"]) 10 300 := by
  obtain ⟨s, hI⟩ := hI
  by_cases hw : z_ix 3 c < 0
  · exact (Qx_Ip_ladleE hI c hw).mono (by decide) (by decide) (fun o w1 h => ⟨zri.th h.1 (by simp), u, rfl, ⟨_, h.2⟩⟩)
  · by_cases he0 : (t.1 43).1 0 = 0
    · exact (Qx_Ip_ladle0 hI c hw he0).mono (by decide) (by decide) (fun o w1 h => ⟨zri.vl h.1, u, rfl, ⟨_, h.2⟩⟩)
    · rcases z_ix3 (Int32.not_lt.mp hw) with rfl | rfl | rfl
      · exact (Qx_Ip_ladle119 hI he0).mono (by decide) (by decide) (fun o w1 h => ⟨zri.vl h.1, u, rfl, ⟨_, h.2⟩⟩)
      · exact (Qx_Ip_ladle104 hI he0).mono (by decide) (by decide) (fun o w1 h => ⟨zri.vl h.1, u, rfl, ⟨_, h.2⟩⟩)
      · exact (Qx_Ip_ladle109 hI he0).mono (by decide) (by decide) (fun o w1 h => ⟨zri.vl h.1, u, rfl, ⟨_, h.2⟩⟩)
set_option maxHeartbeats 4000000 in
theorem Qx_Ip_pigE {g : zG} {ad : Nat → Nat} {t : zTT} {u : zNN} {w : zW} (hI : IV g ad t u w) (he0 : ((t.1 43).1 0) = 0) : zMB g M_Ip_pig [.ref (ad 0)] w (fun o w1 => o = .inr "java/lang/IllegalStateException" ∧ IV g ad t u w1) 1 6 := by
  obtain ⟨e_a, w_a, k_a⟩ := hI.1.2 0 (by decide)
  obtain rfl := kd_0.mp k_a
  obtain ⟨e_la, w_la, k_la⟩ := hI.1.2 42 (by decide)
  obtain ⟨c_la_0, rfl⟩ := kd_42.mp k_la
  obtain ⟨e_lab, w_lab, k_lab⟩ := hI.1.2 43 (by decide)
  obtain ⟨c_lab_0, rfl⟩ := kd_43.mp k_lab
  obtain ⟨e_labg, w_labg, k_labg⟩ := hI.1.2 44 (by decide)
  obtain rfl := kd_44.mp k_labg
  obtain ⟨e_gy, w_gy, k_gy⟩ := hI.1.2 45 (by decide)
  obtain rfl := kd_45.mp k_gy
  obtain ⟨e_gyg, w_gyg, k_gyg⟩ := hI.1.2 46 (by decide)
  obtain rfl := kd_46.mp k_gyg
  obtain ⟨e_du, w_du, k_du⟩ := hI.1.2 47 (by decide)
  obtain rfl := kd_47.mp k_du
  obtain ⟨e_dug, w_dug, k_dug⟩ := hI.1.2 48 (by decide)
  obtain rfl := kd_48.mp k_dug
  refine ((C_Ip_pigE g (ad 0) (ad 1) (ad 5) (ad 18) (ad 31) (ad 32) (ad 36) (ad 42) (ad 45) (ad 47) (ad 49) (ad 50) (ad 51) (ad 43) (ad 44) (ad 46) (ad 48) ((t.1 44).2.1) ((t.1 46).2.1) ((t.1 48).2.1) ((t.1 42).1 0) ((t.1 42).1 1) ((t.1 42).1 2) ((t.1 43).1 0) ((t.1 45).1 0) ((t.1 47).1 0) he0).at (hI.1.I [0, 42, 43, 44, 45, 46, 47, 48] _ rfl (by decide) (by decide) (List.forall_mem_cons.mpr ⟨w_a, (List.forall_mem_cons.mpr ⟨w_la, (List.forall_mem_cons.mpr ⟨w_lab, (List.forall_mem_cons.mpr ⟨w_labg, (List.forall_mem_cons.mpr ⟨w_gy, (List.forall_mem_cons.mpr ⟨w_gyg, (List.forall_mem_cons.mpr ⟨w_du, (List.forall_mem_cons.mpr ⟨w_dug, (fun _ h => nomatch h)⟩)⟩)⟩)⟩)⟩)⟩)⟩)⟩))).mono (Nat.le_of_ble_eq_true rfl) (Nat.le_of_ble_eq_true rfl) (fun o w1 hp => ?_)
  obtain ⟨cs1, hp, hi9⟩ := hp
  obtain ⟨e1, e2⟩ := hp
  subst e1; subst e2
  exact ⟨rfl, hI.fix (t2 := t) (is := [0, 42, 43, 44, 45, 46, 47, 48]) hi9 rfl ⟨kd_0.mpr rfl, kd_42.mpr ⟨c_la_0, rfl⟩, kd_43.mpr ⟨c_lab_0, rfl⟩, kd_44.mpr rfl, kd_45.mpr rfl, kd_46.mpr rfl, kd_47.mpr rfl, kd_48.mpr rfl, trivial⟩ (by decide) (by decide) (fun _ _ _ => rfl) (fun h => h) rfl⟩
set_option maxHeartbeats 4000000 in
theorem Qx_Ip_pigN {g : zG} {ad : Nat → Nat} {t : zTT} {u : zNN} {w : zW} (hI : IV g ad t u w) (he0 : ¬ ((t.1 43).1 0) = 0) (hw : ((t.1 42).1 2) = 0) : zMB g M_Ip_pig [.ref (ad 0)] w (fun o w1 => o = .inl (some (.int ((t.1 43).1 0))) ∧ IV g ad (zup t.1 [(43, ((upd ((t.1 43).1) 0 (((t.1 43).1 0) - ((t.1 43).1 0))), (t.1 43).2.1, (t.1 43).2.2)), (44, ((t.1 44).1, mvS ((t.1 44).2.1) ((t.1 43).1 0) ((t.1 43).1 0) 4, (t.1 44).2.2)), (45, ((upd ((t.1 45).1) 0 (((t.1 45).1 0) + ((t.1 43).1 0))), (t.1 45).2.1, (t.1 45).2.2)), (46, ((t.1 46).1, mvT ((t.1 44).2.1) ((t.1 43).1 0) ((t.1 43).1 0) ((t.1 46).2.1) 4, (t.1 46).2.2))], t.2) u w1) 1 6 := by
  obtain ⟨e_a, w_a, k_a⟩ := hI.1.2 0 (by decide)
  obtain rfl := kd_0.mp k_a
  obtain ⟨e_la, w_la, k_la⟩ := hI.1.2 42 (by decide)
  obtain ⟨c_la_0, rfl⟩ := kd_42.mp k_la
  obtain ⟨e_lab, w_lab, k_lab⟩ := hI.1.2 43 (by decide)
  obtain ⟨c_lab_0, rfl⟩ := kd_43.mp k_lab
  obtain ⟨e_labg, w_labg, k_labg⟩ := hI.1.2 44 (by decide)
  obtain rfl := kd_44.mp k_labg
  obtain ⟨e_gy, w_gy, k_gy⟩ := hI.1.2 45 (by decide)
  obtain rfl := kd_45.mp k_gy
  obtain ⟨e_gyg, w_gyg, k_gyg⟩ := hI.1.2 46 (by decide)
  obtain rfl := kd_46.mp k_gyg
  obtain ⟨e_du, w_du, k_du⟩ := hI.1.2 47 (by decide)
  obtain rfl := kd_47.mp k_du
  obtain ⟨e_dug, w_dug, k_dug⟩ := hI.1.2 48 (by decide)
  obtain rfl := kd_48.mp k_dug
  refine ((C_Ip_pigN g (ad 0) (ad 1) (ad 5) (ad 18) (ad 31) (ad 32) (ad 36) (ad 42) (ad 45) (ad 47) (ad 49) (ad 50) (ad 51) (ad 43) (ad 44) (ad 46) (ad 48) ((t.1 44).2.1) ((t.1 46).2.1) ((t.1 48).2.1) ((t.1 42).1 0) ((t.1 42).1 1) ((t.1 42).1 2) ((t.1 43).1 0) ((t.1 45).1 0) ((t.1 47).1 0) he0 (z_nnz c_lab_0 he0) hw).at (hI.1.I [0, 42, 43, 44, 45, 46, 47, 48] _ rfl (by decide) (by decide) (List.forall_mem_cons.mpr ⟨w_a, (List.forall_mem_cons.mpr ⟨w_la, (List.forall_mem_cons.mpr ⟨w_lab, (List.forall_mem_cons.mpr ⟨w_labg, (List.forall_mem_cons.mpr ⟨w_gy, (List.forall_mem_cons.mpr ⟨w_gyg, (List.forall_mem_cons.mpr ⟨w_du, (List.forall_mem_cons.mpr ⟨w_dug, (fun _ h => nomatch h)⟩)⟩)⟩)⟩)⟩)⟩)⟩)⟩))).mono (Nat.le_of_ble_eq_true rfl) (Nat.le_of_ble_eq_true rfl) (fun o w1 hp => ?_)
  obtain ⟨cs1, hp, hi9⟩ := hp
  obtain ⟨e1, e2⟩ := hp
  subst e1; subst e2
  exact ⟨rfl, hI.fix (t2 := (zup t.1 [(43, ((upd ((t.1 43).1) 0 (((t.1 43).1 0) - ((t.1 43).1 0))), (t.1 43).2.1, (t.1 43).2.2)), (44, ((t.1 44).1, mvS ((t.1 44).2.1) ((t.1 43).1 0) ((t.1 43).1 0) 4, (t.1 44).2.2)), (45, ((upd ((t.1 45).1) 0 (((t.1 45).1 0) + ((t.1 43).1 0))), (t.1 45).2.1, (t.1 45).2.2)), (46, ((t.1 46).1, mvT ((t.1 44).2.1) ((t.1 43).1 0) ((t.1 43).1 0) ((t.1 46).2.1) 4, (t.1 46).2.2))], t.2)) (is := [0, 42, 43, 44, 45, 46, 47, 48]) hi9 rfl ⟨kd_0.mpr rfl, kd_42.mpr ⟨c_la_0, rfl⟩, kd_43.mpr ⟨(show 0 ≤ (t.1 43).1 0 - (t.1 43).1 0 from by rw [Int32.sub_self]; decide), rfl⟩, kd_44.mpr rfl, kd_45.mpr rfl, kd_46.mpr rfl, kd_47.mpr rfl, kd_48.mpr rfl, trivial⟩ (by decide) (by decide) (fun i hi hn => zup_out (fun q => hn ((by decide : ∀ j ∈ ([43, 44, 45, 46] : List Nat), j ∈ ([0, 42, 43, 44, 45, 46, 47, 48] : List Nat)) i q))) (fun h => h) rfl⟩
set_option maxHeartbeats 4000000 in
theorem Qx_Ip_pigD {g : zG} {ad : Nat → Nat} {t : zTT} {u : zNN} {w : zW} (hI : IV g ad t u w) (he0 : ¬ ((t.1 43).1 0) = 0) (hw : ¬ ((t.1 42).1 2) = 0) : zMB g M_Ip_pig [.ref (ad 0)] w (fun o w1 => o = .inl (some (.int ((t.1 43).1 0))) ∧ IV g ad (zup t.1 [(43, ((upd ((t.1 43).1) 0 (((t.1 43).1 0) - ((t.1 43).1 0))), (t.1 43).2.1, (t.1 43).2.2)), (44, ((t.1 44).1, mvS ((t.1 44).2.1) ((t.1 43).1 0) ((t.1 43).1 0) 4, (t.1 44).2.2)), (47, ((upd ((t.1 47).1) 0 (((t.1 47).1 0) + ((t.1 43).1 0))), (t.1 47).2.1, (t.1 47).2.2)), (48, ((t.1 48).1, mvT ((t.1 44).2.1) ((t.1 43).1 0) ((t.1 43).1 0) ((t.1 48).2.1) 4, (t.1 48).2.2))], t.2) u w1) 1 6 := by
  obtain ⟨e_a, w_a, k_a⟩ := hI.1.2 0 (by decide)
  obtain rfl := kd_0.mp k_a
  obtain ⟨e_la, w_la, k_la⟩ := hI.1.2 42 (by decide)
  obtain ⟨c_la_0, rfl⟩ := kd_42.mp k_la
  obtain ⟨e_lab, w_lab, k_lab⟩ := hI.1.2 43 (by decide)
  obtain ⟨c_lab_0, rfl⟩ := kd_43.mp k_lab
  obtain ⟨e_labg, w_labg, k_labg⟩ := hI.1.2 44 (by decide)
  obtain rfl := kd_44.mp k_labg
  obtain ⟨e_gy, w_gy, k_gy⟩ := hI.1.2 45 (by decide)
  obtain rfl := kd_45.mp k_gy
  obtain ⟨e_gyg, w_gyg, k_gyg⟩ := hI.1.2 46 (by decide)
  obtain rfl := kd_46.mp k_gyg
  obtain ⟨e_du, w_du, k_du⟩ := hI.1.2 47 (by decide)
  obtain rfl := kd_47.mp k_du
  obtain ⟨e_dug, w_dug, k_dug⟩ := hI.1.2 48 (by decide)
  obtain rfl := kd_48.mp k_dug
  refine ((C_Ip_pigD g (ad 0) (ad 1) (ad 5) (ad 18) (ad 31) (ad 32) (ad 36) (ad 42) (ad 45) (ad 47) (ad 49) (ad 50) (ad 51) (ad 43) (ad 44) (ad 46) (ad 48) ((t.1 44).2.1) ((t.1 46).2.1) ((t.1 48).2.1) ((t.1 42).1 0) ((t.1 42).1 1) ((t.1 42).1 2) ((t.1 43).1 0) ((t.1 45).1 0) ((t.1 47).1 0) he0 (z_nnz c_lab_0 he0) hw).at (hI.1.I [0, 42, 43, 44, 45, 46, 47, 48] _ rfl (by decide) (by decide) (List.forall_mem_cons.mpr ⟨w_a, (List.forall_mem_cons.mpr ⟨w_la, (List.forall_mem_cons.mpr ⟨w_lab, (List.forall_mem_cons.mpr ⟨w_labg, (List.forall_mem_cons.mpr ⟨w_gy, (List.forall_mem_cons.mpr ⟨w_gyg, (List.forall_mem_cons.mpr ⟨w_du, (List.forall_mem_cons.mpr ⟨w_dug, (fun _ h => nomatch h)⟩)⟩)⟩)⟩)⟩)⟩)⟩)⟩))).mono (Nat.le_of_ble_eq_true rfl) (Nat.le_of_ble_eq_true rfl) (fun o w1 hp => ?_)
  obtain ⟨cs1, hp, hi9⟩ := hp
  obtain ⟨e1, e2⟩ := hp
  subst e1; subst e2
  exact ⟨rfl, hI.fix (t2 := (zup t.1 [(43, ((upd ((t.1 43).1) 0 (((t.1 43).1 0) - ((t.1 43).1 0))), (t.1 43).2.1, (t.1 43).2.2)), (44, ((t.1 44).1, mvS ((t.1 44).2.1) ((t.1 43).1 0) ((t.1 43).1 0) 4, (t.1 44).2.2)), (47, ((upd ((t.1 47).1) 0 (((t.1 47).1 0) + ((t.1 43).1 0))), (t.1 47).2.1, (t.1 47).2.2)), (48, ((t.1 48).1, mvT ((t.1 44).2.1) ((t.1 43).1 0) ((t.1 43).1 0) ((t.1 48).2.1) 4, (t.1 48).2.2))], t.2)) (is := [0, 42, 43, 44, 45, 46, 47, 48]) hi9 rfl ⟨kd_0.mpr rfl, kd_42.mpr ⟨c_la_0, rfl⟩, kd_43.mpr ⟨(show 0 ≤ (t.1 43).1 0 - (t.1 43).1 0 from by rw [Int32.sub_self]; decide), rfl⟩, kd_44.mpr rfl, kd_45.mpr rfl, kd_46.mpr rfl, kd_47.mpr rfl, kd_48.mpr rfl, trivial⟩ (by decide) (by decide) (fun i hi hn => zup_out (fun q => hn ((by decide : ∀ j ∈ ([43, 44, 47, 48] : List Nat), j ∈ ([0, 42, 43, 44, 45, 46, 47, 48] : List Nat)) i q))) (fun h => h) rfl⟩
noncomputable def tK_Ip_pig (t : zTT) : zTT := (if (t.1 43).1 0 = 0 then t else (if (t.1 42).1 2 = 0 then (zup t.1 [(43, ((upd ((t.1 43).1) 0 (((t.1 43).1 0) - ((t.1 43).1 0))), (t.1 43).2.1, (t.1 43).2.2)), (44, ((t.1 44).1, mvS ((t.1 44).2.1) ((t.1 43).1 0) ((t.1 43).1 0) 4, (t.1 44).2.2)), (45, ((upd ((t.1 45).1) 0 (((t.1 45).1 0) + ((t.1 43).1 0))), (t.1 45).2.1, (t.1 45).2.2)), (46, ((t.1 46).1, mvT ((t.1 44).2.1) ((t.1 43).1 0) ((t.1 43).1 0) ((t.1 46).2.1) 4, (t.1 46).2.2))], t.2) else (zup t.1 [(43, ((upd ((t.1 43).1) 0 (((t.1 43).1 0) - ((t.1 43).1 0))), (t.1 43).2.1, (t.1 43).2.2)), (44, ((t.1 44).1, mvS ((t.1 44).2.1) ((t.1 43).1 0) ((t.1 43).1 0) 4, (t.1 44).2.2)), (47, ((upd ((t.1 47).1) 0 (((t.1 47).1 0) + ((t.1 43).1 0))), (t.1 47).2.1, (t.1 47).2.2)), (48, ((t.1 48).1, mvT ((t.1 44).2.1) ((t.1 43).1 0) ((t.1 43).1 0) ((t.1 48).2.1) 4, (t.1 48).2.2))], t.2)))
theorem K_Ip_pig {g : zG} {ad : Nat → Nat} {t : zTT} {u : zNN} {w : zW} (hI : IVm g ad t u w) : zMB g M_Ip_pig [.ref (ad 0)] w (CKx g ad (tK_Ip_pig t) u.1 ["java/lang/IllegalStateException"]) 10 300 := by
  obtain ⟨s, hI⟩ := hI
  by_cases he0 : (t.1 43).1 0 = 0
  · have eT : (tK_Ip_pig t) = t := by unfold tK_Ip_pig; rw [if_pos he0]
    rw [eT]
    exact (Qx_Ip_pigE hI he0).mono (by decide) (by decide) (fun o w1 h => ⟨zri.th h.1 (by simp), u, rfl, ⟨_, h.2⟩⟩)
  · by_cases hw : (t.1 42).1 2 = 0
    · have eT : (tK_Ip_pig t) = (zup t.1 [(43, ((upd ((t.1 43).1) 0 (((t.1 43).1 0) - ((t.1 43).1 0))), (t.1 43).2.1, (t.1 43).2.2)), (44, ((t.1 44).1, mvS ((t.1 44).2.1) ((t.1 43).1 0) ((t.1 43).1 0) 4, (t.1 44).2.2)), (45, ((upd ((t.1 45).1) 0 (((t.1 45).1 0) + ((t.1 43).1 0))), (t.1 45).2.1, (t.1 45).2.2)), (46, ((t.1 46).1, mvT ((t.1 44).2.1) ((t.1 43).1 0) ((t.1 43).1 0) ((t.1 46).2.1) 4, (t.1 46).2.2))], t.2) := by unfold tK_Ip_pig; rw [if_neg he0, if_pos hw]
      rw [eT]
      exact (Qx_Ip_pigN hI he0 hw).mono (by decide) (by decide) (fun o w1 h => ⟨zri.vl h.1, u, rfl, IVm.zu h.2⟩)
    · have eT : (tK_Ip_pig t) = (zup t.1 [(43, ((upd ((t.1 43).1) 0 (((t.1 43).1 0) - ((t.1 43).1 0))), (t.1 43).2.1, (t.1 43).2.2)), (44, ((t.1 44).1, mvS ((t.1 44).2.1) ((t.1 43).1 0) ((t.1 43).1 0) 4, (t.1 44).2.2)), (47, ((upd ((t.1 47).1) 0 (((t.1 47).1 0) + ((t.1 43).1 0))), (t.1 47).2.1, (t.1 47).2.2)), (48, ((t.1 48).1, mvT ((t.1 44).2.1) ((t.1 43).1 0) ((t.1 43).1 0) ((t.1 48).2.1) 4, (t.1 48).2.2))], t.2) := by unfold tK_Ip_pig; rw [if_neg he0, if_neg hw]
      rw [eT]
      exact (Qx_Ip_pigD hI he0 hw).mono (by decide) (by decide) (fun o w1 h => ⟨zri.vl h.1, u, rfl, IVm.zu h.2⟩)
set_option maxHeartbeats 4000000 in
theorem Qx_Ip_pool103 {g : zG} {ad : Nat → Nat} {t : zTT} {u : zNN} {w : zW} (hI : IV g ad t u w) : zMB g M_Ip_pool [.ref (ad 0), .int 103] w (fun o w1 => o = .inl (some (.int ((t.1 45).1 0))) ∧ IV g ad t u w1) 1 6 := by
  obtain ⟨e_a, w_a, k_a⟩ := hI.1.2 0 (by decide)
  obtain rfl := kd_0.mp k_a
  obtain ⟨e_gy, w_gy, k_gy⟩ := hI.1.2 45 (by decide)
  obtain rfl := kd_45.mp k_gy
  obtain ⟨e_gyg, w_gyg, k_gyg⟩ := hI.1.2 46 (by decide)
  obtain rfl := kd_46.mp k_gyg
  refine ((C_Ip_pool103 g (ad 0) (ad 1) (ad 5) (ad 18) (ad 31) (ad 32) (ad 36) (ad 42) (ad 45) (ad 47) (ad 49) (ad 50) (ad 51) (ad 46) ((t.1 46).2.1) ((t.1 45).1 0)).at (hI.1.I [0, 45, 46] _ rfl (by decide) (by decide) (List.forall_mem_cons.mpr ⟨w_a, (List.forall_mem_cons.mpr ⟨w_gy, (List.forall_mem_cons.mpr ⟨w_gyg, (fun _ h => nomatch h)⟩)⟩)⟩))).mono (Nat.le_of_ble_eq_true rfl) (Nat.le_of_ble_eq_true rfl) (fun o w1 hp => ?_)
  obtain ⟨cs1, hp, hi9⟩ := hp
  obtain ⟨e1, e2⟩ := hp
  subst e1; subst e2
  exact ⟨rfl, hI.fix (t2 := t) (is := [0, 45, 46]) hi9 rfl ⟨kd_0.mpr rfl, kd_45.mpr rfl, kd_46.mpr rfl, trivial⟩ (by decide) (by decide) (fun _ _ _ => rfl) (fun h => h) rfl⟩
set_option maxHeartbeats 4000000 in
theorem Qx_Ip_pool100 {g : zG} {ad : Nat → Nat} {t : zTT} {u : zNN} {w : zW} (hI : IV g ad t u w) : zMB g M_Ip_pool [.ref (ad 0), .int 100] w (fun o w1 => o = .inl (some (.int ((t.1 47).1 0))) ∧ IV g ad t u w1) 1 6 := by
  obtain ⟨e_a, w_a, k_a⟩ := hI.1.2 0 (by decide)
  obtain rfl := kd_0.mp k_a
  obtain ⟨e_du, w_du, k_du⟩ := hI.1.2 47 (by decide)
  obtain rfl := kd_47.mp k_du
  obtain ⟨e_dug, w_dug, k_dug⟩ := hI.1.2 48 (by decide)
  obtain rfl := kd_48.mp k_dug
  refine ((C_Ip_pool100 g (ad 0) (ad 1) (ad 5) (ad 18) (ad 31) (ad 32) (ad 36) (ad 42) (ad 45) (ad 47) (ad 49) (ad 50) (ad 51) (ad 48) ((t.1 48).2.1) ((t.1 47).1 0)).at (hI.1.I [0, 47, 48] _ rfl (by decide) (by decide) (List.forall_mem_cons.mpr ⟨w_a, (List.forall_mem_cons.mpr ⟨w_du, (List.forall_mem_cons.mpr ⟨w_dug, (fun _ h => nomatch h)⟩)⟩)⟩))).mono (Nat.le_of_ble_eq_true rfl) (Nat.le_of_ble_eq_true rfl) (fun o w1 hp => ?_)
  obtain ⟨cs1, hp, hi9⟩ := hp
  obtain ⟨e1, e2⟩ := hp
  subst e1; subst e2
  exact ⟨rfl, hI.fix (t2 := t) (is := [0, 47, 48]) hi9 rfl ⟨kd_0.mpr rfl, kd_47.mpr rfl, kd_48.mpr rfl, trivial⟩ (by decide) (by decide) (fun _ _ _ => rfl) (fun h => h) rfl⟩
set_option maxHeartbeats 4000000 in
theorem Qx_Ip_poolE {g : zG} {ad : Nat → Nat} {t : zTT} {u : zNN} {w : zW} (hI : IV g ad t u w) (k : Int32) (h1 : ¬ k = 103) (h2 : ¬ k = 100) : zMB g M_Ip_pool [.ref (ad 0), .int k] w (fun o w1 => o = .inr "java/lang/IllegalArgumentException" ∧ IV g ad t u w1) 1 6 := by
  obtain ⟨e_a, w_a, k_a⟩ := hI.1.2 0 (by decide)
  obtain rfl := kd_0.mp k_a
  refine ((C_Ip_poolE g (ad 0) (ad 1) (ad 5) (ad 18) (ad 31) (ad 32) (ad 36) (ad 42) (ad 45) (ad 47) (ad 49) (ad 50) (ad 51) k h1 h2).at (hI.1.I [0] _ rfl (by decide) (by decide) (List.forall_mem_cons.mpr ⟨w_a, (fun _ h => nomatch h)⟩))).mono (Nat.le_of_ble_eq_true rfl) (Nat.le_of_ble_eq_true rfl) (fun o w1 hp => ?_)
  obtain ⟨cs1, hp, hi9⟩ := hp
  obtain ⟨e1, e2⟩ := hp
  subst e1; subst e2
  exact ⟨rfl, hI.fix (t2 := t) (is := [0]) hi9 rfl ⟨kd_0.mpr rfl, trivial⟩ (by decide) (by decide) (fun _ _ _ => rfl) (fun h => h) rfl⟩
theorem K_Ip_pool {g : zG} {ad : Nat → Nat} {t : zTT} {u : zNN} {w : zW} (hI : IVm g ad t u w) (k : Int32) : zMB g M_Ip_pool [.ref (ad 0), .int k] w (CKx g ad t u.1 ["java/lang/IllegalArgumentException"]) 10 300 := by
  obtain ⟨s, hI⟩ := hI
  by_cases h1 : k = 103
  · subst h1
    exact (Qx_Ip_pool103 hI).mono (by decide) (by decide) (fun o w1 h => ⟨zri.vl h.1, u, rfl, ⟨_, h.2⟩⟩)
  · by_cases h2 : k = 100
    · subst h2
      exact (Qx_Ip_pool100 hI).mono (by decide) (by decide) (fun o w1 h => ⟨zri.vl h.1, u, rfl, ⟨_, h.2⟩⟩)
    · exact (Qx_Ip_poolE hI k h1 h2).mono (by decide) (by decide) (fun o w1 h => ⟨zri.th h.1 (by simp), u, rfl, ⟨_, h.2⟩⟩)
set_option maxHeartbeats 4000000 in
theorem Qx_Ip_poolHas103E {g : zG} {ad : Nat → Nat} {t : zTT} {u : zNN} {w : zW} (hI : IV g ad t u w) (k : Int32) (hk : z_ix 2 k < 0) : zMB g M_Ip_poolHas [.ref (ad 0), .int 103, .int k] w (fun o w1 => o = .inr "java/lang/IllegalArgumentException" ∧ IV g ad t u w1) 1 6 := by
  obtain ⟨e_a, w_a, k_a⟩ := hI.1.2 0 (by decide)
  obtain rfl := kd_0.mp k_a
  obtain ⟨e_gy, w_gy, k_gy⟩ := hI.1.2 45 (by decide)
  obtain rfl := kd_45.mp k_gy
  obtain ⟨e_gyg, w_gyg, k_gyg⟩ := hI.1.2 46 (by decide)
  obtain rfl := kd_46.mp k_gyg
  refine ((C_Ip_poolHas103E g (ad 0) (ad 1) (ad 5) (ad 18) (ad 31) (ad 32) (ad 36) (ad 42) (ad 45) (ad 47) (ad 49) (ad 50) (ad 51) (ad 46) ((t.1 46).2.1) ((t.1 45).1 0) k hk).at (hI.1.I [0, 45, 46] _ rfl (by decide) (by decide) (List.forall_mem_cons.mpr ⟨w_a, (List.forall_mem_cons.mpr ⟨w_gy, (List.forall_mem_cons.mpr ⟨w_gyg, (fun _ h => nomatch h)⟩)⟩)⟩))).mono (Nat.le_of_ble_eq_true rfl) (Nat.le_of_ble_eq_true rfl) (fun o w1 hp => ?_)
  obtain ⟨cs1, hp, hi9⟩ := hp
  obtain ⟨e1, e2⟩ := hp
  subst e1; subst e2
  exact ⟨rfl, hI.fix (t2 := t) (is := [0, 45, 46]) hi9 rfl ⟨kd_0.mpr rfl, kd_45.mpr rfl, kd_46.mpr rfl, trivial⟩ (by decide) (by decide) (fun _ _ _ => rfl) (fun h => h) rfl⟩
set_option maxHeartbeats 4000000 in
theorem Qx_Ip_poolHas103F {g : zG} {ad : Nat → Nat} {t : zTT} {u : zNN} {w : zW} (hI : IV g ad t u w) (k : Int32) (e : Nat) (he : e < 4) (hk : z_ix 2 k = nI e) (hi : ((t.1 45).1 0) ≤ 0) : zMB g M_Ip_poolHas [.ref (ad 0), .int 103, .int k] w (fun o w1 => o = .inr "java/util/NoSuchElementException" ∧ IV g ad t u w1) 2 12 := by
  obtain ⟨e_a, w_a, k_a⟩ := hI.1.2 0 (by decide)
  obtain rfl := kd_0.mp k_a
  obtain ⟨e_gy, w_gy, k_gy⟩ := hI.1.2 45 (by decide)
  obtain rfl := kd_45.mp k_gy
  obtain ⟨e_gyg, w_gyg, k_gyg⟩ := hI.1.2 46 (by decide)
  obtain rfl := kd_46.mp k_gyg
  refine ((C_Ip_poolHas103F g (ad 0) (ad 1) (ad 5) (ad 18) (ad 31) (ad 32) (ad 36) (ad 42) (ad 45) (ad 47) (ad 49) (ad 50) (ad 51) (ad 46) ((t.1 46).2.1) ((t.1 45).1 0) k e he hk hi).at (hI.1.I [0, 45, 46] _ rfl (by decide) (by decide) (List.forall_mem_cons.mpr ⟨w_a, (List.forall_mem_cons.mpr ⟨w_gy, (List.forall_mem_cons.mpr ⟨w_gyg, (fun _ h => nomatch h)⟩)⟩)⟩))).mono (Nat.le_of_ble_eq_true rfl) (Nat.le_of_ble_eq_true rfl) (fun o w1 hp => ?_)
  obtain ⟨cs1, hp, hi9⟩ := hp
  obtain ⟨e1, e2⟩ := hp
  subst e1; subst e2
  exact ⟨rfl, hI.fix (t2 := t) (is := [0, 45, 46]) hi9 rfl ⟨kd_0.mpr rfl, kd_45.mpr rfl, kd_46.mpr rfl, trivial⟩ (by decide) (by decide) (fun _ _ _ => rfl) (fun h => h) rfl⟩
set_option maxHeartbeats 4000000 in
theorem Qx_Ip_poolHas103N {g : zG} {ad : Nat → Nat} {t : zTT} {u : zNN} {w : zW} (hI : IV g ad t u w) (k : Int32) (e : Nat) (he : e < 4) (hk : z_ix 2 k = nI e) (hi : ¬ ((t.1 45).1 0) ≤ 0) : zMB g M_Ip_poolHas [.ref (ad 0), .int 103, .int k] w (fun o w1 => o = .inl (some (.int (poI ((t.1 46).2.1) ((t.1 45).1 0) e))) ∧ IV g ad t u w1) 2 12 := by
  obtain ⟨e_a, w_a, k_a⟩ := hI.1.2 0 (by decide)
  obtain rfl := kd_0.mp k_a
  obtain ⟨e_gy, w_gy, k_gy⟩ := hI.1.2 45 (by decide)
  obtain rfl := kd_45.mp k_gy
  obtain ⟨e_gyg, w_gyg, k_gyg⟩ := hI.1.2 46 (by decide)
  obtain rfl := kd_46.mp k_gyg
  refine ((C_Ip_poolHas103N g (ad 0) (ad 1) (ad 5) (ad 18) (ad 31) (ad 32) (ad 36) (ad 42) (ad 45) (ad 47) (ad 49) (ad 50) (ad 51) (ad 46) ((t.1 46).2.1) ((t.1 45).1 0) k e he hk hi).at (hI.1.I [0, 45, 46] _ rfl (by decide) (by decide) (List.forall_mem_cons.mpr ⟨w_a, (List.forall_mem_cons.mpr ⟨w_gy, (List.forall_mem_cons.mpr ⟨w_gyg, (fun _ h => nomatch h)⟩)⟩)⟩))).mono (Nat.le_of_ble_eq_true rfl) (Nat.le_of_ble_eq_true rfl) (fun o w1 hp => ?_)
  obtain ⟨cs1, hp, hi9⟩ := hp
  obtain ⟨e1, e2⟩ := hp
  subst e1; subst e2
  exact ⟨rfl, hI.fix (t2 := t) (is := [0, 45, 46]) hi9 rfl ⟨kd_0.mpr rfl, kd_45.mpr rfl, kd_46.mpr rfl, trivial⟩ (by decide) (by decide) (fun _ _ _ => rfl) (fun h => h) rfl⟩
set_option maxHeartbeats 4000000 in
theorem Qx_Ip_poolHas100E {g : zG} {ad : Nat → Nat} {t : zTT} {u : zNN} {w : zW} (hI : IV g ad t u w) (k : Int32) (hk : z_ix 2 k < 0) : zMB g M_Ip_poolHas [.ref (ad 0), .int 100, .int k] w (fun o w1 => o = .inr "java/lang/IllegalArgumentException" ∧ IV g ad t u w1) 1 6 := by
  obtain ⟨e_a, w_a, k_a⟩ := hI.1.2 0 (by decide)
  obtain rfl := kd_0.mp k_a
  obtain ⟨e_du, w_du, k_du⟩ := hI.1.2 47 (by decide)
  obtain rfl := kd_47.mp k_du
  obtain ⟨e_dug, w_dug, k_dug⟩ := hI.1.2 48 (by decide)
  obtain rfl := kd_48.mp k_dug
  refine ((C_Ip_poolHas100E g (ad 0) (ad 1) (ad 5) (ad 18) (ad 31) (ad 32) (ad 36) (ad 42) (ad 45) (ad 47) (ad 49) (ad 50) (ad 51) (ad 48) ((t.1 48).2.1) ((t.1 47).1 0) k hk).at (hI.1.I [0, 47, 48] _ rfl (by decide) (by decide) (List.forall_mem_cons.mpr ⟨w_a, (List.forall_mem_cons.mpr ⟨w_du, (List.forall_mem_cons.mpr ⟨w_dug, (fun _ h => nomatch h)⟩)⟩)⟩))).mono (Nat.le_of_ble_eq_true rfl) (Nat.le_of_ble_eq_true rfl) (fun o w1 hp => ?_)
  obtain ⟨cs1, hp, hi9⟩ := hp
  obtain ⟨e1, e2⟩ := hp
  subst e1; subst e2
  exact ⟨rfl, hI.fix (t2 := t) (is := [0, 47, 48]) hi9 rfl ⟨kd_0.mpr rfl, kd_47.mpr rfl, kd_48.mpr rfl, trivial⟩ (by decide) (by decide) (fun _ _ _ => rfl) (fun h => h) rfl⟩
set_option maxHeartbeats 4000000 in
theorem Qx_Ip_poolHas100F {g : zG} {ad : Nat → Nat} {t : zTT} {u : zNN} {w : zW} (hI : IV g ad t u w) (k : Int32) (e : Nat) (he : e < 4) (hk : z_ix 2 k = nI e) (hi : ((t.1 47).1 0) ≤ 0) : zMB g M_Ip_poolHas [.ref (ad 0), .int 100, .int k] w (fun o w1 => o = .inr "java/util/NoSuchElementException" ∧ IV g ad t u w1) 2 12 := by
  obtain ⟨e_a, w_a, k_a⟩ := hI.1.2 0 (by decide)
  obtain rfl := kd_0.mp k_a
  obtain ⟨e_du, w_du, k_du⟩ := hI.1.2 47 (by decide)
  obtain rfl := kd_47.mp k_du
  obtain ⟨e_dug, w_dug, k_dug⟩ := hI.1.2 48 (by decide)
  obtain rfl := kd_48.mp k_dug
  refine ((C_Ip_poolHas100F g (ad 0) (ad 1) (ad 5) (ad 18) (ad 31) (ad 32) (ad 36) (ad 42) (ad 45) (ad 47) (ad 49) (ad 50) (ad 51) (ad 48) ((t.1 48).2.1) ((t.1 47).1 0) k e he hk hi).at (hI.1.I [0, 47, 48] _ rfl (by decide) (by decide) (List.forall_mem_cons.mpr ⟨w_a, (List.forall_mem_cons.mpr ⟨w_du, (List.forall_mem_cons.mpr ⟨w_dug, (fun _ h => nomatch h)⟩)⟩)⟩))).mono (Nat.le_of_ble_eq_true rfl) (Nat.le_of_ble_eq_true rfl) (fun o w1 hp => ?_)
  obtain ⟨cs1, hp, hi9⟩ := hp
  obtain ⟨e1, e2⟩ := hp
  subst e1; subst e2
  exact ⟨rfl, hI.fix (t2 := t) (is := [0, 47, 48]) hi9 rfl ⟨kd_0.mpr rfl, kd_47.mpr rfl, kd_48.mpr rfl, trivial⟩ (by decide) (by decide) (fun _ _ _ => rfl) (fun h => h) rfl⟩
set_option maxHeartbeats 4000000 in
theorem Qx_Ip_poolHas100N {g : zG} {ad : Nat → Nat} {t : zTT} {u : zNN} {w : zW} (hI : IV g ad t u w) (k : Int32) (e : Nat) (he : e < 4) (hk : z_ix 2 k = nI e) (hi : ¬ ((t.1 47).1 0) ≤ 0) : zMB g M_Ip_poolHas [.ref (ad 0), .int 100, .int k] w (fun o w1 => o = .inl (some (.int (poI ((t.1 48).2.1) ((t.1 47).1 0) e))) ∧ IV g ad t u w1) 2 12 := by
  obtain ⟨e_a, w_a, k_a⟩ := hI.1.2 0 (by decide)
  obtain rfl := kd_0.mp k_a
  obtain ⟨e_du, w_du, k_du⟩ := hI.1.2 47 (by decide)
  obtain rfl := kd_47.mp k_du
  obtain ⟨e_dug, w_dug, k_dug⟩ := hI.1.2 48 (by decide)
  obtain rfl := kd_48.mp k_dug
  refine ((C_Ip_poolHas100N g (ad 0) (ad 1) (ad 5) (ad 18) (ad 31) (ad 32) (ad 36) (ad 42) (ad 45) (ad 47) (ad 49) (ad 50) (ad 51) (ad 48) ((t.1 48).2.1) ((t.1 47).1 0) k e he hk hi).at (hI.1.I [0, 47, 48] _ rfl (by decide) (by decide) (List.forall_mem_cons.mpr ⟨w_a, (List.forall_mem_cons.mpr ⟨w_du, (List.forall_mem_cons.mpr ⟨w_dug, (fun _ h => nomatch h)⟩)⟩)⟩))).mono (Nat.le_of_ble_eq_true rfl) (Nat.le_of_ble_eq_true rfl) (fun o w1 hp => ?_)
  obtain ⟨cs1, hp, hi9⟩ := hp
  obtain ⟨e1, e2⟩ := hp
  subst e1; subst e2
  exact ⟨rfl, hI.fix (t2 := t) (is := [0, 47, 48]) hi9 rfl ⟨kd_0.mpr rfl, kd_47.mpr rfl, kd_48.mpr rfl, trivial⟩ (by decide) (by decide) (fun _ _ _ => rfl) (fun h => h) rfl⟩
set_option maxHeartbeats 4000000 in
theorem Qx_Ip_poolHasE {g : zG} {ad : Nat → Nat} {t : zTT} {u : zNN} {w : zW} (hI : IV g ad t u w) (k : Int32) (k2 : Int32) (h1 : ¬ k = 103) (h2 : ¬ k = 100) : zMB g M_Ip_poolHas [.ref (ad 0), .int k, .int k2] w (fun o w1 => o = .inr "java/lang/IllegalArgumentException" ∧ IV g ad t u w1) 1 6 := by
  obtain ⟨e_a, w_a, k_a⟩ := hI.1.2 0 (by decide)
  obtain rfl := kd_0.mp k_a
  refine ((C_Ip_poolHasE g (ad 0) (ad 1) (ad 5) (ad 18) (ad 31) (ad 32) (ad 36) (ad 42) (ad 45) (ad 47) (ad 49) (ad 50) (ad 51) k k2 h1 h2).at (hI.1.I [0] _ rfl (by decide) (by decide) (List.forall_mem_cons.mpr ⟨w_a, (fun _ h => nomatch h)⟩))).mono (Nat.le_of_ble_eq_true rfl) (Nat.le_of_ble_eq_true rfl) (fun o w1 hp => ?_)
  obtain ⟨cs1, hp, hi9⟩ := hp
  obtain ⟨e1, e2⟩ := hp
  subst e1; subst e2
  exact ⟨rfl, hI.fix (t2 := t) (is := [0]) hi9 rfl ⟨kd_0.mpr rfl, trivial⟩ (by decide) (by decide) (fun _ _ _ => rfl) (fun h => h) rfl⟩
set_option maxHeartbeats 4000000 in
theorem Qx_Ip_leastCostF {g : zG} {ad : Nat → Nat} {t : zTT} {u : zNN} {w : zW} (hI : IV g ad t u w) (le : Int32) (mo : Int32) (si : Int32) (pp : Int32) (ps : Int32) (pa_ : Int32) (hw : ((0 ≤ le ∧ le ≤ 450) ∧ (le ≤ mo ∧ mo ≤ 450) ∧ (0 ≤ si ∧ si ≤ 450) ∧ (1 ≤ pp ∧ pp ≤ 1000) ∧ (1 ≤ ps ∧ ps ≤ 1000) ∧ (1 ≤ pa_ ∧ pa_ ≤ 1000))) (hs : (rcO le mo si pp ps pa_ (-1, ((t.1 49).1 0), ((t.1 49).1 1), ((t.1 49).1 2)) 11).1 < 0) : zMB g M_Ip_leastCost [.ref (ad 0), .int le, .int mo, .int si, .int pp, .int ps, .int pa_] w (fun o w1 => o = .inr "java/util/NoSuchElementException" ∧ IV g ad (zup t.1 [(49, ((upd (upd (upd ((t.1 49).1) 0 ((rcO le mo si pp ps pa_ (-1, ((t.1 49).1 0), ((t.1 49).1 1), ((t.1 49).1 2)) 11).2.1)) 1 ((rcO le mo si pp ps pa_ (-1, ((t.1 49).1 0), ((t.1 49).1 1), ((t.1 49).1 2)) 11).2.2.1)) 2 ((rcO le mo si pp ps pa_ (-1, ((t.1 49).1 0), ((t.1 49).1 1), ((t.1 49).1 2)) 11).2.2.2)), (t.1 49).2.1, (t.1 49).2.2))], t.2) u w1) 2 12 := by
  obtain ⟨e_a, w_a, k_a⟩ := hI.1.2 0 (by decide)
  obtain rfl := kd_0.mp k_a
  obtain ⟨e_re, w_re, k_re⟩ := hI.1.2 49 (by decide)
  obtain rfl := kd_49.mp k_re
  refine ((C_Ip_leastCostF g (ad 0) (ad 1) (ad 5) (ad 18) (ad 31) (ad 32) (ad 36) (ad 42) (ad 45) (ad 47) (ad 49) (ad 50) (ad 51) ((t.1 49).1 0) ((t.1 49).1 1) ((t.1 49).1 2) le mo si pp ps pa_ hw hs).at (hI.1.I [0, 49] _ rfl (by decide) (by decide) (List.forall_mem_cons.mpr ⟨w_a, (List.forall_mem_cons.mpr ⟨w_re, (fun _ h => nomatch h)⟩)⟩))).mono (Nat.le_of_ble_eq_true rfl) (Nat.le_of_ble_eq_true rfl) (fun o w1 hp => ?_)
  obtain ⟨cs1, hp, hi9⟩ := hp
  obtain ⟨e1, e2⟩ := hp
  subst e1; subst e2
  exact ⟨rfl, hI.fix (t2 := (zup t.1 [(49, ((upd (upd (upd ((t.1 49).1) 0 ((rcO le mo si pp ps pa_ (-1, ((t.1 49).1 0), ((t.1 49).1 1), ((t.1 49).1 2)) 11).2.1)) 1 ((rcO le mo si pp ps pa_ (-1, ((t.1 49).1 0), ((t.1 49).1 1), ((t.1 49).1 2)) 11).2.2.1)) 2 ((rcO le mo si pp ps pa_ (-1, ((t.1 49).1 0), ((t.1 49).1 1), ((t.1 49).1 2)) 11).2.2.2)), (t.1 49).2.1, (t.1 49).2.2))], t.2)) (is := [0, 49]) hi9 rfl ⟨kd_0.mpr rfl, kd_49.mpr rfl, trivial⟩ (by decide) (by decide) (fun i hi hn => zup_out (fun q => hn ((by decide : ∀ j ∈ ([49] : List Nat), j ∈ ([0, 49] : List Nat)) i q))) (fun h => h) rfl⟩
set_option maxHeartbeats 4000000 in
theorem Qx_Ip_leastCostN {g : zG} {ad : Nat → Nat} {t : zTT} {u : zNN} {w : zW} (hI : IV g ad t u w) (le : Int32) (mo : Int32) (si : Int32) (pp : Int32) (ps : Int32) (pa_ : Int32) (hw : ((0 ≤ le ∧ le ≤ 450) ∧ (le ≤ mo ∧ mo ≤ 450) ∧ (0 ≤ si ∧ si ≤ 450) ∧ (1 ≤ pp ∧ pp ≤ 1000) ∧ (1 ≤ ps ∧ ps ≤ 1000) ∧ (1 ≤ pa_ ∧ pa_ ≤ 1000))) (hs : ¬ (rcO le mo si pp ps pa_ (-1, ((t.1 49).1 0), ((t.1 49).1 1), ((t.1 49).1 2)) 11).1 < 0) : zMB g M_Ip_leastCost [.ref (ad 0), .int le, .int mo, .int si, .int pp, .int ps, .int pa_] w (fun o w1 => o = .inl (some (.int ((rcO le mo si pp ps pa_ (-1, ((t.1 49).1 0), ((t.1 49).1 1), ((t.1 49).1 2)) 11).1))) ∧ IV g ad (zup t.1 [(49, ((upd (upd (upd ((t.1 49).1) 0 ((rcO le mo si pp ps pa_ (-1, ((t.1 49).1 0), ((t.1 49).1 1), ((t.1 49).1 2)) 11).2.1)) 1 ((rcO le mo si pp ps pa_ (-1, ((t.1 49).1 0), ((t.1 49).1 1), ((t.1 49).1 2)) 11).2.2.1)) 2 ((rcO le mo si pp ps pa_ (-1, ((t.1 49).1 0), ((t.1 49).1 1), ((t.1 49).1 2)) 11).2.2.2)), (t.1 49).2.1, (t.1 49).2.2))], t.2) u w1) 2 12 := by
  obtain ⟨e_a, w_a, k_a⟩ := hI.1.2 0 (by decide)
  obtain rfl := kd_0.mp k_a
  obtain ⟨e_re, w_re, k_re⟩ := hI.1.2 49 (by decide)
  obtain rfl := kd_49.mp k_re
  refine ((C_Ip_leastCostN g (ad 0) (ad 1) (ad 5) (ad 18) (ad 31) (ad 32) (ad 36) (ad 42) (ad 45) (ad 47) (ad 49) (ad 50) (ad 51) ((t.1 49).1 0) ((t.1 49).1 1) ((t.1 49).1 2) le mo si pp ps pa_ hw hs).at (hI.1.I [0, 49] _ rfl (by decide) (by decide) (List.forall_mem_cons.mpr ⟨w_a, (List.forall_mem_cons.mpr ⟨w_re, (fun _ h => nomatch h)⟩)⟩))).mono (Nat.le_of_ble_eq_true rfl) (Nat.le_of_ble_eq_true rfl) (fun o w1 hp => ?_)
  obtain ⟨cs1, hp, hi9⟩ := hp
  obtain ⟨e1, e2⟩ := hp
  subst e1; subst e2
  exact ⟨rfl, hI.fix (t2 := (zup t.1 [(49, ((upd (upd (upd ((t.1 49).1) 0 ((rcO le mo si pp ps pa_ (-1, ((t.1 49).1 0), ((t.1 49).1 1), ((t.1 49).1 2)) 11).2.1)) 1 ((rcO le mo si pp ps pa_ (-1, ((t.1 49).1 0), ((t.1 49).1 1), ((t.1 49).1 2)) 11).2.2.1)) 2 ((rcO le mo si pp ps pa_ (-1, ((t.1 49).1 0), ((t.1 49).1 1), ((t.1 49).1 2)) 11).2.2.2)), (t.1 49).2.1, (t.1 49).2.2))], t.2)) (is := [0, 49]) hi9 rfl ⟨kd_0.mpr rfl, kd_49.mpr rfl, trivial⟩ (by decide) (by decide) (fun i hi hn => zup_out (fun q => hn ((by decide : ∀ j ∈ ([49] : List Nat), j ∈ ([0, 49] : List Nat)) i q))) (fun h => h) rfl⟩
set_option maxHeartbeats 4000000 in
theorem Qx_Ip_leastCostE {g : zG} {ad : Nat → Nat} {t : zTT} {u : zNN} {w : zW} (hI : IV g ad t u w) (le : Int32) (mo : Int32) (si : Int32) (pp : Int32) (ps : Int32) (pa_ : Int32) (hw : ¬ ((0 ≤ le ∧ le ≤ 450) ∧ (le ≤ mo ∧ mo ≤ 450) ∧ (0 ≤ si ∧ si ≤ 450) ∧ (1 ≤ pp ∧ pp ≤ 1000) ∧ (1 ≤ ps ∧ ps ≤ 1000) ∧ (1 ≤ pa_ ∧ pa_ ≤ 1000))) : zMB g M_Ip_leastCost [.ref (ad 0), .int le, .int mo, .int si, .int pp, .int ps, .int pa_] w (fun o w1 => o = .inr "java/lang/IllegalArgumentException" ∧ IV g ad t u w1) 1 6 := by
  obtain ⟨e_a, w_a, k_a⟩ := hI.1.2 0 (by decide)
  obtain rfl := kd_0.mp k_a
  obtain ⟨e_re, w_re, k_re⟩ := hI.1.2 49 (by decide)
  obtain rfl := kd_49.mp k_re
  refine ((C_Ip_leastCostE g (ad 0) (ad 1) (ad 5) (ad 18) (ad 31) (ad 32) (ad 36) (ad 42) (ad 45) (ad 47) (ad 49) (ad 50) (ad 51) ((t.1 49).1 0) ((t.1 49).1 1) ((t.1 49).1 2) le mo si pp ps pa_ hw).at (hI.1.I [0, 49] _ rfl (by decide) (by decide) (List.forall_mem_cons.mpr ⟨w_a, (List.forall_mem_cons.mpr ⟨w_re, (fun _ h => nomatch h)⟩)⟩))).mono (Nat.le_of_ble_eq_true rfl) (Nat.le_of_ble_eq_true rfl) (fun o w1 hp => ?_)
  obtain ⟨cs1, hp, hi9⟩ := hp
  obtain ⟨e1, e2⟩ := hp
  subst e1; subst e2
  exact ⟨rfl, hI.fix (t2 := t) (is := [0, 49]) hi9 rfl ⟨kd_0.mpr rfl, kd_49.mpr rfl, trivial⟩ (by decide) (by decide) (fun _ _ _ => rfl) (fun h => h) rfl⟩
noncomputable def tK_Ip_leastCost (x1 x2 x3 x4 x5 x6 : Int32) (t : zTT) : zTT := (if (0 ≤ x1 ∧ x1 ≤ 450) ∧ (x1 ≤ x2 ∧ x2 ≤ 450) ∧ (0 ≤ x3 ∧ x3 ≤ 450) ∧ (1 ≤ x4 ∧ x4 ≤ 1000) ∧ (1 ≤ x5 ∧ x5 ≤ 1000) ∧ (1 ≤ x6 ∧ x6 ≤ 1000) then (zup t.1 [(49, ((upd (upd (upd ((t.1 49).1) 0 ((rcO x1 x2 x3 x4 x5 x6 (-1, ((t.1 49).1 0), ((t.1 49).1 1), ((t.1 49).1 2)) 11).2.1)) 1 ((rcO x1 x2 x3 x4 x5 x6 (-1, ((t.1 49).1 0), ((t.1 49).1 1), ((t.1 49).1 2)) 11).2.2.1)) 2 ((rcO x1 x2 x3 x4 x5 x6 (-1, ((t.1 49).1 0), ((t.1 49).1 1), ((t.1 49).1 2)) 11).2.2.2)), (t.1 49).2.1, (t.1 49).2.2))], t.2) else t)
theorem K_Ip_leastCost {g : zG} {ad : Nat → Nat} {t : zTT} {u : zNN} {w : zW} (hI : IVm g ad t u w) (x1 x2 x3 x4 x5 x6 : Int32) : zMB g M_Ip_leastCost [.ref (ad 0), .int x1, .int x2, .int x3, .int x4, .int x5, .int x6] w (CKx g ad (tK_Ip_leastCost x1 x2 x3 x4 x5 x6 t) u.1 ["java/lang/IllegalArgumentException", "java/util/NoSuchElementException"]) 10 300 := by
  obtain ⟨s, hI⟩ := hI
  by_cases hw : (0 ≤ x1 ∧ x1 ≤ 450) ∧ (x1 ≤ x2 ∧ x2 ≤ 450) ∧ (0 ≤ x3 ∧ x3 ≤ 450) ∧ (1 ≤ x4 ∧ x4 ≤ 1000) ∧ (1 ≤ x5 ∧ x5 ≤ 1000) ∧ (1 ≤ x6 ∧ x6 ≤ 1000)
  · by_cases hs : (rcO x1 x2 x3 x4 x5 x6 (-1, (t.1 49).1 0, (t.1 49).1 1, (t.1 49).1 2) 11).1 < 0
    · have eT : (tK_Ip_leastCost x1 x2 x3 x4 x5 x6 t) = (zup t.1 [(49, ((upd (upd (upd ((t.1 49).1) 0 ((rcO x1 x2 x3 x4 x5 x6 (-1, ((t.1 49).1 0), ((t.1 49).1 1), ((t.1 49).1 2)) 11).2.1)) 1 ((rcO x1 x2 x3 x4 x5 x6 (-1, ((t.1 49).1 0), ((t.1 49).1 1), ((t.1 49).1 2)) 11).2.2.1)) 2 ((rcO x1 x2 x3 x4 x5 x6 (-1, ((t.1 49).1 0), ((t.1 49).1 1), ((t.1 49).1 2)) 11).2.2.2)), (t.1 49).2.1, (t.1 49).2.2))], t.2) := by unfold tK_Ip_leastCost; rw [if_pos hw]
      rw [eT]
      exact (Qx_Ip_leastCostF hI x1 x2 x3 x4 x5 x6 hw hs).mono (by decide) (by decide) (fun o w1 h => ⟨zri.th h.1 (by simp), u, rfl, IVm.zu h.2⟩)
    · have eT : (tK_Ip_leastCost x1 x2 x3 x4 x5 x6 t) = (zup t.1 [(49, ((upd (upd (upd ((t.1 49).1) 0 ((rcO x1 x2 x3 x4 x5 x6 (-1, ((t.1 49).1 0), ((t.1 49).1 1), ((t.1 49).1 2)) 11).2.1)) 1 ((rcO x1 x2 x3 x4 x5 x6 (-1, ((t.1 49).1 0), ((t.1 49).1 1), ((t.1 49).1 2)) 11).2.2.1)) 2 ((rcO x1 x2 x3 x4 x5 x6 (-1, ((t.1 49).1 0), ((t.1 49).1 1), ((t.1 49).1 2)) 11).2.2.2)), (t.1 49).2.1, (t.1 49).2.2))], t.2) := by unfold tK_Ip_leastCost; rw [if_pos hw]
      rw [eT]
      exact (Qx_Ip_leastCostN hI x1 x2 x3 x4 x5 x6 hw hs).mono (by decide) (by decide) (fun o w1 h => ⟨zri.vl h.1, u, rfl, IVm.zu h.2⟩)
  · have eT : (tK_Ip_leastCost x1 x2 x3 x4 x5 x6 t) = t := by unfold tK_Ip_leastCost; rw [if_neg hw]
    rw [eT]
    exact (Qx_Ip_leastCostE hI x1 x2 x3 x4 x5 x6 hw).mono (by decide) (by decide) (fun o w1 h => ⟨zri.th h.1 (by simp), u, rfl, ⟨_, h.2⟩⟩)
set_option maxHeartbeats 4000000 in
theorem Qx_Mm_leastCostF {g : zG} {ad : Nat → Nat} {t : zTT} {u : zNN} {w : zW} (hI : IV g ad t u w) (le : Int32) (mo : Int32) (si : Int32) (pp : Int32) (ps : Int32) (pa : Int32) (hw : ((0 ≤ le ∧ le ≤ 450) ∧ (le ≤ mo ∧ mo ≤ 450) ∧ (0 ≤ si ∧ si ≤ 450) ∧ (1 ≤ pp ∧ pp ≤ 1000) ∧ (1 ≤ ps ∧ ps ≤ 1000) ∧ (1 ≤ pa ∧ pa ≤ 1000))) (hpr : ∀ P A, P + A ≤ 100 → 0 ≤ prS pp ps pa P A) (hs9 : (rcO le mo si pp ps pa (-1, -1, 0, 0) 11).1 < 0) : zMB g M_Mm_leastCost [.ref (ad 52), .int le, .int mo, .int si, .int pp, .int ps, .int pa] w (fun o w1 => o = .inl (some (.int 0)) ∧ IV g ad t u w1) 0 0 := by
  obtain ⟨e_m, w_m, k_m⟩ := hI.1.2 52 (by decide)
  obtain ⟨v_m_th, rfl⟩ := kd_52.mp k_m
  refine ((C_Mm_leastCostF g (ad 52) (ad 53) (ad 54) (ad 55) (ad 56) (ad 57) (ad 58) (ad 59) (ad 60) (ad 61) (ad 62) (ad 63) (ad 64) (ad 65) (ad 66) (ad 67) (ad 68) v_m_th (nI ((t.1 52).2.2 0)) ((t.1 52).1 0) ((t.1 52).1 1) ((t.1 52).1 2) ((t.1 52).1 3) ((t.1 52).1 4) ((t.1 52).1 5) ((t.1 52).1 6) ((t.1 52).1 7) ((t.1 52).1 8) ((t.1 52).1 9) ((t.1 52).1 10) ((t.1 52).2.1 0) ((t.1 52).2.1 1) le mo si pp ps pa hw hpr hs9).at (hI.1.I [52] _ rfl (by decide) (by decide) (List.forall_mem_cons.mpr ⟨w_m, (fun _ h => nomatch h)⟩))).mono (Nat.le_of_ble_eq_true rfl) (Nat.le_of_ble_eq_true rfl) (fun o w1 hp => ?_)
  obtain ⟨cs1, hp, hi9⟩ := hp
  obtain ⟨e1, e2⟩ := hp
  subst e1; subst e2
  exact ⟨rfl, hI.fix (t2 := t) (is := [52]) hi9 rfl ⟨kd_52.mpr ⟨_, rfl⟩, trivial⟩ (by decide) (by decide) (fun _ _ _ => rfl) (fun h => h) rfl⟩
set_option maxHeartbeats 4000000 in
theorem Qx_Mm_leastCostN {g : zG} {ad : Nat → Nat} {t : zTT} {u : zNN} {w : zW} (hI : IV g ad t u w) (le : Int32) (mo : Int32) (si : Int32) (pp : Int32) (ps : Int32) (pa : Int32) (hw : ((0 ≤ le ∧ le ≤ 450) ∧ (le ≤ mo ∧ mo ≤ 450) ∧ (0 ≤ si ∧ si ≤ 450) ∧ (1 ≤ pp ∧ pp ≤ 1000) ∧ (1 ≤ ps ∧ ps ≤ 1000) ∧ (1 ≤ pa ∧ pa ≤ 1000))) (hpr : ∀ P A, P + A ≤ 100 → 0 ≤ prS pp ps pa P A) (hs9 : ¬ (rcO le mo si pp ps pa (-1, -1, 0, 0) 11).1 < 0) : zMB g M_Mm_leastCost [.ref (ad 52), .int le, .int mo, .int si, .int pp, .int ps, .int pa] w (fun o w1 => o = .inl (some (.int ((rcO le mo si pp ps pa (-1, -1, 0, 0) 11).1))) ∧ IV g ad (zup t.1 [(52, ((upd (upd ((t.1 52).1) 9 ((rcO le mo si pp ps pa (-1, -1, 0, 0) 11).2.1)) 10 ((rcO le mo si pp ps pa (-1, -1, 0, 0) 11).2.2.1)), (t.1 52).2.1, (t.1 52).2.2))], t.2) u w1) 0 0 := by
  obtain ⟨e_m, w_m, k_m⟩ := hI.1.2 52 (by decide)
  obtain ⟨v_m_th, rfl⟩ := kd_52.mp k_m
  refine ((C_Mm_leastCostN g (ad 52) (ad 53) (ad 54) (ad 55) (ad 56) (ad 57) (ad 58) (ad 59) (ad 60) (ad 61) (ad 62) (ad 63) (ad 64) (ad 65) (ad 66) (ad 67) (ad 68) v_m_th (nI ((t.1 52).2.2 0)) ((t.1 52).1 0) ((t.1 52).1 1) ((t.1 52).1 2) ((t.1 52).1 3) ((t.1 52).1 4) ((t.1 52).1 5) ((t.1 52).1 6) ((t.1 52).1 7) ((t.1 52).1 8) ((t.1 52).1 9) ((t.1 52).1 10) ((t.1 52).2.1 0) ((t.1 52).2.1 1) le mo si pp ps pa hw hpr hs9).at (hI.1.I [52] _ rfl (by decide) (by decide) (List.forall_mem_cons.mpr ⟨w_m, (fun _ h => nomatch h)⟩))).mono (Nat.le_of_ble_eq_true rfl) (Nat.le_of_ble_eq_true rfl) (fun o w1 hp => ?_)
  obtain ⟨cs1, hp, hi9⟩ := hp
  obtain ⟨e1, e2⟩ := hp
  subst e1; subst e2
  exact ⟨rfl, hI.fix (t2 := (zup t.1 [(52, ((upd (upd ((t.1 52).1) 9 ((rcO le mo si pp ps pa (-1, -1, 0, 0) 11).2.1)) 10 ((rcO le mo si pp ps pa (-1, -1, 0, 0) 11).2.2.1)), (t.1 52).2.1, (t.1 52).2.2))], t.2)) (is := [52]) hi9 rfl ⟨kd_52.mpr ⟨_, rfl⟩, trivial⟩ (by decide) (by decide) (fun i hi hn => zup_out (fun q => hn ((by decide : ∀ j ∈ ([52] : List Nat), j ∈ ([52] : List Nat)) i q))) (fun h => h) rfl⟩
set_option maxHeartbeats 4000000 in
theorem Qx_Mm_leastCostE {g : zG} {ad : Nat → Nat} {t : zTT} {u : zNN} {w : zW} (hI : IV g ad t u w) (le : Int32) (mo : Int32) (si : Int32) (pp : Int32) (ps : Int32) (pa : Int32) (hw : ¬ ((0 ≤ le ∧ le ≤ 450) ∧ (le ≤ mo ∧ mo ≤ 450) ∧ (0 ≤ si ∧ si ≤ 450) ∧ (1 ≤ pp ∧ pp ≤ 1000) ∧ (1 ≤ ps ∧ ps ≤ 1000) ∧ (1 ≤ pa ∧ pa ≤ 1000))) : zMB g M_Mm_leastCost [.ref (ad 52), .int le, .int mo, .int si, .int pp, .int ps, .int pa] w (fun o w1 => o = .inl (some (.int 0)) ∧ IV g ad t u w1) 0 0 := by
  obtain ⟨e_m, w_m, k_m⟩ := hI.1.2 52 (by decide)
  obtain ⟨v_m_th, rfl⟩ := kd_52.mp k_m
  refine ((C_Mm_leastCostE g (ad 52) (ad 53) (ad 54) (ad 55) (ad 56) (ad 57) (ad 58) (ad 59) (ad 60) (ad 61) (ad 62) (ad 63) (ad 64) (ad 65) (ad 66) (ad 67) (ad 68) v_m_th (nI ((t.1 52).2.2 0)) ((t.1 52).1 0) ((t.1 52).1 1) ((t.1 52).1 2) ((t.1 52).1 3) ((t.1 52).1 4) ((t.1 52).1 5) ((t.1 52).1 6) ((t.1 52).1 7) ((t.1 52).1 8) ((t.1 52).1 9) ((t.1 52).1 10) ((t.1 52).2.1 0) ((t.1 52).2.1 1) le mo si pp ps pa hw).at (hI.1.I [52] _ rfl (by decide) (by decide) (List.forall_mem_cons.mpr ⟨w_m, (fun _ h => nomatch h)⟩))).mono (Nat.le_of_ble_eq_true rfl) (Nat.le_of_ble_eq_true rfl) (fun o w1 hp => ?_)
  obtain ⟨cs1, hp, hi9⟩ := hp
  obtain ⟨e1, e2⟩ := hp
  subst e1; subst e2
  exact ⟨rfl, hI.fix (t2 := t) (is := [52]) hi9 rfl ⟨kd_52.mpr ⟨_, rfl⟩, trivial⟩ (by decide) (by decide) (fun _ _ _ => rfl) (fun h => h) rfl⟩
noncomputable def tK_Mm_leastCost (x1 x2 x3 x4 x5 x6 : Int32) (t : zTT) : zTT := (if (0 ≤ x1 ∧ x1 ≤ 450) ∧ (x1 ≤ x2 ∧ x2 ≤ 450) ∧ (0 ≤ x3 ∧ x3 ≤ 450) ∧ (1 ≤ x4 ∧ x4 ≤ 1000) ∧ (1 ≤ x5 ∧ x5 ≤ 1000) ∧ (1 ≤ x6 ∧ x6 ≤ 1000) then (if (rcO x1 x2 x3 x4 x5 x6 (-1, -1, 0, 0) 11).1 < 0 then t else (zup t.1 [(52, ((upd (upd ((t.1 52).1) 9 ((rcO x1 x2 x3 x4 x5 x6 (-1, -1, 0, 0) 11).2.1)) 10 ((rcO x1 x2 x3 x4 x5 x6 (-1, -1, 0, 0) 11).2.2.1)), (t.1 52).2.1, (t.1 52).2.2))], t.2)) else t)
theorem K_Mm_leastCost {g : zG} {ad : Nat → Nat} {t : zTT} {u : zNN} {w : zW} (hI : IVm g ad t u w) (x1 x2 x3 x4 x5 x6 : Int32) : zMB g M_Mm_leastCost [.ref (ad 52), .int x1, .int x2, .int x3, .int x4, .int x5, .int x6] w (MKx g ad (tK_Mm_leastCost x1 x2 x3 x4 x5 x6 t) u.1) 10 300 := by
  obtain ⟨s, hI⟩ := hI
  by_cases hw : (0 ≤ x1 ∧ x1 ≤ 450) ∧ (x1 ≤ x2 ∧ x2 ≤ 450) ∧ (0 ≤ x3 ∧ x3 ≤ 450) ∧ (1 ≤ x4 ∧ x4 ≤ 1000) ∧ (1 ≤ x5 ∧ x5 ≤ 1000) ∧ (1 ≤ x6 ∧ x6 ≤ 1000)
  · by_cases hs : (rcO x1 x2 x3 x4 x5 x6 (-1, -1, 0, 0) 11).1 < 0
    · have eT : (tK_Mm_leastCost x1 x2 x3 x4 x5 x6 t) = t := by unfold tK_Mm_leastCost; rw [if_pos hw, if_pos hs]
      rw [eT]
      exact (Qx_Mm_leastCostF hI x1 x2 x3 x4 x5 x6 hw (fun P A h => prS_nn hw.2.2.2.1 hw.2.2.2.2.1 hw.2.2.2.2.2 h) hs).mono (by decide) (by decide) (fun o w1 h => ⟨⟨_, h.1⟩, u, rfl, ⟨_, h.2⟩⟩)
    · have eT : (tK_Mm_leastCost x1 x2 x3 x4 x5 x6 t) = (zup t.1 [(52, ((upd (upd ((t.1 52).1) 9 ((rcO x1 x2 x3 x4 x5 x6 (-1, -1, 0, 0) 11).2.1)) 10 ((rcO x1 x2 x3 x4 x5 x6 (-1, -1, 0, 0) 11).2.2.1)), (t.1 52).2.1, (t.1 52).2.2))], t.2) := by unfold tK_Mm_leastCost; rw [if_pos hw, if_neg hs]
      rw [eT]
      exact (Qx_Mm_leastCostN hI x1 x2 x3 x4 x5 x6 hw (fun P A h => prS_nn hw.2.2.2.1 hw.2.2.2.2.1 hw.2.2.2.2.2 h) hs).mono (by decide) (by decide) (fun o w1 h => ⟨⟨_, h.1⟩, u, rfl, IVm.zu h.2⟩)
  · have eT : (tK_Mm_leastCost x1 x2 x3 x4 x5 x6 t) = t := by unfold tK_Mm_leastCost; rw [if_neg hw]
    rw [eT]
    exact (Qx_Mm_leastCostE hI x1 x2 x3 x4 x5 x6 hw).mono (by decide) (by decide) (fun o w1 h => ⟨⟨_, h.1⟩, u, rfl, ⟨_, h.2⟩⟩)
set_option maxHeartbeats 4000000 in
theorem Qx_Ip_cheapestE {g : zG} {ad : Nat → Nat} {t : zTT} {u : zNN} {w : zW} (hI : IV g ad t u w) (w8 : Int32) (hw : z_ix 4 w8 < 0) : zMB g M_Ip_cheapest [.ref (ad 0), .int w8] w (fun o w1 => o = .inr "java/lang/IllegalArgumentException" ∧ IV g ad t u w1) 1 6 := by
  obtain ⟨e_a, w_a, k_a⟩ := hI.1.2 0 (by decide)
  obtain rfl := kd_0.mp k_a
  obtain ⟨e_re, w_re, k_re⟩ := hI.1.2 49 (by decide)
  obtain rfl := kd_49.mp k_re
  refine ((C_Ip_cheapestE g (ad 0) (ad 1) (ad 5) (ad 18) (ad 31) (ad 32) (ad 36) (ad 42) (ad 45) (ad 47) (ad 49) (ad 50) (ad 51) ((t.1 49).1 0) ((t.1 49).1 1) ((t.1 49).1 2) w8 hw).at (hI.1.I [0, 49] _ rfl (by decide) (by decide) (List.forall_mem_cons.mpr ⟨w_a, (List.forall_mem_cons.mpr ⟨w_re, (fun _ h => nomatch h)⟩)⟩))).mono (Nat.le_of_ble_eq_true rfl) (Nat.le_of_ble_eq_true rfl) (fun o w1 hp => ?_)
  obtain ⟨cs1, hp, hi9⟩ := hp
  obtain ⟨e1, e2⟩ := hp
  subst e1; subst e2
  exact ⟨rfl, hI.fix (t2 := t) (is := [0, 49]) hi9 rfl ⟨kd_0.mpr rfl, kd_49.mpr rfl, trivial⟩ (by decide) (by decide) (fun _ _ _ => rfl) (fun h => h) rfl⟩
set_option maxHeartbeats 4000000 in
theorem Qx_Ip_cheapestF {g : zG} {ad : Nat → Nat} {t : zTT} {u : zNN} {w : zW} (hI : IV g ad t u w) (w8 : Int32) (hw : ¬ z_ix 4 w8 < 0) (hf : ((t.1 49).1 2) = 0) : zMB g M_Ip_cheapest [.ref (ad 0), .int w8] w (fun o w1 => o = .inr "java/lang/IllegalStateException" ∧ IV g ad t u w1) 1 6 := by
  obtain ⟨e_a, w_a, k_a⟩ := hI.1.2 0 (by decide)
  obtain rfl := kd_0.mp k_a
  obtain ⟨e_re, w_re, k_re⟩ := hI.1.2 49 (by decide)
  obtain rfl := kd_49.mp k_re
  refine ((C_Ip_cheapestF g (ad 0) (ad 1) (ad 5) (ad 18) (ad 31) (ad 32) (ad 36) (ad 42) (ad 45) (ad 47) (ad 49) (ad 50) (ad 51) ((t.1 49).1 0) ((t.1 49).1 1) ((t.1 49).1 2) w8 hw hf).at (hI.1.I [0, 49] _ rfl (by decide) (by decide) (List.forall_mem_cons.mpr ⟨w_a, (List.forall_mem_cons.mpr ⟨w_re, (fun _ h => nomatch h)⟩)⟩))).mono (Nat.le_of_ble_eq_true rfl) (Nat.le_of_ble_eq_true rfl) (fun o w1 hp => ?_)
  obtain ⟨cs1, hp, hi9⟩ := hp
  obtain ⟨e1, e2⟩ := hp
  subst e1; subst e2
  exact ⟨rfl, hI.fix (t2 := t) (is := [0, 49]) hi9 rfl ⟨kd_0.mpr rfl, kd_49.mpr rfl, trivial⟩ (by decide) (by decide) (fun _ _ _ => rfl) (fun h => h) rfl⟩
set_option maxHeartbeats 4000000 in
theorem Qx_Ip_cheapest112 {g : zG} {ad : Nat → Nat} {t : zTT} {u : zNN} {w : zW} (hI : IV g ad t u w) (hf : ¬ ((t.1 49).1 2) = 0) : zMB g M_Ip_cheapest [.ref (ad 0), .int 112] w (fun o w1 => o = .inl (some (.int ((t.1 49).1 0))) ∧ IV g ad t u w1) 1 6 := by
  obtain ⟨e_a, w_a, k_a⟩ := hI.1.2 0 (by decide)
  obtain rfl := kd_0.mp k_a
  obtain ⟨e_re, w_re, k_re⟩ := hI.1.2 49 (by decide)
  obtain rfl := kd_49.mp k_re
  refine ((C_Ip_cheapest112 g (ad 0) (ad 1) (ad 5) (ad 18) (ad 31) (ad 32) (ad 36) (ad 42) (ad 45) (ad 47) (ad 49) (ad 50) (ad 51) ((t.1 49).1 0) ((t.1 49).1 1) ((t.1 49).1 2) hf).at (hI.1.I [0, 49] _ rfl (by decide) (by decide) (List.forall_mem_cons.mpr ⟨w_a, (List.forall_mem_cons.mpr ⟨w_re, (fun _ h => nomatch h)⟩)⟩))).mono (Nat.le_of_ble_eq_true rfl) (Nat.le_of_ble_eq_true rfl) (fun o w1 hp => ?_)
  obtain ⟨cs1, hp, hi9⟩ := hp
  obtain ⟨e1, e2⟩ := hp
  subst e1; subst e2
  exact ⟨rfl, hI.fix (t2 := t) (is := [0, 49]) hi9 rfl ⟨kd_0.mpr rfl, kd_49.mpr rfl, trivial⟩ (by decide) (by decide) (fun _ _ _ => rfl) (fun h => h) rfl⟩
set_option maxHeartbeats 4000000 in
theorem Qx_Ip_cheapest115 {g : zG} {ad : Nat → Nat} {t : zTT} {u : zNN} {w : zW} (hI : IV g ad t u w) (hf : ¬ ((t.1 49).1 2) = 0) : zMB g M_Ip_cheapest [.ref (ad 0), .int 115] w (fun o w1 => o = .inl (some (.int (S_Re_scrapParts (ad 49) ((t.1 49).1 0) ((t.1 49).1 1) ((t.1 49).1 2)))) ∧ IV g ad t u w1) 1 6 := by
  obtain ⟨e_a, w_a, k_a⟩ := hI.1.2 0 (by decide)
  obtain rfl := kd_0.mp k_a
  obtain ⟨e_re, w_re, k_re⟩ := hI.1.2 49 (by decide)
  obtain rfl := kd_49.mp k_re
  refine ((C_Ip_cheapest115 g (ad 0) (ad 1) (ad 5) (ad 18) (ad 31) (ad 32) (ad 36) (ad 42) (ad 45) (ad 47) (ad 49) (ad 50) (ad 51) ((t.1 49).1 0) ((t.1 49).1 1) ((t.1 49).1 2) hf).at (hI.1.I [0, 49] _ rfl (by decide) (by decide) (List.forall_mem_cons.mpr ⟨w_a, (List.forall_mem_cons.mpr ⟨w_re, (fun _ h => nomatch h)⟩)⟩))).mono (Nat.le_of_ble_eq_true rfl) (Nat.le_of_ble_eq_true rfl) (fun o w1 hp => ?_)
  obtain ⟨cs1, hp, hi9⟩ := hp
  obtain ⟨e1, e2⟩ := hp
  subst e1; subst e2
  exact ⟨rfl, hI.fix (t2 := t) (is := [0, 49]) hi9 rfl ⟨kd_0.mpr rfl, kd_49.mpr rfl, trivial⟩ (by decide) (by decide) (fun _ _ _ => rfl) (fun h => h) rfl⟩
set_option maxHeartbeats 4000000 in
theorem Qx_Ip_cheapest102 {g : zG} {ad : Nat → Nat} {t : zTT} {u : zNN} {w : zW} (hI : IV g ad t u w) (hf : ¬ ((t.1 49).1 2) = 0) : zMB g M_Ip_cheapest [.ref (ad 0), .int 102] w (fun o w1 => o = .inl (some (.int ((t.1 49).1 1))) ∧ IV g ad t u w1) 1 6 := by
  obtain ⟨e_a, w_a, k_a⟩ := hI.1.2 0 (by decide)
  obtain rfl := kd_0.mp k_a
  obtain ⟨e_re, w_re, k_re⟩ := hI.1.2 49 (by decide)
  obtain rfl := kd_49.mp k_re
  refine ((C_Ip_cheapest102 g (ad 0) (ad 1) (ad 5) (ad 18) (ad 31) (ad 32) (ad 36) (ad 42) (ad 45) (ad 47) (ad 49) (ad 50) (ad 51) ((t.1 49).1 0) ((t.1 49).1 1) ((t.1 49).1 2) hf).at (hI.1.I [0, 49] _ rfl (by decide) (by decide) (List.forall_mem_cons.mpr ⟨w_a, (List.forall_mem_cons.mpr ⟨w_re, (fun _ h => nomatch h)⟩)⟩))).mono (Nat.le_of_ble_eq_true rfl) (Nat.le_of_ble_eq_true rfl) (fun o w1 hp => ?_)
  obtain ⟨cs1, hp, hi9⟩ := hp
  obtain ⟨e1, e2⟩ := hp
  subst e1; subst e2
  exact ⟨rfl, hI.fix (t2 := t) (is := [0, 49]) hi9 rfl ⟨kd_0.mpr rfl, kd_49.mpr rfl, trivial⟩ (by decide) (by decide) (fun _ _ _ => rfl) (fun h => h) rfl⟩
theorem K_Ip_cheapest {g : zG} {ad : Nat → Nat} {t : zTT} {u : zNN} {w : zW} (hI : IVm g ad t u w) (c : Int32) : zMB g M_Ip_cheapest [.ref (ad 0), .int c] w (CKx g ad t u.1 ["java/lang/IllegalArgumentException", "java/lang/IllegalStateException"]) 10 300 := by
  obtain ⟨s, hI⟩ := hI
  by_cases hw : z_ix 4 c < 0
  · exact (Qx_Ip_cheapestE hI c hw).mono (by decide) (by decide) (fun o w1 h => ⟨zri.th h.1 (by simp), u, rfl, ⟨_, h.2⟩⟩)
  · by_cases hf : (t.1 49).1 2 = 0
    · exact (Qx_Ip_cheapestF hI c hw hf).mono (by decide) (by decide) (fun o w1 h => ⟨zri.th h.1 (by simp), u, rfl, ⟨_, h.2⟩⟩)
    · rcases z_ix4 (z_nlt9 hw) with rfl | rfl | rfl
      · exact (Qx_Ip_cheapest112 hI hf).mono (by decide) (by decide) (fun o w1 h => ⟨zri.vl h.1, u, rfl, ⟨_, h.2⟩⟩)
      · exact (Qx_Ip_cheapest115 hI hf).mono (by decide) (by decide) (fun o w1 h => ⟨zri.vl h.1, u, rfl, ⟨_, h.2⟩⟩)
      · exact (Qx_Ip_cheapest102 hI hf).mono (by decide) (by decide) (fun o w1 h => ⟨zri.vl h.1, u, rfl, ⟨_, h.2⟩⟩)
set_option maxHeartbeats 4000000 in
theorem Qx_Mm_cellN {g : zG} {ad : Nat → Nat} {t : zTT} {u : zNN} {w : zW} (hI : IV g ad t u w) (x : Nat) (y : Nat) (hx0 : x < 12) (hy0 : y < 9) : zMB g M_Mm_cell [.ref (ad 52), .int (nI x), .int (nI y)] w (fun o w1 => o = .inl (some (.int (((t.1 53).1) (12 * y + x)))) ∧ IV g ad t u w1) 0 0 := by
  obtain ⟨e_m, w_m, k_m⟩ := hI.1.2 52 (by decide)
  obtain ⟨v_m_th, rfl⟩ := kd_52.mp k_m
  obtain ⟨e_mp, w_mp, k_mp⟩ := hI.1.2 53 (by decide)
  obtain rfl := kd_53.mp k_mp
  refine ((C_Mm_cellN g (ad 52) (ad 53) (ad 54) (ad 55) (ad 56) (ad 57) (ad 58) (ad 59) (ad 60) (ad 61) (ad 62) (ad 63) (ad 64) (ad 65) (ad 66) (ad 67) (ad 68) v_m_th (nI ((t.1 52).2.2 0)) ((t.1 52).1 0) ((t.1 52).1 1) ((t.1 52).1 2) ((t.1 52).1 3) ((t.1 52).1 4) ((t.1 52).1 5) ((t.1 52).1 6) ((t.1 52).1 7) ((t.1 52).1 8) ((t.1 52).1 9) ((t.1 52).1 10) ((t.1 52).2.1 0) ((t.1 52).2.1 1) ((t.1 53).1) x y hx0 hy0 hI.2.2.2.1).at (hI.1.I [52, 53] _ rfl (by decide) (by decide) (List.forall_mem_cons.mpr ⟨w_m, (List.forall_mem_cons.mpr ⟨w_mp, (fun _ h => nomatch h)⟩)⟩))).mono (Nat.le_of_ble_eq_true rfl) (Nat.le_of_ble_eq_true rfl) (fun o w1 hp => ?_)
  obtain ⟨cs1, hp, hi9⟩ := hp
  obtain ⟨e1, e2⟩ := hp
  subst e1; subst e2
  exact ⟨rfl, hI.fix (t2 := t) (is := [52, 53]) hi9 rfl ⟨kd_52.mpr ⟨_, rfl⟩, kd_53.mpr rfl, trivial⟩ (by decide) (by decide) (fun _ _ _ => rfl) (fun h => h) rfl⟩
set_option maxHeartbeats 4000000 in
theorem Qx_Mm_cellE {g : zG} {ad : Nat → Nat} {t : zTT} {u : zNN} {w : zW} (hI : IV g ad t u w) (x : Int32) (y : Int32) (hz : z_cl x y = none) : zMB g M_Mm_cell [.ref (ad 52), .int x, .int y] w (fun o w1 => o = .inl (some (.int 0)) ∧ IV g ad t u w1) 0 0 := by
  obtain ⟨e_m, w_m, k_m⟩ := hI.1.2 52 (by decide)
  obtain ⟨v_m_th, rfl⟩ := kd_52.mp k_m
  obtain ⟨e_mp, w_mp, k_mp⟩ := hI.1.2 53 (by decide)
  obtain rfl := kd_53.mp k_mp
  refine ((C_Mm_cellE g (ad 52) (ad 53) (ad 54) (ad 55) (ad 56) (ad 57) (ad 58) (ad 59) (ad 60) (ad 61) (ad 62) (ad 63) (ad 64) (ad 65) (ad 66) (ad 67) (ad 68) v_m_th (nI ((t.1 52).2.2 0)) ((t.1 52).1 0) ((t.1 52).1 1) ((t.1 52).1 2) ((t.1 52).1 3) ((t.1 52).1 4) ((t.1 52).1 5) ((t.1 52).1 6) ((t.1 52).1 7) ((t.1 52).1 8) ((t.1 52).1 9) ((t.1 52).1 10) ((t.1 52).2.1 0) ((t.1 52).2.1 1) ((t.1 53).1) x y hz).at (hI.1.I [52, 53] _ rfl (by decide) (by decide) (List.forall_mem_cons.mpr ⟨w_m, (List.forall_mem_cons.mpr ⟨w_mp, (fun _ h => nomatch h)⟩)⟩))).mono (Nat.le_of_ble_eq_true rfl) (Nat.le_of_ble_eq_true rfl) (fun o w1 hp => ?_)
  obtain ⟨cs1, hp, hi9⟩ := hp
  obtain ⟨e1, e2⟩ := hp
  subst e1; subst e2
  exact ⟨rfl, hI.fix (t2 := t) (is := [52, 53]) hi9 rfl ⟨kd_52.mpr ⟨_, rfl⟩, kd_53.mpr rfl, trivial⟩ (by decide) (by decide) (fun _ _ _ => rfl) (fun h => h) rfl⟩
theorem K_Mm_cell {g : zG} {ad : Nat → Nat} {t : zTT} {u : zNN} {w : zW} (hI : IVm g ad t u w) (x y : Int32) : zMB g M_Mm_cell [.ref (ad 52), .int x, .int y] w (MKx g ad t u.1) 10 300 := by
  obtain ⟨s, hI⟩ := hI
  by_cases hq : 0 ≤ x ∧ x < 12 ∧ 0 ≤ y ∧ y < 9
  · obtain ⟨x0, y0, hx0, hy0, rfl, rfl, hz⟩ := z_cl_in hq
    exact (Qx_Mm_cellN hI x0 y0 hx0 hy0).mono (by decide) (by decide) (fun o w1 h => ⟨⟨_, h.1⟩, u, rfl, ⟨_, h.2⟩⟩)
  · exact (Qx_Mm_cellE hI x y (if_neg hq)).mono (by decide) (by decide) (fun o w1 h => ⟨⟨_, h.1⟩, u, rfl, ⟨_, h.2⟩⟩)
set_option maxHeartbeats 4000000 in
theorem Qx_Mm_undercut {g : zG} {ad : Nat → Nat} {t : zTT} {u : zNN} {w : zW} (hI : IV g ad t u w) : zMB g M_Mm_undercut [.ref (ad 52)] w (fun o w1 => o = .inl (some (.int (nI (ucT ((t.1 53).1) ((t.1 52).2.2 0) 12)))) ∧ IV g ad t u w1) 0 0 := by
  obtain ⟨e_m, w_m, k_m⟩ := hI.1.2 52 (by decide)
  obtain ⟨v_m_th, rfl⟩ := kd_52.mp k_m
  obtain ⟨e_mp, w_mp, k_mp⟩ := hI.1.2 53 (by decide)
  obtain rfl := kd_53.mp k_mp
  refine ((C_Mm_undercut g (ad 52) (ad 53) (ad 54) (ad 55) (ad 56) (ad 57) (ad 58) (ad 59) (ad 60) (ad 61) (ad 62) (ad 63) (ad 64) (ad 65) (ad 66) (ad 67) (ad 68) v_m_th ((t.1 52).1 0) ((t.1 52).1 1) ((t.1 52).1 2) ((t.1 52).1 3) ((t.1 52).1 4) ((t.1 52).1 5) ((t.1 52).1 6) ((t.1 52).1 7) ((t.1 52).1 8) ((t.1 52).1 9) ((t.1 52).1 10) ((t.1 52).2.1 0) ((t.1 52).2.1 1) ((t.1 53).1) ((t.1 52).2.2 0) hI.2.2.2.2.2.1 hI.2.2.2.2.2.2 hI.2.2.2.1).at (hI.1.I [52, 53] _ rfl (by decide) (by decide) (List.forall_mem_cons.mpr ⟨w_m, (List.forall_mem_cons.mpr ⟨w_mp, (fun _ h => nomatch h)⟩)⟩))).mono (Nat.le_of_ble_eq_true rfl) (Nat.le_of_ble_eq_true rfl) (fun o w1 hp => ?_)
  obtain ⟨cs1, hp, hi9⟩ := hp
  obtain ⟨e1, e2⟩ := hp
  subst e1; subst e2
  exact ⟨rfl, hI.fix (t2 := t) (is := [52, 53]) hi9 rfl ⟨kd_52.mpr ⟨_, rfl⟩, kd_53.mpr rfl, trivial⟩ (by decide) (by decide) (fun _ _ _ => rfl) (fun h => h) rfl⟩
theorem K_Mm_undercut {g : zG} {ad : Nat → Nat} {t : zTT} {u : zNN} {w : zW} (hI : IVm g ad t u w) : zMB g M_Mm_undercut [.ref (ad 52)] w (MKx g ad t u.1) 10 300 := by
  obtain ⟨s, hI⟩ := hI
  exact (Qx_Mm_undercut hI).mono (by decide) (by decide) (fun o w1 h => ⟨⟨_, h.1⟩, u, rfl, ⟨_, h.2⟩⟩)
set_option maxHeartbeats 4000000 in
theorem Qx_Mm_weight {g : zG} {ad : Nat → Nat} {t : zTT} {u : zNN} {w : zW} (hI : IV g ad t u w) : zMB g M_Mm_weight [.ref (ad 52)] w (fun o w1 => o = .inl (some (.int (2 * nI (fa_cnt (fun k => tmB (((t.1 53).1) k)) 108)))) ∧ IV g ad t u w1) 0 0 := by
  obtain ⟨e_m, w_m, k_m⟩ := hI.1.2 52 (by decide)
  obtain ⟨v_m_th, rfl⟩ := kd_52.mp k_m
  obtain ⟨e_mp, w_mp, k_mp⟩ := hI.1.2 53 (by decide)
  obtain rfl := kd_53.mp k_mp
  refine ((C_Mm_weight g (ad 52) (ad 53) (ad 54) (ad 55) (ad 56) (ad 57) (ad 58) (ad 59) (ad 60) (ad 61) (ad 62) (ad 63) (ad 64) (ad 65) (ad 66) (ad 67) (ad 68) v_m_th (nI ((t.1 52).2.2 0)) ((t.1 52).1 0) ((t.1 52).1 1) ((t.1 52).1 2) ((t.1 52).1 3) ((t.1 52).1 4) ((t.1 52).1 5) ((t.1 52).1 6) ((t.1 52).1 7) ((t.1 52).1 8) ((t.1 52).1 9) ((t.1 52).1 10) ((t.1 52).2.1 0) ((t.1 52).2.1 1) ((t.1 53).1)).at (hI.1.I [52, 53] _ rfl (by decide) (by decide) (List.forall_mem_cons.mpr ⟨w_m, (List.forall_mem_cons.mpr ⟨w_mp, (fun _ h => nomatch h)⟩)⟩))).mono (Nat.le_of_ble_eq_true rfl) (Nat.le_of_ble_eq_true rfl) (fun o w1 hp => ?_)
  obtain ⟨cs1, hp, hi9⟩ := hp
  obtain ⟨e1, e2⟩ := hp
  subst e1; subst e2
  exact ⟨rfl, hI.fix (t2 := t) (is := [52, 53]) hi9 rfl ⟨kd_52.mpr ⟨_, rfl⟩, kd_53.mpr rfl, trivial⟩ (by decide) (by decide) (fun _ _ _ => rfl) (fun h => h) rfl⟩
theorem K_Mm_weight {g : zG} {ad : Nat → Nat} {t : zTT} {u : zNN} {w : zW} (hI : IVm g ad t u w) : zMB g M_Mm_weight [.ref (ad 52)] w (MKx g ad t u.1) 10 300 := by
  obtain ⟨s, hI⟩ := hI
  exact (Qx_Mm_weight hI).mono (by decide) (by decide) (fun o w1 h => ⟨⟨_, h.1⟩, u, rfl, ⟨_, h.2⟩⟩)
set_option maxHeartbeats 4000000 in
theorem Qx_Mm_isSound {g : zG} {ad : Nat → Nat} {t : zTT} {u : zNN} {w : zW} (hI : IV g ad t u w) : zMB g M_Mm_isSound [.ref (ad 52)] w (fun o w1 => o = .inl (some (.int 1)) ∧ IV g ad t u w1) 0 0 := by
  obtain ⟨e_m, w_m, k_m⟩ := hI.1.2 52 (by decide)
  obtain ⟨v_m_th, rfl⟩ := kd_52.mp k_m
  refine ((C_Mm_isSound g (ad 52) (ad 53) (ad 54) (ad 55) (ad 56) (ad 57) (ad 58) (ad 59) (ad 60) (ad 61) (ad 62) (ad 63) (ad 64) (ad 65) (ad 66) (ad 67) (ad 68) v_m_th (nI ((t.1 52).2.2 0)) ((t.1 52).1 0) ((t.1 52).1 1) ((t.1 52).1 2) ((t.1 52).1 3) ((t.1 52).1 4) ((t.1 52).1 5) ((t.1 52).1 6) ((t.1 52).1 7) ((t.1 52).1 8) ((t.1 52).1 9) ((t.1 52).1 10) ((t.1 52).2.1 0) ((t.1 52).2.1 1)).at (hI.1.I [52] _ rfl (by decide) (by decide) (List.forall_mem_cons.mpr ⟨w_m, (fun _ h => nomatch h)⟩))).mono (Nat.le_of_ble_eq_true rfl) (Nat.le_of_ble_eq_true rfl) (fun o w1 hp => ?_)
  obtain ⟨cs1, hp, hi9⟩ := hp
  obtain ⟨e1, e2⟩ := hp
  subst e1; subst e2
  exact ⟨rfl, hI.fix (t2 := t) (is := [52]) hi9 rfl ⟨kd_52.mpr ⟨_, rfl⟩, trivial⟩ (by decide) (by decide) (fun _ _ _ => rfl) (fun h => h) rfl⟩
theorem K_Mm_isSound {g : zG} {ad : Nat → Nat} {t : zTT} {u : zNN} {w : zW} (hI : IVm g ad t u w) : zMB g M_Mm_isSound [.ref (ad 52)] w (MKx g ad t u.1) 10 300 := by
  obtain ⟨s, hI⟩ := hI
  exact (Qx_Mm_isSound hI).mono (by decide) (by decide) (fun o w1 h => ⟨⟨_, h.1⟩, u, rfl, ⟨_, h.2⟩⟩)
set_option maxHeartbeats 4000000 in
theorem Qx_Mm_coresW {g : zG} {ad : Nat → Nat} {t : zTT} {u : zNN} {w : zW} (hI : IV g ad t u w) : zMB g M_Mm_cores [.ref (ad 52)] w (fun o w1 => (∃ v : Int32, o = .inl (some (.int v))) ∧ IV g ad t u w1) 0 0 := by
  obtain ⟨e_m, w_m, k_m⟩ := hI.1.2 52 (by decide)
  obtain ⟨v_m_th, rfl⟩ := kd_52.mp k_m
  obtain ⟨e_mp, w_mp, k_mp⟩ := hI.1.2 53 (by decide)
  obtain rfl := kd_53.mp k_mp
  obtain ⟨e_mgr, w_mgr, k_mgr⟩ := hI.1.2 61 (by decide)
  obtain ⟨v_mgr_f, rfl⟩ := kd_61.mp k_mgr
  obtain ⟨e_mq, w_mq, k_mq⟩ := hI.1.2 60 (by decide)
  obtain ⟨v_mq_h, rfl⟩ := kd_60.mp k_mq
  refine ((C_Mm_coresW g (ad 52) (ad 53) (ad 54) (ad 55) (ad 56) (ad 57) (ad 58) (ad 59) (ad 60) (ad 61) (ad 62) (ad 63) (ad 64) (ad 65) (ad 66) (ad 67) (ad 68) v_m_th (nI ((t.1 52).2.2 0)) ((t.1 52).1 0) ((t.1 52).1 1) ((t.1 52).1 2) ((t.1 52).1 3) ((t.1 52).1 4) ((t.1 52).1 5) ((t.1 52).1 6) ((t.1 52).1 7) ((t.1 52).1 8) ((t.1 52).1 9) ((t.1 52).1 10) ((t.1 52).2.1 0) ((t.1 52).2.1 1) ((t.1 53).1) v_mgr_f v_mq_h).at (hI.1.I [52, 53, 61, 60] _ rfl (by decide) (by decide) (List.forall_mem_cons.mpr ⟨w_m, (List.forall_mem_cons.mpr ⟨w_mp, (List.forall_mem_cons.mpr ⟨w_mgr, (List.forall_mem_cons.mpr ⟨w_mq, (fun _ h => nomatch h)⟩)⟩)⟩)⟩))).mono (Nat.le_of_ble_eq_true rfl) (Nat.le_of_ble_eq_true rfl) (fun o w1 hp => ?_)
  obtain ⟨cs1, hp, hi9⟩ := hp
  obtain ⟨v9, gp9, qn9, e1, e2⟩ := hp
  subst e1; subst e2
  exact ⟨⟨_, rfl⟩, hI.fix (t2 := t) (is := [52, 53, 61, 60]) hi9 rfl ⟨kd_52.mpr ⟨_, rfl⟩, kd_53.mpr rfl, kd_61.mpr ⟨_, rfl⟩, kd_60.mpr ⟨_, rfl⟩, trivial⟩ (by decide) (by decide) (fun _ _ _ => rfl) (fun h => h) rfl⟩
theorem K_Mm_cores {g : zG} {ad : Nat → Nat} {t : zTT} {u : zNN} {w : zW} (hI : IVm g ad t u w) : zMB g M_Mm_cores [.ref (ad 52)] w (MKx g ad t u.1) 10 300 := by
  obtain ⟨s, hI⟩ := hI
  exact (Qx_Mm_coresW hI).mono (by decide) (by decide) (fun o w1 h => ⟨h.1, u, rfl, ⟨_, h.2⟩⟩)
set_option maxHeartbeats 4000000 in
theorem Qx_Mm_looseW {g : zG} {ad : Nat → Nat} {t : zTT} {u : zNN} {w : zW} (hI : IV g ad t u w) : zMB g M_Mm_loose [.ref (ad 52)] w (fun o w1 => (∃ v : Int32, o = .inl (some (.int v))) ∧ IV g ad t u w1) 0 0 := by
  obtain ⟨e_m, w_m, k_m⟩ := hI.1.2 52 (by decide)
  obtain ⟨v_m_th, rfl⟩ := kd_52.mp k_m
  obtain ⟨e_mp, w_mp, k_mp⟩ := hI.1.2 53 (by decide)
  obtain rfl := kd_53.mp k_mp
  obtain ⟨e_mgr, w_mgr, k_mgr⟩ := hI.1.2 61 (by decide)
  obtain ⟨v_mgr_f, rfl⟩ := kd_61.mp k_mgr
  obtain ⟨e_mq, w_mq, k_mq⟩ := hI.1.2 60 (by decide)
  obtain ⟨v_mq_h, rfl⟩ := kd_60.mp k_mq
  refine ((C_Mm_looseW g (ad 52) (ad 53) (ad 54) (ad 55) (ad 56) (ad 57) (ad 58) (ad 59) (ad 60) (ad 61) (ad 62) (ad 63) (ad 64) (ad 65) (ad 66) (ad 67) (ad 68) v_m_th (nI ((t.1 52).2.2 0)) ((t.1 52).1 0) ((t.1 52).1 1) ((t.1 52).1 2) ((t.1 52).1 3) ((t.1 52).1 4) ((t.1 52).1 5) ((t.1 52).1 6) ((t.1 52).1 7) ((t.1 52).1 8) ((t.1 52).1 9) ((t.1 52).1 10) ((t.1 52).2.1 0) ((t.1 52).2.1 1) ((t.1 53).1) v_mgr_f v_mq_h).at (hI.1.I [52, 53, 61, 60] _ rfl (by decide) (by decide) (List.forall_mem_cons.mpr ⟨w_m, (List.forall_mem_cons.mpr ⟨w_mp, (List.forall_mem_cons.mpr ⟨w_mgr, (List.forall_mem_cons.mpr ⟨w_mq, (fun _ h => nomatch h)⟩)⟩)⟩)⟩))).mono (Nat.le_of_ble_eq_true rfl) (Nat.le_of_ble_eq_true rfl) (fun o w1 hp => ?_)
  obtain ⟨cs1, hp, hi9⟩ := hp
  obtain ⟨v9, gp9, qn9, e1, e2⟩ := hp
  subst e1; subst e2
  exact ⟨⟨_, rfl⟩, hI.fix (t2 := t) (is := [52, 53, 61, 60]) hi9 rfl ⟨kd_52.mpr ⟨_, rfl⟩, kd_53.mpr rfl, kd_61.mpr ⟨_, rfl⟩, kd_60.mpr ⟨_, rfl⟩, trivial⟩ (by decide) (by decide) (fun _ _ _ => rfl) (fun h => h) rfl⟩
theorem K_Mm_loose {g : zG} {ad : Nat → Nat} {t : zTT} {u : zNN} {w : zW} (hI : IVm g ad t u w) : zMB g M_Mm_loose [.ref (ad 52)] w (MKx g ad t u.1) 10 300 := by
  obtain ⟨s, hI⟩ := hI
  exact (Qx_Mm_looseW hI).mono (by decide) (by decide) (fun o w1 h => ⟨h.1, u, rfl, ⟨_, h.2⟩⟩)
set_option maxHeartbeats 4000000 in
theorem Qx_Mm_speedW {g : zG} {ad : Nat → Nat} {t : zTT} {u : zNN} {w : zW} (hI : IV g ad t u w) : zMB g M_Mm_speed [.ref (ad 52)] w (fun o w1 => (∃ v : Int32, o = .inl (some (.int v))) ∧ IV g ad t u w1) 0 0 := by
  obtain ⟨e_m, w_m, k_m⟩ := hI.1.2 52 (by decide)
  obtain ⟨v_m_th, rfl⟩ := kd_52.mp k_m
  obtain ⟨e_mp, w_mp, k_mp⟩ := hI.1.2 53 (by decide)
  obtain rfl := kd_53.mp k_mp
  refine ((C_Mm_speedW g (ad 52) (ad 53) (ad 54) (ad 55) (ad 56) (ad 57) (ad 58) (ad 59) (ad 60) (ad 61) (ad 62) (ad 63) (ad 64) (ad 65) (ad 66) (ad 67) (ad 68) v_m_th (nI ((t.1 52).2.2 0)) ((t.1 52).1 0) ((t.1 52).1 1) ((t.1 52).1 2) ((t.1 52).1 3) ((t.1 52).1 4) ((t.1 52).1 5) ((t.1 52).1 6) ((t.1 52).1 7) ((t.1 52).1 8) ((t.1 52).1 9) ((t.1 52).1 10) ((t.1 52).2.1 0) ((t.1 52).2.1 1) ((t.1 53).1)).at (hI.1.I [52, 53] _ rfl (by decide) (by decide) (List.forall_mem_cons.mpr ⟨w_m, (List.forall_mem_cons.mpr ⟨w_mp, (fun _ h => nomatch h)⟩)⟩))).mono (Nat.le_of_ble_eq_true rfl) (Nat.le_of_ble_eq_true rfl) (fun o w1 hp => ?_)
  obtain ⟨cs1, hp, hi9⟩ := hp
  obtain ⟨v9, th9, e1, e2⟩ := hp
  subst e1; subst e2
  exact ⟨⟨_, rfl⟩, hI.fix (t2 := t) (is := [52, 53]) hi9 rfl ⟨kd_52.mpr ⟨_, rfl⟩, kd_53.mpr rfl, trivial⟩ (by decide) (by decide) (fun _ _ _ => rfl) (fun h => h) rfl⟩
theorem K_Mm_speed {g : zG} {ad : Nat → Nat} {t : zTT} {u : zNN} {w : zW} (hI : IVm g ad t u w) : zMB g M_Mm_speed [.ref (ad 52)] w (MKx g ad t u.1) 10 300 := by
  obtain ⟨s, hI⟩ := hI
  exact (Qx_Mm_speedW hI).mono (by decide) (by decide) (fun o w1 h => ⟨h.1, u, rfl, ⟨_, h.2⟩⟩)
set_option maxHeartbeats 4000000 in
theorem Qx_Mm_filledInW {g : zG} {ad : Nat → Nat} {t : zTT} {u : zNN} {w : zW} (hI : IV g ad t u w) (x : Nat) (y : Nat) (hx0 : x < 12) (hy0 : y < 9) : zMB g M_Mm_filledIn [.ref (ad 52), .int (nI x), .int (nI y)] w (fun o w1 => (∃ v : Int32, o = .inl (some (.int v))) ∧ IV g ad t u w1) 0 0 := by
  obtain ⟨e_m, w_m, k_m⟩ := hI.1.2 52 (by decide)
  obtain ⟨v_m_th, rfl⟩ := kd_52.mp k_m
  obtain ⟨e_mp, w_mp, k_mp⟩ := hI.1.2 53 (by decide)
  obtain rfl := kd_53.mp k_mp
  obtain ⟨e_mf, w_mf, k_mf⟩ := hI.1.2 54 (by decide)
  obtain ⟨v_mf_f, rfl⟩ := kd_54.mp k_mf
  obtain ⟨e_mh, w_mh, k_mh⟩ := hI.1.2 55 (by decide)
  obtain ⟨v_mh_f, rfl⟩ := kd_55.mp k_mh
  obtain ⟨e_mt, w_mt, k_mt⟩ := hI.1.2 57 (by decide)
  obtain ⟨v_mt_f, rfl⟩ := kd_57.mp k_mt
  obtain ⟨e_mz, w_mz, k_mz⟩ := hI.1.2 58 (by decide)
  obtain ⟨v_mz_f, rfl⟩ := kd_58.mp k_mz
  obtain ⟨e_mn, w_mn, k_mn⟩ := hI.1.2 56 (by decide)
  obtain ⟨v_mn_f, rfl⟩ := kd_56.mp k_mn
  obtain ⟨e_mc_, w_mc_, k_mc_⟩ := hI.1.2 59 (by decide)
  obtain ⟨v_mc__f, rfl⟩ := kd_59.mp k_mc_
  obtain ⟨e_mq, w_mq, k_mq⟩ := hI.1.2 60 (by decide)
  obtain ⟨v_mq_h, rfl⟩ := kd_60.mp k_mq
  refine ((C_Mm_filledInW g (ad 52) (ad 53) (ad 54) (ad 55) (ad 56) (ad 57) (ad 58) (ad 59) (ad 60) (ad 61) (ad 62) (ad 63) (ad 64) (ad 65) (ad 66) (ad 67) (ad 68) v_m_th (nI ((t.1 52).2.2 0)) ((t.1 52).1 0) ((t.1 52).1 1) ((t.1 52).1 2) ((t.1 52).1 3) ((t.1 52).1 4) ((t.1 52).1 5) ((t.1 52).1 6) ((t.1 52).1 7) ((t.1 52).1 8) ((t.1 52).1 9) ((t.1 52).1 10) ((t.1 52).2.1 0) ((t.1 52).2.1 1) ((t.1 53).1) v_mf_f v_mh_f v_mn_f v_mt_f v_mz_f v_mc__f v_mq_h x y hx0 hy0).at (hI.1.I [52, 53, 54, 55, 57, 58, 56, 59, 60] _ rfl (by decide) (by decide) (List.forall_mem_cons.mpr ⟨w_m, (List.forall_mem_cons.mpr ⟨w_mp, (List.forall_mem_cons.mpr ⟨w_mf, (List.forall_mem_cons.mpr ⟨w_mh, (List.forall_mem_cons.mpr ⟨w_mt, (List.forall_mem_cons.mpr ⟨w_mz, (List.forall_mem_cons.mpr ⟨w_mn, (List.forall_mem_cons.mpr ⟨w_mc_, (List.forall_mem_cons.mpr ⟨w_mq, (fun _ h => nomatch h)⟩)⟩)⟩)⟩)⟩)⟩)⟩)⟩)⟩))).mono (Nat.le_of_ble_eq_true rfl) (Nat.le_of_ble_eq_true rfl) (fun o w1 hp => ?_)
  obtain ⟨cs1, hp, hi9⟩ := hp
  obtain ⟨v9, th9, fl9, he9, nx9, mt9, fz9, ic9, qn9, e1, e2⟩ := hp
  subst e1; subst e2
  exact ⟨⟨_, rfl⟩, hI.fix (t2 := t) (is := [52, 53, 54, 55, 57, 58, 56, 59, 60]) hi9 rfl ⟨kd_52.mpr ⟨_, rfl⟩, kd_53.mpr rfl, kd_54.mpr ⟨_, rfl⟩, kd_55.mpr ⟨_, rfl⟩, kd_57.mpr ⟨_, rfl⟩, kd_58.mpr ⟨_, rfl⟩, kd_56.mpr ⟨_, rfl⟩, kd_59.mpr ⟨_, rfl⟩, kd_60.mpr ⟨_, rfl⟩, trivial⟩ (by decide) (by decide) (fun _ _ _ => rfl) (fun h => h) rfl⟩
set_option maxHeartbeats 4000000 in
theorem Qx_Mm_filledInE {g : zG} {ad : Nat → Nat} {t : zTT} {u : zNN} {w : zW} (hI : IV g ad t u w) (x : Int32) (y : Int32) (hz : z_cl x y = none) : zMB g M_Mm_filledIn [.ref (ad 52), .int x, .int y] w (fun o w1 => o = .inl (some (.int 0)) ∧ IV g ad t u w1) 0 0 := by
  obtain ⟨e_m, w_m, k_m⟩ := hI.1.2 52 (by decide)
  obtain ⟨v_m_th, rfl⟩ := kd_52.mp k_m
  obtain ⟨e_mp, w_mp, k_mp⟩ := hI.1.2 53 (by decide)
  obtain rfl := kd_53.mp k_mp
  refine ((C_Mm_filledInE g (ad 52) (ad 53) (ad 54) (ad 55) (ad 56) (ad 57) (ad 58) (ad 59) (ad 60) (ad 61) (ad 62) (ad 63) (ad 64) (ad 65) (ad 66) (ad 67) (ad 68) v_m_th (nI ((t.1 52).2.2 0)) ((t.1 52).1 0) ((t.1 52).1 1) ((t.1 52).1 2) ((t.1 52).1 3) ((t.1 52).1 4) ((t.1 52).1 5) ((t.1 52).1 6) ((t.1 52).1 7) ((t.1 52).1 8) ((t.1 52).1 9) ((t.1 52).1 10) ((t.1 52).2.1 0) ((t.1 52).2.1 1) ((t.1 53).1) x y hz).at (hI.1.I [52, 53] _ rfl (by decide) (by decide) (List.forall_mem_cons.mpr ⟨w_m, (List.forall_mem_cons.mpr ⟨w_mp, (fun _ h => nomatch h)⟩)⟩))).mono (Nat.le_of_ble_eq_true rfl) (Nat.le_of_ble_eq_true rfl) (fun o w1 hp => ?_)
  obtain ⟨cs1, hp, hi9⟩ := hp
  obtain ⟨e1, e2⟩ := hp
  subst e1; subst e2
  exact ⟨rfl, hI.fix (t2 := t) (is := [52, 53]) hi9 rfl ⟨kd_52.mpr ⟨_, rfl⟩, kd_53.mpr rfl, trivial⟩ (by decide) (by decide) (fun _ _ _ => rfl) (fun h => h) rfl⟩
theorem K_Mm_filledIn {g : zG} {ad : Nat → Nat} {t : zTT} {u : zNN} {w : zW} (hI : IVm g ad t u w) (x y : Int32) : zMB g M_Mm_filledIn [.ref (ad 52), .int x, .int y] w (MKx g ad t u.1) 10 300 := by
  obtain ⟨s, hI⟩ := hI
  by_cases hq : 0 ≤ x ∧ x < 12 ∧ 0 ≤ y ∧ y < 9
  · obtain ⟨x0, y0, hx0, hy0, rfl, rfl, hz⟩ := z_cl_in hq
    exact (Qx_Mm_filledInW hI x0 y0 hx0 hy0).mono (by decide) (by decide) (fun o w1 h => ⟨h.1, u, rfl, ⟨_, h.2⟩⟩)
  · exact (Qx_Mm_filledInE hI x y (if_neg hq)).mono (by decide) (by decide) (fun o w1 h => ⟨⟨_, h.1⟩, u, rfl, ⟨_, h.2⟩⟩)
set_option maxHeartbeats 4000000 in
theorem Qx_Mm_frozenInW {g : zG} {ad : Nat → Nat} {t : zTT} {u : zNN} {w : zW} (hI : IV g ad t u w) (x : Nat) (y : Nat) (hx0 : x < 12) (hy0 : y < 9) (h : Int32) (hh : 1200 ≤ h ∧ h ≤ 1500) : zMB g M_Mm_frozenIn [.ref (ad 52), .int (nI x), .int (nI y), .int h] w (fun o w1 => (∃ v : Int32, o = .inl (some (.int v))) ∧ IV g ad t u w1) 0 0 := by
  obtain ⟨e_m, w_m, k_m⟩ := hI.1.2 52 (by decide)
  obtain ⟨v_m_th, rfl⟩ := kd_52.mp k_m
  obtain ⟨e_mp, w_mp, k_mp⟩ := hI.1.2 53 (by decide)
  obtain rfl := kd_53.mp k_mp
  obtain ⟨e_mf, w_mf, k_mf⟩ := hI.1.2 54 (by decide)
  obtain ⟨v_mf_f, rfl⟩ := kd_54.mp k_mf
  obtain ⟨e_mh, w_mh, k_mh⟩ := hI.1.2 55 (by decide)
  obtain ⟨v_mh_f, rfl⟩ := kd_55.mp k_mh
  obtain ⟨e_mt, w_mt, k_mt⟩ := hI.1.2 57 (by decide)
  obtain ⟨v_mt_f, rfl⟩ := kd_57.mp k_mt
  obtain ⟨e_mz, w_mz, k_mz⟩ := hI.1.2 58 (by decide)
  obtain ⟨v_mz_f, rfl⟩ := kd_58.mp k_mz
  obtain ⟨e_mn, w_mn, k_mn⟩ := hI.1.2 56 (by decide)
  obtain ⟨v_mn_f, rfl⟩ := kd_56.mp k_mn
  obtain ⟨e_mc_, w_mc_, k_mc_⟩ := hI.1.2 59 (by decide)
  obtain ⟨v_mc__f, rfl⟩ := kd_59.mp k_mc_
  obtain ⟨e_mq, w_mq, k_mq⟩ := hI.1.2 60 (by decide)
  obtain ⟨v_mq_h, rfl⟩ := kd_60.mp k_mq
  refine ((C_Mm_frozenInW g (ad 52) (ad 53) (ad 54) (ad 55) (ad 56) (ad 57) (ad 58) (ad 59) (ad 60) (ad 61) (ad 62) (ad 63) (ad 64) (ad 65) (ad 66) (ad 67) (ad 68) v_m_th (nI ((t.1 52).2.2 0)) ((t.1 52).1 0) ((t.1 52).1 1) ((t.1 52).1 2) ((t.1 52).1 3) ((t.1 52).1 4) ((t.1 52).1 5) ((t.1 52).1 6) ((t.1 52).1 7) ((t.1 52).1 8) ((t.1 52).1 9) ((t.1 52).1 10) ((t.1 52).2.1 0) ((t.1 52).2.1 1) ((t.1 53).1) v_mf_f v_mh_f v_mn_f v_mt_f v_mz_f v_mc__f v_mq_h x y hx0 hy0 h hh).at (hI.1.I [52, 53, 54, 55, 57, 58, 56, 59, 60] _ rfl (by decide) (by decide) (List.forall_mem_cons.mpr ⟨w_m, (List.forall_mem_cons.mpr ⟨w_mp, (List.forall_mem_cons.mpr ⟨w_mf, (List.forall_mem_cons.mpr ⟨w_mh, (List.forall_mem_cons.mpr ⟨w_mt, (List.forall_mem_cons.mpr ⟨w_mz, (List.forall_mem_cons.mpr ⟨w_mn, (List.forall_mem_cons.mpr ⟨w_mc_, (List.forall_mem_cons.mpr ⟨w_mq, (fun _ h => nomatch h)⟩)⟩)⟩)⟩)⟩)⟩)⟩)⟩)⟩))).mono (Nat.le_of_ble_eq_true rfl) (Nat.le_of_ble_eq_true rfl) (fun o w1 hp => ?_)
  obtain ⟨cs1, hp, hi9⟩ := hp
  obtain ⟨v9, th9, fl9, he9, nx9, mt9, fz9, ic9, qn9, e1, e2⟩ := hp
  subst e1; subst e2
  exact ⟨⟨_, rfl⟩, hI.fix (t2 := t) (is := [52, 53, 54, 55, 57, 58, 56, 59, 60]) hi9 rfl ⟨kd_52.mpr ⟨_, rfl⟩, kd_53.mpr rfl, kd_54.mpr ⟨_, rfl⟩, kd_55.mpr ⟨_, rfl⟩, kd_57.mpr ⟨_, rfl⟩, kd_58.mpr ⟨_, rfl⟩, kd_56.mpr ⟨_, rfl⟩, kd_59.mpr ⟨_, rfl⟩, kd_60.mpr ⟨_, rfl⟩, trivial⟩ (by decide) (by decide) (fun _ _ _ => rfl) (fun h => h) rfl⟩
set_option maxHeartbeats 4000000 in
theorem Qx_Mm_frozenInF {g : zG} {ad : Nat → Nat} {t : zTT} {u : zNN} {w : zW} (hI : IV g ad t u w) (x : Nat) (y : Nat) (hx0 : x < 12) (hy0 : y < 9) (h : Int32) (hh : ¬ (1200 ≤ h ∧ h ≤ 1500)) : zMB g M_Mm_frozenIn [.ref (ad 52), .int (nI x), .int (nI y), .int h] w (fun o w1 => o = .inl (some (.int 0)) ∧ IV g ad t u w1) 0 0 := by
  obtain ⟨e_m, w_m, k_m⟩ := hI.1.2 52 (by decide)
  obtain ⟨v_m_th, rfl⟩ := kd_52.mp k_m
  obtain ⟨e_mp, w_mp, k_mp⟩ := hI.1.2 53 (by decide)
  obtain rfl := kd_53.mp k_mp
  refine ((C_Mm_frozenInF g (ad 52) (ad 53) (ad 54) (ad 55) (ad 56) (ad 57) (ad 58) (ad 59) (ad 60) (ad 61) (ad 62) (ad 63) (ad 64) (ad 65) (ad 66) (ad 67) (ad 68) v_m_th (nI ((t.1 52).2.2 0)) ((t.1 52).1 0) ((t.1 52).1 1) ((t.1 52).1 2) ((t.1 52).1 3) ((t.1 52).1 4) ((t.1 52).1 5) ((t.1 52).1 6) ((t.1 52).1 7) ((t.1 52).1 8) ((t.1 52).1 9) ((t.1 52).1 10) ((t.1 52).2.1 0) ((t.1 52).2.1 1) ((t.1 53).1) x y hx0 hy0 h hh).at (hI.1.I [52, 53] _ rfl (by decide) (by decide) (List.forall_mem_cons.mpr ⟨w_m, (List.forall_mem_cons.mpr ⟨w_mp, (fun _ h => nomatch h)⟩)⟩))).mono (Nat.le_of_ble_eq_true rfl) (Nat.le_of_ble_eq_true rfl) (fun o w1 hp => ?_)
  obtain ⟨cs1, hp, hi9⟩ := hp
  obtain ⟨e1, e2⟩ := hp
  subst e1; subst e2
  exact ⟨rfl, hI.fix (t2 := t) (is := [52, 53]) hi9 rfl ⟨kd_52.mpr ⟨_, rfl⟩, kd_53.mpr rfl, trivial⟩ (by decide) (by decide) (fun _ _ _ => rfl) (fun h => h) rfl⟩
set_option maxHeartbeats 4000000 in
theorem Qx_Mm_frozenInE {g : zG} {ad : Nat → Nat} {t : zTT} {u : zNN} {w : zW} (hI : IV g ad t u w) (x : Int32) (y : Int32) (h : Int32) (hz : z_cl x y = none) : zMB g M_Mm_frozenIn [.ref (ad 52), .int x, .int y, .int h] w (fun o w1 => o = .inl (some (.int 0)) ∧ IV g ad t u w1) 0 0 := by
  obtain ⟨e_m, w_m, k_m⟩ := hI.1.2 52 (by decide)
  obtain ⟨v_m_th, rfl⟩ := kd_52.mp k_m
  obtain ⟨e_mp, w_mp, k_mp⟩ := hI.1.2 53 (by decide)
  obtain rfl := kd_53.mp k_mp
  refine ((C_Mm_frozenInE g (ad 52) (ad 53) (ad 54) (ad 55) (ad 56) (ad 57) (ad 58) (ad 59) (ad 60) (ad 61) (ad 62) (ad 63) (ad 64) (ad 65) (ad 66) (ad 67) (ad 68) v_m_th (nI ((t.1 52).2.2 0)) ((t.1 52).1 0) ((t.1 52).1 1) ((t.1 52).1 2) ((t.1 52).1 3) ((t.1 52).1 4) ((t.1 52).1 5) ((t.1 52).1 6) ((t.1 52).1 7) ((t.1 52).1 8) ((t.1 52).1 9) ((t.1 52).1 10) ((t.1 52).2.1 0) ((t.1 52).2.1 1) ((t.1 53).1) x y h hz).at (hI.1.I [52, 53] _ rfl (by decide) (by decide) (List.forall_mem_cons.mpr ⟨w_m, (List.forall_mem_cons.mpr ⟨w_mp, (fun _ h => nomatch h)⟩)⟩))).mono (Nat.le_of_ble_eq_true rfl) (Nat.le_of_ble_eq_true rfl) (fun o w1 hp => ?_)
  obtain ⟨cs1, hp, hi9⟩ := hp
  obtain ⟨e1, e2⟩ := hp
  subst e1; subst e2
  exact ⟨rfl, hI.fix (t2 := t) (is := [52, 53]) hi9 rfl ⟨kd_52.mpr ⟨_, rfl⟩, kd_53.mpr rfl, trivial⟩ (by decide) (by decide) (fun _ _ _ => rfl) (fun h => h) rfl⟩
theorem K_Mm_frozenIn {g : zG} {ad : Nat → Nat} {t : zTT} {u : zNN} {w : zW} (hI : IVm g ad t u w) (x y h : Int32) : zMB g M_Mm_frozenIn [.ref (ad 52), .int x, .int y, .int h] w (MKx g ad t u.1) 10 300 := by
  obtain ⟨s, hI⟩ := hI
  by_cases hq : 0 ≤ x ∧ x < 12 ∧ 0 ≤ y ∧ y < 9
  · obtain ⟨x0, y0, hx0, hy0, rfl, rfl, hz⟩ := z_cl_in hq
    by_cases hh : 1200 ≤ h ∧ h ≤ 1500
    · exact (Qx_Mm_frozenInW hI x0 y0 hx0 hy0 h hh).mono (by decide) (by decide) (fun o w1 h => ⟨h.1, u, rfl, ⟨_, h.2⟩⟩)
    · exact (Qx_Mm_frozenInF hI x0 y0 hx0 hy0 h hh).mono (by decide) (by decide) (fun o w1 h => ⟨⟨_, h.1⟩, u, rfl, ⟨_, h.2⟩⟩)
  · exact (Qx_Mm_frozenInE hI x y h (if_neg hq)).mono (by decide) (by decide) (fun o w1 h => ⟨⟨_, h.1⟩, u, rfl, ⟨_, h.2⟩⟩)
set_option maxHeartbeats 4000000 in
theorem Qx_Mm_isFedW {g : zG} {ad : Nat → Nat} {t : zTT} {u : zNN} {w : zW} (hI : IV g ad t u w) (x : Nat) (y : Nat) (hx0 : x < 12) (hy0 : y < 9) (h : Int32) (hh : 1200 ≤ h ∧ h ≤ 1500) : zMB g M_Mm_isFed [.ref (ad 52), .int (nI x), .int (nI y), .int h] w (fun o w1 => (∃ v : Int32, o = .inl (some (.int v))) ∧ IV g ad t u w1) 0 0 := by
  obtain ⟨e_m, w_m, k_m⟩ := hI.1.2 52 (by decide)
  obtain ⟨v_m_th, rfl⟩ := kd_52.mp k_m
  obtain ⟨e_mp, w_mp, k_mp⟩ := hI.1.2 53 (by decide)
  obtain rfl := kd_53.mp k_mp
  obtain ⟨e_mf, w_mf, k_mf⟩ := hI.1.2 54 (by decide)
  obtain ⟨v_mf_f, rfl⟩ := kd_54.mp k_mf
  obtain ⟨e_mh, w_mh, k_mh⟩ := hI.1.2 55 (by decide)
  obtain ⟨v_mh_f, rfl⟩ := kd_55.mp k_mh
  obtain ⟨e_mt, w_mt, k_mt⟩ := hI.1.2 57 (by decide)
  obtain ⟨v_mt_f, rfl⟩ := kd_57.mp k_mt
  obtain ⟨e_mz, w_mz, k_mz⟩ := hI.1.2 58 (by decide)
  obtain ⟨v_mz_f, rfl⟩ := kd_58.mp k_mz
  obtain ⟨e_mn, w_mn, k_mn⟩ := hI.1.2 56 (by decide)
  obtain ⟨v_mn_f, rfl⟩ := kd_56.mp k_mn
  obtain ⟨e_mc_, w_mc_, k_mc_⟩ := hI.1.2 59 (by decide)
  obtain ⟨v_mc__f, rfl⟩ := kd_59.mp k_mc_
  obtain ⟨e_mq, w_mq, k_mq⟩ := hI.1.2 60 (by decide)
  obtain ⟨v_mq_h, rfl⟩ := kd_60.mp k_mq
  refine ((C_Mm_isFedW g (ad 52) (ad 53) (ad 54) (ad 55) (ad 56) (ad 57) (ad 58) (ad 59) (ad 60) (ad 61) (ad 62) (ad 63) (ad 64) (ad 65) (ad 66) (ad 67) (ad 68) v_m_th (nI ((t.1 52).2.2 0)) ((t.1 52).1 0) ((t.1 52).1 1) ((t.1 52).1 2) ((t.1 52).1 3) ((t.1 52).1 4) ((t.1 52).1 5) ((t.1 52).1 6) ((t.1 52).1 7) ((t.1 52).1 8) ((t.1 52).1 9) ((t.1 52).1 10) ((t.1 52).2.1 0) ((t.1 52).2.1 1) ((t.1 53).1) v_mf_f v_mh_f v_mn_f v_mt_f v_mz_f v_mc__f v_mq_h x y hx0 hy0 h hh).at (hI.1.I [52, 53, 54, 55, 57, 58, 56, 59, 60] _ rfl (by decide) (by decide) (List.forall_mem_cons.mpr ⟨w_m, (List.forall_mem_cons.mpr ⟨w_mp, (List.forall_mem_cons.mpr ⟨w_mf, (List.forall_mem_cons.mpr ⟨w_mh, (List.forall_mem_cons.mpr ⟨w_mt, (List.forall_mem_cons.mpr ⟨w_mz, (List.forall_mem_cons.mpr ⟨w_mn, (List.forall_mem_cons.mpr ⟨w_mc_, (List.forall_mem_cons.mpr ⟨w_mq, (fun _ h => nomatch h)⟩)⟩)⟩)⟩)⟩)⟩)⟩)⟩)⟩))).mono (Nat.le_of_ble_eq_true rfl) (Nat.le_of_ble_eq_true rfl) (fun o w1 hp => ?_)
  obtain ⟨cs1, hp, hi9⟩ := hp
  obtain ⟨v9, th9, fl9, he9, nx9, mt9, fz9, ic9, qn9, p_0, e1, e2⟩ := hp
  subst e1; subst e2
  exact ⟨⟨_, rfl⟩, hI.fix (t2 := t) (is := [52, 53, 54, 55, 57, 58, 56, 59, 60]) hi9 rfl ⟨kd_52.mpr ⟨_, rfl⟩, kd_53.mpr rfl, kd_54.mpr ⟨_, rfl⟩, kd_55.mpr ⟨_, rfl⟩, kd_57.mpr ⟨_, rfl⟩, kd_58.mpr ⟨_, rfl⟩, kd_56.mpr ⟨_, rfl⟩, kd_59.mpr ⟨_, rfl⟩, kd_60.mpr ⟨_, rfl⟩, trivial⟩ (by decide) (by decide) (fun _ _ _ => rfl) (fun h => h) rfl⟩
set_option maxHeartbeats 4000000 in
theorem Qx_Mm_isFedF {g : zG} {ad : Nat → Nat} {t : zTT} {u : zNN} {w : zW} (hI : IV g ad t u w) (x : Nat) (y : Nat) (hx0 : x < 12) (hy0 : y < 9) (h : Int32) (hh : ¬ (1200 ≤ h ∧ h ≤ 1500)) : zMB g M_Mm_isFed [.ref (ad 52), .int (nI x), .int (nI y), .int h] w (fun o w1 => o = .inl (some (.int 0)) ∧ IV g ad t u w1) 0 0 := by
  obtain ⟨e_m, w_m, k_m⟩ := hI.1.2 52 (by decide)
  obtain ⟨v_m_th, rfl⟩ := kd_52.mp k_m
  obtain ⟨e_mp, w_mp, k_mp⟩ := hI.1.2 53 (by decide)
  obtain rfl := kd_53.mp k_mp
  refine ((C_Mm_isFedF g (ad 52) (ad 53) (ad 54) (ad 55) (ad 56) (ad 57) (ad 58) (ad 59) (ad 60) (ad 61) (ad 62) (ad 63) (ad 64) (ad 65) (ad 66) (ad 67) (ad 68) v_m_th (nI ((t.1 52).2.2 0)) ((t.1 52).1 0) ((t.1 52).1 1) ((t.1 52).1 2) ((t.1 52).1 3) ((t.1 52).1 4) ((t.1 52).1 5) ((t.1 52).1 6) ((t.1 52).1 7) ((t.1 52).1 8) ((t.1 52).1 9) ((t.1 52).1 10) ((t.1 52).2.1 0) ((t.1 52).2.1 1) ((t.1 53).1) x y hx0 hy0 h hh).at (hI.1.I [52, 53] _ rfl (by decide) (by decide) (List.forall_mem_cons.mpr ⟨w_m, (List.forall_mem_cons.mpr ⟨w_mp, (fun _ h => nomatch h)⟩)⟩))).mono (Nat.le_of_ble_eq_true rfl) (Nat.le_of_ble_eq_true rfl) (fun o w1 hp => ?_)
  obtain ⟨cs1, hp, hi9⟩ := hp
  obtain ⟨e1, e2⟩ := hp
  subst e1; subst e2
  exact ⟨rfl, hI.fix (t2 := t) (is := [52, 53]) hi9 rfl ⟨kd_52.mpr ⟨_, rfl⟩, kd_53.mpr rfl, trivial⟩ (by decide) (by decide) (fun _ _ _ => rfl) (fun h => h) rfl⟩
set_option maxHeartbeats 4000000 in
theorem Qx_Mm_isFedE {g : zG} {ad : Nat → Nat} {t : zTT} {u : zNN} {w : zW} (hI : IV g ad t u w) (x : Int32) (y : Int32) (h : Int32) (hz : z_cl x y = none) : zMB g M_Mm_isFed [.ref (ad 52), .int x, .int y, .int h] w (fun o w1 => o = .inl (some (.int 0)) ∧ IV g ad t u w1) 0 0 := by
  obtain ⟨e_m, w_m, k_m⟩ := hI.1.2 52 (by decide)
  obtain ⟨v_m_th, rfl⟩ := kd_52.mp k_m
  obtain ⟨e_mp, w_mp, k_mp⟩ := hI.1.2 53 (by decide)
  obtain rfl := kd_53.mp k_mp
  refine ((C_Mm_isFedE g (ad 52) (ad 53) (ad 54) (ad 55) (ad 56) (ad 57) (ad 58) (ad 59) (ad 60) (ad 61) (ad 62) (ad 63) (ad 64) (ad 65) (ad 66) (ad 67) (ad 68) v_m_th (nI ((t.1 52).2.2 0)) ((t.1 52).1 0) ((t.1 52).1 1) ((t.1 52).1 2) ((t.1 52).1 3) ((t.1 52).1 4) ((t.1 52).1 5) ((t.1 52).1 6) ((t.1 52).1 7) ((t.1 52).1 8) ((t.1 52).1 9) ((t.1 52).1 10) ((t.1 52).2.1 0) ((t.1 52).2.1 1) ((t.1 53).1) x y h hz).at (hI.1.I [52, 53] _ rfl (by decide) (by decide) (List.forall_mem_cons.mpr ⟨w_m, (List.forall_mem_cons.mpr ⟨w_mp, (fun _ h => nomatch h)⟩)⟩))).mono (Nat.le_of_ble_eq_true rfl) (Nat.le_of_ble_eq_true rfl) (fun o w1 hp => ?_)
  obtain ⟨cs1, hp, hi9⟩ := hp
  obtain ⟨e1, e2⟩ := hp
  subst e1; subst e2
  exact ⟨rfl, hI.fix (t2 := t) (is := [52, 53]) hi9 rfl ⟨kd_52.mpr ⟨_, rfl⟩, kd_53.mpr rfl, trivial⟩ (by decide) (by decide) (fun _ _ _ => rfl) (fun h => h) rfl⟩
theorem K_Mm_isFed {g : zG} {ad : Nat → Nat} {t : zTT} {u : zNN} {w : zW} (hI : IVm g ad t u w) (x y h : Int32) : zMB g M_Mm_isFed [.ref (ad 52), .int x, .int y, .int h] w (MKx g ad t u.1) 10 300 := by
  obtain ⟨s, hI⟩ := hI
  by_cases hq : 0 ≤ x ∧ x < 12 ∧ 0 ≤ y ∧ y < 9
  · obtain ⟨x0, y0, hx0, hy0, rfl, rfl, hz⟩ := z_cl_in hq
    by_cases hh : 1200 ≤ h ∧ h ≤ 1500
    · exact (Qx_Mm_isFedW hI x0 y0 hx0 hy0 h hh).mono (by decide) (by decide) (fun o w1 h => ⟨h.1, u, rfl, ⟨_, h.2⟩⟩)
    · exact (Qx_Mm_isFedF hI x0 y0 hx0 hy0 h hh).mono (by decide) (by decide) (fun o w1 h => ⟨⟨_, h.1⟩, u, rfl, ⟨_, h.2⟩⟩)
  · exact (Qx_Mm_isFedE hI x y h (if_neg hq)).mono (by decide) (by decide) (fun o w1 h => ⟨⟨_, h.1⟩, u, rfl, ⟨_, h.2⟩⟩)
set_option maxHeartbeats 4000000 in
theorem Qx_Mm_heatAtW {g : zG} {ad : Nat → Nat} {t : zTT} {u : zNN} {w : zW} (hI : IV g ad t u w) (x : Nat) (y : Nat) (hx0 : x < 12) (hy0 : y < 9) (h : Int32) (kd : Nat) (hkd : kd ≤ 400) (hh : 1200 ≤ h ∧ h ≤ 1500) : zMB g M_Mm_heatAt [.ref (ad 52), .int (nI x), .int (nI y), .int h, .int (nI kd)] w (fun o w1 => (∃ v : Int32, o = .inl (some (.int v))) ∧ IV g ad t u w1) 0 0 := by
  obtain ⟨e_m, w_m, k_m⟩ := hI.1.2 52 (by decide)
  obtain ⟨v_m_th, rfl⟩ := kd_52.mp k_m
  obtain ⟨e_mp, w_mp, k_mp⟩ := hI.1.2 53 (by decide)
  obtain rfl := kd_53.mp k_mp
  obtain ⟨e_mf, w_mf, k_mf⟩ := hI.1.2 54 (by decide)
  obtain ⟨v_mf_f, rfl⟩ := kd_54.mp k_mf
  obtain ⟨e_mh, w_mh, k_mh⟩ := hI.1.2 55 (by decide)
  obtain ⟨v_mh_f, rfl⟩ := kd_55.mp k_mh
  obtain ⟨e_mt, w_mt, k_mt⟩ := hI.1.2 57 (by decide)
  obtain ⟨v_mt_f, rfl⟩ := kd_57.mp k_mt
  obtain ⟨e_mz, w_mz, k_mz⟩ := hI.1.2 58 (by decide)
  obtain ⟨v_mz_f, rfl⟩ := kd_58.mp k_mz
  obtain ⟨e_mn, w_mn, k_mn⟩ := hI.1.2 56 (by decide)
  obtain ⟨v_mn_f, rfl⟩ := kd_56.mp k_mn
  obtain ⟨e_mc_, w_mc_, k_mc_⟩ := hI.1.2 59 (by decide)
  obtain ⟨v_mc__f, rfl⟩ := kd_59.mp k_mc_
  obtain ⟨e_mq, w_mq, k_mq⟩ := hI.1.2 60 (by decide)
  obtain ⟨v_mq_h, rfl⟩ := kd_60.mp k_mq
  refine ((C_Mm_heatAtW g (ad 52) (ad 53) (ad 54) (ad 55) (ad 56) (ad 57) (ad 58) (ad 59) (ad 60) (ad 61) (ad 62) (ad 63) (ad 64) (ad 65) (ad 66) (ad 67) (ad 68) v_m_th (nI ((t.1 52).2.2 0)) ((t.1 52).1 0) ((t.1 52).1 1) ((t.1 52).1 2) ((t.1 52).1 3) ((t.1 52).1 4) ((t.1 52).1 5) ((t.1 52).1 6) ((t.1 52).1 7) ((t.1 52).1 8) ((t.1 52).1 9) ((t.1 52).1 10) ((t.1 52).2.1 0) ((t.1 52).2.1 1) ((t.1 53).1) v_mf_f v_mh_f v_mn_f v_mt_f v_mz_f v_mc__f v_mq_h x y hx0 hy0 h kd hkd hh).at (hI.1.I [52, 53, 54, 55, 57, 58, 56, 59, 60] _ rfl (by decide) (by decide) (List.forall_mem_cons.mpr ⟨w_m, (List.forall_mem_cons.mpr ⟨w_mp, (List.forall_mem_cons.mpr ⟨w_mf, (List.forall_mem_cons.mpr ⟨w_mh, (List.forall_mem_cons.mpr ⟨w_mt, (List.forall_mem_cons.mpr ⟨w_mz, (List.forall_mem_cons.mpr ⟨w_mn, (List.forall_mem_cons.mpr ⟨w_mc_, (List.forall_mem_cons.mpr ⟨w_mq, (fun _ h => nomatch h)⟩)⟩)⟩)⟩)⟩)⟩)⟩)⟩)⟩))).mono (Nat.le_of_ble_eq_true rfl) (Nat.le_of_ble_eq_true rfl) (fun o w1 hp => ?_)
  obtain ⟨cs1, hp, hi9⟩ := hp
  obtain ⟨v9, th9, fl9, he9, nx9, mt9, fz9, ic9, qn9, e1, e2⟩ := hp
  subst e1; subst e2
  exact ⟨⟨_, rfl⟩, hI.fix (t2 := t) (is := [52, 53, 54, 55, 57, 58, 56, 59, 60]) hi9 rfl ⟨kd_52.mpr ⟨_, rfl⟩, kd_53.mpr rfl, kd_54.mpr ⟨_, rfl⟩, kd_55.mpr ⟨_, rfl⟩, kd_57.mpr ⟨_, rfl⟩, kd_58.mpr ⟨_, rfl⟩, kd_56.mpr ⟨_, rfl⟩, kd_59.mpr ⟨_, rfl⟩, kd_60.mpr ⟨_, rfl⟩, trivial⟩ (by decide) (by decide) (fun _ _ _ => rfl) (fun h => h) rfl⟩
set_option maxHeartbeats 4000000 in
theorem Qx_Mm_heatAtG {g : zG} {ad : Nat → Nat} {t : zTT} {u : zNN} {w : zW} (hI : IV g ad t u w) (x : Nat) (y : Nat) (hx0 : x < 12) (hy0 : y < 9) (h : Int32) (st : Int32) (hh : 1200 ≤ h ∧ h ≤ 1500) (hs2 : ¬ (0 ≤ st ∧ st ≤ 400)) : zMB g M_Mm_heatAt [.ref (ad 52), .int (nI x), .int (nI y), .int h, .int st] w (fun o w1 => o = .inl (some (.int 0)) ∧ IV g ad t u w1) 0 0 := by
  obtain ⟨e_m, w_m, k_m⟩ := hI.1.2 52 (by decide)
  obtain ⟨v_m_th, rfl⟩ := kd_52.mp k_m
  obtain ⟨e_mp, w_mp, k_mp⟩ := hI.1.2 53 (by decide)
  obtain rfl := kd_53.mp k_mp
  refine ((C_Mm_heatAtG g (ad 52) (ad 53) (ad 54) (ad 55) (ad 56) (ad 57) (ad 58) (ad 59) (ad 60) (ad 61) (ad 62) (ad 63) (ad 64) (ad 65) (ad 66) (ad 67) (ad 68) v_m_th (nI ((t.1 52).2.2 0)) ((t.1 52).1 0) ((t.1 52).1 1) ((t.1 52).1 2) ((t.1 52).1 3) ((t.1 52).1 4) ((t.1 52).1 5) ((t.1 52).1 6) ((t.1 52).1 7) ((t.1 52).1 8) ((t.1 52).1 9) ((t.1 52).1 10) ((t.1 52).2.1 0) ((t.1 52).2.1 1) ((t.1 53).1) x y hx0 hy0 h st hh hs2).at (hI.1.I [52, 53] _ rfl (by decide) (by decide) (List.forall_mem_cons.mpr ⟨w_m, (List.forall_mem_cons.mpr ⟨w_mp, (fun _ h => nomatch h)⟩)⟩))).mono (Nat.le_of_ble_eq_true rfl) (Nat.le_of_ble_eq_true rfl) (fun o w1 hp => ?_)
  obtain ⟨cs1, hp, hi9⟩ := hp
  obtain ⟨e1, e2⟩ := hp
  subst e1; subst e2
  exact ⟨rfl, hI.fix (t2 := t) (is := [52, 53]) hi9 rfl ⟨kd_52.mpr ⟨_, rfl⟩, kd_53.mpr rfl, trivial⟩ (by decide) (by decide) (fun _ _ _ => rfl) (fun h => h) rfl⟩
set_option maxHeartbeats 4000000 in
theorem Qx_Mm_heatAtF {g : zG} {ad : Nat → Nat} {t : zTT} {u : zNN} {w : zW} (hI : IV g ad t u w) (x : Nat) (y : Nat) (hx0 : x < 12) (hy0 : y < 9) (h : Int32) (st : Int32) (hh : ¬ (1200 ≤ h ∧ h ≤ 1500)) : zMB g M_Mm_heatAt [.ref (ad 52), .int (nI x), .int (nI y), .int h, .int st] w (fun o w1 => o = .inl (some (.int 0)) ∧ IV g ad t u w1) 0 0 := by
  obtain ⟨e_m, w_m, k_m⟩ := hI.1.2 52 (by decide)
  obtain ⟨v_m_th, rfl⟩ := kd_52.mp k_m
  obtain ⟨e_mp, w_mp, k_mp⟩ := hI.1.2 53 (by decide)
  obtain rfl := kd_53.mp k_mp
  refine ((C_Mm_heatAtF g (ad 52) (ad 53) (ad 54) (ad 55) (ad 56) (ad 57) (ad 58) (ad 59) (ad 60) (ad 61) (ad 62) (ad 63) (ad 64) (ad 65) (ad 66) (ad 67) (ad 68) v_m_th (nI ((t.1 52).2.2 0)) ((t.1 52).1 0) ((t.1 52).1 1) ((t.1 52).1 2) ((t.1 52).1 3) ((t.1 52).1 4) ((t.1 52).1 5) ((t.1 52).1 6) ((t.1 52).1 7) ((t.1 52).1 8) ((t.1 52).1 9) ((t.1 52).1 10) ((t.1 52).2.1 0) ((t.1 52).2.1 1) ((t.1 53).1) x y hx0 hy0 h st hh).at (hI.1.I [52, 53] _ rfl (by decide) (by decide) (List.forall_mem_cons.mpr ⟨w_m, (List.forall_mem_cons.mpr ⟨w_mp, (fun _ h => nomatch h)⟩)⟩))).mono (Nat.le_of_ble_eq_true rfl) (Nat.le_of_ble_eq_true rfl) (fun o w1 hp => ?_)
  obtain ⟨cs1, hp, hi9⟩ := hp
  obtain ⟨e1, e2⟩ := hp
  subst e1; subst e2
  exact ⟨rfl, hI.fix (t2 := t) (is := [52, 53]) hi9 rfl ⟨kd_52.mpr ⟨_, rfl⟩, kd_53.mpr rfl, trivial⟩ (by decide) (by decide) (fun _ _ _ => rfl) (fun h => h) rfl⟩
set_option maxHeartbeats 4000000 in
theorem Qx_Mm_heatAtE {g : zG} {ad : Nat → Nat} {t : zTT} {u : zNN} {w : zW} (hI : IV g ad t u w) (x : Int32) (y : Int32) (h : Int32) (st : Int32) (hz : z_cl x y = none) : zMB g M_Mm_heatAt [.ref (ad 52), .int x, .int y, .int h, .int st] w (fun o w1 => o = .inl (some (.int 0)) ∧ IV g ad t u w1) 0 0 := by
  obtain ⟨e_m, w_m, k_m⟩ := hI.1.2 52 (by decide)
  obtain ⟨v_m_th, rfl⟩ := kd_52.mp k_m
  obtain ⟨e_mp, w_mp, k_mp⟩ := hI.1.2 53 (by decide)
  obtain rfl := kd_53.mp k_mp
  refine ((C_Mm_heatAtE g (ad 52) (ad 53) (ad 54) (ad 55) (ad 56) (ad 57) (ad 58) (ad 59) (ad 60) (ad 61) (ad 62) (ad 63) (ad 64) (ad 65) (ad 66) (ad 67) (ad 68) v_m_th (nI ((t.1 52).2.2 0)) ((t.1 52).1 0) ((t.1 52).1 1) ((t.1 52).1 2) ((t.1 52).1 3) ((t.1 52).1 4) ((t.1 52).1 5) ((t.1 52).1 6) ((t.1 52).1 7) ((t.1 52).1 8) ((t.1 52).1 9) ((t.1 52).1 10) ((t.1 52).2.1 0) ((t.1 52).2.1 1) ((t.1 53).1) x y h st hz).at (hI.1.I [52, 53] _ rfl (by decide) (by decide) (List.forall_mem_cons.mpr ⟨w_m, (List.forall_mem_cons.mpr ⟨w_mp, (fun _ h => nomatch h)⟩)⟩))).mono (Nat.le_of_ble_eq_true rfl) (Nat.le_of_ble_eq_true rfl) (fun o w1 hp => ?_)
  obtain ⟨cs1, hp, hi9⟩ := hp
  obtain ⟨e1, e2⟩ := hp
  subst e1; subst e2
  exact ⟨rfl, hI.fix (t2 := t) (is := [52, 53]) hi9 rfl ⟨kd_52.mpr ⟨_, rfl⟩, kd_53.mpr rfl, trivial⟩ (by decide) (by decide) (fun _ _ _ => rfl) (fun h => h) rfl⟩
theorem K_Mm_heatAt {g : zG} {ad : Nat → Nat} {t : zTT} {u : zNN} {w : zW} (hI : IVm g ad t u w) (x y h st : Int32) : zMB g M_Mm_heatAt [.ref (ad 52), .int x, .int y, .int h, .int st] w (MKx g ad t u.1) 10 300 := by
  obtain ⟨s, hI⟩ := hI
  by_cases hq : 0 ≤ x ∧ x < 12 ∧ 0 ≤ y ∧ y < 9
  · obtain ⟨x0, y0, hx0, hy0, rfl, rfl, hz⟩ := z_cl_in hq
    by_cases hh : 1200 ≤ h ∧ h ≤ 1500
    · by_cases hs : 0 ≤ st ∧ st ≤ 400
      · obtain ⟨kd, hkd, es⟩ := z_in20 (b := 400) (by decide) hs
        subst es
        exact (Qx_Mm_heatAtW hI x0 y0 hx0 hy0 h kd hkd hh).mono (by decide) (by decide) (fun o w1 h => ⟨h.1, u, rfl, ⟨_, h.2⟩⟩)
      · exact (Qx_Mm_heatAtG hI x0 y0 hx0 hy0 h st hh hs).mono (by decide) (by decide) (fun o w1 h => ⟨⟨_, h.1⟩, u, rfl, ⟨_, h.2⟩⟩)
    · exact (Qx_Mm_heatAtF hI x0 y0 hx0 hy0 h st hh).mono (by decide) (by decide) (fun o w1 h => ⟨⟨_, h.1⟩, u, rfl, ⟨_, h.2⟩⟩)
  · exact (Qx_Mm_heatAtE hI x y h st (if_neg hq)).mono (by decide) (by decide) (fun o w1 h => ⟨⟨_, h.1⟩, u, rfl, ⟨_, h.2⟩⟩)
set_option maxHeartbeats 4000000 in
theorem Qx_Mm_shrunkW {g : zG} {ad : Nat → Nat} {t : zTT} {u : zNN} {w : zW} (hI : IV g ad t u w) (h : Int32) (hh : 1200 ≤ h ∧ h ≤ 1500) : zMB g M_Mm_shrunk [.ref (ad 52), .int h] w (fun o w1 => (∃ v : Int32, o = .inl (some (.int v))) ∧ IV g ad t u w1) 0 0 := by
  obtain ⟨e_m, w_m, k_m⟩ := hI.1.2 52 (by decide)
  obtain ⟨v_m_th, rfl⟩ := kd_52.mp k_m
  obtain ⟨e_mp, w_mp, k_mp⟩ := hI.1.2 53 (by decide)
  obtain rfl := kd_53.mp k_mp
  obtain ⟨e_mf, w_mf, k_mf⟩ := hI.1.2 54 (by decide)
  obtain ⟨v_mf_f, rfl⟩ := kd_54.mp k_mf
  obtain ⟨e_mh, w_mh, k_mh⟩ := hI.1.2 55 (by decide)
  obtain ⟨v_mh_f, rfl⟩ := kd_55.mp k_mh
  obtain ⟨e_mt, w_mt, k_mt⟩ := hI.1.2 57 (by decide)
  obtain ⟨v_mt_f, rfl⟩ := kd_57.mp k_mt
  obtain ⟨e_mz, w_mz, k_mz⟩ := hI.1.2 58 (by decide)
  obtain ⟨v_mz_f, rfl⟩ := kd_58.mp k_mz
  obtain ⟨e_mn, w_mn, k_mn⟩ := hI.1.2 56 (by decide)
  obtain ⟨v_mn_f, rfl⟩ := kd_56.mp k_mn
  obtain ⟨e_mc_, w_mc_, k_mc_⟩ := hI.1.2 59 (by decide)
  obtain ⟨v_mc__f, rfl⟩ := kd_59.mp k_mc_
  obtain ⟨e_mq, w_mq, k_mq⟩ := hI.1.2 60 (by decide)
  obtain ⟨v_mq_h, rfl⟩ := kd_60.mp k_mq
  refine ((C_Mm_shrunkW g (ad 52) (ad 53) (ad 54) (ad 55) (ad 56) (ad 57) (ad 58) (ad 59) (ad 60) (ad 61) (ad 62) (ad 63) (ad 64) (ad 65) (ad 66) (ad 67) (ad 68) v_m_th (nI ((t.1 52).2.2 0)) ((t.1 52).1 0) ((t.1 52).1 1) ((t.1 52).1 2) ((t.1 52).1 3) ((t.1 52).1 4) ((t.1 52).1 5) ((t.1 52).1 6) ((t.1 52).1 7) ((t.1 52).1 8) ((t.1 52).1 9) ((t.1 52).1 10) ((t.1 52).2.1 0) ((t.1 52).2.1 1) ((t.1 53).1) v_mf_f v_mh_f v_mn_f v_mt_f v_mz_f v_mc__f v_mq_h h hh).at (hI.1.I [52, 53, 54, 55, 57, 58, 56, 59, 60] _ rfl (by decide) (by decide) (List.forall_mem_cons.mpr ⟨w_m, (List.forall_mem_cons.mpr ⟨w_mp, (List.forall_mem_cons.mpr ⟨w_mf, (List.forall_mem_cons.mpr ⟨w_mh, (List.forall_mem_cons.mpr ⟨w_mt, (List.forall_mem_cons.mpr ⟨w_mz, (List.forall_mem_cons.mpr ⟨w_mn, (List.forall_mem_cons.mpr ⟨w_mc_, (List.forall_mem_cons.mpr ⟨w_mq, (fun _ h => nomatch h)⟩)⟩)⟩)⟩)⟩)⟩)⟩)⟩)⟩))).mono (Nat.le_of_ble_eq_true rfl) (Nat.le_of_ble_eq_true rfl) (fun o w1 hp => ?_)
  obtain ⟨cs1, hp, hi9⟩ := hp
  obtain ⟨v9, th9, fl9, he9, nx9, mt9, fz9, ic9, qn9, e1, e2⟩ := hp
  subst e1; subst e2
  exact ⟨⟨_, rfl⟩, hI.fix (t2 := t) (is := [52, 53, 54, 55, 57, 58, 56, 59, 60]) hi9 rfl ⟨kd_52.mpr ⟨_, rfl⟩, kd_53.mpr rfl, kd_54.mpr ⟨_, rfl⟩, kd_55.mpr ⟨_, rfl⟩, kd_57.mpr ⟨_, rfl⟩, kd_58.mpr ⟨_, rfl⟩, kd_56.mpr ⟨_, rfl⟩, kd_59.mpr ⟨_, rfl⟩, kd_60.mpr ⟨_, rfl⟩, trivial⟩ (by decide) (by decide) (fun _ _ _ => rfl) (fun h => h) rfl⟩
set_option maxHeartbeats 4000000 in
theorem Qx_Mm_shrunkE {g : zG} {ad : Nat → Nat} {t : zTT} {u : zNN} {w : zW} (hI : IV g ad t u w) (h : Int32) (hh : ¬ (1200 ≤ h ∧ h ≤ 1500)) : zMB g M_Mm_shrunk [.ref (ad 52), .int h] w (fun o w1 => o = .inl (some (.int 0)) ∧ IV g ad t u w1) 0 0 := by
  obtain ⟨e_m, w_m, k_m⟩ := hI.1.2 52 (by decide)
  obtain ⟨v_m_th, rfl⟩ := kd_52.mp k_m
  obtain ⟨e_mp, w_mp, k_mp⟩ := hI.1.2 53 (by decide)
  obtain rfl := kd_53.mp k_mp
  refine ((C_Mm_shrunkE g (ad 52) (ad 53) (ad 54) (ad 55) (ad 56) (ad 57) (ad 58) (ad 59) (ad 60) (ad 61) (ad 62) (ad 63) (ad 64) (ad 65) (ad 66) (ad 67) (ad 68) v_m_th (nI ((t.1 52).2.2 0)) ((t.1 52).1 0) ((t.1 52).1 1) ((t.1 52).1 2) ((t.1 52).1 3) ((t.1 52).1 4) ((t.1 52).1 5) ((t.1 52).1 6) ((t.1 52).1 7) ((t.1 52).1 8) ((t.1 52).1 9) ((t.1 52).1 10) ((t.1 52).2.1 0) ((t.1 52).2.1 1) ((t.1 53).1) h hh).at (hI.1.I [52, 53] _ rfl (by decide) (by decide) (List.forall_mem_cons.mpr ⟨w_m, (List.forall_mem_cons.mpr ⟨w_mp, (fun _ h => nomatch h)⟩)⟩))).mono (Nat.le_of_ble_eq_true rfl) (Nat.le_of_ble_eq_true rfl) (fun o w1 hp => ?_)
  obtain ⟨cs1, hp, hi9⟩ := hp
  obtain ⟨e1, e2⟩ := hp
  subst e1; subst e2
  exact ⟨rfl, hI.fix (t2 := t) (is := [52, 53]) hi9 rfl ⟨kd_52.mpr ⟨_, rfl⟩, kd_53.mpr rfl, trivial⟩ (by decide) (by decide) (fun _ _ _ => rfl) (fun h => h) rfl⟩
theorem K_Mm_shrunk {g : zG} {ad : Nat → Nat} {t : zTT} {u : zNN} {w : zW} (hI : IVm g ad t u w) (h : Int32) : zMB g M_Mm_shrunk [.ref (ad 52), .int h] w (MKx g ad t u.1) 10 300 := by
  obtain ⟨s, hI⟩ := hI
  by_cases hh : 1200 ≤ h ∧ h ≤ 1500
  · exact (Qx_Mm_shrunkW hI h hh).mono (by decide) (by decide) (fun o w1 h => ⟨h.1, u, rfl, ⟨_, h.2⟩⟩)
  · exact (Qx_Mm_shrunkE hI h hh).mono (by decide) (by decide) (fun o w1 h => ⟨⟨_, h.1⟩, u, rfl, ⟨_, h.2⟩⟩)
set_option maxHeartbeats 4000000 in
theorem Qx_Mm_shrunkAnewW {g : zG} {ad : Nat → Nat} {t : zTT} {u : zNN} {w : zW} (hI : IV g ad t u w) (h : Int32) (hh : 1200 ≤ h ∧ h ≤ 1500) : zMB g M_Mm_shrunkAnew [.ref (ad 52), .int h] w (fun o w1 => (∃ v : Int32, o = .inl (some (.int v))) ∧ IV g ad t u w1) 0 0 := by
  obtain ⟨e_m, w_m, k_m⟩ := hI.1.2 52 (by decide)
  obtain ⟨v_m_th, rfl⟩ := kd_52.mp k_m
  obtain ⟨e_mp, w_mp, k_mp⟩ := hI.1.2 53 (by decide)
  obtain rfl := kd_53.mp k_mp
  obtain ⟨e_mf, w_mf, k_mf⟩ := hI.1.2 54 (by decide)
  obtain ⟨v_mf_f, rfl⟩ := kd_54.mp k_mf
  obtain ⟨e_mh, w_mh, k_mh⟩ := hI.1.2 55 (by decide)
  obtain ⟨v_mh_f, rfl⟩ := kd_55.mp k_mh
  obtain ⟨e_mt, w_mt, k_mt⟩ := hI.1.2 57 (by decide)
  obtain ⟨v_mt_f, rfl⟩ := kd_57.mp k_mt
  obtain ⟨e_mz, w_mz, k_mz⟩ := hI.1.2 58 (by decide)
  obtain ⟨v_mz_f, rfl⟩ := kd_58.mp k_mz
  obtain ⟨e_mn, w_mn, k_mn⟩ := hI.1.2 56 (by decide)
  obtain ⟨v_mn_f, rfl⟩ := kd_56.mp k_mn
  obtain ⟨e_mc_, w_mc_, k_mc_⟩ := hI.1.2 59 (by decide)
  obtain ⟨v_mc__f, rfl⟩ := kd_59.mp k_mc_
  obtain ⟨e_mq, w_mq, k_mq⟩ := hI.1.2 60 (by decide)
  obtain ⟨v_mq_h, rfl⟩ := kd_60.mp k_mq
  refine ((C_Mm_shrunkAnewW g (ad 52) (ad 53) (ad 54) (ad 55) (ad 56) (ad 57) (ad 58) (ad 59) (ad 60) (ad 61) (ad 62) (ad 63) (ad 64) (ad 65) (ad 66) (ad 67) (ad 68) v_m_th (nI ((t.1 52).2.2 0)) ((t.1 52).1 0) ((t.1 52).1 1) ((t.1 52).1 2) ((t.1 52).1 3) ((t.1 52).1 4) ((t.1 52).1 5) ((t.1 52).1 6) ((t.1 52).1 7) ((t.1 52).1 8) ((t.1 52).1 9) ((t.1 52).1 10) ((t.1 52).2.1 0) ((t.1 52).2.1 1) ((t.1 53).1) v_mf_f v_mh_f v_mn_f v_mt_f v_mz_f v_mc__f v_mq_h h hh).at (hI.1.I [52, 53, 54, 55, 57, 58, 56, 59, 60] _ rfl (by decide) (by decide) (List.forall_mem_cons.mpr ⟨w_m, (List.forall_mem_cons.mpr ⟨w_mp, (List.forall_mem_cons.mpr ⟨w_mf, (List.forall_mem_cons.mpr ⟨w_mh, (List.forall_mem_cons.mpr ⟨w_mt, (List.forall_mem_cons.mpr ⟨w_mz, (List.forall_mem_cons.mpr ⟨w_mn, (List.forall_mem_cons.mpr ⟨w_mc_, (List.forall_mem_cons.mpr ⟨w_mq, (fun _ h => nomatch h)⟩)⟩)⟩)⟩)⟩)⟩)⟩)⟩)⟩))).mono (Nat.le_of_ble_eq_true rfl) (Nat.le_of_ble_eq_true rfl) (fun o w1 hp => ?_)
  obtain ⟨cs1, hp, hi9⟩ := hp
  obtain ⟨v9, th9, fl9, he9, nx9, mt9, fz9, ic9, qn9, e1, e2⟩ := hp
  subst e1; subst e2
  exact ⟨⟨_, rfl⟩, hI.fix (t2 := t) (is := [52, 53, 54, 55, 57, 58, 56, 59, 60]) hi9 rfl ⟨kd_52.mpr ⟨_, rfl⟩, kd_53.mpr rfl, kd_54.mpr ⟨_, rfl⟩, kd_55.mpr ⟨_, rfl⟩, kd_57.mpr ⟨_, rfl⟩, kd_58.mpr ⟨_, rfl⟩, kd_56.mpr ⟨_, rfl⟩, kd_59.mpr ⟨_, rfl⟩, kd_60.mpr ⟨_, rfl⟩, trivial⟩ (by decide) (by decide) (fun _ _ _ => rfl) (fun h => h) rfl⟩
set_option maxHeartbeats 4000000 in
theorem Qx_Mm_shrunkAnewE {g : zG} {ad : Nat → Nat} {t : zTT} {u : zNN} {w : zW} (hI : IV g ad t u w) (h : Int32) (hh : ¬ (1200 ≤ h ∧ h ≤ 1500)) : zMB g M_Mm_shrunkAnew [.ref (ad 52), .int h] w (fun o w1 => o = .inl (some (.int 0)) ∧ IV g ad t u w1) 0 0 := by
  obtain ⟨e_m, w_m, k_m⟩ := hI.1.2 52 (by decide)
  obtain ⟨v_m_th, rfl⟩ := kd_52.mp k_m
  obtain ⟨e_mp, w_mp, k_mp⟩ := hI.1.2 53 (by decide)
  obtain rfl := kd_53.mp k_mp
  refine ((C_Mm_shrunkAnewE g (ad 52) (ad 53) (ad 54) (ad 55) (ad 56) (ad 57) (ad 58) (ad 59) (ad 60) (ad 61) (ad 62) (ad 63) (ad 64) (ad 65) (ad 66) (ad 67) (ad 68) v_m_th (nI ((t.1 52).2.2 0)) ((t.1 52).1 0) ((t.1 52).1 1) ((t.1 52).1 2) ((t.1 52).1 3) ((t.1 52).1 4) ((t.1 52).1 5) ((t.1 52).1 6) ((t.1 52).1 7) ((t.1 52).1 8) ((t.1 52).1 9) ((t.1 52).1 10) ((t.1 52).2.1 0) ((t.1 52).2.1 1) ((t.1 53).1) h hh).at (hI.1.I [52, 53] _ rfl (by decide) (by decide) (List.forall_mem_cons.mpr ⟨w_m, (List.forall_mem_cons.mpr ⟨w_mp, (fun _ h => nomatch h)⟩)⟩))).mono (Nat.le_of_ble_eq_true rfl) (Nat.le_of_ble_eq_true rfl) (fun o w1 hp => ?_)
  obtain ⟨cs1, hp, hi9⟩ := hp
  obtain ⟨e1, e2⟩ := hp
  subst e1; subst e2
  exact ⟨rfl, hI.fix (t2 := t) (is := [52, 53]) hi9 rfl ⟨kd_52.mpr ⟨_, rfl⟩, kd_53.mpr rfl, trivial⟩ (by decide) (by decide) (fun _ _ _ => rfl) (fun h => h) rfl⟩
theorem K_Mm_shrunkAnew {g : zG} {ad : Nat → Nat} {t : zTT} {u : zNN} {w : zW} (hI : IVm g ad t u w) (h : Int32) : zMB g M_Mm_shrunkAnew [.ref (ad 52), .int h] w (MKx g ad t u.1) 10 300 := by
  obtain ⟨s, hI⟩ := hI
  by_cases hh : 1200 ≤ h ∧ h ≤ 1500
  · exact (Qx_Mm_shrunkAnewW hI h hh).mono (by decide) (by decide) (fun o w1 h => ⟨h.1, u, rfl, ⟨_, h.2⟩⟩)
  · exact (Qx_Mm_shrunkAnewE hI h hh).mono (by decide) (by decide) (fun o w1 h => ⟨⟨_, h.1⟩, u, rfl, ⟨_, h.2⟩⟩)
set_option maxHeartbeats 4000000 in
theorem Qx_Mm_lastPlaceW {g : zG} {ad : Nat → Nat} {t : zTT} {u : zNN} {w : zW} (hI : IV g ad t u w) (h : Int32) (hh : 1200 ≤ h ∧ h ≤ 1500) : zMB g M_Mm_lastPlace [.ref (ad 52), .int h] w (fun o w1 => (∃ v : Int32, o = .inl (some (.int v))) ∧ IV g ad t u w1) 0 0 := by
  obtain ⟨e_m, w_m, k_m⟩ := hI.1.2 52 (by decide)
  obtain ⟨v_m_th, rfl⟩ := kd_52.mp k_m
  obtain ⟨e_mp, w_mp, k_mp⟩ := hI.1.2 53 (by decide)
  obtain rfl := kd_53.mp k_mp
  obtain ⟨e_mf, w_mf, k_mf⟩ := hI.1.2 54 (by decide)
  obtain ⟨v_mf_f, rfl⟩ := kd_54.mp k_mf
  obtain ⟨e_mh, w_mh, k_mh⟩ := hI.1.2 55 (by decide)
  obtain ⟨v_mh_f, rfl⟩ := kd_55.mp k_mh
  obtain ⟨e_mt, w_mt, k_mt⟩ := hI.1.2 57 (by decide)
  obtain ⟨v_mt_f, rfl⟩ := kd_57.mp k_mt
  obtain ⟨e_mz, w_mz, k_mz⟩ := hI.1.2 58 (by decide)
  obtain ⟨v_mz_f, rfl⟩ := kd_58.mp k_mz
  obtain ⟨e_mn, w_mn, k_mn⟩ := hI.1.2 56 (by decide)
  obtain ⟨v_mn_f, rfl⟩ := kd_56.mp k_mn
  obtain ⟨e_mc_, w_mc_, k_mc_⟩ := hI.1.2 59 (by decide)
  obtain ⟨v_mc__f, rfl⟩ := kd_59.mp k_mc_
  obtain ⟨e_mq, w_mq, k_mq⟩ := hI.1.2 60 (by decide)
  obtain ⟨v_mq_h, rfl⟩ := kd_60.mp k_mq
  refine ((C_Mm_lastPlaceW g (ad 52) (ad 53) (ad 54) (ad 55) (ad 56) (ad 57) (ad 58) (ad 59) (ad 60) (ad 61) (ad 62) (ad 63) (ad 64) (ad 65) (ad 66) (ad 67) (ad 68) v_m_th (nI ((t.1 52).2.2 0)) ((t.1 52).1 0) ((t.1 52).1 1) ((t.1 52).1 2) ((t.1 52).1 3) ((t.1 52).1 4) ((t.1 52).1 5) ((t.1 52).1 6) ((t.1 52).1 7) ((t.1 52).1 8) ((t.1 52).1 9) ((t.1 52).1 10) ((t.1 52).2.1 0) ((t.1 52).2.1 1) ((t.1 53).1) v_mf_f v_mh_f v_mn_f v_mt_f v_mz_f v_mc__f v_mq_h h hh).at (hI.1.I [52, 53, 54, 55, 57, 58, 56, 59, 60] _ rfl (by decide) (by decide) (List.forall_mem_cons.mpr ⟨w_m, (List.forall_mem_cons.mpr ⟨w_mp, (List.forall_mem_cons.mpr ⟨w_mf, (List.forall_mem_cons.mpr ⟨w_mh, (List.forall_mem_cons.mpr ⟨w_mt, (List.forall_mem_cons.mpr ⟨w_mz, (List.forall_mem_cons.mpr ⟨w_mn, (List.forall_mem_cons.mpr ⟨w_mc_, (List.forall_mem_cons.mpr ⟨w_mq, (fun _ h => nomatch h)⟩)⟩)⟩)⟩)⟩)⟩)⟩)⟩)⟩))).mono (Nat.le_of_ble_eq_true rfl) (Nat.le_of_ble_eq_true rfl) (fun o w1 hp => ?_)
  obtain ⟨cs1, hp, hi9⟩ := hp
  obtain ⟨v9, th9, fl9, he9, nx9, mt9, fz9, ic9, qn9, e1, e2⟩ := hp
  subst e1; subst e2
  exact ⟨⟨_, rfl⟩, hI.fix (t2 := t) (is := [52, 53, 54, 55, 57, 58, 56, 59, 60]) hi9 rfl ⟨kd_52.mpr ⟨_, rfl⟩, kd_53.mpr rfl, kd_54.mpr ⟨_, rfl⟩, kd_55.mpr ⟨_, rfl⟩, kd_57.mpr ⟨_, rfl⟩, kd_58.mpr ⟨_, rfl⟩, kd_56.mpr ⟨_, rfl⟩, kd_59.mpr ⟨_, rfl⟩, kd_60.mpr ⟨_, rfl⟩, trivial⟩ (by decide) (by decide) (fun _ _ _ => rfl) (fun h => h) rfl⟩
set_option maxHeartbeats 4000000 in
theorem Qx_Mm_lastPlaceE {g : zG} {ad : Nat → Nat} {t : zTT} {u : zNN} {w : zW} (hI : IV g ad t u w) (h : Int32) (hh : ¬ (1200 ≤ h ∧ h ≤ 1500)) : zMB g M_Mm_lastPlace [.ref (ad 52), .int h] w (fun o w1 => o = .inl (some (.int 0)) ∧ IV g ad t u w1) 0 0 := by
  obtain ⟨e_m, w_m, k_m⟩ := hI.1.2 52 (by decide)
  obtain ⟨v_m_th, rfl⟩ := kd_52.mp k_m
  obtain ⟨e_mp, w_mp, k_mp⟩ := hI.1.2 53 (by decide)
  obtain rfl := kd_53.mp k_mp
  refine ((C_Mm_lastPlaceE g (ad 52) (ad 53) (ad 54) (ad 55) (ad 56) (ad 57) (ad 58) (ad 59) (ad 60) (ad 61) (ad 62) (ad 63) (ad 64) (ad 65) (ad 66) (ad 67) (ad 68) v_m_th (nI ((t.1 52).2.2 0)) ((t.1 52).1 0) ((t.1 52).1 1) ((t.1 52).1 2) ((t.1 52).1 3) ((t.1 52).1 4) ((t.1 52).1 5) ((t.1 52).1 6) ((t.1 52).1 7) ((t.1 52).1 8) ((t.1 52).1 9) ((t.1 52).1 10) ((t.1 52).2.1 0) ((t.1 52).2.1 1) ((t.1 53).1) h hh).at (hI.1.I [52, 53] _ rfl (by decide) (by decide) (List.forall_mem_cons.mpr ⟨w_m, (List.forall_mem_cons.mpr ⟨w_mp, (fun _ h => nomatch h)⟩)⟩))).mono (Nat.le_of_ble_eq_true rfl) (Nat.le_of_ble_eq_true rfl) (fun o w1 hp => ?_)
  obtain ⟨cs1, hp, hi9⟩ := hp
  obtain ⟨e1, e2⟩ := hp
  subst e1; subst e2
  exact ⟨rfl, hI.fix (t2 := t) (is := [52, 53]) hi9 rfl ⟨kd_52.mpr ⟨_, rfl⟩, kd_53.mpr rfl, trivial⟩ (by decide) (by decide) (fun _ _ _ => rfl) (fun h => h) rfl⟩
theorem K_Mm_lastPlace {g : zG} {ad : Nat → Nat} {t : zTT} {u : zNN} {w : zW} (hI : IVm g ad t u w) (h : Int32) : zMB g M_Mm_lastPlace [.ref (ad 52), .int h] w (MKx g ad t u.1) 10 300 := by
  obtain ⟨s, hI⟩ := hI
  by_cases hh : 1200 ≤ h ∧ h ≤ 1500
  · exact (Qx_Mm_lastPlaceW hI h hh).mono (by decide) (by decide) (fun o w1 h => ⟨h.1, u, rfl, ⟨_, h.2⟩⟩)
  · exact (Qx_Mm_lastPlaceE hI h hh).mono (by decide) (by decide) (fun o w1 h => ⟨⟨_, h.1⟩, u, rfl, ⟨_, h.2⟩⟩)
set_option maxHeartbeats 4000000 in
theorem Qx_Mm_bestFeederW {g : zG} {ad : Nat → Nat} {t : zTT} {u : zNN} {w : zW} (hI : IV g ad t u w) (h : Int32) (hh : 1200 ≤ h ∧ h ≤ 1500) : zMB g M_Mm_bestFeeder [.ref (ad 52), .int h] w (fun o w1 => (∃ v : Int32, o = .inl (some (.int v))) ∧ IV g ad t u w1) 0 0 := by
  obtain ⟨e_m, w_m, k_m⟩ := hI.1.2 52 (by decide)
  obtain ⟨v_m_th, rfl⟩ := kd_52.mp k_m
  obtain ⟨e_mp, w_mp, k_mp⟩ := hI.1.2 53 (by decide)
  obtain rfl := kd_53.mp k_mp
  obtain ⟨e_mf, w_mf, k_mf⟩ := hI.1.2 54 (by decide)
  obtain ⟨v_mf_f, rfl⟩ := kd_54.mp k_mf
  obtain ⟨e_mh, w_mh, k_mh⟩ := hI.1.2 55 (by decide)
  obtain ⟨v_mh_f, rfl⟩ := kd_55.mp k_mh
  obtain ⟨e_mt, w_mt, k_mt⟩ := hI.1.2 57 (by decide)
  obtain ⟨v_mt_f, rfl⟩ := kd_57.mp k_mt
  obtain ⟨e_mz, w_mz, k_mz⟩ := hI.1.2 58 (by decide)
  obtain ⟨v_mz_f, rfl⟩ := kd_58.mp k_mz
  obtain ⟨e_mn, w_mn, k_mn⟩ := hI.1.2 56 (by decide)
  obtain ⟨v_mn_f, rfl⟩ := kd_56.mp k_mn
  obtain ⟨e_mc_, w_mc_, k_mc_⟩ := hI.1.2 59 (by decide)
  obtain ⟨v_mc__f, rfl⟩ := kd_59.mp k_mc_
  obtain ⟨e_mq, w_mq, k_mq⟩ := hI.1.2 60 (by decide)
  obtain ⟨v_mq_h, rfl⟩ := kd_60.mp k_mq
  refine ((C_Mm_bestFeederW g (ad 52) (ad 53) (ad 54) (ad 55) (ad 56) (ad 57) (ad 58) (ad 59) (ad 60) (ad 61) (ad 62) (ad 63) (ad 64) (ad 65) (ad 66) (ad 67) (ad 68) v_m_th (nI ((t.1 52).2.2 0)) ((t.1 52).1 0) ((t.1 52).1 1) ((t.1 52).1 2) ((t.1 52).1 3) ((t.1 52).1 4) ((t.1 52).1 5) ((t.1 52).1 6) ((t.1 52).1 7) ((t.1 52).1 8) ((t.1 52).1 9) ((t.1 52).1 10) ((t.1 52).2.1 0) ((t.1 52).2.1 1) ((t.1 53).1) v_mf_f v_mh_f v_mn_f v_mt_f v_mz_f v_mc__f v_mq_h h hh).at (hI.1.I [52, 53, 54, 55, 57, 58, 56, 59, 60] _ rfl (by decide) (by decide) (List.forall_mem_cons.mpr ⟨w_m, (List.forall_mem_cons.mpr ⟨w_mp, (List.forall_mem_cons.mpr ⟨w_mf, (List.forall_mem_cons.mpr ⟨w_mh, (List.forall_mem_cons.mpr ⟨w_mt, (List.forall_mem_cons.mpr ⟨w_mz, (List.forall_mem_cons.mpr ⟨w_mn, (List.forall_mem_cons.mpr ⟨w_mc_, (List.forall_mem_cons.mpr ⟨w_mq, (fun _ h => nomatch h)⟩)⟩)⟩)⟩)⟩)⟩)⟩)⟩)⟩))).mono (Nat.le_of_ble_eq_true rfl) (Nat.le_of_ble_eq_true rfl) (fun o w1 hp => ?_)
  obtain ⟨cs1, hp, hi9⟩ := hp
  obtain ⟨v9, th9, fl9, he9, nx9, mt9, fz9, ic9, qn9, e1, e2⟩ := hp
  subst e1; subst e2
  exact ⟨⟨_, rfl⟩, hI.fix (t2 := t) (is := [52, 53, 54, 55, 57, 58, 56, 59, 60]) hi9 rfl ⟨kd_52.mpr ⟨_, rfl⟩, kd_53.mpr rfl, kd_54.mpr ⟨_, rfl⟩, kd_55.mpr ⟨_, rfl⟩, kd_57.mpr ⟨_, rfl⟩, kd_58.mpr ⟨_, rfl⟩, kd_56.mpr ⟨_, rfl⟩, kd_59.mpr ⟨_, rfl⟩, kd_60.mpr ⟨_, rfl⟩, trivial⟩ (by decide) (by decide) (fun _ _ _ => rfl) (fun h => h) rfl⟩
set_option maxHeartbeats 4000000 in
theorem Qx_Mm_bestFeederE {g : zG} {ad : Nat → Nat} {t : zTT} {u : zNN} {w : zW} (hI : IV g ad t u w) (h : Int32) (hh : ¬ (1200 ≤ h ∧ h ≤ 1500)) : zMB g M_Mm_bestFeeder [.ref (ad 52), .int h] w (fun o w1 => o = .inl (some (.int 0)) ∧ IV g ad t u w1) 0 0 := by
  obtain ⟨e_m, w_m, k_m⟩ := hI.1.2 52 (by decide)
  obtain ⟨v_m_th, rfl⟩ := kd_52.mp k_m
  obtain ⟨e_mp, w_mp, k_mp⟩ := hI.1.2 53 (by decide)
  obtain rfl := kd_53.mp k_mp
  refine ((C_Mm_bestFeederE g (ad 52) (ad 53) (ad 54) (ad 55) (ad 56) (ad 57) (ad 58) (ad 59) (ad 60) (ad 61) (ad 62) (ad 63) (ad 64) (ad 65) (ad 66) (ad 67) (ad 68) v_m_th (nI ((t.1 52).2.2 0)) ((t.1 52).1 0) ((t.1 52).1 1) ((t.1 52).1 2) ((t.1 52).1 3) ((t.1 52).1 4) ((t.1 52).1 5) ((t.1 52).1 6) ((t.1 52).1 7) ((t.1 52).1 8) ((t.1 52).1 9) ((t.1 52).1 10) ((t.1 52).2.1 0) ((t.1 52).2.1 1) ((t.1 53).1) h hh).at (hI.1.I [52, 53] _ rfl (by decide) (by decide) (List.forall_mem_cons.mpr ⟨w_m, (List.forall_mem_cons.mpr ⟨w_mp, (fun _ h => nomatch h)⟩)⟩))).mono (Nat.le_of_ble_eq_true rfl) (Nat.le_of_ble_eq_true rfl) (fun o w1 hp => ?_)
  obtain ⟨cs1, hp, hi9⟩ := hp
  obtain ⟨e1, e2⟩ := hp
  subst e1; subst e2
  exact ⟨rfl, hI.fix (t2 := t) (is := [52, 53]) hi9 rfl ⟨kd_52.mpr ⟨_, rfl⟩, kd_53.mpr rfl, trivial⟩ (by decide) (by decide) (fun _ _ _ => rfl) (fun h => h) rfl⟩
theorem K_Mm_bestFeeder {g : zG} {ad : Nat → Nat} {t : zTT} {u : zNN} {w : zW} (hI : IVm g ad t u w) (h : Int32) : zMB g M_Mm_bestFeeder [.ref (ad 52), .int h] w (MKx g ad t u.1) 10 300 := by
  obtain ⟨s, hI⟩ := hI
  by_cases hh : 1200 ≤ h ∧ h ≤ 1500
  · exact (Qx_Mm_bestFeederW hI h hh).mono (by decide) (by decide) (fun o w1 h => ⟨h.1, u, rfl, ⟨_, h.2⟩⟩)
  · exact (Qx_Mm_bestFeederE hI h hh).mono (by decide) (by decide) (fun o w1 h => ⟨⟨_, h.1⟩, u, rfl, ⟨_, h.2⟩⟩)
set_option maxHeartbeats 4000000 in
theorem Qx_Mm_millN {g : zG} {ad : Nat → Nat} {t : zTT} {u : zNN} {w : zW} (hI : IV g ad t u w) (m1 : Int32) (m2 : Int32) (m3 : Int32) (m4 : Int32) (hw : ((0 ≤ m1 ∧ m1 ≤ 20) ∧ (0 ≤ m2 ∧ m2 ≤ 20) ∧ (0 ≤ m3 ∧ m3 ≤ 20) ∧ (0 ≤ m4 ∧ m4 ≤ 50))) : zMB g M_Mm_mill [.ref (ad 52), .int m1, .int m2, .int m3, .int m4] w (fun o w1 => o = .inl (some (.int (S_Mm_strength (ad 52) (ad 53) (ad 54) (ad 55) (ad 56) (ad 57) (ad 58) (ad 59) (ad 60) (ad 61) (ad 62) (ad 63) (ad 64) (ad 65) (ad 66) (ad 67) (ad 68) 0 (nI ((t.1 52).2.2 0)) (S_Mm_most (((t.1 52).1 0) + m1)) (S_Mm_most (((t.1 52).1 1) + m2)) (S_Mm_most (((t.1 52).1 2) + m3)) (((t.1 52).1 3) - ((((t.1 52).1 3) * m4) / 100)) (((t.1 52).1 4) - ((((t.1 52).1 4) * m4) / 100)) ((t.1 52).1 5) ((t.1 52).1 6) ((t.1 52).1 7) ((t.1 52).1 8) ((t.1 52).1 9) ((t.1 52).1 10) ((t.1 52).2.1 0) ((t.1 52).2.1 1)))) ∧ IV g ad (zup t.1 [(52, ((upd (upd (upd (upd (upd ((t.1 52).1) 0 (S_Mm_most (((t.1 52).1 0) + m1))) 1 (S_Mm_most (((t.1 52).1 1) + m2))) 2 (S_Mm_most (((t.1 52).1 2) + m3))) 3 (((t.1 52).1 3) - ((((t.1 52).1 3) * m4) / 100))) 4 (((t.1 52).1 4) - ((((t.1 52).1 4) * m4) / 100))), (t.1 52).2.1, (t.1 52).2.2))], t.2) u w1) 0 0 := by
  obtain ⟨e_m, w_m, k_m⟩ := hI.1.2 52 (by decide)
  obtain ⟨v_m_th, rfl⟩ := kd_52.mp k_m
  refine ((C_Mm_millN g (ad 52) (ad 53) (ad 54) (ad 55) (ad 56) (ad 57) (ad 58) (ad 59) (ad 60) (ad 61) (ad 62) (ad 63) (ad 64) (ad 65) (ad 66) (ad 67) (ad 68) v_m_th (nI ((t.1 52).2.2 0)) ((t.1 52).1 0) ((t.1 52).1 1) ((t.1 52).1 2) ((t.1 52).1 3) ((t.1 52).1 4) ((t.1 52).1 5) ((t.1 52).1 6) ((t.1 52).1 7) ((t.1 52).1 8) ((t.1 52).1 9) ((t.1 52).1 10) ((t.1 52).2.1 0) ((t.1 52).2.1 1) m1 m2 m3 m4 hw).at (hI.1.I [52] _ rfl (by decide) (by decide) (List.forall_mem_cons.mpr ⟨w_m, (fun _ h => nomatch h)⟩))).mono (Nat.le_of_ble_eq_true rfl) (Nat.le_of_ble_eq_true rfl) (fun o w1 hp => ?_)
  obtain ⟨cs1, hp, hi9⟩ := hp
  obtain ⟨e1, e2⟩ := hp
  subst e1; subst e2
  exact ⟨rfl, hI.fix (t2 := (zup t.1 [(52, ((upd (upd (upd (upd (upd ((t.1 52).1) 0 (S_Mm_most (((t.1 52).1 0) + m1))) 1 (S_Mm_most (((t.1 52).1 1) + m2))) 2 (S_Mm_most (((t.1 52).1 2) + m3))) 3 (((t.1 52).1 3) - ((((t.1 52).1 3) * m4) / 100))) 4 (((t.1 52).1 4) - ((((t.1 52).1 4) * m4) / 100))), (t.1 52).2.1, (t.1 52).2.2))], t.2)) (is := [52]) hi9 rfl ⟨kd_52.mpr ⟨_, rfl⟩, trivial⟩ (by decide) (by decide) (fun i hi hn => zup_out (fun q => hn ((by decide : ∀ j ∈ ([52] : List Nat), j ∈ ([52] : List Nat)) i q))) (fun h => h) rfl⟩
set_option maxHeartbeats 4000000 in
theorem Qx_Mm_millE {g : zG} {ad : Nat → Nat} {t : zTT} {u : zNN} {w : zW} (hI : IV g ad t u w) (m1 : Int32) (m2 : Int32) (m3 : Int32) (m4 : Int32) (hw : ¬ ((0 ≤ m1 ∧ m1 ≤ 20) ∧ (0 ≤ m2 ∧ m2 ≤ 20) ∧ (0 ≤ m3 ∧ m3 ≤ 20) ∧ (0 ≤ m4 ∧ m4 ≤ 50))) : zMB g M_Mm_mill [.ref (ad 52), .int m1, .int m2, .int m3, .int m4] w (fun o w1 => o = .inl (some (.int 0)) ∧ IV g ad t u w1) 0 0 := by
  obtain ⟨e_m, w_m, k_m⟩ := hI.1.2 52 (by decide)
  obtain ⟨v_m_th, rfl⟩ := kd_52.mp k_m
  refine ((C_Mm_millE g (ad 52) (ad 53) (ad 54) (ad 55) (ad 56) (ad 57) (ad 58) (ad 59) (ad 60) (ad 61) (ad 62) (ad 63) (ad 64) (ad 65) (ad 66) (ad 67) (ad 68) v_m_th (nI ((t.1 52).2.2 0)) ((t.1 52).1 0) ((t.1 52).1 1) ((t.1 52).1 2) ((t.1 52).1 3) ((t.1 52).1 4) ((t.1 52).1 5) ((t.1 52).1 6) ((t.1 52).1 7) ((t.1 52).1 8) ((t.1 52).1 9) ((t.1 52).1 10) ((t.1 52).2.1 0) ((t.1 52).2.1 1) m1 m2 m3 m4 hw).at (hI.1.I [52] _ rfl (by decide) (by decide) (List.forall_mem_cons.mpr ⟨w_m, (fun _ h => nomatch h)⟩))).mono (Nat.le_of_ble_eq_true rfl) (Nat.le_of_ble_eq_true rfl) (fun o w1 hp => ?_)
  obtain ⟨cs1, hp, hi9⟩ := hp
  obtain ⟨e1, e2⟩ := hp
  subst e1; subst e2
  exact ⟨rfl, hI.fix (t2 := t) (is := [52]) hi9 rfl ⟨kd_52.mpr ⟨_, rfl⟩, trivial⟩ (by decide) (by decide) (fun _ _ _ => rfl) (fun h => h) rfl⟩
noncomputable def tK_Mm_mill (m1 m2 m3 m4 : Int32) (t : zTT) : zTT := (if (0 ≤ m1 ∧ m1 ≤ 20) ∧ (0 ≤ m2 ∧ m2 ≤ 20) ∧ (0 ≤ m3 ∧ m3 ≤ 20) ∧ (0 ≤ m4 ∧ m4 ≤ 50) then (zup t.1 [(52, ((upd (upd (upd (upd (upd ((t.1 52).1) 0 (S_Mm_most (((t.1 52).1 0) + m1))) 1 (S_Mm_most (((t.1 52).1 1) + m2))) 2 (S_Mm_most (((t.1 52).1 2) + m3))) 3 (((t.1 52).1 3) - ((((t.1 52).1 3) * m4) / 100))) 4 (((t.1 52).1 4) - ((((t.1 52).1 4) * m4) / 100))), (t.1 52).2.1, (t.1 52).2.2))], t.2) else t)
theorem K_Mm_mill {g : zG} {ad : Nat → Nat} {t : zTT} {u : zNN} {w : zW} (hI : IVm g ad t u w) (m1 m2 m3 m4 : Int32) : zMB g M_Mm_mill [.ref (ad 52), .int m1, .int m2, .int m3, .int m4] w (MKx g ad (tK_Mm_mill m1 m2 m3 m4 t) u.1) 10 300 := by
  obtain ⟨s, hI⟩ := hI
  by_cases hw : (0 ≤ m1 ∧ m1 ≤ 20) ∧ (0 ≤ m2 ∧ m2 ≤ 20) ∧ (0 ≤ m3 ∧ m3 ≤ 20) ∧ (0 ≤ m4 ∧ m4 ≤ 50)
  · have eT : (tK_Mm_mill m1 m2 m3 m4 t) = (zup t.1 [(52, ((upd (upd (upd (upd (upd ((t.1 52).1) 0 (S_Mm_most (((t.1 52).1 0) + m1))) 1 (S_Mm_most (((t.1 52).1 1) + m2))) 2 (S_Mm_most (((t.1 52).1 2) + m3))) 3 (((t.1 52).1 3) - ((((t.1 52).1 3) * m4) / 100))) 4 (((t.1 52).1 4) - ((((t.1 52).1 4) * m4) / 100))), (t.1 52).2.1, (t.1 52).2.2))], t.2) := by unfold tK_Mm_mill; rw [if_pos hw]
    rw [eT]
    exact (Qx_Mm_millN hI m1 m2 m3 m4 hw).mono (by decide) (by decide) (fun o w1 h => ⟨⟨_, h.1⟩, u, rfl, IVm.zu h.2⟩)
  · have eT : (tK_Mm_mill m1 m2 m3 m4 t) = t := by unfold tK_Mm_mill; rw [if_neg hw]
    rw [eT]
    exact (Qx_Mm_millE hI m1 m2 m3 m4 hw).mono (by decide) (by decide) (fun o w1 h => ⟨⟨_, h.1⟩, u, rfl, ⟨_, h.2⟩⟩)
set_option maxHeartbeats 4000000 in
theorem Qx_Mm_sand99 {g : zG} {ad : Nat → Nat} {t : zTT} {u : zNN} {w : zW} (hI : IV g ad t u w) : zMB g M_Mm_sand [.ref (ad 52), .int 99] w (fun o w1 => o = .inl (some (.int ((t.1 52).1 0))) ∧ IV g ad t u w1) 0 0 := by
  obtain ⟨e_m, w_m, k_m⟩ := hI.1.2 52 (by decide)
  obtain ⟨v_m_th, rfl⟩ := kd_52.mp k_m
  refine ((C_Mm_sand99 g (ad 52) (ad 53) (ad 54) (ad 55) (ad 56) (ad 57) (ad 58) (ad 59) (ad 60) (ad 61) (ad 62) (ad 63) (ad 64) (ad 65) (ad 66) (ad 67) (ad 68) v_m_th (nI ((t.1 52).2.2 0)) ((t.1 52).1 0) ((t.1 52).1 1) ((t.1 52).1 2) ((t.1 52).1 3) ((t.1 52).1 4) ((t.1 52).1 5) ((t.1 52).1 6) ((t.1 52).1 7) ((t.1 52).1 8) ((t.1 52).1 9) ((t.1 52).1 10) ((t.1 52).2.1 0) ((t.1 52).2.1 1)).at (hI.1.I [52] _ rfl (by decide) (by decide) (List.forall_mem_cons.mpr ⟨w_m, (fun _ h => nomatch h)⟩))).mono (Nat.le_of_ble_eq_true rfl) (Nat.le_of_ble_eq_true rfl) (fun o w1 hp => ?_)
  obtain ⟨cs1, hp, hi9⟩ := hp
  obtain ⟨e1, e2⟩ := hp
  subst e1; subst e2
  exact ⟨rfl, hI.fix (t2 := t) (is := [52]) hi9 rfl ⟨kd_52.mpr ⟨_, rfl⟩, trivial⟩ (by decide) (by decide) (fun _ _ _ => rfl) (fun h => h) rfl⟩
set_option maxHeartbeats 4000000 in
theorem Qx_Mm_sand119 {g : zG} {ad : Nat → Nat} {t : zTT} {u : zNN} {w : zW} (hI : IV g ad t u w) : zMB g M_Mm_sand [.ref (ad 52), .int 119] w (fun o w1 => o = .inl (some (.int ((t.1 52).1 1))) ∧ IV g ad t u w1) 0 0 := by
  obtain ⟨e_m, w_m, k_m⟩ := hI.1.2 52 (by decide)
  obtain ⟨v_m_th, rfl⟩ := kd_52.mp k_m
  refine ((C_Mm_sand119 g (ad 52) (ad 53) (ad 54) (ad 55) (ad 56) (ad 57) (ad 58) (ad 59) (ad 60) (ad 61) (ad 62) (ad 63) (ad 64) (ad 65) (ad 66) (ad 67) (ad 68) v_m_th (nI ((t.1 52).2.2 0)) ((t.1 52).1 0) ((t.1 52).1 1) ((t.1 52).1 2) ((t.1 52).1 3) ((t.1 52).1 4) ((t.1 52).1 5) ((t.1 52).1 6) ((t.1 52).1 7) ((t.1 52).1 8) ((t.1 52).1 9) ((t.1 52).1 10) ((t.1 52).2.1 0) ((t.1 52).2.1 1)).at (hI.1.I [52] _ rfl (by decide) (by decide) (List.forall_mem_cons.mpr ⟨w_m, (fun _ h => nomatch h)⟩))).mono (Nat.le_of_ble_eq_true rfl) (Nat.le_of_ble_eq_true rfl) (fun o w1 hp => ?_)
  obtain ⟨cs1, hp, hi9⟩ := hp
  obtain ⟨e1, e2⟩ := hp
  subst e1; subst e2
  exact ⟨rfl, hI.fix (t2 := t) (is := [52]) hi9 rfl ⟨kd_52.mpr ⟨_, rfl⟩, trivial⟩ (by decide) (by decide) (fun _ _ _ => rfl) (fun h => h) rfl⟩
set_option maxHeartbeats 4000000 in
theorem Qx_Mm_sand107 {g : zG} {ad : Nat → Nat} {t : zTT} {u : zNN} {w : zW} (hI : IV g ad t u w) : zMB g M_Mm_sand [.ref (ad 52), .int 107] w (fun o w1 => o = .inl (some (.int ((t.1 52).1 2))) ∧ IV g ad t u w1) 0 0 := by
  obtain ⟨e_m, w_m, k_m⟩ := hI.1.2 52 (by decide)
  obtain ⟨v_m_th, rfl⟩ := kd_52.mp k_m
  refine ((C_Mm_sand107 g (ad 52) (ad 53) (ad 54) (ad 55) (ad 56) (ad 57) (ad 58) (ad 59) (ad 60) (ad 61) (ad 62) (ad 63) (ad 64) (ad 65) (ad 66) (ad 67) (ad 68) v_m_th (nI ((t.1 52).2.2 0)) ((t.1 52).1 0) ((t.1 52).1 1) ((t.1 52).1 2) ((t.1 52).1 3) ((t.1 52).1 4) ((t.1 52).1 5) ((t.1 52).1 6) ((t.1 52).1 7) ((t.1 52).1 8) ((t.1 52).1 9) ((t.1 52).1 10) ((t.1 52).2.1 0) ((t.1 52).2.1 1)).at (hI.1.I [52] _ rfl (by decide) (by decide) (List.forall_mem_cons.mpr ⟨w_m, (fun _ h => nomatch h)⟩))).mono (Nat.le_of_ble_eq_true rfl) (Nat.le_of_ble_eq_true rfl) (fun o w1 hp => ?_)
  obtain ⟨cs1, hp, hi9⟩ := hp
  obtain ⟨e1, e2⟩ := hp
  subst e1; subst e2
  exact ⟨rfl, hI.fix (t2 := t) (is := [52]) hi9 rfl ⟨kd_52.mpr ⟨_, rfl⟩, trivial⟩ (by decide) (by decide) (fun _ _ _ => rfl) (fun h => h) rfl⟩
set_option maxHeartbeats 4000000 in
theorem Qx_Mm_sand102 {g : zG} {ad : Nat → Nat} {t : zTT} {u : zNN} {w : zW} (hI : IV g ad t u w) : zMB g M_Mm_sand [.ref (ad 52), .int 102] w (fun o w1 => o = .inl (some (.int ((t.1 52).1 3))) ∧ IV g ad t u w1) 0 0 := by
  obtain ⟨e_m, w_m, k_m⟩ := hI.1.2 52 (by decide)
  obtain ⟨v_m_th, rfl⟩ := kd_52.mp k_m
  refine ((C_Mm_sand102 g (ad 52) (ad 53) (ad 54) (ad 55) (ad 56) (ad 57) (ad 58) (ad 59) (ad 60) (ad 61) (ad 62) (ad 63) (ad 64) (ad 65) (ad 66) (ad 67) (ad 68) v_m_th (nI ((t.1 52).2.2 0)) ((t.1 52).1 0) ((t.1 52).1 1) ((t.1 52).1 2) ((t.1 52).1 3) ((t.1 52).1 4) ((t.1 52).1 5) ((t.1 52).1 6) ((t.1 52).1 7) ((t.1 52).1 8) ((t.1 52).1 9) ((t.1 52).1 10) ((t.1 52).2.1 0) ((t.1 52).2.1 1)).at (hI.1.I [52] _ rfl (by decide) (by decide) (List.forall_mem_cons.mpr ⟨w_m, (fun _ h => nomatch h)⟩))).mono (Nat.le_of_ble_eq_true rfl) (Nat.le_of_ble_eq_true rfl) (fun o w1 hp => ?_)
  obtain ⟨cs1, hp, hi9⟩ := hp
  obtain ⟨e1, e2⟩ := hp
  subst e1; subst e2
  exact ⟨rfl, hI.fix (t2 := t) (is := [52]) hi9 rfl ⟨kd_52.mpr ⟨_, rfl⟩, trivial⟩ (by decide) (by decide) (fun _ _ _ => rfl) (fun h => h) rfl⟩
set_option maxHeartbeats 4000000 in
theorem Qx_Mm_sand98 {g : zG} {ad : Nat → Nat} {t : zTT} {u : zNN} {w : zW} (hI : IV g ad t u w) : zMB g M_Mm_sand [.ref (ad 52), .int 98] w (fun o w1 => o = .inl (some (.int ((t.1 52).1 4))) ∧ IV g ad t u w1) 0 0 := by
  obtain ⟨e_m, w_m, k_m⟩ := hI.1.2 52 (by decide)
  obtain ⟨v_m_th, rfl⟩ := kd_52.mp k_m
  refine ((C_Mm_sand98 g (ad 52) (ad 53) (ad 54) (ad 55) (ad 56) (ad 57) (ad 58) (ad 59) (ad 60) (ad 61) (ad 62) (ad 63) (ad 64) (ad 65) (ad 66) (ad 67) (ad 68) v_m_th (nI ((t.1 52).2.2 0)) ((t.1 52).1 0) ((t.1 52).1 1) ((t.1 52).1 2) ((t.1 52).1 3) ((t.1 52).1 4) ((t.1 52).1 5) ((t.1 52).1 6) ((t.1 52).1 7) ((t.1 52).1 8) ((t.1 52).1 9) ((t.1 52).1 10) ((t.1 52).2.1 0) ((t.1 52).2.1 1)).at (hI.1.I [52] _ rfl (by decide) (by decide) (List.forall_mem_cons.mpr ⟨w_m, (fun _ h => nomatch h)⟩))).mono (Nat.le_of_ble_eq_true rfl) (Nat.le_of_ble_eq_true rfl) (fun o w1 hp => ?_)
  obtain ⟨cs1, hp, hi9⟩ := hp
  obtain ⟨e1, e2⟩ := hp
  subst e1; subst e2
  exact ⟨rfl, hI.fix (t2 := t) (is := [52]) hi9 rfl ⟨kd_52.mpr ⟨_, rfl⟩, trivial⟩ (by decide) (by decide) (fun _ _ _ => rfl) (fun h => h) rfl⟩
set_option maxHeartbeats 4000000 in
theorem Qx_Mm_sand115 {g : zG} {ad : Nat → Nat} {t : zTT} {u : zNN} {w : zW} (hI : IV g ad t u w) : zMB g M_Mm_sand [.ref (ad 52), .int 115] w (fun o w1 => o = .inl (some (.int (S_Mm_strength (ad 52) (ad 53) (ad 54) (ad 55) (ad 56) (ad 57) (ad 58) (ad 59) (ad 60) (ad 61) (ad 62) (ad 63) (ad 64) (ad 65) (ad 66) (ad 67) (ad 68) 0 (nI ((t.1 52).2.2 0)) ((t.1 52).1 0) ((t.1 52).1 1) ((t.1 52).1 2) ((t.1 52).1 3) ((t.1 52).1 4) ((t.1 52).1 5) ((t.1 52).1 6) ((t.1 52).1 7) ((t.1 52).1 8) ((t.1 52).1 9) ((t.1 52).1 10) ((t.1 52).2.1 0) ((t.1 52).2.1 1)))) ∧ IV g ad t u w1) 0 0 := by
  obtain ⟨e_m, w_m, k_m⟩ := hI.1.2 52 (by decide)
  obtain ⟨v_m_th, rfl⟩ := kd_52.mp k_m
  refine ((C_Mm_sand115 g (ad 52) (ad 53) (ad 54) (ad 55) (ad 56) (ad 57) (ad 58) (ad 59) (ad 60) (ad 61) (ad 62) (ad 63) (ad 64) (ad 65) (ad 66) (ad 67) (ad 68) v_m_th (nI ((t.1 52).2.2 0)) ((t.1 52).1 0) ((t.1 52).1 1) ((t.1 52).1 2) ((t.1 52).1 3) ((t.1 52).1 4) ((t.1 52).1 5) ((t.1 52).1 6) ((t.1 52).1 7) ((t.1 52).1 8) ((t.1 52).1 9) ((t.1 52).1 10) ((t.1 52).2.1 0) ((t.1 52).2.1 1)).at (hI.1.I [52] _ rfl (by decide) (by decide) (List.forall_mem_cons.mpr ⟨w_m, (fun _ h => nomatch h)⟩))).mono (Nat.le_of_ble_eq_true rfl) (Nat.le_of_ble_eq_true rfl) (fun o w1 hp => ?_)
  obtain ⟨cs1, hp, hi9⟩ := hp
  obtain ⟨e1, e2⟩ := hp
  subst e1; subst e2
  exact ⟨rfl, hI.fix (t2 := t) (is := [52]) hi9 rfl ⟨kd_52.mpr ⟨_, rfl⟩, trivial⟩ (by decide) (by decide) (fun _ _ _ => rfl) (fun h => h) rfl⟩
set_option maxHeartbeats 4000000 in
theorem Qx_Mm_sand100 {g : zG} {ad : Nat → Nat} {t : zTT} {u : zNN} {w : zW} (hI : IV g ad t u w) : zMB g M_Mm_sand [.ref (ad 52), .int 100] w (fun o w1 => o = .inl (some (.int (S_Mm_draught (ad 52) (ad 53) (ad 54) (ad 55) (ad 56) (ad 57) (ad 58) (ad 59) (ad 60) (ad 61) (ad 62) (ad 63) (ad 64) (ad 65) (ad 66) (ad 67) (ad 68) 0 (nI ((t.1 52).2.2 0)) ((t.1 52).1 0) ((t.1 52).1 1) ((t.1 52).1 2) ((t.1 52).1 3) ((t.1 52).1 4) ((t.1 52).1 5) ((t.1 52).1 6) ((t.1 52).1 7) ((t.1 52).1 8) ((t.1 52).1 9) ((t.1 52).1 10) ((t.1 52).2.1 0) ((t.1 52).2.1 1)))) ∧ IV g ad t u w1) 0 0 := by
  obtain ⟨e_m, w_m, k_m⟩ := hI.1.2 52 (by decide)
  obtain ⟨v_m_th, rfl⟩ := kd_52.mp k_m
  refine ((C_Mm_sand100 g (ad 52) (ad 53) (ad 54) (ad 55) (ad 56) (ad 57) (ad 58) (ad 59) (ad 60) (ad 61) (ad 62) (ad 63) (ad 64) (ad 65) (ad 66) (ad 67) (ad 68) v_m_th (nI ((t.1 52).2.2 0)) ((t.1 52).1 0) ((t.1 52).1 1) ((t.1 52).1 2) ((t.1 52).1 3) ((t.1 52).1 4) ((t.1 52).1 5) ((t.1 52).1 6) ((t.1 52).1 7) ((t.1 52).1 8) ((t.1 52).1 9) ((t.1 52).1 10) ((t.1 52).2.1 0) ((t.1 52).2.1 1)).at (hI.1.I [52] _ rfl (by decide) (by decide) (List.forall_mem_cons.mpr ⟨w_m, (fun _ h => nomatch h)⟩))).mono (Nat.le_of_ble_eq_true rfl) (Nat.le_of_ble_eq_true rfl) (fun o w1 hp => ?_)
  obtain ⟨cs1, hp, hi9⟩ := hp
  obtain ⟨e1, e2⟩ := hp
  subst e1; subst e2
  exact ⟨rfl, hI.fix (t2 := t) (is := [52]) hi9 rfl ⟨kd_52.mpr ⟨_, rfl⟩, trivial⟩ (by decide) (by decide) (fun _ _ _ => rfl) (fun h => h) rfl⟩
set_option maxHeartbeats 4000000 in
theorem Qx_Mm_sandE {g : zG} {ad : Nat → Nat} {t : zTT} {u : zNN} {w : zW} (hI : IV g ad t u w) (w8 : Int32) (hw : z_ix 5 w8 < 0) : zMB g M_Mm_sand [.ref (ad 52), .int w8] w (fun o w1 => o = .inl (some (.int 0)) ∧ IV g ad t u w1) 0 0 := by
  obtain ⟨e_m, w_m, k_m⟩ := hI.1.2 52 (by decide)
  obtain ⟨v_m_th, rfl⟩ := kd_52.mp k_m
  refine ((C_Mm_sandE g (ad 52) (ad 53) (ad 54) (ad 55) (ad 56) (ad 57) (ad 58) (ad 59) (ad 60) (ad 61) (ad 62) (ad 63) (ad 64) (ad 65) (ad 66) (ad 67) (ad 68) v_m_th (nI ((t.1 52).2.2 0)) ((t.1 52).1 0) ((t.1 52).1 1) ((t.1 52).1 2) ((t.1 52).1 3) ((t.1 52).1 4) ((t.1 52).1 5) ((t.1 52).1 6) ((t.1 52).1 7) ((t.1 52).1 8) ((t.1 52).1 9) ((t.1 52).1 10) ((t.1 52).2.1 0) ((t.1 52).2.1 1) w8 hw).at (hI.1.I [52] _ rfl (by decide) (by decide) (List.forall_mem_cons.mpr ⟨w_m, (fun _ h => nomatch h)⟩))).mono (Nat.le_of_ble_eq_true rfl) (Nat.le_of_ble_eq_true rfl) (fun o w1 hp => ?_)
  obtain ⟨cs1, hp, hi9⟩ := hp
  obtain ⟨e1, e2⟩ := hp
  subst e1; subst e2
  exact ⟨rfl, hI.fix (t2 := t) (is := [52]) hi9 rfl ⟨kd_52.mpr ⟨_, rfl⟩, trivial⟩ (by decide) (by decide) (fun _ _ _ => rfl) (fun h => h) rfl⟩
theorem K_Mm_sand {g : zG} {ad : Nat → Nat} {t : zTT} {u : zNN} {w : zW} (hI : IVm g ad t u w) (w9 : Int32) : zMB g M_Mm_sand [.ref (ad 52), .int w9] w (MKx g ad t u.1) 10 300 := by
  obtain ⟨s, hI⟩ := hI
  by_cases hn : (w9 = 99 ∨ w9 = 119 ∨ w9 = 107 ∨ w9 = 102 ∨ w9 = 98 ∨ w9 = 115 ∨ w9 = 100)
  · rcases hn with rfl | rfl | rfl | rfl | rfl | rfl | rfl
    · exact (Qx_Mm_sand99 hI).mono (by decide) (by decide) (fun o w1 h => ⟨⟨_, h.1⟩, u, rfl, ⟨_, h.2⟩⟩)
    · exact (Qx_Mm_sand119 hI).mono (by decide) (by decide) (fun o w1 h => ⟨⟨_, h.1⟩, u, rfl, ⟨_, h.2⟩⟩)
    · exact (Qx_Mm_sand107 hI).mono (by decide) (by decide) (fun o w1 h => ⟨⟨_, h.1⟩, u, rfl, ⟨_, h.2⟩⟩)
    · exact (Qx_Mm_sand102 hI).mono (by decide) (by decide) (fun o w1 h => ⟨⟨_, h.1⟩, u, rfl, ⟨_, h.2⟩⟩)
    · exact (Qx_Mm_sand98 hI).mono (by decide) (by decide) (fun o w1 h => ⟨⟨_, h.1⟩, u, rfl, ⟨_, h.2⟩⟩)
    · exact (Qx_Mm_sand115 hI).mono (by decide) (by decide) (fun o w1 h => ⟨⟨_, h.1⟩, u, rfl, ⟨_, h.2⟩⟩)
    · exact (Qx_Mm_sand100 hI).mono (by decide) (by decide) (fun o w1 h => ⟨⟨_, h.1⟩, u, rfl, ⟨_, h.2⟩⟩)
  · exact (Qx_Mm_sandE hI w9 (z_ix5 hn)).mono (by decide) (by decide) (fun o w1 h => ⟨⟨_, h.1⟩, u, rfl, ⟨_, h.2⟩⟩)
set_option maxHeartbeats 4000000 in
theorem Qx_Mm_charge112G9 {g : zG} {ad : Nat → Nat} {t : zTT} {u : zNN} {w : zW} (hI : IV g ad t u w) (h : Int32) (hw : (1 ≤ h ∧ h ≤ 1000)) (hg : 3000 < ((t.1 63).1) 0 + h) : zMB g M_Mm_charge [.ref (ad 52), .int 112, .int h] w (fun o w1 => o = .inl (some (.int 0)) ∧ IV g ad t u w1) 0 0 := by
  obtain ⟨e_m, w_m, k_m⟩ := hI.1.2 52 (by decide)
  obtain ⟨v_m_th, rfl⟩ := kd_52.mp k_m
  obtain ⟨e_mi, w_mi, k_mi⟩ := hI.1.2 63 (by decide)
  obtain rfl := kd_63.mp k_mi
  obtain ⟨e_mr, w_mr, k_mr⟩ := hI.1.2 64 (by decide)
  obtain rfl := kd_64.mp k_mr
  refine ((C_Mm_charge112G9 g (ad 52) (ad 53) (ad 54) (ad 55) (ad 56) (ad 57) (ad 58) (ad 59) (ad 60) (ad 61) (ad 62) (ad 63) (ad 64) (ad 65) (ad 66) (ad 67) (ad 68) v_m_th (nI ((t.1 52).2.2 0)) ((t.1 52).1 0) ((t.1 52).1 1) ((t.1 52).1 2) ((t.1 52).1 3) ((t.1 52).1 4) ((t.1 52).1 5) ((t.1 52).1 6) ((t.1 52).1 7) ((t.1 52).1 8) ((t.1 52).1 9) ((t.1 52).1 10) ((t.1 52).2.1 0) ((t.1 52).2.1 1) ((t.1 63).1) ((t.1 64).2.1) h hw hg).at (hI.1.I [52, 63, 64] _ rfl (by decide) (by decide) (List.forall_mem_cons.mpr ⟨w_m, (List.forall_mem_cons.mpr ⟨w_mi, (List.forall_mem_cons.mpr ⟨w_mr, (fun _ h => nomatch h)⟩)⟩)⟩))).mono (Nat.le_of_ble_eq_true rfl) (Nat.le_of_ble_eq_true rfl) (fun o w1 hp => ?_)
  obtain ⟨cs1, hp, hi9⟩ := hp
  obtain ⟨e1, e2⟩ := hp
  subst e1; subst e2
  exact ⟨rfl, hI.fix (t2 := t) (is := [52, 63, 64]) hi9 rfl ⟨kd_52.mpr ⟨_, rfl⟩, kd_63.mpr rfl, kd_64.mpr rfl, trivial⟩ (by decide) (by decide) (fun _ _ _ => rfl) (fun h => h) rfl⟩
set_option maxHeartbeats 4000000 in
theorem Qx_Mm_charge112N {g : zG} {ad : Nat → Nat} {t : zTT} {u : zNN} {w : zW} (hI : IV g ad t u w) (m1 : Int32) (hw : (1 ≤ m1 ∧ m1 ≤ 1000)) (hg3 : ¬ 3000 < ((t.1 63).1) 0 + m1) : zMB g M_Mm_charge [.ref (ad 52), .int 112, .int m1] w (fun o w1 => o = .inl (some (.int (((t.1 63).1) 0 + m1))) ∧ IV g ad (zup t.1 [(63, (upd ((t.1 63).1) 0 (((t.1 63).1) 0 + m1), (t.1 63).2)), (64, ((t.1 64).1, lfd ((t.1 64).2.1) (fun e => chS m1 0 e / 10) 4, (t.1 64).2.2))], t.2) u w1) 0 0 := by
  obtain ⟨e_m, w_m, k_m⟩ := hI.1.2 52 (by decide)
  obtain ⟨v_m_th, rfl⟩ := kd_52.mp k_m
  obtain ⟨e_mi, w_mi, k_mi⟩ := hI.1.2 63 (by decide)
  obtain rfl := kd_63.mp k_mi
  obtain ⟨e_mr, w_mr, k_mr⟩ := hI.1.2 64 (by decide)
  obtain rfl := kd_64.mp k_mr
  refine ((C_Mm_charge112N g (ad 52) (ad 53) (ad 54) (ad 55) (ad 56) (ad 57) (ad 58) (ad 59) (ad 60) (ad 61) (ad 62) (ad 63) (ad 64) (ad 65) (ad 66) (ad 67) (ad 68) v_m_th (nI ((t.1 52).2.2 0)) ((t.1 52).1 0) ((t.1 52).1 1) ((t.1 52).1 2) ((t.1 52).1 3) ((t.1 52).1 4) ((t.1 52).1 5) ((t.1 52).1 6) ((t.1 52).1 7) ((t.1 52).1 8) ((t.1 52).1 9) ((t.1 52).1 10) ((t.1 52).2.1 0) ((t.1 52).2.1 1) ((t.1 63).1) ((t.1 64).2.1) m1 hw hg3).at (hI.1.I [52, 63, 64] _ rfl (by decide) (by decide) (List.forall_mem_cons.mpr ⟨w_m, (List.forall_mem_cons.mpr ⟨w_mi, (List.forall_mem_cons.mpr ⟨w_mr, (fun _ h => nomatch h)⟩)⟩)⟩))).mono (Nat.le_of_ble_eq_true rfl) (Nat.le_of_ble_eq_true rfl) (fun o w1 hp => ?_)
  obtain ⟨cs1, hp, hi9⟩ := hp
  obtain ⟨e1, e2⟩ := hp
  subst e1; subst e2
  exact ⟨rfl, hI.fix (t2 := (zup t.1 [(63, (upd ((t.1 63).1) 0 (((t.1 63).1) 0 + m1), (t.1 63).2)), (64, ((t.1 64).1, lfd ((t.1 64).2.1) (fun e => chS m1 0 e / 10) 4, (t.1 64).2.2))], t.2)) (is := [52, 63, 64]) hi9 rfl ⟨kd_52.mpr ⟨_, rfl⟩, kd_63.mpr rfl, kd_64.mpr rfl, trivial⟩ (by decide) (by decide) (fun i hi hn => zup_out (fun q => hn ((by decide : ∀ j ∈ ([63, 64] : List Nat), j ∈ ([52, 63, 64] : List Nat)) i q))) (fun h => h) rfl⟩
set_option maxHeartbeats 4000000 in
theorem Qx_Mm_charge115G9 {g : zG} {ad : Nat → Nat} {t : zTT} {u : zNN} {w : zW} (hI : IV g ad t u w) (h : Int32) (hw : (1 ≤ h ∧ h ≤ 1000)) (hg : 3000 < ((t.1 63).1) 0 + h) : zMB g M_Mm_charge [.ref (ad 52), .int 115, .int h] w (fun o w1 => o = .inl (some (.int 0)) ∧ IV g ad t u w1) 0 0 := by
  obtain ⟨e_m, w_m, k_m⟩ := hI.1.2 52 (by decide)
  obtain ⟨v_m_th, rfl⟩ := kd_52.mp k_m
  obtain ⟨e_mi, w_mi, k_mi⟩ := hI.1.2 63 (by decide)
  obtain rfl := kd_63.mp k_mi
  obtain ⟨e_mr, w_mr, k_mr⟩ := hI.1.2 64 (by decide)
  obtain rfl := kd_64.mp k_mr
  refine ((C_Mm_charge115G9 g (ad 52) (ad 53) (ad 54) (ad 55) (ad 56) (ad 57) (ad 58) (ad 59) (ad 60) (ad 61) (ad 62) (ad 63) (ad 64) (ad 65) (ad 66) (ad 67) (ad 68) v_m_th (nI ((t.1 52).2.2 0)) ((t.1 52).1 0) ((t.1 52).1 1) ((t.1 52).1 2) ((t.1 52).1 3) ((t.1 52).1 4) ((t.1 52).1 5) ((t.1 52).1 6) ((t.1 52).1 7) ((t.1 52).1 8) ((t.1 52).1 9) ((t.1 52).1 10) ((t.1 52).2.1 0) ((t.1 52).2.1 1) ((t.1 63).1) ((t.1 64).2.1) h hw hg).at (hI.1.I [52, 63, 64] _ rfl (by decide) (by decide) (List.forall_mem_cons.mpr ⟨w_m, (List.forall_mem_cons.mpr ⟨w_mi, (List.forall_mem_cons.mpr ⟨w_mr, (fun _ h => nomatch h)⟩)⟩)⟩))).mono (Nat.le_of_ble_eq_true rfl) (Nat.le_of_ble_eq_true rfl) (fun o w1 hp => ?_)
  obtain ⟨cs1, hp, hi9⟩ := hp
  obtain ⟨e1, e2⟩ := hp
  subst e1; subst e2
  exact ⟨rfl, hI.fix (t2 := t) (is := [52, 63, 64]) hi9 rfl ⟨kd_52.mpr ⟨_, rfl⟩, kd_63.mpr rfl, kd_64.mpr rfl, trivial⟩ (by decide) (by decide) (fun _ _ _ => rfl) (fun h => h) rfl⟩
set_option maxHeartbeats 4000000 in
theorem Qx_Mm_charge115N {g : zG} {ad : Nat → Nat} {t : zTT} {u : zNN} {w : zW} (hI : IV g ad t u w) (m1 : Int32) (hw : (1 ≤ m1 ∧ m1 ≤ 1000)) (hg3 : ¬ 3000 < ((t.1 63).1) 0 + m1) : zMB g M_Mm_charge [.ref (ad 52), .int 115, .int m1] w (fun o w1 => o = .inl (some (.int (((t.1 63).1) 0 + m1))) ∧ IV g ad (zup t.1 [(63, (upd ((t.1 63).1) 0 (((t.1 63).1) 0 + m1), (t.1 63).2)), (64, ((t.1 64).1, lfd ((t.1 64).2.1) (fun e => chS m1 1 e / 10) 4, (t.1 64).2.2))], t.2) u w1) 0 0 := by
  obtain ⟨e_m, w_m, k_m⟩ := hI.1.2 52 (by decide)
  obtain ⟨v_m_th, rfl⟩ := kd_52.mp k_m
  obtain ⟨e_mi, w_mi, k_mi⟩ := hI.1.2 63 (by decide)
  obtain rfl := kd_63.mp k_mi
  obtain ⟨e_mr, w_mr, k_mr⟩ := hI.1.2 64 (by decide)
  obtain rfl := kd_64.mp k_mr
  refine ((C_Mm_charge115N g (ad 52) (ad 53) (ad 54) (ad 55) (ad 56) (ad 57) (ad 58) (ad 59) (ad 60) (ad 61) (ad 62) (ad 63) (ad 64) (ad 65) (ad 66) (ad 67) (ad 68) v_m_th (nI ((t.1 52).2.2 0)) ((t.1 52).1 0) ((t.1 52).1 1) ((t.1 52).1 2) ((t.1 52).1 3) ((t.1 52).1 4) ((t.1 52).1 5) ((t.1 52).1 6) ((t.1 52).1 7) ((t.1 52).1 8) ((t.1 52).1 9) ((t.1 52).1 10) ((t.1 52).2.1 0) ((t.1 52).2.1 1) ((t.1 63).1) ((t.1 64).2.1) m1 hw hg3).at (hI.1.I [52, 63, 64] _ rfl (by decide) (by decide) (List.forall_mem_cons.mpr ⟨w_m, (List.forall_mem_cons.mpr ⟨w_mi, (List.forall_mem_cons.mpr ⟨w_mr, (fun _ h => nomatch h)⟩)⟩)⟩))).mono (Nat.le_of_ble_eq_true rfl) (Nat.le_of_ble_eq_true rfl) (fun o w1 hp => ?_)
  obtain ⟨cs1, hp, hi9⟩ := hp
  obtain ⟨e1, e2⟩ := hp
  subst e1; subst e2
  exact ⟨rfl, hI.fix (t2 := (zup t.1 [(63, (upd ((t.1 63).1) 0 (((t.1 63).1) 0 + m1), (t.1 63).2)), (64, ((t.1 64).1, lfd ((t.1 64).2.1) (fun e => chS m1 1 e / 10) 4, (t.1 64).2.2))], t.2)) (is := [52, 63, 64]) hi9 rfl ⟨kd_52.mpr ⟨_, rfl⟩, kd_63.mpr rfl, kd_64.mpr rfl, trivial⟩ (by decide) (by decide) (fun i hi hn => zup_out (fun q => hn ((by decide : ∀ j ∈ ([63, 64] : List Nat), j ∈ ([52, 63, 64] : List Nat)) i q))) (fun h => h) rfl⟩
set_option maxHeartbeats 4000000 in
theorem Qx_Mm_charge102G9 {g : zG} {ad : Nat → Nat} {t : zTT} {u : zNN} {w : zW} (hI : IV g ad t u w) (h : Int32) (hw : (1 ≤ h ∧ h ≤ 1000)) (hg : 3000 < ((t.1 63).1) 0 + h) : zMB g M_Mm_charge [.ref (ad 52), .int 102, .int h] w (fun o w1 => o = .inl (some (.int 0)) ∧ IV g ad t u w1) 0 0 := by
  obtain ⟨e_m, w_m, k_m⟩ := hI.1.2 52 (by decide)
  obtain ⟨v_m_th, rfl⟩ := kd_52.mp k_m
  obtain ⟨e_mi, w_mi, k_mi⟩ := hI.1.2 63 (by decide)
  obtain rfl := kd_63.mp k_mi
  obtain ⟨e_mr, w_mr, k_mr⟩ := hI.1.2 64 (by decide)
  obtain rfl := kd_64.mp k_mr
  refine ((C_Mm_charge102G9 g (ad 52) (ad 53) (ad 54) (ad 55) (ad 56) (ad 57) (ad 58) (ad 59) (ad 60) (ad 61) (ad 62) (ad 63) (ad 64) (ad 65) (ad 66) (ad 67) (ad 68) v_m_th (nI ((t.1 52).2.2 0)) ((t.1 52).1 0) ((t.1 52).1 1) ((t.1 52).1 2) ((t.1 52).1 3) ((t.1 52).1 4) ((t.1 52).1 5) ((t.1 52).1 6) ((t.1 52).1 7) ((t.1 52).1 8) ((t.1 52).1 9) ((t.1 52).1 10) ((t.1 52).2.1 0) ((t.1 52).2.1 1) ((t.1 63).1) ((t.1 64).2.1) h hw hg).at (hI.1.I [52, 63, 64] _ rfl (by decide) (by decide) (List.forall_mem_cons.mpr ⟨w_m, (List.forall_mem_cons.mpr ⟨w_mi, (List.forall_mem_cons.mpr ⟨w_mr, (fun _ h => nomatch h)⟩)⟩)⟩))).mono (Nat.le_of_ble_eq_true rfl) (Nat.le_of_ble_eq_true rfl) (fun o w1 hp => ?_)
  obtain ⟨cs1, hp, hi9⟩ := hp
  obtain ⟨e1, e2⟩ := hp
  subst e1; subst e2
  exact ⟨rfl, hI.fix (t2 := t) (is := [52, 63, 64]) hi9 rfl ⟨kd_52.mpr ⟨_, rfl⟩, kd_63.mpr rfl, kd_64.mpr rfl, trivial⟩ (by decide) (by decide) (fun _ _ _ => rfl) (fun h => h) rfl⟩
set_option maxHeartbeats 4000000 in
theorem Qx_Mm_charge102N {g : zG} {ad : Nat → Nat} {t : zTT} {u : zNN} {w : zW} (hI : IV g ad t u w) (m1 : Int32) (hw : (1 ≤ m1 ∧ m1 ≤ 1000)) (hg3 : ¬ 3000 < ((t.1 63).1) 0 + m1) : zMB g M_Mm_charge [.ref (ad 52), .int 102, .int m1] w (fun o w1 => o = .inl (some (.int (((t.1 63).1) 0 + m1))) ∧ IV g ad (zup t.1 [(63, (upd ((t.1 63).1) 0 (((t.1 63).1) 0 + m1), (t.1 63).2)), (64, ((t.1 64).1, lfd ((t.1 64).2.1) (fun e => chS m1 2 e / 10) 4, (t.1 64).2.2))], t.2) u w1) 0 0 := by
  obtain ⟨e_m, w_m, k_m⟩ := hI.1.2 52 (by decide)
  obtain ⟨v_m_th, rfl⟩ := kd_52.mp k_m
  obtain ⟨e_mi, w_mi, k_mi⟩ := hI.1.2 63 (by decide)
  obtain rfl := kd_63.mp k_mi
  obtain ⟨e_mr, w_mr, k_mr⟩ := hI.1.2 64 (by decide)
  obtain rfl := kd_64.mp k_mr
  refine ((C_Mm_charge102N g (ad 52) (ad 53) (ad 54) (ad 55) (ad 56) (ad 57) (ad 58) (ad 59) (ad 60) (ad 61) (ad 62) (ad 63) (ad 64) (ad 65) (ad 66) (ad 67) (ad 68) v_m_th (nI ((t.1 52).2.2 0)) ((t.1 52).1 0) ((t.1 52).1 1) ((t.1 52).1 2) ((t.1 52).1 3) ((t.1 52).1 4) ((t.1 52).1 5) ((t.1 52).1 6) ((t.1 52).1 7) ((t.1 52).1 8) ((t.1 52).1 9) ((t.1 52).1 10) ((t.1 52).2.1 0) ((t.1 52).2.1 1) ((t.1 63).1) ((t.1 64).2.1) m1 hw hg3).at (hI.1.I [52, 63, 64] _ rfl (by decide) (by decide) (List.forall_mem_cons.mpr ⟨w_m, (List.forall_mem_cons.mpr ⟨w_mi, (List.forall_mem_cons.mpr ⟨w_mr, (fun _ h => nomatch h)⟩)⟩)⟩))).mono (Nat.le_of_ble_eq_true rfl) (Nat.le_of_ble_eq_true rfl) (fun o w1 hp => ?_)
  obtain ⟨cs1, hp, hi9⟩ := hp
  obtain ⟨e1, e2⟩ := hp
  subst e1; subst e2
  exact ⟨rfl, hI.fix (t2 := (zup t.1 [(63, (upd ((t.1 63).1) 0 (((t.1 63).1) 0 + m1), (t.1 63).2)), (64, ((t.1 64).1, lfd ((t.1 64).2.1) (fun e => chS m1 2 e / 10) 4, (t.1 64).2.2))], t.2)) (is := [52, 63, 64]) hi9 rfl ⟨kd_52.mpr ⟨_, rfl⟩, kd_63.mpr rfl, kd_64.mpr rfl, trivial⟩ (by decide) (by decide) (fun i hi hn => zup_out (fun q => hn ((by decide : ∀ j ∈ ([63, 64] : List Nat), j ∈ ([52, 63, 64] : List Nat)) i q))) (fun h => h) rfl⟩
set_option maxHeartbeats 4000000 in
theorem Qx_Mm_charge107N {g : zG} {ad : Nat → Nat} {t : zTT} {u : zNN} {w : zW} (hI : IV g ad t u w) (m1 : Int32) (hw : (1 ≤ m1 ∧ m1 ≤ 1000)) : zMB g M_Mm_charge [.ref (ad 52), .int 107, .int m1] w (fun o w1 => o = .inl (some (.int (((t.1 63).1) 0 + 0))) ∧ IV g ad (zup t.1 [(63, (upd ((t.1 63).1) 0 (((t.1 63).1) 0 + 0), (t.1 63).2)), (64, ((t.1 64).1, lfd ((t.1 64).2.1) (fun e => chS m1 3 e / 10) 4, (t.1 64).2.2))], t.2) u w1) 0 0 := by
  obtain ⟨e_m, w_m, k_m⟩ := hI.1.2 52 (by decide)
  obtain ⟨v_m_th, rfl⟩ := kd_52.mp k_m
  obtain ⟨e_mi, w_mi, k_mi⟩ := hI.1.2 63 (by decide)
  obtain rfl := kd_63.mp k_mi
  obtain ⟨e_mr, w_mr, k_mr⟩ := hI.1.2 64 (by decide)
  obtain rfl := kd_64.mp k_mr
  refine ((C_Mm_charge107N g (ad 52) (ad 53) (ad 54) (ad 55) (ad 56) (ad 57) (ad 58) (ad 59) (ad 60) (ad 61) (ad 62) (ad 63) (ad 64) (ad 65) (ad 66) (ad 67) (ad 68) v_m_th (nI ((t.1 52).2.2 0)) ((t.1 52).1 0) ((t.1 52).1 1) ((t.1 52).1 2) ((t.1 52).1 3) ((t.1 52).1 4) ((t.1 52).1 5) ((t.1 52).1 6) ((t.1 52).1 7) ((t.1 52).1 8) ((t.1 52).1 9) ((t.1 52).1 10) ((t.1 52).2.1 0) ((t.1 52).2.1 1) ((t.1 63).1) ((t.1 64).2.1) m1 hw).at (hI.1.I [52, 63, 64] _ rfl (by decide) (by decide) (List.forall_mem_cons.mpr ⟨w_m, (List.forall_mem_cons.mpr ⟨w_mi, (List.forall_mem_cons.mpr ⟨w_mr, (fun _ h => nomatch h)⟩)⟩)⟩))).mono (Nat.le_of_ble_eq_true rfl) (Nat.le_of_ble_eq_true rfl) (fun o w1 hp => ?_)
  obtain ⟨cs1, hp, hi9⟩ := hp
  obtain ⟨e1, e2⟩ := hp
  subst e1; subst e2
  exact ⟨rfl, hI.fix (t2 := (zup t.1 [(63, (upd ((t.1 63).1) 0 (((t.1 63).1) 0 + 0), (t.1 63).2)), (64, ((t.1 64).1, lfd ((t.1 64).2.1) (fun e => chS m1 3 e / 10) 4, (t.1 64).2.2))], t.2)) (is := [52, 63, 64]) hi9 rfl ⟨kd_52.mpr ⟨_, rfl⟩, kd_63.mpr rfl, kd_64.mpr rfl, trivial⟩ (by decide) (by decide) (fun i hi hn => zup_out (fun q => hn ((by decide : ∀ j ∈ ([63, 64] : List Nat), j ∈ ([52, 63, 64] : List Nat)) i q))) (fun h => h) rfl⟩
set_option maxHeartbeats 4000000 in
theorem Qx_Mm_charge103F {g : zG} {ad : Nat → Nat} {t : zTT} {u : zNN} {w : zW} (hI : IV g ad t u w) (m1 : Int32) (hw : (1 ≤ m1 ∧ m1 ≤ 1000)) (hf : ((t.1 63).1) 2 < m1) : zMB g M_Mm_charge [.ref (ad 52), .int 103, .int m1] w (fun o w1 => o = .inl (some (.int 0)) ∧ IV g ad t u w1) 0 0 := by
  obtain ⟨e_m, w_m, k_m⟩ := hI.1.2 52 (by decide)
  obtain ⟨v_m_th, rfl⟩ := kd_52.mp k_m
  obtain ⟨e_mi, w_mi, k_mi⟩ := hI.1.2 63 (by decide)
  obtain rfl := kd_63.mp k_mi
  refine ((C_Mm_charge103F g (ad 52) (ad 53) (ad 54) (ad 55) (ad 56) (ad 57) (ad 58) (ad 59) (ad 60) (ad 61) (ad 62) (ad 63) (ad 64) (ad 65) (ad 66) (ad 67) (ad 68) v_m_th (nI ((t.1 52).2.2 0)) ((t.1 52).1 0) ((t.1 52).1 1) ((t.1 52).1 2) ((t.1 52).1 3) ((t.1 52).1 4) ((t.1 52).1 5) ((t.1 52).1 6) ((t.1 52).1 7) ((t.1 52).1 8) ((t.1 52).1 9) ((t.1 52).1 10) ((t.1 52).2.1 0) ((t.1 52).2.1 1) ((t.1 63).1) m1 hw hf).at (hI.1.I [52, 63] _ rfl (by decide) (by decide) (List.forall_mem_cons.mpr ⟨w_m, (List.forall_mem_cons.mpr ⟨w_mi, (fun _ h => nomatch h)⟩)⟩))).mono (Nat.le_of_ble_eq_true rfl) (Nat.le_of_ble_eq_true rfl) (fun o w1 hp => ?_)
  obtain ⟨cs1, hp, hi9⟩ := hp
  obtain ⟨e1, e2⟩ := hp
  subst e1; subst e2
  exact ⟨rfl, hI.fix (t2 := t) (is := [52, 63]) hi9 rfl ⟨kd_52.mpr ⟨_, rfl⟩, kd_63.mpr rfl, trivial⟩ (by decide) (by decide) (fun _ _ _ => rfl) (fun h => h) rfl⟩
set_option maxHeartbeats 4000000 in
theorem Qx_Mm_charge103G9 {g : zG} {ad : Nat → Nat} {t : zTT} {u : zNN} {w : zW} (hI : IV g ad t u w) (h : Int32) (hw : (1 ≤ h ∧ h ≤ 1000)) (hf : ¬ ((t.1 63).1) 2 < h) (hg : 3000 < ((t.1 63).1) 0 + h) : zMB g M_Mm_charge [.ref (ad 52), .int 103, .int h] w (fun o w1 => o = .inl (some (.int 0)) ∧ IV g ad t u w1) 0 0 := by
  obtain ⟨e_m, w_m, k_m⟩ := hI.1.2 52 (by decide)
  obtain ⟨v_m_th, rfl⟩ := kd_52.mp k_m
  obtain ⟨e_mi, w_mi, k_mi⟩ := hI.1.2 63 (by decide)
  obtain rfl := kd_63.mp k_mi
  obtain ⟨e_mr, w_mr, k_mr⟩ := hI.1.2 64 (by decide)
  obtain rfl := kd_64.mp k_mr
  refine ((C_Mm_charge103G9 g (ad 52) (ad 53) (ad 54) (ad 55) (ad 56) (ad 57) (ad 58) (ad 59) (ad 60) (ad 61) (ad 62) (ad 63) (ad 64) (ad 65) (ad 66) (ad 67) (ad 68) v_m_th (nI ((t.1 52).2.2 0)) ((t.1 52).1 0) ((t.1 52).1 1) ((t.1 52).1 2) ((t.1 52).1 3) ((t.1 52).1 4) ((t.1 52).1 5) ((t.1 52).1 6) ((t.1 52).1 7) ((t.1 52).1 8) ((t.1 52).1 9) ((t.1 52).1 10) ((t.1 52).2.1 0) ((t.1 52).2.1 1) ((t.1 63).1) ((t.1 64).2.1) h hw hf hg).at (hI.1.I [52, 63, 64] _ rfl (by decide) (by decide) (List.forall_mem_cons.mpr ⟨w_m, (List.forall_mem_cons.mpr ⟨w_mi, (List.forall_mem_cons.mpr ⟨w_mr, (fun _ h => nomatch h)⟩)⟩)⟩))).mono (Nat.le_of_ble_eq_true rfl) (Nat.le_of_ble_eq_true rfl) (fun o w1 hp => ?_)
  obtain ⟨cs1, hp, hi9⟩ := hp
  obtain ⟨e1, e2⟩ := hp
  subst e1; subst e2
  exact ⟨rfl, hI.fix (t2 := t) (is := [52, 63, 64]) hi9 rfl ⟨kd_52.mpr ⟨_, rfl⟩, kd_63.mpr rfl, kd_64.mpr rfl, trivial⟩ (by decide) (by decide) (fun _ _ _ => rfl) (fun h => h) rfl⟩
set_option maxHeartbeats 4000000 in
theorem Qx_Mm_charge103N9 {g : zG} {ad : Nat → Nat} {t : zTT} {u : zNN} {w : zW} (hI : IV g ad t u w) (h : Int32) (hw : (1 ≤ h ∧ h ≤ 1000)) (hf : ¬ ((t.1 63).1) 2 < h) (hg : ¬ 3000 < ((t.1 63).1) 0 + h) : zMB g M_Mm_charge [.ref (ad 52), .int 103, .int h] w (fun o w1 => o = .inl (some (.int (mvN ((t.1 63).1) 2 0 h 0))) ∧ IV g ad (zup t.1 [(63, (mvN ((t.1 63).1) 2 0 h, (t.1 63).2)), (64, ((t.1 64).1, mvR ((t.1 64).2.1) 2 0 h (((t.1 63).1) 2) 4, (t.1 64).2.2))], t.2) u w1) 0 0 := by
  obtain ⟨e_m, w_m, k_m⟩ := hI.1.2 52 (by decide)
  obtain ⟨v_m_th, rfl⟩ := kd_52.mp k_m
  obtain ⟨e_mi, w_mi, k_mi⟩ := hI.1.2 63 (by decide)
  obtain rfl := kd_63.mp k_mi
  obtain ⟨e_mr, w_mr, k_mr⟩ := hI.1.2 64 (by decide)
  obtain rfl := kd_64.mp k_mr
  refine ((C_Mm_charge103N9 g (ad 52) (ad 53) (ad 54) (ad 55) (ad 56) (ad 57) (ad 58) (ad 59) (ad 60) (ad 61) (ad 62) (ad 63) (ad 64) (ad 65) (ad 66) (ad 67) (ad 68) v_m_th (nI ((t.1 52).2.2 0)) ((t.1 52).1 0) ((t.1 52).1 1) ((t.1 52).1 2) ((t.1 52).1 3) ((t.1 52).1 4) ((t.1 52).1 5) ((t.1 52).1 6) ((t.1 52).1 7) ((t.1 52).1 8) ((t.1 52).1 9) ((t.1 52).1 10) ((t.1 52).2.1 0) ((t.1 52).2.1 1) ((t.1 63).1) ((t.1 64).2.1) h hw hf hg).at (hI.1.I [52, 63, 64] _ rfl (by decide) (by decide) (List.forall_mem_cons.mpr ⟨w_m, (List.forall_mem_cons.mpr ⟨w_mi, (List.forall_mem_cons.mpr ⟨w_mr, (fun _ h => nomatch h)⟩)⟩)⟩))).mono (Nat.le_of_ble_eq_true rfl) (Nat.le_of_ble_eq_true rfl) (fun o w1 hp => ?_)
  obtain ⟨cs1, hp, hi9⟩ := hp
  obtain ⟨e1, e2⟩ := hp
  subst e1; subst e2
  exact ⟨rfl, hI.fix (t2 := (zup t.1 [(63, (mvN ((t.1 63).1) 2 0 h, (t.1 63).2)), (64, ((t.1 64).1, mvR ((t.1 64).2.1) 2 0 h (((t.1 63).1) 2) 4, (t.1 64).2.2))], t.2)) (is := [52, 63, 64]) hi9 rfl ⟨kd_52.mpr ⟨_, rfl⟩, kd_63.mpr rfl, kd_64.mpr rfl, trivial⟩ (by decide) (by decide) (fun i hi hn => zup_out (fun q => hn ((by decide : ∀ j ∈ ([63, 64] : List Nat), j ∈ ([52, 63, 64] : List Nat)) i q))) (fun h => h) rfl⟩
set_option maxHeartbeats 4000000 in
theorem Qx_Mm_charge100F {g : zG} {ad : Nat → Nat} {t : zTT} {u : zNN} {w : zW} (hI : IV g ad t u w) (m1 : Int32) (hw : (1 ≤ m1 ∧ m1 ≤ 1000)) (hf : ((t.1 63).1) 3 < m1) : zMB g M_Mm_charge [.ref (ad 52), .int 100, .int m1] w (fun o w1 => o = .inl (some (.int 0)) ∧ IV g ad t u w1) 0 0 := by
  obtain ⟨e_m, w_m, k_m⟩ := hI.1.2 52 (by decide)
  obtain ⟨v_m_th, rfl⟩ := kd_52.mp k_m
  obtain ⟨e_mi, w_mi, k_mi⟩ := hI.1.2 63 (by decide)
  obtain rfl := kd_63.mp k_mi
  refine ((C_Mm_charge100F g (ad 52) (ad 53) (ad 54) (ad 55) (ad 56) (ad 57) (ad 58) (ad 59) (ad 60) (ad 61) (ad 62) (ad 63) (ad 64) (ad 65) (ad 66) (ad 67) (ad 68) v_m_th (nI ((t.1 52).2.2 0)) ((t.1 52).1 0) ((t.1 52).1 1) ((t.1 52).1 2) ((t.1 52).1 3) ((t.1 52).1 4) ((t.1 52).1 5) ((t.1 52).1 6) ((t.1 52).1 7) ((t.1 52).1 8) ((t.1 52).1 9) ((t.1 52).1 10) ((t.1 52).2.1 0) ((t.1 52).2.1 1) ((t.1 63).1) m1 hw hf).at (hI.1.I [52, 63] _ rfl (by decide) (by decide) (List.forall_mem_cons.mpr ⟨w_m, (List.forall_mem_cons.mpr ⟨w_mi, (fun _ h => nomatch h)⟩)⟩))).mono (Nat.le_of_ble_eq_true rfl) (Nat.le_of_ble_eq_true rfl) (fun o w1 hp => ?_)
  obtain ⟨cs1, hp, hi9⟩ := hp
  obtain ⟨e1, e2⟩ := hp
  subst e1; subst e2
  exact ⟨rfl, hI.fix (t2 := t) (is := [52, 63]) hi9 rfl ⟨kd_52.mpr ⟨_, rfl⟩, kd_63.mpr rfl, trivial⟩ (by decide) (by decide) (fun _ _ _ => rfl) (fun h => h) rfl⟩
set_option maxHeartbeats 4000000 in
theorem Qx_Mm_charge100G9 {g : zG} {ad : Nat → Nat} {t : zTT} {u : zNN} {w : zW} (hI : IV g ad t u w) (h : Int32) (hw : (1 ≤ h ∧ h ≤ 1000)) (hf : ¬ ((t.1 63).1) 3 < h) (hg : 3000 < ((t.1 63).1) 0 + h) : zMB g M_Mm_charge [.ref (ad 52), .int 100, .int h] w (fun o w1 => o = .inl (some (.int 0)) ∧ IV g ad t u w1) 0 0 := by
  obtain ⟨e_m, w_m, k_m⟩ := hI.1.2 52 (by decide)
  obtain ⟨v_m_th, rfl⟩ := kd_52.mp k_m
  obtain ⟨e_mi, w_mi, k_mi⟩ := hI.1.2 63 (by decide)
  obtain rfl := kd_63.mp k_mi
  obtain ⟨e_mr, w_mr, k_mr⟩ := hI.1.2 64 (by decide)
  obtain rfl := kd_64.mp k_mr
  refine ((C_Mm_charge100G9 g (ad 52) (ad 53) (ad 54) (ad 55) (ad 56) (ad 57) (ad 58) (ad 59) (ad 60) (ad 61) (ad 62) (ad 63) (ad 64) (ad 65) (ad 66) (ad 67) (ad 68) v_m_th (nI ((t.1 52).2.2 0)) ((t.1 52).1 0) ((t.1 52).1 1) ((t.1 52).1 2) ((t.1 52).1 3) ((t.1 52).1 4) ((t.1 52).1 5) ((t.1 52).1 6) ((t.1 52).1 7) ((t.1 52).1 8) ((t.1 52).1 9) ((t.1 52).1 10) ((t.1 52).2.1 0) ((t.1 52).2.1 1) ((t.1 63).1) ((t.1 64).2.1) h hw hf hg).at (hI.1.I [52, 63, 64] _ rfl (by decide) (by decide) (List.forall_mem_cons.mpr ⟨w_m, (List.forall_mem_cons.mpr ⟨w_mi, (List.forall_mem_cons.mpr ⟨w_mr, (fun _ h => nomatch h)⟩)⟩)⟩))).mono (Nat.le_of_ble_eq_true rfl) (Nat.le_of_ble_eq_true rfl) (fun o w1 hp => ?_)
  obtain ⟨cs1, hp, hi9⟩ := hp
  obtain ⟨e1, e2⟩ := hp
  subst e1; subst e2
  exact ⟨rfl, hI.fix (t2 := t) (is := [52, 63, 64]) hi9 rfl ⟨kd_52.mpr ⟨_, rfl⟩, kd_63.mpr rfl, kd_64.mpr rfl, trivial⟩ (by decide) (by decide) (fun _ _ _ => rfl) (fun h => h) rfl⟩
set_option maxHeartbeats 4000000 in
theorem Qx_Mm_charge100N9 {g : zG} {ad : Nat → Nat} {t : zTT} {u : zNN} {w : zW} (hI : IV g ad t u w) (h : Int32) (hw : (1 ≤ h ∧ h ≤ 1000)) (hf : ¬ ((t.1 63).1) 3 < h) (hg : ¬ 3000 < ((t.1 63).1) 0 + h) : zMB g M_Mm_charge [.ref (ad 52), .int 100, .int h] w (fun o w1 => o = .inl (some (.int (mvN ((t.1 63).1) 3 0 h 0))) ∧ IV g ad (zup t.1 [(63, (mvN ((t.1 63).1) 3 0 h, (t.1 63).2)), (64, ((t.1 64).1, mvR ((t.1 64).2.1) 3 0 h (((t.1 63).1) 3) 4, (t.1 64).2.2))], t.2) u w1) 0 0 := by
  obtain ⟨e_m, w_m, k_m⟩ := hI.1.2 52 (by decide)
  obtain ⟨v_m_th, rfl⟩ := kd_52.mp k_m
  obtain ⟨e_mi, w_mi, k_mi⟩ := hI.1.2 63 (by decide)
  obtain rfl := kd_63.mp k_mi
  obtain ⟨e_mr, w_mr, k_mr⟩ := hI.1.2 64 (by decide)
  obtain rfl := kd_64.mp k_mr
  refine ((C_Mm_charge100N9 g (ad 52) (ad 53) (ad 54) (ad 55) (ad 56) (ad 57) (ad 58) (ad 59) (ad 60) (ad 61) (ad 62) (ad 63) (ad 64) (ad 65) (ad 66) (ad 67) (ad 68) v_m_th (nI ((t.1 52).2.2 0)) ((t.1 52).1 0) ((t.1 52).1 1) ((t.1 52).1 2) ((t.1 52).1 3) ((t.1 52).1 4) ((t.1 52).1 5) ((t.1 52).1 6) ((t.1 52).1 7) ((t.1 52).1 8) ((t.1 52).1 9) ((t.1 52).1 10) ((t.1 52).2.1 0) ((t.1 52).2.1 1) ((t.1 63).1) ((t.1 64).2.1) h hw hf hg).at (hI.1.I [52, 63, 64] _ rfl (by decide) (by decide) (List.forall_mem_cons.mpr ⟨w_m, (List.forall_mem_cons.mpr ⟨w_mi, (List.forall_mem_cons.mpr ⟨w_mr, (fun _ h => nomatch h)⟩)⟩)⟩))).mono (Nat.le_of_ble_eq_true rfl) (Nat.le_of_ble_eq_true rfl) (fun o w1 hp => ?_)
  obtain ⟨cs1, hp, hi9⟩ := hp
  obtain ⟨e1, e2⟩ := hp
  subst e1; subst e2
  exact ⟨rfl, hI.fix (t2 := (zup t.1 [(63, (mvN ((t.1 63).1) 3 0 h, (t.1 63).2)), (64, ((t.1 64).1, mvR ((t.1 64).2.1) 3 0 h (((t.1 63).1) 3) 4, (t.1 64).2.2))], t.2)) (is := [52, 63, 64]) hi9 rfl ⟨kd_52.mpr ⟨_, rfl⟩, kd_63.mpr rfl, kd_64.mpr rfl, trivial⟩ (by decide) (by decide) (fun i hi hn => zup_out (fun q => hn ((by decide : ∀ j ∈ ([63, 64] : List Nat), j ∈ ([52, 63, 64] : List Nat)) i q))) (fun h => h) rfl⟩
set_option maxHeartbeats 4000000 in
theorem Qx_Mm_chargeE {g : zG} {ad : Nat → Nat} {t : zTT} {u : zNN} {w : zW} (hI : IV g ad t u w) (k : Int32) (m1 : Int32) (hw : ¬ (0 ≤ z_ix 1 k ∧ (1 ≤ m1 ∧ m1 ≤ 1000))) : zMB g M_Mm_charge [.ref (ad 52), .int k, .int m1] w (fun o w1 => o = .inl (some (.int 0)) ∧ IV g ad t u w1) 0 0 := by
  obtain ⟨e_m, w_m, k_m⟩ := hI.1.2 52 (by decide)
  obtain ⟨v_m_th, rfl⟩ := kd_52.mp k_m
  refine ((C_Mm_chargeE g (ad 52) (ad 53) (ad 54) (ad 55) (ad 56) (ad 57) (ad 58) (ad 59) (ad 60) (ad 61) (ad 62) (ad 63) (ad 64) (ad 65) (ad 66) (ad 67) (ad 68) v_m_th (nI ((t.1 52).2.2 0)) ((t.1 52).1 0) ((t.1 52).1 1) ((t.1 52).1 2) ((t.1 52).1 3) ((t.1 52).1 4) ((t.1 52).1 5) ((t.1 52).1 6) ((t.1 52).1 7) ((t.1 52).1 8) ((t.1 52).1 9) ((t.1 52).1 10) ((t.1 52).2.1 0) ((t.1 52).2.1 1) k m1 hw).at (hI.1.I [52] _ rfl (by decide) (by decide) (List.forall_mem_cons.mpr ⟨w_m, (fun _ h => nomatch h)⟩))).mono (Nat.le_of_ble_eq_true rfl) (Nat.le_of_ble_eq_true rfl) (fun o w1 hp => ?_)
  obtain ⟨cs1, hp, hi9⟩ := hp
  obtain ⟨e1, e2⟩ := hp
  subst e1; subst e2
  exact ⟨rfl, hI.fix (t2 := t) (is := [52]) hi9 rfl ⟨kd_52.mpr ⟨_, rfl⟩, trivial⟩ (by decide) (by decide) (fun _ _ _ => rfl) (fun h => h) rfl⟩
noncomputable def tK_Mm_charge (k m : Int32) (t : zTT) : zTT := (if 0 ≤ z_ix 1 k ∧ (1 ≤ m ∧ m ≤ 1000) then (if k = 112 then (if 3000 < (t.1 63).1 0 + m then t else (zup t.1 [(63, (upd ((t.1 63).1) 0 (((t.1 63).1) 0 + m), (t.1 63).2)), (64, ((t.1 64).1, lfd ((t.1 64).2.1) (fun e => chS m 0 e / 10) 4, (t.1 64).2.2))], t.2)) else (if k = 115 then (if 3000 < (t.1 63).1 0 + m then t else (zup t.1 [(63, (upd ((t.1 63).1) 0 (((t.1 63).1) 0 + m), (t.1 63).2)), (64, ((t.1 64).1, lfd ((t.1 64).2.1) (fun e => chS m 1 e / 10) 4, (t.1 64).2.2))], t.2)) else (if k = 102 then (if 3000 < (t.1 63).1 0 + m then t else (zup t.1 [(63, (upd ((t.1 63).1) 0 (((t.1 63).1) 0 + m), (t.1 63).2)), (64, ((t.1 64).1, lfd ((t.1 64).2.1) (fun e => chS m 2 e / 10) 4, (t.1 64).2.2))], t.2)) else (if k = 107 then (zup t.1 [(63, (upd ((t.1 63).1) 0 (((t.1 63).1) 0 + 0), (t.1 63).2)), (64, ((t.1 64).1, lfd ((t.1 64).2.1) (fun e => chS m 3 e / 10) 4, (t.1 64).2.2))], t.2) else (if k = 103 then (if (t.1 63).1 2 < m then t else (if 3000 < (t.1 63).1 0 + m then t else (zup t.1 [(63, (mvN ((t.1 63).1) 2 0 m, (t.1 63).2)), (64, ((t.1 64).1, mvR ((t.1 64).2.1) 2 0 m (((t.1 63).1) 2) 4, (t.1 64).2.2))], t.2))) else (if (t.1 63).1 3 < m then t else (if 3000 < (t.1 63).1 0 + m then t else (zup t.1 [(63, (mvN ((t.1 63).1) 3 0 m, (t.1 63).2)), (64, ((t.1 64).1, mvR ((t.1 64).2.1) 3 0 m (((t.1 63).1) 3) 4, (t.1 64).2.2))], t.2)))))))) else t)
theorem K_Mm_charge {g : zG} {ad : Nat → Nat} {t : zTT} {u : zNN} {w : zW} (hI : IVm g ad t u w) (k m : Int32) : zMB g M_Mm_charge [.ref (ad 52), .int k, .int m] w (MKx g ad (tK_Mm_charge k m t) u.1) 10 300 := by
  obtain ⟨s, hI⟩ := hI
  by_cases hw : 0 ≤ z_ix 1 k ∧ (1 ≤ m ∧ m ≤ 1000)
  · rcases z_ix1 hw.1 with rfl | rfl | rfl | rfl | rfl | rfl
    · by_cases hg : 3000 < (t.1 63).1 0 + m
      · have eT : (tK_Mm_charge 112 m t) = t := by unfold tK_Mm_charge; rw [if_pos hw, if_pos (rfl : (112 : Int32) = 112), if_pos hg]
        rw [eT]
        exact (Qx_Mm_charge112G9 hI m hw.2 hg).mono (by decide) (by decide) (fun o w1 h => ⟨⟨_, h.1⟩, u, rfl, ⟨_, h.2⟩⟩)
      · have eT : (tK_Mm_charge 112 m t) = (zup t.1 [(63, (upd ((t.1 63).1) 0 (((t.1 63).1) 0 + m), (t.1 63).2)), (64, ((t.1 64).1, lfd ((t.1 64).2.1) (fun e => chS m 0 e / 10) 4, (t.1 64).2.2))], t.2) := by unfold tK_Mm_charge; rw [if_pos hw, if_pos (rfl : (112 : Int32) = 112), if_neg hg]
        rw [eT]
        exact (Qx_Mm_charge112N hI m hw.2 hg).mono (by decide) (by decide) (fun o w1 h => ⟨⟨_, h.1⟩, u, rfl, IVm.zu h.2⟩)
    · by_cases hg : 3000 < (t.1 63).1 0 + m
      · have eT : (tK_Mm_charge 115 m t) = t := by unfold tK_Mm_charge; rw [if_pos hw, if_neg (show ¬ ((115 : Int32) = 112) by decide), if_pos (rfl : (115 : Int32) = 115), if_pos hg]
        rw [eT]
        exact (Qx_Mm_charge115G9 hI m hw.2 hg).mono (by decide) (by decide) (fun o w1 h => ⟨⟨_, h.1⟩, u, rfl, ⟨_, h.2⟩⟩)
      · have eT : (tK_Mm_charge 115 m t) = (zup t.1 [(63, (upd ((t.1 63).1) 0 (((t.1 63).1) 0 + m), (t.1 63).2)), (64, ((t.1 64).1, lfd ((t.1 64).2.1) (fun e => chS m 1 e / 10) 4, (t.1 64).2.2))], t.2) := by unfold tK_Mm_charge; rw [if_pos hw, if_neg (show ¬ ((115 : Int32) = 112) by decide), if_pos (rfl : (115 : Int32) = 115), if_neg hg]
        rw [eT]
        exact (Qx_Mm_charge115N hI m hw.2 hg).mono (by decide) (by decide) (fun o w1 h => ⟨⟨_, h.1⟩, u, rfl, IVm.zu h.2⟩)
    · by_cases hg : 3000 < (t.1 63).1 0 + m
      · have eT : (tK_Mm_charge 102 m t) = t := by unfold tK_Mm_charge; rw [if_pos hw, if_neg (show ¬ ((102 : Int32) = 112) by decide), if_neg (show ¬ ((102 : Int32) = 115) by decide), if_pos (rfl : (102 : Int32) = 102), if_pos hg]
        rw [eT]
        exact (Qx_Mm_charge102G9 hI m hw.2 hg).mono (by decide) (by decide) (fun o w1 h => ⟨⟨_, h.1⟩, u, rfl, ⟨_, h.2⟩⟩)
      · have eT : (tK_Mm_charge 102 m t) = (zup t.1 [(63, (upd ((t.1 63).1) 0 (((t.1 63).1) 0 + m), (t.1 63).2)), (64, ((t.1 64).1, lfd ((t.1 64).2.1) (fun e => chS m 2 e / 10) 4, (t.1 64).2.2))], t.2) := by unfold tK_Mm_charge; rw [if_pos hw, if_neg (show ¬ ((102 : Int32) = 112) by decide), if_neg (show ¬ ((102 : Int32) = 115) by decide), if_pos (rfl : (102 : Int32) = 102), if_neg hg]
        rw [eT]
        exact (Qx_Mm_charge102N hI m hw.2 hg).mono (by decide) (by decide) (fun o w1 h => ⟨⟨_, h.1⟩, u, rfl, IVm.zu h.2⟩)
    · have eT : (tK_Mm_charge 107 m t) = (zup t.1 [(63, (upd ((t.1 63).1) 0 (((t.1 63).1) 0 + 0), (t.1 63).2)), (64, ((t.1 64).1, lfd ((t.1 64).2.1) (fun e => chS m 3 e / 10) 4, (t.1 64).2.2))], t.2) := by unfold tK_Mm_charge; rw [if_pos hw, if_neg (show ¬ ((107 : Int32) = 112) by decide), if_neg (show ¬ ((107 : Int32) = 115) by decide), if_neg (show ¬ ((107 : Int32) = 102) by decide), if_pos (rfl : (107 : Int32) = 107)]
      rw [eT]
      exact (Qx_Mm_charge107N hI m hw.2).mono (by decide) (by decide) (fun o w1 h => ⟨⟨_, h.1⟩, u, rfl, IVm.zu h.2⟩)
    · by_cases hf : (t.1 63).1 2 < m
      · have eT : (tK_Mm_charge 103 m t) = t := by unfold tK_Mm_charge; rw [if_pos hw, if_neg (show ¬ ((103 : Int32) = 112) by decide), if_neg (show ¬ ((103 : Int32) = 115) by decide), if_neg (show ¬ ((103 : Int32) = 102) by decide), if_neg (show ¬ ((103 : Int32) = 107) by decide), if_pos (rfl : (103 : Int32) = 103), if_pos hf]
        rw [eT]
        exact (Qx_Mm_charge103F hI m hw.2 hf).mono (by decide) (by decide) (fun o w1 h => ⟨⟨_, h.1⟩, u, rfl, ⟨_, h.2⟩⟩)
      · by_cases hg : 3000 < (t.1 63).1 0 + m
        · have eT : (tK_Mm_charge 103 m t) = t := by unfold tK_Mm_charge; rw [if_pos hw, if_neg (show ¬ ((103 : Int32) = 112) by decide), if_neg (show ¬ ((103 : Int32) = 115) by decide), if_neg (show ¬ ((103 : Int32) = 102) by decide), if_neg (show ¬ ((103 : Int32) = 107) by decide), if_pos (rfl : (103 : Int32) = 103), if_neg hf, if_pos hg]
          rw [eT]
          exact (Qx_Mm_charge103G9 hI m hw.2 hf hg).mono (by decide) (by decide) (fun o w1 h => ⟨⟨_, h.1⟩, u, rfl, ⟨_, h.2⟩⟩)
        · have eT : (tK_Mm_charge 103 m t) = (zup t.1 [(63, (mvN ((t.1 63).1) 2 0 m, (t.1 63).2)), (64, ((t.1 64).1, mvR ((t.1 64).2.1) 2 0 m (((t.1 63).1) 2) 4, (t.1 64).2.2))], t.2) := by unfold tK_Mm_charge; rw [if_pos hw, if_neg (show ¬ ((103 : Int32) = 112) by decide), if_neg (show ¬ ((103 : Int32) = 115) by decide), if_neg (show ¬ ((103 : Int32) = 102) by decide), if_neg (show ¬ ((103 : Int32) = 107) by decide), if_pos (rfl : (103 : Int32) = 103), if_neg hf, if_neg hg]
          rw [eT]
          exact (Qx_Mm_charge103N9 hI m hw.2 hf hg).mono (by decide) (by decide) (fun o w1 h => ⟨⟨_, h.1⟩, u, rfl, IVm.zu h.2⟩)
    · by_cases hf : (t.1 63).1 3 < m
      · have eT : (tK_Mm_charge 100 m t) = t := by unfold tK_Mm_charge; rw [if_pos hw, if_neg (show ¬ ((100 : Int32) = 112) by decide), if_neg (show ¬ ((100 : Int32) = 115) by decide), if_neg (show ¬ ((100 : Int32) = 102) by decide), if_neg (show ¬ ((100 : Int32) = 107) by decide), if_neg (show ¬ ((100 : Int32) = 103) by decide), if_pos hf]
        rw [eT]
        exact (Qx_Mm_charge100F hI m hw.2 hf).mono (by decide) (by decide) (fun o w1 h => ⟨⟨_, h.1⟩, u, rfl, ⟨_, h.2⟩⟩)
      · by_cases hg : 3000 < (t.1 63).1 0 + m
        · have eT : (tK_Mm_charge 100 m t) = t := by unfold tK_Mm_charge; rw [if_pos hw, if_neg (show ¬ ((100 : Int32) = 112) by decide), if_neg (show ¬ ((100 : Int32) = 115) by decide), if_neg (show ¬ ((100 : Int32) = 102) by decide), if_neg (show ¬ ((100 : Int32) = 107) by decide), if_neg (show ¬ ((100 : Int32) = 103) by decide), if_neg hf, if_pos hg]
          rw [eT]
          exact (Qx_Mm_charge100G9 hI m hw.2 hf hg).mono (by decide) (by decide) (fun o w1 h => ⟨⟨_, h.1⟩, u, rfl, ⟨_, h.2⟩⟩)
        · have eT : (tK_Mm_charge 100 m t) = (zup t.1 [(63, (mvN ((t.1 63).1) 3 0 m, (t.1 63).2)), (64, ((t.1 64).1, mvR ((t.1 64).2.1) 3 0 m (((t.1 63).1) 3) 4, (t.1 64).2.2))], t.2) := by unfold tK_Mm_charge; rw [if_pos hw, if_neg (show ¬ ((100 : Int32) = 112) by decide), if_neg (show ¬ ((100 : Int32) = 115) by decide), if_neg (show ¬ ((100 : Int32) = 102) by decide), if_neg (show ¬ ((100 : Int32) = 107) by decide), if_neg (show ¬ ((100 : Int32) = 103) by decide), if_neg hf, if_neg hg]
          rw [eT]
          exact (Qx_Mm_charge100N9 hI m hw.2 hf hg).mono (by decide) (by decide) (fun o w1 h => ⟨⟨_, h.1⟩, u, rfl, IVm.zu h.2⟩)
  · have eT : (tK_Mm_charge k m t) = t := by unfold tK_Mm_charge; rw [if_neg hw]
    rw [eT]
    exact (Qx_Mm_chargeE hI k m hw).mono (by decide) (by decide) (fun o w1 h => ⟨⟨_, h.1⟩, u, rfl, ⟨_, h.2⟩⟩)
set_option maxHeartbeats 4000000 in
theorem Qx_Mm_furnaceE {g : zG} {ad : Nat → Nat} {t : zTT} {u : zNN} {w : zW} (hI : IV g ad t u w) (k : Int32) (hk : z_ix 2 k < 0) : zMB g M_Mm_furnace [.ref (ad 52), .int k] w (fun o w1 => o = .inl (some (.int 0)) ∧ IV g ad t u w1) 0 0 := by
  obtain ⟨e_m, w_m, k_m⟩ := hI.1.2 52 (by decide)
  obtain ⟨v_m_th, rfl⟩ := kd_52.mp k_m
  refine ((C_Mm_furnaceE g (ad 52) (ad 53) (ad 54) (ad 55) (ad 56) (ad 57) (ad 58) (ad 59) (ad 60) (ad 61) (ad 62) (ad 63) (ad 64) (ad 65) (ad 66) (ad 67) (ad 68) v_m_th (nI ((t.1 52).2.2 0)) ((t.1 52).1 0) ((t.1 52).1 1) ((t.1 52).1 2) ((t.1 52).1 3) ((t.1 52).1 4) ((t.1 52).1 5) ((t.1 52).1 6) ((t.1 52).1 7) ((t.1 52).1 8) ((t.1 52).1 9) ((t.1 52).1 10) ((t.1 52).2.1 0) ((t.1 52).2.1 1) k hk).at (hI.1.I [52] _ rfl (by decide) (by decide) (List.forall_mem_cons.mpr ⟨w_m, (fun _ h => nomatch h)⟩))).mono (Nat.le_of_ble_eq_true rfl) (Nat.le_of_ble_eq_true rfl) (fun o w1 hp => ?_)
  obtain ⟨cs1, hp, hi9⟩ := hp
  obtain ⟨e1, e2⟩ := hp
  subst e1; subst e2
  exact ⟨rfl, hI.fix (t2 := t) (is := [52]) hi9 rfl ⟨kd_52.mpr ⟨_, rfl⟩, trivial⟩ (by decide) (by decide) (fun _ _ _ => rfl) (fun h => h) rfl⟩
set_option maxHeartbeats 4000000 in
theorem Qx_Mm_furnaceF {g : zG} {ad : Nat → Nat} {t : zTT} {u : zNN} {w : zW} (hI : IV g ad t u w) (k : Int32) (hk : ¬ z_ix 2 k < 0) (h0 : ((t.1 63).1) 0 = 0) : zMB g M_Mm_furnace [.ref (ad 52), .int k] w (fun o w1 => o = .inl (some (.int 0)) ∧ IV g ad t u w1) 0 0 := by
  obtain ⟨e_m, w_m, k_m⟩ := hI.1.2 52 (by decide)
  obtain ⟨v_m_th, rfl⟩ := kd_52.mp k_m
  obtain ⟨e_mi, w_mi, k_mi⟩ := hI.1.2 63 (by decide)
  obtain rfl := kd_63.mp k_mi
  refine ((C_Mm_furnaceF g (ad 52) (ad 53) (ad 54) (ad 55) (ad 56) (ad 57) (ad 58) (ad 59) (ad 60) (ad 61) (ad 62) (ad 63) (ad 64) (ad 65) (ad 66) (ad 67) (ad 68) v_m_th (nI ((t.1 52).2.2 0)) ((t.1 52).1 0) ((t.1 52).1 1) ((t.1 52).1 2) ((t.1 52).1 3) ((t.1 52).1 4) ((t.1 52).1 5) ((t.1 52).1 6) ((t.1 52).1 7) ((t.1 52).1 8) ((t.1 52).1 9) ((t.1 52).1 10) ((t.1 52).2.1 0) ((t.1 52).2.1 1) ((t.1 63).1) k hk h0).at (hI.1.I [52, 63] _ rfl (by decide) (by decide) (List.forall_mem_cons.mpr ⟨w_m, (List.forall_mem_cons.mpr ⟨w_mi, (fun _ h => nomatch h)⟩)⟩))).mono (Nat.le_of_ble_eq_true rfl) (Nat.le_of_ble_eq_true rfl) (fun o w1 hp => ?_)
  obtain ⟨cs1, hp, hi9⟩ := hp
  obtain ⟨e1, e2⟩ := hp
  subst e1; subst e2
  exact ⟨rfl, hI.fix (t2 := t) (is := [52, 63]) hi9 rfl ⟨kd_52.mpr ⟨_, rfl⟩, kd_63.mpr rfl, trivial⟩ (by decide) (by decide) (fun _ _ _ => rfl) (fun h => h) rfl⟩
set_option maxHeartbeats 4000000 in
theorem Qx_Mm_furnaceN9 {g : zG} {ad : Nat → Nat} {t : zTT} {u : zNN} {w : zW} (hI : IV g ad t u w) (k : Int32) (e : Nat) (he : e < 4) (hk : z_ix 2 k = nI e) (h0 : ¬ ((t.1 63).1) 0 = 0) : zMB g M_Mm_furnace [.ref (ad 52), .int k] w (fun o w1 => o = .inl (some (.int (pcR ((t.1 64).2.1) ((t.1 63).1) 0 e))) ∧ IV g ad t u w1) 0 0 := by
  obtain ⟨e_m, w_m, k_m⟩ := hI.1.2 52 (by decide)
  obtain ⟨v_m_th, rfl⟩ := kd_52.mp k_m
  obtain ⟨e_mi, w_mi, k_mi⟩ := hI.1.2 63 (by decide)
  obtain rfl := kd_63.mp k_mi
  obtain ⟨e_mr, w_mr, k_mr⟩ := hI.1.2 64 (by decide)
  obtain rfl := kd_64.mp k_mr
  refine ((C_Mm_furnaceN9 g (ad 52) (ad 53) (ad 54) (ad 55) (ad 56) (ad 57) (ad 58) (ad 59) (ad 60) (ad 61) (ad 62) (ad 63) (ad 64) (ad 65) (ad 66) (ad 67) (ad 68) v_m_th (nI ((t.1 52).2.2 0)) ((t.1 52).1 0) ((t.1 52).1 1) ((t.1 52).1 2) ((t.1 52).1 3) ((t.1 52).1 4) ((t.1 52).1 5) ((t.1 52).1 6) ((t.1 52).1 7) ((t.1 52).1 8) ((t.1 52).1 9) ((t.1 52).1 10) ((t.1 52).2.1 0) ((t.1 52).2.1 1) ((t.1 63).1) ((t.1 64).2.1) k e he hk h0).at (hI.1.I [52, 63, 64] _ rfl (by decide) (by decide) (List.forall_mem_cons.mpr ⟨w_m, (List.forall_mem_cons.mpr ⟨w_mi, (List.forall_mem_cons.mpr ⟨w_mr, (fun _ h => nomatch h)⟩)⟩)⟩))).mono (Nat.le_of_ble_eq_true rfl) (Nat.le_of_ble_eq_true rfl) (fun o w1 hp => ?_)
  obtain ⟨cs1, hp, hi9⟩ := hp
  obtain ⟨e1, e2⟩ := hp
  subst e1; subst e2
  exact ⟨rfl, hI.fix (t2 := t) (is := [52, 63, 64]) hi9 rfl ⟨kd_52.mpr ⟨_, rfl⟩, kd_63.mpr rfl, kd_64.mpr rfl, trivial⟩ (by decide) (by decide) (fun _ _ _ => rfl) (fun h => h) rfl⟩
theorem K_Mm_furnace {g : zG} {ad : Nat → Nat} {t : zTT} {u : zNN} {w : zW} (hI : IVm g ad t u w) (k : Int32) : zMB g M_Mm_furnace [.ref (ad 52), .int k] w (MKx g ad t u.1) 10 300 := by
  obtain ⟨s, hI⟩ := hI
  by_cases hk : z_ix 2 k < 0
  · exact (Qx_Mm_furnaceE hI k hk).mono (by decide) (by decide) (fun o w1 h => ⟨⟨_, h.1⟩, u, rfl, ⟨_, h.2⟩⟩)
  · by_cases h0 : (t.1 63).1 0 = 0
    · exact (Qx_Mm_furnaceF hI k hk h0).mono (by decide) (by decide) (fun o w1 h => ⟨⟨_, h.1⟩, u, rfl, ⟨_, h.2⟩⟩)
    · obtain ⟨e9, he9, h2⟩ := z_ix2 hk
      exact (Qx_Mm_furnaceN9 hI k e9 he9 h2 h0).mono (by decide) (by decide) (fun o w1 h => ⟨⟨_, h.1⟩, u, rfl, ⟨_, h.2⟩⟩)
set_option maxHeartbeats 4000000 in
theorem Qx_Mm_holdN {g : zG} {ad : Nat → Nat} {t : zTT} {u : zNN} {w : zW} (hI : IV g ad t u w) (h : Nat) (hh9 : h < 1000) (hw : (1 ≤ nI h ∧ nI h ≤ 120)) : zMB g M_Mm_hold [.ref (ad 52), .int (nI h)] w (fun o w1 => o = .inl (some (.int ((hdR ((t.1 64).2.1) h 0).toInt32))) ∧ IV g ad (zup t.1 [(64, ((t.1 64).1, hdR ((t.1 64).2.1) h, (t.1 64).2.2))], t.2) u w1) 0 0 := by
  obtain ⟨e_m, w_m, k_m⟩ := hI.1.2 52 (by decide)
  obtain ⟨v_m_th, rfl⟩ := kd_52.mp k_m
  obtain ⟨e_mr, w_mr, k_mr⟩ := hI.1.2 64 (by decide)
  obtain rfl := kd_64.mp k_mr
  refine ((C_Mm_holdN g (ad 52) (ad 53) (ad 54) (ad 55) (ad 56) (ad 57) (ad 58) (ad 59) (ad 60) (ad 61) (ad 62) (ad 63) (ad 64) (ad 65) (ad 66) (ad 67) (ad 68) v_m_th (nI ((t.1 52).2.2 0)) ((t.1 52).1 0) ((t.1 52).1 1) ((t.1 52).1 2) ((t.1 52).1 3) ((t.1 52).1 4) ((t.1 52).1 5) ((t.1 52).1 6) ((t.1 52).1 7) ((t.1 52).1 8) ((t.1 52).1 9) ((t.1 52).1 10) ((t.1 52).2.1 0) ((t.1 52).2.1 1) ((t.1 64).2.1) h hh9 hw).at (hI.1.I [52, 64] _ rfl (by decide) (by decide) (List.forall_mem_cons.mpr ⟨w_m, (List.forall_mem_cons.mpr ⟨w_mr, (fun _ h => nomatch h)⟩)⟩))).mono (Nat.le_of_ble_eq_true rfl) (Nat.le_of_ble_eq_true rfl) (fun o w1 hp => ?_)
  obtain ⟨cs1, hp, hi9⟩ := hp
  obtain ⟨e1, e2⟩ := hp
  subst e1; subst e2
  exact ⟨rfl, hI.fix (t2 := (zup t.1 [(64, ((t.1 64).1, hdR ((t.1 64).2.1) h, (t.1 64).2.2))], t.2)) (is := [52, 64]) hi9 rfl ⟨kd_52.mpr ⟨_, rfl⟩, kd_64.mpr rfl, trivial⟩ (by decide) (by decide) (fun i hi hn => zup_out (fun q => hn ((by decide : ∀ j ∈ ([64] : List Nat), j ∈ ([52, 64] : List Nat)) i q))) (fun h => h) rfl⟩
set_option maxHeartbeats 4000000 in
theorem Qx_Mm_holdE {g : zG} {ad : Nat → Nat} {t : zTT} {u : zNN} {w : zW} (hI : IV g ad t u w) (h : Int32) (hw : ¬ (1 ≤ h ∧ h ≤ 120)) : zMB g M_Mm_hold [.ref (ad 52), .int h] w (fun o w1 => o = .inl (some (.int 0)) ∧ IV g ad t u w1) 0 0 := by
  obtain ⟨e_m, w_m, k_m⟩ := hI.1.2 52 (by decide)
  obtain ⟨v_m_th, rfl⟩ := kd_52.mp k_m
  refine ((C_Mm_holdE g (ad 52) (ad 53) (ad 54) (ad 55) (ad 56) (ad 57) (ad 58) (ad 59) (ad 60) (ad 61) (ad 62) (ad 63) (ad 64) (ad 65) (ad 66) (ad 67) (ad 68) v_m_th (nI ((t.1 52).2.2 0)) ((t.1 52).1 0) ((t.1 52).1 1) ((t.1 52).1 2) ((t.1 52).1 3) ((t.1 52).1 4) ((t.1 52).1 5) ((t.1 52).1 6) ((t.1 52).1 7) ((t.1 52).1 8) ((t.1 52).1 9) ((t.1 52).1 10) ((t.1 52).2.1 0) ((t.1 52).2.1 1) h hw).at (hI.1.I [52] _ rfl (by decide) (by decide) (List.forall_mem_cons.mpr ⟨w_m, (fun _ h => nomatch h)⟩))).mono (Nat.le_of_ble_eq_true rfl) (Nat.le_of_ble_eq_true rfl) (fun o w1 hp => ?_)
  obtain ⟨cs1, hp, hi9⟩ := hp
  obtain ⟨e1, e2⟩ := hp
  subst e1; subst e2
  exact ⟨rfl, hI.fix (t2 := t) (is := [52]) hi9 rfl ⟨kd_52.mpr ⟨_, rfl⟩, trivial⟩ (by decide) (by decide) (fun _ _ _ => rfl) (fun h => h) rfl⟩
noncomputable def tK_Mm_hold (x : Int32) (t : zTT) : zTT := (if 1 ≤ x ∧ x ≤ 120 then (zup t.1 [(64, ((t.1 64).1, hdR ((t.1 64).2.1) x.toNatClampNeg, (t.1 64).2.2))], t.2) else t)
theorem K_Mm_hold {g : zG} {ad : Nat → Nat} {t : zTT} {u : zNN} {w : zW} (hI : IVm g ad t u w) (x : Int32) : zMB g M_Mm_hold [.ref (ad 52), .int x] w (MKx g ad (tK_Mm_hold x t) u.1) 10 300 := by
  obtain ⟨s, hI⟩ := hI
  by_cases hw : 1 ≤ x ∧ x ≤ 120
  · obtain ⟨a9, ha9, e9⟩ := z_in20 (b := 120) (by decide) ⟨Int32.le_trans (by decide) hw.1, hw.2⟩
    subst e9
    have eT : (tK_Mm_hold (nI a9) t) = (zup t.1 [(64, ((t.1 64).1, hdR ((t.1 64).2.1) a9, (t.1 64).2.2))], t.2) := by unfold tK_Mm_hold; rw [if_pos hw, nI_clamp (by omega)]
    rw [eT]
    exact (Qx_Mm_holdN hI a9 (by omega) hw).mono (by decide) (by decide) (fun o w1 h => ⟨⟨_, h.1⟩, u, rfl, IVm.zu h.2⟩)
  · have eT : (tK_Mm_hold x t) = t := by unfold tK_Mm_hold; rw [if_neg hw]
    rw [eT]
    exact (Qx_Mm_holdE hI x hw).mono (by decide) (by decide) (fun o w1 h => ⟨⟨_, h.1⟩, u, rfl, ⟨_, h.2⟩⟩)
set_option maxHeartbeats 4000000 in
theorem Qx_Mm_tapG9 {g : zG} {ad : Nat → Nat} {t : zTT} {u : zNN} {w : zW} (hI : IV g ad t u w) (h : Int32) (hw : (1 ≤ h ∧ h ≤ 500)) (h1 : ((t.1 63).1) 1 ≤ 0) (hg : ((t.1 63).1) 0 < h) : zMB g M_Mm_tap [.ref (ad 52), .int h] w (fun o w1 => o = .inl (some (.int 0)) ∧ IV g ad t u w1) 0 0 := by
  obtain ⟨e_m, w_m, k_m⟩ := hI.1.2 52 (by decide)
  obtain ⟨v_m_th, rfl⟩ := kd_52.mp k_m
  obtain ⟨e_mi, w_mi, k_mi⟩ := hI.1.2 63 (by decide)
  obtain rfl := kd_63.mp k_mi
  obtain ⟨e_mr, w_mr, k_mr⟩ := hI.1.2 64 (by decide)
  obtain rfl := kd_64.mp k_mr
  refine ((C_Mm_tapG9 g (ad 52) (ad 53) (ad 54) (ad 55) (ad 56) (ad 57) (ad 58) (ad 59) (ad 60) (ad 61) (ad 62) (ad 63) (ad 64) (ad 65) (ad 66) (ad 67) (ad 68) v_m_th (nI ((t.1 52).2.2 0)) ((t.1 52).1 0) ((t.1 52).1 1) ((t.1 52).1 2) ((t.1 52).1 3) ((t.1 52).1 4) ((t.1 52).1 5) ((t.1 52).1 6) ((t.1 52).1 7) ((t.1 52).1 8) ((t.1 52).1 9) ((t.1 52).1 10) ((t.1 52).2.1 0) ((t.1 52).2.1 1) ((t.1 63).1) ((t.1 64).2.1) h hw h1 hg).at (hI.1.I [52, 63, 64] _ rfl (by decide) (by decide) (List.forall_mem_cons.mpr ⟨w_m, (List.forall_mem_cons.mpr ⟨w_mi, (List.forall_mem_cons.mpr ⟨w_mr, (fun _ h => nomatch h)⟩)⟩)⟩))).mono (Nat.le_of_ble_eq_true rfl) (Nat.le_of_ble_eq_true rfl) (fun o w1 hp => ?_)
  obtain ⟨cs1, hp, hi9⟩ := hp
  obtain ⟨e1, e2⟩ := hp
  subst e1; subst e2
  exact ⟨rfl, hI.fix (t2 := t) (is := [52, 63, 64]) hi9 rfl ⟨kd_52.mpr ⟨_, rfl⟩, kd_63.mpr rfl, kd_64.mpr rfl, trivial⟩ (by decide) (by decide) (fun _ _ _ => rfl) (fun h => h) rfl⟩
set_option maxHeartbeats 4000000 in
theorem Qx_Mm_tapN9 {g : zG} {ad : Nat → Nat} {t : zTT} {u : zNN} {w : zW} (hI : IV g ad t u w) (h : Int32) (hw : (1 ≤ h ∧ h ≤ 500)) (h1 : ((t.1 63).1) 1 ≤ 0) (hg : ¬ ((t.1 63).1) 0 < h) : zMB g M_Mm_tap [.ref (ad 52), .int h] w (fun o w1 => o = .inl (some (.int (mvN ((t.1 63).1) 0 1 h 0))) ∧ IV g ad (zup t.1 [(52, ((upd (upd (upd ((t.1 52).1) 6 1450) 7 0) 8 0), (t.1 52).2.1, (t.1 52).2.2)), (63, (mvN ((t.1 63).1) 0 1 h, (t.1 63).2)), (64, ((t.1 64).1, mvR ((t.1 64).2.1) 0 1 h (((t.1 63).1) 0) 4, (t.1 64).2.2))], t.2) u w1) 0 0 := by
  obtain ⟨e_m, w_m, k_m⟩ := hI.1.2 52 (by decide)
  obtain ⟨v_m_th, rfl⟩ := kd_52.mp k_m
  obtain ⟨e_mi, w_mi, k_mi⟩ := hI.1.2 63 (by decide)
  obtain rfl := kd_63.mp k_mi
  obtain ⟨e_mr, w_mr, k_mr⟩ := hI.1.2 64 (by decide)
  obtain rfl := kd_64.mp k_mr
  refine ((C_Mm_tapN9 g (ad 52) (ad 53) (ad 54) (ad 55) (ad 56) (ad 57) (ad 58) (ad 59) (ad 60) (ad 61) (ad 62) (ad 63) (ad 64) (ad 65) (ad 66) (ad 67) (ad 68) v_m_th (nI ((t.1 52).2.2 0)) ((t.1 52).1 0) ((t.1 52).1 1) ((t.1 52).1 2) ((t.1 52).1 3) ((t.1 52).1 4) ((t.1 52).1 5) ((t.1 52).1 6) ((t.1 52).1 7) ((t.1 52).1 8) ((t.1 52).1 9) ((t.1 52).1 10) ((t.1 52).2.1 0) ((t.1 52).2.1 1) ((t.1 63).1) ((t.1 64).2.1) h hw h1 hg).at (hI.1.I [52, 63, 64] _ rfl (by decide) (by decide) (List.forall_mem_cons.mpr ⟨w_m, (List.forall_mem_cons.mpr ⟨w_mi, (List.forall_mem_cons.mpr ⟨w_mr, (fun _ h => nomatch h)⟩)⟩)⟩))).mono (Nat.le_of_ble_eq_true rfl) (Nat.le_of_ble_eq_true rfl) (fun o w1 hp => ?_)
  obtain ⟨cs1, hp, hi9⟩ := hp
  obtain ⟨e1, e2⟩ := hp
  subst e1; subst e2
  exact ⟨rfl, hI.fix (t2 := (zup t.1 [(52, ((upd (upd (upd ((t.1 52).1) 6 1450) 7 0) 8 0), (t.1 52).2.1, (t.1 52).2.2)), (63, (mvN ((t.1 63).1) 0 1 h, (t.1 63).2)), (64, ((t.1 64).1, mvR ((t.1 64).2.1) 0 1 h (((t.1 63).1) 0) 4, (t.1 64).2.2))], t.2)) (is := [52, 63, 64]) hi9 rfl ⟨kd_52.mpr ⟨_, rfl⟩, kd_63.mpr rfl, kd_64.mpr rfl, trivial⟩ (by decide) (by decide) (fun i hi hn => zup_out (fun q => hn ((by decide : ∀ j ∈ ([52, 63, 64] : List Nat), j ∈ ([52, 63, 64] : List Nat)) i q))) (fun h => h) rfl⟩
set_option maxHeartbeats 4000000 in
theorem Qx_Mm_tapF9 {g : zG} {ad : Nat → Nat} {t : zTT} {u : zNN} {w : zW} (hI : IV g ad t u w) (h : Int32) (hw : (1 ≤ h ∧ h ≤ 500)) (h1 : ¬ ((t.1 63).1) 1 ≤ 0) : zMB g M_Mm_tap [.ref (ad 52), .int h] w (fun o w1 => o = .inl (some (.int 0)) ∧ IV g ad t u w1) 0 0 := by
  obtain ⟨e_m, w_m, k_m⟩ := hI.1.2 52 (by decide)
  obtain ⟨v_m_th, rfl⟩ := kd_52.mp k_m
  obtain ⟨e_mi, w_mi, k_mi⟩ := hI.1.2 63 (by decide)
  obtain rfl := kd_63.mp k_mi
  obtain ⟨e_mr, w_mr, k_mr⟩ := hI.1.2 64 (by decide)
  obtain rfl := kd_64.mp k_mr
  refine ((C_Mm_tapF9 g (ad 52) (ad 53) (ad 54) (ad 55) (ad 56) (ad 57) (ad 58) (ad 59) (ad 60) (ad 61) (ad 62) (ad 63) (ad 64) (ad 65) (ad 66) (ad 67) (ad 68) v_m_th (nI ((t.1 52).2.2 0)) ((t.1 52).1 0) ((t.1 52).1 1) ((t.1 52).1 2) ((t.1 52).1 3) ((t.1 52).1 4) ((t.1 52).1 5) ((t.1 52).1 6) ((t.1 52).1 7) ((t.1 52).1 8) ((t.1 52).1 9) ((t.1 52).1 10) ((t.1 52).2.1 0) ((t.1 52).2.1 1) ((t.1 63).1) ((t.1 64).2.1) h hw h1).at (hI.1.I [52, 63, 64] _ rfl (by decide) (by decide) (List.forall_mem_cons.mpr ⟨w_m, (List.forall_mem_cons.mpr ⟨w_mi, (List.forall_mem_cons.mpr ⟨w_mr, (fun _ h => nomatch h)⟩)⟩)⟩))).mono (Nat.le_of_ble_eq_true rfl) (Nat.le_of_ble_eq_true rfl) (fun o w1 hp => ?_)
  obtain ⟨cs1, hp, hi9⟩ := hp
  obtain ⟨e1, e2⟩ := hp
  subst e1; subst e2
  exact ⟨rfl, hI.fix (t2 := t) (is := [52, 63, 64]) hi9 rfl ⟨kd_52.mpr ⟨_, rfl⟩, kd_63.mpr rfl, kd_64.mpr rfl, trivial⟩ (by decide) (by decide) (fun _ _ _ => rfl) (fun h => h) rfl⟩
set_option maxHeartbeats 4000000 in
theorem Qx_Mm_tapE {g : zG} {ad : Nat → Nat} {t : zTT} {u : zNN} {w : zW} (hI : IV g ad t u w) (h : Int32) (hw : ¬ (1 ≤ h ∧ h ≤ 500)) : zMB g M_Mm_tap [.ref (ad 52), .int h] w (fun o w1 => o = .inl (some (.int 0)) ∧ IV g ad t u w1) 0 0 := by
  obtain ⟨e_m, w_m, k_m⟩ := hI.1.2 52 (by decide)
  obtain ⟨v_m_th, rfl⟩ := kd_52.mp k_m
  refine ((C_Mm_tapE g (ad 52) (ad 53) (ad 54) (ad 55) (ad 56) (ad 57) (ad 58) (ad 59) (ad 60) (ad 61) (ad 62) (ad 63) (ad 64) (ad 65) (ad 66) (ad 67) (ad 68) v_m_th (nI ((t.1 52).2.2 0)) ((t.1 52).1 0) ((t.1 52).1 1) ((t.1 52).1 2) ((t.1 52).1 3) ((t.1 52).1 4) ((t.1 52).1 5) ((t.1 52).1 6) ((t.1 52).1 7) ((t.1 52).1 8) ((t.1 52).1 9) ((t.1 52).1 10) ((t.1 52).2.1 0) ((t.1 52).2.1 1) h hw).at (hI.1.I [52] _ rfl (by decide) (by decide) (List.forall_mem_cons.mpr ⟨w_m, (fun _ h => nomatch h)⟩))).mono (Nat.le_of_ble_eq_true rfl) (Nat.le_of_ble_eq_true rfl) (fun o w1 hp => ?_)
  obtain ⟨cs1, hp, hi9⟩ := hp
  obtain ⟨e1, e2⟩ := hp
  subst e1; subst e2
  exact ⟨rfl, hI.fix (t2 := t) (is := [52]) hi9 rfl ⟨kd_52.mpr ⟨_, rfl⟩, trivial⟩ (by decide) (by decide) (fun _ _ _ => rfl) (fun h => h) rfl⟩
noncomputable def tK_Mm_tap (m : Int32) (t : zTT) : zTT := (if 1 ≤ m ∧ m ≤ 500 then (if (t.1 63).1 1 ≤ 0 then (if (t.1 63).1 0 < m then t else (zup t.1 [(52, ((upd (upd (upd ((t.1 52).1) 6 1450) 7 0) 8 0), (t.1 52).2.1, (t.1 52).2.2)), (63, (mvN ((t.1 63).1) 0 1 m, (t.1 63).2)), (64, ((t.1 64).1, mvR ((t.1 64).2.1) 0 1 m (((t.1 63).1) 0) 4, (t.1 64).2.2))], t.2)) else t) else t)
theorem K_Mm_tap {g : zG} {ad : Nat → Nat} {t : zTT} {u : zNN} {w : zW} (hI : IVm g ad t u w) (m : Int32) : zMB g M_Mm_tap [.ref (ad 52), .int m] w (MKx g ad (tK_Mm_tap m t) u.1) 10 300 := by
  obtain ⟨s, hI⟩ := hI
  by_cases hw : 1 ≤ m ∧ m ≤ 500
  · by_cases h1 : (t.1 63).1 1 ≤ 0
    · by_cases hg : (t.1 63).1 0 < m
      · have eT : (tK_Mm_tap m t) = t := by unfold tK_Mm_tap; rw [if_pos hw, if_pos h1, if_pos hg]
        rw [eT]
        exact (Qx_Mm_tapG9 hI m hw h1 hg).mono (by decide) (by decide) (fun o w1 h => ⟨⟨_, h.1⟩, u, rfl, ⟨_, h.2⟩⟩)
      · have eT : (tK_Mm_tap m t) = (zup t.1 [(52, ((upd (upd (upd ((t.1 52).1) 6 1450) 7 0) 8 0), (t.1 52).2.1, (t.1 52).2.2)), (63, (mvN ((t.1 63).1) 0 1 m, (t.1 63).2)), (64, ((t.1 64).1, mvR ((t.1 64).2.1) 0 1 m (((t.1 63).1) 0) 4, (t.1 64).2.2))], t.2) := by unfold tK_Mm_tap; rw [if_pos hw, if_pos h1, if_neg hg]
        rw [eT]
        exact (Qx_Mm_tapN9 hI m hw h1 hg).mono (by decide) (by decide) (fun o w1 h => ⟨⟨_, h.1⟩, u, rfl, IVm.zu h.2⟩)
    · have eT : (tK_Mm_tap m t) = t := by unfold tK_Mm_tap; rw [if_pos hw, if_neg h1]
      rw [eT]
      exact (Qx_Mm_tapF9 hI m hw h1).mono (by decide) (by decide) (fun o w1 h => ⟨⟨_, h.1⟩, u, rfl, ⟨_, h.2⟩⟩)
  · have eT : (tK_Mm_tap m t) = t := by unfold tK_Mm_tap; rw [if_neg hw]
    rw [eT]
    exact (Qx_Mm_tapE hI m hw).mono (by decide) (by decide) (fun o w1 h => ⟨⟨_, h.1⟩, u, rfl, ⟨_, h.2⟩⟩)
set_option maxHeartbeats 4000000 in
theorem Qx_Mm_treatF {g : zG} {ad : Nat → Nat} {t : zTT} {u : zNN} {w : zW} (hI : IV g ad t u w) (h : Int32) (hw : (1 ≤ h ∧ h ≤ 100)) (h1 : ((t.1 63).1) 1 = 0) : zMB g M_Mm_treat [.ref (ad 52), .int h] w (fun o w1 => o = .inl (some (.int 0)) ∧ IV g ad t u w1) 0 0 := by
  obtain ⟨e_m, w_m, k_m⟩ := hI.1.2 52 (by decide)
  obtain ⟨v_m_th, rfl⟩ := kd_52.mp k_m
  obtain ⟨e_mi, w_mi, k_mi⟩ := hI.1.2 63 (by decide)
  obtain rfl := kd_63.mp k_mi
  refine ((C_Mm_treatF g (ad 52) (ad 53) (ad 54) (ad 55) (ad 56) (ad 57) (ad 58) (ad 59) (ad 60) (ad 61) (ad 62) (ad 63) (ad 64) (ad 65) (ad 66) (ad 67) (ad 68) v_m_th (nI ((t.1 52).2.2 0)) ((t.1 52).1 0) ((t.1 52).1 1) ((t.1 52).1 2) ((t.1 52).1 3) ((t.1 52).1 4) ((t.1 52).1 5) ((t.1 52).1 6) ((t.1 52).1 7) ((t.1 52).1 8) ((t.1 52).1 9) ((t.1 52).1 10) ((t.1 52).2.1 0) ((t.1 52).2.1 1) ((t.1 63).1) h hw h1).at (hI.1.I [52, 63] _ rfl (by decide) (by decide) (List.forall_mem_cons.mpr ⟨w_m, (List.forall_mem_cons.mpr ⟨w_mi, (fun _ h => nomatch h)⟩)⟩))).mono (Nat.le_of_ble_eq_true rfl) (Nat.le_of_ble_eq_true rfl) (fun o w1 hp => ?_)
  obtain ⟨cs1, hp, hi9⟩ := hp
  obtain ⟨e1, e2⟩ := hp
  subst e1; subst e2
  exact ⟨rfl, hI.fix (t2 := t) (is := [52, 63]) hi9 rfl ⟨kd_52.mpr ⟨_, rfl⟩, kd_63.mpr rfl, trivial⟩ (by decide) (by decide) (fun _ _ _ => rfl) (fun h => h) rfl⟩
set_option maxHeartbeats 4000000 in
theorem Qx_Mm_treatN9 {g : zG} {ad : Nat → Nat} {t : zTT} {u : zNN} {w : zW} (hI : IV g ad t u w) (h : Int32) (hw : (1 ≤ h ∧ h ≤ 100)) (h1 : ¬ ((t.1 63).1) 1 = 0) (hg : ((t.1 52).1 7) + h ≤ 100) : zMB g M_Mm_treat [.ref (ad 52), .int h] w (fun o w1 => o = .inl (some (.int (((t.1 52).1 7) + h))) ∧ IV g ad (zup t.1 [(52, ((upd (upd ((t.1 52).1) 7 (((t.1 52).1 7) + h)) 8 (if ((t.1 52).1 8) = 0 then if ((t.1 52).1 7) + h < 20 then 0 else 1 else 1)), (t.1 52).2.1, (t.1 52).2.2))], t.2) u w1) 0 0 := by
  obtain ⟨e_m, w_m, k_m⟩ := hI.1.2 52 (by decide)
  obtain ⟨v_m_th, rfl⟩ := kd_52.mp k_m
  obtain ⟨e_mi, w_mi, k_mi⟩ := hI.1.2 63 (by decide)
  obtain rfl := kd_63.mp k_mi
  obtain ⟨e_mr, w_mr, k_mr⟩ := hI.1.2 64 (by decide)
  obtain rfl := kd_64.mp k_mr
  refine ((C_Mm_treatN9 g (ad 52) (ad 53) (ad 54) (ad 55) (ad 56) (ad 57) (ad 58) (ad 59) (ad 60) (ad 61) (ad 62) (ad 63) (ad 64) (ad 65) (ad 66) (ad 67) (ad 68) v_m_th (nI ((t.1 52).2.2 0)) ((t.1 52).1 0) ((t.1 52).1 1) ((t.1 52).1 2) ((t.1 52).1 3) ((t.1 52).1 4) ((t.1 52).1 5) ((t.1 52).1 6) ((t.1 52).1 7) ((t.1 52).1 8) ((t.1 52).1 9) ((t.1 52).1 10) ((t.1 52).2.1 0) ((t.1 52).2.1 1) ((t.1 63).1) ((t.1 64).2.1) h hw h1 hg).at (hI.1.I [52, 63, 64] _ rfl (by decide) (by decide) (List.forall_mem_cons.mpr ⟨w_m, (List.forall_mem_cons.mpr ⟨w_mi, (List.forall_mem_cons.mpr ⟨w_mr, (fun _ h => nomatch h)⟩)⟩)⟩))).mono (Nat.le_of_ble_eq_true rfl) (Nat.le_of_ble_eq_true rfl) (fun o w1 hp => ?_)
  obtain ⟨cs1, hp, hi9⟩ := hp
  obtain ⟨e1, e2⟩ := hp
  subst e1; subst e2
  exact ⟨rfl, hI.fix (t2 := (zup t.1 [(52, ((upd (upd ((t.1 52).1) 7 (((t.1 52).1 7) + h)) 8 (if ((t.1 52).1 8) = 0 then if ((t.1 52).1 7) + h < 20 then 0 else 1 else 1)), (t.1 52).2.1, (t.1 52).2.2))], t.2)) (is := [52, 63, 64]) hi9 rfl ⟨kd_52.mpr ⟨_, rfl⟩, kd_63.mpr rfl, kd_64.mpr rfl, trivial⟩ (by decide) (by decide) (fun i hi hn => zup_out (fun q => hn ((by decide : ∀ j ∈ ([52] : List Nat), j ∈ ([52, 63, 64] : List Nat)) i q))) (fun h => h) rfl⟩
set_option maxHeartbeats 4000000 in
theorem Qx_Mm_treatG9 {g : zG} {ad : Nat → Nat} {t : zTT} {u : zNN} {w : zW} (hI : IV g ad t u w) (h : Int32) (hw : (1 ≤ h ∧ h ≤ 100)) (h1 : ¬ ((t.1 63).1) 1 = 0) (hg : ¬ ((t.1 52).1 7) + h ≤ 100) : zMB g M_Mm_treat [.ref (ad 52), .int h] w (fun o w1 => o = .inl (some (.int 0)) ∧ IV g ad t u w1) 0 0 := by
  obtain ⟨e_m, w_m, k_m⟩ := hI.1.2 52 (by decide)
  obtain ⟨v_m_th, rfl⟩ := kd_52.mp k_m
  obtain ⟨e_mi, w_mi, k_mi⟩ := hI.1.2 63 (by decide)
  obtain rfl := kd_63.mp k_mi
  obtain ⟨e_mr, w_mr, k_mr⟩ := hI.1.2 64 (by decide)
  obtain rfl := kd_64.mp k_mr
  refine ((C_Mm_treatG9 g (ad 52) (ad 53) (ad 54) (ad 55) (ad 56) (ad 57) (ad 58) (ad 59) (ad 60) (ad 61) (ad 62) (ad 63) (ad 64) (ad 65) (ad 66) (ad 67) (ad 68) v_m_th (nI ((t.1 52).2.2 0)) ((t.1 52).1 0) ((t.1 52).1 1) ((t.1 52).1 2) ((t.1 52).1 3) ((t.1 52).1 4) ((t.1 52).1 5) ((t.1 52).1 6) ((t.1 52).1 7) ((t.1 52).1 8) ((t.1 52).1 9) ((t.1 52).1 10) ((t.1 52).2.1 0) ((t.1 52).2.1 1) ((t.1 63).1) ((t.1 64).2.1) h hw h1 hg).at (hI.1.I [52, 63, 64] _ rfl (by decide) (by decide) (List.forall_mem_cons.mpr ⟨w_m, (List.forall_mem_cons.mpr ⟨w_mi, (List.forall_mem_cons.mpr ⟨w_mr, (fun _ h => nomatch h)⟩)⟩)⟩))).mono (Nat.le_of_ble_eq_true rfl) (Nat.le_of_ble_eq_true rfl) (fun o w1 hp => ?_)
  obtain ⟨cs1, hp, hi9⟩ := hp
  obtain ⟨e1, e2⟩ := hp
  subst e1; subst e2
  exact ⟨rfl, hI.fix (t2 := t) (is := [52, 63, 64]) hi9 rfl ⟨kd_52.mpr ⟨_, rfl⟩, kd_63.mpr rfl, kd_64.mpr rfl, trivial⟩ (by decide) (by decide) (fun _ _ _ => rfl) (fun h => h) rfl⟩
set_option maxHeartbeats 4000000 in
theorem Qx_Mm_treatE {g : zG} {ad : Nat → Nat} {t : zTT} {u : zNN} {w : zW} (hI : IV g ad t u w) (h : Int32) (hw : ¬ (1 ≤ h ∧ h ≤ 100)) : zMB g M_Mm_treat [.ref (ad 52), .int h] w (fun o w1 => o = .inl (some (.int 0)) ∧ IV g ad t u w1) 0 0 := by
  obtain ⟨e_m, w_m, k_m⟩ := hI.1.2 52 (by decide)
  obtain ⟨v_m_th, rfl⟩ := kd_52.mp k_m
  refine ((C_Mm_treatE g (ad 52) (ad 53) (ad 54) (ad 55) (ad 56) (ad 57) (ad 58) (ad 59) (ad 60) (ad 61) (ad 62) (ad 63) (ad 64) (ad 65) (ad 66) (ad 67) (ad 68) v_m_th (nI ((t.1 52).2.2 0)) ((t.1 52).1 0) ((t.1 52).1 1) ((t.1 52).1 2) ((t.1 52).1 3) ((t.1 52).1 4) ((t.1 52).1 5) ((t.1 52).1 6) ((t.1 52).1 7) ((t.1 52).1 8) ((t.1 52).1 9) ((t.1 52).1 10) ((t.1 52).2.1 0) ((t.1 52).2.1 1) h hw).at (hI.1.I [52] _ rfl (by decide) (by decide) (List.forall_mem_cons.mpr ⟨w_m, (fun _ h => nomatch h)⟩))).mono (Nat.le_of_ble_eq_true rfl) (Nat.le_of_ble_eq_true rfl) (fun o w1 hp => ?_)
  obtain ⟨cs1, hp, hi9⟩ := hp
  obtain ⟨e1, e2⟩ := hp
  subst e1; subst e2
  exact ⟨rfl, hI.fix (t2 := t) (is := [52]) hi9 rfl ⟨kd_52.mpr ⟨_, rfl⟩, trivial⟩ (by decide) (by decide) (fun _ _ _ => rfl) (fun h => h) rfl⟩
noncomputable def tK_Mm_treat (m : Int32) (t : zTT) : zTT := (if 1 ≤ m ∧ m ≤ 100 then (if (t.1 63).1 1 = 0 then t else (if (t.1 52).1 7 + m ≤ 100 then (zup t.1 [(52, ((upd (upd ((t.1 52).1) 7 (((t.1 52).1 7) + m)) 8 (if ((t.1 52).1 8) = 0 then if ((t.1 52).1 7) + m < 20 then 0 else 1 else 1)), (t.1 52).2.1, (t.1 52).2.2))], t.2) else t)) else t)
theorem K_Mm_treat {g : zG} {ad : Nat → Nat} {t : zTT} {u : zNN} {w : zW} (hI : IVm g ad t u w) (m : Int32) : zMB g M_Mm_treat [.ref (ad 52), .int m] w (MKx g ad (tK_Mm_treat m t) u.1) 10 300 := by
  obtain ⟨s, hI⟩ := hI
  by_cases hw : 1 ≤ m ∧ m ≤ 100
  · by_cases h1 : (t.1 63).1 1 = 0
    · have eT : (tK_Mm_treat m t) = t := by unfold tK_Mm_treat; rw [if_pos hw, if_pos h1]
      rw [eT]
      exact (Qx_Mm_treatF hI m hw h1).mono (by decide) (by decide) (fun o w1 h => ⟨⟨_, h.1⟩, u, rfl, ⟨_, h.2⟩⟩)
    · by_cases hg : (t.1 52).1 7 + m ≤ 100
      · have eT : (tK_Mm_treat m t) = (zup t.1 [(52, ((upd (upd ((t.1 52).1) 7 (((t.1 52).1 7) + m)) 8 (if ((t.1 52).1 8) = 0 then if ((t.1 52).1 7) + m < 20 then 0 else 1 else 1)), (t.1 52).2.1, (t.1 52).2.2))], t.2) := by unfold tK_Mm_treat; rw [if_pos hw, if_neg h1, if_pos hg]
        rw [eT]
        exact (Qx_Mm_treatN9 hI m hw h1 hg).mono (by decide) (by decide) (fun o w1 h => ⟨⟨_, h.1⟩, u, rfl, IVm.zu h.2⟩)
      · have eT : (tK_Mm_treat m t) = t := by unfold tK_Mm_treat; rw [if_pos hw, if_neg h1, if_neg hg]
        rw [eT]
        exact (Qx_Mm_treatG9 hI m hw h1 hg).mono (by decide) (by decide) (fun o w1 h => ⟨⟨_, h.1⟩, u, rfl, ⟨_, h.2⟩⟩)
  · have eT : (tK_Mm_treat m t) = t := by unfold tK_Mm_treat; rw [if_neg hw]
    rw [eT]
    exact (Qx_Mm_treatE hI m hw).mono (by decide) (by decide) (fun o w1 h => ⟨⟨_, h.1⟩, u, rfl, ⟨_, h.2⟩⟩)
set_option maxHeartbeats 4000000 in
theorem Qx_Mm_ladleE {g : zG} {ad : Nat → Nat} {t : zTT} {u : zNN} {w : zW} (hI : IV g ad t u w) (w8 : Int32) (hw : z_ix 3 w8 < 0) : zMB g M_Mm_ladle [.ref (ad 52), .int w8] w (fun o w1 => o = .inl (some (.int 0)) ∧ IV g ad t u w1) 0 0 := by
  obtain ⟨e_m, w_m, k_m⟩ := hI.1.2 52 (by decide)
  obtain ⟨v_m_th, rfl⟩ := kd_52.mp k_m
  refine ((C_Mm_ladleE g (ad 52) (ad 53) (ad 54) (ad 55) (ad 56) (ad 57) (ad 58) (ad 59) (ad 60) (ad 61) (ad 62) (ad 63) (ad 64) (ad 65) (ad 66) (ad 67) (ad 68) v_m_th (nI ((t.1 52).2.2 0)) ((t.1 52).1 0) ((t.1 52).1 1) ((t.1 52).1 2) ((t.1 52).1 3) ((t.1 52).1 4) ((t.1 52).1 5) ((t.1 52).1 6) ((t.1 52).1 7) ((t.1 52).1 8) ((t.1 52).1 9) ((t.1 52).1 10) ((t.1 52).2.1 0) ((t.1 52).2.1 1) w8 hw).at (hI.1.I [52] _ rfl (by decide) (by decide) (List.forall_mem_cons.mpr ⟨w_m, (fun _ h => nomatch h)⟩))).mono (Nat.le_of_ble_eq_true rfl) (Nat.le_of_ble_eq_true rfl) (fun o w1 hp => ?_)
  obtain ⟨cs1, hp, hi9⟩ := hp
  obtain ⟨e1, e2⟩ := hp
  subst e1; subst e2
  exact ⟨rfl, hI.fix (t2 := t) (is := [52]) hi9 rfl ⟨kd_52.mpr ⟨_, rfl⟩, trivial⟩ (by decide) (by decide) (fun _ _ _ => rfl) (fun h => h) rfl⟩
set_option maxHeartbeats 4000000 in
theorem Qx_Mm_ladle0 {g : zG} {ad : Nat → Nat} {t : zTT} {u : zNN} {w : zW} (hI : IV g ad t u w) (w8 : Int32) (hw : ¬ z_ix 3 w8 < 0) (h1 : ((t.1 63).1) 1 = 0) : zMB g M_Mm_ladle [.ref (ad 52), .int w8] w (fun o w1 => o = .inl (some (.int 0)) ∧ IV g ad t u w1) 0 0 := by
  obtain ⟨e_m, w_m, k_m⟩ := hI.1.2 52 (by decide)
  obtain ⟨v_m_th, rfl⟩ := kd_52.mp k_m
  obtain ⟨e_mi, w_mi, k_mi⟩ := hI.1.2 63 (by decide)
  obtain rfl := kd_63.mp k_mi
  refine ((C_Mm_ladle0 g (ad 52) (ad 53) (ad 54) (ad 55) (ad 56) (ad 57) (ad 58) (ad 59) (ad 60) (ad 61) (ad 62) (ad 63) (ad 64) (ad 65) (ad 66) (ad 67) (ad 68) v_m_th (nI ((t.1 52).2.2 0)) ((t.1 52).1 0) ((t.1 52).1 1) ((t.1 52).1 2) ((t.1 52).1 3) ((t.1 52).1 4) ((t.1 52).1 5) ((t.1 52).1 6) ((t.1 52).1 7) ((t.1 52).1 8) ((t.1 52).1 9) ((t.1 52).1 10) ((t.1 52).2.1 0) ((t.1 52).2.1 1) ((t.1 63).1) w8 hw h1).at (hI.1.I [52, 63] _ rfl (by decide) (by decide) (List.forall_mem_cons.mpr ⟨w_m, (List.forall_mem_cons.mpr ⟨w_mi, (fun _ h => nomatch h)⟩)⟩))).mono (Nat.le_of_ble_eq_true rfl) (Nat.le_of_ble_eq_true rfl) (fun o w1 hp => ?_)
  obtain ⟨cs1, hp, hi9⟩ := hp
  obtain ⟨e1, e2⟩ := hp
  subst e1; subst e2
  exact ⟨rfl, hI.fix (t2 := t) (is := [52, 63]) hi9 rfl ⟨kd_52.mpr ⟨_, rfl⟩, kd_63.mpr rfl, trivial⟩ (by decide) (by decide) (fun _ _ _ => rfl) (fun h => h) rfl⟩
set_option maxHeartbeats 4000000 in
theorem Qx_Mm_ladle1199 {g : zG} {ad : Nat → Nat} {t : zTT} {u : zNN} {w : zW} (hI : IV g ad t u w) (h1 : ¬ ((t.1 63).1) 1 = 0) : zMB g M_Mm_ladle [.ref (ad 52), .int 119] w (fun o w1 => o = .inl (some (.int (((t.1 63).1) 1))) ∧ IV g ad t u w1) 0 0 := by
  obtain ⟨e_m, w_m, k_m⟩ := hI.1.2 52 (by decide)
  obtain ⟨v_m_th, rfl⟩ := kd_52.mp k_m
  obtain ⟨e_mi, w_mi, k_mi⟩ := hI.1.2 63 (by decide)
  obtain rfl := kd_63.mp k_mi
  obtain ⟨e_mr, w_mr, k_mr⟩ := hI.1.2 64 (by decide)
  obtain rfl := kd_64.mp k_mr
  refine ((C_Mm_ladle1199 g (ad 52) (ad 53) (ad 54) (ad 55) (ad 56) (ad 57) (ad 58) (ad 59) (ad 60) (ad 61) (ad 62) (ad 63) (ad 64) (ad 65) (ad 66) (ad 67) (ad 68) v_m_th (nI ((t.1 52).2.2 0)) ((t.1 52).1 0) ((t.1 52).1 1) ((t.1 52).1 2) ((t.1 52).1 3) ((t.1 52).1 4) ((t.1 52).1 5) ((t.1 52).1 6) ((t.1 52).1 7) ((t.1 52).1 8) ((t.1 52).1 9) ((t.1 52).1 10) ((t.1 52).2.1 0) ((t.1 52).2.1 1) ((t.1 63).1) ((t.1 64).2.1) h1).at (hI.1.I [52, 63, 64] _ rfl (by decide) (by decide) (List.forall_mem_cons.mpr ⟨w_m, (List.forall_mem_cons.mpr ⟨w_mi, (List.forall_mem_cons.mpr ⟨w_mr, (fun _ h => nomatch h)⟩)⟩)⟩))).mono (Nat.le_of_ble_eq_true rfl) (Nat.le_of_ble_eq_true rfl) (fun o w1 hp => ?_)
  obtain ⟨cs1, hp, hi9⟩ := hp
  obtain ⟨e1, e2⟩ := hp
  subst e1; subst e2
  exact ⟨rfl, hI.fix (t2 := t) (is := [52, 63, 64]) hi9 rfl ⟨kd_52.mpr ⟨_, rfl⟩, kd_63.mpr rfl, kd_64.mpr rfl, trivial⟩ (by decide) (by decide) (fun _ _ _ => rfl) (fun h => h) rfl⟩
set_option maxHeartbeats 4000000 in
theorem Qx_Mm_ladle1049 {g : zG} {ad : Nat → Nat} {t : zTT} {u : zNN} {w : zW} (hI : IV g ad t u w) (h1 : ¬ ((t.1 63).1) 1 = 0) : zMB g M_Mm_ladle [.ref (ad 52), .int 104] w (fun o w1 => o = .inl (some (.int ((t.1 52).1 6))) ∧ IV g ad t u w1) 0 0 := by
  obtain ⟨e_m, w_m, k_m⟩ := hI.1.2 52 (by decide)
  obtain ⟨v_m_th, rfl⟩ := kd_52.mp k_m
  obtain ⟨e_mi, w_mi, k_mi⟩ := hI.1.2 63 (by decide)
  obtain rfl := kd_63.mp k_mi
  obtain ⟨e_mr, w_mr, k_mr⟩ := hI.1.2 64 (by decide)
  obtain rfl := kd_64.mp k_mr
  refine ((C_Mm_ladle1049 g (ad 52) (ad 53) (ad 54) (ad 55) (ad 56) (ad 57) (ad 58) (ad 59) (ad 60) (ad 61) (ad 62) (ad 63) (ad 64) (ad 65) (ad 66) (ad 67) (ad 68) v_m_th (nI ((t.1 52).2.2 0)) ((t.1 52).1 0) ((t.1 52).1 1) ((t.1 52).1 2) ((t.1 52).1 3) ((t.1 52).1 4) ((t.1 52).1 5) ((t.1 52).1 6) ((t.1 52).1 7) ((t.1 52).1 8) ((t.1 52).1 9) ((t.1 52).1 10) ((t.1 52).2.1 0) ((t.1 52).2.1 1) ((t.1 63).1) ((t.1 64).2.1) h1).at (hI.1.I [52, 63, 64] _ rfl (by decide) (by decide) (List.forall_mem_cons.mpr ⟨w_m, (List.forall_mem_cons.mpr ⟨w_mi, (List.forall_mem_cons.mpr ⟨w_mr, (fun _ h => nomatch h)⟩)⟩)⟩))).mono (Nat.le_of_ble_eq_true rfl) (Nat.le_of_ble_eq_true rfl) (fun o w1 hp => ?_)
  obtain ⟨cs1, hp, hi9⟩ := hp
  obtain ⟨e1, e2⟩ := hp
  subst e1; subst e2
  exact ⟨rfl, hI.fix (t2 := t) (is := [52, 63, 64]) hi9 rfl ⟨kd_52.mpr ⟨_, rfl⟩, kd_63.mpr rfl, kd_64.mpr rfl, trivial⟩ (by decide) (by decide) (fun _ _ _ => rfl) (fun h => h) rfl⟩
set_option maxHeartbeats 4000000 in
theorem Qx_Mm_ladle1099 {g : zG} {ad : Nat → Nat} {t : zTT} {u : zNN} {w : zW} (hI : IV g ad t u w) (h1 : ¬ ((t.1 63).1) 1 = 0) : zMB g M_Mm_ladle [.ref (ad 52), .int 109] w (fun o w1 => o = .inl (some (.int ((t.1 52).1 7))) ∧ IV g ad t u w1) 0 0 := by
  obtain ⟨e_m, w_m, k_m⟩ := hI.1.2 52 (by decide)
  obtain ⟨v_m_th, rfl⟩ := kd_52.mp k_m
  obtain ⟨e_mi, w_mi, k_mi⟩ := hI.1.2 63 (by decide)
  obtain rfl := kd_63.mp k_mi
  obtain ⟨e_mr, w_mr, k_mr⟩ := hI.1.2 64 (by decide)
  obtain rfl := kd_64.mp k_mr
  refine ((C_Mm_ladle1099 g (ad 52) (ad 53) (ad 54) (ad 55) (ad 56) (ad 57) (ad 58) (ad 59) (ad 60) (ad 61) (ad 62) (ad 63) (ad 64) (ad 65) (ad 66) (ad 67) (ad 68) v_m_th (nI ((t.1 52).2.2 0)) ((t.1 52).1 0) ((t.1 52).1 1) ((t.1 52).1 2) ((t.1 52).1 3) ((t.1 52).1 4) ((t.1 52).1 5) ((t.1 52).1 6) ((t.1 52).1 7) ((t.1 52).1 8) ((t.1 52).1 9) ((t.1 52).1 10) ((t.1 52).2.1 0) ((t.1 52).2.1 1) ((t.1 63).1) ((t.1 64).2.1) h1).at (hI.1.I [52, 63, 64] _ rfl (by decide) (by decide) (List.forall_mem_cons.mpr ⟨w_m, (List.forall_mem_cons.mpr ⟨w_mi, (List.forall_mem_cons.mpr ⟨w_mr, (fun _ h => nomatch h)⟩)⟩)⟩))).mono (Nat.le_of_ble_eq_true rfl) (Nat.le_of_ble_eq_true rfl) (fun o w1 hp => ?_)
  obtain ⟨cs1, hp, hi9⟩ := hp
  obtain ⟨e1, e2⟩ := hp
  subst e1; subst e2
  exact ⟨rfl, hI.fix (t2 := t) (is := [52, 63, 64]) hi9 rfl ⟨kd_52.mpr ⟨_, rfl⟩, kd_63.mpr rfl, kd_64.mpr rfl, trivial⟩ (by decide) (by decide) (fun _ _ _ => rfl) (fun h => h) rfl⟩
theorem K_Mm_ladle {g : zG} {ad : Nat → Nat} {t : zTT} {u : zNN} {w : zW} (hI : IVm g ad t u w) (c : Int32) : zMB g M_Mm_ladle [.ref (ad 52), .int c] w (MKx g ad t u.1) 10 300 := by
  obtain ⟨s, hI⟩ := hI
  by_cases hw : z_ix 3 c < 0
  · exact (Qx_Mm_ladleE hI c hw).mono (by decide) (by decide) (fun o w1 h => ⟨⟨_, h.1⟩, u, rfl, ⟨_, h.2⟩⟩)
  · by_cases h1 : (t.1 63).1 1 = 0
    · exact (Qx_Mm_ladle0 hI c hw h1).mono (by decide) (by decide) (fun o w1 h => ⟨⟨_, h.1⟩, u, rfl, ⟨_, h.2⟩⟩)
    · rcases z_ix3 (Int32.not_lt.mp hw) with rfl | rfl | rfl
      · exact (Qx_Mm_ladle1199 hI h1).mono (by decide) (by decide) (fun o w1 h => ⟨⟨_, h.1⟩, u, rfl, ⟨_, h.2⟩⟩)
      · exact (Qx_Mm_ladle1049 hI h1).mono (by decide) (by decide) (fun o w1 h => ⟨⟨_, h.1⟩, u, rfl, ⟨_, h.2⟩⟩)
      · exact (Qx_Mm_ladle1099 hI h1).mono (by decide) (by decide) (fun o w1 h => ⟨⟨_, h.1⟩, u, rfl, ⟨_, h.2⟩⟩)
set_option maxHeartbeats 4000000 in
theorem Qx_Mm_pigE {g : zG} {ad : Nat → Nat} {t : zTT} {u : zNN} {w : zW} (hI : IV g ad t u w) (h1 : ((t.1 63).1) 1 = 0) : zMB g M_Mm_pig [.ref (ad 52)] w (fun o w1 => o = .inl (some (.int 0)) ∧ IV g ad t u w1) 0 0 := by
  obtain ⟨e_m, w_m, k_m⟩ := hI.1.2 52 (by decide)
  obtain ⟨v_m_th, rfl⟩ := kd_52.mp k_m
  obtain ⟨e_mi, w_mi, k_mi⟩ := hI.1.2 63 (by decide)
  obtain rfl := kd_63.mp k_mi
  refine ((C_Mm_pigE g (ad 52) (ad 53) (ad 54) (ad 55) (ad 56) (ad 57) (ad 58) (ad 59) (ad 60) (ad 61) (ad 62) (ad 63) (ad 64) (ad 65) (ad 66) (ad 67) (ad 68) v_m_th (nI ((t.1 52).2.2 0)) ((t.1 52).1 0) ((t.1 52).1 1) ((t.1 52).1 2) ((t.1 52).1 3) ((t.1 52).1 4) ((t.1 52).1 5) ((t.1 52).1 6) ((t.1 52).1 7) ((t.1 52).1 8) ((t.1 52).1 9) ((t.1 52).1 10) ((t.1 52).2.1 0) ((t.1 52).2.1 1) ((t.1 63).1) h1).at (hI.1.I [52, 63] _ rfl (by decide) (by decide) (List.forall_mem_cons.mpr ⟨w_m, (List.forall_mem_cons.mpr ⟨w_mi, (fun _ h => nomatch h)⟩)⟩))).mono (Nat.le_of_ble_eq_true rfl) (Nat.le_of_ble_eq_true rfl) (fun o w1 hp => ?_)
  obtain ⟨cs1, hp, hi9⟩ := hp
  obtain ⟨e1, e2⟩ := hp
  subst e1; subst e2
  exact ⟨rfl, hI.fix (t2 := t) (is := [52, 63]) hi9 rfl ⟨kd_52.mpr ⟨_, rfl⟩, kd_63.mpr rfl, trivial⟩ (by decide) (by decide) (fun _ _ _ => rfl) (fun h => h) rfl⟩
set_option maxHeartbeats 4000000 in
theorem Qx_Mm_pigN9 {g : zG} {ad : Nat → Nat} {t : zTT} {u : zNN} {w : zW} (hI : IV g ad t u w) (h1 : ¬ ((t.1 63).1) 1 = 0) (hw : ((t.1 52).1 8) = 0) : zMB g M_Mm_pig [.ref (ad 52)] w (fun o w1 => o = .inl (some (.int (((t.1 63).1) 1))) ∧ IV g ad (zup t.1 [(63, (mvN ((t.1 63).1) 1 2 (((t.1 63).1) 1), (t.1 63).2)), (64, ((t.1 64).1, mvR ((t.1 64).2.1) 1 2 (((t.1 63).1) 1) (((t.1 63).1) 1) 4, (t.1 64).2.2))], t.2) u w1) 0 0 := by
  obtain ⟨e_m, w_m, k_m⟩ := hI.1.2 52 (by decide)
  obtain ⟨v_m_th, rfl⟩ := kd_52.mp k_m
  obtain ⟨e_mi, w_mi, k_mi⟩ := hI.1.2 63 (by decide)
  obtain rfl := kd_63.mp k_mi
  obtain ⟨e_mr, w_mr, k_mr⟩ := hI.1.2 64 (by decide)
  obtain rfl := kd_64.mp k_mr
  refine ((C_Mm_pigN9 g (ad 52) (ad 53) (ad 54) (ad 55) (ad 56) (ad 57) (ad 58) (ad 59) (ad 60) (ad 61) (ad 62) (ad 63) (ad 64) (ad 65) (ad 66) (ad 67) (ad 68) v_m_th (nI ((t.1 52).2.2 0)) ((t.1 52).1 0) ((t.1 52).1 1) ((t.1 52).1 2) ((t.1 52).1 3) ((t.1 52).1 4) ((t.1 52).1 5) ((t.1 52).1 6) ((t.1 52).1 7) ((t.1 52).1 8) ((t.1 52).1 9) ((t.1 52).1 10) ((t.1 52).2.1 0) ((t.1 52).2.1 1) ((t.1 63).1) ((t.1 64).2.1) h1 hw).at (hI.1.I [52, 63, 64] _ rfl (by decide) (by decide) (List.forall_mem_cons.mpr ⟨w_m, (List.forall_mem_cons.mpr ⟨w_mi, (List.forall_mem_cons.mpr ⟨w_mr, (fun _ h => nomatch h)⟩)⟩)⟩))).mono (Nat.le_of_ble_eq_true rfl) (Nat.le_of_ble_eq_true rfl) (fun o w1 hp => ?_)
  obtain ⟨cs1, hp, hi9⟩ := hp
  obtain ⟨e1, e2⟩ := hp
  subst e1; subst e2
  exact ⟨rfl, hI.fix (t2 := (zup t.1 [(63, (mvN ((t.1 63).1) 1 2 (((t.1 63).1) 1), (t.1 63).2)), (64, ((t.1 64).1, mvR ((t.1 64).2.1) 1 2 (((t.1 63).1) 1) (((t.1 63).1) 1) 4, (t.1 64).2.2))], t.2)) (is := [52, 63, 64]) hi9 rfl ⟨kd_52.mpr ⟨_, rfl⟩, kd_63.mpr rfl, kd_64.mpr rfl, trivial⟩ (by decide) (by decide) (fun i hi hn => zup_out (fun q => hn ((by decide : ∀ j ∈ ([63, 64] : List Nat), j ∈ ([52, 63, 64] : List Nat)) i q))) (fun h => h) rfl⟩
set_option maxHeartbeats 4000000 in
theorem Qx_Mm_pigD9 {g : zG} {ad : Nat → Nat} {t : zTT} {u : zNN} {w : zW} (hI : IV g ad t u w) (h1 : ¬ ((t.1 63).1) 1 = 0) (hw : ¬ ((t.1 52).1 8) = 0) : zMB g M_Mm_pig [.ref (ad 52)] w (fun o w1 => o = .inl (some (.int (((t.1 63).1) 1))) ∧ IV g ad (zup t.1 [(63, (mvN ((t.1 63).1) 1 3 (((t.1 63).1) 1), (t.1 63).2)), (64, ((t.1 64).1, mvR ((t.1 64).2.1) 1 3 (((t.1 63).1) 1) (((t.1 63).1) 1) 4, (t.1 64).2.2))], t.2) u w1) 0 0 := by
  obtain ⟨e_m, w_m, k_m⟩ := hI.1.2 52 (by decide)
  obtain ⟨v_m_th, rfl⟩ := kd_52.mp k_m
  obtain ⟨e_mi, w_mi, k_mi⟩ := hI.1.2 63 (by decide)
  obtain rfl := kd_63.mp k_mi
  obtain ⟨e_mr, w_mr, k_mr⟩ := hI.1.2 64 (by decide)
  obtain rfl := kd_64.mp k_mr
  refine ((C_Mm_pigD9 g (ad 52) (ad 53) (ad 54) (ad 55) (ad 56) (ad 57) (ad 58) (ad 59) (ad 60) (ad 61) (ad 62) (ad 63) (ad 64) (ad 65) (ad 66) (ad 67) (ad 68) v_m_th (nI ((t.1 52).2.2 0)) ((t.1 52).1 0) ((t.1 52).1 1) ((t.1 52).1 2) ((t.1 52).1 3) ((t.1 52).1 4) ((t.1 52).1 5) ((t.1 52).1 6) ((t.1 52).1 7) ((t.1 52).1 8) ((t.1 52).1 9) ((t.1 52).1 10) ((t.1 52).2.1 0) ((t.1 52).2.1 1) ((t.1 63).1) ((t.1 64).2.1) h1 hw).at (hI.1.I [52, 63, 64] _ rfl (by decide) (by decide) (List.forall_mem_cons.mpr ⟨w_m, (List.forall_mem_cons.mpr ⟨w_mi, (List.forall_mem_cons.mpr ⟨w_mr, (fun _ h => nomatch h)⟩)⟩)⟩))).mono (Nat.le_of_ble_eq_true rfl) (Nat.le_of_ble_eq_true rfl) (fun o w1 hp => ?_)
  obtain ⟨cs1, hp, hi9⟩ := hp
  obtain ⟨e1, e2⟩ := hp
  subst e1; subst e2
  exact ⟨rfl, hI.fix (t2 := (zup t.1 [(63, (mvN ((t.1 63).1) 1 3 (((t.1 63).1) 1), (t.1 63).2)), (64, ((t.1 64).1, mvR ((t.1 64).2.1) 1 3 (((t.1 63).1) 1) (((t.1 63).1) 1) 4, (t.1 64).2.2))], t.2)) (is := [52, 63, 64]) hi9 rfl ⟨kd_52.mpr ⟨_, rfl⟩, kd_63.mpr rfl, kd_64.mpr rfl, trivial⟩ (by decide) (by decide) (fun i hi hn => zup_out (fun q => hn ((by decide : ∀ j ∈ ([63, 64] : List Nat), j ∈ ([52, 63, 64] : List Nat)) i q))) (fun h => h) rfl⟩
noncomputable def tK_Mm_pig (t : zTT) : zTT := (if (t.1 63).1 1 = 0 then t else (if (t.1 52).1 8 = 0 then (zup t.1 [(63, (mvN ((t.1 63).1) 1 2 (((t.1 63).1) 1), (t.1 63).2)), (64, ((t.1 64).1, mvR ((t.1 64).2.1) 1 2 (((t.1 63).1) 1) (((t.1 63).1) 1) 4, (t.1 64).2.2))], t.2) else (zup t.1 [(63, (mvN ((t.1 63).1) 1 3 (((t.1 63).1) 1), (t.1 63).2)), (64, ((t.1 64).1, mvR ((t.1 64).2.1) 1 3 (((t.1 63).1) 1) (((t.1 63).1) 1) 4, (t.1 64).2.2))], t.2)))
theorem K_Mm_pig {g : zG} {ad : Nat → Nat} {t : zTT} {u : zNN} {w : zW} (hI : IVm g ad t u w) : zMB g M_Mm_pig [.ref (ad 52)] w (MKx g ad (tK_Mm_pig t) u.1) 10 300 := by
  obtain ⟨s, hI⟩ := hI
  by_cases h1 : (t.1 63).1 1 = 0
  · have eT : (tK_Mm_pig t) = t := by unfold tK_Mm_pig; rw [if_pos h1]
    rw [eT]
    exact (Qx_Mm_pigE hI h1).mono (by decide) (by decide) (fun o w1 h => ⟨⟨_, h.1⟩, u, rfl, ⟨_, h.2⟩⟩)
  · by_cases hw : (t.1 52).1 8 = 0
    · have eT : (tK_Mm_pig t) = (zup t.1 [(63, (mvN ((t.1 63).1) 1 2 (((t.1 63).1) 1), (t.1 63).2)), (64, ((t.1 64).1, mvR ((t.1 64).2.1) 1 2 (((t.1 63).1) 1) (((t.1 63).1) 1) 4, (t.1 64).2.2))], t.2) := by unfold tK_Mm_pig; rw [if_neg h1, if_pos hw]
      rw [eT]
      exact (Qx_Mm_pigN9 hI h1 hw).mono (by decide) (by decide) (fun o w1 h => ⟨⟨_, h.1⟩, u, rfl, IVm.zu h.2⟩)
    · have eT : (tK_Mm_pig t) = (zup t.1 [(63, (mvN ((t.1 63).1) 1 3 (((t.1 63).1) 1), (t.1 63).2)), (64, ((t.1 64).1, mvR ((t.1 64).2.1) 1 3 (((t.1 63).1) 1) (((t.1 63).1) 1) 4, (t.1 64).2.2))], t.2) := by unfold tK_Mm_pig; rw [if_neg h1, if_neg hw]
      rw [eT]
      exact (Qx_Mm_pigD9 hI h1 hw).mono (by decide) (by decide) (fun o w1 h => ⟨⟨_, h.1⟩, u, rfl, IVm.zu h.2⟩)
set_option maxHeartbeats 4000000 in
theorem Qx_Mm_pool103 {g : zG} {ad : Nat → Nat} {t : zTT} {u : zNN} {w : zW} (hI : IV g ad t u w) : zMB g M_Mm_pool [.ref (ad 52), .int 103] w (fun o w1 => o = .inl (some (.int (((t.1 63).1) 2))) ∧ IV g ad t u w1) 0 0 := by
  obtain ⟨e_m, w_m, k_m⟩ := hI.1.2 52 (by decide)
  obtain ⟨v_m_th, rfl⟩ := kd_52.mp k_m
  obtain ⟨e_mi, w_mi, k_mi⟩ := hI.1.2 63 (by decide)
  obtain rfl := kd_63.mp k_mi
  refine ((C_Mm_pool103 g (ad 52) (ad 53) (ad 54) (ad 55) (ad 56) (ad 57) (ad 58) (ad 59) (ad 60) (ad 61) (ad 62) (ad 63) (ad 64) (ad 65) (ad 66) (ad 67) (ad 68) v_m_th (nI ((t.1 52).2.2 0)) ((t.1 52).1 0) ((t.1 52).1 1) ((t.1 52).1 2) ((t.1 52).1 3) ((t.1 52).1 4) ((t.1 52).1 5) ((t.1 52).1 6) ((t.1 52).1 7) ((t.1 52).1 8) ((t.1 52).1 9) ((t.1 52).1 10) ((t.1 52).2.1 0) ((t.1 52).2.1 1) ((t.1 63).1)).at (hI.1.I [52, 63] _ rfl (by decide) (by decide) (List.forall_mem_cons.mpr ⟨w_m, (List.forall_mem_cons.mpr ⟨w_mi, (fun _ h => nomatch h)⟩)⟩))).mono (Nat.le_of_ble_eq_true rfl) (Nat.le_of_ble_eq_true rfl) (fun o w1 hp => ?_)
  obtain ⟨cs1, hp, hi9⟩ := hp
  obtain ⟨e1, e2⟩ := hp
  subst e1; subst e2
  exact ⟨rfl, hI.fix (t2 := t) (is := [52, 63]) hi9 rfl ⟨kd_52.mpr ⟨_, rfl⟩, kd_63.mpr rfl, trivial⟩ (by decide) (by decide) (fun _ _ _ => rfl) (fun h => h) rfl⟩
set_option maxHeartbeats 4000000 in
theorem Qx_Mm_pool100 {g : zG} {ad : Nat → Nat} {t : zTT} {u : zNN} {w : zW} (hI : IV g ad t u w) : zMB g M_Mm_pool [.ref (ad 52), .int 100] w (fun o w1 => o = .inl (some (.int (((t.1 63).1) 3))) ∧ IV g ad t u w1) 0 0 := by
  obtain ⟨e_m, w_m, k_m⟩ := hI.1.2 52 (by decide)
  obtain ⟨v_m_th, rfl⟩ := kd_52.mp k_m
  obtain ⟨e_mi, w_mi, k_mi⟩ := hI.1.2 63 (by decide)
  obtain rfl := kd_63.mp k_mi
  refine ((C_Mm_pool100 g (ad 52) (ad 53) (ad 54) (ad 55) (ad 56) (ad 57) (ad 58) (ad 59) (ad 60) (ad 61) (ad 62) (ad 63) (ad 64) (ad 65) (ad 66) (ad 67) (ad 68) v_m_th (nI ((t.1 52).2.2 0)) ((t.1 52).1 0) ((t.1 52).1 1) ((t.1 52).1 2) ((t.1 52).1 3) ((t.1 52).1 4) ((t.1 52).1 5) ((t.1 52).1 6) ((t.1 52).1 7) ((t.1 52).1 8) ((t.1 52).1 9) ((t.1 52).1 10) ((t.1 52).2.1 0) ((t.1 52).2.1 1) ((t.1 63).1)).at (hI.1.I [52, 63] _ rfl (by decide) (by decide) (List.forall_mem_cons.mpr ⟨w_m, (List.forall_mem_cons.mpr ⟨w_mi, (fun _ h => nomatch h)⟩)⟩))).mono (Nat.le_of_ble_eq_true rfl) (Nat.le_of_ble_eq_true rfl) (fun o w1 hp => ?_)
  obtain ⟨cs1, hp, hi9⟩ := hp
  obtain ⟨e1, e2⟩ := hp
  subst e1; subst e2
  exact ⟨rfl, hI.fix (t2 := t) (is := [52, 63]) hi9 rfl ⟨kd_52.mpr ⟨_, rfl⟩, kd_63.mpr rfl, trivial⟩ (by decide) (by decide) (fun _ _ _ => rfl) (fun h => h) rfl⟩
set_option maxHeartbeats 4000000 in
theorem Qx_Mm_poolE {g : zG} {ad : Nat → Nat} {t : zTT} {u : zNN} {w : zW} (hI : IV g ad t u w) (k : Int32) (h1 : ¬ k = 103) (h2 : ¬ k = 100) : zMB g M_Mm_pool [.ref (ad 52), .int k] w (fun o w1 => o = .inl (some (.int 0)) ∧ IV g ad t u w1) 0 0 := by
  obtain ⟨e_m, w_m, k_m⟩ := hI.1.2 52 (by decide)
  obtain ⟨v_m_th, rfl⟩ := kd_52.mp k_m
  refine ((C_Mm_poolE g (ad 52) (ad 53) (ad 54) (ad 55) (ad 56) (ad 57) (ad 58) (ad 59) (ad 60) (ad 61) (ad 62) (ad 63) (ad 64) (ad 65) (ad 66) (ad 67) (ad 68) v_m_th (nI ((t.1 52).2.2 0)) ((t.1 52).1 0) ((t.1 52).1 1) ((t.1 52).1 2) ((t.1 52).1 3) ((t.1 52).1 4) ((t.1 52).1 5) ((t.1 52).1 6) ((t.1 52).1 7) ((t.1 52).1 8) ((t.1 52).1 9) ((t.1 52).1 10) ((t.1 52).2.1 0) ((t.1 52).2.1 1) k h1 h2).at (hI.1.I [52] _ rfl (by decide) (by decide) (List.forall_mem_cons.mpr ⟨w_m, (fun _ h => nomatch h)⟩))).mono (Nat.le_of_ble_eq_true rfl) (Nat.le_of_ble_eq_true rfl) (fun o w1 hp => ?_)
  obtain ⟨cs1, hp, hi9⟩ := hp
  obtain ⟨e1, e2⟩ := hp
  subst e1; subst e2
  exact ⟨rfl, hI.fix (t2 := t) (is := [52]) hi9 rfl ⟨kd_52.mpr ⟨_, rfl⟩, trivial⟩ (by decide) (by decide) (fun _ _ _ => rfl) (fun h => h) rfl⟩
theorem K_Mm_pool {g : zG} {ad : Nat → Nat} {t : zTT} {u : zNN} {w : zW} (hI : IVm g ad t u w) (k : Int32) : zMB g M_Mm_pool [.ref (ad 52), .int k] w (MKx g ad t u.1) 10 300 := by
  obtain ⟨s, hI⟩ := hI
  by_cases h1 : k = 103
  · subst h1
    exact (Qx_Mm_pool103 hI).mono (by decide) (by decide) (fun o w1 h => ⟨⟨_, h.1⟩, u, rfl, ⟨_, h.2⟩⟩)
  · by_cases h2 : k = 100
    · subst h2
      exact (Qx_Mm_pool100 hI).mono (by decide) (by decide) (fun o w1 h => ⟨⟨_, h.1⟩, u, rfl, ⟨_, h.2⟩⟩)
    · exact (Qx_Mm_poolE hI k h1 h2).mono (by decide) (by decide) (fun o w1 h => ⟨⟨_, h.1⟩, u, rfl, ⟨_, h.2⟩⟩)
set_option maxHeartbeats 4000000 in
theorem Qx_Mm_cheapestE {g : zG} {ad : Nat → Nat} {t : zTT} {u : zNN} {w : zW} (hI : IV g ad t u w) (w8 : Int32) (hw : z_ix 4 w8 < 0) : zMB g M_Mm_cheapest [.ref (ad 52), .int w8] w (fun o w1 => o = .inl (some (.int 0)) ∧ IV g ad t u w1) 0 0 := by
  obtain ⟨e_m, w_m, k_m⟩ := hI.1.2 52 (by decide)
  obtain ⟨v_m_th, rfl⟩ := kd_52.mp k_m
  refine ((C_Mm_cheapestE g (ad 52) (ad 53) (ad 54) (ad 55) (ad 56) (ad 57) (ad 58) (ad 59) (ad 60) (ad 61) (ad 62) (ad 63) (ad 64) (ad 65) (ad 66) (ad 67) (ad 68) v_m_th (nI ((t.1 52).2.2 0)) ((t.1 52).1 0) ((t.1 52).1 1) ((t.1 52).1 2) ((t.1 52).1 3) ((t.1 52).1 4) ((t.1 52).1 5) ((t.1 52).1 6) ((t.1 52).1 7) ((t.1 52).1 8) ((t.1 52).1 9) ((t.1 52).1 10) ((t.1 52).2.1 0) ((t.1 52).2.1 1) w8 hw).at (hI.1.I [52] _ rfl (by decide) (by decide) (List.forall_mem_cons.mpr ⟨w_m, (fun _ h => nomatch h)⟩))).mono (Nat.le_of_ble_eq_true rfl) (Nat.le_of_ble_eq_true rfl) (fun o w1 hp => ?_)
  obtain ⟨cs1, hp, hi9⟩ := hp
  obtain ⟨e1, e2⟩ := hp
  subst e1; subst e2
  exact ⟨rfl, hI.fix (t2 := t) (is := [52]) hi9 rfl ⟨kd_52.mpr ⟨_, rfl⟩, trivial⟩ (by decide) (by decide) (fun _ _ _ => rfl) (fun h => h) rfl⟩
set_option maxHeartbeats 4000000 in
theorem Qx_Mm_cheapestW {g : zG} {ad : Nat → Nat} {t : zTT} {u : zNN} {w : zW} (hI : IV g ad t u w) (w8 : Int32) (hw : ¬ z_ix 4 w8 < 0) : zMB g M_Mm_cheapest [.ref (ad 52), .int w8] w (fun o w1 => (∃ v : Int32, o = .inl (some (.int v))) ∧ IV g ad t u w1) 0 0 := by
  obtain ⟨e_m, w_m, k_m⟩ := hI.1.2 52 (by decide)
  obtain ⟨v_m_th, rfl⟩ := kd_52.mp k_m
  refine ((C_Mm_cheapestW g (ad 52) (ad 53) (ad 54) (ad 55) (ad 56) (ad 57) (ad 58) (ad 59) (ad 60) (ad 61) (ad 62) (ad 63) (ad 64) (ad 65) (ad 66) (ad 67) (ad 68) v_m_th (nI ((t.1 52).2.2 0)) ((t.1 52).1 0) ((t.1 52).1 1) ((t.1 52).1 2) ((t.1 52).1 3) ((t.1 52).1 4) ((t.1 52).1 5) ((t.1 52).1 6) ((t.1 52).1 7) ((t.1 52).1 8) ((t.1 52).1 9) ((t.1 52).1 10) ((t.1 52).2.1 0) ((t.1 52).2.1 1) w8 hw).at (hI.1.I [52] _ rfl (by decide) (by decide) (List.forall_mem_cons.mpr ⟨w_m, (fun _ h => nomatch h)⟩))).mono (Nat.le_of_ble_eq_true rfl) (Nat.le_of_ble_eq_true rfl) (fun o w1 hp => ?_)
  obtain ⟨cs1, hp, hi9⟩ := hp
  obtain ⟨v9, th9, e1, e2⟩ := hp
  subst e1; subst e2
  exact ⟨⟨_, rfl⟩, hI.fix (t2 := t) (is := [52]) hi9 rfl ⟨kd_52.mpr ⟨_, rfl⟩, trivial⟩ (by decide) (by decide) (fun _ _ _ => rfl) (fun h => h) rfl⟩
theorem K_Mm_cheapest {g : zG} {ad : Nat → Nat} {t : zTT} {u : zNN} {w : zW} (hI : IVm g ad t u w) (c : Int32) : zMB g M_Mm_cheapest [.ref (ad 52), .int c] w (MKx g ad t u.1) 10 300 := by
  obtain ⟨s, hI⟩ := hI
  by_cases hw : z_ix 4 c < 0
  · exact (Qx_Mm_cheapestE hI c hw).mono (by decide) (by decide) (fun o w1 h => ⟨⟨_, h.1⟩, u, rfl, ⟨_, h.2⟩⟩)
  · exact (Qx_Mm_cheapestW hI c hw).mono (by decide) (by decide) (fun o w1 h => ⟨h.1, u, rfl, ⟨_, h.2⟩⟩)
