theorem zriE {Es : List String} {E : String} (h : zri Es (.inr E)) : E ∈ Es := by
  rcases h with ⟨v, e⟩ | ⟨E2, h, e⟩
  · cases e
  · cases e; exact h
theorem zriV {Es : List String} {v : Option Value} (h : zri Es (.inl v)) : ∃ x : Int32, v = some (.int x) := by
  rcases h with ⟨x, e⟩ | ⟨E2, h, e⟩
  · cases e; exact ⟨_, rfl⟩
  · cases e
theorem zri.sub {Es Fs : List String} {o : zO} (h : zri Es o) (k : ∀ E, E ∈ Es → E ∈ Fs) : zri Fs o := h.imp id (fun ⟨E, h1, h2⟩ => ⟨E, k E h1, h2⟩)
theorem zri.th {Es : List String} {E : String} {o : zO} (h : o = .inr E) (k : E ∈ Es) : zri Es o := Or.inr ⟨_, k, h⟩
theorem zri.vl {Es : List String} {x : Int32} {o : zO} (h : o = .inl (some (.int x))) : zri Es o := Or.inl ⟨_, h⟩
theorem z_ix3 {k : Int32} (h : 0 ≤ z_ix 3 k) : k = 119 ∨ k = 104 ∨ k = 109 := by
  have := z_ixm h
  simpa [z_by] using this
theorem z_ix4 {k : Int32} (h : 0 ≤ z_ix 4 k) : k = 112 ∨ k = 115 ∨ k = 102 := by
  have := z_ixm h
  simpa [z_by] using this
theorem z_nlt9 {x : Int32} (h : ¬ x < 0) : 0 ≤ x := Int32.not_lt.mp h
theorem z_pr9 {x : Int32} (h : ¬ (1 ≤ x ∧ x ≤ 8)) : x < 1 ∨ 9 ≤ x := by
  simp only [Int32.le_iff_toInt_le, Int32.lt_iff_toInt_lt] at h ⊢
  have h1 : (1 : Int32).toInt = 1 := rfl
  have h8 : (8 : Int32).toInt = 8 := rfl
  have h9 : (9 : Int32).toInt = 9 := rfl
  rw [h1, h8] at h
  rw [h1, h9]
  omega
def CKx (g : zG) (ad : Nat → Nat) (T : zTT) (n : Nat → Nat) (Es : List String) (o : zO) (w1 : zW) : Prop := zri Es o ∧ ∃ u2 : zNN, u2.1 = n ∧ IVm g ad T u2 w1
def MKx (g : zG) (ad : Nat → Nat) (T : zTT) (n : Nat → Nat) (o : zO) (w1 : zW) : Prop := (∃ v : Int32, o = .inl (some (.int v))) ∧ ∃ u2 : zNN, u2.1 = n ∧ IVm g ad T u2 w1
set_option maxHeartbeats 4000000 in
theorem Qx_Ip_drawZ {g : zG} {ad : Nat → Nat} {t : zTT} {u : zNN} {w : zW} (hI : IV g ad t u w) (kd : Int32) (hk : z_kind kd) (hki : 0 ≤ z_ix 0 kd) (x : Nat) (y : Nat) (u8 : Nat) (v8 : Nat) (hx : x + u8 ≤ 12) (hy : y + v8 ≤ 9) (hu : 1 ≤ u8) (hv : 1 ≤ v8) (hz : (prect kd x y u8 (((t.1 2).1), 0) v8).2 = 0) : zMB g M_Ip_draw [.ref (ad 0), .int kd, .int (nI x), .int (nI y), .int (nI u8), .int (nI v8)] w (fun o w1 => o = .inl (some (.int (nI (prect kd x y u8 (((t.1 2).1), 0) v8).2))) ∧ IV g ad (zup t.1 [(2, ((prect kd x y u8 (((t.1 2).1), 0) v8).1, (t.1 2).2)), (5, ((upd (upd ((t.1 5).1) 0 (((((t.1 6).1), ((t.1 7).1), (t.1 5).1 0, (t.1 5).1 1), (((((t.1 9).1), ((t.1 11).1), ((t.1 12).1), (t.1 8).1 0), ((t.1 10).1)), ((t.1 13).1), ((t.1 14).1)), (((t.1 15).1), ((t.1 16).1), ((t.1 17).2.2))).1.2.2.1)) 1 (((((t.1 6).1), ((t.1 7).1), (t.1 5).1 0, (t.1 5).1 1), (((((t.1 9).1), ((t.1 11).1), ((t.1 12).1), (t.1 8).1 0), ((t.1 10).1)), ((t.1 13).1), ((t.1 14).1)), (((t.1 15).1), ((t.1 16).1), ((t.1 17).2.2))).1.2.2.2)), (t.1 5).2.1, (t.1 5).2.2)), (6, (((((t.1 6).1), ((t.1 7).1), (t.1 5).1 0, (t.1 5).1 1), (((((t.1 9).1), ((t.1 11).1), ((t.1 12).1), (t.1 8).1 0), ((t.1 10).1)), ((t.1 13).1), ((t.1 14).1)), (((t.1 15).1), ((t.1 16).1), ((t.1 17).2.2))).1.1, (t.1 6).2)), (7, (((((t.1 6).1), ((t.1 7).1), (t.1 5).1 0, (t.1 5).1 1), (((((t.1 9).1), ((t.1 11).1), ((t.1 12).1), (t.1 8).1 0), ((t.1 10).1)), ((t.1 13).1), ((t.1 14).1)), (((t.1 15).1), ((t.1 16).1), ((t.1 17).2.2))).1.2.1, (t.1 7).2)), (8, ((upd ((t.1 8).1) 0 (((((t.1 6).1), ((t.1 7).1), (t.1 5).1 0, (t.1 5).1 1), (((((t.1 9).1), ((t.1 11).1), ((t.1 12).1), (t.1 8).1 0), ((t.1 10).1)), ((t.1 13).1), ((t.1 14).1)), (((t.1 15).1), ((t.1 16).1), ((t.1 17).2.2))).2.1.1.1.2.2.2)), (t.1 8).2.1, (t.1 8).2.2)), (9, (((((t.1 6).1), ((t.1 7).1), (t.1 5).1 0, (t.1 5).1 1), (((((t.1 9).1), ((t.1 11).1), ((t.1 12).1), (t.1 8).1 0), ((t.1 10).1)), ((t.1 13).1), ((t.1 14).1)), (((t.1 15).1), ((t.1 16).1), ((t.1 17).2.2))).2.1.1.1.1, (t.1 9).2)), (10, (((((t.1 6).1), ((t.1 7).1), (t.1 5).1 0, (t.1 5).1 1), (((((t.1 9).1), ((t.1 11).1), ((t.1 12).1), (t.1 8).1 0), ((t.1 10).1)), ((t.1 13).1), ((t.1 14).1)), (((t.1 15).1), ((t.1 16).1), ((t.1 17).2.2))).2.1.1.2, (t.1 10).2)), (11, (((((t.1 6).1), ((t.1 7).1), (t.1 5).1 0, (t.1 5).1 1), (((((t.1 9).1), ((t.1 11).1), ((t.1 12).1), (t.1 8).1 0), ((t.1 10).1)), ((t.1 13).1), ((t.1 14).1)), (((t.1 15).1), ((t.1 16).1), ((t.1 17).2.2))).2.1.1.1.2.1, (t.1 11).2)), (12, (((((t.1 6).1), ((t.1 7).1), (t.1 5).1 0, (t.1 5).1 1), (((((t.1 9).1), ((t.1 11).1), ((t.1 12).1), (t.1 8).1 0), ((t.1 10).1)), ((t.1 13).1), ((t.1 14).1)), (((t.1 15).1), ((t.1 16).1), ((t.1 17).2.2))).2.1.1.1.2.2.1, (t.1 12).2)), (13, (((((t.1 6).1), ((t.1 7).1), (t.1 5).1 0, (t.1 5).1 1), (((((t.1 9).1), ((t.1 11).1), ((t.1 12).1), (t.1 8).1 0), ((t.1 10).1)), ((t.1 13).1), ((t.1 14).1)), (((t.1 15).1), ((t.1 16).1), ((t.1 17).2.2))).2.1.2.1, (t.1 13).2)), (14, (((((t.1 6).1), ((t.1 7).1), (t.1 5).1 0, (t.1 5).1 1), (((((t.1 9).1), ((t.1 11).1), ((t.1 12).1), (t.1 8).1 0), ((t.1 10).1)), ((t.1 13).1), ((t.1 14).1)), (((t.1 15).1), ((t.1 16).1), ((t.1 17).2.2))).2.1.2.2, (t.1 14).2)), (15, (((((t.1 6).1), ((t.1 7).1), (t.1 5).1 0, (t.1 5).1 1), (((((t.1 9).1), ((t.1 11).1), ((t.1 12).1), (t.1 8).1 0), ((t.1 10).1)), ((t.1 13).1), ((t.1 14).1)), (((t.1 15).1), ((t.1 16).1), ((t.1 17).2.2))).2.2.1, (t.1 15).2)), (16, (((((t.1 6).1), ((t.1 7).1), (t.1 5).1 0, (t.1 5).1 1), (((((t.1 9).1), ((t.1 11).1), ((t.1 12).1), (t.1 8).1 0), ((t.1 10).1)), ((t.1 13).1), ((t.1 14).1)), (((t.1 15).1), ((t.1 16).1), ((t.1 17).2.2))).2.2.2.1, (t.1 16).2)), (17, ((t.1 17).1, (t.1 17).2.1, ((((t.1 6).1), ((t.1 7).1), (t.1 5).1 0, (t.1 5).1 1), (((((t.1 9).1), ((t.1 11).1), ((t.1 12).1), (t.1 8).1 0), ((t.1 10).1)), ((t.1 13).1), ((t.1 14).1)), (((t.1 15).1), ((t.1 16).1), ((t.1 17).2.2))).2.2.2.2))], t.2) u w1) 1 6 := by
  obtain ⟨e_a, w_a, k_a⟩ := hI.1.2 0 (by decide)
  obtain rfl := kd_0.mp k_a
  obtain ⟨e_pa, w_pa, k_pa⟩ := hI.1.2 1 (by decide)
  obtain rfl := kd_1.mp k_pa
  obtain ⟨e_pa1, w_pa1, k_pa1⟩ := hI.1.2 2 (by decide)
  obtain rfl := kd_2.mp k_pa1
  obtain ⟨e_pa2, w_pa2, k_pa2⟩ := hI.1.2 3 (by decide)
  obtain ⟨v_pa2_f, rfl⟩ := kd_3.mp k_pa2
  obtain ⟨e_pa3, w_pa3, k_pa3⟩ := hI.1.2 4 (by decide)
  obtain ⟨v_pa3_h, rfl⟩ := kd_4.mp k_pa3
  obtain ⟨e_ta, w_ta, k_ta⟩ := hI.1.2 5 (by decide)
  obtain rfl := kd_5.mp k_ta
  obtain ⟨e_ta1, w_ta1, k_ta1⟩ := hI.1.2 6 (by decide)
  obtain rfl := kd_6.mp k_ta1
  obtain ⟨e_ta2, w_ta2, k_ta2⟩ := hI.1.2 7 (by decide)
  obtain rfl := kd_7.mp k_ta2
  obtain ⟨e_taz, w_taz, k_taz⟩ := hI.1.2 8 (by decide)
  obtain rfl := kd_8.mp k_taz
  obtain ⟨e_taz1, w_taz1, k_taz1⟩ := hI.1.2 9 (by decide)
  obtain rfl := kd_9.mp k_taz1
  obtain ⟨e_taz2, w_taz2, k_taz2⟩ := hI.1.2 10 (by decide)
  obtain rfl := kd_10.mp k_taz2
  obtain ⟨e_taz3, w_taz3, k_taz3⟩ := hI.1.2 11 (by decide)
  obtain rfl := kd_11.mp k_taz3
  obtain ⟨e_taz4, w_taz4, k_taz4⟩ := hI.1.2 12 (by decide)
  obtain rfl := kd_12.mp k_taz4
  obtain ⟨e_taz5, w_taz5, k_taz5⟩ := hI.1.2 13 (by decide)
  obtain rfl := kd_13.mp k_taz5
  obtain ⟨e_taz6, w_taz6, k_taz6⟩ := hI.1.2 14 (by decide)
  obtain rfl := kd_14.mp k_taz6
  obtain ⟨e_ta4, w_ta4, k_ta4⟩ := hI.1.2 15 (by decide)
  obtain ⟨c_ta4_0, rfl⟩ := kd_15.mp k_ta4
  obtain ⟨e_ta5, w_ta5, k_ta5⟩ := hI.1.2 16 (by decide)
  obtain rfl := kd_16.mp k_ta5
  obtain ⟨e_ta6, w_ta6, k_ta6⟩ := hI.1.2 17 (by decide)
  obtain rfl := kd_17.mp k_ta6
  refine ((C_Ip_drawZ g (ad 0) (ad 1) (ad 5) (ad 18) (ad 31) (ad 32) (ad 36) (ad 42) (ad 45) (ad 47) (ad 49) (ad 50) (ad 51) (ad 2) (ad 3) (ad 4) ((t.1 2).1) v_pa2_f v_pa3_h ((t.1 1).2.2 0) (ad 6) (ad 7) (ad 8) (ad 9) (ad 10) (ad 11) (ad 12) (ad 13) (ad 14) (ad 15) (ad 16) (ad 17) ((((t.1 6).1), ((t.1 7).1), (t.1 5).1 0, (t.1 5).1 1), (((((t.1 9).1), ((t.1 11).1), ((t.1 12).1), (t.1 8).1 0), ((t.1 10).1)), ((t.1 13).1), ((t.1 14).1)), (((t.1 15).1), ((t.1 16).1), ((t.1 17).2.2))) kd hk hki x y u8 v8 hx hy hu hv hz).at (hI.1.I [0, 1, 2, 3, 4, 5, 6, 7, 8, 9, 10, 11, 12, 13, 14, 15, 16, 17] _ rfl (by decide) (by decide) (List.forall_mem_cons.mpr ⟨w_a, (List.forall_mem_cons.mpr ⟨w_pa, (List.forall_mem_cons.mpr ⟨w_pa1, (List.forall_mem_cons.mpr ⟨w_pa2, (List.forall_mem_cons.mpr ⟨w_pa3, (List.forall_mem_cons.mpr ⟨w_ta, (List.forall_mem_cons.mpr ⟨w_ta1, (List.forall_mem_cons.mpr ⟨w_ta2, (List.forall_mem_cons.mpr ⟨w_taz, (List.forall_mem_cons.mpr ⟨w_taz1, (List.forall_mem_cons.mpr ⟨w_taz2, (List.forall_mem_cons.mpr ⟨w_taz3, (List.forall_mem_cons.mpr ⟨w_taz4, (List.forall_mem_cons.mpr ⟨w_taz5, (List.forall_mem_cons.mpr ⟨w_taz6, (List.forall_mem_cons.mpr ⟨w_ta4, (List.forall_mem_cons.mpr ⟨w_ta5, (List.forall_mem_cons.mpr ⟨w_ta6, (fun _ h => nomatch h)⟩)⟩)⟩)⟩)⟩)⟩)⟩)⟩)⟩)⟩)⟩)⟩)⟩)⟩)⟩)⟩)⟩)⟩))).mono (Nat.le_of_ble_eq_true rfl) (Nat.le_of_ble_eq_true rfl) (fun o w1 hp => ?_)
  obtain ⟨cs1, hp, hi9⟩ := hp
  obtain ⟨e1, e2⟩ := hp
  subst e1; subst e2
  exact ⟨rfl, hI.fix (t2 := (zup t.1 [(2, ((prect kd x y u8 (((t.1 2).1), 0) v8).1, (t.1 2).2)), (5, ((upd (upd ((t.1 5).1) 0 (((((t.1 6).1), ((t.1 7).1), (t.1 5).1 0, (t.1 5).1 1), (((((t.1 9).1), ((t.1 11).1), ((t.1 12).1), (t.1 8).1 0), ((t.1 10).1)), ((t.1 13).1), ((t.1 14).1)), (((t.1 15).1), ((t.1 16).1), ((t.1 17).2.2))).1.2.2.1)) 1 (((((t.1 6).1), ((t.1 7).1), (t.1 5).1 0, (t.1 5).1 1), (((((t.1 9).1), ((t.1 11).1), ((t.1 12).1), (t.1 8).1 0), ((t.1 10).1)), ((t.1 13).1), ((t.1 14).1)), (((t.1 15).1), ((t.1 16).1), ((t.1 17).2.2))).1.2.2.2)), (t.1 5).2.1, (t.1 5).2.2)), (6, (((((t.1 6).1), ((t.1 7).1), (t.1 5).1 0, (t.1 5).1 1), (((((t.1 9).1), ((t.1 11).1), ((t.1 12).1), (t.1 8).1 0), ((t.1 10).1)), ((t.1 13).1), ((t.1 14).1)), (((t.1 15).1), ((t.1 16).1), ((t.1 17).2.2))).1.1, (t.1 6).2)), (7, (((((t.1 6).1), ((t.1 7).1), (t.1 5).1 0, (t.1 5).1 1), (((((t.1 9).1), ((t.1 11).1), ((t.1 12).1), (t.1 8).1 0), ((t.1 10).1)), ((t.1 13).1), ((t.1 14).1)), (((t.1 15).1), ((t.1 16).1), ((t.1 17).2.2))).1.2.1, (t.1 7).2)), (8, ((upd ((t.1 8).1) 0 (((((t.1 6).1), ((t.1 7).1), (t.1 5).1 0, (t.1 5).1 1), (((((t.1 9).1), ((t.1 11).1), ((t.1 12).1), (t.1 8).1 0), ((t.1 10).1)), ((t.1 13).1), ((t.1 14).1)), (((t.1 15).1), ((t.1 16).1), ((t.1 17).2.2))).2.1.1.1.2.2.2)), (t.1 8).2.1, (t.1 8).2.2)), (9, (((((t.1 6).1), ((t.1 7).1), (t.1 5).1 0, (t.1 5).1 1), (((((t.1 9).1), ((t.1 11).1), ((t.1 12).1), (t.1 8).1 0), ((t.1 10).1)), ((t.1 13).1), ((t.1 14).1)), (((t.1 15).1), ((t.1 16).1), ((t.1 17).2.2))).2.1.1.1.1, (t.1 9).2)), (10, (((((t.1 6).1), ((t.1 7).1), (t.1 5).1 0, (t.1 5).1 1), (((((t.1 9).1), ((t.1 11).1), ((t.1 12).1), (t.1 8).1 0), ((t.1 10).1)), ((t.1 13).1), ((t.1 14).1)), (((t.1 15).1), ((t.1 16).1), ((t.1 17).2.2))).2.1.1.2, (t.1 10).2)), (11, (((((t.1 6).1), ((t.1 7).1), (t.1 5).1 0, (t.1 5).1 1), (((((t.1 9).1), ((t.1 11).1), ((t.1 12).1), (t.1 8).1 0), ((t.1 10).1)), ((t.1 13).1), ((t.1 14).1)), (((t.1 15).1), ((t.1 16).1), ((t.1 17).2.2))).2.1.1.1.2.1, (t.1 11).2)), (12, (((((t.1 6).1), ((t.1 7).1), (t.1 5).1 0, (t.1 5).1 1), (((((t.1 9).1), ((t.1 11).1), ((t.1 12).1), (t.1 8).1 0), ((t.1 10).1)), ((t.1 13).1), ((t.1 14).1)), (((t.1 15).1), ((t.1 16).1), ((t.1 17).2.2))).2.1.1.1.2.2.1, (t.1 12).2)), (13, (((((t.1 6).1), ((t.1 7).1), (t.1 5).1 0, (t.1 5).1 1), (((((t.1 9).1), ((t.1 11).1), ((t.1 12).1), (t.1 8).1 0), ((t.1 10).1)), ((t.1 13).1), ((t.1 14).1)), (((t.1 15).1), ((t.1 16).1), ((t.1 17).2.2))).2.1.2.1, (t.1 13).2)), (14, (((((t.1 6).1), ((t.1 7).1), (t.1 5).1 0, (t.1 5).1 1), (((((t.1 9).1), ((t.1 11).1), ((t.1 12).1), (t.1 8).1 0), ((t.1 10).1)), ((t.1 13).1), ((t.1 14).1)), (((t.1 15).1), ((t.1 16).1), ((t.1 17).2.2))).2.1.2.2, (t.1 14).2)), (15, (((((t.1 6).1), ((t.1 7).1), (t.1 5).1 0, (t.1 5).1 1), (((((t.1 9).1), ((t.1 11).1), ((t.1 12).1), (t.1 8).1 0), ((t.1 10).1)), ((t.1 13).1), ((t.1 14).1)), (((t.1 15).1), ((t.1 16).1), ((t.1 17).2.2))).2.2.1, (t.1 15).2)), (16, (((((t.1 6).1), ((t.1 7).1), (t.1 5).1 0, (t.1 5).1 1), (((((t.1 9).1), ((t.1 11).1), ((t.1 12).1), (t.1 8).1 0), ((t.1 10).1)), ((t.1 13).1), ((t.1 14).1)), (((t.1 15).1), ((t.1 16).1), ((t.1 17).2.2))).2.2.2.1, (t.1 16).2)), (17, ((t.1 17).1, (t.1 17).2.1, ((((t.1 6).1), ((t.1 7).1), (t.1 5).1 0, (t.1 5).1 1), (((((t.1 9).1), ((t.1 11).1), ((t.1 12).1), (t.1 8).1 0), ((t.1 10).1)), ((t.1 13).1), ((t.1 14).1)), (((t.1 15).1), ((t.1 16).1), ((t.1 17).2.2))).2.2.2.2))], t.2)) (is := [0, 1, 2, 3, 4, 5, 6, 7, 8, 9, 10, 11, 12, 13, 14, 15, 16, 17]) hi9 rfl ⟨kd_0.mpr rfl, kd_1.mpr rfl, kd_2.mpr rfl, kd_3.mpr ⟨_, rfl⟩, kd_4.mpr ⟨_, rfl⟩, kd_5.mpr rfl, kd_6.mpr rfl, kd_7.mpr rfl, kd_8.mpr rfl, kd_9.mpr rfl, kd_10.mpr rfl, kd_11.mpr rfl, kd_12.mpr rfl, kd_13.mpr rfl, kd_14.mpr rfl, kd_15.mpr ⟨c_ta4_0, rfl⟩, kd_16.mpr rfl, kd_17.mpr rfl, trivial⟩ (by decide) (by decide) (fun i hi hn => zup_out (fun q => hn ((by decide : ∀ j ∈ ([2, 5, 6, 7, 8, 9, 10, 11, 12, 13, 14, 15, 16, 17] : List Nat), j ∈ ([0, 1, 2, 3, 4, 5, 6, 7, 8, 9, 10, 11, 12, 13, 14, 15, 16, 17] : List Nat)) i q))) (fun h => ⟨prect_ch hk h.1 v8, h.2⟩) rfl⟩
