theorem IV.ar {g : zG} {ad : Nat → Nat} {t : zTT} {u : zNN} {w w1 : zW} (h : IV g ad t u w) {S : Nat → Prop} (hk : z_ke S w w1) (hS : ∀ q, S q → z_nf ad q ∧ ∀ e, w q = some e → (z_kd e).1 = 0 ∧ (z_kd e).2.1 = 0) : IV g ad t u w1 := by
  have hne : ∀ q e, w q = some e → ¬ ((z_kd e).1 = 0 ∧ (z_kd e).2.1 = 0) → w1 q = some e := fun q e h0 h1 => hk q e (fun h9 => h1 ((hS q h9).2 e h0)) h0
  have hfx : ∀ i, i < 52 → ∀ e, w (ad i) = some e → w1 (ad i) = some e := fun i hi e he => hk _ _ (fun h9 => (hS _ h9).1 i hi rfl) he
  refine ⟨⟨h.1.1, fun i hi => ?_⟩, ⟨fun L hL => ?_, fun L hL k hk9 => ?_, h.2.1.2.2⟩, h.2.2⟩
  · obtain ⟨e, he, hd⟩ := h.1.2 i hi
    exact ⟨e, hfx i hi e he, hd⟩
  · have hx : z_lx.getD L 0 < 52 := (show ∀ L, L < 2 → z_lx.getD L 0 < 52 by decide) L hL
    obtain ⟨md, dd, e1, e2⟩ := h.2.1.1 L hL
    refine ⟨md, dd, hfx _ hx _ e1, ?_⟩
    rcases e2 with e2 | ⟨e2, N, f, e3, e4, e5, e6⟩
    · exact Or.inl e2
    · exact Or.inr ⟨e2, N, f, e3, e4, hne _ _ e5 (fun q => absurd q.2 (by show ¬ (5 : Nat) = 0; decide)), e6⟩
  · have hE := h.2.1.2.1 L hL k hk9
    obtain ⟨e0, he0, ht0⟩ := hE.tag
    have hel : ¬ ((elk L).1 = 0 ∧ (elk L).2.1 = 0) := (show ∀ L, L < 2 → ¬ ((elk L).1 = 0 ∧ (elk L).2.1 = 0) by decide) L hL
    refine hE.ke3 (fun q e h0 h1 hq => ?_)
    rcases hq with rfl | hq | hq | hq
    · rw [he0] at h1
      cases h1
      exact hne _ _ he0 (by rw [ht0]; exact hel)
    · exact hne _ _ h1 (by rw [hq]; exact fun q => absurd q.2 (by decide))
    · exact hne _ _ h1 (by rw [hq]; exact fun q => absurd q.1 (by decide))
    · exact hne _ _ h1 (by rw [hq]; exact fun q => absurd q.2 (by decide))
theorem Wd.ar {g : zG} {ad : Nat → Nat} {t0 : zTT} {u : zNN} {f : Nat → Int32} {p : Nat} {w w1 : zW} (h : Wd g ad t0 u f p w) {S : Nat → Prop} (hk : z_ke S w w1) (hS : ∀ q, S q → z_nf ad q ∧ ∀ e, w q = some e → (z_kd e).1 = 0 ∧ (z_kd e).2.1 = 0) : Wd g ad t0 u f p w1 := by
  obtain ⟨t, hI, h1⟩ := h
  exact ⟨t, hI.ar hk hS, h1⟩
theorem Wd.nf {g : zG} {ad : Nat → Nat} {t0 : zTT} {u : zNN} {f : Nat → Int32} {p : Nat} {w : zW} (h : Wd g ad t0 u f p w) {q : Nat} (hq : w q = none) : z_nf ad q := by
  obtain ⟨t, hI, -⟩ := h
  exact hI.1.nfr hq
theorem z_kf.q {ad : Nat → Nat} {w w1 : zW} (h : z_kf ad w w1) {q : Nat} (hq : z_nf ad q) {e : zE} (he : w q = some e) : w1 q = some e := h q e (fun q9 => by obtain ⟨i, hi, e9⟩ := q9; exact hq i hi e9) he
theorem dR_i {v v2 : Int32} (h : dR (.inl (some (.int v))) v2) : v2 = v := by
  rcases h with h | ⟨h, -⟩ | ⟨h, -⟩ | ⟨h, -⟩ | ⟨h, -⟩ | ⟨h, -⟩
  · cases h; rfl
  all_goals cases h
theorem dW_i {v : Int32} {R : zW → Prop} {o : zO} {w1 : zW} (h : dW (fun o w1 => o = .inl (some (.int v)) ∧ R w1) o w1) : o = .inl (some (.int v)) ∧ R w1 := by
  obtain ⟨o2, v2, ⟨rfl, hR⟩, hd, rfl⟩ := h
  exact ⟨by rw [dR_i hd], hR⟩
theorem dW_a {R : zW → Prop} {Q : zO → Prop} {o : zO} {w1 : zW} (h : dW (fun o w1 => Q o ∧ R w1) o w1) : (∃ i : Int32, o = .inl (some (.int i))) ∧ R w1 := by
  obtain ⟨o2, v2, ⟨-, hR⟩, -, rfl⟩ := h
  exact ⟨⟨_, rfl⟩, hR⟩
section
variable {g : zG} {a : Nat} {w : zW} {R : zW → Prop} {mc9 ms9 : Nat}
theorem K_deed {v : Int32} (hr : ∃ fs : List Value, w a = some (.inr (11, fs))) (wh x y z q r : Int32) (hw : 20 ≤ wh) (hM : zMB g M_Lw_asked [.ref a, .int wh, .int x, .int y, .int z, .int q] w (fun o w1 => o = .inl (some (.int v)) ∧ R w1) mc9 ms9) : zMB g M_Lw_deed [.ref a, .int wh, .int x, .int y, .int z, .int q, .int r] w (fun o w1 => o = .inl (some (.int v)) ∧ R w1) mc9 ms9 :=
  (D_asked hr wh x y z q r hw hM (fun v9 w1 h => ⟨v, Sum.inl.inj h.1⟩) (fun E w1 h => nomatch h.1)).mono (Nat.le_refl _) (Nat.le_refl _) (fun o w1 h => dW_i h)
theorem K_ask {v : Int32} (hr : ∃ fs : List Value, w a = some (.inr (11, fs))) (wh x y : Int32) (hw : 20 ≤ wh) (hM : zMB g M_Lw_asked [.ref a, .int wh, .int x, .int y, .int 0, .int 0] w (fun o w1 => o = .inl (some (.int v)) ∧ R w1) mc9 ms9) : zMB g M_Lw_ask [.ref a, .int wh, .int x, .int y] w (fun o w1 => o = .inl (some (.int v)) ∧ R w1) mc9 ms9 :=
  D_ask hr wh x y (K_deed hr wh x y 0 0 0 hw hM) (fun v9 w1 h => ⟨v, Sum.inl.inj h.1⟩)
theorem K_done {v : Int32} (hr : ∃ fs : List Value, w a = some (.inr (11, fs))) (wh x y z q r : Int32) (hw : ¬ 20 ≤ wh) (hM : zMB g M_Lw_done [.ref a, .int wh, .int x, .int y, .int z, .int q, .int r] w (fun o w1 => o = .inl (some (.int v)) ∧ R w1) mc9 ms9) : zMB g M_Lw_deed [.ref a, .int wh, .int x, .int y, .int z, .int q, .int r] w (fun o w1 => o = .inl (some (.int v)) ∧ R w1) mc9 ms9 :=
  (D_done hr wh x y z q r hw hM (fun v9 w1 h => ⟨v, Sum.inl.inj h.1⟩) (fun E w1 h => nomatch h.1)).mono (Nat.le_refl _) (Nat.le_refl _) (fun o w1 h => dW_i h)
theorem K_doneA {Q : zO → Prop} (hr : ∃ fs : List Value, w a = some (.inr (11, fs))) (wh x y z q r : Int32) (hw : ¬ 20 ≤ wh) (hQ : ∀ o, Q o → (∃ i : Int32, o = .inl (some (.int i))) ∨ ∃ E, o = .inr E ∧ dX E) (hM : zMB g M_Lw_done [.ref a, .int wh, .int x, .int y, .int z, .int q, .int r] w (fun o w1 => Q o ∧ R w1) mc9 ms9) : zMB g M_Lw_deed [.ref a, .int wh, .int x, .int y, .int z, .int q, .int r] w (fun o w1 => (∃ i : Int32, o = .inl (some (.int i))) ∧ R w1) mc9 ms9 :=
  (D_done hr wh x y z q r hw hM (fun v9 w1 h => by
    rcases hQ _ h.1 with ⟨i, e⟩ | ⟨E, e, -⟩
    · exact ⟨i, Sum.inl.inj e⟩
    · cases e) (fun E w1 h => by
    rcases hQ _ h.1 with ⟨i, e⟩ | ⟨E2, e, hE⟩
    · cases e
    · cases e; exact hE)).mono (Nat.le_refl _) (Nat.le_refl _) (fun o w1 h => dW_a h)
end
section
variable {g : zG} {ad : Nat → Nat} {t0 : zTT} {u : zNN} {f : Nat → Int32} {p : Nat} {w : zW}
theorem T_at {x y : Nat} (hW : Wd g ad t0 u f p w) (hx : x < 12) (hy : y < 9) : zMB g M_Lw_at [.ref (ad 0), .int (nI x), .int (nI y)] w (fun o w1 => o = .inl (some (.int (f (12 * y + x)))) ∧ w1 = w) 1 6 :=
  D_at _ _ _ (hW.ch _ (by omega)) (K_ask hW.ra 20 _ _ (by decide) (A_20 hW.ra _ _ _ _ (G_cell hW hx hy) (fun v9 w1 h => ⟨_, Sum.inl.inj h.1⟩)))
theorem T_filled {x y : Nat} {h0 : Int32} (hW : Wd g ad t0 u f p w) (hx : x < 12) (hy : y < 9) : zMB g M_Lw_deed [.ref (ad 0), .int 21, .int (nI x), .int (nI y), .int (h0), .int (0), .int (0)] w (fun o w1 => o = .inl (some (.int (fiO f (12 * y + x)))) ∧ Wd g ad t0 u f p w1 ∧ z_kf ad w w1) 1 6 :=
  K_deed hW.ra 21 (nI x) (nI y) (h0) (0) (0) (by decide) (A_21 hW.ra (nI x) (nI y) (h0) (0) (G_filledIn hW hx hy) (fun v9 w1 h => ⟨_, Sum.inl.inj h.1⟩))
theorem T_frozen {x y : Nat} {h0 : Int32} (hW : Wd g ad t0 u f p w) (hx : x < 12) (hy : y < 9) (hh : 1200 ≤ h0 ∧ h0 ≤ 1500) : zMB g M_Lw_deed [.ref (ad 0), .int 23, .int (nI x), .int (nI y), .int (h0), .int (0), .int (0)] w (fun o w1 => o = .inl (some (.int (frO f h0 (12 * y + x)))) ∧ Wd g ad t0 u f p w1 ∧ z_kf ad w w1) 2 12 :=
  K_deed hW.ra 23 (nI x) (nI y) (h0) (0) (0) (by decide) (A_23 hW.ra (nI x) (nI y) (h0) (0) (G_frozenIn hW hx hy hh) (fun v9 w1 h => ⟨_, Sum.inl.inj h.1⟩))
theorem T_fed {x y : Nat} {h0 : Int32} (hW : Wd g ad t0 u f p w) (hx : x < 12) (hy : y < 9) (hh : 1200 ≤ h0 ∧ h0 ≤ 1500) : zMB g M_Lw_deed [.ref (ad 0), .int 25, .int (nI x), .int (nI y), .int (h0), .int (0), .int (0)] w (fun o w1 => o = .inl (some (.int (fdO f h0 (12 * y + x)))) ∧ Wd g ad t0 u f p w1 ∧ z_kf ad w w1) 2 12 :=
  K_deed hW.ra 25 (nI x) (nI y) (h0) (0) (0) (by decide) (A_25 hW.ra (nI x) (nI y) (h0) (0) (G_isFed hW hx hy hh) (fun v9 w1 h => ⟨_, Sum.inl.inj h.1, (fdO_ok f h0).1 _ (by omega)⟩))
theorem T_shrunk {h0 : Int32} (hW : Wd g ad t0 u f p w) (hh : 1200 ≤ h0 ∧ h0 ≤ 1500) : zMB g M_Lw_ask [.ref (ad 0), .int 26, .int (h0), .int (0)] w (fun o w1 => o = .inl (some (.int (nI (shO f h0)))) ∧ Wd g ad t0 u f p w1 ∧ z_kf ad w w1) 1 6 :=
  K_ask hW.ra 26 (h0) (0) (by decide) (A_26 hW.ra (h0) (0) (0) (0) (G_shrunk hW hh) (fun v9 w1 h => ⟨_, Sum.inl.inj h.1⟩))
theorem T_anew {h0 : Int32} (hW : Wd g ad t0 u f p w) (hh : 1200 ≤ h0 ∧ h0 ≤ 1500) : zMB g M_Lw_ask [.ref (ad 0), .int 27, .int (h0), .int (0)] w (fun o w1 => o = .inl (some (.int (nI (anO f h0)))) ∧ Wd g ad t0 u f p w1 ∧ z_kf ad w w1) 1 6 :=
  K_ask hW.ra 27 (h0) (0) (by decide) (A_27 hW.ra (h0) (0) (0) (0) (G_shrunkAnew hW hh) (fun v9 w1 h => ⟨_, Sum.inl.inj h.1⟩))
theorem T_part {r : Nat} (hW : Wd g ad t0 u f p w) (h1 : 1 ≤ r) (h2 : r < 9) : zMB g M_Lw_deed [.ref (ad 0), .int 1, .int (nI r), .int 0, .int 0, .int 0, .int 0] w (fun o w1 => (∃ i : Int32, o = .inl (some (.int i))) ∧ Wd g ad t0 u f r w1) 1 6 :=
  K_doneA (Q := fun o => ∃ i : Int32, o = .inl (some (.int i))) hW.ra 1 _ _ _ _ _ (by decide) (fun o h => Or.inl h) (A_1 hW.ra _ _ _ _ _ (G_part hW h1 h2) (fun v9 w1 h => by obtain ⟨⟨i, e⟩, -⟩ := h; exact ⟨i, Sum.inl.inj e⟩))
theorem T_draw (hW : Wd g ad t0 u f p w) (k x y v q : Int32) (hc : (k.toUInt32 % 65536).toInt32 = k) : zMB g M_Lw_deed [.ref (ad 0), .int 0, .int k, .int x, .int y, .int v, .int q] w (fun o w1 => (∃ i : Int32, o = .inl (some (.int i))) ∧ ∃ f2, Wd g ad t0 u f2 p w1) 1 6 :=
  K_doneA (Q := fun o => (∃ i : Int32, o = .inl (some (.int i))) ∨ o = .inr "java/lang/IllegalArgumentException") hW.ra 0 _ _ _ _ _ (by decide) (fun o h => h.elim Or.inl (fun e => Or.inr ⟨_, e, Or.inr (Or.inl rfl)⟩)) (A_0 hW.ra _ _ _ _ _ hc (G_draw hW k x y v q) (fun v9 w1 h => by
    obtain ⟨⟨i, e⟩ | e, -⟩ := h
    · exact ⟨i, Sum.inl.inj e⟩
    · cases e))
theorem T_draw1 {k : Int32} {x y : Nat} (hW : Wd g ad t0 u f p w) (hk : z_kind k) (hki : 0 ≤ z_ix 0 k) (hx : x < 12) (hy : y < 9) (hne : ¬ f (12 * y + x) = k) : zMB g M_Lw_deed [.ref (ad 0), .int 0, .int k, .int (nI x), .int (nI y), .int 1, .int 1] w (fun o w1 => o = .inl (some (.int 1)) ∧ Wd g ad t0 u (upd f (12 * y + x) k) p w1) 1 6 :=
  K_done hW.ra 0 _ _ _ _ _ (by decide) (A_0 hW.ra _ _ _ _ _ (z_kind_u hk) (G_draw1 hW hk hki hx hy hne) (fun v9 w1 h => ⟨_, Sum.inl.inj h.1⟩))
end
