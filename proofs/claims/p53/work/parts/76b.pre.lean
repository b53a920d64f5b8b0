theorem z_idx {x : Int32} {n : Nat} (hn : n ≤ 33) : (0 ≤ x ∧ x ≤ nI n - 1) ↔ ∃ k, k < n ∧ x = nI k := by
  constructor
  · intro ⟨h1, h2⟩
    cases n with
    | zero => exact absurd (Int32.le_trans h1 h2) (by decide)
    | succ m =>
      rw [nI_prd] at h2
      obtain ⟨a, ha, e⟩ := z_in20 (b := m) (by omega) ⟨h1, h2⟩
      exact ⟨a, by omega, e⟩
  · intro ⟨k, hk, e⟩
    subst e
    cases n with
    | zero => omega
    | succ m =>
      rw [nI_prd]
      exact ⟨Int32.not_lt.mp (nI_nneg (by omega)), (nI_leI (by omega) (by omega)).mpr (by omega)⟩
theorem IV.n5 {g : zG} {ad : Nat → Nat} {t : zTT} {u : zNN} {w : zW} (h : IV g ad t u w) (L : Nat) (hL : L < 2) : u.1 L ≤ 33 := (h.2.1.1 L hL).n33
theorem Q_rem {g : zG} {w : zW} {a n m i : Nat} {bk : Option Nat} {el : Nat → Nat} (h : z_L g w a n bk el) (hn : n = m + 1) (he : ∀ k, k < m + 1 → z_elt w (el k)) (hi : i ≤ m) : zMB g M_AL_remove [.ref a, .int (nI i)] w (fun o w1 => o = .inl (some (.ref (el i))) ∧ z_L g w1 a m bk (z_del el i) ∧ z_ke (fun q => q = a ∨ bk = some q) w w1) 0 0 := by
  subst hn
  exact Q_remove h he hi
