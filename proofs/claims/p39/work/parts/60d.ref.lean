def rJ (s0 t0 s t : zR) : Prop := (s = s0 ∧ t = t0) ∨ (s = t ∧ ¬ s.1 < 0 ∧ ¬ s.2.1 = -1 ∧ s.2.2.2 = 1)
theorem rJ.e {s0 t0 s t : zR} (h0 : s0.1 = t0.1) (h : rJ s0 t0 s t) : s.1 = t.1 := by
  rcases h with ⟨rfl, rfl⟩ | ⟨rfl, -⟩
  · exact h0
  · rfl
theorem rcI_J {le mo si pp ps pa : Int32} {P A : Nat} {s0 t0 s t : zR} (hp : 0 ≤ prS pp ps pa P A) (hP : P ≤ 100) (h0 : s0.1 = t0.1) (h : rJ s0 t0 s t) : rJ s0 t0 (rcI le mo si pp ps pa P A s) (rcI le mo si pp ps pa P A t) := by
  have e1 := h.e h0
  by_cases hc : rcC le mo si P A ∧ (s.1 < 0 ∨ ¬ s.1 ≤ prS pp ps pa P A)
  · rw [rcI_t hc, rcI_t (s := t) (by rw [← e1]; exact hc)]
    exact Or.inr ⟨rfl, Int32.not_lt.mpr hp, nI_nm1 (Nat.lt_of_le_of_lt hP (by decide)), rfl⟩
  · rw [rcI_f hc, rcI_f (s := t) (by rw [← e1]; exact hc)]
    exact h
theorem rcR_J {le mo si pp ps pa : Int32} {P : Nat} {s0 t0 s t : zR} (hp : ∀ P A, P + A ≤ 100 → 0 ≤ prS pp ps pa P A) (h0 : s0.1 = t0.1) (h : rJ s0 t0 s t) : ∀ A, A ≤ nA P → P ≤ 100 → P ≤ 90 ∨ P = 100 → rJ s0 t0 (rcR le mo si pp ps pa P s A) (rcR le mo si pp ps pa P t A)
  | 0, _, _, _ => h
  | A + 1, h1, h2, h3 => by
    refine rcI_J (hp P A ?_) h2 h0 (rcR_J hp h0 h A (by omega) h2 h3)
    rcases nA_c P with ⟨q1, q2⟩ | ⟨q1, q2⟩ <;> omega
theorem rcO_J {le mo si pp ps pa : Int32} {s t : zR} (hp : ∀ P A, P + A ≤ 100 → 0 ≤ prS pp ps pa P A) (h0 : s.1 = t.1) : ∀ k, k ≤ 11 → rJ s t (rcO le mo si pp ps pa s k) (rcO le mo si pp ps pa t k)
  | 0, _ => Or.inl ⟨rfl, rfl⟩
  | k + 1, hk => rcR_J hp h0 (rcO_J hp h0 k (by omega)) _ (Nat.le_refl _) (by omega) (by omega)
def RCR (r : Nat → Int32) : Prop := (r 2 = 0 ∧ r 3 = -1) ∨ (¬ r 2 = 0 ∧ r 0 = r 3 ∧ r 1 = r 4 ∧ ¬ r 3 = -1)
theorem RCR.pos {r : Nat → Int32} {s t : zR} (hj : rJ (-1, r 0, r 1, r 2) (-1, -1, 0, 0) s t) (hs : ¬ t.1 < 0) : RCR (fun k => if k = 3 then t.2.1 else if k = 4 then t.2.2.1 else if k = 0 then s.2.1 else if k = 1 then s.2.2.1 else if k = 2 then s.2.2.2 else r k) := by
  rcases hj with ⟨rfl, rfl⟩ | ⟨rfl, h1, h2, h3⟩
  · exact absurd (show ((-1 : Int32), (-1 : Int32), (0 : Int32), (0 : Int32)).1 < 0 by decide) hs
  · exact Or.inr ⟨by show ¬ s.2.2.2 = 0; rw [h3]; decide, rfl, rfl, h2⟩
