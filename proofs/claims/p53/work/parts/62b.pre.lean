def b01 (ic : Nat → Int32) (n : Nat) : Prop := ∀ k, k < n → ic k = 0 ∨ ic k = 1
theorem b01_up {ic : Nat → Int32} {c n : Nat} (h : b01 ic n) : b01 (upd ic c 1) n := fun k hk => by
  unfold upd
  split
  · exact Or.inr rfl
  · exact h k hk
theorem b01_s {ic : Nat → Int32} {i : Nat} {v : Int32} (hv : v = 0 ∨ v = 1) (h : b01 ic i) : b01 (upd ic i v) (i + 1) := fun k hk => by
  unfold upd
  split
  · exact hv
  · exact h k (by omega)
theorem nI_z {a : Nat} (h : a < 2 ^ 31) (q : nI a = 0) : a = 0 := by
  by_cases e : a = 0
  · exact e
  · have h1 : nI 0 < nI a := (nI_ltI (by decide) h).mpr (by omega)
    rw [q] at h1
    exact absurd h1 (by decide)
