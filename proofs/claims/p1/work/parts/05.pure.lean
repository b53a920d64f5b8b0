theorem z_b1 {P : Prop} [Decidable P] (h : ¬ (if P then (1 : Int32) else 0) = 0) : P := by
  by_cases q : P
  · exact q
  · rw [if_neg q] at h; exact absurd rfl h
theorem z_b0 {P : Prop} [Decidable P] (h : (if P then (1 : Int32) else 0) = 0) : ¬ P := by
  intro q
  rw [if_pos q] at h
  exact absurd h (by decide)
def z_bi (b : Bool) : Int32 := if b then 1 else 0
theorem z_bi1 {b : Bool} (h : ¬ z_bi b = 0) : b = true := by cases b <;> simp_all [z_bi]
theorem z_bi0 {b : Bool} (h : z_bi b = 0) : b = false := by cases b <;> simp_all [z_bi]
theorem z_nn {x : Int32} (h : 0 ≤ x) : x = nI x.toNatClampNeg := by
  have h1 : ¬ x < 0 := Int32.not_lt.mpr h
  obtain ⟨j, hj, e⟩ := nI_of h1
  rw [e, nI_clamp hj]
theorem z_clamp {x : Int32} (h : 0 ≤ x) : (x.toNatClampNeg : Int) = x.toInt := by
  have h2 : (0 : Int) ≤ x.toInt := by simpa using Int32.le_iff_toInt_le.mp h
  show ((x.toInt.toNat : Nat) : Int) = x.toInt
  omega
def z_P (x y : Int32) : Prop := 0 ≤ x ∧ x < 12 ∧ 0 ≤ y ∧ y < 9
def z_cl (x y : Int32) : Option Nat := if 0 ≤ x ∧ x < 12 ∧ 0 ≤ y ∧ y < 9 then some (12 * y.toNatClampNeg + x.toNatClampNeg) else none
theorem z_cl_lt {x y : Int32} {c : Nat} (h : z_cl x y = some c) : c < 108 := by
  unfold z_cl at h
  split at h
  · rename_i q
    obtain ⟨h1, h2, h3, h4⟩ := q
    have e1 := z_clamp h1
    have e2 := z_clamp h3
    have f2 : x.toInt < 12 := by simpa using Int32.lt_iff_toInt_lt.mp h2
    have f4 : y.toInt < 9 := by simpa using Int32.lt_iff_toInt_lt.mp h4
    cases h
    omega
  · cases h
theorem z_cl_in {x y : Int32} (h : 0 ≤ x ∧ x < 12 ∧ 0 ≤ y ∧ y < 9) : ∃ a b : Nat, a < 12 ∧ b < 9 ∧ x = nI a ∧ y = nI b ∧ z_cl x y = some (12 * b + a) := by
  have hh := h
  obtain ⟨h1, h2, h3, h4⟩ := h
  have e1 := z_clamp h1
  have e2 := z_clamp h3
  have f2 : x.toInt < 12 := by simpa using Int32.lt_iff_toInt_lt.mp h2
  have f4 : y.toInt < 9 := by simpa using Int32.lt_iff_toInt_lt.mp h4
  exact ⟨x.toNatClampNeg, y.toNatClampNeg, by omega, by omega, z_nn h1, z_nn h3, if_pos hh⟩
theorem z_cl_no {x y : Int32} (h : ¬ (0 ≤ x ∧ x < 12 ∧ 0 ≤ y ∧ y < 9)) : z_cl x y = none := if_neg h
def tmB (k : Int32) : Bool := decide (k = 99 ∨ k = 114 ∨ k = 103)
def bs (c s : Nat) : Option Nat := if s = 0 then (if 12 ≤ c then some (c - 12) else none) else if s = 1 then (if 0 < c % 12 then some (c - 1) else none) else if s = 2 then (if c % 12 < 11 then some (c + 1) else none) else (if c < 96 then some (c + 12) else none)
def oI (o : Option Nat) : Int32 := match o with
  | some k => nI k
  | none => -1
theorem bs_lt {c s o : Nat} (hc : c < 108) (h : bs c s = some o) : o < 108 := by
  unfold bs at h
  split at h
  · split at h
    · cases h; omega
    · cases h
  · split at h
    · split at h
      · cases h; omega
      · cases h
    · split at h
      · split at h
        · cases h; omega
        · cases h
      · split at h
        · cases h; omega
        · cases h
theorem nI_mod12 {c : Nat} (h : c < 2 ^ 31) : nI c - nI c / 12 * 12 = nI (c % 12) := pk_rem h (by decide) (by decide)
theorem nI_div12 {c : Nat} (h : c < 2 ^ 31) : nI c / 12 = nI (c / 12) := pk_div h (by decide) (by decide)
theorem z_lt {a b : Nat} (hb : b < 2 ^ 31) (ha : a < 2 ^ 31) (h : nI a < nI b) : a < b := (nI_ltI ha hb).mp h
theorem z_nlt {a b : Nat} (hb : b < 2 ^ 31) (ha : a < 2 ^ 31) (h : ¬ nI a < nI b) : b ≤ a := Nat.not_lt.mp (fun q => h ((nI_ltI ha hb).mpr q))
theorem z_le {a b : Nat} (hb : b < 2 ^ 31) (ha : a < 2 ^ 31) (h : nI a ≤ nI b) : a ≤ b := (nI_leI ha hb).mp h
theorem z_nle {a b : Nat} (hb : b < 2 ^ 31) (ha : a < 2 ^ 31) (h : ¬ nI a ≤ nI b) : b < a := Nat.not_le.mp (fun q => h ((nI_leI ha hb).mpr q))
theorem z_m1 (a : Nat) : ¬ (0 : Int32) ≤ -1 := by decide
