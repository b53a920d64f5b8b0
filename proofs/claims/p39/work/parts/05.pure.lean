theorem z_b1 {P : Prop} [Decidable P] (h : ¬ (if P then (1 : Int32) else 0) = 0) : P := by
  by_cases q : P
  · exact q
  · rw [if_neg q] at h; exact absurd rfl h
theorem z_b0 {P : Prop} [Decidable P] (h : (if P then (1 : Int32) else 0) = 0) : ¬ P := by
  intro q
  rw [if_pos q] at h
  exact absurd h (by decide)
def z_bi (b : Bool) : Int32 := if b then 1 else 0
theorem z_bi1 {b : Bool} (h : ¬ z_bi b = 0) : b = true := by cases b <;> simp_all [z_bi]
theorem z_bi0 {b : Bool} (h : z_bi b = 0) : b = false := by cases b <;> simp_all [z_bi]
theorem z_nn {x : Int32} (h : 0 ≤ x) : x = nI x.toNatClampNeg := by
  have h1 : ¬ x < 0 := Int32.not_lt.mpr h
  obtain ⟨j, hj, e⟩ := nI_of h1
  rw [e, nI_clamp hj]
theorem z_clamp {x : Int32} (h : 0 ≤ x) : (x.toNatClampNeg : Int) = x.toInt := by
  have h2 : (0 : Int) ≤ x.toInt := by simpa using Int32.le_iff_toInt_le.mp h
  show ((x.toInt.toNat : Nat) : Int) = x.toInt
  omega
def z_cl (x y : Int32) : Option Nat := if 0 ≤ x ∧ x < 12 ∧ 0 ≤ y ∧ y < 9 then some (12 * y.toNatClampNeg + x.toNatClampNeg) else none
theorem z_cl_lt {x y : Int32} {c : Nat} (h : z_cl x y = some c) : c < 108 := by
  unfold z_cl at h
  split at h
  · rename_i q
    obtain ⟨h1, h2, h3, h4⟩ := q
    have e1 := z_clamp h1
    have e2 := z_clamp h3
    have f2 : x.toInt < 12 := by simpa using Int32.lt_iff_toInt_lt.mp h2
    have f4 : y.toInt < 9 := by simpa using Int32.lt_iff_toInt_lt.mp h4
    cases h
    omega
  · cases h
theorem z_cl_in {x y : Int32} (h : 0 ≤ x ∧ x < 12 ∧ 0 ≤ y ∧ y < 9) : ∃ a b : Nat, a < 12 ∧ b < 9 ∧ x = nI a ∧ y = nI b ∧ z_cl x y = some (12 * b + a) := by
  have hh := h
  obtain ⟨h1, h2, h3, h4⟩ := h
  have e1 := z_clamp h1
  have e2 := z_clamp h3
  have f2 : x.toInt < 12 := by simpa using Int32.lt_iff_toInt_lt.mp h2
  have f4 : y.toInt < 9 := by simpa using Int32.lt_iff_toInt_lt.mp h4
  exact ⟨x.toNatClampNeg, y.toNatClampNeg, by omega, by omega, z_nn h1, z_nn h3, if_pos hh⟩
theorem z_cl_no {x y : Int32} (h : ¬ (0 ≤ x ∧ x < 12 ∧ 0 ≤ y ∧ y < 9)) : z_cl x y = none := if_neg h
def tmB (k : Int32) : Bool := decide (k = 99 ∨ k = 114 ∨ k = 103)
def bs (c s : Nat) : Option Nat := if s = 0 then (if 12 ≤ c then some (c - 12) else none) else if s = 1 then (if 0 < c % 12 then some (c - 1) else none) else if s = 2 then (if c % 12 < 11 then some (c + 1) else none) else (if c < 96 then some (c + 12) else none)
def oI (o : Option Nat) : Int32 := match o with
  | some k => nI k
  | none => -1
theorem bs_lt {c s o : Nat} (hc : c < 108) (h : bs c s = some o) : o < 108 := by
  unfold bs at h
  split at h
  · split at h
    · cases h; omega
    · cases h
  · split at h
    · split at h
      · cases h; omega
      · cases h
    · split at h
      · split at h
        · cases h; omega
        · cases h
      · split at h
        · cases h; omega
        · cases h
theorem nI_mod12 {c : Nat} (h : c < 2 ^ 31) : nI c - nI c / 12 * 12 = nI (c % 12) := pk_rem h (by decide) (by decide)
theorem nI_div12 {c : Nat} (h : c < 2 ^ 31) : nI c / 12 = nI (c / 12) := pk_div h (by decide) (by decide)
theorem z_lt {a b : Nat} (hb : b < 2 ^ 31) (ha : a < 2 ^ 31) (h : nI a < nI b) : a < b := (nI_ltI ha hb).mp h
theorem z_nlt {a b : Nat} (hb : b < 2 ^ 31) (ha : a < 2 ^ 31) (h : ¬ nI a < nI b) : b ≤ a := Nat.not_lt.mp (fun q => h ((nI_ltI ha hb).mpr q))
theorem z_le {a b : Nat} (hb : b < 2 ^ 31) (ha : a < 2 ^ 31) (h : nI a ≤ nI b) : a ≤ b := (nI_leI ha hb).mp h
theorem z_nle {a b : Nat} (hb : b < 2 ^ 31) (ha : a < 2 ^ 31) (h : ¬ nI a ≤ nI b) : b < a := Nat.not_le.mp (fun q => h ((nI_leI ha hb).mpr q))
def pc1 (k : Int32) (s : (Nat → Int32) × Nat) (c : Nat) : (Nat → Int32) × Nat := if s.1 c = k then s else (upd s.1 c k, s.2 + 1)
def prow (k : Int32) (base : Nat) (s : (Nat → Int32) × Nat) : Nat → (Nat → Int32) × Nat
  | 0 => s
  | j + 1 => pc1 k (prow k base s j) (base + j)
def prect (k : Int32) (a b u : Nat) (s : (Nat → Int32) × Nat) : Nat → (Nat → Int32) × Nat
  | 0 => s
  | i + 1 => prow k (12 * (b + i) + a) (prect k a b u s i) u
theorem prow_le (k : Int32) (base : Nat) (s : (Nat → Int32) × Nat) : ∀ j, (prow k base s j).2 ≤ s.2 + j
  | 0 => Nat.le_refl _
  | j + 1 => by
    have h := prow_le k base s j
    show (pc1 k (prow k base s j) (base + j)).2 ≤ _
    unfold pc1
    split
    · omega
    · show _ + 1 ≤ _; omega
theorem prect_le (k : Int32) (a b u : Nat) (s : (Nat → Int32) × Nat) : ∀ i, (prect k a b u s i).2 ≤ s.2 + i * u
  | 0 => by simp [prect]
  | i + 1 => by
    have h := prect_le k a b u s i
    have h2 := prow_le k (12 * (b + i) + a) (prect k a b u s i) u
    show (prow k (12 * (b + i) + a) (prect k a b u s i) u).2 ≤ _
    rw [Nat.add_mul]
    omega
def z_kind (k : Int32) : Prop := k = 46 ∨ k = 99 ∨ k = 114 ∨ k = 103 ∨ k = 111 ∨ k = 107
theorem z_kind_c {k : Int32} (h : z_kind k) : vp_nar .char k = k := by
  rcases h with rfl | rfl | rfl | rfl | rfl | rfl <;> decide
def z_ix (i : Nat) (ch : Int32) : Int32 := match (z_by i).findIdx? (fun b => b == ch) with
  | some k => nI k
  | none => -1
def z_hwf (h s : Int32) : Int32 := h - 2 * s
abbrev zS4 : Type := (Nat → Int32) × (Nat → Int32) × (Nat → Int32) × Int32
def bhS (c : Nat) (next step : Int32) (s : zS4) : zS4 :=
  if ¬ s.2.2.1 c = 401 ∨ ¬ next < 1150 then (upd s.1 c next, s.2) else
    (upd s.1 c 1150, upd s.2.1 c (s.2.1 c - (1150 - next)), if 0 < s.2.1 c - (1150 - next) then s.2.2 else (upd s.2.2.1 c step, s.2.2.2 - 1))
def exS (h : Nat → Int32) (one other : Nat) (num : Int32) (g : Nat → Int32) : Nat → Int32 := upd (upd g one (g one + (h other - h one) * num / 64)) other ((upd g one (g one + (h other - h one) * num / 64)) other - (h other - h one) * num / 64)
def flS (h : Nat → Int32) (c : Nat) : Int32 := (20 - h c) * 4 / 64
def psA (h r : Nat → Int32) (i : Nat) (g : Nat → Int32) : Nat → Int32 := if i % 12 < 11 then exS h i (i + 1) (r i) g else g
def psB (h b : Nat → Int32) (i : Nat) (g : Nat → Int32) : Nat → Int32 := if i < 96 then exS h i (i + 12) (b i) g else g
def psC (h : Nat → Int32) (i : Nat) (g : Nat → Int32) : Nat → Int32 := if i % 12 = 0 ∨ i % 12 = 11 then upd g i (g i + flS h i) else g
def psD (h : Nat → Int32) (i : Nat) (g : Nat → Int32) : Nat → Int32 := if i < 12 ∨ 96 ≤ i then upd g i (g i + flS h i) else g
def gnS (h r b g0 : Nat → Int32) : Nat → Nat → Int32
  | 0 => g0
  | i + 1 => psD h i (psC h i (psB h b i (psA h r i (gnS h r b g0 i))))
def stS (gn : Nat → Int32) (step : Int32) (s : zS4) : Nat → zS4
  | 0 => s
  | i + 1 => bhS i ((stS gn step s i).1 i + gn i) step (stS gn step s i)
def pbS (ce fi : Nat → Int32) (a b : Nat) : Int32 := if 0 ≤ fi a then (if 0 ≤ fi b then 12 else (if ce b = 107 then 14 else if ce b = 111 then 3 else 4)) else (if 0 ≤ fi b then (if ce a = 107 then 14 else if ce a = 111 then 3 else 4) else 4)
def bgS (ce fi : Nat → Int32) (h : Int32) (s0 : zS4) : Nat → zS4
  | 0 => (s0.1, s0.2.1, s0.2.2.1, 0)
  | i + 1 => let s := bgS ce fi h s0 i
    if fi i < 0 then (upd s.1 i 20, upd s.2.1 i 300, upd s.2.2.1 i (-1), s.2.2.2) else bhS i (z_hwf h (fi i)) 0 (s.1, upd s.2.1 i 300, upd s.2.2.1 i 401, s.2.2.2 + 1)
def toS (ce fi : Nat → Int32) (sd : Nat) (f0 : Nat → Int32) : Nat → Nat → Int32
  | 0 => f0
  | i + 1 => upd (toS ce fi sd f0 i) i ((bs i sd).elim 0 (fun k => pbS ce fi i k))
