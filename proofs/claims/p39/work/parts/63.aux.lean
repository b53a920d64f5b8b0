theorem pc1_ch {k : Int32} {s : (Nat → Int32) × Nat} {c : Nat} (hk : z_kind k) (h : z_ch s.1) : z_ch (pc1 k s c).1 := by
  unfold pc1
  split
  · exact h
  · intro j hj
    show z_kind (upd s.1 c k j)
    unfold upd
    split
    · exact hk
    · exact h j hj
theorem prow_ch {k : Int32} {b : Nat} {s : (Nat → Int32) × Nat} (hk : z_kind k) (h : z_ch s.1) : ∀ j, z_ch (prow k b s j).1
  | 0 => h
  | j + 1 => pc1_ch hk (prow_ch hk h j)
theorem prect_ch {k : Int32} {a b u : Nat} {s : (Nat → Int32) × Nat} (hk : z_kind k) (h : z_ch s.1) : ∀ i, z_ch (prect k a b u s i).1
  | 0 => h
  | i + 1 => prow_ch hk (prect_ch hk h i) u
theorem z_in20 {x : Int32} {b : Nat} (hb : b < 2 ^ 31) (h : 0 ≤ x ∧ x ≤ nI b) : ∃ a : Nat, a ≤ b ∧ x = nI a := by
  have e := z_nn h.1
  refine ⟨x.toNatClampNeg, ?_, e⟩
  have f1 : x.toNatClampNeg < 2 ^ 31 := by have := fb_rng x; have := z_clamp h.1; omega
  have := h.2
  rw [e] at this
  exact z_le hb f1 this
theorem zl_cmp {x y : Int32} (h : x = y) : lg_cmp x.toInt64 y.toInt64 = 0 := by
  subst h
  unfold lg_cmp
  simp
theorem z_ixc (i : Nat) (k : Int32) : z_ix i k = -1 ∨ ∃ j, j < (z_by i).length ∧ z_ix i k = nI j ∧ k ∈ z_by i := by
  unfold z_ix
  cases h : (z_by i).findIdx? (fun b => b == k) with
  | none => exact Or.inl rfl
  | some j =>
    obtain ⟨h1, h2, _⟩ := List.findIdx?_eq_some_iff_getElem.mp h
    have h3 : (z_by i)[j] = k := by simpa using h2
    exact Or.inr ⟨j, h1, rfl, h3 ▸ List.getElem_mem h1⟩
theorem z_ixm {i : Nat} {k : Int32} (h : 0 ≤ z_ix i k) : k ∈ z_by i := by
  rcases z_ixc i k with e | ⟨_, _, _, e⟩
  · rw [e] at h; exact absurd h (by decide)
  · exact e
theorem z_ix1 {k : Int32} (h : 0 ≤ z_ix 1 k) : k = 112 ∨ k = 115 ∨ k = 102 ∨ k = 107 ∨ k = 103 ∨ k = 100 := by
  have := z_ixm h
  simpa [z_by] using this
theorem z_ix5 {w : Int32} (hn : ¬ (w = 99 ∨ w = 119 ∨ w = 107 ∨ w = 102 ∨ w = 98 ∨ w = 115 ∨ w = 100)) : z_ix 5 w < 0 := by
  rcases z_ixc 5 w with e | ⟨j, h1, _, e⟩
  · rw [e]; decide
  · exact absurd (by simpa [z_by] using e) hn
theorem z_ix2 {k : Int32} (h : ¬ z_ix 2 k < 0) : ∃ e, e < 4 ∧ z_ix 2 k = nI e := by
  rcases z_ixc 2 k with e | ⟨j, h1, h2, _⟩
  · rw [e] at h; exact absurd (by decide) h
  · exact ⟨j, h1, h2⟩
theorem z_stp {x : Int32} (h : ¬ (0 ≤ x ∧ x ≤ 400)) : x < 0 ∨ 400 < x := by
  by_cases h1 : x < 0
  · exact Or.inl h1
  · refine Or.inr (Int32.not_le.mp (fun q => h ⟨Int32.not_lt.mp h1, q⟩))
theorem z_1n {u : Nat} (h : 1 ≤ nI u) (hu : u < 2 ^ 31) : 1 ≤ u := by
  cases u with
  | zero => exact absurd h (by decide)
  | succ u => omega
theorem z_63 (x : Int32) : ∃ k, k < 64 ∧ x &&& 63 = nI k := by
  have h : (x &&& 63).toBitVec.toNat = x.toBitVec.toNat % 64 := by
    rw [Int32.toBitVec_and, BitVec.toNat_and]
    exact Nat.and_two_pow_sub_one_eq_mod _ 6
  refine ⟨x.toBitVec.toNat % 64, Nat.mod_lt _ (by decide), Int32.toBitVec_inj.mp (BitVec.eq_of_toNat_eq ?_)⟩
  rw [h]
  show _ = (BitVec.ofNat 32 (x.toBitVec.toNat % 64)).toNat
  rw [BitVec.toNat_ofNat]
  exact (Nat.mod_eq_of_lt (Nat.lt_trans (Nat.mod_lt _ (by decide)) (by decide))).symm
theorem fdA_01 {ce fi : Nat → Int32} {S0 : zD} : ∀ i, b01 (fdA ce fi S0 i).1 i
  | 0 => fun k hk => absurd hk (by omega)
  | i + 1 => by
    by_cases h : ce i = 114 ∧ ¬ fi i < 0
    · rw [fdA_t h]; exact b01_s (Or.inr rfl) (fdA_01 i)
    · rw [fdA_f h]; exact b01_s (Or.inl rfl) (fdA_01 i)
theorem fdJ_01 {ce fi fr : Nat → Int32} {here o : Nat} {S : zD} (h : b01 S.1 108) : b01 (fdJ ce fi fr here o S).1 108 := by
  unfold fdJ
  split
  · split
    · split
      · exact h
      · exact b01_up h
    · exact b01_up h
  · exact h
theorem fdI_01 {ce fi fr : Nat → Int32} {here s : Nat} {S : zD} (h : b01 S.1 108) : b01 (fdI ce fi fr here s S).1 108 := by
  cases hb : bs here s with
  | none => rw [fdI_n hb]; exact h
  | some o => rw [fdI_s hb]; exact fdJ_01 h
theorem fdH_01 {ce fi fr : Nat → Int32} {here : Nat} {S : zD} (h : b01 S.1 108) : ∀ s, b01 (fdH ce fi fr here S s).1 108
  | 0 => h
  | s + 1 => by rw [fdH]; exact fdI_01 (fdH_01 h s)
theorem fdB_01 {ce fi fr : Nat → Int32} {S : zD} (h : b01 S.1 108) : ∀ s, b01 (fdB ce fi fr S s).1 108
  | 0 => h
  | s + 1 => by
    rw [fdB]
    split
    · exact fdH_01 (fdB_01 h s) 4
    · exact fdB_01 h s
theorem frT_01 {h : Int32} {X : zTr} (hX : b01 X.2.2.1 108) : b01 (frT h X).2.2.1 108 := by
  unfold frT
  split
  · exact hX
  · unfold frN; dsimp only; exact fdB_01 (fdA_01 _) _
theorem z_ge1 {x m : Int32} (h1 : 1 ≤ m) (h : ¬ x < m) : ¬ x ≤ 0 := fun q => h (Int32.lt_of_le_of_lt q (Int32.lt_of_lt_of_le (by decide) h1))
theorem z_nnz {x : Int32} (h : 0 ≤ x) (h0 : ¬ x = 0) : ¬ x ≤ 0 := fun q => h0 (Int32.le_antisymm q h)
def zri (Es : List String) (o : zO) : Prop := (∃ v : Int32, o = .inl (some (.int v))) ∨ ∃ E, E ∈ Es ∧ o = .inr E
