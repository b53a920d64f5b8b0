theorem cst_Mo : Cond.castable R_Mo "java/lang/Object" ∈ z_nw := z_mk9 (i := 101) rfl (by decide +kernel)
theorem cst_Ca : Cond.castable R_Ca "java/lang/Object" ∈ z_nw := z_mk9 (i := 102) rfl (by decide +kernel)
theorem EL.eltc0 {ad : Nat → Nat} {w : zW} {a : Nat} {v : zV} (h : EL ad 0 w a v) : z_elt w a := by
  obtain ⟨c, h1, -⟩ := h.2
  exact ⟨_, h1, ⟨_, rfl, cst_Mo⟩, fun q => by cases q⟩
theorem EL.eltc1 {ad : Nat → Nat} {w : zW} {a : Nat} {v : zV} (h : EL ad 1 w a v) : z_elt w a := by
  obtain ⟨me, gr, h1, -⟩ := h.2
  exact ⟨_, h1, ⟨_, rfl, cst_Ca⟩, fun q => by cases q⟩
theorem SZ.s0 {u : zNN} {m : Nat} {bk : Option Nat} {el : Nat → Nat} (h : SZ u) (hm : m ≤ 10) : SZ (u_set u 0 m bk el) := by
  obtain ⟨h0, h1, h2, h3, h4, h5, h6⟩ := h
  exact ⟨hm, h1, h2, h3, h4, h5, h6⟩
theorem SZ.s1 {u : zNN} {m : Nat} {bk : Option Nat} {el : Nat → Nat} (h : SZ u) (hm : m ≤ 30) : SZ (u_set u 1 m bk el) := by
  obtain ⟨h0, h1, h2, h3, h4, h5, h6⟩ := h
  exact ⟨h0, hm, h2, h3, h4, h5, h6⟩
theorem z_nat {y : Int32} (h : 0 ≤ y) : ∃ m : Nat, m < 2 ^ 31 ∧ y = nI m := by
  obtain ⟨a, ha, e⟩ := z_in20 (x := y) (b := 2147483647) (by decide) ⟨h, Int32.le_iff_toInt_le.mpr (by
    have h1 := y.toInt_lt
    have h2 : (nI 2147483647).toInt = 2147483647 := by decide
    rw [h2]
    omega)⟩
  exact ⟨a, by omega, e⟩
theorem mn_sub {y : Int32} {n : Nat} (hy : 0 ≤ y) (hn : n ≤ 108) : 0 ≤ y - (if y < 2 * (nI n) then y else 2 * (nI n)) := by
  obtain ⟨m, hm, rfl⟩ := z_nat hy
  rw [show 2 * nI n = nI (2 * n) from pk_mul _ _]
  split
  · rw [Int32.sub_self]; decide
  · rename_i h
    have h2 := z_nlt (a := m) (b := 2 * n) (by omega) (by omega) h
    rw [nI_sub h2]
    exact Int32.not_lt.mp (nI_nneg (by omega))
theorem IW.elk {g : zG} {ad : Nat → Nat} {t : zTT} {u : zNN} {w w1 : zW} (h : IW g ad t u w) {L M a : Nat} (hL : L < 7) (hke : z_ke (fun q => q = ad (z_lx.getD L 0) ∨ u.2.1 L = some q) w w1) {v : zV} (hE : EL ad M w a v) : EL ad M w1 a v := hE.ke2 (fun q e hq hw hkk => h.kp hL hq hw hkk hke)
