def CK (g : zG) (ad : Nat → Nat) (t : zTT) (Es : List String) (o : zO) (w1 : zW) : Prop := zri Es o ∧ ∃ u2, IV g ad t u2 w1
def MK (g : zG) (ad : Nat → Nat) (t : zTT) (o : zO) (w1 : zW) : Prop := (∃ v : Int32, o = .inl (some (.int v))) ∧ ∃ u2, IV g ad t u2 w1
theorem zriE {Es : List String} {E : String} (h : zri Es (.inr E)) : E ∈ Es := by
  rcases h with ⟨v, e⟩ | ⟨E2, h, e⟩
  · cases e
  · cases e; exact h
theorem zriV {Es : List String} {v : Option Value} (h : zri Es (.inl v)) : ∃ x : Int32, v = some (.int x) := by
  rcases h with ⟨x, e⟩ | ⟨E2, h, e⟩
  · cases e; exact ⟨_, rfl⟩
  · cases e
theorem zri.sub {Es Fs : List String} {o : zO} (h : zri Es o) (k : ∀ E, E ∈ Es → E ∈ Fs) : zri Fs o := h.imp id (fun ⟨E, h1, h2⟩ => ⟨E, k E h1, h2⟩)
theorem zri.th {Es : List String} {E : String} {o : zO} (h : o = .inr E) (k : E ∈ Es) : zri Es o := Or.inr ⟨_, k, h⟩
theorem zri.vl {Es : List String} {x : Int32} {o : zO} (h : o = .inl (some (.int x))) : zri Es o := Or.inl ⟨_, h⟩
def drawT (k x y p q : Int32) (f : Nat → Int32) : Nat → Int32 := if 0 ≤ z_ix 0 k ∧ (0 ≤ x ∧ x < 12 ∧ 0 ≤ y ∧ y < 9) ∧ 1 ≤ p ∧ p ≤ 12 - x ∧ 1 ≤ q ∧ q ≤ 9 - y then (prect k x.toNatClampNeg y.toNatClampNeg p.toNatClampNeg (f, 0) q.toNatClampNeg).1 else f
def partT (r : Int32) (p : Nat) : Nat := if 1 ≤ r ∧ r ≤ 8 then r.toNatClampNeg else p
theorem z_ix4 {k : Int32} (h : 0 ≤ z_ix 4 k) : k = 112 ∨ k = 115 ∨ k = 102 := by
  have := z_ixm h
  simpa [z_by] using this
theorem z_nlt9 {x : Int32} (h : ¬ x < 0) : 0 ≤ x := Int32.not_lt.mp h
theorem z_pr9 {x : Int32} (h : ¬ (1 ≤ x ∧ x ≤ 8)) : x < 1 ∨ 9 ≤ x := by
  simp only [Int32.le_iff_toInt_le, Int32.lt_iff_toInt_lt] at h ⊢
  have h1 : (1 : Int32).toInt = 1 := rfl
  have h8 : (8 : Int32).toInt = 8 := rfl
  have h9 : (9 : Int32).toInt = 9 := rfl
  rw [h1, h8] at h
  rw [h1, h9]
  omega
theorem K_Ip_draw {g : zG} {ad : Nat → Nat} {t : zTT} {u : zNN} {w : zW} (hI : IV g ad t u w) (k : Int32) (x : Int32) (y : Int32) (p : Int32) (q : Int32) : zMB g M_Ip_draw [.ref (ad 0), .int k, .int x, .int y, .int p, .int q] w (CK g ad (drawT k x y p q t.1, t.2) ["java/lang/IllegalArgumentException"]) 10 300 := by
  by_cases hd : 0 ≤ z_ix 0 k ∧ (0 ≤ x ∧ x < 12 ∧ 0 ≤ y ∧ y < 9) ∧ 1 ≤ p ∧ p ≤ 12 - x ∧ 1 ≤ q ∧ q ≤ 9 - y
  · obtain ⟨a9, b9, c9, d9, h1, h2, -, -, rfl, rfl, rfl, rfl, hk, -⟩ := z_dr_in hd
    have hp : 1 ≤ c9 := z_1n hd.2.2.1 (by omega)
    have hq : 1 ≤ d9 := z_1n hd.2.2.2.2.1 (by omega)
    have e9 : drawT k (nI a9) (nI b9) (nI c9) (nI d9) t.1 = (prect k a9 b9 c9 (t.1, 0) d9).1 := by unfold drawT; rw [if_pos hd, nI_clamp (by omega), nI_clamp (by omega), nI_clamp (by omega), nI_clamp (by omega)]
    rw [e9]
    exact (Q_Ip_drawN hI k hk hd.1 a9 b9 c9 d9 h1 h2 hp hq).mono (by decide) (by decide) (fun o w1 h => ⟨zri.vl h.1, _, h.2⟩)
  · have e9 : drawT k x y p q t.1 = t.1 := if_neg hd
    rw [e9]
    exact (Q_Ip_drawE hI k x y p q hd).mono (by decide) (by decide) (fun o w1 h => ⟨zri.th h.1 (by simp), _, h.2⟩)
theorem K_Mm_draw {g : zG} {ad : Nat → Nat} {t : zTT} {u : zNN} {w : zW} (hI : IV g ad t u w) (k : Int32) (x : Int32) (y : Int32) (p : Int32) (q : Int32) : zMB g M_Mm_draw [.ref (ad 52), .int k, .int x, .int y, .int p, .int q] w (MK g ad (t.1, drawT k x y p q t.2.1, t.2.2)) 10 300 := by
  by_cases hd : 0 ≤ z_ix 0 k ∧ (0 ≤ x ∧ x < 12 ∧ 0 ≤ y ∧ y < 9) ∧ 1 ≤ p ∧ p ≤ 12 - x ∧ 1 ≤ q ∧ q ≤ 9 - y
  · obtain ⟨a9, b9, c9, d9, h1, h2, -, -, rfl, rfl, rfl, rfl, hk, -⟩ := z_dr_in hd
    have hp : 1 ≤ c9 := z_1n hd.2.2.1 (by omega)
    have hq : 1 ≤ d9 := z_1n hd.2.2.2.2.1 (by omega)
    have e9 : drawT k (nI a9) (nI b9) (nI c9) (nI d9) t.2.1 = (prect k a9 b9 c9 (t.2.1, 0) d9).1 := by unfold drawT; rw [if_pos hd, nI_clamp (by omega), nI_clamp (by omega), nI_clamp (by omega), nI_clamp (by omega)]
    rw [e9]
    exact (Q_Mm_drawN hI k hk hd.1 a9 b9 c9 d9 h1 h2 hp hq).mono (by decide) (by decide) (fun o w1 h => ⟨⟨_, h.1.1⟩, _, h.2⟩)
  · have e9 : drawT k x y p q t.2.1 = t.2.1 := if_neg hd
    rw [e9]
    exact (Q_Mm_drawE hI k x y p q hd).mono (by decide) (by decide) (fun o w1 h => ⟨h.1, _, h.2⟩)
theorem K_Ip_part {g : zG} {ad : Nat → Nat} {t : zTT} {u : zNN} {w : zW} (hI : IV g ad t u w) (r : Int32) : zMB g M_Ip_part [.ref (ad 0), .int r] w (CK g ad (t.1, t.2.1, partT r t.2.2.1, t.2.2.2) ["java/lang/IllegalArgumentException"]) 10 300 := by
  by_cases hw : 1 ≤ r ∧ r ≤ 8
  · obtain ⟨p9, hp9, e9⟩ := z_in20 (b := 8) (by decide) ⟨Int32.le_trans (by decide) hw.1, hw.2⟩
    subst e9
    have h1 : 1 ≤ p9 := z_1n hw.1 (by omega)
    have e8 : partT (nI p9) t.2.2.1 = p9 := by unfold partT; rw [if_pos hw, nI_clamp (by omega)]
    rw [e8]
    exact (Q_Ip_partN hI p9 h1 (by omega) (fun q => q.elim (fun q1 => absurd hw.1 (Int32.not_le.mpr q1)) (fun q1 => absurd hw.2 (Int32.not_le.mpr (Int32.lt_of_lt_of_le (by decide) q1))))).mono (by decide) (by decide) (fun o w1 h => ⟨zri.vl h.1, _, h.2⟩)
  · have e8 : partT r t.2.2.1 = t.2.2.1 := if_neg hw
    rw [e8]
    exact (Q_Ip_partE hI r (z_pr9 hw)).mono (by decide) (by decide) (fun o w1 h => ⟨zri.th h.1 (by simp), _, h.2⟩)
theorem K_Mm_part {g : zG} {ad : Nat → Nat} {t : zTT} {u : zNN} {w : zW} (hI : IV g ad t u w) (r : Int32) : zMB g M_Mm_part [.ref (ad 52), .int r] w (MK g ad (t.1, t.2.1, t.2.2.1, partT r t.2.2.2.1, t.2.2.2.2)) 10 300 := by
  by_cases hw : 1 ≤ r ∧ r ≤ 8
  · obtain ⟨p9, hp9, e9⟩ := z_in20 (b := 8) (by decide) ⟨Int32.le_trans (by decide) hw.1, hw.2⟩
    subst e9
    have h1 : 1 ≤ p9 := z_1n hw.1 (by omega)
    have e8 : partT (nI p9) t.2.2.2.1 = p9 := by unfold partT; rw [if_pos hw, nI_clamp (by omega)]
    rw [e8]
    exact (Q_Mm_partN hI p9 h1 (by omega) hw).mono (by decide) (by decide) (fun o w1 h => ⟨⟨_, h.1.1⟩, _, h.2⟩)
  · have e8 : partT r t.2.2.2.1 = t.2.2.2.1 := if_neg hw
    rw [e8]
    exact (Q_Mm_partE hI r hw).mono (by decide) (by decide) (fun o w1 h => ⟨h.1.1, _, h.2⟩)
theorem K_Ip_cores {g : zG} {ad : Nat → Nat} {t : zTT} {u : zNN} {w : zW} (hI : IV g ad t u w) : zMB g M_Ip_cores [.ref (ad 0)] w (CK g ad t []) 10 300 := by
  exact (Q_Ip_cores hI).mono (by decide) (by decide) (fun o w1 h => ⟨h.1.sub (by simp), _, h.2⟩)
theorem K_Ip_loose {g : zG} {ad : Nat → Nat} {t : zTT} {u : zNN} {w : zW} (hI : IV g ad t u w) : zMB g M_Ip_loose [.ref (ad 0)] w (CK g ad t []) 10 300 := by
  exact (Q_Ip_loose hI).mono (by decide) (by decide) (fun o w1 h => ⟨h.1.sub (by simp), _, h.2⟩)
theorem K_Ip_goodCores {g : zG} {ad : Nat → Nat} {t : zTT} {u : zNN} {w : zW} (hI : IV g ad t u w) : zMB g M_Ip_goodCores [.ref (ad 0)] w (CK g ad t []) 10 300 := by
  exact (Q_Ip_goodCores hI).mono (by decide) (by decide) (fun o w1 h => ⟨h.1.sub (by simp), _, h.2⟩)
theorem K_Ip_castings {g : zG} {ad : Nat → Nat} {t : zTT} {u : zNN} {w : zW} (hI : IV g ad t u w) : zMB g M_Ip_castings [.ref (ad 0)] w (CK g ad t []) 10 300 := by
  exact (Q_Ip_castings hI).mono (by decide) (by decide) (fun o w1 h => ⟨h.1.sub (by simp), _, h.2⟩)
theorem K_Ip_isSound {g : zG} {ad : Nat → Nat} {t : zTT} {u : zNN} {w : zW} (hI : IV g ad t u w) : zMB g M_Ip_isSound [.ref (ad 0)] w (CK g ad t []) 10 300 := by
  exact (Q_Ip_isSound hI).mono (by decide) (by decide) (fun o w1 h => ⟨h.1.sub (by simp), _, h.2⟩)
theorem K_Ip_undercut {g : zG} {ad : Nat → Nat} {t : zTT} {u : zNN} {w : zW} (hI : IV g ad t u w) : zMB g M_Ip_undercut [.ref (ad 0)] w (CK g ad t []) 10 300 := by
  exact (Q_Ip_undercut hI).mono (by decide) (by decide) (fun o w1 h => ⟨zri.vl h.1, _, h.2⟩)
theorem K_Ip_weight {g : zG} {ad : Nat → Nat} {t : zTT} {u : zNN} {w : zW} (hI : IV g ad t u w) : zMB g M_Ip_weight [.ref (ad 0)] w (CK g ad t []) 10 300 := by
  exact (Q_Ip_weight hI).mono (by decide) (by decide) (fun o w1 h => ⟨zri.vl h.1, _, h.2⟩)
theorem K_Ip_speed {g : zG} {ad : Nat → Nat} {t : zTT} {u : zNN} {w : zW} (hI : IV g ad t u w) : zMB g M_Ip_speed [.ref (ad 0)] w (CK g ad t ["java/util/NoSuchElementException"]) 10 300 := by
  by_cases hg : fa_cnt (fun k => decide (t.1 k = 103)) 12 = 0
  · exact (Q_Ip_speedE hI hg).mono (by decide) (by decide) (fun o w1 h => ⟨zri.th h.1 (by simp), _, h.2⟩)
  · exact (Q_Ip_speedN hI hg).mono (by decide) (by decide) (fun o w1 h => ⟨zri.vl h.1, _, h.2⟩)
theorem K_Ip_filledIn {g : zG} {ad : Nat → Nat} {t : zTT} {u : zNN} {w : zW} (hI : IV g ad t u w) (x : Int32) (y : Int32) : zMB g M_Ip_filledIn [.ref (ad 0), .int x, .int y] w (CK g ad t ["java/lang/IndexOutOfBoundsException"]) 10 300 := by
  exact (Q_Ip_filledIn hI x y).mono (by decide) (by decide) (fun o w1 h => ⟨h.1.sub (by simp), _, h.2⟩)
theorem K_Ip_frozenIn {g : zG} {ad : Nat → Nat} {t : zTT} {u : zNN} {w : zW} (hI : IV g ad t u w) (x : Int32) (y : Int32) (h : Int32) : zMB g M_Ip_frozenIn [.ref (ad 0), .int x, .int y, .int h] w (CK g ad t ["java/lang/IndexOutOfBoundsException", "java/lang/IllegalArgumentException"]) 10 300 := by
  exact (Q_Ip_frozenIn hI x y h).mono (by decide) (by decide) (fun o w1 h => ⟨h.1.sub (by simp), _, h.2⟩)
theorem K_Ip_isFed {g : zG} {ad : Nat → Nat} {t : zTT} {u : zNN} {w : zW} (hI : IV g ad t u w) (x : Int32) (y : Int32) (h : Int32) : zMB g M_Ip_isFed [.ref (ad 0), .int x, .int y, .int h] w (CK g ad t ["java/lang/IndexOutOfBoundsException", "java/lang/IllegalArgumentException"]) 10 300 := by
  exact (Q_Ip_isFed hI x y h).mono (by decide) (by decide) (fun o w1 h => ⟨h.1.sub (by simp), _, h.2⟩)
theorem K_Ip_heatAt {g : zG} {ad : Nat → Nat} {t : zTT} {u : zNN} {w : zW} (hI : IV g ad t u w) (x : Int32) (y : Int32) (h : Int32) (s : Int32) : zMB g M_Ip_heatAt [.ref (ad 0), .int x, .int y, .int h, .int s] w (CK g ad t ["java/lang/IndexOutOfBoundsException", "java/lang/IllegalArgumentException"]) 10 300 := by
  exact (Q_Ip_heatAt hI x y h s).mono (by decide) (by decide) (fun o w1 h => ⟨h.1.sub (by simp), _, h.2⟩)
theorem K_Ip_shrunk {g : zG} {ad : Nat → Nat} {t : zTT} {u : zNN} {w : zW} (hI : IV g ad t u w) (h : Int32) : zMB g M_Ip_shrunk [.ref (ad 0), .int h] w (CK g ad t ["java/lang/IllegalArgumentException"]) 10 300 := by
  exact (Q_Ip_shrunk hI h).mono (by decide) (by decide) (fun o w1 h => ⟨h.1.sub (by simp), _, h.2⟩)
theorem K_Ip_shrunkAnew {g : zG} {ad : Nat → Nat} {t : zTT} {u : zNN} {w : zW} (hI : IV g ad t u w) (h : Int32) : zMB g M_Ip_shrunkAnew [.ref (ad 0), .int h] w (CK g ad t ["java/lang/IllegalArgumentException"]) 10 300 := by
  exact (Q_Ip_shrunkAnew hI h).mono (by decide) (by decide) (fun o w1 h => ⟨h.1.sub (by simp), _, h.2⟩)
theorem K_Ip_lastPlace {g : zG} {ad : Nat → Nat} {t : zTT} {u : zNN} {w : zW} (hI : IV g ad t u w) (h : Int32) : zMB g M_Ip_lastPlace [.ref (ad 0), .int h] w (CK g ad t ["java/lang/IllegalArgumentException", "java/util/NoSuchElementException"]) 10 300 := by
  exact (Q_Ip_lastPlace hI h).mono (by decide) (by decide) (fun o w1 h => ⟨h.1.sub (by simp), _, h.2⟩)
theorem K_Ip_mill {g : zG} {ad : Nat → Nat} {t : zTT} {u : zNN} {w : zW} (hI : IV g ad t u w) (x1 : Int32) (x2 : Int32) (x3 : Int32) (x4 : Int32) : zMB g M_Ip_mill [.ref (ad 0), .int x1, .int x2, .int x3, .int x4] w (CK g ad t ["java/lang/IllegalArgumentException"]) 10 300 := by
  exact (Q_Ip_mill hI x1 x2 x3 x4).mono (by decide) (by decide) (fun o w1 h => ⟨h.1.sub (by simp), _, h.2⟩)
theorem K_Ip_sand {g : zG} {ad : Nat → Nat} {t : zTT} {u : zNN} {w : zW} (hI : IV g ad t u w) (c : Int32) : zMB g M_Ip_sand [.ref (ad 0), .int c] w (CK g ad t ["java/lang/IllegalArgumentException"]) 10 300 := by
  exact (Q_Ip_sand hI c).mono (by decide) (by decide) (fun o w1 h => ⟨h.1.sub (by simp), _, h.2⟩)
theorem K_Ip_makeCores {g : zG} {ad : Nat → Nat} {t : zTT} {u : zNN} {w : zW} (hI : IV g ad t u w) (c : Int32) (k : Int32) : zMB g M_Ip_makeCores [.ref (ad 0), .int c, .int k] w (CK g ad t ["java/lang/IllegalArgumentException", "java/lang/IllegalStateException"]) 10 300 := by
  exact (Q_Ip_makeCores hI c k).mono (by decide) (by decide) (fun o w1 h => ⟨h.1.sub (by simp), _, h.2⟩)
theorem K_Ip_hours {g : zG} {ad : Nat → Nat} {t : zTT} {u : zNN} {w : zW} (hI : IV g ad t u w) (h : Int32) : zMB g M_Ip_hours [.ref (ad 0), .int h] w (CK g ad t ["java/lang/IllegalArgumentException"]) 10 300 := by
  exact (Q_Ip_hours hI h).mono (by decide) (by decide) (fun o w1 h => ⟨h.1.sub (by simp), _, h.2⟩)
theorem K_Ip_charge {g : zG} {ad : Nat → Nat} {t : zTT} {u : zNN} {w : zW} (hI : IV g ad t u w) (k : Int32) (x : Int32) : zMB g M_Ip_charge [.ref (ad 0), .int k, .int x] w (CK g ad t ["java/lang/IllegalArgumentException", "java/lang/UnsupportedOperationException", "java/lang/IllegalStateException"]) 10 300 := by
  exact (Q_Ip_charge hI k x).mono (by decide) (by decide) (fun o w1 h => ⟨h.1.sub (by simp), _, h.2⟩)
theorem K_Ip_furnace {g : zG} {ad : Nat → Nat} {t : zTT} {u : zNN} {w : zW} (hI : IV g ad t u w) (k : Int32) : zMB g M_Ip_furnace [.ref (ad 0), .int k] w (CK g ad t ["java/lang/IllegalArgumentException", "java/util/NoSuchElementException"]) 10 300 := by
  exact (Q_Ip_furnace hI k).mono (by decide) (by decide) (fun o w1 h => ⟨h.1.sub (by simp), _, h.2⟩)
theorem K_Ip_hold {g : zG} {ad : Nat → Nat} {t : zTT} {u : zNN} {w : zW} (hI : IV g ad t u w) (x : Int32) : zMB g M_Ip_hold [.ref (ad 0), .int x] w (CK g ad t ["java/lang/IllegalArgumentException"]) 10 300 := by
  exact (Q_Ip_hold hI x).mono (by decide) (by decide) (fun o w1 h => ⟨h.1.sub (by simp), _, h.2⟩)
theorem K_Ip_tap {g : zG} {ad : Nat → Nat} {t : zTT} {u : zNN} {w : zW} (hI : IV g ad t u w) (x : Int32) : zMB g M_Ip_tap [.ref (ad 0), .int x] w (CK g ad t ["java/lang/IllegalArgumentException", "java/lang/IllegalStateException", "java/lang/UnsupportedOperationException"]) 10 300 := by
  exact (Q_Ip_tap hI x).mono (by decide) (by decide) (fun o w1 h => ⟨h.1.sub (by simp), _, h.2⟩)
theorem K_Ip_treat {g : zG} {ad : Nat → Nat} {t : zTT} {u : zNN} {w : zW} (hI : IV g ad t u w) (x : Int32) : zMB g M_Ip_treat [.ref (ad 0), .int x] w (CK g ad t ["java/lang/IllegalArgumentException", "java/lang/IllegalStateException", "java/lang/UnsupportedOperationException"]) 10 300 := by
  exact (Q_Ip_treat hI x).mono (by decide) (by decide) (fun o w1 h => ⟨h.1.sub (by simp), _, h.2⟩)
theorem K_Ip_ladle {g : zG} {ad : Nat → Nat} {t : zTT} {u : zNN} {w : zW} (hI : IV g ad t u w) (c : Int32) : zMB g M_Ip_ladle [.ref (ad 0), .int c] w (CK g ad t ["java/lang/IllegalArgumentException"]) 10 300 := by
  exact (Q_Ip_ladle hI c).mono (by decide) (by decide) (fun o w1 h => ⟨h.1.sub (by simp), _, h.2⟩)
theorem K_Ip_pig {g : zG} {ad : Nat → Nat} {t : zTT} {u : zNN} {w : zW} (hI : IV g ad t u w) : zMB g M_Ip_pig [.ref (ad 0)] w (CK g ad t ["java/lang/IllegalStateException"]) 10 300 := by
  exact (Q_Ip_pig hI).mono (by decide) (by decide) (fun o w1 h => ⟨h.1.sub (by simp), _, h.2⟩)
theorem K_Ip_pool {g : zG} {ad : Nat → Nat} {t : zTT} {u : zNN} {w : zW} (hI : IV g ad t u w) (k : Int32) : zMB g M_Ip_pool [.ref (ad 0), .int k] w (CK g ad t ["java/lang/IllegalArgumentException"]) 10 300 := by
  exact (Q_Ip_pool hI k).mono (by decide) (by decide) (fun o w1 h => ⟨h.1.sub (by simp), _, h.2⟩)
theorem K_Ip_poolHas {g : zG} {ad : Nat → Nat} {t : zTT} {u : zNN} {w : zW} (hI : IV g ad t u w) (k : Int32) (x : Int32) : zMB g M_Ip_poolHas [.ref (ad 0), .int k, .int x] w (CK g ad t ["java/lang/IllegalArgumentException", "java/util/NoSuchElementException"]) 10 300 := by
  exact (Q_Ip_poolHas hI k x).mono (by decide) (by decide) (fun o w1 h => ⟨h.1.sub (by simp), _, h.2⟩)
theorem K_Ip_bestFeeder {g : zG} {ad : Nat → Nat} {t : zTT} {u : zNN} {w : zW} (hI : IV g ad t u w) (h : Int32) : zMB g M_Ip_bestFeeder [.ref (ad 0), .int h] w (CK g ad t ["java/lang/IllegalArgumentException", "java/util/NoSuchElementException"]) 10 300 := by
  by_cases hh : 1200 ≤ h ∧ h ≤ 1500
  · exact (Q_Ip_bestFeederN hI h hh).mono (by decide) (by decide) (fun o w1 h => ⟨h.1.sub (by simp), _, h.2⟩)
  · exact (Q_Ip_bestFeederE hI h hh).mono (by decide) (by decide) (fun o w1 h => ⟨h.1.sub (by simp), _, h.2⟩)
noncomputable def lcC (x1 x2 x3 x4 x5 x6 : Int32) (t : zTT) : zTT := if (0 ≤ x1 ∧ x1 ≤ 450) ∧ (x1 ≤ x2 ∧ x2 ≤ 450) ∧ (0 ≤ x3 ∧ x3 ≤ 450) ∧ (1 ≤ x4 ∧ x4 ≤ 1000) ∧ (1 ≤ x5 ∧ x5 ≤ 1000) ∧ (1 ≤ x6 ∧ x6 ≤ 1000) then (t.1, t.2.1, t.2.2.1, t.2.2.2.1, fun k => if k = 0 then (rcO x1 x2 x3 x4 x5 x6 (-1, t.2.2.2.2 0, t.2.2.2.2 1, t.2.2.2.2 2) 11).2.1 else if k = 1 then (rcO x1 x2 x3 x4 x5 x6 (-1, t.2.2.2.2 0, t.2.2.2.2 1, t.2.2.2.2 2) 11).2.2.1 else if k = 2 then (rcO x1 x2 x3 x4 x5 x6 (-1, t.2.2.2.2 0, t.2.2.2.2 1, t.2.2.2.2 2) 11).2.2.2 else t.2.2.2.2 k) else t
noncomputable def lcM (x1 x2 x3 x4 x5 x6 : Int32) (t : zTT) : zTT := if ((0 ≤ x1 ∧ x1 ≤ 450) ∧ (x1 ≤ x2 ∧ x2 ≤ 450) ∧ (0 ≤ x3 ∧ x3 ≤ 450) ∧ (1 ≤ x4 ∧ x4 ≤ 1000) ∧ (1 ≤ x5 ∧ x5 ≤ 1000) ∧ (1 ≤ x6 ∧ x6 ≤ 1000)) ∧ ¬ (rcO x1 x2 x3 x4 x5 x6 (-1, -1, 0, 0) 11).1 < 0 then (t.1, t.2.1, t.2.2.1, t.2.2.2.1, fun k => if k = 3 then (rcO x1 x2 x3 x4 x5 x6 (-1, -1, 0, 0) 11).2.1 else if k = 4 then (rcO x1 x2 x3 x4 x5 x6 (-1, -1, 0, 0) 11).2.2.1 else t.2.2.2.2 k) else t
theorem K_Ip_leastCost {g : zG} {ad : Nat → Nat} {t : zTT} {u : zNN} {w : zW} (hI : IV g ad t u w) (x1 : Int32) (x2 : Int32) (x3 : Int32) (x4 : Int32) (x5 : Int32) (x6 : Int32) : zMB g M_Ip_leastCost [.ref (ad 0), .int x1, .int x2, .int x3, .int x4, .int x5, .int x6] w (CK g ad (lcC x1 x2 x3 x4 x5 x6 t) ["java/lang/IllegalArgumentException", "java/util/NoSuchElementException"]) 10 300 := by
  by_cases hw : (0 ≤ x1 ∧ x1 ≤ 450) ∧ (x1 ≤ x2 ∧ x2 ≤ 450) ∧ (0 ≤ x3 ∧ x3 ≤ 450) ∧ (1 ≤ x4 ∧ x4 ≤ 1000) ∧ (1 ≤ x5 ∧ x5 ≤ 1000) ∧ (1 ≤ x6 ∧ x6 ≤ 1000)
  · rw [show lcC x1 x2 x3 x4 x5 x6 t = _ from if_pos hw]
    exact (Q_Ip_leastCostN hI x1 x2 x3 x4 x5 x6 hw).mono (by decide) (by decide) (fun o w1 h => ⟨by rw [h.1]; split <;> first | exact Or.inr ⟨_, by simp, rfl⟩ | exact Or.inl ⟨_, rfl⟩, _, h.2⟩)
  · rw [show lcC x1 x2 x3 x4 x5 x6 t = _ from if_neg hw]
    exact (Q_Ip_leastCostE hI x1 x2 x3 x4 x5 x6 hw).mono (by decide) (by decide) (fun o w1 h => ⟨zri.th h.1 (by simp), _, h.2⟩)
theorem K_Mm_leastCost {g : zG} {ad : Nat → Nat} {t : zTT} {u : zNN} {w : zW} (hI : IV g ad t u w) (x1 : Int32) (x2 : Int32) (x3 : Int32) (x4 : Int32) (x5 : Int32) (x6 : Int32) : zMB g M_Mm_leastCost [.ref (ad 52), .int x1, .int x2, .int x3, .int x4, .int x5, .int x6] w (MK g ad (lcM x1 x2 x3 x4 x5 x6 t)) 10 300 := by
  by_cases hw : (0 ≤ x1 ∧ x1 ≤ 450) ∧ (x1 ≤ x2 ∧ x2 ≤ 450) ∧ (0 ≤ x3 ∧ x3 ≤ 450) ∧ (1 ≤ x4 ∧ x4 ≤ 1000) ∧ (1 ≤ x5 ∧ x5 ≤ 1000) ∧ (1 ≤ x6 ∧ x6 ≤ 1000)
  · by_cases hs : (rcO x1 x2 x3 x4 x5 x6 (-1, -1, 0, 0) 11).1 < 0
    · rw [show lcM x1 x2 x3 x4 x5 x6 t = _ from if_neg (fun q => q.2 hs)]
      exact (Q_Mm_leastCostF hI x1 x2 x3 x4 x5 x6 hw hs).mono (by decide) (by decide) (fun o w1 h => ⟨h.1.1, _, h.2⟩)
    · rw [show lcM x1 x2 x3 x4 x5 x6 t = _ from if_pos ⟨hw, hs⟩]
      exact (Q_Mm_leastCostN hI x1 x2 x3 x4 x5 x6 hw hs).mono (by decide) (by decide) (fun o w1 h => ⟨⟨_, h.1.1⟩, _, h.2⟩)
  · rw [show lcM x1 x2 x3 x4 x5 x6 t = _ from if_neg (fun q => hw q.1)]
    exact (Q_Mm_leastCostE hI x1 x2 x3 x4 x5 x6 hw).mono (by decide) (by decide) (fun o w1 h => ⟨h.1.1, _, h.2⟩)
theorem K_Ip_mould {g : zG} {ad : Nat → Nat} {t : zTT} {u : zNN} {w : zW} (hI : IV g ad t u w) : zMB g M_Ip_mould [.ref (ad 0)] w (CK g ad t ["java/util/NoSuchElementException", "java/lang/UnsupportedOperationException", "java/lang/IllegalStateException"]) 10 300 := by
  exact (Q_Ip_mould hI).mono (by decide) (by decide) (fun o w1 h => ⟨h.1.sub (by simp), h.2⟩)
theorem K_Ip_pour {g : zG} {ad : Nat → Nat} {t : zTT} {u : zNN} {w : zW} (hI : IV g ad t u w) : zMB g M_Ip_pour [.ref (ad 0)] w (CK g ad t ["java/util/NoSuchElementException", "java/lang/IllegalStateException", "java/lang/UnsupportedOperationException"]) 10 300 := by
  by_cases h0 : u.1 0 = 0
  · exact (Q_Ip_pourE hI h0).mono (by decide) (by decide) (fun o w1 h => ⟨h.1.sub (by simp), h.2⟩)
  · exact (Q_Ip_pourN hI h0).mono (by decide) (by decide) (fun o w1 h => ⟨h.1.sub (by simp), h.2⟩)
theorem K_Ip_waiting {g : zG} {ad : Nat → Nat} {t : zTT} {u : zNN} {w : zW} (hI : IV g ad t u w) (x : Int32) : zMB g M_Ip_waiting [.ref (ad 0), .int x] w (CK g ad t ["java/util/NoSuchElementException"]) 10 300 := by
  by_cases hx : ∃ k, k < u.1 0 ∧ x = nI k
  · obtain ⟨k, hk, rfl⟩ := hx
    exact (Q_Ip_waitingN hI k hk).mono (by decide) (by decide) (fun o w1 h => ⟨h.1.sub (by simp), _, h.2⟩)
  · exact (Q_Ip_waitingE hI x hx).mono (by decide) (by decide) (fun o w1 h => ⟨h.1.sub (by simp), _, h.2⟩)
theorem K_Ip_alloy {g : zG} {ad : Nat → Nat} {t : zTT} {u : zNN} {w : zW} (hI : IV g ad t u w) (x : Int32) : zMB g M_Ip_alloy [.ref (ad 0), .int x] w (CK g ad t ["java/lang/IndexOutOfBoundsException"]) 10 300 := by
  by_cases hx : ∃ k, k < u.1 1 ∧ x = nI k
  · obtain ⟨k, hk, rfl⟩ := hx
    exact (Q_Ip_alloyN hI k hk).mono (by decide) (by decide) (fun o w1 h => ⟨h.1.sub (by simp), _, h.2⟩)
  · exact (Q_Ip_alloyE hI x hx).mono (by decide) (by decide) (fun o w1 h => ⟨h.1.sub (by simp), _, h.2⟩)
theorem K_Ip_faults {g : zG} {ad : Nat → Nat} {t : zTT} {u : zNN} {w : zW} (hI : IV g ad t u w) (x : Int32) : zMB g M_Ip_faults [.ref (ad 0), .int x] w (CK g ad t ["java/lang/IndexOutOfBoundsException"]) 10 300 := by
  by_cases hx : ∃ k, k < u.1 1 ∧ x = nI k
  · obtain ⟨k, hk, rfl⟩ := hx
    exact (Q_Ip_faultsN hI k hk).mono (by decide) (by decide) (fun o w1 h => ⟨h.1.sub (by simp), _, h.2⟩)
  · exact (Q_Ip_faultsE hI x hx).mono (by decide) (by decide) (fun o w1 h => ⟨h.1.sub (by simp), _, h.2⟩)
theorem K_Ip_shrunkIn {g : zG} {ad : Nat → Nat} {t : zTT} {u : zNN} {w : zW} (hI : IV g ad t u w) (x : Int32) : zMB g M_Ip_shrunkIn [.ref (ad 0), .int x] w (CK g ad t ["java/lang/IndexOutOfBoundsException"]) 10 300 := by
  by_cases hx : ∃ k, k < u.1 1 ∧ x = nI k
  · obtain ⟨k, hk, rfl⟩ := hx
    exact (Q_Ip_shrunkInN hI k hk).mono (by decide) (by decide) (fun o w1 h => ⟨h.1.sub (by simp), _, h.2⟩)
  · exact (Q_Ip_shrunkInE hI x hx).mono (by decide) (by decide) (fun o w1 h => ⟨h.1.sub (by simp), _, h.2⟩)
theorem K_Ip_bar {g : zG} {ad : Nat → Nat} {t : zTT} {u : zNN} {w : zW} (hI : IV g ad t u w) (x : Int32) : zMB g M_Ip_bar [.ref (ad 0), .int x] w (CK g ad t ["java/lang/IndexOutOfBoundsException"]) 10 300 := by
  by_cases hx : ∃ k, k < u.1 1 ∧ x = nI k
  · obtain ⟨k, hk, rfl⟩ := hx
    exact (Q_Ip_barN hI k hk).mono (by decide) (by decide) (fun o w1 h => ⟨h.1.sub (by simp), _, h.2⟩)
  · exact (Q_Ip_barE hI x hx).mono (by decide) (by decide) (fun o w1 h => ⟨h.1.sub (by simp), _, h.2⟩)
theorem K_Ip_weld {g : zG} {ad : Nat → Nat} {t : zTT} {u : zNN} {w : zW} (hI : IV g ad t u w) (x : Int32) : zMB g M_Ip_weld [.ref (ad 0), .int x] w (CK g ad t ["java/lang/IndexOutOfBoundsException", "java/lang/UnsupportedOperationException", "java/lang/IllegalStateException"]) 10 300 := by
  by_cases hx : ∃ k, k < u.1 1 ∧ x = nI k
  · obtain ⟨k, hk, rfl⟩ := hx
    exact (Q_Ip_weldN hI k hk).mono (by decide) (by decide) (fun o w1 h => ⟨h.1.sub (by simp), _, h.2⟩)
  · exact (Q_Ip_weldE hI x hx).mono (by decide) (by decide) (fun o w1 h => ⟨h.1.sub (by simp), _, h.2⟩)
theorem K_Ip_deliver {g : zG} {ad : Nat → Nat} {t : zTT} {u : zNN} {w : zW} (hI : IV g ad t u w) (x : Int32) : zMB g M_Ip_deliver [.ref (ad 0), .int x] w (CK g ad t ["java/lang/IndexOutOfBoundsException", "java/lang/IllegalStateException"]) 10 300 := by
  by_cases hx : ∃ k, k < u.1 1 ∧ x = nI k
  · obtain ⟨k, hk, rfl⟩ := hx
    exact (Q_Ip_deliverN hI k hk).mono (by decide) (by decide) (fun o w1 h => ⟨h.1.sub (by simp), _, h.2⟩)
  · exact (Q_Ip_deliverE hI x hx).mono (by decide) (by decide) (fun o w1 h => ⟨h.1.sub (by simp), _, h.2⟩)
theorem K_Ip_breakUp {g : zG} {ad : Nat → Nat} {t : zTT} {u : zNN} {w : zW} (hI : IV g ad t u w) (x : Int32) : zMB g M_Ip_breakUp [.ref (ad 0), .int x] w (CK g ad t ["java/lang/IndexOutOfBoundsException", "java/lang/IllegalStateException"]) 10 300 := by
  by_cases hx : ∃ k, k < u.1 1 ∧ x = nI k
  · obtain ⟨k, hk, rfl⟩ := hx
    exact (Q_Ip_breakUpN hI k hk).mono (by decide) (by decide) (fun o w1 h => ⟨h.1.sub (by simp), _, h.2⟩)
  · exact (Q_Ip_breakUpE hI x hx).mono (by decide) (by decide) (fun o w1 h => ⟨h.1.sub (by simp), _, h.2⟩)
theorem K_Ip_has {g : zG} {ad : Nat → Nat} {t : zTT} {u : zNN} {w : zW} (hI : IV g ad t u w) (x : Int32) (c : Int32) : zMB g M_Ip_has [.ref (ad 0), .int x, .int c] w (CK g ad t ["java/lang/IndexOutOfBoundsException", "java/lang/IllegalArgumentException"]) 10 300 := by
  by_cases hx : ∃ k, k < u.1 1 ∧ x = nI k
  · obtain ⟨k, hk, rfl⟩ := hx
    by_cases h2 : z_ix 2 c < 0
    · exact (Q_Ip_hasF hI k hk c h2).mono (by decide) (by decide) (fun o w1 h => ⟨h.1.sub (by simp), _, h.2⟩)
    · obtain ⟨e9, he9, h3⟩ := z_ix2 h2
      exact (Q_Ip_hasN hI k hk c e9 he9 h3).mono (by decide) (by decide) (fun o w1 h => ⟨h.1.sub (by simp), _, h.2⟩)
  · exact (Q_Ip_hasE hI x hx c).mono (by decide) (by decide) (fun o w1 h => ⟨h.1.sub (by simp), _, h.2⟩)
theorem K_Ip_worst {g : zG} {ad : Nat → Nat} {t : zTT} {u : zNN} {w : zW} (hI : IV g ad t u w) : zMB g M_Ip_worst [.ref (ad 0)] w (CK g ad t ["java/util/NoSuchElementException"]) 10 300 := by
  exact (Q_Ip_worst hI).mono (by decide) (by decide) (fun o w1 h => ⟨h.1.sub (by simp), _, h.2⟩)
theorem K_Ip_minutes {g : zG} {ad : Nat → Nat} {t : zTT} {u : zNN} {w : zW} (hI : IV g ad t u w) (x : Int32) : zMB g M_Ip_minutes [.ref (ad 0), .int x] w (CK g ad t ["java/lang/IllegalArgumentException"]) 10 300 := by
  by_cases hw : 1 ≤ x ∧ x ≤ 60
  · obtain ⟨a9, ha9, e9⟩ := z_in20 (b := 60) (by decide) ⟨Int32.le_trans (by decide) hw.1, hw.2⟩
    subst e9
    exact (Q_Ip_minutesN hI a9 ha9 hw).mono (by decide) (by decide) (fun o w1 h => ⟨h.1.sub (by simp), _, h.2⟩)
  · exact (Q_Ip_minutesE hI x hw).mono (by decide) (by decide) (fun o w1 h => ⟨h.1.sub (by simp), _, h.2⟩)
theorem K_Ip_cell {g : zG} {ad : Nat → Nat} {t : zTT} {u : zNN} {w : zW} (hI : IV g ad t u w) (x : Int32) (y : Int32) : zMB g M_Ip_cell [.ref (ad 0), .int x, .int y] w (CK g ad t ["java/lang/IndexOutOfBoundsException"]) 10 300 := by
  by_cases h : 0 ≤ x ∧ x < 12 ∧ 0 ≤ y ∧ y < 9
  · obtain ⟨x0, y0, hx0, hy0, rfl, rfl, hz⟩ := z_cl_in h
    exact (Q_Ip_cellN hI (nI x0) (nI y0) _ hz).mono (by decide) (by decide) (fun o w1 h => ⟨zri.vl h.1, _, h.2⟩)
  · exact (Q_Ip_cellE hI x y (if_neg h)).mono (by decide) (by decide) (fun o w1 h => ⟨zri.th h.1 (by simp), _, h.2⟩)
theorem K_Mm_cell {g : zG} {ad : Nat → Nat} {t : zTT} {u : zNN} {w : zW} (hI : IV g ad t u w) (x : Int32) (y : Int32) : zMB g M_Mm_cell [.ref (ad 52), .int x, .int y] w (MK g ad t) 10 300 := by
  by_cases h : 0 ≤ x ∧ x < 12 ∧ 0 ≤ y ∧ y < 9
  · obtain ⟨x0, y0, hx0, hy0, rfl, rfl, -⟩ := z_cl_in h
    exact (Q_Mm_cellN hI x0 y0 hx0 hy0).mono (by decide) (by decide) (fun o w1 h => ⟨⟨_, h.1.1⟩, _, h.2⟩)
  · exact (Q_Mm_cellE hI x y (if_neg h)).mono (by decide) (by decide) (fun o w1 h => ⟨h.1.1, _, h.2⟩)
theorem K_Mm_undercut {g : zG} {ad : Nat → Nat} {t : zTT} {u : zNN} {w : zW} (hI : IV g ad t u w) : zMB g M_Mm_undercut [.ref (ad 52)] w (MK g ad t) 10 300 := by
  exact (Q_Mm_undercut hI).mono (by decide) (by decide) (fun o w1 h => ⟨⟨_, h.1⟩, _, h.2⟩)
theorem K_Mm_weight {g : zG} {ad : Nat → Nat} {t : zTT} {u : zNN} {w : zW} (hI : IV g ad t u w) : zMB g M_Mm_weight [.ref (ad 52)] w (MK g ad t) 10 300 := by
  exact (Q_Mm_weight hI).mono (by decide) (by decide) (fun o w1 h => ⟨⟨_, h.1⟩, _, h.2⟩)
theorem K_Mm_isSound {g : zG} {ad : Nat → Nat} {t : zTT} {u : zNN} {w : zW} (hI : IV g ad t u w) : zMB g M_Mm_isSound [.ref (ad 52)] w (MK g ad t) 10 300 := by
  exact (Q_Mm_isSound hI).mono (by decide) (by decide) (fun o w1 h => ⟨⟨_, h.1⟩, _, h.2⟩)
theorem K_Mm_cores {g : zG} {ad : Nat → Nat} {t : zTT} {u : zNN} {w : zW} (hI : IV g ad t u w) : zMB g M_Mm_cores [.ref (ad 52)] w (MK g ad t) 10 300 := by
  exact (Q_Mm_cores hI).mono (by decide) (by decide) (fun o w1 h => ⟨h.1, _, h.2⟩)
theorem K_Mm_loose {g : zG} {ad : Nat → Nat} {t : zTT} {u : zNN} {w : zW} (hI : IV g ad t u w) : zMB g M_Mm_loose [.ref (ad 52)] w (MK g ad t) 10 300 := by
  exact (Q_Mm_loose hI).mono (by decide) (by decide) (fun o w1 h => ⟨h.1, _, h.2⟩)
theorem K_Mm_speed {g : zG} {ad : Nat → Nat} {t : zTT} {u : zNN} {w : zW} (hI : IV g ad t u w) : zMB g M_Mm_speed [.ref (ad 52)] w (MK g ad t) 10 300 := by
  exact (Q_Mm_speed hI).mono (by decide) (by decide) (fun o w1 h => ⟨h.1, _, h.2⟩)
theorem K_Mm_pig {g : zG} {ad : Nat → Nat} {t : zTT} {u : zNN} {w : zW} (hI : IV g ad t u w) : zMB g M_Mm_pig [.ref (ad 52)] w (MK g ad t) 10 300 := by
  exact (Q_Mm_pig hI).mono (by decide) (by decide) (fun o w1 h => ⟨h.1, _, h.2⟩)
theorem K_Mm_castings {g : zG} {ad : Nat → Nat} {t : zTT} {u : zNN} {w : zW} (hI : IV g ad t u w) : zMB g M_Mm_castings [.ref (ad 52)] w (MK g ad t) 10 300 := by
  exact (Q_Mm_castings hI).mono (by decide) (by decide) (fun o w1 h => ⟨h.1, _, h.2⟩)
theorem K_Mm_goodCores {g : zG} {ad : Nat → Nat} {t : zTT} {u : zNN} {w : zW} (hI : IV g ad t u w) : zMB g M_Mm_goodCores [.ref (ad 52)] w (MK g ad t) 10 300 := by
  exact (Q_Mm_goodCores hI).mono (by decide) (by decide) (fun o w1 h => ⟨h.1, _, h.2⟩)
theorem K_Mm_worst {g : zG} {ad : Nat → Nat} {t : zTT} {u : zNN} {w : zW} (hI : IV g ad t u w) : zMB g M_Mm_worst [.ref (ad 52)] w (MK g ad t) 10 300 := by
  exact (Q_Mm_worst hI).mono (by decide) (by decide) (fun o w1 h => ⟨h.1, _, h.2⟩)
theorem K_Mm_filledIn {g : zG} {ad : Nat → Nat} {t : zTT} {u : zNN} {w : zW} (hI : IV g ad t u w) (x : Int32) (y : Int32) : zMB g M_Mm_filledIn [.ref (ad 52), .int x, .int y] w (MK g ad t) 10 300 := by
  exact (Q_Mm_filledIn hI x y).mono (by decide) (by decide) (fun o w1 h => ⟨h.1, _, h.2⟩)
theorem K_Mm_frozenIn {g : zG} {ad : Nat → Nat} {t : zTT} {u : zNN} {w : zW} (hI : IV g ad t u w) (x : Int32) (y : Int32) (h : Int32) : zMB g M_Mm_frozenIn [.ref (ad 52), .int x, .int y, .int h] w (MK g ad t) 10 300 := by
  exact (Q_Mm_frozenIn hI x y h).mono (by decide) (by decide) (fun o w1 h => ⟨h.1, _, h.2⟩)
theorem K_Mm_isFed {g : zG} {ad : Nat → Nat} {t : zTT} {u : zNN} {w : zW} (hI : IV g ad t u w) (x : Int32) (y : Int32) (h : Int32) : zMB g M_Mm_isFed [.ref (ad 52), .int x, .int y, .int h] w (MK g ad t) 10 300 := by
  exact (Q_Mm_isFed hI x y h).mono (by decide) (by decide) (fun o w1 h => ⟨h.1, _, h.2⟩)
theorem K_Mm_heatAt {g : zG} {ad : Nat → Nat} {t : zTT} {u : zNN} {w : zW} (hI : IV g ad t u w) (x : Int32) (y : Int32) (h : Int32) (s : Int32) : zMB g M_Mm_heatAt [.ref (ad 52), .int x, .int y, .int h, .int s] w (MK g ad t) 10 300 := by
  exact (Q_Mm_heatAt hI x y h s).mono (by decide) (by decide) (fun o w1 h => ⟨h.1, _, h.2⟩)
theorem K_Mm_shrunk {g : zG} {ad : Nat → Nat} {t : zTT} {u : zNN} {w : zW} (hI : IV g ad t u w) (h : Int32) : zMB g M_Mm_shrunk [.ref (ad 52), .int h] w (MK g ad t) 10 300 := by
  exact (Q_Mm_shrunk hI h).mono (by decide) (by decide) (fun o w1 h => ⟨h.1, _, h.2⟩)
theorem K_Mm_shrunkAnew {g : zG} {ad : Nat → Nat} {t : zTT} {u : zNN} {w : zW} (hI : IV g ad t u w) (h : Int32) : zMB g M_Mm_shrunkAnew [.ref (ad 52), .int h] w (MK g ad t) 10 300 := by
  exact (Q_Mm_shrunkAnew hI h).mono (by decide) (by decide) (fun o w1 h => ⟨h.1, _, h.2⟩)
theorem K_Mm_lastPlace {g : zG} {ad : Nat → Nat} {t : zTT} {u : zNN} {w : zW} (hI : IV g ad t u w) (h : Int32) : zMB g M_Mm_lastPlace [.ref (ad 52), .int h] w (MK g ad t) 10 300 := by
  exact (Q_Mm_lastPlace hI h).mono (by decide) (by decide) (fun o w1 h => ⟨h.1, _, h.2⟩)
theorem K_Mm_bestFeeder {g : zG} {ad : Nat → Nat} {t : zTT} {u : zNN} {w : zW} (hI : IV g ad t u w) (h : Int32) : zMB g M_Mm_bestFeeder [.ref (ad 52), .int h] w (MK g ad t) 10 300 := by
  exact (Q_Mm_bestFeeder hI h).mono (by decide) (by decide) (fun o w1 h => ⟨h.1, _, h.2⟩)
theorem K_Mm_mill {g : zG} {ad : Nat → Nat} {t : zTT} {u : zNN} {w : zW} (hI : IV g ad t u w) (x1 : Int32) (x2 : Int32) (x3 : Int32) (x4 : Int32) : zMB g M_Mm_mill [.ref (ad 52), .int x1, .int x2, .int x3, .int x4] w (MK g ad t) 10 300 := by
  exact (Q_Mm_mill hI x1 x2 x3 x4).mono (by decide) (by decide) (fun o w1 h => ⟨h.1, _, h.2⟩)
theorem K_Mm_sand {g : zG} {ad : Nat → Nat} {t : zTT} {u : zNN} {w : zW} (hI : IV g ad t u w) (c : Int32) : zMB g M_Mm_sand [.ref (ad 52), .int c] w (MK g ad t) 10 300 := by
  exact (Q_Mm_sand hI c).mono (by decide) (by decide) (fun o w1 h => ⟨h.1, _, h.2⟩)
theorem K_Mm_charge {g : zG} {ad : Nat → Nat} {t : zTT} {u : zNN} {w : zW} (hI : IV g ad t u w) (k : Int32) (x : Int32) : zMB g M_Mm_charge [.ref (ad 52), .int k, .int x] w (MK g ad t) 10 300 := by
  exact (Q_Mm_charge hI k x).mono (by decide) (by decide) (fun o w1 h => ⟨h.1, _, h.2⟩)
theorem K_Mm_furnace {g : zG} {ad : Nat → Nat} {t : zTT} {u : zNN} {w : zW} (hI : IV g ad t u w) (k : Int32) : zMB g M_Mm_furnace [.ref (ad 52), .int k] w (MK g ad t) 10 300 := by
  exact (Q_Mm_furnace hI k).mono (by decide) (by decide) (fun o w1 h => ⟨h.1, _, h.2⟩)
theorem K_Mm_hold {g : zG} {ad : Nat → Nat} {t : zTT} {u : zNN} {w : zW} (hI : IV g ad t u w) (x : Int32) : zMB g M_Mm_hold [.ref (ad 52), .int x] w (MK g ad t) 10 300 := by
  exact (Q_Mm_hold hI x).mono (by decide) (by decide) (fun o w1 h => ⟨h.1, _, h.2⟩)
theorem K_Mm_tap {g : zG} {ad : Nat → Nat} {t : zTT} {u : zNN} {w : zW} (hI : IV g ad t u w) (x : Int32) : zMB g M_Mm_tap [.ref (ad 52), .int x] w (MK g ad t) 10 300 := by
  exact (Q_Mm_tap hI x).mono (by decide) (by decide) (fun o w1 h => ⟨h.1, _, h.2⟩)
theorem K_Mm_treat {g : zG} {ad : Nat → Nat} {t : zTT} {u : zNN} {w : zW} (hI : IV g ad t u w) (x : Int32) : zMB g M_Mm_treat [.ref (ad 52), .int x] w (MK g ad t) 10 300 := by
  exact (Q_Mm_treat hI x).mono (by decide) (by decide) (fun o w1 h => ⟨h.1, _, h.2⟩)
theorem K_Mm_ladle {g : zG} {ad : Nat → Nat} {t : zTT} {u : zNN} {w : zW} (hI : IV g ad t u w) (c : Int32) : zMB g M_Mm_ladle [.ref (ad 52), .int c] w (MK g ad t) 10 300 := by
  exact (Q_Mm_ladle hI c).mono (by decide) (by decide) (fun o w1 h => ⟨h.1, _, h.2⟩)
theorem K_Mm_pool {g : zG} {ad : Nat → Nat} {t : zTT} {u : zNN} {w : zW} (hI : IV g ad t u w) (k : Int32) : zMB g M_Mm_pool [.ref (ad 52), .int k] w (MK g ad t) 10 300 := by
  exact (Q_Mm_pool hI k).mono (by decide) (by decide) (fun o w1 h => ⟨h.1, _, h.2⟩)
theorem K_Mm_poolHas {g : zG} {ad : Nat → Nat} {t : zTT} {u : zNN} {w : zW} (hI : IV g ad t u w) (k : Int32) (x : Int32) : zMB g M_Mm_poolHas [.ref (ad 52), .int k, .int x] w (MK g ad t) 10 300 := by
  exact (Q_Mm_poolHas hI k x).mono (by decide) (by decide) (fun o w1 h => ⟨h.1, _, h.2⟩)
theorem K_Mm_alloy {g : zG} {ad : Nat → Nat} {t : zTT} {u : zNN} {w : zW} (hI : IV g ad t u w) (x : Int32) : zMB g M_Mm_alloy [.ref (ad 52), .int x] w (MK g ad t) 10 300 := by
  by_cases hx : ∃ k, k < u.1 5 ∧ x = nI k
  · obtain ⟨k, hk, rfl⟩ := hx
    exact (Q_Mm_alloyN hI k hk).mono (by decide) (by decide) (fun o w1 h => ⟨h.1, _, h.2⟩)
  · exact (Q_Mm_alloyE hI x hx).mono (by decide) (by decide) (fun o w1 h => ⟨h.1, _, h.2⟩)
theorem K_Mm_faults {g : zG} {ad : Nat → Nat} {t : zTT} {u : zNN} {w : zW} (hI : IV g ad t u w) (x : Int32) : zMB g M_Mm_faults [.ref (ad 52), .int x] w (MK g ad t) 10 300 := by
  by_cases hx : ∃ k, k < u.1 5 ∧ x = nI k
  · obtain ⟨k, hk, rfl⟩ := hx
    exact (Q_Mm_faultsN hI k hk).mono (by decide) (by decide) (fun o w1 h => ⟨h.1, _, h.2⟩)
  · exact (Q_Mm_faultsE hI x hx).mono (by decide) (by decide) (fun o w1 h => ⟨h.1, _, h.2⟩)
theorem K_Mm_shrunkIn {g : zG} {ad : Nat → Nat} {t : zTT} {u : zNN} {w : zW} (hI : IV g ad t u w) (x : Int32) : zMB g M_Mm_shrunkIn [.ref (ad 52), .int x] w (MK g ad t) 10 300 := by
  by_cases hx : ∃ k, k < u.1 5 ∧ x = nI k
  · obtain ⟨k, hk, rfl⟩ := hx
    exact (Q_Mm_shrunkInN hI k hk).mono (by decide) (by decide) (fun o w1 h => ⟨h.1, _, h.2⟩)
  · exact (Q_Mm_shrunkInE hI x hx).mono (by decide) (by decide) (fun o w1 h => ⟨h.1, _, h.2⟩)
theorem K_Mm_bar {g : zG} {ad : Nat → Nat} {t : zTT} {u : zNN} {w : zW} (hI : IV g ad t u w) (x : Int32) : zMB g M_Mm_bar [.ref (ad 52), .int x] w (MK g ad t) 10 300 := by
  by_cases hx : ∃ k, k < u.1 5 ∧ x = nI k
  · obtain ⟨k, hk, rfl⟩ := hx
    exact (Q_Mm_barN hI k hk).mono (by decide) (by decide) (fun o w1 h => ⟨h.1, _, h.2⟩)
  · exact (Q_Mm_barE hI x hx).mono (by decide) (by decide) (fun o w1 h => ⟨h.1, _, h.2⟩)
theorem K_Mm_weld {g : zG} {ad : Nat → Nat} {t : zTT} {u : zNN} {w : zW} (hI : IV g ad t u w) (x : Int32) : zMB g M_Mm_weld [.ref (ad 52), .int x] w (MK g ad t) 10 300 := by
  by_cases hx : ∃ k, k < u.1 5 ∧ x = nI k
  · obtain ⟨k, hk, rfl⟩ := hx
    exact (Q_Mm_weldN hI k hk).mono (by decide) (by decide) (fun o w1 h => ⟨h.1, _, h.2⟩)
  · exact (Q_Mm_weldE hI x hx).mono (by decide) (by decide) (fun o w1 h => ⟨h.1, _, h.2⟩)
theorem K_Mm_deliver {g : zG} {ad : Nat → Nat} {t : zTT} {u : zNN} {w : zW} (hI : IV g ad t u w) (x : Int32) : zMB g M_Mm_deliver [.ref (ad 52), .int x] w (MK g ad t) 10 300 := by
  by_cases hx : ∃ k, k < u.1 5 ∧ x = nI k
  · obtain ⟨k, hk, rfl⟩ := hx
    exact (Q_Mm_deliverN hI k hk).mono (by decide) (by decide) (fun o w1 h => ⟨h.1, _, h.2⟩)
  · exact (Q_Mm_deliverE hI x hx).mono (by decide) (by decide) (fun o w1 h => ⟨h.1, _, h.2⟩)
theorem K_Mm_breakUp {g : zG} {ad : Nat → Nat} {t : zTT} {u : zNN} {w : zW} (hI : IV g ad t u w) (x : Int32) : zMB g M_Mm_breakUp [.ref (ad 52), .int x] w (MK g ad t) 10 300 := by
  by_cases hx : ∃ k, k < u.1 5 ∧ x = nI k
  · obtain ⟨k, hk, rfl⟩ := hx
    exact (Q_Mm_breakUpN hI k hk).mono (by decide) (by decide) (fun o w1 h => ⟨h.1, _, h.2⟩)
  · exact (Q_Mm_breakUpE hI x hx).mono (by decide) (by decide) (fun o w1 h => ⟨h.1, _, h.2⟩)
theorem K_Mm_has {g : zG} {ad : Nat → Nat} {t : zTT} {u : zNN} {w : zW} (hI : IV g ad t u w) (x : Int32) (c : Int32) : zMB g M_Mm_has_1 [.ref (ad 52), .int x, .int c] w (MK g ad t) 10 300 := by
  by_cases hx : ∃ k, k < u.1 5 ∧ x = nI k
  · obtain ⟨k, hk, rfl⟩ := hx
    exact (Q_Mm_hasN hI k hk c).mono (by decide) (by decide) (fun o w1 h => ⟨h.1, _, h.2⟩)
  · exact (Q_Mm_hasE hI x hx c).mono (by decide) (by decide) (fun o w1 h => ⟨h.1, _, h.2⟩)
theorem K_Mm_waiting {g : zG} {ad : Nat → Nat} {t : zTT} {u : zNN} {w : zW} (hI : IV g ad t u w) (x : Int32) : zMB g M_Mm_waiting [.ref (ad 52), .int x] w (MK g ad t) 10 300 := by
  by_cases hx : ∃ k, k < u.1 3 ∧ x = nI k
  · obtain ⟨k, hk, rfl⟩ := hx
    exact (Q_Mm_waitingN hI k hk).mono (by decide) (by decide) (fun o w1 h => ⟨h.1, _, h.2⟩)
  · exact (Q_Mm_waitingE hI x hx).mono (by decide) (by decide) (fun o w1 h => ⟨h.1, _, h.2⟩)
theorem K_Mm_hours {g : zG} {ad : Nat → Nat} {t : zTT} {u : zNN} {w : zW} (hI : IV g ad t u w) (h : Int32) : zMB g M_Mm_hours [.ref (ad 52), .int h] w (MK g ad t) 10 300 := by
  by_cases hw : 1 ≤ h ∧ h ≤ 48
  · exact (Q_Mm_hoursN hI h hw).mono (by decide) (by decide) (fun o w1 h => ⟨h.1, h.2⟩)
  · exact (Q_Mm_hoursE hI h hw).mono (by decide) (by decide) (fun o w1 h => ⟨h.1, h.2⟩)
theorem K_Mm_makeCores {g : zG} {ad : Nat → Nat} {t : zTT} {u : zNN} {w : zW} (hI : IV g ad t u w) (c : Int32) (k : Int32) : zMB g M_Mm_makeCores [.ref (ad 52), .int c, .int k] w (MK g ad t) 10 300 := by
  by_cases hw : (1 ≤ c ∧ c ≤ 10) ∧ (1 ≤ k ∧ k ≤ 24)
  · exact (Q_Mm_makeCoresN hI c k hw).mono (by decide) (by decide) (fun o w1 h => ⟨h.1, h.2⟩)
  · exact (Q_Mm_makeCoresE hI c k hw).mono (by decide) (by decide) (fun o w1 h => ⟨h.1, h.2⟩)
theorem K_Mm_minutes {g : zG} {ad : Nat → Nat} {t : zTT} {u : zNN} {w : zW} (hI : IV g ad t u w) (x : Int32) : zMB g M_Mm_minutes [.ref (ad 52), .int x] w (MK g ad t) 10 300 := by
  by_cases hw : 1 ≤ x ∧ x ≤ 60
  · obtain ⟨a9, ha9, e9⟩ := z_in20 (b := 60) (by decide) ⟨Int32.le_trans (by decide) hw.1, hw.2⟩
    subst e9
    exact (Q_Mm_minutesN hI a9 ha9 hw).mono (by decide) (by decide) (fun o w1 h => ⟨h.1, _, h.2⟩)
  · exact (Q_Mm_minutesE hI x hw).mono (by decide) (by decide) (fun o w1 h => ⟨h.1, _, h.2⟩)
theorem K_Mm_mould {g : zG} {ad : Nat → Nat} {t : zTT} {u : zNN} {w : zW} (hI : IV g ad t u w) : zMB g M_Mm_mould [.ref (ad 52)] w (MK g ad t) 10 300 := by
  exact (Q_Mm_mould hI).mono (by decide) (by decide) (fun o w1 h => ⟨h.1, h.2⟩)
theorem K_Mm_pour {g : zG} {ad : Nat → Nat} {t : zTT} {u : zNN} {w : zW} (hI : IV g ad t u w) : zMB g M_Mm_pour [.ref (ad 52)] w (MK g ad t) 10 300 := by
  by_cases h0 : u.1 3 = 0
  · exact (Q_Mm_pourE hI h0).mono (by decide) (by decide) (fun o w1 h => ⟨h.1, h.2⟩)
  · exact (Q_Mm_pourN hI h0).mono (by decide) (by decide) (fun o w1 h => ⟨h.1, h.2⟩)
