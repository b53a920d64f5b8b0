def Zv (fi fr : Nat → Int32) : Prop := ∀ k, k < 108 → (fi k < 0 → fr k = -1) ∧ (¬ fi k < 0 → 1 ≤ fr k)
theorem Zv.b {fi : Nat → Int32} {c : Nat} {nx st : Int32} {s : zS4} (hst : 1 ≤ st) (h : Zv fi s.2.2.1) : Zv fi (bhS c nx st s).2.2.1 := by
  by_cases q : ¬ s.2.2.1 c = 401 ∨ ¬ nx < 1150
  · rw [bhS_t q]
    exact h
  · rw [bhS_f q]
    show Zv fi (if 0 < s.2.1 c - (1150 - nx) then s.2.2 else (upd s.2.2.1 c st, s.2.2.2 - 1)).1
    by_cases z : 0 < s.2.1 c - (1150 - nx)
    · rw [if_pos z]
      exact h
    · rw [if_neg z]
      show Zv fi (upd s.2.2.1 c st)
      have e : s.2.2.1 c = 401 := Classical.byContradiction (fun y => q (Or.inl y))
      intro k hk
      by_cases x : k = c
      · rw [x, ux_eq]
        refine ⟨fun y => ?_, fun _ => hst⟩
        have k2 := (h c (x ▸ hk)).1 y
        rw [e] at k2
        exact absurd k2 (by decide)
      · rw [ux_ne x]
        exact h k hk
theorem stS_s {gn : Nat → Int32} {st : Int32} {s : zS4} {i : Nat} : stS gn st s (i + 1) = bhS i ((stS gn st s i).1 i + gn i) st (stS gn st s i) := rfl
theorem Zv.st {fi gn : Nat → Int32} {st : Int32} {s : zS4} (hst : 1 ≤ st) (h : Zv fi s.2.2.1) : ∀ i, Zv fi (stS gn st s i).2.2.1 := fun i => by
  induction i with
  | zero => exact h
  | succ i ih =>
    rw [stS_s]
    exact ih.b hst
theorem Zv.p {fi F5 F6 : Nat → Int32} {Q : zS5} (h : Zv fi Q.1.2.2.1) : ∀ T, T ≤ 400 → Zv fi (pzS F5 F6 Q T).1.2.2.1 := fun T => by
  induction T with
  | zero => exact fun _ => h
  | succ T ih =>
    intro hT
    by_cases q : 0 < (pzS F5 F6 Q T).1.2.2.2
    · rw [pz_n q, psT_1]
      exact (ih (by omega)).st (show nI 1 ≤ nI (T + 1) from (nI_leI (by omega) (by omega)).mpr (by omega)) 108
    · rw [pz_stop q 1]
      exact ih (by omega)
def Zb (fi fr : Nat → Int32) (n : Nat) : Prop := ∀ k, k < n → (fi k < 0 → fr k = -1) ∧ (¬ fi k < 0 → fr k = 401)
theorem hwf_ok {h : Int32} {j : Nat} (h1 : 1250 ≤ h) (h2 : h < 1450) (hj : j ≤ 107) : 0 < (300 : Int32) - (1150 - z_hwf h (nI j)) := by
  have a1 := (fa_le 1250 h).mp h1
  have a2 := (fa_lt h 1450).mp h2
  rw [show (1250 : Int32).toInt = 1250 from rfl] at a1
  rw [show (1450 : Int32).toInt = 1450 from rfl] at a2
  have e0 : (nI (2 * j)).toInt = ((2 * j : Nat) : Int) := nI_toInt (by omega)
  have e : z_hwf h (nI j) = h - nI (2 * j) := by
    unfold z_hwf
    rw [show (2 : Int32) * nI j = nI (2 * j) from pk_mul 2 j]
  have s1 : (h - nI (2 * j)).toInt = h.toInt - ((2 * j : Nat) : Int) := by rw [fb_subI (by rw [e0]; omega) (by rw [e0]; omega), e0]
  have c1 : (1150 : Int32).toInt = 1150 := rfl
  have c2 : (300 : Int32).toInt = 300 := rfl
  have c0 : (0 : Int32).toInt = 0 := rfl
  have s2 : (1150 - (h - nI (2 * j))).toInt = 1150 - (h.toInt - ((2 * j : Nat) : Int)) := by rw [fb_subI (by rw [s1, c1]; omega) (by rw [s1, c1]; omega), s1, c1]
  have s3 : (300 - (1150 - (h - nI (2 * j)))).toInt = 300 - (1150 - (h.toInt - ((2 * j : Nat) : Int))) := by rw [fb_subI (by rw [s2, c2]; omega) (by rw [s2, c2]; omega), s2, c2]
  rw [e, fa_lt, s3, c0]
  omega
theorem Zb.x {fi : Nat → Int32} {h : Int32} {i : Nat} {s : zS4} (hi : ¬ fi i < 0 → ∃ j, j ≤ 107 ∧ fi i = nI j) (h1 : 1250 ≤ h) (h2 : h < 1450) (k : Zb fi s.2.2.1 i) : Zb fi (bgX fi h i s).2.2.1 (i + 1) := by
  unfold bgX
  by_cases q : fi i < 0
  · rw [if_pos q]
    show Zb fi (upd s.2.2.1 i (-1)) (i + 1)
    intro m hm
    by_cases e : m = i
    · rw [e, ux_eq]
      exact ⟨fun _ => rfl, fun z => absurd q z⟩
    · rw [ux_ne e]
      exact k m (by omega)
  · rw [if_neg q]
    obtain ⟨j, hj, ej⟩ := hi q
    have hb : (bhS i (z_hwf h (fi i)) 0 (s.1, upd s.2.1 i 300, upd s.2.2.1 i 401, s.2.2.2 + 1)).2.2.1 = upd s.2.2.1 i 401 := by
      by_cases y : ¬ (upd s.2.2.1 i 401) i = 401 ∨ ¬ z_hwf h (fi i) < 1150
      · exact congrArg (fun z : zS4 => z.2.2.1) (bhS_t (s := (s.1, upd s.2.1 i 300, upd s.2.2.1 i 401, s.2.2.2 + 1)) y)
      · refine (congrArg (fun z : zS4 => z.2.2.1) (bhS_f (st := 0) (s := (s.1, upd s.2.1 i 300, upd s.2.2.1 i 401, s.2.2.2 + 1)) y)).trans ?_
        show (if 0 < upd s.2.1 i 300 i - (1150 - z_hwf h (fi i)) then (upd s.2.2.1 i 401, s.2.2.2 + 1) else (upd (upd s.2.2.1 i 401) i 0, s.2.2.2 + 1 - 1)).1 = upd s.2.2.1 i 401
        rw [if_pos (by rw [ux_eq, ej]; exact hwf_ok h1 h2 hj)]
    rw [hb]
    intro m hm
    by_cases e : m = i
    · rw [e, ux_eq]
      exact ⟨fun z => absurd z q, fun _ => rfl⟩
    · rw [ux_ne e]
      exact k m (by omega)
theorem Zb.g {ce fi : Nat → Int32} {h : Int32} {s : zS4} (hf : ∀ k, k < 108 → ¬ fi k < 0 → ∃ j, j ≤ 107 ∧ fi k = nI j) (h1 : 1250 ≤ h) (h2 : h < 1450) : ∀ i, i ≤ 108 → Zb fi (bgS ce fi h s i).2.2.1 i := fun i => by
  induction i with
  | zero => exact fun _ k hk => absurd hk (Nat.not_lt_zero k)
  | succ i ih =>
    intro hi
    rw [bgS_s]
    exact Zb.x (hf i (by omega)) h1 h2 (ih (by omega))
theorem bgQ_1 {ce fi F1 F2 F3 F4 : Nat → Int32} {h l : Int32} : (bgQ ce fi h F1 F2 F3 F4 l).1 = bgS ce fi h (F1, F3, F4, l) 108 := by simp only [bgQ]
set_option maxRecDepth 100000 in
theorem frO_ok {P : Nat → Int32} {h : Int32} (hf : ∀ k, k < 108 → ¬ fiO P k < 0 → ∃ j, j ≤ 107 ∧ fiO P k = nI j) (h1 : 1250 ≤ h) (h2 : h < 1450) : Zv (fiO P) (frO P h) := by
  rw [frO]
  refine Zv.p (Q := bgQ P (fiO P) h (fun _ => 0) (fun _ => 0) (fun _ => 0) (fun _ => 0) 0) ?_ 400 (Nat.le_refl _)
  rw [bgQ_1]
  exact fun k hk => ⟨(Zb.g hf h1 h2 108 (Nat.le_refl _) k hk).1, fun z => by rw [(Zb.g hf h1 h2 108 (Nat.le_refl _) k hk).2 z]; decide⟩
def fdC (ce fed : Nat → Int32) : Nat := fa_cnt (fun k => decide (ce k = 99 ∧ ¬ fed k = 0)) 108
def fdR (ce fi : Nat → Int32) (i : Nat) : Nat := fa_cnt (fun k => decide (ce k = 114 ∧ ¬ fi k < 0)) i
def FDv (ce fi fr : Nat → Int32) (R : Nat) (S : zD) : Prop := (∀ k, k < 108 → S.1 k = 0 ∨ S.1 k = 1) ∧ (∀ k, k < 108 → ¬ S.1 k = 0 → ¬ fi k < 0) ∧ (∀ k, k < 108 → ce k = 114 → ¬ fi k < 0 → ¬ S.1 k = 0) ∧ (∀ k, k < 108 → ¬ S.1 k = 0 → ce k = 114 ∨ ∃ s, s < 4 ∧ ∃ o, bs k s = some o ∧ ¬ S.1 o = 0 ∧ ¬ fr o < fr k) ∧ (∃ m, m + fdC ce S.1 = 10 * R ∧ S.2.2.2 = nI m) ∧ S.2.2.1 ≤ ctQ9 S.1 ∧ (∀ j, j < S.2.2.1 → S.2.1 j < 108 ∧ ¬ S.1 (S.2.1 j) = 0) ∧ ∀ x, x < 108 → ¬ S.1 x = 0 → ∃ j, j < S.2.2.1 ∧ S.2.1 j = x
def FAv (ce fi : Nat → Int32) (S : zD) (i : Nat) : Prop := (∀ k, k < i → (ce k = 114 ∧ ¬ fi k < 0 → S.1 k = 1) ∧ (¬ (ce k = 114 ∧ ¬ fi k < 0) → S.1 k = 0)) ∧ S.2.2.2 = nI (10 * fdR ce fi i) ∧ S.2.2.1 = fdR ce fi i ∧ (∀ j, j < S.2.2.1 → S.2.1 j < i ∧ ce (S.2.1 j) = 114 ∧ ¬ fi (S.2.1 j) < 0) ∧ ∀ x, x < i → ce x = 114 ∧ ¬ fi x < 0 → ∃ j, j < S.2.2.1 ∧ S.2.1 j = x
theorem FAv.s {ce fi : Nat → Int32} {S0 : zD} (h0 : S0.2.2.1 = 0) (hl : S0.2.2.2 = 0) : ∀ i, FAv ce fi (fdA ce fi S0 i) i
  | 0 => ⟨fun k hk => absurd hk (Nat.not_lt_zero k), hl, h0, fun j hj => absurd hj (by show ¬ j < S0.2.2.1; omega), fun x hx => absurd hx (Nat.not_lt_zero x)⟩
  | i + 1 => by
    obtain ⟨a, b, c, d, e⟩ := FAv.s (ce := ce) (fi := fi) h0 hl i
    by_cases q : ce i = 114 ∧ ¬ fi i < 0
    · have er : fdR ce fi (i + 1) = fdR ce fi i + 1 := fa_cnt_yes (p := fun k => decide (ce k = 114 ∧ ¬ fi k < 0)) (decide_eq_true q)
      rw [fdA_t q]
      refine ⟨fun k hk => ?_, ?_, ?_, fun j hj => ?_, fun x hx h1 => ?_⟩
      · show (ce k = 114 ∧ ¬ fi k < 0 → upd (fdA ce fi S0 i).1 i 1 k = 1) ∧ (¬ (ce k = 114 ∧ ¬ fi k < 0) → upd (fdA ce fi S0 i).1 i 1 k = 0)
        by_cases z : k = i
        · rw [z, ux_eq]
          exact ⟨fun _ => rfl, fun y => absurd q y⟩
        · rw [ux_ne z]
          exact a k (by omega)
      · show (fdA ce fi S0 i).2.2.2 + 10 = _
        rw [b, er, show (10 : Int32) = nI 10 from rfl, nI_add, show 10 * fdR ce fi i + 10 = 10 * (fdR ce fi i + 1) by omega]
      · show (fdA ce fi S0 i).2.2.1 + 1 = _
        rw [c, er]
      · have hj : j < (fdA ce fi S0 i).2.2.1 + 1 := hj
        show updN (fdA ce fi S0 i).2.1 (fdA ce fi S0 i).2.2.1 i j < i + 1 ∧ ce (updN (fdA ce fi S0 i).2.1 (fdA ce fi S0 i).2.2.1 i j) = 114 ∧ ¬ fi (updN (fdA ce fi S0 i).2.1 (fdA ce fi S0 i).2.2.1 i j) < 0
        by_cases z : j = (fdA ce fi S0 i).2.2.1
        · rw [z, uNx_eq]
          exact ⟨by omega, q⟩
        · rw [uNx_ne z]
          have h2 := d j (by omega)
          exact ⟨by omega, h2.2⟩
      · show ∃ j, j < (fdA ce fi S0 i).2.2.1 + 1 ∧ updN (fdA ce fi S0 i).2.1 (fdA ce fi S0 i).2.2.1 i j = x
        by_cases z : x = i
        · exact ⟨(fdA ce fi S0 i).2.2.1, by omega, by rw [uNx_eq, z]⟩
        · obtain ⟨j, h2, h3⟩ := e x (by omega) h1
          exact ⟨j, by omega, by rw [uNx_ne (by omega)]; exact h3⟩
    · have er : fdR ce fi (i + 1) = fdR ce fi i := fa_cnt_no (p := fun k => decide (ce k = 114 ∧ ¬ fi k < 0)) (decide_eq_false q)
      rw [fdA_f q]
      refine ⟨fun k hk => ?_, by rw [er]; exact b, by rw [er]; exact c, fun j hj => ?_, fun x hx h1 => ?_⟩
      · show (ce k = 114 ∧ ¬ fi k < 0 → upd (fdA ce fi S0 i).1 i 0 k = 1) ∧ (¬ (ce k = 114 ∧ ¬ fi k < 0) → upd (fdA ce fi S0 i).1 i 0 k = 0)
        by_cases z : k = i
        · rw [z, ux_eq]
          exact ⟨fun y => absurd y q, fun _ => rfl⟩
        · rw [ux_ne z]
          exact a k (by omega)
      · have h2 := d j hj
        exact ⟨by show (fdA ce fi S0 i).2.1 j < i + 1; omega, h2.2⟩
      · by_cases z : x = i
        · rw [z] at h1
          exact absurd h1 q
        · exact e x (by omega) h1
theorem FDv.of {ce fi fr : Nat → Int32} {S : zD} (h : FAv ce fi S 108) : FDv ce fi fr (fdR ce fi 108) S := by
  obtain ⟨a, b, c, d, e⟩ := h
  have key : ∀ k, k < 108 → ¬ S.1 k = 0 → ce k = 114 ∧ ¬ fi k < 0 := fun k hk h1 => Classical.byContradiction (fun z => h1 ((a k hk).2 z))
  have hC : fdC ce S.1 = 0 := cnt_none 108 (fun k hk => decide_eq_false (fun z => by
    have h2 := (key k hk z.2).1
    rw [z.1] at h2
    exact absurd h2 (by decide)))
  refine ⟨fun k hk => ?_, fun k hk h1 => (key k hk h1).2, fun k hk h1 h2 => ?_, fun k hk h1 => Or.inl (key k hk h1).1, ⟨10 * fdR ce fi 108, by rw [hC, Nat.add_zero], b⟩, ?_, fun j hj => ?_, fun x hx h1 => e x hx (key x hx h1)⟩
  · by_cases q : ce k = 114 ∧ ¬ fi k < 0
    · exact Or.inr ((a k hk).1 q)
    · exact Or.inl ((a k hk).2 q)
  · rw [(a k hk).1 ⟨h1, h2⟩]
    decide
  · rw [c]
    refine Nat.le_of_eq (fa_cnt_cong (fun k hk => ?_))
    by_cases q : ce k = 114 ∧ ¬ fi k < 0
    · rw [decide_eq_true q, (a k hk).1 q]
      decide
    · rw [decide_eq_false q, (a k hk).2 q]
      decide
  · obtain ⟨h1, h2⟩ := d j hj
    refine ⟨h1, ?_⟩
    rw [(a _ h1).1 h2]
    decide
def DM (S T : zD) : Prop := S.2.2.1 ≤ T.2.2.1 ∧ (∀ j, j < S.2.2.1 → T.2.1 j = S.2.1 j) ∧ (∀ x, ¬ S.1 x = 0 → ¬ T.1 x = 0) ∧ (S.2.2.2 = 0 → T.2.2.2 = 0)
theorem DM.rf (S : zD) : DM S S := ⟨Nat.le_refl _, fun _ _ => rfl, fun _ h => h, fun h => h⟩
theorem DM.tr {S T U : zD} (h : DM S T) (k : DM T U) : DM S U := ⟨Nat.le_trans h.1 k.1, fun j hj => (k.2.1 j (by have := h.1; omega)).trans (h.2.1 j hj), fun x hx => k.2.2.1 x (h.2.2.1 x hx), fun hx => k.2.2.2 (h.2.2.2 hx)⟩
theorem upd1_nz {f : Nat → Int32} {o x : Nat} (h : ¬ f x = 0) : ¬ upd f o 1 x = 0 := by
  by_cases e : x = o
  · rw [e, ux_eq]
    decide
  · rw [ux_ne e]
    exact h
theorem FDv.put {ce fi fr : Nat → Int32} {R o : Nat} {S : zD} {l : Int32} (h : FDv ce fi fr R S) (ho : o < 108) (h0 : S.1 o = 0) (hf : ¬ fi o < 0) (hn : ∃ s, s < 4 ∧ ∃ p, bs o s = some p ∧ ¬ S.1 p = 0 ∧ ¬ fr p < fr o) (hl : ∃ m, m + fdC ce (upd S.1 o 1) = 10 * R ∧ l = nI m) : FDv ce fi fr R (upd S.1 o 1, updN S.2.1 S.2.2.1 o, S.2.2.1 + 1, l) := by
  obtain ⟨a, b, c, d, e, f, g, i⟩ := h
  refine ⟨fun k hk => ?_, fun k hk h1 => ?_, fun k hk h1 h2 => upd1_nz (c k hk h1 h2), fun k hk h1 => ?_, hl, ?_, fun j hj => ?_, fun x hx h1 => ?_⟩
  · show upd S.1 o 1 k = 0 ∨ upd S.1 o 1 k = 1
    by_cases z : k = o
    · rw [z, ux_eq]
      exact Or.inr rfl
    · rw [ux_ne z]
      exact a k hk
  · have h1 : ¬ upd S.1 o 1 k = 0 := h1
    by_cases z : k = o
    · rw [z]
      exact hf
    · rw [ux_ne z] at h1
      exact b k hk h1
  · have h1 : ¬ upd S.1 o 1 k = 0 := h1
    show ce k = 114 ∨ ∃ s, s < 4 ∧ ∃ p, bs k s = some p ∧ ¬ upd S.1 o 1 p = 0 ∧ ¬ fr p < fr k
    by_cases z : k = o
    · rw [z]
      obtain ⟨s, h2, p, h3, h4, h5⟩ := hn
      exact Or.inr ⟨s, h2, p, h3, upd1_nz h4, h5⟩
    · rw [ux_ne z] at h1
      rcases d k hk h1 with h2 | ⟨s, h2, p, h3, h4, h5⟩
      · exact Or.inl h2
      · exact Or.inr ⟨s, h2, p, h3, upd1_nz h4, h5⟩
  · show S.2.2.1 + 1 ≤ ctQ9 (upd S.1 o 1)
    rw [ctQ9_up ho h0]
    omega
  · have hj : j < S.2.2.1 + 1 := hj
    show updN S.2.1 S.2.2.1 o j < 108 ∧ ¬ upd S.1 o 1 (updN S.2.1 S.2.2.1 o j) = 0
    by_cases z : j = S.2.2.1
    · rw [z, uNx_eq, ux_eq]
      exact ⟨ho, by decide⟩
    · rw [uNx_ne z]
      have h2 := g j (by omega)
      exact ⟨h2.1, upd1_nz h2.2⟩
  · have h1 : ¬ upd S.1 o 1 x = 0 := h1
    show ∃ j, j < S.2.2.1 + 1 ∧ updN S.2.1 S.2.2.1 o j = x
    by_cases z : x = o
    · exact ⟨S.2.2.1, by omega, by rw [uNx_eq, z]⟩
    · rw [ux_ne z] at h1
      obtain ⟨j, h2, h3⟩ := i x hx h1
      exact ⟨j, by omega, by rw [uNx_ne (by omega)]; exact h3⟩
theorem DM.put {S : zD} {o : Nat} {l : Int32} (hl : S.2.2.2 = 0 → l = 0) : DM S (upd S.1 o 1, updN S.2.1 S.2.2.1 o, S.2.2.1 + 1, l) := ⟨by show S.2.2.1 ≤ S.2.2.1 + 1; omega, fun j hj => by show updN S.2.1 S.2.2.1 o j = S.2.1 j; exact uNx_ne (by omega), fun x hx => upd1_nz hx, hl⟩
theorem FDv.J {ce fi fr : Nat → Int32} {R here o s : Nat} {S : zD} (h : FDv ce fi fr R S) (hh : here < 108) (hf : ¬ S.1 here = 0) (hs : s < 4) (hb : bs here s = some o) : FDv ce fi fr R (fdJ ce fi fr here o S) ∧ DM S (fdJ ce fi fr here o S) ∧ (¬ fi o < 0 → ¬ fr here < fr o → ¬ (fdJ ce fi fr here o S).1 o = 0 ∨ (ce o = 99 ∧ (fdJ ce fi fr here o S).2.2.2 = 0)) := by
  have ho := bs_lt hh hb
  by_cases c : cfB S.1 fi fr here o = true ∧ S.2.2.1 < 108
  · have c1 := of_decide_eq_true c.1
    have hn : ∃ s, s < 4 ∧ ∃ p, bs o s = some p ∧ ¬ S.1 p = 0 ∧ ¬ fr p < fr o := ⟨3 - s, by omega, here, bs_sym hh hs hb, hf, c1.2.2⟩
    obtain ⟨m, hm, el⟩ := h.2.2.2.2.1
    by_cases c2 : ce o = 99
    · by_cases c3 : S.2.2.2 = 0
      · rw [fdJ_1 c c2 c3]
        exact ⟨h, DM.rf S, fun _ _ => Or.inr ⟨c2, c3⟩⟩
      · rw [fdJ_2 c c2 c3]
        have hm1 : 1 ≤ m := Nat.pos_of_ne_zero (fun z => c3 (by rw [el, z]; rfl))
        have eC : fdC ce (upd S.1 o 1) = fdC ce S.1 + 1 := (cnt_set (p := fun k => decide (ce k = 99 ∧ ¬ S.1 k = 0)) (q := fun k => decide (ce k = 99 ∧ ¬ upd S.1 o 1 k = 0)) (o := o) (decide_eq_false (fun z => z.2 c1.1)) (decide_eq_true ⟨c2, by rw [ux_eq]; decide⟩) (fun k hk => by show decide (ce k = 99 ∧ ¬ S.1 k = 0) = decide (ce k = 99 ∧ ¬ upd S.1 o 1 k = 0); rw [ux_ne hk]) 108).2 ho
        refine ⟨h.put ho c1.1 c1.2.1 hn ⟨m - 1, by rw [eC]; omega, by rw [el, ← Int32.sub_eq_add_neg, nI_sub1 hm1]⟩, DM.put (fun z => absurd z c3), fun _ _ => Or.inl ?_⟩
        show ¬ upd S.1 o 1 o = 0
        rw [ux_eq]
        decide
    · rw [fdJ_3 c c2]
      have eC : fdC ce (upd S.1 o 1) = fdC ce S.1 := fa_cnt_cong (fun k hk => by
        by_cases z : k = o
        · rw [z, decide_eq_false (fun y => c2 y.1), decide_eq_false (fun y => c2 y.1)]
        · rw [ux_ne z])
      refine ⟨h.put ho c1.1 c1.2.1 hn ⟨m, by rw [eC]; exact hm, el⟩, DM.put (fun z => z), fun _ _ => Or.inl ?_⟩
      show ¬ upd S.1 o 1 o = 0
      rw [ux_eq]
      decide
  · rw [fdJ_0 c]
    refine ⟨h, DM.rf S, fun a b => Or.inl (fun z => c ⟨decide_eq_true ⟨z, a, b⟩, ?_⟩)⟩
    have h2 := cnt_lt9 (p := fun k => decide (¬ S.1 k = 0)) (o := o) (decide_eq_false (fun q => q z)) 108 ho
    have h3 : S.2.2.1 ≤ fa_cnt (fun k => decide (¬ S.1 k = 0)) 108 := h.2.2.2.2.2.1
    omega
theorem FDv.H {ce fi fr : Nat → Int32} {R here : Nat} {S : zD} (h : FDv ce fi fr R S) (hh : here < 108) (hf : ¬ S.1 here = 0) : ∀ n, n ≤ 4 → FDv ce fi fr R (fdH ce fi fr here S n) ∧ DM S (fdH ce fi fr here S n) ∧ ∀ s, s < n → ∀ o, bs here s = some o → ¬ fi o < 0 → ¬ fr here < fr o → ¬ (fdH ce fi fr here S n).1 o = 0 ∨ (ce o = 99 ∧ (fdH ce fi fr here S n).2.2.2 = 0)
  | 0, _ => ⟨h, DM.rf S, fun s hs => absurd hs (Nat.not_lt_zero s)⟩
  | n + 1, hn => by
    obtain ⟨a, b, c⟩ := FDv.H h hh hf n (by omega)
    show FDv ce fi fr R (fdI ce fi fr here n (fdH ce fi fr here S n)) ∧ DM S (fdI ce fi fr here n (fdH ce fi fr here S n)) ∧ ∀ s, s < n + 1 → ∀ o, bs here s = some o → ¬ fi o < 0 → ¬ fr here < fr o → ¬ (fdI ce fi fr here n (fdH ce fi fr here S n)).1 o = 0 ∨ (ce o = 99 ∧ (fdI ce fi fr here n (fdH ce fi fr here S n)).2.2.2 = 0)
    cases e : bs here n with
    | none =>
      rw [fdI_n e]
      refine ⟨a, b, fun s hs o h1 h2 h3 => ?_⟩
      by_cases z : s = n
      · rw [z, e] at h1
        cases h1
      · exact c s (by omega) o h1 h2 h3
    | some o9 =>
      rw [fdI_s e]
      obtain ⟨a2, b2, c2⟩ := a.J hh (b.2.2.1 here hf) (show n < 4 by omega) e
      refine ⟨a2, b.tr b2, fun s hs o h1 h2 h3 => ?_⟩
      by_cases z : s = n
      · rw [z, e] at h1
        obtain rfl := Option.some.inj h1
        exact c2 h2 h3
      · rcases c s (by omega) o h1 h2 h3 with h4 | h4
        · exact Or.inl (b2.2.2.1 o h4)
        · exact Or.inr ⟨h4.1, b2.2.2.2 h4.2⟩
def CLo (ce fi fr : Nat → Int32) (S : zD) (h : Nat) : Prop := ∀ j, j < h → j < S.2.2.1 → ∀ s, s < 4 → ∀ o, bs (S.2.1 j) s = some o → ¬ fi o < 0 → ¬ fr (S.2.1 j) < fr o → ¬ S.1 o = 0 ∨ (ce o = 99 ∧ S.2.2.2 = 0)
theorem FDv.B {ce fi fr : Nat → Int32} {R : Nat} {S : zD} (h : FDv ce fi fr R S) : ∀ n, FDv ce fi fr R (fdB ce fi fr S n) ∧ CLo ce fi fr (fdB ce fi fr S n) n
  | 0 => ⟨h, fun j hj => absurd hj (Nat.not_lt_zero j)⟩
  | n + 1 => by
    obtain ⟨a, b⟩ := FDv.B h n
    by_cases q : n < (fdB ce fi fr S n).2.2.1
    · rw [fdB_t q]
      have h2 := a.2.2.2.2.2.2.1 n q
      obtain ⟨a2, b2, c2⟩ := a.H h2.1 h2.2 4 (Nat.le_refl _)
      refine ⟨a2, fun j hj h1 s hs o h3 h4 h5 => ?_⟩
      by_cases z : j = n
      · rw [z, b2.2.1 n q] at h3 h5
        exact c2 s hs o h3 h4 h5
      · have hj2 : j < (fdB ce fi fr S n).2.2.1 := by omega
        rw [b2.2.1 j hj2] at h3 h5
        rcases b j (by omega) hj2 s hs o h3 h4 h5 with h6 | h6
        · exact Or.inl (b2.2.2.1 o h6)
        · exact Or.inr ⟨h6.1, b2.2.2.2 h6.2⟩
    · rw [fdB_stop q 1]
      exact ⟨a, fun j hj h1 => b j (by omega) h1⟩
def fdF (ce fi : Nat → Int32) : Nat := fa_cnt (fun k => decide (ce k = 99 ∧ ¬ fi k < 0)) 108
theorem cnt_mono {p q : Nat → Bool} : ∀ n, (∀ k, k < n → p k = true → q k = true) → fa_cnt p n ≤ fa_cnt q n
  | 0, _ => Nat.le_refl _
  | n + 1, h => by
    have ih := cnt_mono n (fun k hk => h k (by omega))
    cases e : p n with
    | true => rw [fa_cnt_yes e, fa_cnt_yes (h n (by omega) e)]; omega
    | false =>
      rw [fa_cnt_no e]
      cases e2 : q n with
      | true => rw [fa_cnt_yes e2]; omega
      | false => rw [fa_cnt_no e2]; exact ih
theorem cnt_full {p q : Nat → Bool} : ∀ n, (∀ k, k < n → p k = true → q k = true) → fa_cnt q n ≤ fa_cnt p n → ∀ k, k < n → q k = true → p k = true
  | 0, _, _ => fun k hk => absurd hk (Nat.not_lt_zero k)
  | n + 1, h, hl => fun k hk hq => by
    have m := cnt_mono (p := p) (q := q) n (fun k hk => h k (by omega))
    cases e : p n with
    | true =>
      rw [fa_cnt_yes e, fa_cnt_yes (h n (by omega) e)] at hl
      by_cases z : k = n
      · rw [z]
        exact e
      · exact cnt_full n (fun k hk => h k (by omega)) (by omega) k (by omega) hq
    | false =>
      rw [fa_cnt_no e] at hl
      cases e2 : q n with
      | true =>
        rw [fa_cnt_yes e2] at hl
        omega
      | false =>
        rw [fa_cnt_no e2] at hl
        by_cases z : k = n
        · rw [z, e2] at hq
          cases hq
        · exact cnt_full n (fun k hk => h k (by omega)) hl k (by omega) hq
def FEo (ce fi fr fed : Nat → Int32) : Prop := (∀ k, k < 108 → fed k = 0 ∨ fed k = 1) ∧ (∀ k, k < 108 → ¬ fed k = 0 → ¬ fi k < 0) ∧ (∀ k, k < 108 → ce k = 114 → ¬ fi k < 0 → ¬ fed k = 0) ∧ (∀ k, k < 108 → ¬ fed k = 0 → ce k = 114 ∨ ∃ s, s < 4 ∧ ∃ o, bs k s = some o ∧ ¬ fed o = 0 ∧ ¬ fr o < fr k) ∧ fdC ce fed ≤ 10 * fdR ce fi 108 ∧ (fdF ce fi ≤ 10 * fdR ce fi 108 → ∀ k, k < 108 → ¬ fed k = 0 → ∀ s, s < 4 → ∀ o, bs k s = some o → ¬ fi o < 0 → ¬ fr k < fr o → ¬ fed o = 0)
theorem FEo.of {ce fi fr : Nat → Int32} {S : zD} (h : FDv ce fi fr (fdR ce fi 108) S) (hc : CLo ce fi fr S 108) (ht : S.2.2.1 ≤ 108) : FEo ce fi fr S.1 := by
  obtain ⟨a, b, c, d, ⟨m, hm, el⟩, f, g, i⟩ := h
  refine ⟨a, b, c, d, by omega, fun hl k hk h1 s hs o h2 h3 h4 => ?_⟩
  obtain ⟨j, h5, h6⟩ := i k hk h1
  rcases hc j (by omega) h5 s hs o (by rw [h6]; exact h2) h3 (by rw [h6]; exact h4) with h7 | ⟨h7, h8⟩
  · exact h7
  · have hm0 : m = 0 := by
      rw [el] at h8
      have h9 : m ≤ 10 * fdR ce fi 108 := by omega
      have h10 : fdR ce fi 108 ≤ 108 := fa_cnt_le _ 108
      exact Classical.byContradiction (fun z => nI_ne0 (Nat.pos_of_ne_zero z) (by omega) h8)
    have h9 : fdF ce fi ≤ fdC ce S.1 := by omega
    have h10 := cnt_full (p := fun k => decide (ce k = 99 ∧ ¬ S.1 k = 0)) (q := fun k => decide (ce k = 99 ∧ ¬ fi k < 0)) 108 (fun k hk z => by
      have z := of_decide_eq_true z
      exact decide_eq_true ⟨z.1, b k hk z.2⟩) h9 o (bs_lt hk h2) (decide_eq_true ⟨h7, h3⟩)
    exact (of_decide_eq_true h10).2
set_option maxRecDepth 100000 in
theorem fdO_ok (P : Nat → Int32) (h : Int32) : FEo P (fiO P) (frO P h) (fdO P h) := by
  rw [fdO]
  have k := (FDv.of (fr := frO P h) (FAv.s (ce := P) (fi := fiO P) (S0 := (fun _ => 0, fun _ => 0, 0, 0)) rfl rfl 108)).B 108
  exact FEo.of k.1 k.2 (fdB_ok (fdA_ok (S0 := (fun _ => 0, fun _ => 0, 0, 0)) rfl 108 (Nat.le_refl _)) 108).1
