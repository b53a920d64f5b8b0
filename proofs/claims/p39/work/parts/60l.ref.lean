def dE (S R : zD) : Prop := (∀ k, k < 108 → S.1 k = R.1 k) ∧ (∀ j, j < S.2.2.1 → S.2.1 j = R.2.1 j) ∧ S.2.2.1 = R.2.2.1 ∧ S.2.2.2 = R.2.2.2
theorem dA_E {ce f fi fl a b : Nat → Int32} {qa qb : Nat → Nat} (hce : eqA ce f) (hf : eqA fi fl) : ∀ i, i ≤ 108 → (∀ k, k < i → (fdA ce fi (a, qa, 0, 0) i).1 k = (fdA f fl (b, qb, 0, 0) i).1 k) ∧ (∀ j, j < (fdA ce fi (a, qa, 0, 0) i).2.2.1 → (fdA ce fi (a, qa, 0, 0) i).2.1 j = (fdA f fl (b, qb, 0, 0) i).2.1 j) ∧ (fdA ce fi (a, qa, 0, 0) i).2.2.1 = (fdA f fl (b, qb, 0, 0) i).2.2.1 ∧ (fdA ce fi (a, qa, 0, 0) i).2.2.2 = (fdA f fl (b, qb, 0, 0) i).2.2.2
  | 0, _ => ⟨fun k hk => absurd hk (Nat.not_lt_zero k), fun j hj => absurd hj (Nat.not_lt_zero j), rfl, rfl⟩
  | i + 1, hi => by
    obtain ⟨h1, h2, h3, h4⟩ := dA_E (a := a) (b := b) (qa := qa) (qb := qb) hce hf i (by omega)
    by_cases q : ce i = 114 ∧ ¬ fi i < 0
    · have q' : f i = 114 ∧ ¬ fl i < 0 := by rw [← hce i (by omega), ← hf i (by omega)]; exact q
      rw [fdA_t q, fdA_t q']
      refine ⟨fun k hk => ?_, fun j hj => ?_, congrArg (· + 1) h3, congrArg (· + 10) h4⟩
      · show upd _ i 1 k = upd _ i 1 k
        by_cases z : k = i
        · rw [z, upd_eq, upd_eq]
        · rw [upd_ne z, upd_ne z]; exact h1 k (by omega)
      · show updN _ _ i j = updN _ _ i j
        rw [← h3]
        by_cases z : j = (fdA ce fi (a, qa, 0, 0) i).2.2.1
        · rw [z, updN_eq, updN_eq]
        · rw [updN_ne z, updN_ne z]; exact h2 j (by have : j < (fdA ce fi (a, qa, 0, 0) i).2.2.1 + 1 := hj; omega)
    · have q' : ¬ (f i = 114 ∧ ¬ fl i < 0) := by rw [← hce i (by omega), ← hf i (by omega)]; exact q
      rw [fdA_f q, fdA_f q']
      refine ⟨fun k hk => ?_, h2, h3, h4⟩
      show upd _ i 0 k = upd _ i 0 k
      by_cases z : k = i
      · rw [z, upd_eq, upd_eq]
      · rw [upd_ne z, upd_ne z]; exact h1 k (by omega)
theorem cf_E {fed fed2 fi fl fr fq : Nat → Int32} {here o : Nat} (hh : here < 108) (ho : o < 108) (h1 : fed o = fed2 o) (hf : eqA fi fl) (hr : eqA fr fq) : cfB fed fi fr here o = cfB fed2 fl fq here o := by
  unfold cfB
  rw [h1, hf o ho, hr here hh, hr o ho]
theorem dE_put {S R : zD} {o : Nat} {l l2 : Int32} (h : dE S R) (hl : l = l2) : dE (upd S.1 o 1, updN S.2.1 S.2.2.1 o, S.2.2.1 + 1, l) (upd R.1 o 1, updN R.2.1 R.2.2.1 o, R.2.2.1 + 1, l2) := by
  obtain ⟨h1, h2, h3, h4⟩ := h
  refine ⟨eq_up h1, fun j hj => ?_, congrArg (· + 1) h3, hl⟩
  show updN S.2.1 S.2.2.1 o j = updN R.2.1 R.2.2.1 o j
  rw [← h3]
  by_cases z : j = S.2.2.1
  · rw [z, updN_eq, updN_eq]
  · rw [updN_ne z, updN_ne z]; exact h2 j (by have : j < S.2.2.1 + 1 := hj; omega)
theorem dI_E {ce f fi fl fr fq : Nat → Int32} {here s : Nat} {S R : zD} (hce : eqA ce f) (hf : eqA fi fl) (hr : eqA fr fq) (hh : here < 108) (h : dE S R) : dE (fdI ce fi fr here s S) (fdI f fl fq here s R) := by
  cases e : bs here s with
  | none => rw [fdI_n e, fdI_n e]; exact h
  | some o =>
    have ho := bs_lt hh e
    have ec := cf_E (here := here) hh ho (h.1 o ho) hf hr
    rw [fdI_s e, fdI_s e]
    by_cases q : cfB S.1 fi fr here o = true ∧ S.2.2.1 < 108
    · have q' : cfB R.1 fl fq here o = true ∧ R.2.2.1 < 108 := by rw [← ec, ← h.2.2.1]; exact q
      by_cases q2 : ce o = 99
      · have q2' : f o = 99 := by rw [← hce o ho]; exact q2
        by_cases q3 : S.2.2.2 = 0
        · rw [fdJ_1 q q2 q3, fdJ_1 q' q2' (by rw [← h.2.2.2]; exact q3)]; exact h
        · rw [fdJ_2 q q2 q3, fdJ_2 q' q2' (by rw [← h.2.2.2]; exact q3)]; exact dE_put h (by rw [h.2.2.2])
      · rw [fdJ_3 q q2, fdJ_3 q' (by rw [← hce o ho]; exact q2)]; exact dE_put h h.2.2.2
    · rw [fdJ_0 q, fdJ_0 (by rw [← ec, ← h.2.2.1]; exact q)]; exact h
theorem dH_E {ce f fi fl fr fq : Nat → Int32} {here : Nat} {S R : zD} (hce : eqA ce f) (hf : eqA fi fl) (hr : eqA fr fq) (hh : here < 108) (h : dE S R) : ∀ s, dE (fdH ce fi fr here S s) (fdH f fl fq here R s)
  | 0 => h
  | s + 1 => dI_E hce hf hr hh (dH_E hce hf hr hh h s)
theorem dB_E {ce f fi fl fr fq : Nat → Int32} {S R : zD} (hce : eqA ce f) (hf : eqA fi fl) (hr : eqA fr fq) (hk : Dok S 108) (h : dE S R) : ∀ n, dE (fdB ce fi fr S n) (fdB f fl fq R n)
  | 0 => h
  | n + 1 => by
    have ih := dB_E hce hf hr hk h n
    by_cases q : n < (fdB ce fi fr S n).2.2.1
    · rw [fdB_t q, fdB_t (by rw [← ih.2.2.1]; exact q), ← ih.2.1 n q]
      exact dH_E hce hf hr ((fdB_ok hk n).2 n q) ih 4
    · rw [fdB, if_neg q, fdB, if_neg (by rw [← ih.2.2.1]; exact q)]; exact ih
theorem sc_E {ce f fi fl a b : Nat → Int32} (hce : eqA ce f) (hf : eqA fi fl) (h : ∀ k, k < 108 → a k = b k) : fa_cnt (scP ce fi a) 108 = fa_cnt (scP f fl b) 108 := fa_cnt_cong (fun k hk => by unfold scP; rw [hce k hk, hf k hk, h k hk])
theorem an_E {p q : Nat → Bool} : ∀ n, (∀ k, k < n → p k = q k) → anB p n = anB q n
  | 0, _ => rfl
  | n + 1, h => by rw [anB, anB, an_E n (fun k hk => h k (by omega)), h n (Nat.lt_succ_self n)]
theorem an_all {p : Nat → Bool} {n : Nat} (h : anB p n = false) : ∀ k, k < n → p k = false := fun k hk => Bool.eq_false_iff.mpr (fun e => by rw [anB_hit hk e] at h; cases h)
theorem ic_E {ce f fi fl : Nat → Int32} {h : Int32} (hce : eqA ce f) (hf : eqA fi fl) : anB (icP ce fi h) 108 = anB (icP f fl h) 108 := an_E 108 (fun k hk => by unfold icP; rw [hce k hk, hf k hk])
def rFR (f fl he mt fz nx : Nat → Int32) (h : Int32) : Nat → Int32 := fa_fill (frG (flC f fl) (frM f (flC f fl) he mt fz nx h).1.2.2.1) (frM f (flC f fl) he mt fz nx h).1.2.2.1 108
def rFD (f fl he mt fz nx ic : Nat → Int32) (qn : Nat → Nat) (h : Int32) : zD := fdB f (flC f fl) (rFR f fl he mt fz nx h) (fdA f (flC f fl) (ic, qn, 0, 0) 108) 108
theorem shr_E {f fl he mt fz nx ic : Nat → Int32} {qn : Nat → Nat} {h : Int32} {X : zTr} (hce : eqA X.1.1 f) (hrun : X.1.2.2.1 = 0) (hgt : ¬ fa_cnt (fun k => decide (f k = 103)) 12 = 0) (h15 : h.toInt ≤ 1500) (h0 : 1000 ≤ h.toInt) (hcold : anB (icP X.1.1 (flP X.1.1 X.1.2.1 X.1.2.2.1) h) 108 = false) : shN (frN h X) = fa_cnt (scP f (flC f fl) (rFD f fl he mt fz nx ic qn h).1) 108 := by
  have hfr := fill_rel hce fl X.1.2.1
  have eK : flP X.1.1 X.1.2.1 X.1.2.2.1 = flK X.1.1 X.1.2.1 := by rw [hrun]; rfl
  rw [eK] at hcold
  have hf : eqA (flK X.1.1 X.1.2.1) (flC f fl) := fun k hk => (hfr.1 k hk).symm
  have hvF : vlA f (flC f fl) := vl_C f fl
  have hw : ∀ k, k < 108 → tmB (f k) = true → ¬ flK X.1.1 X.1.2.1 k < 0 ∧ ¬ z_hwf h (flK X.1.1 X.1.2.1 k) < 1200 := fun k hk hm => by
    have e := an_all hcold k hk
    unfold icP at e
    rw [hce k hk, hm, Bool.true_and] at e
    rcases (Bool.or_eq_false_iff).mp e with ⟨e1, e2⟩
    exact ⟨of_decide_eq_false e1, of_decide_eq_false e2⟩
  have hh : ∀ k, k < 108 → ¬ flK X.1.1 X.1.2.1 k < 0 → ¬ z_hwf h (flK X.1.1 X.1.2.1 k) < 1150 := fun k hk hn hlt => by
    rcases hfr.2 k hk with e | ⟨e, -⟩
    · exact hn (by rw [e]; decide)
    · exact (hw k hk e).2 (Int32.lt_of_lt_of_le hlt (by decide))
  have hne : ¬ fa_cnt (fun k => decide (¬ flK X.1.1 X.1.2.1 k < 0)) 108 = 0 := fun z => hgt (by
    have key : ∀ n, n ≤ 12 → fa_cnt (fun k => decide (f k = 103)) n = 0 := fun n => by
      induction n with
      | zero => exact fun _ => rfl
      | succ n ih =>
        intro hn
        rw [fa_cnt_no (p := fun k => decide (f k = 103)) (decide_eq_false (fun e => ?_))]
        · exact ih (by omega)
        · have := cnt_0 (p := fun k => decide (¬ flK X.1.1 X.1.2.1 k < 0)) 108 z n (by omega)
          exact of_decide_eq_false this ((hw n (by omega) (by rw [e]; decide)).1)
    exact key 12 (Nat.le_refl _))
  have hb := rf_begin (f := f) (fl := flC f fl) (ce := X.1.1) (fi := flK X.1.1 X.1.2.1) (he := he) (mt := mt) (fz := fz) (nx := nx) (F1 := X.2.1.1.1.1) (F2 := X.2.1.1.2) (F3 := X.2.1.1.1.2.1) (F4 := X.2.1.1.1.2.2.1) (liq := X.2.1.1.1.2.2.2) (lf := 1) hfr.1 hvF hh h15 h0 hne rfl
  have hr := rf_run (f5 := X.2.1.2.1) (f6 := X.2.1.2.2) hce hfr.1 hvF hb 400 (Nat.le_refl _)
  have hfz : eqA (pzS (toS X.1.1 (flK X.1.1 X.1.2.1) 2 X.2.1.2.1 108) (toS X.1.1 (flK X.1.1 X.1.2.1) 3 X.2.1.2.2 108) (bgQ X.1.1 (flK X.1.1 X.1.2.1) h X.2.1.1.1.1 X.2.1.1.2 X.2.1.1.1.2.1 X.2.1.1.1.2.2.1 X.2.1.1.1.2.2.2) 400).1.2.2.1 (rFR f fl he mt fz nx h) := fun k hk => by
    unfold rFR frM
    rw [fa_fill_in hk]
    exact hr.2.2.1 k hk
  have hA := dA_E (a := X.2.2.1) (b := ic) (qa := X.2.2.2.2) (qb := qn) hce hf 108 (Nat.le_refl _)
  have hB := dB_E hce hf hfz (fdA_ok (ce := X.1.1) (fi := flK X.1.1 X.1.2.1) (S0 := (X.2.2.1, X.2.2.2.2, 0, 0)) rfl 108 (Nat.le_refl _)) hA 108
  unfold shN frN rFD
  dsimp only
  rw [eK]
  exact sc_E hce hf hB.1
