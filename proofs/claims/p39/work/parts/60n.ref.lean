theorem updL_eq {f : Nat → Int64} {o : Nat} {v : Int64} : vp_updL f o v o = v := if_pos rfl
theorem updL_ne {f : Nat → Int64} {o k : Nat} {v : Int64} (h : ¬ k = o) : vp_updL f o v k = f k := if_neg h
theorem mv_rel {G f t : Nat → Int64} {fr to : Nat} {am ir : Int32} (hft : ¬ fr = to) (hf : ∀ e, e < 4 → f e = G (4 * fr + e)) (ht : ∀ e, e < 4 → t e = G (4 * to + e)) : ∀ n, n ≤ 4 → (∀ e, e < 4 → mvS f am ir n e = mvR G fr to am ir n (4 * fr + e)) ∧ (∀ e, e < 4 → mvT f am ir t n e = mvR G fr to am ir n (4 * to + e)) ∧ ∀ p, ¬ p = fr → ¬ p = to → ∀ e, e < 4 → mvR G fr to am ir n (4 * p + e) = G (4 * p + e)
  | 0, _ => ⟨hf, ht, fun _ _ _ _ _ => rfl⟩
  | n + 1, hn => by
    obtain ⟨h1, h2, h3⟩ := mv_rel (am := am) (ir := ir) hft hf ht n (by omega)
    have hi : mvA (mvS f am ir n) am ir n = mvI (mvR G fr to am ir n) fr am ir n := by
      show mvS f am ir n n * am.toInt64 / ir.toInt64 = mvR G fr to am ir n (4 * fr + n) * am.toInt64 / ir.toInt64
      rw [h1 n (by omega)]
    have ha : ∀ e, e < 4 → mvA9 (mvR G fr to am ir n) fr am ir n (4 * fr + e) = mvS f am ir (n + 1) e := fun e he => by
      show vp_updL _ _ _ _ = vp_updL _ _ _ _
      by_cases q : e = n
      · subst q
        rw [updL_eq, updL_eq, hi, h1 e he]
      · rw [updL_ne q, updL_ne (by omega), h1 e he]
    have hb : ∀ p, ¬ p = fr → ∀ e, e < 4 → mvA9 (mvR G fr to am ir n) fr am ir n (4 * p + e) = mvR G fr to am ir n (4 * p + e) := fun p hp e he => updL_ne (by omega)
    refine ⟨fun e he => ?_, fun e he => ?_, fun p hp hq e he => ?_⟩
    · rw [← ha e he]
      exact (updL_ne (by omega)).symm
    · show vp_updL _ _ _ _ = vp_updL _ _ _ _
      by_cases q : e = n
      · subst q
        rw [updL_eq, updL_eq, hb to (fun q => hft q.symm) e he, hi, h2 e he]
      · rw [updL_ne q, updL_ne (by omega), hb to (fun q => hft q.symm) e he, h2 e he]
    · show vp_updL _ _ _ _ = _
      rw [updL_ne (by omega), hb p hp e he]
      exact h3 p hp hq e he
theorem mvN_fr {ir : Nat → Int32} {fr to : Nat} {am : Int32} (h : ¬ fr = to) : mvN ir fr to am fr = ir fr - am := by
  show upd _ _ _ _ = _
  rw [upd_ne h, upd_eq]
theorem mvN_to {ir : Nat → Int32} {fr to : Nat} {am : Int32} (h : ¬ fr = to) : mvN ir fr to am to = ir to + am := by
  show upd _ _ _ _ = _
  rw [upd_eq, upd_ne (fun q => h q.symm)]
theorem mvN_ot {ir : Nat → Int32} {fr to p : Nat} {am : Int32} (h1 : ¬ p = fr) (h2 : ¬ p = to) : mvN ir fr to am p = ir p := by
  show upd _ _ _ _ = _
  rw [upd_ne h2, upd_ne h1]
theorem lfd_rel {G f d : Nat → Int64} (hf : ∀ e, e < 4 → f e = G e) : ∀ n, n ≤ 4 → ∀ e, lfd f d n e = (if e < 4 then lfd G d n e else f e)
  | 0, _, e => by
    show f e = if e < 4 then G e else f e
    by_cases q : e < 4
    · rw [if_pos q, hf e q]
    · rw [if_neg q]
  | n + 1, hn, e => by
    have ih := lfd_rel (d := d) hf n (by omega)
    show vp_updL _ _ _ _ = if e < 4 then vp_updL (lfd G d n) n (lfd G d n n + d n) e else f e
    by_cases q : e = n
    · subst q
      rw [updL_eq, updL_eq, if_pos (by omega), ih e, if_pos (by omega)]
    · rw [updL_ne q, updL_ne q, ih e]
theorem lfd_out {f d : Nat → Int64} : ∀ n e, n ≤ e → lfd f d n e = f e
  | 0, _, _ => rfl
  | n + 1, e, h => by
    show vp_updL _ _ _ _ = _
    rw [updL_ne (by omega)]
    exact lfd_out n e (by omega)
theorem hd_rel {G f T : Nat → Int64} (hf : ∀ e, e < 4 → f e = G e) : ∀ n, (∀ e, e < 4 → (lmS (f, T) n).1 e = hdR G n e) ∧ ∀ x, 4 ≤ x → hdR G n x = G x
  | 0 => ⟨hf, fun _ _ => rfl⟩
  | n + 1 => by
    obtain ⟨h1, h2⟩ := hd_rel (T := T) hf n
    have st : ∀ (a : (Nat → Int64) × (Nat → Int64)) (b : Nat → Int64) (k : Nat) (d : Int64), k < 4 → (∀ e, e < 4 → a.1 e = b e) → ∀ e, e < 4 → (loS k d a).1 e = hdE b k d e := fun a b k d hk h e he => by
      show vp_updL _ _ _ _ = vp_updL _ _ _ _
      by_cases q : e = k
      · subst q
        rw [updL_eq, updL_eq, h e he]
      · rw [updL_ne q, updL_ne q, h e he]
    refine ⟨st _ _ 2 4000 (by decide) (st _ _ 1 4000 (by decide) (st _ _ 0 2000 (by decide) h1)), fun x hx => ?_⟩
    show vp_updL _ _ _ _ = _
    rw [updL_ne (by omega)]
    show vp_updL _ _ _ _ = _
    rw [updL_ne (by omega)]
    show vp_updL _ _ _ _ = _
    rw [updL_ne (by omega)]
    exact h2 x hx
