def RELs (f m : Nat → Int32) : Prop := ∀ i, i < 5 → f i = m i ∧ 0 ≤ (f i).toInt ∧ (f i).toInt ≤ 300
def RELk (t : zTT) (n : Nat → Nat) (b : Nat) : Prop := (t.1 32).2.2 0 = n 2 ∧ (0 ≤ ((t.1 52).1 5).toInt ∧ ((t.1 52).1 5).toInt ≤ b) ∧ ∀ i, i < n 2 → (t.1 33).1 i = (t.2 2 i).2.1 0 ∧ (1 ≤ ((t.1 33).1 i).toInt ∧ ((t.1 33).1 i).toInt ≤ 10) ∧ (1 ≤ ((t.1 34).1 i).toInt ∧ ((t.1 34).1 i).toInt ≤ 24) ∧ (0 ≤ ((t.1 35).1 i).toInt ∧ ((t.1 35).1 i).toInt ≤ ((t.1 34).1 i).toInt + 72) ∧ ((t.2 2 i).2.1 1).toInt = ((t.1 52).1 5).toInt - ((t.1 35).1 i).toInt + ((t.1 34).1 i).toInt
def RELg (f G : Nat → Int64) (p : Nat) : Prop := ∀ e, e < 4 → f e = G (4 * p + e)
def RELI (a b c d : Int32) (A B C D : Nat → Int64) (mi : Nat → Int32) (G : Nat → Int64) : Prop := (a = mi 0 ∧ b = mi 1 ∧ c = mi 2 ∧ d = mi 3) ∧ RELg A G 0 ∧ RELg B G 1 ∧ RELg C G 2 ∧ RELg D G 3
def RELi (t : zTT) : Prop := RELI ((t.1 37).1 0) ((t.1 43).1 0) ((t.1 45).1 0) ((t.1 47).1 0) (t.1 38).2.1 (t.1 44).2.1 (t.1 46).2.1 (t.1 48).2.1 (t.1 63).1 (t.1 64).2.1
def RELl (t : zTT) : Prop := (0 ≤ ((t.1 63).1 1).toInt) ∧ (¬ (t.1 63).1 1 = 0 → (t.1 42).1 0 = (t.1 52).1 6 ∧ (t.1 42).1 1 = (t.1 52).1 7 ∧ (t.1 42).1 2 = (t.1 52).1 8 ∧ (20 ≤ ((t.1 42).1 0).toInt ∧ ((t.1 42).1 0).toInt ≤ 1450) ∧ (0 ≤ ((t.1 42).1 1).toInt ∧ ((t.1 42).1 1).toInt ≤ 100) ∧ ((t.1 42).1 2 = 0 ∨ (t.1 42).1 2 = 1))
def RELr (t : zTT) : Prop := ((t.1 49).1 2 = 0 ∧ (t.1 52).1 9 = -1) ∨ (¬ (t.1 49).1 2 = 0 ∧ (t.1 49).1 0 = (t.1 52).1 9 ∧ (t.1 49).1 1 = (t.1 52).1 10 ∧ ¬ (t.1 52).1 9 = -1)
def RELm (v a b : zV) : Prop := v.2.1 = a.2.1 ∧ v.2.2.2 0 = fa_cnt (fun k => tmB (v.2.1 k)) 108 ∧ v.1 0 = rsR v.2.1 ∧ v.1 1 = bdI v.2.1 (b.2.2.2 0) ∧ v.1 2 = b.2.1 1 ∧ v.1 3 = b.2.1 2 ∧ v.1 4 = b.2.1 3 ∧ v.1 5 = b.2.1 4
def RELc (v a g : zV) : Prop := v.1 0 = a.2.1 1 ∧ v.1 5 = a.2.1 0 ∧ (∀ e, e < 4 → v.2.2.1 e = g.2.2.1 e) ∧ (v.1 2 &&& -2 = a.2.1 2 &&& -2 ∧ (v.1 2 &&& 2 = 0 → v.1 2 = a.2.1 2)) ∧ ((v.1 3 = 0 ∧ v.1 4 = 0 ∧ a.2.1 5 = 0) ∨ (v.1 3 = 1 ∧ v.1 4 = 0 ∧ a.2.1 5 = 1) ∨ (v.1 3 = 0 ∧ v.1 4 = 1 ∧ a.2.1 5 = 2)) ∧ a.2.1 4 = (if v.1 0 < 20 then 0 else 1)
def REL (t : zTT) (n : Nat → Nat) (b : Nat) : Prop := ((t.1 2).1 = (t.1 53).1) ∧ ((t.1 1).2.2 0 = (t.1 52).2.2 0) ∧ (RELs (t.1 31).1 (t.1 52).1) ∧ (RELk t n b) ∧ (RELi t) ∧ (RELl t) ∧ (RELr t) ∧ (n 0 = n 3 ∧ n 4 = n 3 ∧ ∀ i, i < n 0 → RELm (t.2 0 i) (t.2 3 i) (t.2 4 i)) ∧ (n 1 = n 5 ∧ n 6 = n 5 ∧ ∀ i, i < n 1 → RELc (t.2 1 i) (t.2 5 i) (t.2 6 i)) ∧ (0 ≤ ((t.1 63).1 0).toInt ∧ ((t.1 63).1 0).toInt ≤ 3000) ∧ (n 2 ≤ 20 ∧ n 0 ≤ 10 ∧ n 1 ≤ 30) ∧ (∀ k, 108 ≤ k → (t.1 2).1 k = 0)
theorem REL.pa {t : zTT} {n : Nat → Nat} {b : Nat} (h : REL t n b) : (t.1 2).1 = (t.1 53).1 := h.1
theorem REL.pt {t : zTT} {n : Nat → Nat} {b : Nat} (h : REL t n b) : (t.1 1).2.2 0 = (t.1 52).2.2 0 := h.2.1
theorem REL.sa {t : zTT} {n : Nat → Nat} {b : Nat} (h : REL t n b) : RELs (t.1 31).1 (t.1 52).1 := h.2.2.1
theorem REL.co {t : zTT} {n : Nat → Nat} {b : Nat} (h : REL t n b) : RELk t n b := h.2.2.2.1
theorem REL.ir {t : zTT} {n : Nat → Nat} {b : Nat} (h : REL t n b) : RELi t := h.2.2.2.2.1
theorem REL.la {t : zTT} {n : Nat → Nat} {b : Nat} (h : REL t n b) : RELl t := h.2.2.2.2.2.1
theorem REL.re {t : zTT} {n : Nat → Nat} {b : Nat} (h : REL t n b) : RELr t := h.2.2.2.2.2.2.1
theorem REL.mo {t : zTT} {n : Nat → Nat} {b : Nat} (h : REL t n b) : n 0 = n 3 ∧ n 4 = n 3 ∧ ∀ i, i < n 0 → RELm (t.2 0 i) (t.2 3 i) (t.2 4 i) := h.2.2.2.2.2.2.2.1
theorem REL.ca {t : zTT} {n : Nat → Nat} {b : Nat} (h : REL t n b) : n 1 = n 5 ∧ n 6 = n 5 ∧ ∀ i, i < n 1 → RELc (t.2 1 i) (t.2 5 i) (t.2 6 i) := h.2.2.2.2.2.2.2.2.1
theorem REL.fb {t : zTT} {n : Nat → Nat} {b : Nat} (h : REL t n b) : 0 ≤ ((t.1 63).1 0).toInt ∧ ((t.1 63).1 0).toInt ≤ 3000 := h.2.2.2.2.2.2.2.2.2.1
theorem REL.sz {t : zTT} {n : Nat → Nat} {b : Nat} (h : REL t n b) : n 2 ≤ 20 ∧ n 0 ≤ 10 ∧ n 1 ≤ 30 := h.2.2.2.2.2.2.2.2.2.2.1
theorem REL.pz {t : zTT} {n : Nat → Nat} {b : Nat} (h : REL t n b) : ∀ k, 108 ≤ k → (t.1 2).1 k = 0 := h.2.2.2.2.2.2.2.2.2.2.2
theorem RELs.u5 {f m : Nat → Int32} {k : Nat} {v : Int32} (h : RELs f m) (hk : 5 ≤ k) : RELs f (upd m k v) := fun i hi => by
  rw [upd_ne (by omega)]
  exact h i hi
theorem RELI.mv01 {a b c d x : Int32} {A B C D : Nat → Int64} {mi : Nat → Int32} {G : Nat → Int64} (h : RELI a b c d A B C D mi G) : RELI (a - x) (b + x) c d (mvS A x a 4) (mvT A x a B 4) C D (mvN mi 0 1 x) (mvR G 0 1 x (mi 0) 4) := by
  obtain ⟨⟨h0, h1, h2, h3⟩, g0, g1, g2, g3⟩ := h
  have k := mv_rel (am := x) (ir := mi 0) (show ¬ 0 = 1 by decide) g0 g1 4 (Nat.le_refl _)
  rw [h0]
  refine ⟨⟨?_, ?_, ?_, ?_⟩, ?_, ?_, ?_, ?_⟩
  · rw [mvN_fr (by decide)]
  · rw [mvN_to (by decide), h1]
  · rw [mvN_ot (by decide) (by decide)]; exact h2
  · rw [mvN_ot (by decide) (by decide)]; exact h3
  · exact k.1
  · exact k.2.1
  · exact fun e he => (g2 e he).trans (k.2.2 2 (by decide) (by decide) e he).symm
  · exact fun e he => (g3 e he).trans (k.2.2 3 (by decide) (by decide) e he).symm
theorem RELI.mv12 {a b c d x : Int32} {A B C D : Nat → Int64} {mi : Nat → Int32} {G : Nat → Int64} (h : RELI a b c d A B C D mi G) : RELI a (b - x) (c + x) d A (mvS B x b 4) (mvT B x b C 4) D (mvN mi 1 2 x) (mvR G 1 2 x (mi 1) 4) := by
  obtain ⟨⟨h0, h1, h2, h3⟩, g0, g1, g2, g3⟩ := h
  have k := mv_rel (am := x) (ir := mi 1) (show ¬ 1 = 2 by decide) g1 g2 4 (Nat.le_refl _)
  rw [h1]
  refine ⟨⟨?_, ?_, ?_, ?_⟩, ?_, ?_, ?_, ?_⟩
  · rw [mvN_ot (by decide) (by decide)]; exact h0
  · rw [mvN_fr (by decide)]
  · rw [mvN_to (by decide), h2]
  · rw [mvN_ot (by decide) (by decide)]; exact h3
  · exact fun e he => (g0 e he).trans (k.2.2 0 (by decide) (by decide) e he).symm
  · exact k.1
  · exact k.2.1
  · exact fun e he => (g3 e he).trans (k.2.2 3 (by decide) (by decide) e he).symm
theorem RELI.mv13 {a b c d x : Int32} {A B C D : Nat → Int64} {mi : Nat → Int32} {G : Nat → Int64} (h : RELI a b c d A B C D mi G) : RELI a (b - x) c (d + x) A (mvS B x b 4) C (mvT B x b D 4) (mvN mi 1 3 x) (mvR G 1 3 x (mi 1) 4) := by
  obtain ⟨⟨h0, h1, h2, h3⟩, g0, g1, g2, g3⟩ := h
  have k := mv_rel (am := x) (ir := mi 1) (show ¬ 1 = 3 by decide) g1 g3 4 (Nat.le_refl _)
  rw [h1]
  refine ⟨⟨?_, ?_, ?_, ?_⟩, ?_, ?_, ?_, ?_⟩
  · rw [mvN_ot (by decide) (by decide)]; exact h0
  · rw [mvN_fr (by decide)]
  · rw [mvN_ot (by decide) (by decide)]; exact h2
  · rw [mvN_to (by decide), h3]
  · exact fun e he => (g0 e he).trans (k.2.2 0 (by decide) (by decide) e he).symm
  · exact k.1
  · exact fun e he => (g2 e he).trans (k.2.2 2 (by decide) (by decide) e he).symm
  · exact k.2.1
theorem RELI.mv20 {a b c d x : Int32} {A B C D : Nat → Int64} {mi : Nat → Int32} {G : Nat → Int64} (h : RELI a b c d A B C D mi G) : RELI (a + x) b (c - x) d (mvT C x c A 4) B (mvS C x c 4) D (mvN mi 2 0 x) (mvR G 2 0 x (mi 2) 4) := by
  obtain ⟨⟨h0, h1, h2, h3⟩, g0, g1, g2, g3⟩ := h
  have k := mv_rel (am := x) (ir := mi 2) (show ¬ 2 = 0 by decide) g2 g0 4 (Nat.le_refl _)
  rw [h2]
  refine ⟨⟨?_, ?_, ?_, ?_⟩, ?_, ?_, ?_, ?_⟩
  · rw [mvN_to (by decide), h0]
  · rw [mvN_ot (by decide) (by decide)]; exact h1
  · rw [mvN_fr (by decide)]
  · rw [mvN_ot (by decide) (by decide)]; exact h3
  · exact k.2.1
  · exact fun e he => (g1 e he).trans (k.2.2 1 (by decide) (by decide) e he).symm
  · exact k.1
  · exact fun e he => (g3 e he).trans (k.2.2 3 (by decide) (by decide) e he).symm
theorem RELI.mv30 {a b c d x : Int32} {A B C D : Nat → Int64} {mi : Nat → Int32} {G : Nat → Int64} (h : RELI a b c d A B C D mi G) : RELI (a + x) b c (d - x) (mvT D x d A 4) B C (mvS D x d 4) (mvN mi 3 0 x) (mvR G 3 0 x (mi 3) 4) := by
  obtain ⟨⟨h0, h1, h2, h3⟩, g0, g1, g2, g3⟩ := h
  have k := mv_rel (am := x) (ir := mi 3) (show ¬ 3 = 0 by decide) g3 g0 4 (Nat.le_refl _)
  rw [h3]
  refine ⟨⟨?_, ?_, ?_, ?_⟩, ?_, ?_, ?_, ?_⟩
  · rw [mvN_to (by decide), h0]
  · rw [mvN_ot (by decide) (by decide)]; exact h1
  · rw [mvN_ot (by decide) (by decide)]; exact h2
  · rw [mvN_fr (by decide)]
  · exact k.2.1
  · exact fun e he => (g1 e he).trans (k.2.2 1 (by decide) (by decide) e he).symm
  · exact fun e he => (g2 e he).trans (k.2.2 2 (by decide) (by decide) e he).symm
  · exact k.1
theorem RELg.z {f G : Nat → Int64} (h : RELg f G 0) : ∀ e, e < 4 → f e = G e := fun e he => by
  have := h e he
  rwa [show 4 * 0 + e = e by omega] at this
theorem RELI.inn {a b c d x : Int32} {A B C D δ : Nat → Int64} {mi : Nat → Int32} {G : Nat → Int64} (h : RELI a b c d A B C D mi G) : RELI (a + x) b c d (lfd A δ 4) B C D (upd mi 0 (mi 0 + x)) (lfd G δ 4) := by
  obtain ⟨⟨h0, h1, h2, h3⟩, g0, g1, g2, g3⟩ := h
  refine ⟨⟨?_, ?_, ?_, ?_⟩, fun e he => ?_, fun e he => ?_, fun e he => ?_, fun e he => ?_⟩
  · rw [upd_eq, h0]
  · rw [upd_ne (by decide)]; exact h1
  · rw [upd_ne (by decide)]; exact h2
  · rw [upd_ne (by decide)]; exact h3
  · rw [lfd_rel (g0.z) 4 (Nat.le_refl _) e, if_pos he, show 4 * 0 + e = e by omega]
  · rw [lfd_out 4 _ (by omega)]; exact g1 e he
  · rw [lfd_out 4 _ (by omega)]; exact g2 e he
  · rw [lfd_out 4 _ (by omega)]; exact g3 e he
theorem RELI.hold {a b c d : Int32} {A B C D T : Nat → Int64} {mi : Nat → Int32} {G : Nat → Int64} (h : RELI a b c d A B C D mi G) (n : Nat) : RELI a b c d (lmS (A, T) n).1 B C D mi (hdR G n) := by
  obtain ⟨h0, g0, g1, g2, g3⟩ := h
  obtain ⟨k1, k2⟩ := hd_rel (T := T) (g0.z) n
  refine ⟨h0, fun e he => ?_, fun e he => ?_, fun e he => ?_, fun e he => ?_⟩
  · rw [show 4 * 0 + e = e by omega]; exact k1 e he
  · rw [k2 _ (by omega)]; exact g1 e he
  · rw [k2 _ (by omega)]; exact g2 e he
  · rw [k2 _ (by omega)]; exact g3 e he
theorem br_rel {G f d d2 : Nat → Int64} {to : Nat} (hf : RELg f G to) (hd : ∀ e, e < 4 → d e = d2 e) : ∀ n, n ≤ 4 → (∀ e, e < 4 → lfd f d n e = brR G to d2 n (4 * to + e)) ∧ ∀ p, ¬ p = to → ∀ e, e < 4 → brR G to d2 n (4 * p + e) = G (4 * p + e)
  | 0, _ => ⟨hf, fun _ _ _ _ => rfl⟩
  | n + 1, hn => by
    obtain ⟨h1, h2⟩ := br_rel hf hd n (by omega)
    refine ⟨fun e he => ?_, fun p hp e he => ?_⟩
    · show vp_updL _ _ _ _ = vp_updL _ _ _ _
      by_cases q : e = n
      · subst q
        rw [updL_eq, updL_eq, h1 e he, hd e he]
      · rw [updL_ne q, updL_ne (by omega), h1 e he]
    · show vp_updL _ _ _ _ = _
      rw [updL_ne (by omega)]
      exact h2 p hp e he
theorem RELI.bu2 {a b c d x y : Int32} {A B C D δ δ2 : Nat → Int64} {mi : Nat → Int32} {G : Nat → Int64} (h : RELI a b c d A B C D mi G) (hx : x = y) (hd : ∀ e, e < 4 → δ e = δ2 e) : RELI a b (c + x) d A B (lfd C δ 4) D (upd mi 2 (mi 2 + y)) (brR G 2 δ2 4) := by
  obtain ⟨⟨h0, h1, h2, h3⟩, g0, g1, g2, g3⟩ := h
  obtain ⟨k1, k2⟩ := br_rel g2 hd 4 (Nat.le_refl _)
  refine ⟨⟨?_, ?_, ?_, ?_⟩, fun e he => ?_, fun e he => ?_, k1, fun e he => ?_⟩
  · rw [upd_ne (by decide)]; exact h0
  · rw [upd_ne (by decide)]; exact h1
  · rw [upd_eq, h2, hx]
  · rw [upd_ne (by decide)]; exact h3
  · rw [k2 0 (by decide) e he]; exact g0 e he
  · rw [k2 1 (by decide) e he]; exact g1 e he
  · rw [k2 3 (by decide) e he]; exact g3 e he
theorem RELI.bu3 {a b c d x y : Int32} {A B C D δ δ2 : Nat → Int64} {mi : Nat → Int32} {G : Nat → Int64} (h : RELI a b c d A B C D mi G) (hx : x = y) (hd : ∀ e, e < 4 → δ e = δ2 e) : RELI a b c (d + x) A B C (lfd D δ 4) (upd mi 3 (mi 3 + y)) (brR G 3 δ2 4) := by
  obtain ⟨⟨h0, h1, h2, h3⟩, g0, g1, g2, g3⟩ := h
  obtain ⟨k1, k2⟩ := br_rel g3 hd 4 (Nat.le_refl _)
  refine ⟨⟨?_, ?_, ?_, ?_⟩, fun e he => ?_, fun e he => ?_, fun e he => ?_, k1⟩
  · rw [upd_ne (by decide)]; exact h0
  · rw [upd_ne (by decide)]; exact h1
  · rw [upd_ne (by decide)]; exact h2
  · rw [upd_eq, h3, hx]
  · rw [k2 0 (by decide) e he]; exact g0 e he
  · rw [k2 1 (by decide) e he]; exact g1 e he
  · rw [k2 2 (by decide) e he]; exact g2 e he
theorem REL.n {t : zTT} {n m : Nat → Nat} {b : Nat} (h : REL t n b) (e : m = n) : REL t m b := by
  subst e
  exact h
theorem REL.up {t : zTT} {n : Nat → Nat} {b c : Nat} (h : REL t n b) (e : b ≤ c) : REL t n c := ⟨h.pa, h.pt, h.sa, ⟨h.co.1, ⟨h.co.2.1.1, by have := h.co.2.1.2; omega⟩, h.co.2.2⟩, h.ir, h.la, h.re, h.mo, h.ca, h.fb, h.sz, h.pz⟩
theorem prow_out {k : Int32} {b : Nat} {s : (Nat → Int32) × Nat} {c : Nat} : ∀ j, (∀ i, i < j → ¬ c = b + i) → (prow k b s j).1 c = s.1 c
  | 0, _ => rfl
  | j + 1, h => by
    have ih := prow_out (k := k) (s := s) j (fun i hi => h i (by omega))
    by_cases q : (prow k b s j).1 (b + j) = k
    · rw [prow_t q]; exact ih
    · rw [prow_f q]
      show upd (prow k b s j).1 (b + j) k c = _
      rw [upd_ne (h j (by omega))]
      exact ih
theorem prect_out {k : Int32} {a b u : Nat} {s : (Nat → Int32) × Nat} {c : Nat} (hc : 108 ≤ c) (ha : a + u ≤ 12) : ∀ v, b + v ≤ 9 → (prect k a b u s v).1 c = s.1 c
  | 0, _ => rfl
  | v + 1, h => by
    show (prow k (12 * (b + v) + a) (prect k a b u s v) u).1 c = _
    rw [prow_out u (fun i hi => by omega)]
    exact prect_out hc ha v (by omega)
theorem R_draw {t : zTT} {n n1 n2 : Nat → Nat} {b : Nat} (k x y p q : Int32) (h : REL t n b) (e1 : n1 = n) (e2 : n2 = n1) : REL (tK_Mm_draw k x y p q (tK_Ip_draw k x y p q t)) n2 b := by
  subst e1; subst e2
  unfold tK_Ip_draw
  by_cases hd : 0 ≤ z_ix 0 k ∧ (0 ≤ x ∧ x < 12 ∧ 0 ≤ y ∧ y < 9) ∧ 1 ≤ p ∧ p ≤ 12 - x ∧ 1 ≤ q ∧ q ≤ 9 - y
  · rw [if_pos hd]
    unfold tK_Mm_draw
    rw [if_pos hd]
    obtain ⟨a9, b9, c9, d9, i1, i2, -, -, rfl, rfl, rfl, rfl, -, -⟩ := z_dr_in hd
    rw [nI_clamp (by omega), nI_clamp (by omega), nI_clamp (by omega), nI_clamp (by omega)]
    refine ⟨?_, h.pt, h.sa, h.co, h.ir, h.la, h.re, h.mo, h.ca, h.fb, h.sz, fun c hc => ?_⟩
    · show (prect k a9 b9 c9 ((t.1 2).1, 0) d9).1 = (prect k a9 b9 c9 ((t.1 53).1, 0) d9).1
      rw [h.pa]
    · show (prect k a9 b9 c9 ((t.1 2).1, 0) d9).1 c = 0
      rw [prect_out hc i1 d9 i2]
      exact h.pz c hc
  · rw [if_neg hd]
    unfold tK_Mm_draw
    rw [if_neg hd]
    exact h
theorem R_part {t : zTT} {n n1 n2 : Nat → Nat} {b : Nat} (r : Int32) (h : REL t n b) (e1 : n1 = n) (e2 : n2 = n1) : REL (tK_Mm_part r (tK_Ip_part r t)) n2 b := by
  subst e1; subst e2
  unfold tK_Ip_part
  by_cases hw : 1 ≤ r ∧ r ≤ 8
  · rw [if_pos hw]
    unfold tK_Mm_part
    rw [if_pos hw]
    exact ⟨h.pa, rfl, h.sa, h.co, h.ir, h.la, h.re, h.mo, h.ca, h.fb, h.sz, h.pz⟩
  · rw [if_neg hw]
    unfold tK_Mm_part
    rw [if_neg hw]
    exact h
theorem z_sat {x : Int32} {a : Int} (h : x.toInt = a) (h0 : 0 ≤ a) : S_Mm_most x = (if x < 300 then x else 300) := by
  have e3 : (300 : Int32).toInt = 300 := rfl
  have e0 : (0 : Int32).toInt = 0 := rfl
  unfold S_Mm_most
  by_cases q : x < 300
  · rw [if_pos q]
    by_cases q0 : 0 < x
    · rw [if_pos q0]
    · rw [if_neg q0]
      rw [Int32.lt_iff_toInt_lt, e0] at q0
      exact (Int32.toInt_inj.mp (by rw [e0]; omega)).symm
  · rw [if_neg q]
    rw [if_pos (by decide)]
theorem fb_add {x m : Int32} (h : 0 ≤ x.toInt ∧ x.toInt ≤ 3000) (hm : 1 ≤ m ∧ m ≤ 1000) (hg : ¬ 3000 < x + m) : 0 ≤ (x + m).toInt ∧ (x + m).toInt ≤ 3000 := by
  have e1 : (1 : Int32).toInt = 1 := rfl
  have e2 : (1000 : Int32).toInt = 1000 := rfl
  have e3 : (3000 : Int32).toInt = 3000 := rfl
  have h1 := hm.1
  have h2 := hm.2
  rw [Int32.le_iff_toInt_le, e1] at h1
  rw [Int32.le_iff_toInt_le, e2] at h2
  have e : (x + m).toInt = x.toInt + m.toInt := by rw [Int32.toInt_add]; exact bm32 (by omega) (by omega)
  rw [Int32.lt_iff_toInt_lt, e3] at hg
  omega
theorem fb_sub {x m : Int32} (h : 0 ≤ x.toInt ∧ x.toInt ≤ 3000) (hm : 1 ≤ m ∧ m ≤ 500) (hg : ¬ x < m) : 0 ≤ (x - m).toInt ∧ (x - m).toInt ≤ 3000 := by
  have e1 : (1 : Int32).toInt = 1 := rfl
  have e2 : (500 : Int32).toInt = 500 := rfl
  have h1 := hm.1
  have h2 := hm.2
  rw [Int32.le_iff_toInt_le, e1] at h1
  rw [Int32.le_iff_toInt_le, e2] at h2
  have e : (x - m).toInt = x.toInt - m.toInt := by rw [Int32.toInt_sub]; exact bm32 (by omega) (by omega)
  rw [Int32.lt_iff_toInt_lt] at hg
  omega
theorem fb_no {x y : Int32} (h : 0 ≤ y.toInt ∧ y.toInt ≤ 3000) (e : x = y) : ¬ 3000 < x + 0 := by
  subst e
  rw [Int32.add_zero, Int32.lt_iff_toInt_lt, show (3000 : Int32).toInt = 3000 from rfl]
  omega
theorem R_charge {t : zTT} {n n1 n2 : Nat → Nat} {b : Nat} (k m : Int32) (h : REL t n b) (e1 : n1 = n) (e2 : n2 = n1) : REL (tK_Mm_charge k m (tK_Ip_charge k m t)) n2 b := by
  subst e1; subst e2
  unfold tK_Ip_charge
  by_cases hw : 0 ≤ z_ix 1 k ∧ (1 ≤ m ∧ m ≤ 1000)
  · rw [if_pos hw]
    rcases z_ix1 hw.1 with rfl | rfl | rfl | rfl | rfl | rfl
    · rw [if_pos (rfl : (112 : Int32) = 112)]
      by_cases hg : 3000 < (t.1 37).1 0 + m
      · rw [if_pos hg]
        unfold tK_Mm_charge
        refine Eq.mpr (congrArg (fun z => REL z _ _) ((if_pos hw).trans ((if_pos (rfl : (112 : Int32) = 112)).trans (if_pos (show 3000 < (t.1 63).1 0 + m by rw [← h.ir.1.1]; exact hg))))) ?_
        exact h
      · rw [if_neg hg]
        unfold tK_Mm_charge
        refine Eq.mpr (congrArg (fun z => REL z _ _) ((if_pos hw).trans ((if_pos (rfl : (112 : Int32) = 112)).trans (if_neg (show ¬ 3000 < (t.1 63).1 0 + m by rw [← h.ir.1.1]; exact hg))))) ?_
        exact ⟨h.pa, h.pt, h.sa, h.co, h.ir.inn (x := m) (δ := fun e => chS m 0 e / 10), h.la, h.re, h.mo, h.ca, (by show 0 ≤ ((t.1 63).1 0 + m).toInt ∧ ((t.1 63).1 0 + m).toInt ≤ 3000; exact fb_add h.fb hw.2 (by rw [← h.ir.1.1]; exact hg)), h.sz, h.pz⟩
    · rw [if_neg (show ¬ ((115 : Int32) = 112) by decide), if_pos (rfl : (115 : Int32) = 115)]
      by_cases hg : 3000 < (t.1 37).1 0 + m
      · rw [if_pos hg]
        unfold tK_Mm_charge
        refine Eq.mpr (congrArg (fun z => REL z _ _) ((if_pos hw).trans ((if_neg (show ¬ ((115 : Int32) = 112) by decide)).trans ((if_pos (rfl : (115 : Int32) = 115)).trans (if_pos (show 3000 < (t.1 63).1 0 + m by rw [← h.ir.1.1]; exact hg)))))) ?_
        exact h
      · rw [if_neg hg]
        unfold tK_Mm_charge
        refine Eq.mpr (congrArg (fun z => REL z _ _) ((if_pos hw).trans ((if_neg (show ¬ ((115 : Int32) = 112) by decide)).trans ((if_pos (rfl : (115 : Int32) = 115)).trans (if_neg (show ¬ 3000 < (t.1 63).1 0 + m by rw [← h.ir.1.1]; exact hg)))))) ?_
        exact ⟨h.pa, h.pt, h.sa, h.co, h.ir.inn (x := m) (δ := fun e => chS m 1 e / 10), h.la, h.re, h.mo, h.ca, (by show 0 ≤ ((t.1 63).1 0 + m).toInt ∧ ((t.1 63).1 0 + m).toInt ≤ 3000; exact fb_add h.fb hw.2 (by rw [← h.ir.1.1]; exact hg)), h.sz, h.pz⟩
    · rw [if_neg (show ¬ ((102 : Int32) = 112) by decide), if_neg (show ¬ ((102 : Int32) = 115) by decide), if_pos (rfl : (102 : Int32) = 102)]
      by_cases hg : 3000 < (t.1 37).1 0 + m
      · rw [if_pos hg]
        unfold tK_Mm_charge
        refine Eq.mpr (congrArg (fun z => REL z _ _) ((if_pos hw).trans ((if_neg (show ¬ ((102 : Int32) = 112) by decide)).trans ((if_neg (show ¬ ((102 : Int32) = 115) by decide)).trans ((if_pos (rfl : (102 : Int32) = 102)).trans (if_pos (show 3000 < (t.1 63).1 0 + m by rw [← h.ir.1.1]; exact hg))))))) ?_
        exact h
      · rw [if_neg hg]
        unfold tK_Mm_charge
        refine Eq.mpr (congrArg (fun z => REL z _ _) ((if_pos hw).trans ((if_neg (show ¬ ((102 : Int32) = 112) by decide)).trans ((if_neg (show ¬ ((102 : Int32) = 115) by decide)).trans ((if_pos (rfl : (102 : Int32) = 102)).trans (if_neg (show ¬ 3000 < (t.1 63).1 0 + m by rw [← h.ir.1.1]; exact hg))))))) ?_
        exact ⟨h.pa, h.pt, h.sa, h.co, h.ir.inn (x := m) (δ := fun e => chS m 2 e / 10), h.la, h.re, h.mo, h.ca, (by show 0 ≤ ((t.1 63).1 0 + m).toInt ∧ ((t.1 63).1 0 + m).toInt ≤ 3000; exact fb_add h.fb hw.2 (by rw [← h.ir.1.1]; exact hg)), h.sz, h.pz⟩
    · rw [if_neg (show ¬ ((107 : Int32) = 112) by decide), if_neg (show ¬ ((107 : Int32) = 115) by decide), if_neg (show ¬ ((107 : Int32) = 102) by decide), if_pos (rfl : (107 : Int32) = 107)]
      by_cases hg : 3000 < (t.1 37).1 0 + 0
      · exact absurd hg (fb_no h.fb h.ir.1.1)
      · rw [if_neg hg]
        unfold tK_Mm_charge
        refine Eq.mpr (congrArg (fun z => REL z _ _) ((if_pos hw).trans ((if_neg (show ¬ ((107 : Int32) = 112) by decide)).trans ((if_neg (show ¬ ((107 : Int32) = 115) by decide)).trans ((if_neg (show ¬ ((107 : Int32) = 102) by decide)).trans (if_pos (rfl : (107 : Int32) = 107))))))) ?_
        exact ⟨h.pa, h.pt, h.sa, h.co, h.ir.inn (x := 0) (δ := fun e => chS m 3 e / 10), h.la, h.re, h.mo, h.ca, (by show 0 ≤ ((t.1 63).1 0 + 0).toInt ∧ ((t.1 63).1 0 + 0).toInt ≤ 3000; rw [Int32.add_zero]; exact h.fb), h.sz, h.pz⟩
    · rw [if_neg (show ¬ ((103 : Int32) = 112) by decide), if_neg (show ¬ ((103 : Int32) = 115) by decide), if_neg (show ¬ ((103 : Int32) = 102) by decide), if_neg (show ¬ ((103 : Int32) = 107) by decide), if_pos (rfl : (103 : Int32) = 103)]
      by_cases hf : (t.1 45).1 0 < m
      · rw [if_pos hf]
        unfold tK_Mm_charge
        refine Eq.mpr (congrArg (fun z => REL z _ _) ((if_pos hw).trans ((if_neg (show ¬ ((103 : Int32) = 112) by decide)).trans ((if_neg (show ¬ ((103 : Int32) = 115) by decide)).trans ((if_neg (show ¬ ((103 : Int32) = 102) by decide)).trans ((if_neg (show ¬ ((103 : Int32) = 107) by decide)).trans ((if_pos (rfl : (103 : Int32) = 103)).trans (if_pos (show (t.1 63).1 2 < m by rw [← h.ir.1.2.2.1]; exact hf))))))))) ?_
        exact h
      · rw [if_neg hf]
        by_cases hg : 3000 < (t.1 37).1 0 + m
        · rw [if_pos hg]
          unfold tK_Mm_charge
          refine Eq.mpr (congrArg (fun z => REL z _ _) ((if_pos hw).trans ((if_neg (show ¬ ((103 : Int32) = 112) by decide)).trans ((if_neg (show ¬ ((103 : Int32) = 115) by decide)).trans ((if_neg (show ¬ ((103 : Int32) = 102) by decide)).trans ((if_neg (show ¬ ((103 : Int32) = 107) by decide)).trans ((if_pos (rfl : (103 : Int32) = 103)).trans ((if_neg (show ¬ (t.1 63).1 2 < m by rw [← h.ir.1.2.2.1]; exact hf)).trans (if_pos (show 3000 < (t.1 63).1 0 + m by rw [← h.ir.1.1]; exact hg)))))))))) ?_
          exact h
        · rw [if_neg hg]
          unfold tK_Mm_charge
          refine Eq.mpr (congrArg (fun z => REL z _ _) ((if_pos hw).trans ((if_neg (show ¬ ((103 : Int32) = 112) by decide)).trans ((if_neg (show ¬ ((103 : Int32) = 115) by decide)).trans ((if_neg (show ¬ ((103 : Int32) = 102) by decide)).trans ((if_neg (show ¬ ((103 : Int32) = 107) by decide)).trans ((if_pos (rfl : (103 : Int32) = 103)).trans ((if_neg (show ¬ (t.1 63).1 2 < m by rw [← h.ir.1.2.2.1]; exact hf)).trans (if_neg (show ¬ 3000 < (t.1 63).1 0 + m by rw [← h.ir.1.1]; exact hg)))))))))) ?_
          exact ⟨h.pa, h.pt, h.sa, h.co, h.ir.mv20 (x := m), h.la, h.re, h.mo, h.ca, (by show 0 ≤ ((t.1 63).1 0 + m).toInt ∧ ((t.1 63).1 0 + m).toInt ≤ 3000; exact fb_add h.fb hw.2 (by rw [← h.ir.1.1]; exact hg)), h.sz, h.pz⟩
    · rw [if_neg (show ¬ ((100 : Int32) = 112) by decide), if_neg (show ¬ ((100 : Int32) = 115) by decide), if_neg (show ¬ ((100 : Int32) = 102) by decide), if_neg (show ¬ ((100 : Int32) = 107) by decide), if_neg (show ¬ ((100 : Int32) = 103) by decide)]
      by_cases hf : (t.1 47).1 0 < m
      · rw [if_pos hf]
        unfold tK_Mm_charge
        refine Eq.mpr (congrArg (fun z => REL z _ _) ((if_pos hw).trans ((if_neg (show ¬ ((100 : Int32) = 112) by decide)).trans ((if_neg (show ¬ ((100 : Int32) = 115) by decide)).trans ((if_neg (show ¬ ((100 : Int32) = 102) by decide)).trans ((if_neg (show ¬ ((100 : Int32) = 107) by decide)).trans ((if_neg (show ¬ ((100 : Int32) = 103) by decide)).trans (if_pos (show (t.1 63).1 3 < m by rw [← h.ir.1.2.2.2]; exact hf))))))))) ?_
        exact h
      · rw [if_neg hf]
        by_cases hg : 3000 < (t.1 37).1 0 + m
        · rw [if_pos hg]
          unfold tK_Mm_charge
          refine Eq.mpr (congrArg (fun z => REL z _ _) ((if_pos hw).trans ((if_neg (show ¬ ((100 : Int32) = 112) by decide)).trans ((if_neg (show ¬ ((100 : Int32) = 115) by decide)).trans ((if_neg (show ¬ ((100 : Int32) = 102) by decide)).trans ((if_neg (show ¬ ((100 : Int32) = 107) by decide)).trans ((if_neg (show ¬ ((100 : Int32) = 103) by decide)).trans ((if_neg (show ¬ (t.1 63).1 3 < m by rw [← h.ir.1.2.2.2]; exact hf)).trans (if_pos (show 3000 < (t.1 63).1 0 + m by rw [← h.ir.1.1]; exact hg)))))))))) ?_
          exact h
        · rw [if_neg hg]
          unfold tK_Mm_charge
          refine Eq.mpr (congrArg (fun z => REL z _ _) ((if_pos hw).trans ((if_neg (show ¬ ((100 : Int32) = 112) by decide)).trans ((if_neg (show ¬ ((100 : Int32) = 115) by decide)).trans ((if_neg (show ¬ ((100 : Int32) = 102) by decide)).trans ((if_neg (show ¬ ((100 : Int32) = 107) by decide)).trans ((if_neg (show ¬ ((100 : Int32) = 103) by decide)).trans ((if_neg (show ¬ (t.1 63).1 3 < m by rw [← h.ir.1.2.2.2]; exact hf)).trans (if_neg (show ¬ 3000 < (t.1 63).1 0 + m by rw [← h.ir.1.1]; exact hg)))))))))) ?_
          exact ⟨h.pa, h.pt, h.sa, h.co, h.ir.mv30 (x := m), h.la, h.re, h.mo, h.ca, (by show 0 ≤ ((t.1 63).1 0 + m).toInt ∧ ((t.1 63).1 0 + m).toInt ≤ 3000; exact fb_add h.fb hw.2 (by rw [← h.ir.1.1]; exact hg)), h.sz, h.pz⟩
  · rw [if_neg hw]
    unfold tK_Mm_charge
    refine Eq.mpr (congrArg (fun z => REL z _ _) (if_neg hw)) ?_
    exact h
