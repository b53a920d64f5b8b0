theorem use_2 {a b m : Int32} (h : a = b ∧ 0 ≤ a.toInt ∧ a.toInt ≤ 300) (hm : 0 ≤ m.toInt ∧ m.toInt ≤ 1000) : (if a + m < 300 then a + m else 300) = S_Mm_most (b + m) ∧ 0 ≤ (if a + m < 300 then a + m else 300).toInt ∧ (if a + m < 300 then a + m else 300).toInt ≤ 300 := by
  obtain ⟨rfl, h1, h2⟩ := h
  have e3 : (300 : Int32).toInt = 300 := rfl
  have e : (a + m).toInt = a.toInt + m.toInt := by rw [Int32.toInt_add]; exact bm32 (by omega) (by omega)
  refine ⟨(z_sat e (by omega)).symm, ?_⟩
  by_cases q : a + m < 300
  · rw [if_pos q, e]
    rw [Int32.lt_iff_toInt_lt, e3, e] at q
    omega
  · rw [if_neg q, e3]
    omega
theorem use_3 {a b : Int32} {c : Nat} (h : a = b ∧ 0 ≤ a.toInt ∧ a.toInt ≤ 300) (hc : c ≤ 108) : (if (a + 10) + (nI c / 4) < 300 then (a + 10) + (nI c / 4) else 300) = S_Mm_most (b + 10 + nI c / 4) ∧ 0 ≤ (if (a + 10) + (nI c / 4) < 300 then (a + 10) + (nI c / 4) else 300).toInt ∧ (if (a + 10) + (nI c / 4) < 300 then (a + 10) + (nI c / 4) else 300).toInt ≤ 300 := by
  have e4 : (4 : Int32).toInt = 4 := rfl
  have ed : (nI c / 4).toInt = (c : Int) / 4 := by
    rw [Int32.toInt_div, nI_toInt (by omega), e4, Int.tdiv_eq_ediv_of_nonneg (by omega)]
    exact bm32 (by omega) (by omega)
  have em : (10 + nI c / 4).toInt = 10 + (c : Int) / 4 := by
    rw [Int32.toInt_add, ed, show (10 : Int32).toInt = 10 from rfl]
    exact bm32 (by omega) (by omega)
  have k := use_2 (m := 10 + nI c / 4) h (by rw [em]; omega)
  rw [← Int32.add_assoc, ← Int32.add_assoc] at k
  exact k
theorem fill_eq {f : Nat → Int32} (h : ∀ k, 108 ≤ k → f k = 0) : fa_fill f (fun _ => 0) 108 = f := funext fun k => by
  by_cases q : k < 108
  · exact if_pos q
  · exact (if_neg q).trans (h k (by omega)).symm
theorem mo_new {t : zTT} {n : Nat → Nat} {b : Nat} (h : REL t n b) : RELm (moV t) (cpV t) (nuV t) := by
  have ef := fill_eq h.pz
  refine ⟨?_, ?_, ?_, ?_, ?_, ?_, ?_, rfl⟩
  · show fa_fill (t.1 2).1 (fun _ => 0) 108 = fa_fill (t.1 53).1 (fun _ => 0) 108
    rw [h.pa]
  · show fa_cnt (fun k => tmB ((t.1 2).1 k)) 108 = fa_cnt (fun k => tmB (fa_fill (t.1 2).1 (fun _ => 0) 108 k)) 108
    rw [ef]
  · show rsR (t.1 2).1 = rsR (fa_fill (t.1 2).1 (fun _ => 0) 108)
    rw [ef]
  · show bdI (t.1 2).1 ((t.1 1).2.2 0) = bdI (fa_fill (t.1 2).1 (fun _ => 0) 108) ((t.1 52).2.2 0)
    rw [ef, h.pt]
  · show S_GS_strength 0 ((t.1 31).1 0) ((t.1 31).1 1) ((t.1 31).1 2) ((t.1 31).1 3) ((t.1 31).1 4) = mstI (t.1 52).1
    rw [(h.sa 0 (by decide)).1, (h.sa 1 (by decide)).1, (h.sa 2 (by decide)).1, (h.sa 3 (by decide)).1, (h.sa 4 (by decide)).1]
    rfl
  · show S_GS_draught 0 ((t.1 31).1 0) ((t.1 31).1 1) ((t.1 31).1 2) ((t.1 31).1 3) ((t.1 31).1 4) = mdrI (t.1 52).1
    rw [(h.sa 0 (by decide)).1, (h.sa 1 (by decide)).1, (h.sa 2 (by decide)).1, (h.sa 3 (by decide)).1, (h.sa 4 (by decide)).1]
    rfl
  · show (t.1 31).1 1 = (t.1 52).1 1
    exact (h.sa 1 (by decide)).1
theorem R_leastCost {t : zTT} {n n1 n2 : Nat → Nat} {b : Nat} (x1 x2 x3 x4 x5 x6 : Int32) (h : REL t n b) (e1 : n1 = n) (e2 : n2 = n1) : REL (tK_Mm_leastCost x1 x2 x3 x4 x5 x6 (tK_Ip_leastCost x1 x2 x3 x4 x5 x6 t)) n2 b := by
  subst e1; subst e2
  unfold tK_Ip_leastCost
  by_cases hw : (0 ≤ x1 ∧ x1 ≤ 450) ∧ (x1 ≤ x2 ∧ x2 ≤ 450) ∧ (0 ≤ x3 ∧ x3 ≤ 450) ∧ (1 ≤ x4 ∧ x4 ≤ 1000) ∧ (1 ≤ x5 ∧ x5 ≤ 1000) ∧ (1 ≤ x6 ∧ x6 ≤ 1000)
  · rw [if_pos hw]
    have hp : ∀ P A, P + A ≤ 100 → 0 ≤ prS x4 x5 x6 P A := fun P A q => prS_nn hw.2.2.2.1 hw.2.2.2.2.1 hw.2.2.2.2.2 q
    have hj := rcO_J (le := x1) (mo := x2) (si := x3) hp (s := (-1, (t.1 49).1 0, (t.1 49).1 1, (t.1 49).1 2)) (t := (-1, -1, 0, 0)) rfl 11 (Nat.le_refl _)
    unfold tK_Mm_leastCost
    by_cases hs : (rcO x1 x2 x3 x4 x5 x6 (-1, -1, 0, 0) 11).1 < 0
    · refine Eq.mpr (congrArg (fun z => REL z _ _) ((if_pos hw).trans (if_pos hs))) ?_
      have e := hj.resolve_right (fun q => q.2.1 (by rw [q.1]; exact hs))
      refine ⟨h.pa, h.pt, h.sa, h.co, h.ir, h.la, ?_, h.mo, h.ca, h.fb, h.sz, h.pz⟩
      show ((rcO x1 x2 x3 x4 x5 x6 (-1, (t.1 49).1 0, (t.1 49).1 1, (t.1 49).1 2) 11).2.2.2 = 0 ∧ (t.1 52).1 9 = -1) ∨ (¬ (rcO x1 x2 x3 x4 x5 x6 (-1, (t.1 49).1 0, (t.1 49).1 1, (t.1 49).1 2) 11).2.2.2 = 0 ∧ (rcO x1 x2 x3 x4 x5 x6 (-1, (t.1 49).1 0, (t.1 49).1 1, (t.1 49).1 2) 11).2.1 = (t.1 52).1 9 ∧ (rcO x1 x2 x3 x4 x5 x6 (-1, (t.1 49).1 0, (t.1 49).1 1, (t.1 49).1 2) 11).2.2.1 = (t.1 52).1 10 ∧ ¬ (t.1 52).1 9 = -1)
      rw [e.1]
      exact h.re
    · refine Eq.mpr (congrArg (fun z => REL z _ _) ((if_pos hw).trans (if_neg hs))) ?_
      have e := hj.resolve_left (fun q => hs (by rw [q.2]; decide))
      refine ⟨h.pa, h.pt, (h.sa.u5 (by decide)).u5 (by decide), h.co, h.ir, h.la, ?_, h.mo, h.ca, h.fb, h.sz, h.pz⟩
      show ((rcO x1 x2 x3 x4 x5 x6 (-1, (t.1 49).1 0, (t.1 49).1 1, (t.1 49).1 2) 11).2.2.2 = 0 ∧ (rcO x1 x2 x3 x4 x5 x6 (-1, -1, 0, 0) 11).2.1 = -1) ∨ (¬ (rcO x1 x2 x3 x4 x5 x6 (-1, (t.1 49).1 0, (t.1 49).1 1, (t.1 49).1 2) 11).2.2.2 = 0 ∧ (rcO x1 x2 x3 x4 x5 x6 (-1, (t.1 49).1 0, (t.1 49).1 1, (t.1 49).1 2) 11).2.1 = (rcO x1 x2 x3 x4 x5 x6 (-1, -1, 0, 0) 11).2.1 ∧ (rcO x1 x2 x3 x4 x5 x6 (-1, (t.1 49).1 0, (t.1 49).1 1, (t.1 49).1 2) 11).2.2.1 = (rcO x1 x2 x3 x4 x5 x6 (-1, -1, 0, 0) 11).2.2.1 ∧ ¬ (rcO x1 x2 x3 x4 x5 x6 (-1, -1, 0, 0) 11).2.1 = -1)
      exact Or.inr ⟨by rw [e.2.2.2]; decide, by rw [e.1], by rw [e.1], by rw [← e.1]; exact e.2.2.1⟩
  · rw [if_neg hw]
    unfold tK_Mm_leastCost
    refine Eq.mpr (congrArg (fun z => REL z _ _) (if_neg hw)) ?_
    exact h
theorem sa_use {f m : Nat → Int32} {c : Nat} (h : RELs f m) (hc : c ≤ 108) : RELs (ufI f (nI c)) (muI m (nI c)) := fun i hi => by
  rcases (show i = 0 ∨ i = 1 ∨ i = 2 ∨ i = 3 ∨ i = 4 by omega) with rfl | rfl | rfl | rfl | rfl
  · exact use_1 (c := 3) (h 0 (by decide)) (by decide)
  · exact use_1 (c := 8) (h 1 (by decide)) (by decide)
  · exact use_1 (c := 4) (h 2 (by decide)) (by decide)
  · exact use_2 (m := 2) (h 3 (by decide)) (by decide)
  · exact use_3 (h 4 (by decide)) hc
theorem tk_out {t : zTT} {n : Nat → Nat} {b : Nat} {x : Int32} (h : RELk t n b) (hb : b ≤ 100000) (hx : 0 ≤ x.toInt ∧ x.toInt ≤ 1000) (D : zL3) (hD : dlS (tkS (t.1 33).1 (t.1 34).1 (t.1 35).1 x ((t.1 32).2.2 0)).1 (t.1 34).1 (t.1 35).1 ((t.1 32).2.2 0) = D) (F : Nat × (Nat → zV) × Int32) (hF : dwL tcP tcQ (n 2) (n 2, (tkL ((t.1 52).1 5) (t.2 2) x (n 2)).1, 0) = F) : D.1 = F.1 ∧ F.1 ≤ n 2 ∧ ∀ i, i < F.1 → D.2.1 i = (F.2.1 i).2.1 0 ∧ (1 ≤ (D.2.1 i).toInt ∧ (D.2.1 i).toInt ≤ 10) ∧ (1 ≤ (D.2.2.1 i).toInt ∧ (D.2.2.1 i).toInt ≤ 24) ∧ (0 ≤ (D.2.2.2 i).toInt ∧ (D.2.2.2 i).toInt ≤ (D.2.2.1 i).toInt + 72) ∧ ((F.2.1 i).2.1 1).toInt = ((t.1 52).1 5).toInt - (D.2.2.2 i).toInt + (D.2.2.1 i).toInt := by
  rw [h.1] at hD
  obtain ⟨-, -, ht⟩ := tk_rel h hb hx (n 2) (Nat.le_refl _)
  generalize (tkS (t.1 33).1 (t.1 34).1 (t.1 35).1 x (n 2)).1 = cn at hD ht
  generalize (tkL ((t.1 52).1 5) (t.2 2) x (n 2)).1 = V at hF ht
  have hd := dlS_k cn (t.1 34).1 (t.1 35).1 (n 2)
  have hk := dwL_k tcP tcQ (n 2) 0 V 0
  rw [Nat.add_zero, hF] at hk
  rw [hD] at hd
  have e0 : (0 : Int32).toInt = 0 := rfl
  have hp : ∀ k, k < n 2 → cnP cn k = tcP (V k) := fun k hk => by
    obtain ⟨d1, d2, d3, d4⟩ := ht k hk
    unfold cnP tcP
    rw [← d1]
    by_cases q : cn k = 0
    · rw [decide_eq_false (show ¬ ¬ cn k ≤ 0 from fun z => z (by rw [q]; decide)), decide_eq_false (show ¬ ¬ cn k = 0 from fun z => z q)]
    · rw [decide_eq_true (show ¬ cn k = 0 from q), decide_eq_true (show ¬ cn k ≤ 0 from fun z => q (by rw [Int32.le_iff_toInt_le, e0] at z; exact Int32.toInt_inj.mp (by rw [e0]; omega)))]
  have cg := kx_cg (p := cnP cn) (q := fun k => tcP (V k)) (n 2) hp
  rw [cg.1] at hd
  refine ⟨by rw [hd.1, hk.1]; rfl, ?_, fun i hi => ?_⟩
  · rw [hk.1]
    exact fa_cnt_le _ _
  · rw [hk.1, Nat.add_zero] at hi
    have kl := kx_lt (p := fun k => tcP (V k)) (n 2) i hi
    rw [(hd.2.1 i hi).1, (hd.2.1 i hi).2.1, (hd.2.1 i hi).2.2, hk.2.1 i hi, cg.2 i]
    generalize kx (fun k => tcP (V k)) (n 2) i = k at kl
    obtain ⟨k1, k2⟩ := kl
    obtain ⟨d1, d2, d3, d4⟩ := ht k k1
    obtain ⟨c1, c2, c3, c4, c5⟩ := h.2.2 k k1
    have hz : ¬ cn k = 0 := by
      have k2 : decide (¬ (V k).2.1 0 = 0) = true := k2
      rw [← d1] at k2
      exact of_decide_eq_true k2
    have hz1 : ¬ (cn k).toInt = 0 := fun z => hz (Int32.toInt_inj.mp (by rw [e0]; exact z))
    rw [d2]
    exact ⟨d1, ⟨by omega, d3.2⟩, c3, c4, c5⟩
theorem R_mould {t : zTT} {n n1 n2 : Nat → Nat} {b : Nat} (hb : b ≤ 100000) (h : REL t n b) (e1 : n1 = nK_Ip_mould t n) (e2 : n2 = nK_Mm_mould (tK_Ip_mould t n) n1) : REL (tK_Mm_mould (tK_Ip_mould t n) n1) n2 b := by
  subst e1
  rw [e2]
  unfold tK_Ip_mould nK_Ip_mould
  have hq0 := gdN_rel h.co hb
  by_cases hg : (¬ fa_cnt (fun k => decide ((t.1 2).1 k = 103)) 12 = 0 ∧ anB (fun k => decide ((t.1 2).1 k = 99)) 108 = true)
  · have g' : (¬ fa_cnt (fun k => decide ((t.1 53).1 k = 103)) 12 = 0 ∧ anB (fun k => decide ((t.1 53).1 k = 99)) 108 = true) := h.pa ▸ hg
    rw [if_pos hg, if_pos hg]
    by_cases hq : nI (coN (t.1 2).1) ≤ gdN t
    · have q' : nI (coN (t.1 53).1) ≤ gdS ((t.1 52).1 5) (t.2 2) (n 2) := by
        rw [← h.pa, ← hq0]
        exact hq
      rw [if_pos hq, if_pos hq]
      by_cases h10 : n 0 < 10
      · have m' : ¬ n 3 = 10 := by
          have := h.mo.1
          omega
        rw [if_pos h10, if_pos h10]
        unfold tK_Mm_mould nK_Mm_mould
        refine Eq.mpr (congrArg (fun z => REL z _ _) ((if_pos g').trans ((if_pos q').trans (if_pos m')))) ?_
        refine Eq.mpr (congrArg (fun z => REL _ z _) ((if_pos g').trans ((if_pos q').trans (if_pos m')))) ?_
        have hc := co_le (t.1 2).1
        obtain ⟨o1, o2, o3⟩ := tk_out (x := nI (coN (t.1 2).1)) h.co hb (by rw [nI_toInt (by omega)]; omega) (toT t) rfl (dwL tcP tcQ (n 2) (n 2, (tkL ((t.1 52).1 5) (t.2 2) (nI (coN (t.1 53).1)) (n 2)).1, 0)) (by rw [h.pa])
        refine ⟨h.pa, h.pt, ?_, ⟨?_, h.co.2.1, fun i hi => ?_⟩, h.ir, h.la, h.re, ⟨?_, ?_, fun i hi => ?_⟩, h.ca, h.fb, ⟨?_, ?_, h.sz.2.2⟩, h.pz⟩
        · show RELs (ufI (t.1 31).1 (nI (fa_cnt (fun k => tmB ((t.1 2).1 k)) 108))) (muI (t.1 52).1 (nI (fa_cnt (fun k => tmB ((t.1 53).1 k)) 108)))
          rw [← h.pa]
          exact sa_use h.sa (fa_cnt_le _ 108)
        · exact o1
        · exact o3 i hi
        · show n 0 + 1 = n 3 + 1
          rw [h.mo.1]
        · show n 4 + 1 = n 3 + 1
          rw [h.mo.2.1]
        · have hi : i < n 0 + 1 := hi
          show RELm (if i = n 0 then moV t else t.2 0 i) (if i = n 3 then cpV t else t.2 3 i) (if i = n 4 then nuV t else t.2 4 i)
          rw [h.mo.2.1, ← h.mo.1]
          by_cases q : i = n 0
          · rw [if_pos q, if_pos q, if_pos q]
            exact mo_new h
          · rw [if_neg q, if_neg q, if_neg q]
            exact h.mo.2.2 i (by omega)
        · show (dwL tcP tcQ (n 2) (n 2, (tkL ((t.1 52).1 5) (t.2 2) (nI (coN (t.1 53).1)) (n 2)).1, 0)).1 ≤ 20
          have := h.sz.1
          omega
        · show n 0 + 1 ≤ 10
          omega
      · have m' : ¬ ¬ n 3 = 10 := fun z => z (by have := h.mo.1; have := h.sz.2.1; omega)
        rw [if_neg h10, if_neg h10]
        unfold tK_Mm_mould nK_Mm_mould
        refine Eq.mpr (congrArg (fun z => REL z _ _) ((if_pos g').trans ((if_pos q').trans (if_neg m')))) ?_
        refine Eq.mpr (congrArg (fun z => REL _ z _) ((if_pos g').trans ((if_pos q').trans (if_neg m')))) ?_
        exact h
    · have q' : ¬ nI (coN (t.1 53).1) ≤ gdS ((t.1 52).1 5) (t.2 2) (n 2) := by
        rw [← h.pa, ← hq0]
        exact hq
      rw [if_neg hq, if_neg hq]
      unfold tK_Mm_mould nK_Mm_mould
      refine Eq.mpr (congrArg (fun z => REL z _ _) ((if_pos g').trans (if_neg q'))) ?_
      refine Eq.mpr (congrArg (fun z => REL _ z _) ((if_pos g').trans (if_neg q'))) ?_
      exact h
  · have g' : ¬ (¬ fa_cnt (fun k => decide ((t.1 53).1 k = 103)) 12 = 0 ∧ anB (fun k => decide ((t.1 53).1 k = 99)) 108 = true) := h.pa ▸ hg
    rw [if_neg hg, if_neg hg]
    unfold tK_Mm_mould nK_Mm_mould
    refine Eq.mpr (congrArg (fun z => REL z _ _) (if_neg g')) ?_
    refine Eq.mpr (congrArg (fun z => REL _ z _) (if_neg g')) ?_
    exact h
theorem pg_rel {G B : Nat → Int64} {tk al : Int32} (h : ∀ e, e < 4 → B e = G (4 * 1 + e)) : ∀ n, n ≤ 4 → (∀ e, e < 4 → mvS B tk al n e = (pgM G tk al n).1 (4 * 1 + e)) ∧ (∀ e, e < 4 → mvT B tk al (fun _ => 0) n e = (pgM G tk al n).2 e) ∧ (∀ e, n ≤ e → (pgM G tk al n).2 e = 0) ∧ ∀ p, ¬ p = 1 → ∀ e, e < 4 → (pgM G tk al n).1 (4 * p + e) = G (4 * p + e)
  | 0, _ => ⟨h, fun _ _ => rfl, fun _ _ => rfl, fun _ _ _ _ => rfl⟩
  | n + 1, hn => by
    obtain ⟨h1, h2, h3, h4⟩ := pg_rel (tk := tk) (al := al) h n (by omega)
    have e0 : 4 * 1 + n = 4 + n := by omega
    have hv : mvA (mvS B tk al n) tk al n = (pgM G tk al n).1 (4 + n) * tk.toInt64 / al.toInt64 := by
      show mvS B tk al n n * tk.toInt64 / al.toInt64 = _
      rw [h1 n (by omega), e0]
    refine ⟨fun e he => ?_, fun e he => ?_, fun e he => ?_, fun p hp e he => ?_⟩
    · show vp_updL (mvS B tk al n) n (mvS B tk al n n - mvA (mvS B tk al n) tk al n) e = vp_updL (pgM G tk al n).1 (4 + n) ((pgM G tk al n).1 (4 + n) - (vp_updL (pgM G tk al n).2 n ((pgM G tk al n).1 (4 + n) * tk.toInt64 / al.toInt64)) n) (4 * 1 + e)
      by_cases q : e = n
      · subst q
        rw [updL_eq, e0, updL_eq, updL_eq, hv, h1 e he, e0]
      · rw [updL_ne q, updL_ne (by omega), h1 e he]
    · show vp_updL (mvT B tk al (fun _ => 0) n) n (mvT B tk al (fun _ => 0) n n + mvA (mvS B tk al n) tk al n) e = vp_updL (pgM G tk al n).2 n ((pgM G tk al n).1 (4 + n) * tk.toInt64 / al.toInt64) e
      by_cases q : e = n
      · subst q
        rw [updL_eq, updL_eq, hv, h2 e he, h3 e (Nat.le_refl e), Int64.zero_add]
      · rw [updL_ne q, updL_ne q, h2 e he]
    · show vp_updL _ _ _ _ = _
      rw [updL_ne (by omega)]
      exact h3 e (by omega)
    · show vp_updL _ _ _ _ = _
      rw [updL_ne (by omega)]
      exact h4 p hp e he
theorem am_pos {i : Int32} {c : Nat} (h0 : 0 ≤ i.toInt) (hn : ¬ i = 0) (hc : 1 ≤ c) (hc2 : c ≤ 108) : 1 ≤ (if i < nI (2 * c) then i else nI (2 * c)).toInt ∧ (if i < nI (2 * c) then i else nI (2 * c)).toInt ≤ i.toInt := by
  have hz : ¬ i.toInt = 0 := fun q => hn (Int32.toInt_inj.mp (by rw [q]; rfl))
  have e : (nI (2 * c)).toInt = ((2 * c : Nat) : Int) := nI_toInt (by omega)
  by_cases q : i < nI (2 * c)
  · rw [if_pos q]
    omega
  · rw [if_neg q, e]
    rw [Int32.lt_iff_toInt_lt, e] at q
    omega
theorem if_b {α : Type} {p : Prop} [Decidable p] {x y : α} : (if p then x else y) = cond (decide p) x y := by
  by_cases h : p
  · rw [if_pos h, decide_eq_true h]; rfl
  · rw [if_neg h, decide_eq_false h]; rfl
theorem moF_b {bad sp sr dr wa wt : Int32} : moF bad sp sr dr wa wt = (if (dr < 80 ∧ 40 < wa) ∨ 60 < wt then mo1 bad sp sr ||| 8 else mo1 bad sp sr) := by
  unfold moF
  by_cases h1 : 80 ≤ dr
  · rw [if_pos h1]
    by_cases h2 : wt ≤ 60
    · rw [if_pos h2, if_neg (fun q => q.elim (fun z => Int32.not_lt.mpr h1 z.1) (fun z => Int32.not_lt.mpr h2 z))]
    · rw [if_neg h2, if_pos (Or.inr (Int32.not_le.mp h2))]
  · rw [if_neg h1]
    by_cases h3 : 40 < wa
    · rw [if_pos h3, if_pos (Or.inl ⟨Int32.not_le.mp h1, h3⟩)]
    · rw [if_neg h3]
      by_cases h2 : wt ≤ 60
      · rw [if_pos h2, if_neg (fun q => q.elim (fun z => h3 z.2) (fun z => Int32.not_lt.mpr h2 z))]
      · rw [if_neg h2, if_pos (Or.inr (Int32.not_le.mp h2))]
def fbC1 (b0 sn : Bool) : Int32 := cond sn (cond b0 0 16) (cond b0 0 16 ||| 4)
def fbC2 (x : Int32) (bl : Bool) : Int32 := cond bl (x ||| 8) x
def fbC3 (x : Int32) (s0 : Bool) : Int32 := cond s0 x (x ||| 1)
def fbC4 (x : Int32) (c : Bool) : Int32 := cond c (x ||| 2) x
def fbC5 (x : Int32) (hd : Bool) : Int32 := cond hd (x ||| 32) x
def fbC (b0 sn bl s0 c hd : Bool) : Int32 := fbC5 (fbC4 (fbC3 (fbC2 (fbC1 b0 sn) bl) s0) c) hd
def fbM (b0 sn bl s0 c hd : Bool) : Int32 := cond s0 0 1 + cond c 2 0 + cond sn 0 4 + (cond bl 8 0 + cond b0 0 16 + cond hd 32 0)
theorem fb_rel : ∀ b0 sn bl s0 s2 c hd : Bool, (c = false → s0 = s2) → fbC b0 sn bl s0 c hd &&& -2 = fbM b0 sn bl s2 c hd &&& -2 ∧ (fbC b0 sn bl s0 c hd &&& 2 = 0 → fbC b0 sn bl s0 c hd = fbM b0 sn bl s2 c hd) := by decide +kernel
theorem caF_b {t : zTT} {vm : zV} {X : zTr} : caF t vm X = fbC (decide (vm.1 1 = 0)) (decide (vm.1 0 ≤ vm.1 2)) (decide ((vm.1 3 < 80 ∧ 40 < vm.1 4) ∨ 60 < vm.1 5)) (decide (caS t vm X ≤ 0)) (decide (amI t vm < 2 * nI (vm.2.2.2 0) ∨ caC t vm X = true)) (caH t vm) := by
  have e5 : caF t vm X = fbC5 (caF2 t vm X) (caH t vm) := by
    unfold caF fbC5
    rw [if_b, Bool.decide_eq_true]
  have e4 : caF2 t vm X = fbC4 (caF1 t vm X) (decide (amI t vm < 2 * nI (vm.2.2.2 0) ∨ caC t vm X = true)) := if_b
  have e3 : caF1 t vm X = fbC3 (moF (vm.1 1) (vm.1 0) (vm.1 2) (vm.1 3) (vm.1 4) (vm.1 5)) (decide (caS t vm X ≤ 0)) := if_b
  have e2 : moF (vm.1 1) (vm.1 0) (vm.1 2) (vm.1 3) (vm.1 4) (vm.1 5) = fbC2 (mo1 (vm.1 1) (vm.1 0) (vm.1 2)) (decide ((vm.1 3 < 80 ∧ 40 < vm.1 4) ∨ 60 < vm.1 5)) := moF_b.trans if_b
  have e1 : mo1 (vm.1 1) (vm.1 0) (vm.1 2) = fbC1 (decide (vm.1 1 = 0)) (decide (vm.1 0 ≤ vm.1 2)) := by
    unfold mo1 fbC1
    rw [if_b (p := vm.1 0 ≤ vm.1 2), if_b (p := vm.1 1 = 0)]
  rw [e5, e4, e3, e2, e1]
  rfl
theorem pEc_b {f : Nat → Int32} {p : Nat} (hp : p < 9) : pEc f p = cond (decide (bdI f p = 0)) 0 16 := by
  have l1 := lo_le f
  have l2 := ucT_le (f := f) hp 12
  have i1 : (0 : Int32) < nI (loN f) ↔ 0 < loN f := nI_ltI (a := 0) (by decide) (by omega)
  have i2 : (0 : Int32) < nI (ucT f p 12) ↔ 0 < ucT f p 12 := nI_ltI (a := 0) (by decide) (by omega)
  unfold pEc bdI
  by_cases q : 0 < loN f ∨ 0 < ucT f p 12
  · rw [if_pos q, if_pos (q.imp i1.mpr i2.mpr)]
    rfl
  · rw [if_neg q, if_neg (fun z => q (z.imp i1.mp i2.mp))]
    rfl
theorem pfF_b {f nn : Nat → Int32} {p : Nat} {mg9 : Nat → Int64} {tk mg sh : Int32} {c : Bool} (hp : p < 9) : pfF f nn p mg9 tk mg sh c = fbM (decide (bdI f p = 0)) (decide (rsR f ≤ nn 1)) (decide ((nn 2 < 80 ∧ 40 < nn 3) ∨ 60 < nn 4)) (decide (sh ≤ 0)) c (decide (pE9 mg9 tk < 370 ∨ (1 ≤ mg ∧ mg ≤ 19))) := by
  have e5 : pE5 sh = cond (decide (sh ≤ 0)) 0 1 := if_b
  have e7 : pE7 c = cond c 2 0 := by cases c <;> rfl
  have es : pEs f nn = cond (decide (rsR f ≤ nn 1)) 0 4 := if_b
  have eb : pEb (pE8 nn) = cond (decide ((nn 2 < 80 ∧ 40 < nn 3) ∨ 60 < nn 4)) 8 0 := by
    unfold pE8
    by_cases q : (nn 2 < 80 ∧ 40 < nn 3) ∨ 60 < nn 4
    · rw [if_pos q, decide_eq_true q]; rfl
    · rw [if_neg q, decide_eq_false q]; rfl
  have eh : pEh (pE10 mg9 tk mg) = cond (decide (pE9 mg9 tk < 370 ∨ (1 ≤ mg ∧ mg ≤ 19))) 32 0 := by
    unfold pE10
    by_cases q : pE9 mg9 tk < 370 ∨ (1 ≤ mg ∧ mg ≤ 19)
    · rw [if_pos q, decide_eq_true q]; rfl
    · rw [if_neg q, decide_eq_false q]; rfl
  unfold pfF
  rw [e5, e7, es, eb, pEc_b hp, eh]
  rfl
theorem dor_b {p : Prop} [Decidable p] {x : Bool} : decide (p ∨ x = true) = (decide p || x) := by
  by_cases h : p
  · rw [decide_eq_true h, decide_eq_true (Or.inl h)]; rfl
  · cases x with
    | true => rw [decide_eq_true (Or.inr rfl), Bool.or_true]
    | false => rw [decide_eq_false h, decide_eq_false (fun q => q.elim h (fun e => by cases e))]; rfl
theorem mg_hd {m : Int32} : (¬ m ≤ 0 ∧ m < 20) ↔ (1 ≤ m ∧ m ≤ 19) := by
  rw [Int32.le_iff_toInt_le, Int32.lt_iff_toInt_lt, Int32.le_iff_toInt_le, Int32.le_iff_toInt_le, show (0 : Int32).toInt = 0 from rfl, show (20 : Int32).toInt = 20 from rfl, show (1 : Int32).toInt = 1 from rfl, show (19 : Int32).toInt = 19 from rfl]
  omega
theorem caV_0 {t : zTT} {vm : zV} {X : zTr} {fb : Int32} : (caV t vm X fb).1 0 = (t.1 42).1 1 := rfl
theorem caV_2 {t : zTT} {vm : zV} {X : zTr} {fb : Int32} : (caV t vm X fb).1 2 = fb := rfl
theorem caV_3 {t : zTT} {vm : zV} {X : zTr} {fb : Int32} : (caV t vm X fb).1 3 = 0 := rfl
theorem caV_4 {t : zTT} {vm : zV} {X : zTr} {fb : Int32} : (caV t vm X fb).1 4 = 0 := rfl
theorem caV_5 {t : zTT} {vm : zV} {X : zTr} {fb : Int32} : (caV t vm X fb).1 5 = 0 + amI t vm := rfl
theorem frN_12 (h : Int32) (X : zTr) : (frN h X).1.2.1 = flP X.1.1 X.1.2.1 X.1.2.2.1 := by
  unfold frN
  dsimp only
theorem frN_11 (h : Int32) (X : zTr) : (frN h X).1.1 = X.1.1 := by
  unfold frN
  dsimp only
theorem po_cast {t : zTT} {n : Nat → Nat} {b : Nat} {X : zTr} {S : zSC} (h : REL t n b) (h0 : ¬ n 0 = 0) (hg : ¬ fa_cnt (fun k => decide ((t.2 3 0).2.1 k = 103)) 12 = 0) (hp : (t.2 4 0).2.2.2 0 < 9) (hi : ¬ (t.1 63).1 1 = 0) (hh : 1250 ≤ (t.1 42).1 0) : RELc (caV t (t.2 0 0) X (caF t (t.2 0 0) X)) (pcv9 t (pShS t S) (pFbS t S)) (pgv9 t) ∧ amI t (t.2 0 0) = ptk t ∧ 0 ≤ ((t.1 63).1 1 - ptk t).toInt := by
  obtain ⟨q1, q2, q3, q4, q5, q6, q7, q8⟩ := h.mo.2.2 0 (Nat.pos_of_ne_zero h0)
  have l := h.la.2 hi
  have ei : (t.1 43).1 0 = (t.1 63).1 1 := h.ir.1.2.1
  have e2 : (2 : Int32) * nI (fa_cnt (fun k => tmB ((t.2 3 0).2.1 k)) 108) = nI (2 * fa_cnt (fun k => tmB ((t.2 3 0).2.1 k)) 108) := pk_mul _ _
  have ea : amI t (t.2 0 0) = ptk t := by
    unfold amI ptk
    rw [q2, q1, ei, e2]
  have hc1 := cnt_pos hg
  have hpos : 1 ≤ (ptk t).toInt ∧ (ptk t).toInt ≤ ((t.1 63).1 1).toInt := am_pos h.la.1 hi (Nat.pos_of_ne_zero hc1) (fa_cnt_le _ 108)
  have hgr := pg_rel (tk := ptk t) (al := (t.1 63).1 1) h.ir.2.2.1 4 (Nat.le_refl _)
  have eG : ∀ e, e < 4 → caG t (t.2 0 0) e = (pgg t).2 e := fun e he => by
    unfold caG
    rw [ea, ei]
    exact hgr.2.1 e he
  have hnp : ¬ ptk t ≤ 0 := fun q => by
    rw [Int32.le_iff_toInt_le, show (0 : Int32).toInt = 0 from rfl] at q
    omega
  have eX : caX t (t.2 0 0) X = frN ((t.1 42).1 0) (tkT (t.2 0 0).2.1 X) := if_neg (show ¬ (0 : Int32) = (t.1 42).1 0 from fun e => absurd hh (by rw [← e]; decide))
  have hce : eqA (fa_fill (t.2 0 0).2.1 X.1.1 108) (t.2 3 0).2.1 := fun k hk => (fa_fill_in hk).trans (congrFun q1 k)
  have hfl : eqA (flK (fa_fill (t.2 0 0).2.1 X.1.1 108) X.1.2.1) (flC (t.2 3 0).2.1 S.1) := fun k hk => ((fill_rel hce S.1 X.1.2.1).1 k hk).symm
  have g1 : (frN ((t.1 42).1 0) (tkT (t.2 0 0).2.1 X)).1.1 = fa_fill (t.2 0 0).2.1 X.1.1 108 := (frN_11 _ _).trans rfl
  have f1 : (frN ((t.1 42).1 0) (tkT (t.2 0 0).2.1 X)).1.1 = (tkT (t.2 0 0).2.1 X).1.1 := frN_11 _ _
  have f2 : (frN ((t.1 42).1 0) (tkT (t.2 0 0).2.1 X)).1.2.1 = flP (tkT (t.2 0 0).2.1 X).1.1 (tkT (t.2 0 0).2.1 X).1.2.1 (tkT (t.2 0 0).2.1 X).1.2.2.1 := frN_12 _ _
  have t1 : (tkT (t.2 0 0).2.1 X).1.1 = fa_fill (t.2 0 0).2.1 X.1.1 108 := rfl
  have t2 : (tkT (t.2 0 0).2.1 X).1.2.1 = X.1.2.1 := rfl
  have t3 : (tkT (t.2 0 0).2.1 X).1.2.2.1 = 0 := rfl
  have g2 : (frN ((t.1 42).1 0) (tkT (t.2 0 0).2.1 X)).1.2.1 = flK (fa_fill (t.2 0 0).2.1 X.1.1 108) X.1.2.1 := by
    rw [f2, t1, t2, t3]
    unfold flK
    with_reducible rfl
  have eC1 : caC t (t.2 0 0) X = anB (icP (t.2 3 0).2.1 (flC (t.2 3 0).2.1 S.1) ((t.1 52).1 6)) 108 := by
    unfold caC
    rw [eX, g1, g2, ← l.1]
    exact ic_E hce hfl
  have eC : decide (amI t (t.2 0 0) < 2 * nI ((t.2 0 0).2.2.2 0) ∨ caC t (t.2 0 0) X = true) = pCo t S.1 := by
    rw [dor_b, ea, q2, q1, e2, eC1]
    rfl
  have hs : pCo t S.1 = false → decide (caS t (t.2 0 0) X ≤ 0) = decide (pShS t S ≤ 0) := fun hcf => by
    have ec : anB (icP (t.2 3 0).2.1 (flC (t.2 3 0).2.1 S.1) ((t.1 52).1 6)) 108 = false := (Bool.or_eq_false_iff.mp hcf).2
    rw [← eC1] at ec
    unfold caC at ec
    rw [eX, f1, f2] at ec
    have hh2 := hh
    rw [Int32.le_iff_toInt_le, show (1250 : Int32).toInt = 1250 from rfl] at hh2
    have k := shr_E (f := (t.2 3 0).2.1) (fl := S.1) (he := S.2.1) (nx := S.2.2.1) (mt := S.2.2.2.1) (fz := S.2.2.2.2.1) (ic := S.2.2.2.2.2.1) (qn := S.2.2.2.2.2.2) (h := (t.1 42).1 0) (X := tkT (t.2 0 0).2.1 X) hce rfl hg (by have := l.2.2.2.1.2; omega) (by omega) ec
    have k2 : caS t (t.2 0 0) X = pShS t S := by
      unfold caS
      rw [eX]
      show nI (shN (frN ((t.1 42).1 0) (tkT (t.2 0 0).2.1 X))) = _
      rw [k, l.1]
      unfold pShS pSh
      with_reducible rfl
    rw [k2]
  have eH : caH t (t.2 0 0) = decide (pE9 (pgg t).2 (ptk t) < 370 ∨ (1 ≤ (t.1 52).1 7 ∧ (t.1 52).1 7 ≤ 19)) := by
    have eI : caI (caG t (t.2 0 0)) (0 + amI t (t.2 0 0)) = pE9 (pgg t).2 (ptk t) := by
      unfold caI poI pE9
      rw [Int32.zero_add, ea, if_neg hnp, if_neg hnp, eG 0 (by decide), eG 1 (by decide)]
    unfold caH ihB
    rw [eI, l.2.1]
    exact decide_eq_decide.mpr (or_congr_right mg_hd)
  refine ⟨⟨?_, ?_, eG, ?_, Or.inl ⟨caV_3, caV_4, pcv_5 _ _ _⟩, ?_⟩, ea, ?_⟩
  · rw [caV_0, pcv_1]
    exact l.2.1
  · rw [caV_5, pcv_0, Int32.zero_add]
    exact ea
  · rw [caV_2, pcv_2]
    have eF : pFbS t S = _ := pfF_b (f := (t.2 3 0).2.1) (nn := (t.2 4 0).2.1) (mg9 := (pgg t).2) (tk := ptk t) (mg := (t.1 52).1 7) (sh := pShS t S) (c := pCo t S.1) hp
    rw [eF, caF_b, eC, eH, q4, q3, q1, q5, q6, q7, q8]
    exact fb_rel _ _ _ _ _ _ _ hs
  · rw [caV_0, pcv_4, l.2.1]
    rfl
  · rw [Int32.toInt_sub, bm32 (by have h9 := Int32.toInt_lt ((t.1 63).1 1); omega) (by have h9 := Int32.toInt_lt ((t.1 63).1 1); omega)]
    omega
