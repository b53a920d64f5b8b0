theorem R_tap {t : zTT} {n n1 n2 : Nat → Nat} {b : Nat} (m : Int32) (h : REL t n b) (e1 : n1 = n) (e2 : n2 = n1) : REL (tK_Mm_tap m (tK_Ip_tap m t)) n2 b := by
  subst e1; subst e2
  unfold tK_Ip_tap
  by_cases hw : 1 ≤ m ∧ m ≤ 500
  · rw [if_pos hw]
    by_cases he0 : (t.1 43).1 0 = 0
    · rw [if_pos he0]
      by_cases hg : (t.1 37).1 0 < m
      · rw [if_pos hg]
        unfold tK_Mm_tap
        refine Eq.mpr (congrArg (fun z => REL z _ _) ((if_pos hw).trans ((if_pos (show (t.1 63).1 1 ≤ 0 by rw [← h.ir.1.2.1, he0]; decide)).trans (if_pos (show (t.1 63).1 0 < m by rw [← h.ir.1.1]; exact hg))))) ?_
        exact h
      · rw [if_neg hg]
        unfold tK_Mm_tap
        refine Eq.mpr (congrArg (fun z => REL z _ _) ((if_pos hw).trans ((if_pos (show (t.1 63).1 1 ≤ 0 by rw [← h.ir.1.2.1, he0]; decide)).trans (if_neg (show ¬ (t.1 63).1 0 < m by rw [← h.ir.1.1]; exact hg))))) ?_
        have hi1 : (t.1 63).1 1 = 0 := by rw [← h.ir.1.2.1]; exact he0
        have hm1 : 0 ≤ m.toInt := by have h1 := hw.1; rw [Int32.le_iff_toInt_le, show (1 : Int32).toInt = 1 from rfl] at h1; omega
        exact ⟨h.pa, h.pt, ((h.sa.u5 (by decide)).u5 (by decide)).u5 (by decide), h.co, h.ir.mv01 (x := m), ⟨by show 0 ≤ ((t.1 63).1 1 + m).toInt; rw [hi1, Int32.zero_add]; exact hm1, fun _ => ⟨rfl, rfl, rfl, by show 20 ≤ (1450 : Int32).toInt ∧ (1450 : Int32).toInt ≤ 1450; decide, by show 0 ≤ (0 : Int32).toInt ∧ (0 : Int32).toInt ≤ 100; decide, Or.inl rfl⟩⟩, h.re, h.mo, h.ca, (by show 0 ≤ ((t.1 63).1 0 - m).toInt ∧ ((t.1 63).1 0 - m).toInt ≤ 3000; exact fb_sub h.fb hw (by rw [← h.ir.1.1]; exact hg)), h.sz, h.pz⟩
    · rw [if_neg he0]
      unfold tK_Mm_tap
      refine Eq.mpr (congrArg (fun z => REL z _ _) ((if_pos hw).trans (if_neg (show ¬ (t.1 63).1 1 ≤ 0 from fun q => he0 (by rw [h.ir.1.2.1]; have h0 := h.la.1; rw [Int32.le_iff_toInt_le, show (0 : Int32).toInt = 0 from rfl] at q; exact Int32.toInt_inj.mp (by rw [show (0 : Int32).toInt = 0 from rfl]; omega)))))) ?_
      exact h
  · rw [if_neg hw]
    unfold tK_Mm_tap
    refine Eq.mpr (congrArg (fun z => REL z _ _) (if_neg hw)) ?_
    exact h
theorem R_pig {t : zTT} {n n1 n2 : Nat → Nat} {b : Nat} (h : REL t n b) (e1 : n1 = n) (e2 : n2 = n1) : REL (tK_Mm_pig (tK_Ip_pig t)) n2 b := by
  subst e1; subst e2
  unfold tK_Ip_pig
  by_cases he0 : (t.1 43).1 0 = 0
  · rw [if_pos he0]
    unfold tK_Mm_pig
    refine Eq.mpr (congrArg (fun z => REL z _ _) (if_pos (show (t.1 63).1 1 = 0 by rw [← h.ir.1.2.1]; exact he0))) ?_
    exact h
  · rw [if_neg he0]
    by_cases hw : (t.1 42).1 2 = 0
    · rw [if_pos hw]
      unfold tK_Mm_pig
      refine Eq.mpr (congrArg (fun z => REL z _ _) ((if_neg (show ¬ (t.1 63).1 1 = 0 by rw [← h.ir.1.2.1]; exact he0)).trans (if_pos (show (t.1 52).1 8 = 0 by rw [← (h.la.2 (by rw [← h.ir.1.2.1]; exact he0)).2.2.1]; exact hw)))) ?_
      have k := h.ir.mv12 (x := (t.1 43).1 0)
      have e9 : (t.1 43).1 0 = (t.1 63).1 1 := h.ir.1.2.1
      exact ⟨h.pa, h.pt, h.sa, h.co, (by have k2 := k; rw [e9] at k2; show RELI _ _ _ _ _ _ _ _ _ _; rw [e9]; exact k2), ⟨by show 0 ≤ ((t.1 63).1 1 - (t.1 63).1 1).toInt; rw [Int32.sub_self]; decide, fun q => absurd (show (t.1 63).1 1 - (t.1 63).1 1 = 0 from Int32.sub_self _) q⟩, h.re, h.mo, h.ca, h.fb, h.sz, h.pz⟩
    · rw [if_neg hw]
      unfold tK_Mm_pig
      refine Eq.mpr (congrArg (fun z => REL z _ _) ((if_neg (show ¬ (t.1 63).1 1 = 0 by rw [← h.ir.1.2.1]; exact he0)).trans (if_neg (show ¬ (t.1 52).1 8 = 0 by rw [← (h.la.2 (by rw [← h.ir.1.2.1]; exact he0)).2.2.1]; exact hw)))) ?_
      have k := h.ir.mv13 (x := (t.1 43).1 0)
      have e9 : (t.1 43).1 0 = (t.1 63).1 1 := h.ir.1.2.1
      exact ⟨h.pa, h.pt, h.sa, h.co, (by have k2 := k; rw [e9] at k2; show RELI _ _ _ _ _ _ _ _ _ _; rw [e9]; exact k2), ⟨by show 0 ≤ ((t.1 63).1 1 - (t.1 63).1 1).toInt; rw [Int32.sub_self]; decide, fun q => absurd (show (t.1 63).1 1 - (t.1 63).1 1 = 0 from Int32.sub_self _) q⟩, h.re, h.mo, h.ca, h.fb, h.sz, h.pz⟩
theorem R_hold {t : zTT} {n n1 n2 : Nat → Nat} {b : Nat} (x : Int32) (h : REL t n b) (e1 : n1 = n) (e2 : n2 = n1) : REL (tK_Mm_hold x (tK_Ip_hold x t)) n2 b := by
  subst e1; subst e2
  unfold tK_Ip_hold
  by_cases hw : 1 ≤ x ∧ x ≤ 120
  · rw [if_pos hw]
    unfold tK_Mm_hold
    refine Eq.mpr (congrArg (fun z => REL z _ _) (if_pos hw)) ?_
    exact ⟨h.pa, h.pt, h.sa, h.co, h.ir.hold x.toNatClampNeg, h.la, h.re, h.mo, h.ca, h.fb, h.sz, h.pz⟩
  · rw [if_neg hw]
    unfold tK_Mm_hold
    refine Eq.mpr (congrArg (fun z => REL z _ _) (if_neg hw)) ?_
    exact h
theorem vup_at {V : Nat → Nat → zV} {M j : Nat} {v : zV} : vup V M j v M j = v := if_pos ⟨rfl, rfl⟩
theorem vup_ne {V : Nat → Nat → zV} {M i j : Nat} {v : zV} (h : ¬ i = j) : vup V M j v M i = V M i := if_neg (fun q => h q.2)
theorem ca_set {V : Nat → Nat → zV} {n : Nat → Nat} {k : Nat} {v a : zV} (h : n 1 = n 5 ∧ n 6 = n 5 ∧ ∀ i, i < n 1 → RELc (V 1 i) (V 5 i) (V 6 i)) (hv : RELc v a (V 6 k)) : n 1 = n 5 ∧ n 6 = n 5 ∧ ∀ i, i < n 1 → RELc (vup V 1 k v 1 i) (vup V 5 k a 5 i) (V 6 i) := by
  refine ⟨h.1, h.2.1, fun i hi => ?_⟩
  by_cases q : i = k
  · subst q
    rw [vup_at, vup_at]
    exact hv
  · rw [vup_ne q, vup_ne q]
    exact h.2.2 i hi
theorem ca_set1 {V : Nat → Nat → zV} {n : Nat → Nat} {k : Nat} {v : zV} (h : n 1 = n 5 ∧ n 6 = n 5 ∧ ∀ i, i < n 1 → RELc (V 1 i) (V 5 i) (V 6 i)) (hv : RELc v (V 5 k) (V 6 k)) : n 1 = n 5 ∧ n 6 = n 5 ∧ ∀ i, i < n 1 → RELc (vup V 1 k v 1 i) (V 5 i) (V 6 i) := by
  refine ⟨h.1, h.2.1, fun i hi => ?_⟩
  by_cases q : i = k
  · subst q
    rw [vup_at]
    exact hv
  · rw [vup_ne q]
    exact h.2.2 i hi
theorem RELc.s {v a g : zV} (h : RELc v a g) : (v.1 3 = 0 ∧ v.1 4 = 0) ↔ a.2.1 5 = 0 := by
  rcases h.2.2.2.2.1 with ⟨p, q, r⟩ | ⟨p, q, r⟩ | ⟨p, q, r⟩
  · exact ⟨fun _ => r, fun _ => ⟨p, q⟩⟩
  · rw [p, r]; exact ⟨fun z => absurd z.1 (by decide), fun z => absurd z (by decide)⟩
  · rw [q, r]; exact ⟨fun z => absurd z.2 (by decide), fun z => absurd z (by decide)⟩
theorem and_m2 (x c : Int32) (h : (-2 : Int32) &&& c = c) : (x &&& -2) &&& c = x &&& c := by rw [Int32.and_assoc, h]
theorem RELc.b {v a g : zV} (h : RELc v a g) (c : Int32) (hc : (-2 : Int32) &&& c = c) : v.1 2 &&& c = a.2.1 2 &&& c := by
  rw [← and_m2 _ c hc, h.2.2.2.1.1, and_m2 _ c hc]
theorem RELc.f {v a g : zV} (h : RELc v a g) : v.1 2 = 0 ↔ a.2.1 2 = 0 := by
  have h2 := h.b 2 (by decide)
  constructor
  · intro q
    rw [← h.2.2.2.1.2 (by rw [q]; decide)]
    exact q
  · intro q
    rw [h.2.2.2.1.2 (by rw [h2, q]; decide)]
    exact q
theorem RELc.d {v a g : zV} (h : RELc v a g) : v.1 0 < 20 ↔ ¬ a.2.1 4 = 1 := by
  rw [h.2.2.2.2.2]
  by_cases q : v.1 0 < 20
  · rw [if_pos q]; exact ⟨fun _ => by decide, fun _ => q⟩
  · rw [if_neg q]; exact ⟨fun z => absurd z q, fun z => absurd rfl z⟩
theorem R_deliver {t : zTT} {n n1 n2 : Nat → Nat} {b : Nat} (x : Int32) (h : REL t n b) (e1 : n1 = n) (e2 : n2 = n1) : REL (tK_Mm_deliver x (tK_Ip_deliver x t n) n1) n2 b := by
  subst e1; subst e2
  unfold tK_Ip_deliver
  by_cases hx : x.toNatClampNeg < n2 1 ∧ x = nI x.toNatClampNeg
  · rw [if_pos hx]
    have hr : x.toNatClampNeg < n2 5 ∧ x = nI x.toNatClampNeg := ⟨h.ca.1 ▸ hx.1, hx.2⟩
    have hc := h.ca.2.2 _ hx.1
    by_cases h34 : (t.2 1 x.toNatClampNeg).1 3 = 0 ∧ (t.2 1 x.toNatClampNeg).1 4 = 0
    · rw [if_pos h34]
      by_cases h5 : (t.2 1 x.toNatClampNeg).1 2 = 0
      · rw [if_pos h5]
        unfold tK_Mm_deliver
        refine Eq.mpr (congrArg (fun z => REL z _ _) ((if_pos hr).trans ((if_pos (show (t.2 5 x.toNatClampNeg).2.1 5 = 0 from hc.s.mp h34)).trans (if_pos (show (t.2 5 x.toNatClampNeg).2.1 2 = 0 from hc.f.mp h5))))) ?_
        exact ⟨h.pa, h.pt, h.sa, h.co, h.ir, h.la, h.re, h.mo, ca_set h.ca ⟨hc.1, hc.2.1, hc.2.2.1, hc.2.2.2.1, Or.inr (Or.inl ⟨rfl, h34.2, rfl⟩), hc.2.2.2.2.2⟩, h.fb, h.sz, h.pz⟩
      · rw [if_neg h5]
        unfold tK_Mm_deliver
        refine Eq.mpr (congrArg (fun z => REL z _ _) ((if_pos hr).trans ((if_pos (show (t.2 5 x.toNatClampNeg).2.1 5 = 0 from hc.s.mp h34)).trans (if_neg (show ¬ (t.2 5 x.toNatClampNeg).2.1 2 = 0 from fun q => h5 (hc.f.mpr q)))))) ?_
        exact ⟨h.pa, h.pt, h.sa, h.co, h.ir, h.la, h.re, h.mo, ca_set1 h.ca ⟨hc.1, hc.2.1, hc.2.2.1, hc.2.2.2.1, Or.inl ⟨rfl, h34.2, hc.s.mp h34⟩, hc.2.2.2.2.2⟩, h.fb, h.sz, h.pz⟩
    · rw [if_neg h34]
      unfold tK_Mm_deliver
      refine Eq.mpr (congrArg (fun z => REL z _ _) ((if_pos hr).trans (if_neg (show ¬ (t.2 5 x.toNatClampNeg).2.1 5 = 0 from fun q => h34 (hc.s.mpr q))))) ?_
      exact h
  · rw [if_neg hx]
    unfold tK_Mm_deliver
    refine Eq.mpr (congrArg (fun z => REL z _ _) (if_neg (show ¬ (x.toNatClampNeg < n2 5 ∧ x = nI x.toNatClampNeg) from fun q => hx ⟨h.ca.1.symm ▸ q.1, q.2⟩))) ?_
    exact h
theorem R_weld {t : zTT} {n n1 n2 : Nat → Nat} {b : Nat} (x : Int32) (h : REL t n b) (e1 : n1 = n) (e2 : n2 = n1) : REL (tK_Mm_weld x (tK_Ip_weld x t n) n1) n2 b := by
  subst e1; subst e2
  unfold tK_Ip_weld
  by_cases hx : x.toNatClampNeg < n2 1 ∧ x = nI x.toNatClampNeg
  · rw [if_pos hx]
    have hr : x.toNatClampNeg < n2 5 ∧ x = nI x.toNatClampNeg := ⟨h.ca.1 ▸ hx.1, hx.2⟩
    have hc := h.ca.2.2 _ hx.1
    by_cases h12 : (t.2 1 x.toNatClampNeg).1 0 < 20 ∧ (t.2 1 x.toNatClampNeg).1 2 &&& 32 = 0
    · rw [if_pos h12]
      by_cases h34 : (t.2 1 x.toNatClampNeg).1 3 = 0 ∧ (t.2 1 x.toNatClampNeg).1 4 = 0
      · rw [if_pos h34]
        unfold tK_Mm_weld
        refine Eq.mpr (congrArg (fun z => REL z _ _) ((if_pos hr).trans ((if_pos (show ¬ (t.2 5 x.toNatClampNeg).2.1 4 = 1 ∧ (t.2 5 x.toNatClampNeg).2.1 2 &&& 32 = 0 from ⟨hc.d.mp h12.1, (hc.b 32 (by decide)).symm.trans h12.2⟩)).trans (if_pos (show (t.2 5 x.toNatClampNeg).2.1 5 = 0 from hc.s.mp h34))))) ?_
        exact ⟨h.pa, h.pt, h.sa, h.co, h.ir, h.la, h.re, h.mo, ca_set h.ca ⟨hc.1, hc.2.1, hc.2.2.1, ⟨by show ((t.2 1 x.toNatClampNeg).1 2 &&& -5) &&& -2 = ((t.2 5 x.toNatClampNeg).2.1 2 &&& -5) &&& -2; rw [Int32.and_assoc, Int32.and_assoc, show (-5 : Int32) &&& -2 = -2 &&& -5 by decide, ← Int32.and_assoc, ← Int32.and_assoc, hc.2.2.2.1.1], fun q => by show (t.2 1 x.toNatClampNeg).1 2 &&& -5 = (t.2 5 x.toNatClampNeg).2.1 2 &&& -5; rw [hc.2.2.2.1.2 (by have q2 : ((t.2 1 x.toNatClampNeg).1 2 &&& -5) &&& 2 = 0 := q; rw [Int32.and_assoc, show (-5 : Int32) &&& 2 = 2 by decide] at q2; exact q2)]⟩, hc.2.2.2.2.1, hc.2.2.2.2.2⟩, h.fb, h.sz, h.pz⟩
      · rw [if_neg h34]
        unfold tK_Mm_weld
        refine Eq.mpr (congrArg (fun z => REL z _ _) ((if_pos hr).trans ((if_pos (show ¬ (t.2 5 x.toNatClampNeg).2.1 4 = 1 ∧ (t.2 5 x.toNatClampNeg).2.1 2 &&& 32 = 0 from ⟨hc.d.mp h12.1, (hc.b 32 (by decide)).symm.trans h12.2⟩)).trans (if_neg (show ¬ (t.2 5 x.toNatClampNeg).2.1 5 = 0 from fun q => h34 (hc.s.mpr q)))))) ?_
        exact h
    · rw [if_neg h12]
      unfold tK_Mm_weld
      refine Eq.mpr (congrArg (fun z => REL z _ _) ((if_pos hr).trans (if_neg (show ¬ (¬ (t.2 5 x.toNatClampNeg).2.1 4 = 1 ∧ (t.2 5 x.toNatClampNeg).2.1 2 &&& 32 = 0) from fun q => h12 ⟨hc.d.mpr q.1, (hc.b 32 (by decide)).trans q.2⟩)))) ?_
      exact h
  · rw [if_neg hx]
    unfold tK_Mm_weld
    refine Eq.mpr (congrArg (fun z => REL z _ _) (if_neg (show ¬ (x.toNatClampNeg < n2 5 ∧ x = nI x.toNatClampNeg) from fun q => hx ⟨h.ca.1.symm ▸ q.1, q.2⟩))) ?_
    exact h
theorem R_breakUp {t : zTT} {n n1 n2 : Nat → Nat} {b : Nat} (x : Int32) (h : REL t n b) (e1 : n1 = n) (e2 : n2 = n1) : REL (tK_Mm_breakUp x (tK_Ip_breakUp x t n) n1) n2 b := by
  subst e1; subst e2
  unfold tK_Ip_breakUp
  by_cases hx : x.toNatClampNeg < n2 1 ∧ x = nI x.toNatClampNeg
  · rw [if_pos hx]
    have hr : x.toNatClampNeg < n2 5 ∧ x = nI x.toNatClampNeg := ⟨h.ca.1 ▸ hx.1, hx.2⟩
    have hc := h.ca.2.2 _ hx.1
    by_cases h34 : (t.2 1 x.toNatClampNeg).1 3 = 0 ∧ (t.2 1 x.toNatClampNeg).1 4 = 0
    · rw [if_pos h34]
      by_cases h5 : (t.2 1 x.toNatClampNeg).1 0 < 20
      · rw [if_pos h5]
        unfold tK_Mm_breakUp
        refine Eq.mpr (congrArg (fun z => REL z _ _) ((if_pos hr).trans ((if_pos (show (t.2 5 x.toNatClampNeg).2.1 5 = 0 from hc.s.mp h34)).trans (if_neg (show ¬ (t.2 5 x.toNatClampNeg).2.1 4 = 1 from hc.d.mp h5))))) ?_
        exact ⟨h.pa, h.pt, h.sa, h.co, h.ir.bu2 hc.2.1 hc.2.2.1, h.la, h.re, h.mo, ca_set h.ca ⟨hc.1, hc.2.1, hc.2.2.1, hc.2.2.2.1, Or.inr (Or.inr ⟨h34.1, rfl, rfl⟩), hc.2.2.2.2.2⟩, h.fb, h.sz, h.pz⟩
      · rw [if_neg h5]
        unfold tK_Mm_breakUp
        refine Eq.mpr (congrArg (fun z => REL z _ _) ((if_pos hr).trans ((if_pos (show (t.2 5 x.toNatClampNeg).2.1 5 = 0 from hc.s.mp h34)).trans (if_pos (show (t.2 5 x.toNatClampNeg).2.1 4 = 1 from Classical.not_not.mp (fun q => h5 (hc.d.mpr q))))))) ?_
        exact ⟨h.pa, h.pt, h.sa, h.co, h.ir.bu3 hc.2.1 hc.2.2.1, h.la, h.re, h.mo, ca_set h.ca ⟨hc.1, hc.2.1, hc.2.2.1, hc.2.2.2.1, Or.inr (Or.inr ⟨h34.1, rfl, rfl⟩), hc.2.2.2.2.2⟩, h.fb, h.sz, h.pz⟩
    · rw [if_neg h34]
      unfold tK_Mm_breakUp
      refine Eq.mpr (congrArg (fun z => REL z _ _) ((if_pos hr).trans (if_neg (show ¬ (t.2 5 x.toNatClampNeg).2.1 5 = 0 from fun q => h34 (hc.s.mpr q))))) ?_
      exact h
  · rw [if_neg hx]
    unfold tK_Mm_breakUp
    refine Eq.mpr (congrArg (fun z => REL z _ _) (if_neg (show ¬ (x.toNatClampNeg < n2 5 ∧ x = nI x.toNatClampNeg) from fun q => hx ⟨h.ca.1.symm ▸ q.1, q.2⟩))) ?_
    exact h
theorem mil_1 {a b m : Int32} (h : a = b ∧ 0 ≤ a.toInt ∧ a.toInt ≤ 300) (hm : 0 ≤ m ∧ m ≤ 20) : (if a + m < 300 then a + m else 300) = S_Mm_most (b + m) ∧ 0 ≤ (if a + m < 300 then a + m else 300).toInt ∧ (if a + m < 300 then a + m else 300).toInt ≤ 300 := by
  obtain ⟨rfl, h1, h2⟩ := h
  have e0 : (0 : Int32).toInt = 0 := rfl
  have e2 : (20 : Int32).toInt = 20 := rfl
  have e3 : (300 : Int32).toInt = 300 := rfl
  have m1 := hm.1
  have m2 := hm.2
  rw [Int32.le_iff_toInt_le, e0] at m1
  rw [Int32.le_iff_toInt_le, e2] at m2
  have e : (a + m).toInt = a.toInt + m.toInt := by rw [Int32.toInt_add]; exact bm32 (by omega) (by omega)
  refine ⟨(z_sat e (by omega)).symm, ?_⟩
  by_cases q : a + m < 300
  · rw [if_pos q, e]
    rw [Int32.lt_iff_toInt_lt, e3, e] at q
    omega
  · rw [if_neg q, e3]
    omega
theorem mil_2 {a b m : Int32} (h : a = b ∧ 0 ≤ a.toInt ∧ a.toInt ≤ 300) (hm : 0 ≤ m ∧ m ≤ 50) : a - a * m / 100 = b - b * m / 100 ∧ 0 ≤ (a - a * m / 100).toInt ∧ (a - a * m / 100).toInt ≤ 300 := by
  obtain ⟨rfl, h1, h2⟩ := h
  have e0 : (0 : Int32).toInt = 0 := rfl
  have e2 : (50 : Int32).toInt = 50 := rfl
  have e3 : (100 : Int32).toInt = 100 := rfl
  have m1 := hm.1
  have m2 := hm.2
  rw [Int32.le_iff_toInt_le, e0] at m1
  rw [Int32.le_iff_toInt_le, e2] at m2
  have p0 : 0 ≤ a.toInt * m.toInt := Int.mul_nonneg h1 m1
  have p1 : a.toInt * m.toInt ≤ a.toInt * 50 := Int.mul_le_mul_of_nonneg_left m2 h1
  have ea : (a * m).toInt = a.toInt * m.toInt := by rw [Int32.toInt_mul]; exact bm32 (by omega) (by omega)
  have ed : (a * m / 100).toInt = a.toInt * m.toInt / 100 := by
    rw [Int32.toInt_div, ea, e3, Int.tdiv_eq_ediv_of_nonneg p0]
    exact bm32 (by omega) (by omega)
  have es : (a - a * m / 100).toInt = a.toInt - a.toInt * m.toInt / 100 := by rw [Int32.toInt_sub, ed]; exact bm32 (by omega) (by omega)
  rw [es]
  exact ⟨rfl, by omega, by omega⟩
theorem R_mill {t : zTT} {n n1 n2 : Nat → Nat} {b : Nat} (m1 m2 m3 m4 : Int32) (h : REL t n b) (e1 : n1 = n) (e2 : n2 = n1) : REL (tK_Mm_mill m1 m2 m3 m4 (tK_Ip_mill m1 m2 m3 m4 t)) n2 b := by
  subst e1; subst e2
  unfold tK_Ip_mill
  by_cases hw : (0 ≤ m1 ∧ m1 ≤ 20) ∧ (0 ≤ m2 ∧ m2 ≤ 20) ∧ (0 ≤ m3 ∧ m3 ≤ 20) ∧ (0 ≤ m4 ∧ m4 ≤ 50)
  · rw [if_pos hw]
    unfold tK_Mm_mill
    refine Eq.mpr (congrArg (fun z => REL z _ _) (if_pos hw)) ?_
    exact ⟨h.pa, h.pt, fun i hi => match i, hi with
      | 0, _ => mil_1 (h.sa 0 (by decide)) hw.1
      | 1, _ => mil_1 (h.sa 1 (by decide)) hw.2.1
      | 2, _ => mil_1 (h.sa 2 (by decide)) hw.2.2.1
      | 3, _ => mil_2 (h.sa 3 (by decide)) hw.2.2.2
      | 4, _ => mil_2 (h.sa 4 (by decide)) hw.2.2.2
      | k + 5, hk => absurd hk (by omega), h.co, h.ir, h.la, h.re, h.mo, h.ca, h.fb, h.sz, h.pz⟩
  · rw [if_neg hw]
    unfold tK_Mm_mill
    refine Eq.mpr (congrArg (fun z => REL z _ _) (if_neg hw)) ?_
    exact h
theorem mg_add {a m : Int32} (h : 0 ≤ a.toInt ∧ a.toInt ≤ 100) (hm : 1 ≤ m ∧ m ≤ 100) (hg : a + m ≤ 100) : 0 ≤ (a + m).toInt ∧ (a + m).toInt ≤ 100 := by
  have e1 : (1 : Int32).toInt = 1 := rfl
  have e2 : (100 : Int32).toInt = 100 := rfl
  have m1 := hm.1
  have m2 := hm.2
  rw [Int32.le_iff_toInt_le, e1] at m1
  rw [Int32.le_iff_toInt_le, e2] at m2 hg
  have e : (a + m).toInt = a.toInt + m.toInt := by rw [Int32.toInt_add]; exact bm32 (by omega) (by omega)
  omega
theorem wd_if {a wd : Int32} {c : Prop} [Decidable c] (h : wd = 0 ∨ wd = 1) : (if c then wd else 1) = (if wd = 0 then if c then 0 else 1 else 1) ∧ ((if c then wd else 1) = 0 ∨ (if c then wd else 1) = 1) := by
  rcases h with rfl | rfl
  · by_cases hc : c
    · simp [hc]
    · simp [hc]
  · by_cases hc : c
    · simp [hc]
    · simp [hc]
theorem R_treat {t : zTT} {n n1 n2 : Nat → Nat} {b : Nat} (m : Int32) (h : REL t n b) (e1 : n1 = n) (e2 : n2 = n1) : REL (tK_Mm_treat m (tK_Ip_treat m t)) n2 b := by
  subst e1; subst e2
  unfold tK_Ip_treat
  by_cases hw : 1 ≤ m ∧ m ≤ 100
  · rw [if_pos hw]
    by_cases he0 : (t.1 43).1 0 = 0
    · rw [if_pos he0]
      unfold tK_Mm_treat
      refine Eq.mpr (congrArg (fun z => REL z _ _) ((if_pos hw).trans (if_pos (show (t.1 63).1 1 = 0 by rw [← h.ir.1.2.1]; exact he0)))) ?_
      exact h
    · rw [if_neg he0]
      have hn : ¬ (t.1 63).1 1 = 0 := by rw [← h.ir.1.2.1]; exact he0
      have l := h.la.2 hn
      by_cases hg : (t.1 42).1 1 + m ≤ 100
      · rw [if_pos hg]
        unfold tK_Mm_treat
        refine Eq.mpr (congrArg (fun z => REL z _ _) ((if_pos hw).trans ((if_neg hn).trans (if_pos (show (t.1 52).1 7 + m ≤ 100 by rw [← l.2.1]; exact hg))))) ?_
        have w9 := wd_if (a := 0) (c := (t.1 42).1 1 + m < 20) l.2.2.2.2.2
        refine ⟨h.pa, h.pt, (h.sa.u5 (by decide)).u5 (by decide), h.co, h.ir, ⟨h.la.1, fun _ => ⟨l.1, ?_, ?_, l.2.2.2.1, mg_add l.2.2.2.2.1 hw hg, w9.2⟩⟩, h.re, h.mo, h.ca, h.fb, h.sz, h.pz⟩
        · show (t.1 42).1 1 + m = (t.1 52).1 7 + m
          rw [l.2.1]
        · show (if (t.1 42).1 1 + m < 20 then (t.1 42).1 2 else 1) = (if (t.1 52).1 8 = 0 then if (t.1 52).1 7 + m < 20 then 0 else 1 else 1)
          rw [← l.2.1, ← l.2.2.1]
          exact w9.1
      · rw [if_neg hg]
        unfold tK_Mm_treat
        refine Eq.mpr (congrArg (fun z => REL z _ _) ((if_pos hw).trans ((if_neg hn).trans (if_neg (show ¬ (t.1 52).1 7 + m ≤ 100 by rw [← l.2.1]; exact hg))))) ?_
        exact h
  · rw [if_neg hw]
    unfold tK_Mm_treat
    refine Eq.mpr (congrArg (fun z => REL z _ _) (if_neg hw)) ?_
    exact h
theorem R_makeCores {t : zTT} {n n1 n2 : Nat → Nat} {b : Nat} (hb : b ≤ 100000) (c k : Int32) (h : REL t n b) (e1 : n1 = n) (e2 : n2 = nK_Mm_makeCores c k (tK_Ip_makeCores c k t) n1) : REL (tK_Mm_makeCores c k (tK_Ip_makeCores c k t) n1) n2 b := by
  subst e1
  rw [e2]
  unfold tK_Ip_makeCores
  by_cases hw : (1 ≤ c ∧ c ≤ 10) ∧ (1 ≤ k ∧ k ≤ 24)
  · rw [if_pos hw]
    by_cases hf : (t.1 32).2.2 0 < 20
    · rw [if_pos hf]
      have hn : ¬ n1 2 = 20 := by rw [← h.co.1]; omega
      unfold tK_Mm_makeCores nK_Mm_makeCores
      refine Eq.mpr (congrArg (fun z => REL z _ _) ((if_pos hw).trans (if_pos hn))) ?_
      refine Eq.mpr (congrArg (fun z => REL _ z _) ((if_pos hw).trans (if_pos hn))) ?_
      refine ⟨h.pa, h.pt, h.sa, ⟨?_, h.co.2.1, fun i hi => ?_⟩, h.ir, h.la, h.re, h.mo, h.ca, h.fb, ⟨by show n1 2 + 1 ≤ 20; rw [← h.co.1]; omega, h.sz.2⟩, h.pz⟩
      · show (t.1 32).2.2 0 + 1 = n1 2 + 1
        rw [h.co.1]
      · have hi : i < n1 2 + 1 := hi
        show (upd (t.1 33).1 ((t.1 32).2.2 0) c) i = ((if i = n1 2 then mkV c ((t.1 52).1 5 + k) else t.2 2 i) : zV).2.1 0 ∧ (1 ≤ ((upd (t.1 33).1 ((t.1 32).2.2 0) c) i).toInt ∧ ((upd (t.1 33).1 ((t.1 32).2.2 0) c) i).toInt ≤ 10) ∧ (1 ≤ ((upd (t.1 34).1 ((t.1 32).2.2 0) k) i).toInt ∧ ((upd (t.1 34).1 ((t.1 32).2.2 0) k) i).toInt ≤ 24) ∧ (0 ≤ ((upd (t.1 35).1 ((t.1 32).2.2 0) 0) i).toInt ∧ ((upd (t.1 35).1 ((t.1 32).2.2 0) 0) i).toInt ≤ ((upd (t.1 34).1 ((t.1 32).2.2 0) k) i).toInt + 72) ∧ (((if i = n1 2 then mkV c ((t.1 52).1 5 + k) else t.2 2 i) : zV).2.1 1).toInt = ((t.1 52).1 5).toInt - ((upd (t.1 35).1 ((t.1 32).2.2 0) 0) i).toInt + ((upd (t.1 34).1 ((t.1 32).2.2 0) k) i).toInt
        rw [h.co.1]
        by_cases q : i = n1 2
        · subst q
          rw [upd_eq, upd_eq, upd_eq, if_pos rfl]
          have a1 := hw.1.1
          have a2 := hw.1.2
          have b1 := hw.2.1
          have b2 := hw.2.2
          rw [Int32.le_iff_toInt_le, show (1 : Int32).toInt = 1 from rfl] at a1 b1
          rw [Int32.le_iff_toInt_le, show (10 : Int32).toInt = 10 from rfl] at a2
          rw [Int32.le_iff_toInt_le, show (24 : Int32).toInt = 24 from rfl] at b2
          refine ⟨rfl, ⟨a1, a2⟩, ⟨b1, b2⟩, ⟨by decide, by rw [show (0 : Int32).toInt = 0 from rfl]; omega⟩, ?_⟩
          show ((t.1 52).1 5 + k).toInt = _
          have hh := h.co.2.1
          rw [Int32.toInt_add, show (0 : Int32).toInt = 0 from rfl, bm32 (by omega) (by omega)]
          omega
        · rw [upd_ne q, upd_ne q, upd_ne q, if_neg q]
          exact h.co.2.2 i (by omega)
    · rw [if_neg hf]
      have h20 : ¬ ¬ n1 2 = 20 := fun q => q (by have e8 := h.co.1; have e9 := h.sz.1; omega)
      unfold tK_Mm_makeCores nK_Mm_makeCores
      refine Eq.mpr (congrArg (fun z => REL z _ _) ((if_pos hw).trans (if_neg h20))) ?_
      refine Eq.mpr (congrArg (fun z => REL _ z _) ((if_pos hw).trans (if_neg h20))) ?_
      exact h
  · rw [if_neg hw]
    unfold tK_Mm_makeCores nK_Mm_makeCores
    refine Eq.mpr (congrArg (fun z => REL z _ _) (if_neg hw)) ?_
    refine Eq.mpr (congrArg (fun z => REL _ z _) (if_neg hw)) ?_
    exact h
theorem lhS_i {h : Int32} (h1 : 20 ≤ h.toInt) (h2 : h.toInt ≤ 1450) : ∀ i, i ≤ 60 → (lhS h i).toInt = (if 20 < h.toInt - 4 * (i : Int) then h.toInt - 4 * (i : Int) else 20) ∧ 20 ≤ (lhS h i).toInt ∧ (lhS h i).toInt ≤ 1450
  | 0, _ => by
    show h.toInt = _ ∧ 20 ≤ h.toInt ∧ h.toInt ≤ 1450
    refine ⟨?_, h1, h2⟩
    split <;> omega
  | i + 1, hi => by
    obtain ⟨e, k1, k2⟩ := lhS_i h1 h2 i (by omega)
    have e4 : (4 : Int32).toInt = 4 := rfl
    have e20 : (20 : Int32).toInt = 20 := rfl
    have es : (lhS h i - 4).toInt = (lhS h i).toInt - 4 := by rw [Int32.toInt_sub, e4]; exact bm32 (by omega) (by omega)
    show (if 20 < lhS h i - 4 then lhS h i - 4 else 20).toInt = _ ∧ 20 ≤ (if 20 < lhS h i - 4 then lhS h i - 4 else 20).toInt ∧ (if 20 < lhS h i - 4 then lhS h i - 4 else 20).toInt ≤ 1450
    have ec : ((i + 1 : Nat) : Int) = (i : Int) + 1 := by omega
    rw [ec]
    by_cases q : 20 < lhS h i - 4
    · rw [if_pos q, es]
      rw [Int32.lt_iff_toInt_lt, e20, es] at q
      refine ⟨?_, by omega, by omega⟩
      split at e <;> split <;> omega
    · rw [if_neg q, e20]
      rw [Int32.lt_iff_toInt_lt, e20, es] at q
      refine ⟨?_, by omega, by omega⟩
      split at e <;> split <;> omega
theorem lhS_eq {h : Int32} {a : Nat} (h1 : 20 ≤ h.toInt) (h2 : h.toInt ≤ 1450) (ha : a ≤ 60) : (if 20 < h - 4 * nI a then h - 4 * nI a else 20) = lhS h a := by
  have k := (lhS_i h1 h2 a ha).1
  have e20 : (20 : Int32).toInt = 20 := rfl
  have e4 : (4 * nI a : Int32) = nI (4 * a) := pk_mul _ _
  have es : (h - nI (4 * a)).toInt = h.toInt - 4 * (a : Int) := by rw [Int32.toInt_sub, nI_toInt (by omega), bm32 (by omega) (by omega)]; omega
  rw [e4]
  refine Int32.toInt_inj.mp ?_
  rw [k]
  by_cases q : 20 < h - nI (4 * a)
  · rw [if_pos q, es]
    rw [Int32.lt_iff_toInt_lt, e20, es] at q
    rw [if_pos q]
  · rw [if_neg q, e20]
    rw [Int32.lt_iff_toInt_lt, e20, es] at q
    rw [if_neg q]
theorem mgS_i {m : Int32} (h1 : 0 ≤ m.toInt) (h2 : m.toInt ≤ 100) : ∀ i, 0 ≤ (mgS m i).toInt ∧ (mgS m i).toInt ≤ 100
  | 0 => ⟨h1, h2⟩
  | i + 1 => by
    obtain ⟨k1, k2⟩ := mgS_i h1 h2 i
    have e19 : (19 : Int32).toInt = 19 := rfl
    have e20 : (20 : Int32).toInt = 20 := rfl
    have ea : (mgS m i + 19).toInt = (mgS m i).toInt + 19 := by rw [Int32.toInt_add, e19]; exact bm32 (by omega) (by omega)
    have ed : ((mgS m i + 19) / 20).toInt = ((mgS m i).toInt + 19) / 20 := by
      rw [Int32.toInt_div, ea, e20, Int.tdiv_eq_ediv_of_nonneg (by omega)]
      exact bm32 (by omega) (by omega)
    show 0 ≤ (mgS m i - (mgS m i + 19) / 20).toInt ∧ (mgS m i - (mgS m i + 19) / 20).toInt ≤ 100
    have es : (mgS m i - (mgS m i + 19) / 20).toInt = (mgS m i).toInt - ((mgS m i).toInt + 19) / 20 := by rw [Int32.toInt_sub, ed]; exact bm32 (by omega) (by omega)
    rw [es]
    omega
theorem mo_wt {t : zTT} {n : Nat → Nat} {x : Int32} (h : n 0 = n 3 ∧ n 4 = n 3 ∧ ∀ i, i < n 0 → RELm (t.2 0 i) (t.2 3 i) (t.2 4 i)) : n 0 = n 3 ∧ n 4 = n 3 ∧ ∀ i, i < n 0 → RELm (if 0 = 0 ∧ i < n 0 then wtV9 x (t.2 0 i) else t.2 0 i) (t.2 3 i) (if 4 = 4 ∧ i < n 4 then nuV9 x (t.2 4 i) else t.2 4 i) := by
  refine ⟨h.1, h.2.1, fun i hi => ?_⟩
  rw [if_pos ⟨rfl, hi⟩, if_pos ⟨rfl, by have := h.1; have := h.2.1; omega⟩]
  obtain ⟨a1, a2, a3, a4, a5, a6, a7, a8⟩ := h.2.2 i hi
  refine ⟨a1, a2, a3, a4, a5, a6, a7, ?_⟩
  show (t.2 0 i).1 5 + x = (t.2 4 i).2.1 4 + x
  rw [a8]
