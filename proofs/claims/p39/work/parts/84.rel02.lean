theorem R_minutes {t : zTT} {n n1 n2 : Nat → Nat} {b : Nat} (x : Int32) (h : REL t n b) (e1 : n1 = n) (e2 : n2 = n1) : REL (tK_Mm_minutes x (tK_Ip_minutes x t n) n1) n2 b := by
  subst e1; subst e2
  unfold tK_Ip_minutes
  by_cases hw : 1 ≤ x ∧ x ≤ 60
  · rw [if_pos hw]
    obtain ⟨a9, ha9, e9⟩ := z_in20 (b := 60) (by decide) ⟨Int32.le_trans (by decide) hw.1, hw.2⟩
    subst e9
    have ek : (nI a9).toNatClampNeg = a9 := nI_clamp (by omega)
    rw [ek]
    unfold tK_Mm_minutes
    refine Eq.mpr (congrArg (fun z => REL z _ _) (if_pos hw)) ?_
    by_cases h1 : (t.1 63).1 1 ≤ 0
    · refine Eq.mpr (congrArg (fun z => REL (elT 4 (nuV9 (nI a9)) z (n2 4)) _ _) (if_pos (show (t.1 63).1 1 ≤ 0 from h1))) ?_
      exact ⟨h.pa, h.pt, h.sa, h.co, h.ir, ⟨h.la.1, fun q => absurd (show (t.1 63).1 1 = 0 from by have h0 := h.la.1; rw [Int32.le_iff_toInt_le, show (0 : Int32).toInt = 0 from rfl] at h1; exact Int32.toInt_inj.mp (by rw [show (0 : Int32).toInt = 0 from rfl]; omega)) q⟩, h.re, mo_wt h.mo, h.ca, h.fb, h.sz, h.pz⟩
    · refine Eq.mpr (congrArg (fun z => REL (elT 4 (nuV9 (nI a9)) z (n2 4)) _ _) (if_neg (show ¬ (t.1 63).1 1 ≤ 0 from h1))) ?_
      rw [ek]
      have l := fun q => h.la.2 q
      refine ⟨h.pa, h.pt, (h.sa.u5 (by decide)).u5 (by decide), h.co, h.ir, ⟨h.la.1, fun q => ?_⟩, h.re, mo_wt h.mo, h.ca, h.fb, h.sz, h.pz⟩
      have l := h.la.2 q
      have l4 := l.2.2.2.1
      refine ⟨?_, ?_, l.2.2.1, ?_, mgS_i l.2.2.2.2.1.1 l.2.2.2.2.1.2 a9, l.2.2.2.2.2⟩
      · show (if 20 < (t.1 42).1 0 - 4 * nI a9 then (t.1 42).1 0 - 4 * nI a9 else 20) = lhS ((t.1 52).1 6) a9
        rw [← l.1]
        exact lhS_eq l4.1 l4.2 ha9
      · show mgS ((t.1 42).1 1) a9 = mgS ((t.1 52).1 7) a9
        rw [l.2.1]
      · show 20 ≤ (if 20 < (t.1 42).1 0 - 4 * nI a9 then (t.1 42).1 0 - 4 * nI a9 else 20).toInt ∧ (if 20 < (t.1 42).1 0 - 4 * nI a9 then (t.1 42).1 0 - 4 * nI a9 else 20).toInt ≤ 1450
        rw [lhS_eq l4.1 l4.2 ha9]
        exact (lhS_i l4.1 l4.2 a9 ha9).2
  · rw [if_neg hw]
    unfold tK_Mm_minutes
    refine Eq.mpr (congrArg (fun z => REL z _ _) (if_neg hw)) ?_
    exact h
def kx (p : Nat → Bool) : Nat → Nat → Nat
  | 0 => fun _ => 0
  | i + 1 => if p i = true then (fun j => if j = fa_cnt p i then i else kx p i j) else kx p i
theorem kx_y {p : Nat → Bool} {i : Nat} (h : p i = true) : kx p (i + 1) = fun j => if j = fa_cnt p i then i else kx p i j := if_pos h
theorem kx_n {p : Nat → Bool} {i : Nat} (h : p i = false) : kx p (i + 1) = kx p i := if_neg (by rw [h]; decide)
theorem kx_lt {p : Nat → Bool} : ∀ i j, j < fa_cnt p i → kx p i j < i ∧ p (kx p i j) = true
  | 0, j, h => absurd h (Nat.not_lt_zero j)
  | i + 1, j, h => by
    cases e : p i with
    | true =>
      rw [fa_cnt_yes e] at h
      rw [kx_y e]
      show (if j = fa_cnt p i then i else kx p i j) < i + 1 ∧ p (if j = fa_cnt p i then i else kx p i j) = true
      by_cases q : j = fa_cnt p i
      · rw [if_pos q]; exact ⟨by omega, e⟩
      · rw [if_neg q]
        have := kx_lt (p := p) i j (by omega)
        exact ⟨by omega, this.2⟩
    | false =>
      rw [fa_cnt_no e] at h
      rw [kx_n e]
      have := kx_lt (p := p) i j h
      exact ⟨by omega, this.2⟩
theorem kx_cg {p q : Nat → Bool} : ∀ i, (∀ k, k < i → p k = q k) → fa_cnt p i = fa_cnt q i ∧ ∀ j, kx p i j = kx q i j
  | 0, _ => ⟨rfl, fun _ => rfl⟩
  | i + 1, h => by
    obtain ⟨a, b⟩ := kx_cg i (fun k hk => h k (by omega))
    have e := h i (by omega)
    cases eq : q i with
    | true =>
      rw [eq] at e
      refine ⟨by rw [fa_cnt_yes e, fa_cnt_yes eq, a], fun j => ?_⟩
      rw [kx_y e, kx_y eq]
      show (if j = fa_cnt p i then i else kx p i j) = (if j = fa_cnt q i then i else kx q i j)
      rw [a, b]
    | false =>
      rw [eq] at e
      refine ⟨by rw [fa_cnt_no e, fa_cnt_no eq, a], fun j => ?_⟩
      rw [kx_n e, kx_n eq]
      exact b j
theorem dwL_k (P : zV → Bool) (Q : zV → Int32) : ∀ (c r : Nat) (V : Nat → zV) (s : Int32), (dwL P Q c (c + r, V, s)).1 = fa_cnt (fun k => P (V k)) c + r ∧ (∀ j, j < fa_cnt (fun k => P (V k)) c → (dwL P Q c (c + r, V, s)).2.1 j = V (kx (fun k => P (V k)) c j)) ∧ ∀ j, fa_cnt (fun k => P (V k)) c ≤ j → (dwL P Q c (c + r, V, s)).2.1 j = V (j - fa_cnt (fun k => P (V k)) c + c)
  | 0, r, V, s => ⟨rfl, fun j h => absurd h (Nat.not_lt_zero j), fun j _ => rfl⟩
  | c + 1, r, V, s => by
    cases e : P (V c) with
    | true =>
      obtain ⟨a, b, d⟩ := dwL_k P Q c (r + 1) V s
      have es : dwL P Q (c + 1) (c + 1 + r, V, s) = dwL P Q c (c + (r + 1), V, s) := by
        show dwL P Q c (if P (V c) = true then (c + 1 + r, V, s) else (c + 1 + r - 1, z_dlV V c, s + Q (V c))) = _
        rw [if_pos e, show c + 1 + r = c + (r + 1) by omega]
      rw [es, fa_cnt_yes (p := fun k => P (V k)) e, kx_y (p := fun k => P (V k)) e]
      refine ⟨by rw [a]; omega, fun j hj => ?_, fun j hj => ?_⟩
      · show _ = V (if j = fa_cnt (fun k => P (V k)) c then c else kx (fun k => P (V k)) c j)
        by_cases q : j = fa_cnt (fun k => P (V k)) c
        · rw [if_pos q, d j (by omega)]
          congr 1
          omega
        · rw [if_neg q]
          exact b j (by omega)
      · rw [d j (by omega)]
        congr 1
        omega
    | false =>
      obtain ⟨a, b, d⟩ := dwL_k P Q c r (z_dlV V c) (s + Q (V c))
      have es : dwL P Q (c + 1) (c + 1 + r, V, s) = dwL P Q c (c + r, z_dlV V c, s + Q (V c)) := by
        show dwL P Q c (if P (V c) = true then (c + 1 + r, V, s) else (c + 1 + r - 1, z_dlV V c, s + Q (V c))) = _
        rw [if_neg (by rw [e]; decide), show c + 1 + r - 1 = c + r by omega]
      have cg := kx_cg (p := fun k => P (z_dlV V c k)) (q := fun k => P (V k)) c (fun k hk => by show P (z_dlV V c k) = P (V k); rw [show z_dlV V c k = V k from if_pos hk])
      rw [cg.1] at a b d
      rw [es, fa_cnt_no (p := fun k => P (V k)) e, kx_n (p := fun k => P (V k)) e]
      refine ⟨a, fun j hj => ?_, fun j hj => ?_⟩
      · rw [b j hj, cg.2 j]
        exact if_pos (kx_lt c j hj).1
      · rw [d j hj]
        show (if j - fa_cnt (fun k => P (V k)) c + c < c then V (j - fa_cnt (fun k => P (V k)) c + c) else V (j - fa_cnt (fun k => P (V k)) c + c + 1)) = _
        rw [if_neg (by omega)]
        rfl
def cnP (cn : Nat → Int32) (k : Nat) : Bool := decide (¬ cn k ≤ 0)
theorem dlS_k (cn cu ag : Nat → Int32) : ∀ i, (dlS cn cu ag i).1 = fa_cnt (cnP cn) i ∧ (∀ j, j < fa_cnt (cnP cn) i → (dlS cn cu ag i).2.1 j = cn (kx (cnP cn) i j) ∧ (dlS cn cu ag i).2.2.1 j = cu (kx (cnP cn) i j) ∧ (dlS cn cu ag i).2.2.2 j = ag (kx (cnP cn) i j)) ∧ ∀ j, i ≤ j → (dlS cn cu ag i).2.1 j = cn j ∧ (dlS cn cu ag i).2.2.1 j = cu j ∧ (dlS cn cu ag i).2.2.2 j = ag j
  | 0 => ⟨rfl, fun j h => absurd h (Nat.not_lt_zero j), fun j _ => ⟨rfl, rfl, rfl⟩⟩
  | i + 1 => by
    obtain ⟨a, b, d⟩ := dlS_k cn cu ag i
    have le := dlS_le cn cu ag i
    have di := d i (Nat.le_refl i)
    by_cases q : cn i ≤ 0
    · have hp : cnP cn i = false := decide_eq_false (fun z => z q)
      rw [dlS_t (by rw [di.1]; exact q), fa_cnt_no hp, kx_n hp]
      exact ⟨a, b, fun j hj => d j (by omega)⟩
    · have hp : cnP cn i = true := decide_eq_true q
      rw [dlS_f (by rw [di.1]; exact q), fa_cnt_yes hp, kx_y hp]
      refine ⟨by show (dlS cn cu ag i).1 + 1 = _; rw [a], fun j hj => ?_, fun j hj => ?_⟩
      · show upd (dlS cn cu ag i).2.1 (dlS cn cu ag i).1 ((dlS cn cu ag i).2.1 i) j = cn (if j = fa_cnt (cnP cn) i then i else kx (cnP cn) i j) ∧ upd (dlS cn cu ag i).2.2.1 (dlS cn cu ag i).1 ((dlS cn cu ag i).2.2.1 i) j = cu (if j = fa_cnt (cnP cn) i then i else kx (cnP cn) i j) ∧ upd (dlS cn cu ag i).2.2.2 (dlS cn cu ag i).1 ((dlS cn cu ag i).2.2.2 i) j = ag (if j = fa_cnt (cnP cn) i then i else kx (cnP cn) i j)
        rw [a]
        by_cases r : j = fa_cnt (cnP cn) i
        · rw [r, upd_eq, upd_eq, upd_eq, if_pos rfl]
          exact di
        · rw [upd_ne r, upd_ne r, upd_ne r, if_neg r]
          exact b j (by omega)
      · have hj2 : ¬ j = (dlS cn cu ag i).1 := by omega
        show upd (dlS cn cu ag i).2.1 (dlS cn cu ag i).1 ((dlS cn cu ag i).2.1 i) j = cn j ∧ upd (dlS cn cu ag i).2.2.1 (dlS cn cu ag i).1 ((dlS cn cu ag i).2.2.1 i) j = cu j ∧ upd (dlS cn cu ag i).2.2.2 (dlS cn cu ag i).1 ((dlS cn cu ag i).2.2.2 i) j = ag j
        rw [upd_ne hj2, upd_ne hj2, upd_ne hj2]
        exact d j (by omega)
theorem gwS_k (cn cu ag : Nat → Int32) (h : Int32) : ∀ i, (∀ k, k < i → (gwS cn cu ag h i).1 k = (if ag k + h ≤ cu k + 72 then cn k else 0) ∧ (gwS cn cu ag h i).2.1 k = ag k + h) ∧ ∀ k, i ≤ k → (gwS cn cu ag h i).1 k = cn k ∧ (gwS cn cu ag h i).2.1 k = ag k
  | 0 => ⟨fun k hk => absurd hk (Nat.not_lt_zero k), fun k _ => ⟨rfl, rfl⟩⟩
  | i + 1 => by
    obtain ⟨a, b⟩ := gwS_k cn cu ag h i
    have bi := b i (Nat.le_refl i)
    by_cases q : ag i + h ≤ cu i + 72
    · rw [gwS_t (by rw [bi.2]; exact q)]
      refine ⟨fun k hk => ?_, fun k hk => ?_⟩
      · show (gwS cn cu ag h i).1 k = _ ∧ upd (gwS cn cu ag h i).2.1 i ((gwS cn cu ag h i).2.1 i + h) k = _
        by_cases r : k = i
        · subst r
          rw [upd_eq, bi.1, bi.2, if_pos q]
          exact ⟨rfl, rfl⟩
        · rw [upd_ne r]
          exact a k (by omega)
      · show (gwS cn cu ag h i).1 k = _ ∧ upd (gwS cn cu ag h i).2.1 i ((gwS cn cu ag h i).2.1 i + h) k = _
        rw [upd_ne (by omega)]
        exact b k (by omega)
    · have es : gwS cn cu ag h (i + 1) = (upd (gwS cn cu ag h i).1 i 0, upd (gwS cn cu ag h i).2.1 i ((gwS cn cu ag h i).2.1 i + h), (gwS cn cu ag h i).2.2 + (gwS cn cu ag h i).1 i) := if_neg (by rw [bi.2]; exact q)
      rw [es]
      refine ⟨fun k hk => ?_, fun k hk => ?_⟩
      · show upd (gwS cn cu ag h i).1 i 0 k = _ ∧ upd (gwS cn cu ag h i).2.1 i ((gwS cn cu ag h i).2.1 i + h) k = _
        by_cases r : k = i
        · subst r
          rw [upd_eq, upd_eq, bi.2, if_neg q]
          exact ⟨rfl, rfl⟩
        · rw [upd_ne r, upd_ne r]
          exact a k (by omega)
      · show upd (gwS cn cu ag h i).1 i 0 k = _ ∧ upd (gwS cn cu ag h i).2.1 i ((gwS cn cu ag h i).2.1 i + h) k = _
        rw [upd_ne (by omega), upd_ne (by omega)]
        exact b k (by omega)
theorem R_hours {t : zTT} {n n1 n2 : Nat → Nat} {b : Nat} (hb : b ≤ 100000) (x : Int32) (h : REL t n b) (e1 : n1 = n) (e2 : n2 = nK_Mm_hours x (tK_Ip_hours x t) n1) : REL (tK_Mm_hours x (tK_Ip_hours x t) n1) n2 (b + 48) := by
  subst e1
  rw [e2]
  unfold tK_Ip_hours
  by_cases hw : 1 ≤ x ∧ x ≤ 48
  · rw [if_pos hw]
    unfold tK_Mm_hours nK_Mm_hours
    refine Eq.mpr (congrArg (fun z => REL z _ _) (if_pos hw)) ?_
    refine Eq.mpr (congrArg (fun z => REL _ z _) (if_pos hw)) ?_
    obtain ⟨c1, ⟨c2, c3⟩, c4⟩ := h.co
    have a1 := hw.1
    have a2 := hw.2
    rw [Int32.le_iff_toInt_le, show (1 : Int32).toInt = 1 from rfl] at a1
    rw [Int32.le_iff_toInt_le, show (48 : Int32).toInt = 48 from rfl] at a2
    have e72 : (72 : Int32).toInt = 72 := rfl
    have eH : ((t.1 52).1 5 + x).toInt = ((t.1 52).1 5).toInt + x.toInt := by rw [Int32.toInt_add]; exact bm32 (by omega) (by omega)
    have hg := gwS_k (t.1 33).1 (t.1 34).1 (t.1 35).1 x (n1 2)
    have hd := dlS_k (gwS (t.1 33).1 (t.1 34).1 (t.1 35).1 x (n1 2)).1 (t.1 34).1 (gwS (t.1 33).1 (t.1 34).1 (t.1 35).1 x (n1 2)).2.1 (n1 2)
    have hk := dwL_k (hrP ((t.1 52).1 5 + x)) v0I (n1 2) 0 (t.2 2) 0
    rw [Nat.add_zero] at hk
    have hp : ∀ k, k < n1 2 → cnP (gwS (t.1 33).1 (t.1 34).1 (t.1 35).1 x (n1 2)).1 k = hrP ((t.1 52).1 5 + x) (t.2 2 k) ∧ (hrP ((t.1 52).1 5 + x) (t.2 2 k) = true → (t.1 35).1 k + x ≤ (t.1 34).1 k + 72 ∧ ((t.1 35).1 k + x).toInt = ((t.1 35).1 k).toInt + x.toInt ∧ ((t.1 35).1 k).toInt + x.toInt ≤ ((t.1 34).1 k).toInt + 72) := fun k hk => by
      obtain ⟨d1, d2, d3, d4, d5⟩ := c4 k hk
      have ea : ((t.1 35).1 k + x).toInt = ((t.1 35).1 k).toInt + x.toInt := by rw [Int32.toInt_add]; exact bm32 (by omega) (by omega)
      have ec : ((t.1 34).1 k + 72).toInt = ((t.1 34).1 k).toInt + 72 := by rw [Int32.toInt_add, e72]; exact bm32 (by omega) (by omega)
      have el : ((t.2 2 k).2.1 1 + 72).toInt = ((t.2 2 k).2.1 1).toInt + 72 := by rw [Int32.toInt_add, e72]; exact bm32 (by omega) (by omega)
      unfold cnP hrP
      rw [(hg.1 k hk).1]
      by_cases q : (t.1 35).1 k + x ≤ (t.1 34).1 k + 72
      · have q2 : (t.1 52).1 5 + x ≤ (t.2 2 k).2.1 1 + 72 := by
          rw [Int32.le_iff_toInt_le, ea, ec] at q
          rw [Int32.le_iff_toInt_le, eH, el]
          omega
        rw [if_pos q, decide_eq_true q2, decide_eq_true (show ¬ (t.1 33).1 k ≤ 0 from fun z => by rw [Int32.le_iff_toInt_le, show (0 : Int32).toInt = 0 from rfl] at z; omega)]
        refine ⟨rfl, fun _ => ⟨q, ea, ?_⟩⟩
        rw [Int32.le_iff_toInt_le, ea, ec] at q
        exact q
      · have q2 : ¬ (t.1 52).1 5 + x ≤ (t.2 2 k).2.1 1 + 72 := by
          rw [Int32.le_iff_toInt_le, ea, ec] at q
          rw [Int32.le_iff_toInt_le, eH, el]
          omega
        rw [if_neg q, decide_eq_false q2, decide_eq_false (fun z => z (by decide))]
        exact ⟨rfl, fun z => by cases z⟩
    have cg := kx_cg (p := cnP (gwS (t.1 33).1 (t.1 34).1 (t.1 35).1 x (n1 2)).1) (q := fun k => hrP ((t.1 52).1 5 + x) (t.2 2 k)) (n1 2) (fun k hk => (hp k hk).1)
    rw [cg.1] at hd
    refine ⟨h.pa, h.pt, h.sa.u5 (by decide), ⟨?_, ⟨?_, ?_⟩, fun i hi => ?_⟩, h.ir, h.la, h.re, h.mo, h.ca, h.fb, ⟨?_, h.sz.2⟩, h.pz⟩
    · show (dlS (gwS (t.1 33).1 (t.1 34).1 (t.1 35).1 x ((t.1 32).2.2 0)).1 (t.1 34).1 (gwS (t.1 33).1 (t.1 34).1 (t.1 35).1 x ((t.1 32).2.2 0)).2.1 ((t.1 32).2.2 0)).1 = (dwL (hrP ((t.1 52).1 5 + x)) v0I (n1 2) (n1 2, t.2 2, 0)).1
      rw [c1, hd.1, hk.1, Nat.add_zero]
    · show 0 ≤ ((t.1 52).1 5 + x).toInt
      rw [eH]; omega
    · show ((t.1 52).1 5 + x).toInt ≤ ((b + 48 : Nat) : Int)
      rw [eH]; omega
    · have hi : i < (dwL (hrP ((t.1 52).1 5 + x)) v0I (n1 2) (n1 2, t.2 2, 0)).1 := hi
      rw [hk.1, Nat.add_zero] at hi
      show (dlS (gwS (t.1 33).1 (t.1 34).1 (t.1 35).1 x ((t.1 32).2.2 0)).1 (t.1 34).1 (gwS (t.1 33).1 (t.1 34).1 (t.1 35).1 x ((t.1 32).2.2 0)).2.1 ((t.1 32).2.2 0)).2.1 i = ((dwL (hrP ((t.1 52).1 5 + x)) v0I (n1 2) (n1 2, t.2 2, 0)).2.1 i).2.1 0 ∧ (1 ≤ ((dlS (gwS (t.1 33).1 (t.1 34).1 (t.1 35).1 x ((t.1 32).2.2 0)).1 (t.1 34).1 (gwS (t.1 33).1 (t.1 34).1 (t.1 35).1 x ((t.1 32).2.2 0)).2.1 ((t.1 32).2.2 0)).2.1 i).toInt ∧ ((dlS (gwS (t.1 33).1 (t.1 34).1 (t.1 35).1 x ((t.1 32).2.2 0)).1 (t.1 34).1 (gwS (t.1 33).1 (t.1 34).1 (t.1 35).1 x ((t.1 32).2.2 0)).2.1 ((t.1 32).2.2 0)).2.1 i).toInt ≤ 10) ∧ (1 ≤ ((dlS (gwS (t.1 33).1 (t.1 34).1 (t.1 35).1 x ((t.1 32).2.2 0)).1 (t.1 34).1 (gwS (t.1 33).1 (t.1 34).1 (t.1 35).1 x ((t.1 32).2.2 0)).2.1 ((t.1 32).2.2 0)).2.2.1 i).toInt ∧ ((dlS (gwS (t.1 33).1 (t.1 34).1 (t.1 35).1 x ((t.1 32).2.2 0)).1 (t.1 34).1 (gwS (t.1 33).1 (t.1 34).1 (t.1 35).1 x ((t.1 32).2.2 0)).2.1 ((t.1 32).2.2 0)).2.2.1 i).toInt ≤ 24) ∧ (0 ≤ ((dlS (gwS (t.1 33).1 (t.1 34).1 (t.1 35).1 x ((t.1 32).2.2 0)).1 (t.1 34).1 (gwS (t.1 33).1 (t.1 34).1 (t.1 35).1 x ((t.1 32).2.2 0)).2.1 ((t.1 32).2.2 0)).2.2.2 i).toInt ∧ ((dlS (gwS (t.1 33).1 (t.1 34).1 (t.1 35).1 x ((t.1 32).2.2 0)).1 (t.1 34).1 (gwS (t.1 33).1 (t.1 34).1 (t.1 35).1 x ((t.1 32).2.2 0)).2.1 ((t.1 32).2.2 0)).2.2.2 i).toInt ≤ ((dlS (gwS (t.1 33).1 (t.1 34).1 (t.1 35).1 x ((t.1 32).2.2 0)).1 (t.1 34).1 (gwS (t.1 33).1 (t.1 34).1 (t.1 35).1 x ((t.1 32).2.2 0)).2.1 ((t.1 32).2.2 0)).2.2.1 i).toInt + 72) ∧ (((dwL (hrP ((t.1 52).1 5 + x)) v0I (n1 2) (n1 2, t.2 2, 0)).2.1 i).2.1 1).toInt = ((t.1 52).1 5 + x).toInt - ((dlS (gwS (t.1 33).1 (t.1 34).1 (t.1 35).1 x ((t.1 32).2.2 0)).1 (t.1 34).1 (gwS (t.1 33).1 (t.1 34).1 (t.1 35).1 x ((t.1 32).2.2 0)).2.1 ((t.1 32).2.2 0)).2.2.2 i).toInt + ((dlS (gwS (t.1 33).1 (t.1 34).1 (t.1 35).1 x ((t.1 32).2.2 0)).1 (t.1 34).1 (gwS (t.1 33).1 (t.1 34).1 (t.1 35).1 x ((t.1 32).2.2 0)).2.1 ((t.1 32).2.2 0)).2.2.1 i).toInt
      have kl := kx_lt (p := fun k => hrP ((t.1 52).1 5 + x) (t.2 2 k)) (n1 2) i hi
      rw [c1, (hd.2.1 i hi).1, (hd.2.1 i hi).2.1, (hd.2.1 i hi).2.2, hk.2.1 i hi, cg.2 i]
      generalize kx (fun k => hrP ((t.1 52).1 5 + x) (t.2 2 k)) (n1 2) i = k at kl
      obtain ⟨k1, k2⟩ := kl
      obtain ⟨p1, p2, p3⟩ := (hp k k1).2 k2
      obtain ⟨d1, d2, d3, d4, d5⟩ := c4 k k1
      rw [(hg.1 k k1).1, (hg.1 k k1).2, if_pos p1, p2, eH]
      exact ⟨d1, d2, d3, ⟨by omega, p3⟩, by omega⟩
    · show (dwL (hrP ((t.1 52).1 5 + x)) v0I (n1 2) (n1 2, t.2 2, 0)).1 ≤ 20
      rw [hk.1]
      have := fa_cnt_le (fun k => hrP ((t.1 52).1 5 + x) (t.2 2 k)) (n1 2)
      have := h.sz.1
      omega
  · rw [if_neg hw]
    unfold tK_Mm_hours nK_Mm_hours
    refine Eq.mpr (congrArg (fun z => REL z _ _) (if_neg hw)) ?_
    refine Eq.mpr (congrArg (fun z => REL _ z _) (if_neg hw)) ?_
    exact h.up (by omega)
theorem z_gdH {H lt ag cu : Int32} (h1 : 0 ≤ H.toInt ∧ H.toInt ≤ 200000) (h2 : 1 ≤ cu.toInt ∧ cu.toInt ≤ 24) (h3 : 0 ≤ ag.toInt ∧ ag.toInt ≤ cu.toInt + 72) (h4 : lt.toInt = H.toInt - ag.toInt + cu.toInt) : (¬ ag < cu ∧ ¬ cu + 72 < ag) ↔ ¬ H < lt := by
  have e72 : (72 : Int32).toInt = 72 := rfl
  have e : (cu + 72).toInt = cu.toInt + 72 := by rw [Int32.toInt_add, e72]; exact bm32 (by omega) (by omega)
  rw [Int32.lt_iff_toInt_lt, Int32.lt_iff_toInt_lt, Int32.lt_iff_toInt_lt, e, h4]
  omega
theorem RELk.g {t : zTT} {n : Nat → Nat} {b k : Nat} (h : RELk t n b) (hb : b ≤ 100000) (hk : k < n 2) : gdB (t.1 34).1 (t.1 35).1 k = decide (¬ (t.1 52).1 5 < (t.2 2 k).2.1 1) := by
  obtain ⟨d1, d2, d3, d4, d5⟩ := h.2.2 k hk
  have hg := z_gdH ⟨h.2.1.1, by have := h.2.1.2; omega⟩ d3 d4 d5
  unfold gdB
  exact decide_eq_decide.mpr hg
theorem gd_rel {t : zTT} {n : Nat → Nat} {b : Nat} (h : RELk t n b) (hb : b ≤ 100000) : ∀ i, i ≤ n 2 → bx_sum (fun k => if gdB (t.1 34).1 (t.1 35).1 k then (t.1 33).1 k else 0) i = gdS ((t.1 52).1 5) (t.2 2) i
  | 0, _ => rfl
  | i + 1, hi => by
    have ih := gd_rel h hb i (by omega)
    show bx_sum (fun k => if gdB (t.1 34).1 (t.1 35).1 k then (t.1 33).1 k else 0) i + (if gdB (t.1 34).1 (t.1 35).1 i then (t.1 33).1 i else 0) = gdS ((t.1 52).1 5) (t.2 2) i + (if (t.1 52).1 5 < (t.2 2 i).2.1 1 then 0 else (t.2 2 i).2.1 0)
    rw [ih, h.g hb (by omega), (h.2.2 i (by omega)).1]
    by_cases q : (t.1 52).1 5 < (t.2 2 i).2.1 1
    · rw [if_pos q, decide_eq_false (fun z => z q)]
      rfl
    · rw [if_neg q, decide_eq_true q]
      rfl
theorem gdN_rel {t : zTT} {n : Nat → Nat} {b : Nat} (h : RELk t n b) (hb : b ≤ 100000) : gdN t = gdS ((t.1 52).1 5) (t.2 2) (n 2) := by
  unfold gdN
  rw [h.1]
  exact gd_rel h hb (n 2) (Nat.le_refl _)
theorem tk_rel {t : zTT} {n : Nat → Nat} {b : Nat} {x : Int32} (h : RELk t n b) (hb : b ≤ 100000) (hx : 0 ≤ x.toInt ∧ x.toInt ≤ 1000) : ∀ i, i ≤ n 2 → (tkS (t.1 33).1 (t.1 34).1 (t.1 35).1 x i).2 = (tkL ((t.1 52).1 5) (t.2 2) x i).2 ∧ (0 ≤ ((tkL ((t.1 52).1 5) (t.2 2) x i).2).toInt ∧ ((tkL ((t.1 52).1 5) (t.2 2) x i).2).toInt ≤ 1000) ∧ ∀ k, k < n 2 → (tkS (t.1 33).1 (t.1 34).1 (t.1 35).1 x i).1 k = ((tkL ((t.1 52).1 5) (t.2 2) x i).1 k).2.1 0 ∧ ((tkL ((t.1 52).1 5) (t.2 2) x i).1 k).2.1 1 = (t.2 2 k).2.1 1 ∧ (0 ≤ ((tkS (t.1 33).1 (t.1 34).1 (t.1 35).1 x i).1 k).toInt ∧ ((tkS (t.1 33).1 (t.1 34).1 (t.1 35).1 x i).1 k).toInt ≤ 10) ∧ (i ≤ k → (tkL ((t.1 52).1 5) (t.2 2) x i).1 k = t.2 2 k)
  | 0, _ => ⟨rfl, hx, fun k hk => ⟨(h.2.2 k hk).1, rfl, ⟨by have := (h.2.2 k hk).2.1.1; show 0 ≤ ((t.1 33).1 k).toInt; omega, (h.2.2 k hk).2.1.2⟩, fun _ => rfl⟩⟩
  | i + 1, hi => by
    obtain ⟨a, b1, d⟩ := tk_rel h hb hx i (by omega)
    obtain ⟨d1, d2, d3, d4⟩ := d i (by omega)
    have hg := h.g hb (show i < n 2 by omega)
    have dV := d4 (Nat.le_refl i)
    have e0 : (0 : Int32).toInt = 0 := rfl
    have hQ : ∀ K, tkQ ((t.1 52).1 5) (tkL ((t.1 52).1 5) (t.2 2) x i).2 ((tkL ((t.1 52).1 5) (t.2 2) x i).1 i) = K → (tkS (t.1 33).1 (t.1 34).1 (t.1 35).1 x (i + 1)) = (upd (tkS (t.1 33).1 (t.1 34).1 (t.1 35).1 x i).1 i ((tkS (t.1 33).1 (t.1 34).1 (t.1 35).1 x i).1 i - K), (tkS (t.1 33).1 (t.1 34).1 (t.1 35).1 x i).2 - K) ∧ 0 ≤ K.toInt ∧ K.toInt ≤ ((tkL ((t.1 52).1 5) (t.2 2) x i).2).toInt ∧ K.toInt ≤ ((tkS (t.1 33).1 (t.1 34).1 (t.1 35).1 x i).1 i).toInt := fun K hK => by
      unfold tkQ at hK
      rw [d2, ← d1, ← a] at hK
      by_cases q : (t.1 52).1 5 < (t.2 2 i).2.1 1
      · rw [if_pos q] at hK
        subst hK
        rw [tkS_f (fun z => by rw [hg, decide_eq_false (fun y => y q)] at z; exact absurd z.2 (by decide)), Int32.sub_zero, Int32.sub_zero, z_updk rfl, e0]
        exact ⟨rfl, by omega, b1.1, d3.1⟩
      · rw [if_neg q] at hK
        by_cases r : 0 < (tkS (t.1 33).1 (t.1 34).1 (t.1 35).1 x i).2
        · rw [tkS_t ⟨r, by rw [hg]; exact decide_eq_true q⟩]
          have eK : tkM (tkS (t.1 33).1 (t.1 34).1 (t.1 35).1 x i).2 ((tkS (t.1 33).1 (t.1 34).1 (t.1 35).1 x i).1 i) = K := hK
          rw [eK, ← a]
          rw [← a] at b1
          refine ⟨rfl, ?_⟩
          by_cases p : (tkS (t.1 33).1 (t.1 34).1 (t.1 35).1 x i).1 i < (tkS (t.1 33).1 (t.1 34).1 (t.1 35).1 x i).2
          · rw [if_pos p] at hK
            rw [Int32.lt_iff_toInt_lt] at p
            rw [← hK]
            omega
          · rw [if_neg p] at hK
            rw [Int32.lt_iff_toInt_lt] at p
            rw [← hK]
            omega
        · have r0 : (tkS (t.1 33).1 (t.1 34).1 (t.1 35).1 x i).2 = 0 := by
            rw [← a] at b1
            rw [Int32.lt_iff_toInt_lt, e0] at r
            exact Int32.toInt_inj.mp (by rw [e0]; omega)
          rw [r0] at hK
          have hK0 : K = 0 := by
            rw [if_neg (fun z => by rw [Int32.lt_iff_toInt_lt, e0] at z; omega)] at hK
            exact hK.symm
          subst hK0
          rw [tkS_f (fun z => r z.1), Int32.sub_zero, Int32.sub_zero, z_updk rfl, e0]
          exact ⟨rfl, by omega, b1.1, d3.1⟩
    obtain ⟨eS, K0, K1, K2⟩ := hQ _ rfl
    have el := tk_l (h := (t.1 52).1 5) (x := x) (V := t.2 2) (i := i) rfl
    have eL : ((tkL ((t.1 52).1 5) (t.2 2) x i).2 - tkQ ((t.1 52).1 5) (tkL ((t.1 52).1 5) (t.2 2) x i).2 ((tkL ((t.1 52).1 5) (t.2 2) x i).1 i)).toInt = ((tkL ((t.1 52).1 5) (t.2 2) x i).2).toInt - (tkQ ((t.1 52).1 5) (tkL ((t.1 52).1 5) (t.2 2) x i).2 ((tkL ((t.1 52).1 5) (t.2 2) x i).1 i)).toInt := by rw [Int32.toInt_sub]; exact bm32 (by omega) (by omega)
    refine ⟨by rw [eS, el, a], by rw [el, eL]; omega, fun k hk => ?_⟩
    obtain ⟨f1, f2, f3, f4⟩ := d k hk
    rw [eS]
    show upd (tkS (t.1 33).1 (t.1 34).1 (t.1 35).1 x i).1 i _ k = ((if k = i then tkW ((t.1 52).1 5) (tkL ((t.1 52).1 5) (t.2 2) x i).2 ((tkL ((t.1 52).1 5) (t.2 2) x i).1 i) else (tkL ((t.1 52).1 5) (t.2 2) x i).1 k) : zV).2.1 0 ∧ ((if k = i then tkW ((t.1 52).1 5) (tkL ((t.1 52).1 5) (t.2 2) x i).2 ((tkL ((t.1 52).1 5) (t.2 2) x i).1 i) else (tkL ((t.1 52).1 5) (t.2 2) x i).1 k) : zV).2.1 1 = (t.2 2 k).2.1 1 ∧ (0 ≤ (upd (tkS (t.1 33).1 (t.1 34).1 (t.1 35).1 x i).1 i _ k).toInt ∧ (upd (tkS (t.1 33).1 (t.1 34).1 (t.1 35).1 x i).1 i _ k).toInt ≤ 10) ∧ (i + 1 ≤ k → ((if k = i then tkW ((t.1 52).1 5) (tkL ((t.1 52).1 5) (t.2 2) x i).2 ((tkL ((t.1 52).1 5) (t.2 2) x i).1 i) else (tkL ((t.1 52).1 5) (t.2 2) x i).1 k) : zV) = t.2 2 k)
    by_cases q : k = i
    · subst q
      rw [if_pos rfl, upd_eq]
      have es : ((tkS (t.1 33).1 (t.1 34).1 (t.1 35).1 x k).1 k - tkQ ((t.1 52).1 5) (tkL ((t.1 52).1 5) (t.2 2) x k).2 ((tkL ((t.1 52).1 5) (t.2 2) x k).1 k)).toInt = ((tkS (t.1 33).1 (t.1 34).1 (t.1 35).1 x k).1 k).toInt - (tkQ ((t.1 52).1 5) (tkL ((t.1 52).1 5) (t.2 2) x k).2 ((tkL ((t.1 52).1 5) (t.2 2) x k).1 k)).toInt := by rw [Int32.toInt_sub]; exact bm32 (by omega) (by omega)
      refine ⟨?_, f2, by rw [es]; omega, fun z => absurd z (by omega)⟩
      rw [f1]
      rfl
    · rw [if_neg q, upd_ne q]
      exact ⟨f1, f2, f3, fun z => f4 (by omega)⟩
theorem use_1 {a b c : Int32} (h : a = b ∧ 0 ≤ a.toInt ∧ a.toInt ≤ 300) (hc : 0 ≤ c.toInt ∧ c.toInt ≤ 10) : (if 0 < a - c then a - c else 0) = S_Mm_most (b - c) ∧ 0 ≤ (if 0 < a - c then a - c else 0).toInt ∧ (if 0 < a - c then a - c else 0).toInt ≤ 300 := by
  obtain ⟨rfl, h1, h2⟩ := h
  have e0 : (0 : Int32).toInt = 0 := rfl
  have e3 : (300 : Int32).toInt = 300 := rfl
  have e : (a - c).toInt = a.toInt - c.toInt := by rw [Int32.toInt_sub]; exact bm32 (by omega) (by omega)
  unfold S_Mm_most
  by_cases r : a - c < 300
  · rw [if_pos r]
    by_cases q : 0 < a - c
    · rw [if_pos q]
      refine ⟨rfl, ?_⟩
      rw [Int32.lt_iff_toInt_lt, e0, e] at q
      rw [e]; omega
    · rw [if_neg q, e0]
      exact ⟨rfl, by omega, by omega⟩
  · rw [Int32.lt_iff_toInt_lt, e3, e] at r
    have hc0 : c = 0 := Int32.toInt_inj.mp (by rw [e0]; omega)
    subst hc0
    have ha : a = 300 := Int32.toInt_inj.mp (by rw [e3]; omega)
    subst ha
    decide
