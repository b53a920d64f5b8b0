theorem ux_eq {f : Nat → Int32} {o : Nat} {v : Int32} : upd f o v o = v := if_pos rfl
theorem ux_ne {f : Nat → Int32} {o k : Nat} {v : Int32} (h : ¬ k = o) : upd f o v k = f k := if_neg h
theorem uNx_eq {q : Nat → Nat} {t v : Nat} : updN q t v t = v := if_pos rfl
theorem uNx_ne {q : Nat → Nat} {t v k : Nat} (h : ¬ k = t) : updN q t v k = q k := if_neg h
def Ag (n : Nat) (f g : Nat → Int32) : Prop := ∀ k, k < n → f k = g k
theorem Ag.rf {n : Nat} {f : Nat → Int32} : Ag n f f := fun _ _ => rfl
theorem Ag.sy {n : Nat} {f g : Nat → Int32} (h : Ag n f g) : Ag n g f := fun k hk => (h k hk).symm
theorem Ag.tr {n : Nat} {f g l : Nat → Int32} (h : Ag n f g) (h2 : Ag n g l) : Ag n f l := fun k hk => (h k hk).trans (h2 k hk)
theorem Ag.up {n : Nat} {f g : Nat → Int32} (h : Ag n f g) {i : Nat} {v w : Int32} (e : v = w) : Ag n (upd f i v) (upd g i w) := fun k hk => by
  subst e
  by_cases q : k = i
  · rw [q, ux_eq, ux_eq]
  · rw [ux_ne q, ux_ne q]
    exact h k hk
theorem Ag.ps {n : Nat} {f g : Nat → Int32} (h : Ag n f g) {v w : Int32} (e : v = w) : Ag (n + 1) (upd f n v) (upd g n w) := fun k hk => by
  subst e
  by_cases q : k = n
  · rw [q, ux_eq, ux_eq]
  · rw [ux_ne q, ux_ne q]
    exact h k (by omega)
theorem chkF_ag {f g : Nat → Int32} (h : Ag 108 f g) {c : Nat} (hc : c < 108) (st : Int32) (s : Nat) : chkF f c st s = chkF g c st s := by
  cases e : bs c s with
  | none => rw [chkF_n e, chkF_n e]
  | some o => rw [chkF_s e, chkF_s e, h o (bs_lt hc e)]
theorem bfB_ag {f g : Nat → Int32} (h : Ag 108 f g) {c : Nat} (hc : c < 108) (st : Int32) : ∀ n, bfB f c st n = bfB g c st n
  | 0 => rfl
  | n + 1 => by
    show (bfB f c st n || chkF f c st n) = (bfB g c st n || chkF g c st n)
    rw [bfB_ag h hc st n, chkF_ag h hc st n]
def Af (s t : zF) : Prop := Ag 108 s.1 t.1 ∧ s.2 = t.2
theorem fcS_ag {ce de : Nat → Int32} {st : Int32} {mo c : Nat} {s t : zF} (hc : c < 108) (hd : Ag 108 ce de) (h : Af s t) : Af (fcS ce st mo c s) (fcS de st mo c t) := by
  have e : fcP ce st mo c s ↔ fcP de st mo c t := by
    unfold fcP
    rw [h.2, h.1 c hc, hd c hc, bfB_ag h.1 hc st 4]
  by_cases q : fcP ce st mo c s
  · rw [fcS_t q, fcS_t (e.mp q)]
    exact ⟨h.1.up rfl, by show s.2 + 1 = t.2 + 1; rw [h.2]⟩
  · rw [fcS_f q, fcS_f (fun z => q (e.mpr z))]
    exact h
theorem frS_ag {ce de : Nat → Int32} {st : Int32} {mo row : Nat} {s t : zF} (hr : row < 9) (hd : Ag 108 ce de) (h : Af s t) : ∀ x, x ≤ 12 → Af (frS ce st mo row s x) (frS de st mo row t x)
  | 0, _ => h
  | x + 1, hx => fcS_ag (c := 12 * row + x) (by omega) hd (frS_ag hr hd h x (by omega))
theorem fsS_ag {ce de : Nat → Int32} {st : Int32} {mo : Nat} {s t : zF} (hd : Ag 108 ce de) (h : Af s t) : ∀ r, Af (fsS ce st mo s r) (fsS de st mo t r)
  | 0 => h
  | r + 1 => frS_ag (row := 8 - r) (by omega) hd (fsS_ag hd h r) 12 (Nat.le_refl _)
theorem fiS_ag {ce de : Nat → Int32} {mo : Nat} {f g : Nat → Int32} (hd : Ag 108 ce de) (h : Ag 108 f g) : ∀ T, Af (fiS ce mo f T) (fiS de mo g T)
  | 0 => ⟨h, rfl⟩
  | T + 1 => by
    have ih := fiS_ag (mo := mo) hd h T
    by_cases q : (fiS ce mo f T).2 = 0
    · have q2 : (fiS de mo g T).2 = 0 := by rw [← ih.2]; exact q
      rw [fiS_stop q 1, fiS_stop q2 1]
      exact ih
    · have q2 : ¬ (fiS de mo g T).2 = 0 := by rw [← ih.2]; exact q
      rw [fiS_n q, fiS_n q2]
      exact fsS_ag (s := ((fiS ce mo f T).1, 0)) (t := ((fiS de mo g T).1, 0)) hd ⟨ih.1, rfl⟩ 9
theorem ogS_t {ce f0 : Nat → Int32} {i : Nat} (h : ce i = 103) : ogS ce f0 (i + 1) = ((if (ogS ce f0 i).2 = 0 then upd (ogS ce f0 i).1 i 0 else (ogS ce f0 i).1), (ogS ce f0 i).2 + 1) := if_pos h
theorem ogS_f {ce f0 : Nat → Int32} {i : Nat} (h : ¬ ce i = 103) : ogS ce f0 (i + 1) = ogS ce f0 i := if_neg h
theorem ogS_ag {ce de f g : Nat → Int32} (hd : Ag 108 ce de) (h : Ag 108 f g) : ∀ i, i ≤ 12 → Af (ogS ce f i) (ogS de g i)
  | 0, _ => ⟨h, rfl⟩
  | i + 1, hi => by
    have ih := ogS_ag hd h i (by omega)
    have e := hd i (by omega)
    by_cases q : ce i = 103
    · have q2 : de i = 103 := by rw [← e]; exact q
      rw [ogS_t q, ogS_t q2]
      refine ⟨?_, by show (ogS ce f i).2 + 1 = (ogS de g i).2 + 1; rw [ih.2]⟩
      show Ag 108 (if (ogS ce f i).2 = 0 then upd (ogS ce f i).1 i 0 else (ogS ce f i).1) (if (ogS de g i).2 = 0 then upd (ogS de g i).1 i 0 else (ogS de g i).1)
      by_cases z : (ogS ce f i).2 = 0
      · have z2 : (ogS de g i).2 = 0 := by rw [← ih.2]; exact z
        rw [if_pos z, if_pos z2]
        exact ih.1.up rfl
      · have z2 : ¬ (ogS de g i).2 = 0 := by rw [← ih.2]; exact z
        rw [if_neg z, if_neg z2]
        exact ih.1
    · have q2 : ¬ de i = 103 := by rw [← e]; exact q
      rw [ogS_f q, ogS_f q2]
      exact ih
theorem flP_ag {ce de f g : Nat → Int32} {r r2 : Int32} (hd : Ag 108 ce de) (h : ¬ r = 0 → Ag 108 f g) (e : r = r2) : Ag 108 (flP ce f r) (flP de g r2) := by
  subst e
  unfold flP
  by_cases q : r = 0
  · rw [if_pos q, if_pos q]
    have h1 : Ag 108 (fa_fill (fun _ => (-1 : Int32)) f 108) (fa_fill (fun _ => (-1 : Int32)) g 108) := fun k hk => by rw [fa_fill_in hk, fa_fill_in hk]
    have h2 := ogS_ag hd h1 12 (Nat.le_refl _)
    rw [h2.2]
    exact (fiS_ag hd h2.1 107).1
  · rw [if_neg q, if_neg q]
    exact h q
def A4 (n : Nat) (s t : zS4) : Prop := Ag n s.1 t.1 ∧ Ag n s.2.1 t.2.1 ∧ Ag n s.2.2.1 t.2.2.1 ∧ s.2.2.2 = t.2.2.2
theorem bhS_t {c : Nat} {nx st : Int32} {s : zS4} (h : ¬ s.2.2.1 c = 401 ∨ ¬ nx < 1150) : bhS c nx st s = (upd s.1 c nx, s.2) := if_pos h
theorem bhS_f {c : Nat} {nx st : Int32} {s : zS4} (h : ¬ (¬ s.2.2.1 c = 401 ∨ ¬ nx < 1150)) : bhS c nx st s = (upd s.1 c 1150, upd s.2.1 c (s.2.1 c - (1150 - nx)), if 0 < s.2.1 c - (1150 - nx) then s.2.2 else (upd s.2.2.1 c st, s.2.2.2 - 1)) := if_neg h
theorem bhS_nw {n c : Nat} {nx st : Int32} {s t : zS4} (hc : c < n) (a : ∀ v : Int32, Ag n (upd s.1 c v) (upd t.1 c v)) (b : Ag n s.2.1 t.2.1) (d : Ag n s.2.2.1 t.2.2.1) (l : s.2.2.2 = t.2.2.2) : A4 n (bhS c nx st s) (bhS c nx st t) := by
  have eb := b c hc
  have ed := d c hc
  by_cases q : ¬ s.2.2.1 c = 401 ∨ ¬ nx < 1150
  · have q2 : ¬ t.2.2.1 c = 401 ∨ ¬ nx < 1150 := by rw [← ed]; exact q
    rw [bhS_t q, bhS_t q2]
    exact ⟨a nx, b, d, l⟩
  · have q2 : ¬ (¬ t.2.2.1 c = 401 ∨ ¬ nx < 1150) := by rw [← ed]; exact q
    rw [bhS_f q, bhS_f q2, ← eb]
    by_cases z : 0 < s.2.1 c - (1150 - nx)
    · rw [if_pos z, if_pos z]
      exact ⟨a 1150, b.up rfl, d, l⟩
    · rw [if_neg z, if_neg z]
      exact ⟨a 1150, b.up rfl, d.up rfl, by show s.2.2.2 - 1 = t.2.2.2 - 1; rw [l]⟩
theorem bhS_ag {n c : Nat} {nx ny st : Int32} {s t : zS4} (hc : c < n) (e : nx = ny) (h : A4 n s t) : A4 n (bhS c nx st s) (bhS c ny st t) := by
  subst e
  exact bhS_nw hc (fun v => h.1.up rfl) h.2.1 h.2.2.1 h.2.2.2
def bgX (fi : Nat → Int32) (h : Int32) (i : Nat) (s : zS4) : zS4 := if fi i < 0 then (upd s.1 i 20, upd s.2.1 i 300, upd s.2.2.1 i (-1), s.2.2.2) else bhS i (z_hwf h (fi i)) 0 (s.1, upd s.2.1 i 300, upd s.2.2.1 i 401, s.2.2.2 + 1)
theorem bgS_s {ce fi : Nat → Int32} {h : Int32} {s : zS4} {i : Nat} : bgS ce fi h s (i + 1) = bgX fi h i (bgS ce fi h s i) := rfl
theorem bgX_ag {fi gi : Nat → Int32} {h : Int32} {i : Nat} {s t : zS4} (e : fi i = gi i) (k : A4 i s t) : A4 (i + 1) (bgX fi h i s) (bgX gi h i t) := by
  obtain ⟨a, b, d, l⟩ := k
  unfold bgX
  rw [← e]
  by_cases q : fi i < 0
  · rw [if_pos q, if_pos q]
    exact ⟨a.ps rfl, b.ps rfl, d.ps rfl, l⟩
  · rw [if_neg q, if_neg q]
    exact bhS_nw (s := (s.1, upd s.2.1 i 300, upd s.2.2.1 i 401, s.2.2.2 + 1)) (t := (t.1, upd t.2.1 i 300, upd t.2.2.1 i 401, t.2.2.2 + 1)) (Nat.lt_succ_self i) (fun v => a.ps rfl) (b.ps rfl) (d.ps rfl) (by show s.2.2.2 + 1 = t.2.2.2 + 1; rw [l])
theorem bgS_ag {ce de fi gi : Nat → Int32} {h : Int32} {s t : zS4} (hf : Ag 108 fi gi) : ∀ i, i ≤ 108 → A4 i (bgS ce fi h s i) (bgS de gi h t i)
  | 0, _ => ⟨fun k hk => absurd hk (Nat.not_lt_zero k), fun k hk => absurd hk (Nat.not_lt_zero k), fun k hk => absurd hk (Nat.not_lt_zero k), rfl⟩
  | i + 1, hi => by
    rw [bgS_s, bgS_s]
    exact bgX_ag (hf i (by omega)) (bgS_ag hf i (by omega))
theorem exS_ag {h k g g2 : Nat → Int32} {o p : Nat} {m m2 : Int32} (ho : o < 108) (hp : p < 108) (hh : Ag 108 h k) (hg : Ag 108 g g2) (e : m = m2) : Ag 108 (exS h o p m g) (exS k o p m2 g2) := by
  subst e
  have e1 := hh o ho
  have e2 := hh p hp
  have hx : Ag 108 (upd g o (g o + (h p - h o) * m / 64)) (upd g2 o (g2 o + (k p - k o) * m / 64)) := hg.up (by rw [e1, e2, hg o ho])
  unfold exS
  exact hx.up (by rw [hx p hp, e1, e2])
theorem psA_ag {h k r r2 g g2 : Nat → Int32} {i : Nat} (hi : i < 108) (hh : Ag 108 h k) (hr : Ag 108 r r2) (hg : Ag 108 g g2) : Ag 108 (psA h r i g) (psA k r2 i g2) := by
  unfold psA
  by_cases q : i % 12 < 11
  · rw [if_pos q, if_pos q]
    exact exS_ag hi (by omega) hh hg (hr i hi)
  · rw [if_neg q, if_neg q]
    exact hg
theorem psB_ag {h k r r2 g g2 : Nat → Int32} {i : Nat} (hi : i < 108) (hh : Ag 108 h k) (hr : Ag 108 r r2) (hg : Ag 108 g g2) : Ag 108 (psB h r i g) (psB k r2 i g2) := by
  unfold psB
  by_cases q : i < 96
  · rw [if_pos q, if_pos q]
    exact exS_ag hi (by omega) hh hg (hr i hi)
  · rw [if_neg q, if_neg q]
    exact hg
theorem flS_ag {h k : Nat → Int32} {i : Nat} (hi : i < 108) (hh : Ag 108 h k) : flS h i = flS k i := by
  unfold flS
  rw [hh i hi]
theorem psC_ag {h k g g2 : Nat → Int32} {i : Nat} (hi : i < 108) (hh : Ag 108 h k) (hg : Ag 108 g g2) : Ag 108 (psC h i g) (psC k i g2) := by
  unfold psC
  by_cases q : i % 12 = 0 ∨ i % 12 = 11
  · rw [if_pos q, if_pos q]
    exact hg.up (by rw [hg i hi, flS_ag hi hh])
  · rw [if_neg q, if_neg q]
    exact hg
theorem psD_ag {h k g g2 : Nat → Int32} {i : Nat} (hi : i < 108) (hh : Ag 108 h k) (hg : Ag 108 g g2) : Ag 108 (psD h i g) (psD k i g2) := by
  unfold psD
  by_cases q : i < 12 ∨ 96 ≤ i
  · rw [if_pos q, if_pos q]
    exact hg.up (by rw [hg i hi, flS_ag hi hh])
  · rw [if_neg q, if_neg q]
    exact hg
theorem gnS_ag {h k r r2 b b2 g g2 : Nat → Int32} (hh : Ag 108 h k) (hr : Ag 108 r r2) (hb : Ag 108 b b2) (hg : Ag 108 g g2) : ∀ i, i ≤ 108 → Ag 108 (gnS h r b g i) (gnS k r2 b2 g2 i)
  | 0, _ => hg
  | i + 1, hi => psD_ag (by omega) hh (psC_ag (by omega) hh (psB_ag (by omega) hh hb (psA_ag (by omega) hh hr (gnS_ag hh hr hb hg i (by omega)))))
theorem stS_ag {gn g2 : Nat → Int32} {st : Int32} {s t : zS4} (hg : Ag 108 gn g2) (h : A4 108 s t) : ∀ i, i ≤ 108 → A4 108 (stS gn st s i) (stS g2 st t i)
  | 0, _ => h
  | i + 1, hi => by
    have ih := stS_ag (st := st) hg h i (by omega)
    exact bhS_ag (by omega) (by rw [ih.1 i (by omega), hg i (by omega)]) ih
theorem psG_ag {F5 F6 G5 G6 : Nat → Int32} {Q R : zS5} (h5 : Ag 108 F5 G5) (h6 : Ag 108 F6 G6) (h : A4 108 Q.1 R.1) : Ag 108 (psG F5 F6 Q) (psG G5 G6 R) := by
  unfold psG
  exact gnS_ag h.1 h5 h6 (fun k hk => by rw [fa_fill_in hk, fa_fill_in hk]) 108 (Nat.le_refl _)
theorem psT_1 {F5 F6 : Nat → Int32} {st : Int32} {Q : zS5} : (psT F5 F6 st Q).1 = stS (psG F5 F6 Q) st Q.1 108 := by simp only [psT]
theorem psT_ag {F5 F6 G5 G6 : Nat → Int32} {st : Int32} {Q R : zS5} (h5 : Ag 108 F5 G5) (h6 : Ag 108 F6 G6) (h : A4 108 Q.1 R.1) : A4 108 (psT F5 F6 st Q).1 (psT G5 G6 st R).1 := by
  rw [psT_1, psT_1]
  exact stS_ag (psG_ag h5 h6 h) h 108 (Nat.le_refl _)
theorem pzS_ag {F5 F6 G5 G6 : Nat → Int32} {Q R : zS5} (h5 : Ag 108 F5 G5) (h6 : Ag 108 F6 G6) (h : A4 108 Q.1 R.1) : ∀ T, A4 108 (pzS F5 F6 Q T).1 (pzS G5 G6 R T).1
  | 0 => h
  | T + 1 => by
    have ih := pzS_ag h5 h6 h T
    by_cases q : 0 < (pzS F5 F6 Q T).1.2.2.2
    · have q2 : 0 < (pzS G5 G6 R T).1.2.2.2 := by rw [← ih.2.2.2]; exact q
      rw [pz_n q, pz_n q2]
      exact psT_ag h5 h6 ih
    · have q2 : ¬ 0 < (pzS G5 G6 R T).1.2.2.2 := by rw [← ih.2.2.2]; exact q
      rw [pz_stop q 1, pz_stop q2 1]
      exact ih
theorem pbS_ag {ce de fi gi : Nat → Int32} {a b : Nat} (ha : a < 108) (hb : b < 108) (hd : Ag 108 ce de) (hf : Ag 108 fi gi) : pbS ce fi a b = pbS de gi a b := by
  unfold pbS
  rw [hd a ha, hd b hb, hf a ha, hf b hb]
theorem toS_s {ce fi f0 : Nat → Int32} {sd i : Nat} : toS ce fi sd f0 (i + 1) = upd (toS ce fi sd f0 i) i ((bs i sd).elim 0 (fun k => pbS ce fi i k)) := rfl
theorem oel_n (x : Int32) (f : Nat → Int32) : (none : Option Nat).elim x f = x := rfl
theorem oel_s (x : Int32) (f : Nat → Int32) (a : Nat) : (some a).elim x f = f a := rfl
theorem tov_ag {ce de fi gi : Nat → Int32} {sd i : Nat} (hi : i < 108) (hd : Ag 108 ce de) (hf : Ag 108 fi gi) : (bs i sd).elim (0 : Int32) (fun k => pbS ce fi i k) = (bs i sd).elim (0 : Int32) (fun k => pbS de gi i k) := by
  cases e : bs i sd with
  | none => rw [oel_n, oel_n]
  | some o => rw [oel_s, oel_s, pbS_ag hi (bs_lt hi e) hd hf]
theorem toS_ag {ce de fi gi f0 g0 : Nat → Int32} {sd : Nat} (hd : Ag 108 ce de) (hf : Ag 108 fi gi) : ∀ i, i ≤ 108 → Ag i (toS ce fi sd f0 i) (toS de gi sd g0 i) := fun i => by
  induction i with
  | zero => exact fun _ k hk => absurd hk (Nat.not_lt_zero k)
  | succ i ih =>
    intro hi
    rw [toS_s, toS_s]
    exact (ih (by omega)).ps (tov_ag (by omega) hd hf)
def AD (n : Nat) (S T : zD) : Prop := Ag n S.1 T.1 ∧ (∀ j, j < S.2.2.1 → S.2.1 j = T.2.1 j) ∧ S.2.2.1 = T.2.2.1 ∧ S.2.2.2 = T.2.2.2
theorem aq_ps {q r : Nat → Nat} {t t2 o : Nat} (h : ∀ j, j < t → q j = r j) (e : t = t2) : ∀ j, j < t + 1 → updN q t o j = updN r t2 o j := fun j hj => by
  subst e
  by_cases z : j = t
  · rw [z, uNx_eq, uNx_eq]
  · rw [uNx_ne z, uNx_ne z]
    exact h j (by omega)
theorem fdA_ag {ce de fi gi : Nat → Int32} {S T : zD} (hd : Ag 108 ce de) (hf : Ag 108 fi gi) (h0 : S.2.2.1 = 0) (h1 : T.2.2.1 = 0) (hl : S.2.2.2 = T.2.2.2) : ∀ i, i ≤ 108 → AD i (fdA ce fi S i) (fdA de gi T i)
  | 0, _ => ⟨fun k hk => absurd hk (Nat.not_lt_zero k), fun j hj => absurd hj (by show ¬ j < S.2.2.1; omega), h0.trans h1.symm, hl⟩
  | i + 1, hi => by
    obtain ⟨a, b, c, d⟩ := fdA_ag hd hf h0 h1 hl i (by omega)
    have e1 := hd i (by omega)
    have e2 := hf i (by omega)
    by_cases q : ce i = 114 ∧ ¬ fi i < 0
    · have q2 : de i = 114 ∧ ¬ gi i < 0 := by rw [← e1, ← e2]; exact q
      rw [fdA_t q, fdA_t q2]
      exact ⟨a.ps rfl, aq_ps b c, by show (fdA ce fi S i).2.2.1 + 1 = (fdA de gi T i).2.2.1 + 1; rw [c], by show (fdA ce fi S i).2.2.2 + 10 = (fdA de gi T i).2.2.2 + 10; rw [d]⟩
    · have q2 : ¬ (de i = 114 ∧ ¬ gi i < 0) := by rw [← e1, ← e2]; exact q
      rw [fdA_f q, fdA_f q2]
      exact ⟨a.ps rfl, b, c, d⟩
theorem fdJ_ag {ce de fi gi fr gr : Nat → Int32} {here o : Nat} {S T : zD} (hh : here < 108) (ho : o < 108) (hd : Ag 108 ce de) (hf : Ag 108 fi gi) (hr : Ag 108 fr gr) (h : AD 108 S T) : AD 108 (fdJ ce fi fr here o S) (fdJ de gi gr here o T) := by
  obtain ⟨a, b, c, d⟩ := h
  have ec : cfB S.1 fi fr here o = cfB T.1 gi gr here o := by
    unfold cfB
    rw [a o ho, hf o ho, hr here hh, hr o ho]
  by_cases q : cfB S.1 fi fr here o = true ∧ S.2.2.1 < 108
  · have q2 : cfB T.1 gi gr here o = true ∧ T.2.2.1 < 108 := by rw [← ec, ← c]; exact q
    by_cases q3 : ce o = 99
    · have q4 : de o = 99 := by rw [← hd o ho]; exact q3
      by_cases q5 : S.2.2.2 = 0
      · have q6 : T.2.2.2 = 0 := by rw [← d]; exact q5
        rw [fdJ_1 q q3 q5, fdJ_1 q2 q4 q6]
        exact ⟨a, b, c, d⟩
      · have q6 : ¬ T.2.2.2 = 0 := by rw [← d]; exact q5
        rw [fdJ_2 q q3 q5, fdJ_2 q2 q4 q6]
        exact ⟨a.up rfl, aq_ps b c, by show S.2.2.1 + 1 = T.2.2.1 + 1; rw [c], by show S.2.2.2 + -1 = T.2.2.2 + -1; rw [d]⟩
    · have q4 : ¬ de o = 99 := by rw [← hd o ho]; exact q3
      rw [fdJ_3 q q3, fdJ_3 q2 q4]
      exact ⟨a.up rfl, aq_ps b c, by show S.2.2.1 + 1 = T.2.2.1 + 1; rw [c], d⟩
  · have q2 : ¬ (cfB T.1 gi gr here o = true ∧ T.2.2.1 < 108) := by rw [← ec, ← c]; exact q
    rw [fdJ_0 q, fdJ_0 q2]
    exact ⟨a, b, c, d⟩
theorem fdH_ag {ce de fi gi fr gr : Nat → Int32} {here : Nat} {S T : zD} (hh : here < 108) (hd : Ag 108 ce de) (hf : Ag 108 fi gi) (hr : Ag 108 fr gr) (h : AD 108 S T) : ∀ s, AD 108 (fdH ce fi fr here S s) (fdH de gi gr here T s)
  | 0 => h
  | s + 1 => by
    have ih := fdH_ag hh hd hf hr h s
    show AD 108 (fdI ce fi fr here s (fdH ce fi fr here S s)) (fdI de gi gr here s (fdH de gi gr here T s))
    cases e : bs here s with
    | none =>
      rw [fdI_n e, fdI_n e]
      exact ih
    | some o =>
      rw [fdI_s e, fdI_s e]
      exact fdJ_ag hh (bs_lt hh e) hd hf hr ih
theorem fdB_ag {ce de fi gi fr gr : Nat → Int32} {S T : zD} (hd : Ag 108 ce de) (hf : Ag 108 fi gi) (hr : Ag 108 fr gr) (h : AD 108 S T) (hk : Dok S 108) : ∀ n, AD 108 (fdB ce fi fr S n) (fdB de gi gr T n)
  | 0 => h
  | n + 1 => by
    have ih := fdB_ag hd hf hr h hk n
    by_cases q : n < (fdB ce fi fr S n).2.2.1
    · have q2 : n < (fdB de gi gr T n).2.2.1 := by rw [← ih.2.2.1]; exact q
      rw [fdB_t q, fdB_t q2, ← ih.2.1 n q]
      exact fdH_ag ((fdB_ok hk n).2 n q) hd hf hr ih 4
    · have q2 : ¬ n < (fdB de gi gr T n).2.2.1 := by rw [← ih.2.2.1]; exact q
      rw [fdB_stop q 1, fdB_stop q2 1]
      exact ih
theorem frz_ag {c d f g A1 A2 A3 A4' A5 A6 B1 B2 B3 B4 B5 B6 : Nat → Int32} {l l2 h : Int32} (hc : Ag 108 c d) (hf : Ag 108 f g) : Ag 108 (pzS (toS c f 2 A5 108) (toS c f 3 A6 108) (bgQ c f h A1 A2 A3 A4' l) 400).1.2.2.1 (pzS (toS d g 2 B5 108) (toS d g 3 B6 108) (bgQ d g h B1 B2 B3 B4 l2) 400).1.2.2.1 :=
  (pzS_ag (toS_ag hc hf 108 (Nat.le_refl _)) (toS_ag hc hf 108 (Nat.le_refl _)) (Q := bgQ c f h A1 A2 A3 A4' l) (R := bgQ d g h B1 B2 B3 B4 l2) (bgS_ag hf 108 (Nat.le_refl _)) 400).2.2.1
theorem fed_ag {c d f g fr gr a b : Nat → Int32} {q r : Nat → Nat} (hc : Ag 108 c d) (hf : Ag 108 f g) (hr : Ag 108 fr gr) : Ag 108 (fdB c f fr (fdA c f (a, q, 0, 0) 108) 108).1 (fdB d g gr (fdA d g (b, r, 0, 0) 108) 108).1 :=
  (fdB_ag hc hf hr (fdA_ag (S := (a, q, 0, 0)) (T := (b, r, 0, 0)) hc hf rfl rfl rfl 108 (Nat.le_refl _)) (fdA_ok (S0 := (a, q, 0, 0)) rfl 108 (Nat.le_refl _)) 108).1
noncomputable def fiO (P : Nat → Int32) : Nat → Int32 := flP P (fun _ => 0) 0
noncomputable def frO (P : Nat → Int32) (h : Int32) : Nat → Int32 := (pzS (toS P (fiO P) 2 (fun _ => 0) 108) (toS P (fiO P) 3 (fun _ => 0) 108) (bgQ P (fiO P) h (fun _ => 0) (fun _ => 0) (fun _ => 0) (fun _ => 0) 0) 400).1.2.2.1
noncomputable def fdO (P : Nat → Int32) (h : Int32) : Nat → Int32 := (fdB P (fiO P) (frO P h) (fdA P (fiO P) (fun _ => 0, fun _ => 0, 0, 0) 108) 108).1
set_option maxRecDepth 100000 in
theorem frO_ag {c f P A1 A2 A3 A4' A5 A6 : Nat → Int32} {l h : Int32} (hc : Ag 108 c P) (hf : Ag 108 f (fiO P)) : Ag 108 (pzS (toS c f 2 A5 108) (toS c f 3 A6 108) (bgQ c f h A1 A2 A3 A4' l) 400).1.2.2.1 (frO P h) := by
  rw [frO]
  exact frz_ag hc hf
set_option maxRecDepth 100000 in
theorem fdO_ag {c f fr a P : Nat → Int32} {q : Nat → Nat} {h : Int32} (hc : Ag 108 c P) (hf : Ag 108 f (fiO P)) (hr : Ag 108 fr (frO P h)) : Ag 108 (fdB c f fr (fdA c f (a, q, 0, 0) 108) 108).1 (fdO P h) := by
  rw [fdO]
  exact fed_ag hc hf hr
def TIX (X : zTr) (P : Nat → Int32) : Prop := Ag 108 X.1.1 P ∧ (¬ X.1.2.2.1 = 0 → Ag 108 X.1.2.1 (fiO P)) ∧ (¬ X.1.2.2.2 = 0 → ¬ X.1.2.2.1 = 0 ∧ Ag 108 X.2.1.1.1.2.2.1 (frO P X.1.2.2.2) ∧ Ag 108 X.2.2.1 (fdO P X.1.2.2.2))
theorem flR_n {r : Int32} : ¬ flR r = 0 := by
  unfold flR
  by_cases q : r = 0
  · rw [if_pos q]
    decide
  · rw [if_neg q]
    exact q
theorem flP_0 {ce fi : Nat → Int32} {r : Int32} (h : ¬ r = 0) : flP ce fi r = fi := if_neg h
theorem TIX_f2 {X : zTr} {P : Nat → Int32} (h : TIX X P) : Ag 108 (flP X.1.1 X.1.2.1 X.1.2.2.1) (fiO P) := by
  by_cases q : X.1.2.2.1 = 0
  · rw [q]
    exact flP_ag h.1 (fun z => absurd rfl z) rfl
  · rw [flP_0 q]
    exact h.2.1 q
theorem TIX_fl {X : zTr} {P : Nat → Int32} (h : TIX X P) : TIX (flT X) P := ⟨h.1, fun _ => TIX_f2 h, fun q => ⟨flR_n, (h.2.2 q).2⟩⟩
theorem TIX_mk {c f A6 A7 fed B1 P : Nat → Int32} {r h : Int32} {Z : zS5} {B2 : Nat → Nat} (h1 : Ag 108 c P) (h2 : Ag 108 f (fiO P)) (h3 : ¬ r = 0) (h4 : Ag 108 Z.1.2.2.1 (frO P h)) (h5 : Ag 108 fed (fdO P h)) : TIX ((c, f, r, h), (Z, A6, A7), (fed, B1, B2)) P := ⟨h1, fun _ => h2, fun _ => ⟨h3, h4, h5⟩⟩
set_option maxRecDepth 100000 in
theorem TIX_frN {X : zTr} {P : Nat → Int32} (hh : Int32) (h : TIX X P) : TIX (frN hh X) P := by
  have h2 := TIX_f2 h
  unfold frN
  exact TIX_mk h.1 h2 flR_n (frO_ag h.1 h2) (fdO_ag h.1 h2 (frO_ag h.1 h2))
theorem TIX_fr {X : zTr} {P : Nat → Int32} (hh : Int32) (h : TIX X P) : TIX (frT hh X) P := by
  unfold frT
  by_cases q : X.1.2.2.2 = hh
  · rw [if_pos q]
    exact h
  · rw [if_neg q]
    exact TIX_frN hh h
theorem frT_fo {X : zTr} {hh : Int32} : (frT hh X).1.2.2.2 = hh := by
  unfold frT
  by_cases q : X.1.2.2.2 = hh
  · rw [if_pos q]
    exact q
  · rw [if_neg q]
    rfl
theorem TIX_at {X : zTr} {P : Nat → Int32} {hh : Int32} (h : TIX X P) (h0 : ¬ hh = 0) : Ag 108 (frT hh X).1.1 P ∧ Ag 108 (frT hh X).1.2.1 (fiO P) ∧ Ag 108 (frT hh X).2.1.1.1.2.2.1 (frO P hh) ∧ Ag 108 (frT hh X).2.2.1 (fdO P hh) := by
  have k := TIX_fr hh h
  obtain ⟨a, b, c⟩ := k.2.2 (by rw [frT_fo]; exact h0)
  rw [frT_fo] at b c
  exact ⟨k.1, k.2.1 a, b, c⟩
theorem TIX_tk {X : zTr} {f P : Nat → Int32} (h : Ag 108 f P) : TIX (tkT f X) P := ⟨fun k hk => (show fa_fill f X.1.1 108 k = f k from if_pos hk).trans (h k hk), fun q => absurd rfl q, fun q => absurd rfl q⟩
theorem TIX_cg {X : zTr} {P Q : Nat → Int32} (h : TIX X P) (e : P = Q) : TIX X Q := by
  subst e
  exact h
