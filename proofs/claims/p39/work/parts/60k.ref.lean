def lqN (fl fz : Nat → Int32) : Nat := fa_cnt (fun k => decide (¬ fl k = -1 ∧ fz k = 0)) 108
def fzV (fz : Nat → Int32) : Prop := ∀ k, k < 108 → ∃ t : Nat, t ≤ 400 ∧ fz k = nI t
theorem fzV_up {fz : Nat → Int32} {i t : Nat} (h : fzV fz) (ht : t ≤ 400) : fzV (upd fz i (nI t)) := fun k hk => by
  by_cases q : k = i
  · subst q; exact ⟨t, ht, upd_eq⟩
  · rw [upd_ne q]; exact h k hk
theorem frG_401 {fl fz : Nat → Int32} {k : Nat} (hz : fzV fz) (hk : k < 108) : frG fl fz k = 401 ↔ ¬ fl k = -1 ∧ fz k = 0 := by
  unfold frG
  by_cases q : fl k = -1
  · rw [if_pos q]; exact ⟨fun e => absurd e (by decide), fun e => absurd q e.1⟩
  · rw [if_neg q]
    by_cases q2 : fz k = 0
    · rw [if_pos q2]; exact ⟨fun _ => ⟨q, q2⟩, fun _ => rfl⟩
    · rw [if_neg q2]
      obtain ⟨t, ht, e⟩ := hz k hk
      refine ⟨fun e2 => ?_, fun e2 => absurd e2.2 q2⟩
      rw [e] at e2
      exact absurd (z_eqn (b := 401) (by omega) (by decide) e2) (by omega)
theorem lq_up {fl fz : Nat → Int32} {i t : Nat} (hi : i < 108) (h1 : ¬ fl i = -1) (h2 : fz i = 0) (ht : 1 ≤ t) (ht2 : t ≤ 400) : lqN fl (upd fz i (nI t)) + 1 = lqN fl fz := by
  have e := (cnt_at (p' := fun k => decide (¬ fl k = -1 ∧ fz k = 0)) (p := fun k => decide (¬ fl k = -1 ∧ upd fz i (nI t) k = 0)) (o := i) (fun k hk => by rw [upd_ne hk]) (decide_eq_false (fun q => by rw [upd_eq] at q; exact absurd (nI_z (by omega) q.2) (by omega))) 108).2 hi
  have e2 : (decide (¬ fl i = -1 ∧ fz i = 0)).toNat = 1 := by rw [decide_eq_true ⟨h1, h2⟩]; rfl
  unfold lqN
  rw [e, e2]
theorem lq_same {fl fz : Nat → Int32} {i : Nat} (h2 : fz i = 0) : upd fz i 0 = fz := funext fun k => by
  by_cases q : k = i
  · subst q; rw [upd_eq, h2]
  · rw [upd_ne q]
theorem upd_upd {f : Nat → Int32} {i : Nat} {v w : Int32} : upd (upd f i v) i w = upd f i w := funext fun k => by
  by_cases q : k = i
  · subst q; rw [upd_eq, upd_eq]
  · rw [upd_ne q, upd_ne q, upd_ne q]
def rfI (fl he0 : Nat → Int32) (S : zS4) (R : zMs) (i : Nat) : Prop :=
  (∀ k, k < 108 → S.1 k = R.1 k) ∧ (∀ k, k < 108 → S.2.1 k = R.2.1 k) ∧ (∀ k, k < 108 → S.2.2.1 k = frG fl R.2.2.1 k) ∧ S.2.2.2 = nI (lqN fl R.2.2.1) ∧ fzV R.2.2.1 ∧ (∀ k, i ≤ k → R.1 k = he0 k) ∧ (R.2.2.2 = 0 ↔ ∀ k, k < i → ¬ (¬ fl k = -1 ∧ R.2.2.1 k = 0)) ∧ bdA R.1
theorem lfM_i {fl fz : Nat → Int32} {i : Nat} {z lf : Int32} (hz : fz i = z) (h : lf = 0 ↔ ∀ k, k < i → ¬ (¬ fl k = -1 ∧ fz k = 0)) : lfM fl i z lf = 0 ↔ ∀ k, k < i + 1 → ¬ (¬ fl k = -1 ∧ fz k = 0) := by
  unfold lfM
  by_cases q : lf = 0
  · rw [if_neg (fun y => y q)]
    by_cases q2 : ¬ fl i = -1 ∧ z = 0
    · rw [if_pos q2]
      exact ⟨fun y => absurd y (by decide), fun y => absurd ⟨q2.1, hz.trans q2.2⟩ (y i (Nat.lt_succ_self i))⟩
    · rw [if_neg q2]
      refine ⟨fun _ k hk => ?_, fun _ => rfl⟩
      rcases Nat.lt_or_ge k i with y | y
      · exact h.mp q k y
      · rw [show k = i by omega, hz]; exact q2
  · rw [if_pos q]
    exact ⟨fun y => absurd y (by decide), fun y => absurd (h.mpr (fun k hk => y k (by omega))) q⟩
theorem fz_other {fl fz : Nat → Int32} {i n : Nat} {v : Int32} (hn : n ≤ i) : (∀ k, k < n → ¬ (¬ fl k = -1 ∧ upd fz i v k = 0)) ↔ ∀ k, k < n → ¬ (¬ fl k = -1 ∧ fz k = 0) := by
  constructor
  · intro h k hk; have := h k hk; rw [upd_ne (by omega)] at this; exact this
  · intro h k hk; rw [upd_ne (by omega)]; exact h k hk
theorem rf_step {fl he0 nx gn : Nat → Int32} {t i : Nat} {S : zS4} {R : zMs} (hi : i < 108) (ht : 1 ≤ t) (ht2 : t ≤ 400) (h : rfI fl he0 S R i) (hn : nx i = he0 i + gn i) (hb : bd1 (nx i)) : rfI fl he0 (bhS i (S.1 i + gn i) (nI t) S) (fsM1 fl nx (nI t) i R) (i + 1) := by
  obtain ⟨r1, r2, r3, r4, r5, r6, r7, r8⟩ := h
  have e0 : S.1 i + gn i = nx i := by rw [r1 i hi, r6 i (Nat.le_refl _), hn]
  rw [e0]
  have eA : (¬ S.2.2.1 i = 401 ∨ ¬ nx i < 1150) ↔ ¬ (¬ fl i = -1 ∧ R.2.2.1 i = 0 ∧ nx i < 1150) := by
    rw [r3 i hi, frG_401 r5 hi]
    constructor
    · intro y z; exact y.elim (fun y => y ⟨z.1, z.2.1⟩) (fun y => y z.2.2)
    · intro y
      by_cases q : nx i < 1150
      · exact Or.inl (fun z => y ⟨z.1, z.2, q⟩)
      · exact Or.inr q
  have b1150 : bd1 1150 := ⟨by decide, by decide⟩
  have hbu : ∀ v, bd1 v → bdA (upd R.1 i v) := fun v hv k hk => by
    by_cases q : k = i
    · subst q; rw [upd_eq]; exact hv
    · rw [upd_ne q]; exact r8 k hk
  have hh : ∀ v k, k < 108 → upd S.1 i v k = upd R.1 i v k := fun v => eq_up r1
  have hk6 : ∀ v k, i + 1 ≤ k → upd R.1 i v k = he0 k := fun v k hk => by rw [upd_ne (by omega)]; exact r6 k (by omega)
  unfold bhS fsM1
  by_cases qA : ¬ fl i = -1 ∧ R.2.2.1 i = 0 ∧ nx i < 1150
  · rw [if_neg (fun z => eA.mp z qA), if_pos qA, upd_upd, ← r2 i hi]
    by_cases qB : 0 < S.2.1 i - (1150 - nx i)
    · rw [if_pos qB, if_pos qB, lq_same (fl := fl) qA.2.1]
      exact ⟨hh 1150, fun k hk => by rw [r2 i hi]; exact eq_up r2 k hk, r3, r4, r5, hk6 1150, lfM_i qA.2.1 r7, hbu _ b1150⟩
    · rw [if_neg qB, if_neg qB]
      refine ⟨hh 1150, fun k hk => by rw [r2 i hi]; exact eq_up r2 k hk, fun k hk => ?_, ?_, fzV_up r5 ht2, hk6 1150, lfM_i upd_eq (r7.trans (fz_other (Nat.le_refl _)).symm), hbu _ b1150⟩
      · show upd S.2.2.1 i (nI t) k = frG fl (upd R.2.2.1 i (nI t)) k
        by_cases q : k = i
        · subst q
          unfold frG
          rw [upd_eq, if_neg qA.1, upd_eq, if_neg (fun z => absurd (nI_z (by omega) z) (by omega))]
        · rw [upd_ne q, r3 k hk]
          unfold frG
          rw [upd_ne q]
      · show S.2.2.2 - 1 = nI (lqN fl (upd R.2.2.1 i (nI t)))
        have := lq_up hi qA.1 qA.2.1 ht ht2
        rw [r4, ← this]
        exact nI_sub1 (p := lqN fl (upd R.2.2.1 i (nI t)) + 1) (Nat.succ_le_succ (Nat.zero_le _))
  · rw [if_pos (eA.mpr qA), if_neg qA]
    exact ⟨hh _, r2, r3, r4, r5, hk6 _, lfM_i rfl r7, hbu _ hb⟩
theorem rf_loop {fl he0 nx gn : Nat → Int32} {t : Nat} {S : zS4} {R : zMs} (ht : 1 ≤ t) (ht2 : t ≤ 400) (h : rfI fl he0 S R 0) (hn : ∀ k, k < 108 → nx k = he0 k + gn k ∧ bd1 (nx k)) : ∀ i, i ≤ 108 → rfI fl he0 (stS gn (nI t) S i) (fsM fl nx (nI t) R i) i
  | 0, _ => h
  | i + 1, hi => rf_step (by omega) ht ht2 (rf_loop ht ht2 h hn i (by omega)) (hn i (by omega)).1 (hn i (by omega)).2
def rfQ (fl : Nat → Int32) (S : zS4) (R : zMs) : Prop := (∀ k, k < 108 → S.1 k = R.1 k) ∧ (∀ k, k < 108 → S.2.1 k = R.2.1 k) ∧ (∀ k, k < 108 → S.2.2.1 k = frG fl R.2.2.1 k) ∧ S.2.2.2 = nI (lqN fl R.2.2.1) ∧ fzV R.2.2.1 ∧ bdA R.1 ∧ (R.2.2.2 = 0 ↔ lqN fl R.2.2.1 = 0)
theorem lq_0 {fl fz : Nat → Int32} : (∀ k, k < 108 → ¬ (¬ fl k = -1 ∧ fz k = 0)) ↔ lqN fl fz = 0 := by
  constructor
  · intro h
    have key : ∀ n, n ≤ 108 → fa_cnt (fun k => decide (¬ fl k = -1 ∧ fz k = 0)) n = 0 := fun n => by
      induction n with
      | zero => exact fun _ => rfl
      | succ n ih => exact fun hn => by rw [fa_cnt_no (p := fun k => decide (¬ fl k = -1 ∧ fz k = 0)) (decide_eq_false (h n (by omega)))]; exact ih (by omega)
    exact key 108 (Nat.le_refl _)
  · intro h k hk
    exact of_decide_eq_false (cnt_0 (p := fun k => decide (¬ fl k = -1 ∧ fz k = 0)) 108 h k hk)
theorem rf_pass {f fl ce fi f5 f6 : Nat → Int32} {Q : zS5} {R : zFz} {t : Nat} (hc : eqA ce f) (hf : eqA fl fi) (hv : vlA f fl) (ht : 1 ≤ t) (ht2 : t ≤ 400) (h : rfQ fl Q.1 R.1) : rfQ fl (psT (toS ce fi 2 f5 108) (toS ce fi 3 f6 108) (nI t) Q).1 (fzP f fl (nI t) R).1 := by
  obtain ⟨r1, r2, r3, r4, r5, r6, r7⟩ := h
  have h0 : rfI fl R.1.1 Q.1 (R.1.1, R.1.2.1, R.1.2.2.1, 0) 0 := ⟨r1, r2, r3, r4, r5, fun _ _ => rfl, ⟨fun _ k hk => absurd hk (Nat.not_lt_zero k), fun _ => rfl⟩, r6⟩
  have hn : ∀ k, k < 108 → fnM f fl R k = R.1.1 k + psG (toS ce fi 2 f5 108) (toS ce fi 3 f6 108) Q k ∧ bd1 (fnM f fl R k) := fun k hk => by
    have e1 : fnM f fl R k = R.1.1 k + gaM f fl R.1.1 k 4 := fa_fill_in hk
    have e2 : psG (toS ce fi 2 f5 108) (toS ce fi 3 f6 108) Q k = gaM f fl R.1.1 k 4 := gn_ga hc hf hv r1 r6 hk
    rw [e1, e2]
    exact ⟨rfl, ga_bd r6 hk⟩
  obtain ⟨s1, s2, s3, s4, s5, -, s7, s8⟩ := rf_loop ht ht2 h0 hn 108 (Nat.le_refl _)
  have eP : (psT (toS ce fi 2 f5 108) (toS ce fi 3 f6 108) (nI t) Q).1 = stS (psG (toS ce fi 2 f5 108) (toS ce fi 3 f6 108) Q) (nI t) Q.1 108 := by
    unfold psT
    dsimp only
  rw [fzP_1, eP]
  exact ⟨s1, s2, s3, s4, s5, s8, s7.trans lq_0⟩
theorem rf_run {f fl ce fi f5 f6 : Nat → Int32} {Q : zS5} {R : zFz} (hc : eqA ce f) (hf : eqA fl fi) (hv : vlA f fl) (h : rfQ fl Q.1 R.1) : ∀ t, t ≤ 400 → rfQ fl (pzS (toS ce fi 2 f5 108) (toS ce fi 3 f6 108) Q t).1 (fzR f fl R t).1
  | 0, _ => h
  | t + 1, ht => by
    have ih := rf_run (f5 := f5) (f6 := f6) hc hf hv h t (by omega)
    have hl : lqN fl (fzR f fl R t).1.2.2.1 ≤ 108 := fa_cnt_le _ 108
    by_cases q : (fzR f fl R t).1.2.2.2 = 0
    · have e : ¬ 0 < (pzS (toS ce fi 2 f5 108) (toS ce fi 3 f6 108) Q t).1.2.2.2 := by
        rw [ih.2.2.2.1, ih.2.2.2.2.2.2.mp q]; decide
      rw [show fzR f fl R (t + 1) = fzR f fl R t from if_pos q, show pzS (toS ce fi 2 f5 108) (toS ce fi 3 f6 108) Q (t + 1) = pzS (toS ce fi 2 f5 108) (toS ce fi 3 f6 108) Q t from if_neg e]
      exact ih
    · have e : 0 < (pzS (toS ce fi 2 f5 108) (toS ce fi 3 f6 108) Q t).1.2.2.2 := by
        rw [ih.2.2.2.1]
        exact (nI_ltI (a := 0) (by decide) (by omega)).mpr (by have : ¬ lqN fl (fzR f fl R t).1.2.2.1 = 0 := fun z => q (ih.2.2.2.2.2.2.mpr z); omega)
      rw [fzR_n q, pz_n e]
      exact rf_pass hc hf hv (by omega) ht ih
theorem bg_k {ce fi : Nat → Int32} {h : Int32} {s0 : zS4} (hh : ∀ k, k < 108 → ¬ fi k < 0 → ¬ z_hwf h (fi k) < 1150) : ∀ i, i ≤ 108 → (∀ k, k < i → (bgS ce fi h s0 i).1 k = (if fi k < 0 then 20 else z_hwf h (fi k)) ∧ (bgS ce fi h s0 i).2.1 k = 300 ∧ (bgS ce fi h s0 i).2.2.1 k = (if fi k < 0 then -1 else 401)) ∧ (bgS ce fi h s0 i).2.2.2 = nI (fa_cnt (fun k => decide (¬ fi k < 0)) i)
  | 0, _ => ⟨fun k hk => absurd hk (Nat.not_lt_zero k), rfl⟩
  | i + 1, hi => by
    have ih := bg_k (ce := ce) (s0 := s0) hh i (by omega)
    by_cases q : fi i < 0
    · rw [bgS_t q, fa_cnt_no (p := fun k => decide (¬ fi k < 0)) (decide_eq_false (fun y => y q))]
      refine ⟨fun k hk => ?_, ih.2⟩
      by_cases z : k = i
      · subst z
        exact ⟨by rw [if_pos q]; exact upd_eq, upd_eq, by rw [if_pos q]; exact upd_eq⟩
      · have := ih.1 k (by omega)
        exact ⟨(upd_ne z).trans this.1, (upd_ne z).trans this.2.1, (upd_ne z).trans this.2.2⟩
    · have e : bhS i (z_hwf h (fi i)) 0 ((bgS ce fi h s0 i).1, upd (bgS ce fi h s0 i).2.1 i 300, upd (bgS ce fi h s0 i).2.2.1 i 401, (bgS ce fi h s0 i).2.2.2 + 1) = (upd (bgS ce fi h s0 i).1 i (z_hwf h (fi i)), upd (bgS ce fi h s0 i).2.1 i 300, upd (bgS ce fi h s0 i).2.2.1 i 401, (bgS ce fi h s0 i).2.2.2 + 1) := by
        unfold bhS
        exact if_pos (Or.inr (hh i (by omega) q))
      rw [bgS_f q, e, fa_cnt_yes (p := fun k => decide (¬ fi k < 0)) (decide_eq_true q)]
      refine ⟨fun k hk => ?_, ?_⟩
      · by_cases z : k = i
        · subst z
          exact ⟨by rw [if_neg q]; exact upd_eq, upd_eq, by rw [if_neg q]; exact upd_eq⟩
        · have := ih.1 k (by omega)
          exact ⟨(upd_ne z).trans this.1, (upd_ne z).trans this.2.1, (upd_ne z).trans this.2.2⟩
      · show (bgS ce fi h s0 i).2.2.2 + 1 = _
        rw [ih.2]
        exact nI_add _ _
theorem rf_begin {f fl ce fi he mt fz nx F1 F2 F3 F4 : Nat → Int32} {h lf liq : Int32} (hf : eqA fl fi) (hv : vlA f fl) (hh : ∀ k, k < 108 → ¬ fi k < 0 → ¬ z_hwf h (fi k) < 1150) (h15 : h.toInt ≤ 1500) (h0 : 1000 ≤ h.toInt) (hne : ¬ fa_cnt (fun k => decide (¬ fi k < 0)) 108 = 0) (hlf : lf = 1) : rfQ fl (bgQ ce fi h F1 F2 F3 F4 liq).1 (begM fl he mt fz nx h lf).1 := by
  have b := bg_k (ce := ce) (s0 := (F1, F3, F4, liq)) hh 108 (Nat.le_refl _)
  have p : ∀ k, k < 108 → (fi k < 0 ↔ fl k = -1) := fun k hk => by rw [← hf k hk]; exact vl_neg hv hk
  have e1 : ∀ k, k < 108 → (begM fl he mt fz nx h lf).1.1 k = if fl k = -1 then 20 else h - 2 * fl k := fun k hk => fa_fill_in hk
  have e2 : ∀ k, k < 108 → (begM fl he mt fz nx h lf).1.2.1 k = 300 := fun k hk => fa_fill_in (f := fun _ => 300) hk
  have e3 : ∀ k, k < 108 → (begM fl he mt fz nx h lf).1.2.2.1 k = 0 := fun k hk => fa_fill_in (f := fun _ => 0) hk
  have el : lqN fl (begM fl he mt fz nx h lf).1.2.2.1 = fa_cnt (fun k => decide (¬ fi k < 0)) 108 := fa_cnt_cong (fun k hk => decide_eq_decide.mpr (by rw [e3 k hk, p k hk]; exact ⟨fun y => y.1, fun y => ⟨y, rfl⟩⟩))
  refine ⟨fun k hk => ?_, fun k hk => ?_, fun k hk => ?_, ?_, fun k hk => ⟨0, by omega, e3 k hk⟩, fun k hk => ?_, ?_⟩
  · rw [e1 k hk]
    refine ((b.1 k hk).1).trans ?_
    unfold z_hwf
    rw [hf k hk]
    exact z_ifc (by rw [← hf k hk]; exact vl_neg hv hk) rfl rfl
  · rw [e2 k hk]; exact (b.1 k hk).2.1
  · refine ((b.1 k hk).2.2).trans ?_
    unfold frG
    rw [e3 k hk, if_pos (rfl : (0 : Int32) = 0)]
    exact z_ifc (p k hk) rfl rfl
  · rw [el]; exact b.2
  · rw [e1 k hk]
    by_cases q : fl k = -1
    · rw [if_pos q]; exact bd_20
    · rw [if_neg q]
      have hk2 := hh k hk (fun z => q ((p k hk).mp z))
      unfold z_hwf at hk2
      rw [← hf k hk, Int32.not_lt, fa_le] at hk2
      rcases hv k hk with e | ⟨-, t, ht, e⟩
      · exact absurd e q
      · have e5 : (1150 : Int32).toInt = 1150 := by decide
        rw [e5] at hk2
        refine ⟨by omega, ?_⟩
        have en : (nI t).toInt = (t : Int) := nI_toInt (by omega)
        have e6 : (2 * fl k).toInt = 2 * (t : Int) := by
          rw [e, Int32.toInt_mul, en, show (2 : Int32).toInt = 2 by decide]
          exact bm32 (by omega) (by omega)
        rw [Int32.toInt_sub, e6, bm32 (by omega) (by omega)]
        omega
  · rw [el, hlf]
    exact ⟨fun y => absurd y (show ¬ (1 : Int32) = 0 by decide), fun y => absurd y hne⟩
