def bsdS (f : Nat → Int32) (c : Nat) : Nat → Int32
  | 0 => 0
  | s + 1 => (bs c s).elim 1 (fun o => if f o = 46 then 1 else bsdS f c s)
theorem bsdS_n {f : Nat → Int32} {c s : Nat} (h : bs c s = none) : bsdS f c (s + 1) = 1 := by rw [bsdS, h]; rfl
theorem bsdS_o {f : Nat → Int32} {c s o : Nat} (h : bs c s = some o) : bsdS f c (s + 1) = if f o = 46 then 1 else bsdS f c s := by rw [bsdS, h]; rfl
theorem bsdS_01 (f : Nat → Int32) (c : Nat) : ∀ s, bsdS f c s = 0 ∨ bsdS f c s = 1
  | 0 => Or.inl rfl
  | s + 1 => by
    have ih := bsdS_01 f c s
    cases e : bs c s with
    | none => exact Or.inr (bsdS_n e)
    | some o =>
      rw [bsdS_o e]
      split
      · exact Or.inr rfl
      · exact ih
theorem bsdS_1 {f : Nat → Int32} {c s : Nat} (h : ¬ bsdS f c s = 0) : bsdS f c (s + 1) = 1 := by
  have h1 := (bsdS_01 f c s).resolve_left h
  cases e : bs c s with
  | none => exact bsdS_n e
  | some o =>
    rw [bsdS_o e]
    split
    · rfl
    · exact h1
theorem bwH_2 (f : Nat → Int32) (here : Nat) (Q : zQ) : ∀ s, (bwH f here Q s).2 = bsdS f here s
  | 0 => rfl
  | s + 1 => by
    have ih := bwH_2 f here Q s
    show (bwI f here s (bwH f here Q s)).2 = _
    cases e : bs here s with
    | none => rw [bwI_n e, bsdS_n e]
    | some o =>
      rw [bwI_s e, bsdS_o e]
      by_cases q : f o = 46
      · rw [bwJ_0 q, if_pos q]
      · rw [if_neg q]
        by_cases q2 : f o = 111 ∧ (bwH f here Q s).1.2.1 o = 0 ∧ (bwH f here Q s).1.1 < 108
        · rw [bwJ_1 q q2]; exact ih
        · rw [bwJ_2 q q2]; exact ih
theorem bwI_nn {f : Nat → Int32} {here s : Nat} {P : zP} (h : bs here s = none) : (bwI f here s P).1 = P.1 := by rw [bwI_n h]
theorem bwI_no {f : Nat → Int32} {here s o : Nat} {P : zP} (h : bs here s = some o) (h1 : ¬ f o = 111) : (bwI f here s P).1 = P.1 := by
  rw [bwI_s h]
  by_cases q : f o = 46
  · rw [bwJ_0 q]
  · rw [bwJ_2 q (fun q2 => h1 q2.1)]
theorem bwI_ns {f : Nat → Int32} {here s o : Nat} {P : zP} (h : bs here s = some o) (h1 : ¬ P.1.2.1 o = 0) : (bwI f here s P).1 = P.1 := by
  rw [bwI_s h]
  by_cases q : f o = 46
  · rw [bwJ_0 q]
  · rw [bwJ_2 q (fun q2 => h1 q2.2.1)]
theorem bwI_y {f : Nat → Int32} {here s o : Nat} {P : zP} (h : bs here s = some o) (h1 : f o = 111) (h2 : P.1.2.1 o = 0) (h3 : P.1.1 < 108) : (bwI f here s P).1 = (P.1.1 + 1, upd P.1.2.1 o 1, updN P.1.2.2 P.1.1 o) := by
  rw [bwI_s h, bwJ_1 (by rw [h1]; decide) ⟨h1, h2, h3⟩]
def bsP (f : Nat → Int32) (c : Nat) : Bool := decide (¬ bsdS f c 4 = 0)
def nwP (f sn se : Nat → Int32) (k : Nat) : Bool := decide (¬ se k = 0) && (decide (sn k = 0) && bsP f k)
theorem cnt_at {p p' : Nat → Bool} {o : Nat} (h : ∀ k, ¬ k = o → p' k = p k) (h0 : p o = false) : ∀ n, (n ≤ o → fa_cnt p' n = fa_cnt p n) ∧ (o < n → fa_cnt p' n = fa_cnt p n + (p' o).toNat)
  | 0 => ⟨fun _ => rfl, fun q => absurd q (Nat.not_lt_zero _)⟩
  | n + 1 => by
    have ih := cnt_at h h0 n
    refine ⟨fun q => ?_, fun q => ?_⟩
    · rw [fa_cnt, fa_cnt, ih.1 (by omega), h n (by omega)]
    · by_cases hn : n = o
      · subst hn
        rw [fa_cnt_no (p := p) h0]
        cases e : p' n with
        | true => rw [fa_cnt_yes (p := p') e, ih.1 (Nat.le_refl _)]; rfl
        | false => rw [fa_cnt_no (p := p') e, ih.1 (Nat.le_refl _)]; rfl
      · rw [fa_cnt, fa_cnt, ih.2 (by omega), h n hn, Nat.add_right_comm]
theorem upd_eq {f : Nat → Int32} {o : Nat} {v : Int32} : upd f o v o = v := if_pos rfl
theorem upd_ne {f : Nat → Int32} {o k : Nat} {v : Int32} (h : ¬ k = o) : upd f o v k = f k := if_neg h
theorem updN_eq {q : Nat → Nat} {t v : Nat} : updN q t v t = v := by unfold updN; rw [if_pos rfl]
theorem updN_ne {q : Nat → Nat} {t v k : Nat} (h : ¬ k = t) : updN q t v k = q k := by unfold updN; rw [if_neg h]
def bI (f sn : Nat → Int32) (P : zQ) : Prop := (∀ k, ¬ sn k = 0 → ¬ P.2.1 k = 0) ∧ P.1 ≤ ctM P.2.1 ∧ fa_cnt (nwP f sn P.2.1) 108 = fa_cnt (fun j => bsP f (P.2.2 j)) P.1
theorem bI_up {f sn : Nat → Int32} {P : zQ} {o : Nat} (h : bI f sn P) (ho : o < 108) (h0 : P.2.1 o = 0) : bI f sn (P.1 + 1, upd P.2.1 o 1, updN P.2.2 P.1 o) := by
  have hs : sn o = 0 := Classical.byContradiction (fun q => h.1 o q h0)
  refine ⟨fun k hk => ?_, ?_, ?_⟩
  · show ¬ upd P.2.1 o 1 k = 0
    by_cases q : k = o
    · subst q; rw [upd_eq]; decide
    · rw [upd_ne q]; exact h.1 k hk
  · show P.1 + 1 ≤ ctM (upd P.2.1 o 1)
    rw [ct_up ho h0]
    have := h.2.1
    omega
  · show fa_cnt (nwP f sn (upd P.2.1 o 1)) 108 = fa_cnt (fun j => bsP f (updN P.2.2 P.1 o j)) (P.1 + 1)
    have e0 : nwP f sn P.2.1 o = false := by
      show (decide (¬ P.2.1 o = 0) && _) = false
      rw [decide_eq_false (show ¬ ¬ P.2.1 o = 0 from fun q => q h0)]; rfl
    have e2 := (cnt_at (p := nwP f sn P.2.1) (p' := nwP f sn (upd P.2.1 o 1)) (o := o) (fun k hk => by unfold nwP; rw [upd_ne hk]) e0 108).2 ho
    have e3 : nwP f sn (upd P.2.1 o 1) o = bsP f o := by
      show (decide (¬ upd P.2.1 o 1 o = 0) && (decide (sn o = 0) && bsP f o)) = bsP f o
      rw [decide_eq_true (show ¬ upd P.2.1 o 1 o = 0 by rw [upd_eq]; decide), decide_eq_true hs]; rfl
    have e4 : fa_cnt (fun j => bsP f (updN P.2.2 P.1 o j)) P.1 = fa_cnt (fun j => bsP f (P.2.2 j)) P.1 := fa_cnt_cong (fun k hk => congrArg (bsP f) (updN_ne (by omega)))
    have e5 : bsP f (updN P.2.2 P.1 o P.1) = bsP f o := congrArg (bsP f) updN_eq
    rw [e2, e3, h.2.2]
    cases e : bsP f o with
    | true => rw [fa_cnt_yes (p := fun j => bsP f (updN P.2.2 P.1 o j)) (e5.trans e), e4]; rfl
    | false => rw [fa_cnt_no (p := fun j => bsP f (updN P.2.2 P.1 o j)) (e5.trans e), e4]; rfl
theorem bI_0 {f sn : Nat → Int32} {qn : Nat → Nat} : bI f sn (0, sn, qn) := by
  refine ⟨fun k h => h, Nat.zero_le _, ?_⟩
  show fa_cnt (nwP f sn sn) 108 = 0
  have key : ∀ n, fa_cnt (nwP f sn sn) n = 0 := fun n => by
    induction n with
    | zero => rfl
    | succ n ih =>
      rw [fa_cnt_no, ih]
      unfold nwP
      by_cases q : sn n = 0
      · rw [decide_eq_false (show ¬ ¬ sn n = 0 from fun e => e q)]; rfl
      · rw [decide_eq_false q, Bool.false_and, Bool.and_false]
  exact key 108
theorem bI_1 {f sn : Nat → Int32} {qn : Nat → Nat} {st : Nat} (hst : st < 108) (h0 : sn st = 0) : bI f sn (1, upd sn st 1, updN qn 0 st) := bI_up (P := (0, sn, qn)) bI_0 hst h0
theorem bI_lt {f sn : Nat → Int32} {P : zQ} {o : Nat} (h : bI f sn P) (ho : o < 108) (h0 : P.2.1 o = 0) : P.1 < 108 := by
  have h1 := ct_up ho h0
  have h2 := ctm_le (upd P.2.1 o 1)
  have h3 := h.2.1
  omega
theorem bI_I {f sn : Nat → Int32} {here s : Nat} {P : zP} (hh : here < 108) (h : bI f sn P.1) : bI f sn (bwI f here s P).1 := by
  cases e : bs here s with
  | none => rw [bwI_nn e]; exact h
  | some o =>
    by_cases q1 : f o = 111
    · by_cases q2 : P.1.2.1 o = 0
      · rw [bwI_y e q1 q2 (bI_lt h (bs_lt hh e) q2)]
        exact bI_up h (bs_lt hh e) q2
      · rw [bwI_ns e q2]; exact h
    · rw [bwI_no e q1]; exact h
theorem bI_H {f sn : Nat → Int32} {here : Nat} {Q : zQ} (hh : here < 108) (h : bI f sn Q) : ∀ s, bI f sn (bwH f here Q s).1
  | 0 => h
  | s + 1 => bI_I hh (bI_H hh h s)
theorem bI_B {f sn : Nat → Int32} {Q0 : zQ} (hk : Qok Q0) (h0 : bI f sn Q0) : ∀ h, bI f sn (bwB f Q0 h).1
  | 0 => h0
  | h + 1 => by
    have ih := bI_B hk h0 h
    by_cases q : h < (bwB f Q0 h).1.1
    · rw [bwB_t q]
      exact bI_H ((bwB_ok hk h).2 h q) ih 4
    · rw [bwB_f q]; exact ih
theorem bwB_c {f : Nat → Int32} {Q0 : zQ} (hk : Qok Q0) : ∀ h, (bwB f Q0 h).2 = fa_cnt (fun j => bsP f ((bwB f Q0 h).1.2.2 j)) (min h (bwB f Q0 h).1.1)
  | 0 => by rw [Nat.zero_min]; rfl
  | h + 1 => by
    have ih := bwB_c (f := f) hk h
    have hok := bwB_ok (f := f) hk h
    by_cases q : h < (bwB f Q0 h).1.1
    · have hh := hok.2 h q
      have w := fun j (hj : j < (bwB f Q0 h).1.1) => bwH_ok (f := f) hh hok hj 4
      rw [bwB_t q]
      show bwL (bwH f ((bwB f Q0 h).1.2.2 h) (bwB f Q0 h).1 4) (bwB f Q0 h).2 = fa_cnt (fun j => bsP f ((bwH f ((bwB f Q0 h).1.2.2 h) (bwB f Q0 h).1 4).1.2.2 j)) (min (h + 1) (bwH f ((bwB f Q0 h).1.2.2 h) (bwB f Q0 h).1 4).1.1)
      rw [Nat.min_eq_left (show h + 1 ≤ (bwH f ((bwB f Q0 h).1.2.2 h) (bwB f Q0 h).1 4).1.1 from (w h q).2.2)]
      rw [Nat.min_eq_left (Nat.le_of_lt q)] at ih
      have e4 : fa_cnt (fun j => bsP f ((bwH f ((bwB f Q0 h).1.2.2 h) (bwB f Q0 h).1 4).1.2.2 j)) h = fa_cnt (fun j => bsP f ((bwB f Q0 h).1.2.2 j)) h := fa_cnt_cong (fun k hk9 => congrArg (bsP f) (w k (by omega)).2.1)
      have e5 := congrArg (bsP f) (w h q).2.1
      have e6 := bwH_2 f ((bwB f Q0 h).1.2.2 h) (bwB f Q0 h).1 4
      unfold bwL
      rw [e6, ih]
      by_cases z : bsdS f ((bwB f Q0 h).1.2.2 h) 4 = 0
      · rw [if_pos z, fa_cnt_no (p := fun j => bsP f ((bwH f ((bwB f Q0 h).1.2.2 h) (bwB f Q0 h).1 4).1.2.2 j)) (e5.trans (by unfold bsP; exact decide_eq_false (fun y => y z))), e4]
      · rw [if_neg z, fa_cnt_yes (p := fun j => bsP f ((bwH f ((bwB f Q0 h).1.2.2 h) (bwB f Q0 h).1 4).1.2.2 j)) (e5.trans (by unfold bsP; exact decide_eq_true z)), e4]
    · rw [bwB_f q, ih, Nat.min_eq_right (by omega), Nat.min_eq_right (by omega)]
theorem Qok_1 {sn : Nat → Int32} {qn : Nat → Nat} {st : Nat} (hst : st < 108) : Qok (1, upd sn st 1, updN qn 0 st) := ⟨by show 1 ≤ 108; omega, fun k hk => by
  have e : k = 0 := Nat.lt_one_iff.mp hk
  show updN qn 0 st k < 108
  unfold updN; rw [if_pos e]; exact hst⟩
theorem bg_c {f sn : Nat → Int32} {qn : Nat → Nat} {st : Nat} (hst : st < 108) (h0 : sn st = 0) : (bgB f sn qn st).2 = fa_cnt (nwP f sn (bgB f sn qn st).1.2.1) 108 := by
  unfold bgB
  have h1 := bwB_c (f := f) (Qok_1 (sn := sn) (qn := qn) hst) 108
  have h2 := bI_B (Qok_1 (sn := sn) (qn := qn) hst) (bI_1 (f := f) (qn := qn) hst h0) 108
  have h3 := (bwB_ok (f := f) (Qok_1 (sn := sn) (qn := qn) hst) 108).1
  rw [Nat.min_eq_right h3] at h1
  rw [h1, h2.2.2]
def gqE (P R : zQ) : Prop := P.1 = R.1 ∧ (∀ k, k < 108 → (P.2.1 k = 0 ↔ R.2.1 k = 0)) ∧ ∀ j, j < P.1 → P.2.2 j = R.2.2 j
theorem gqE_up {P R : zQ} {o : Nat} (h : gqE P R) : gqE (P.1 + 1, upd P.2.1 o 1, updN P.2.2 P.1 o) (R.1 + 1, upd R.2.1 o 1, updN R.2.2 R.1 o) := by
  refine ⟨congrArg (· + 1) h.1, fun k hk => ?_, fun j hj => ?_⟩
  · show upd P.2.1 o 1 k = 0 ↔ upd R.2.1 o 1 k = 0
    by_cases q : k = o
    · subst q; rw [upd_eq, upd_eq]
    · rw [upd_ne q, upd_ne q]; exact h.2.1 k hk
  · show updN P.2.2 P.1 o j = updN R.2.2 R.1 o j
    rw [← h.1]
    by_cases q : j = P.1
    · subst q; rw [updN_eq, updN_eq]
    · rw [updN_ne q, updN_ne q]; exact h.2.2 j (by have : j < P.1 + 1 := hj; omega)
theorem gqE_I {f : Nat → Int32} {here s : Nat} {P R : zP} (hh : here < 108) (h : gqE P.1 R.1) : gqE (bwI f here s P).1 (bwI f here s R).1 := by
  cases e : bs here s with
  | none => rw [bwI_nn e, bwI_nn e]; exact h
  | some o =>
    by_cases q1 : f o = 111
    · by_cases q2 : P.1.2.1 o = 0
      · have q2' := (h.2.1 o (bs_lt hh e)).mp q2
        by_cases q3 : P.1.1 < 108
        · rw [bwI_y e q1 q2 q3, bwI_y e q1 q2' (by rw [← h.1]; exact q3)]
          exact gqE_up h
        · rw [bwI_s e, bwI_s e, bwJ_2 (by rw [q1]; decide) (fun z => q3 z.2.2), bwJ_2 (by rw [q1]; decide) (fun z => q3 (by rw [h.1]; exact z.2.2))]
          exact h
      · rw [bwI_ns e q2, bwI_ns e (fun z => q2 ((h.2.1 o (bs_lt hh e)).mpr z))]; exact h
    · rw [bwI_no e q1, bwI_no e q1]; exact h
theorem gqE_H {f : Nat → Int32} {here : Nat} {P R : zQ} (hh : here < 108) (h : gqE P R) : ∀ s, gqE (bwH f here P s).1 (bwH f here R s).1
  | 0 => h
  | s + 1 => gqE_I hh (gqE_H hh h s)
theorem gqE_B {f : Nat → Int32} {P R : zQ} (hk : Qok P) (h0 : gqE P R) : ∀ h, gqE (bwB f P h).1 (bwB f R h).1 ∧ (bwB f P h).2 = (bwB f R h).2
  | 0 => ⟨h0, rfl⟩
  | h + 1 => by
    have ih := gqE_B (f := f) hk h0 h
    by_cases q : h < (bwB f P h).1.1
    · have q' : h < (bwB f R h).1.1 := by rw [← ih.1.1]; exact q
      have e := ih.1.2.2 h q
      have hh := (bwB_ok (f := f) hk h).2 h q
      rw [bwB_t q, bwB_t q', ← e]
      refine ⟨gqE_H hh ih.1 4, ?_⟩
      show bwL _ _ = bwL _ _
      unfold bwL
      rw [bwH_2, bwH_2, ih.2]
    · rw [bwB_f q, bwB_f (fun z => q (by rw [ih.1.1]; exact z))]; exact ih
theorem gqE_g {f sn sm : Nat → Int32} {qn qm : Nat → Nat} {st : Nat} (hst : st < 108) (h : ∀ k, k < 108 → (sn k = 0 ↔ sm k = 0)) : gqE (bgB f sn qn st).1 (bgB f sm qm st).1 ∧ (bgB f sn qn st).2 = (bgB f sm qm st).2 := by
  have h0 : gqE ((1, upd sn st 1, updN qn 0 st) : zQ) (1, upd sm st 1, updN qm 0 st) := by
    refine ⟨rfl, fun k hk => ?_, fun j hj => ?_⟩
    · show upd sn st 1 k = 0 ↔ upd sm st 1 k = 0
      by_cases q : k = st
      · subst q; rw [upd_eq, upd_eq]
      · rw [upd_ne q, upd_ne q]; exact h k hk
    · have e : j = 0 := Nat.lt_one_iff.mp hj
      subst e
      show updN qn 0 st 0 = updN qm 0 st 0
      rw [updN_eq, updN_eq]
  have key := gqE_B (f := f) (Qok_1 hst) h0
  unfold bgB
  exact key 108
def sgn (gp : Nat → Int32) : Nat → Int32 := fun k => if gp k = -1 then 0 else 1
theorem sgn_0 {gp : Nat → Int32} {k : Nat} : sgn gp k = 0 ↔ gp k = -1 := by
  unfold sgn
  split
  · exact ⟨fun _ => by assumption, fun _ => rfl⟩
  · exact ⟨fun e => absurd e (by decide), fun e => absurd e (by assumption)⟩
def gpX (gp : Nat → Int32) (nv : Int32) (P : zQ) : Nat → Int32 := fun k => if gp k = -1 ∧ ¬ P.2.1 k = 0 then nv else gp k
theorem gpX_1 {gp : Nat → Int32} {nv : Int32} {st : Nat} {qn : Nat → Nat} (h : gp st = -1) : upd gp st nv = gpX gp nv (1, upd (sgn gp) st 1, updN qn 0 st) := funext fun k => by
  show _ = if gp k = -1 ∧ ¬ upd (sgn gp) st 1 k = 0 then nv else gp k
  by_cases q : k = st
  · subst q; rw [upd_eq, if_pos ⟨h, by rw [upd_eq]; decide⟩]
  · rw [upd_ne q, upd_ne q, if_neg (fun z => z.2 (sgn_0.mpr z.1))]
theorem gpX_up {f gp : Nat → Int32} {nv : Int32} {P : zQ} {o : Nat} (hb : bI f (sgn gp) P) (h0 : P.2.1 o = 0) : upd (gpX gp nv P) o nv = gpX gp nv (P.1 + 1, upd P.2.1 o 1, updN P.2.2 P.1 o) := funext fun k => by
  have hg : gp o = -1 := Classical.byContradiction (fun q => hb.1 o (fun z => q (sgn_0.mp z)) h0)
  show _ = if gp k = -1 ∧ ¬ upd P.2.1 o 1 k = 0 then nv else gp k
  by_cases q : k = o
  · subst q; rw [upd_eq, if_pos ⟨hg, by rw [upd_eq]; decide⟩]
  · rw [upd_ne q, upd_ne q]; rfl
theorem gpX_m {f gp : Nat → Int32} {nv : Int32} {P : zQ} {o : Nat} (hb : bI f (sgn gp) P) (hn : ¬ nv = -1) : gpX gp nv P o = -1 ↔ P.2.1 o = 0 := by
  unfold gpX
  by_cases h0 : P.2.1 o = 0
  · have hg : gp o = -1 := Classical.byContradiction (fun q => hb.1 o (fun z => q (sgn_0.mp z)) h0)
    rw [if_neg (fun z => z.2 h0)]
    exact ⟨fun _ => h0, fun _ => hg⟩
  · by_cases hg : gp o = -1
    · rw [if_pos ⟨hg, h0⟩]; exact ⟨fun e => absurd e hn, fun e => absurd e h0⟩
    · rw [if_neg (fun z => hg z.1)]; exact ⟨fun e => absurd e hg, fun e => absurd e h0⟩
theorem mn_I {f : Nat → Int32} {here s k : Nat} {P : zP} (h : ¬ P.1.2.1 k = 0) : ¬ (bwI f here s P).1.2.1 k = 0 := by
  cases e : bs here s with
  | none => rw [bwI_nn e]; exact h
  | some o =>
    rw [bwI_s e]
    by_cases q : f o = 46
    · rw [bwJ_0 q]; exact h
    · by_cases q2 : f o = 111 ∧ P.1.2.1 o = 0 ∧ P.1.1 < 108
      · rw [bwJ_1 q q2]
        show ¬ upd P.1.2.1 o 1 k = 0
        by_cases z : k = o
        · subst z; rw [upd_eq]; decide
        · rw [upd_ne z]; exact h
      · rw [bwJ_2 q q2]; exact h
theorem mn_H {f : Nat → Int32} {here k : Nat} {Q : zQ} (h : ¬ Q.2.1 k = 0) : ∀ s, ¬ (bwH f here Q s).1.2.1 k = 0
  | 0 => h
  | s + 1 => mn_I (mn_H h s)
theorem mn_B {f : Nat → Int32} {k : Nat} {Q : zQ} (h : ¬ Q.2.1 k = 0) : ∀ n, ¬ (bwB f Q n).1.2.1 k = 0
  | 0 => h
  | n + 1 => by
    have ih := mn_B (f := f) h n
    by_cases q : n < (bwB f Q n).1.1
    · rw [bwB_t q]; exact mn_H ih 4
    · rw [bwB_f q]; exact ih
abbrev zRG : Type := (Nat → Int32) × (Nat → Nat) × Nat
def rgS (f : Nat → Int32) (S0 : zRG) : Nat → zRG
  | 0 => S0
  | i + 1 => if f i = 111 ∧ (rgS f S0 i).1 i = -1 then (gpX (rgS f S0 i).1 (nI (rgS f S0 i).2.2) (bgB f (sgn (rgS f S0 i).1) (rgS f S0 i).2.1 i).1, (bgB f (sgn (rgS f S0 i).1) (rgS f S0 i).2.1 i).1.2.2, (rgS f S0 i).2.2 + 1) else rgS f S0 i
theorem rgS_t {f : Nat → Int32} {S0 : zRG} {i : Nat} (h : f i = 111 ∧ (rgS f S0 i).1 i = -1) : rgS f S0 (i + 1) = (gpX (rgS f S0 i).1 (nI (rgS f S0 i).2.2) (bgB f (sgn (rgS f S0 i).1) (rgS f S0 i).2.1 i).1, (bgB f (sgn (rgS f S0 i).1) (rgS f S0 i).2.1 i).1.2.2, (rgS f S0 i).2.2 + 1) := if_pos h
theorem rgS_f {f : Nat → Int32} {S0 : zRG} {i : Nat} (h : ¬ (f i = 111 ∧ (rgS f S0 i).1 i = -1)) : rgS f S0 (i + 1) = rgS f S0 i := if_neg h
theorem rgS_le {f : Nat → Int32} {S0 : zRG} (h0 : S0.2.2 = 0) : ∀ i, (rgS f S0 i).2.2 ≤ i
  | 0 => by show S0.2.2 ≤ 0; omega
  | i + 1 => by
    have ih := rgS_le (f := f) h0 i
    by_cases q : f i = 111 ∧ (rgS f S0 i).1 i = -1
    · rw [rgS_t q]; show (rgS f S0 i).2.2 + 1 ≤ i + 1; omega
    · rw [rgS_f q]; omega
def rgC (f gp : Nat → Int32) (c k : Nat) : Bool := decide (gp k = nI c) && bsP f k
def rgL (f gp : Nat → Int32) (c : Nat) : Bool := decide (fa_cnt (rgC f gp c) 108 < 2)
theorem gpX_c {gp : Nat → Int32} {P : zQ} {n c k : Nat} (hc : c < n) (hn : n < 2 ^ 31) : gpX gp (nI n) P k = nI c ↔ gp k = nI c := by
  unfold gpX
  split
  · rename_i h
    refine ⟨fun e => absurd (z_eqn hn (by omega) e) (by omega), fun e => ?_⟩
    rw [h.1] at e
    exact absurd e.symm (nI_nm1 (by omega))
  · exact Iff.rfl
theorem rg_rel {f sn : Nat → Int32} {qn : Nat → Nat} {S0 : zRG} (h0 : S0.2.2 = 0) (hg : ∀ k, k < 108 → S0.1 k = -1) (hs : ∀ k, k < 108 → sn k = 0) : ∀ i, i ≤ 108 → (∀ m, ∀ k, k < 108 → ((grS f m (sn, qn, 0) i).1 k = 0 ↔ (rgS f S0 i).1 k = -1)) ∧ (∀ k, k < 108 → (rgS f S0 i).1 k = -1 ∨ ∃ c, c < (rgS f S0 i).2.2 ∧ (rgS f S0 i).1 k = nI c) ∧ (grS f 109 (sn, qn, 0) i).2.2 = (rgS f S0 i).2.2 ∧ (grS f 2 (sn, qn, 0) i).2.2 = fa_cnt (rgL f (rgS f S0 i).1) (rgS f S0 i).2.2
  | 0, _ => by
    refine ⟨fun m k hk => ⟨fun _ => hg k hk, fun _ => hs k hk⟩, fun k hk => Or.inl (hg k hk), h0.symm, ?_⟩
    show 0 = fa_cnt (rgL f S0.1) S0.2.2
    rw [h0]; rfl
  | i + 1, hi => by
    have ih := rg_rel (f := f) (qn := qn) h0 hg hs i (by omega)
    have hle := rgS_le (f := f) h0 i
    by_cases q : f i = 111 ∧ (rgS f S0 i).1 i = -1
    · have qc : ∀ m, f i = 111 ∧ (grS f m (sn, qn, 0) i).1 i = 0 := fun m => ⟨q.1, (ih.1 m i (by omega)).mpr q.2⟩
      have hz := fun m => gqE_g (f := f) (sn := (grS f m (sn, qn, 0) i).1) (sm := sgn (rgS f S0 i).1) (qn := (grS f m (sn, qn, 0) i).2.1) (qm := (rgS f S0 i).2.1) (st := i) (by omega) (fun k hk => (ih.1 m k hk).trans sgn_0.symm)
      have hb : bI f (sgn (rgS f S0 i).1) (bgB f (sgn (rgS f S0 i).1) (rgS f S0 i).2.1 i).1 := by
        unfold bgB
        exact bI_B (Qok_1 (by omega)) (bI_1 (by omega) (sgn_0.mpr q.2)) 108
      have hn1 : ¬ nI (rgS f S0 i).2.2 = -1 := nI_nm1 (by omega)
      obtain ⟨G, hG⟩ : ∃ G, G = gpX (rgS f S0 i).1 (nI (rgS f S0 i).2.2) (bgB f (sgn (rgS f S0 i).1) (rgS f S0 i).2.1 i).1 := ⟨_, rfl⟩
      rw [rgS_t q, ← hG]
      refine ⟨fun m k hk => ?_, fun k hk => ?_, ?_, ?_⟩
      · have e9 : (grS f m (sn, qn, 0) (i + 1)).1 = (bgB f (grS f m (sn, qn, 0) i).1 (grS f m (sn, qn, 0) i).2.1 i).1.2.1 := by
          by_cases z : (bgB f (grS f m (sn, qn, 0) i).1 (grS f m (sn, qn, 0) i).2.1 i).2 < m
          · rw [grS_t (qc m) z]
          · rw [grS_n (qc m) z]
        rw [e9]
        show _ ↔ G k = -1
        rw [hG]
        exact ((hz m).1.2.1 k hk).trans (gpX_m hb hn1).symm
      · show G k = -1 ∨ ∃ c, c < (rgS f S0 i).2.2 + 1 ∧ G k = nI c
        rw [hG]
        by_cases z : (rgS f S0 i).1 k = -1 ∧ ¬ (bgB f (sgn (rgS f S0 i).1) (rgS f S0 i).2.1 i).1.2.1 k = 0
        · exact Or.inr ⟨_, Nat.lt_succ_self _, if_pos z⟩
        · rw [show gpX (rgS f S0 i).1 (nI (rgS f S0 i).2.2) (bgB f (sgn (rgS f S0 i).1) (rgS f S0 i).2.1 i).1 k = (rgS f S0 i).1 k from if_neg z]
          exact (ih.2.1 k hk).imp id (fun ⟨c, hc, e⟩ => ⟨c, Nat.lt_succ_of_lt hc, e⟩)
      · rw [grS_t (qc 109) (Nat.lt_of_le_of_lt bgB_le (by decide))]
        exact congrArg (· + 1) ih.2.2.1
      · have e1 : fa_cnt (rgL f G) (rgS f S0 i).2.2 = fa_cnt (rgL f (rgS f S0 i).1) (rgS f S0 i).2.2 := fa_cnt_cong (fun c hc => by
          have e2 : fa_cnt (rgC f G c) 108 = fa_cnt (rgC f (rgS f S0 i).1 c) 108 := fa_cnt_cong (fun k hk => by
            unfold rgC
            rw [hG]
            exact congrArg (· && bsP f k) (decide_eq_decide.mpr (gpX_c hc (by omega))))
          unfold rgL
          rw [e2])
        have e3 : fa_cnt (rgC f G (rgS f S0 i).2.2) 108 = (bgB f (grS f 2 (sn, qn, 0) i).1 (grS f 2 (sn, qn, 0) i).2.1 i).2 := by
          rw [(hz 2).2, bg_c (by omega) (sgn_0.mpr q.2)]
          refine fa_cnt_cong (fun k hk => ?_)
          unfold rgC nwP
          have e4 : decide (G k = nI (rgS f S0 i).2.2) = (decide (¬ (bgB f (sgn (rgS f S0 i).1) (rgS f S0 i).2.1 i).1.2.1 k = 0) && decide (sgn (rgS f S0 i).1 k = 0)) := by
            rw [← Bool.decide_and, hG]
            refine decide_eq_decide.mpr ⟨fun e => ?_, fun e => if_pos ⟨sgn_0.mp e.2, e.1⟩⟩
            refine Classical.byContradiction (fun z => ?_)
            rw [show gpX (rgS f S0 i).1 (nI (rgS f S0 i).2.2) (bgB f (sgn (rgS f S0 i).1) (rgS f S0 i).2.1 i).1 k = (rgS f S0 i).1 k from if_neg (fun y => z ⟨y.2, sgn_0.mpr y.1⟩)] at e
            rcases ih.2.1 k hk with y | ⟨c, hc, y⟩
            · exact hn1 (e.symm.trans y)
            · exact absurd (z_eqn (by omega) (by omega) (y.symm.trans e)) (by omega)
          rw [e4, Bool.and_assoc]
        show (grS f 2 (sn, qn, 0) (i + 1)).2.2 = fa_cnt (rgL f G) ((rgS f S0 i).2.2 + 1)
        by_cases z : (bgB f (grS f 2 (sn, qn, 0) i).1 (grS f 2 (sn, qn, 0) i).2.1 i).2 < 2
        · have e7 : rgL f G (rgS f S0 i).2.2 = true := by unfold rgL; exact decide_eq_true (by rw [e3]; exact z)
          rw [grS_t (qc 2) z, fa_cnt_yes (p := rgL f G) e7, e1]
          exact congrArg (· + 1) ih.2.2.2
        · have e7 : rgL f G (rgS f S0 i).2.2 = false := by unfold rgL; exact decide_eq_false (by rw [e3]; exact z)
          rw [grS_n (qc 2) z, fa_cnt_no (p := rgL f G) e7, e1]
          exact ih.2.2.2
    · have qc : ∀ m, ¬ (f i = 111 ∧ (grS f m (sn, qn, 0) i).1 i = 0) := fun m z => q ⟨z.1, (ih.1 m i (by omega)).mp z.2⟩
      rw [rgS_f q, grS_f (qc 109), grS_f (qc 2)]
      refine ⟨fun m k hk => ?_, ih.2.1, ih.2.2.1, ih.2.2.2⟩
      rw [grS_f (qc m)]
      exact ih.1 m k hk
def coN (f : Nat → Int32) : Nat := (rgS f (fun _ => -1, fun _ => 0, 0) 108).2.2
def loN (f : Nat → Int32) : Nat := fa_cnt (rgL f (rgS f (fun _ => -1, fun _ => 0, 0) 108).1) (rgS f (fun _ => -1, fun _ => 0, 0) 108).2.2
theorem co_c {f sn : Nat → Int32} {qn : Nat → Nat} : (grS f 109 (fa_fill (fun _ => 0) sn 108, qn, 0) 108).2.2 = coN f := (rg_rel (f := f) (qn := qn) (S0 := (fun _ => -1, fun _ => 0, 0)) rfl (fun _ _ => rfl) (fun _ hk => fa_fill_in hk) 108 (Nat.le_refl _)).2.2.1
theorem lo_c {f sn : Nat → Int32} {qn : Nat → Nat} : (grS f 2 (fa_fill (fun _ => 0) sn 108, qn, 0) 108).2.2 = loN f := (rg_rel (f := f) (qn := qn) (S0 := (fun _ => -1, fun _ => 0, 0)) rfl (fun _ _ => rfl) (fun _ hk => fa_fill_in hk) 108 (Nat.le_refl _)).2.2.2
theorem co_r {f gp : Nat → Int32} {qn : Nat → Nat} : (rgS f (fa_fill (fun _ => -1) gp 108, qn, 0) 108).2.2 = coN f := by
  have h := (rg_rel (f := f) (sn := fa_fill (fun _ => 0) gp 108) (qn := qn) (S0 := (fa_fill (fun _ => -1) gp 108, qn, 0)) rfl (fun k hk => show fa_fill (fun _ => (-1 : Int32)) gp 108 k = -1 from if_pos hk) (fun k hk => show fa_fill (fun _ => (0 : Int32)) gp 108 k = 0 from if_pos hk) 108 (Nat.le_refl _)).2.2.1
  exact h.symm.trans co_c
theorem lo_r {f gp : Nat → Int32} {qn : Nat → Nat} : fa_cnt (rgL f (rgS f (fa_fill (fun _ => -1) gp 108, qn, 0) 108).1) (rgS f (fa_fill (fun _ => -1) gp 108, qn, 0) 108).2.2 = loN f := by
  have h := (rg_rel (f := f) (sn := fa_fill (fun _ => 0) gp 108) (qn := qn) (S0 := (fa_fill (fun _ => -1) gp 108, qn, 0)) rfl (fun k hk => show fa_fill (fun _ => (-1 : Int32)) gp 108 k = -1 from if_pos hk) (fun k hk => show fa_fill (fun _ => (0 : Int32)) gp 108 k = 0 from if_pos hk) 108 (Nat.le_refl _)).2.2.2
  exact h.symm.trans lo_c
theorem co_le (f : Nat → Int32) : coN f ≤ 108 := rgS_le rfl 108
theorem lo_le (f : Nat → Int32) : loN f ≤ 108 := Nat.le_trans (fa_cnt_le _ _) (co_le f)
theorem oI_nn {c s : Nat} (hc : c < 108) (h : oI (bs c s) = -1) : bs c s = none := by
  cases e : bs c s with
  | none => rfl
  | some o =>
    rw [e] at h
    exact absurd h (nI_nm1 (a := o) (by have := bs_lt hc e; omega))
set_option maxHeartbeats 4000000 in
set_option maxRecDepth 100000 in
theorem L_Mm_isBesideSand_4 (g : zG) (b : Nat) (f : Nat → Int32) (c : Nat) (hc : c < 108) (w0 : zW) (n : Nat) : ∀ (d i : Nat), i ≤ 4 → 4 < i + d → DV g M_Mm_isBesideSand (fun o cs1 => o = .inl (some (.int (bsdS f c 4))) ∧ cs1 = [(b, .inl (1, 108, .inl f))]) w0 n 4 [(3, .int (nI i)), (2, .int (bsdS f c i)), (0, .ref b), (1, .int (nI c))] [] [(b, .inl (1, 108, .inl f))] 0 0 := by
  intro d
  induction d with
  | zero => intro i h1 h2 ; exact absurd h2 (by omega)
  | succ d ih =>
    intro i h1 h2 
    refine r_iload_n d_Mm_isBesideSand_4 rfl 0 rfl ?_
    refine r_iconst d_Mm_isBesideSand_5 (v := 4) (by decide) ?_
    refine r_icmp_ge (tgt := 47) d_Mm_isBesideSand_6 (by decide) (fun c_6 => ?_) (fun c_6 => ?_)
    · have hn := z_le (a := 4) (by omega) (by decide) c_6
      obtain rfl : i = 4 := by omega
      refine r_iload_n d_Mm_isBesideSand_47 rfl 1 rfl ?_
      refine r_iret d_Mm_isBesideSand_48 rfl (z_nar01 (bsdS_01 f c 4)) ?_
      exact ⟨rfl, rfl⟩
    · have hn := z_nle (a := 4) (by omega) (by decide) c_6
      refine r_iload_n d_Mm_isBesideSand_9 rfl 3 rfl ?_
      refine r_iload_n d_Mm_isBesideSand_10 rfl 0 rfl ?_
      refine r_callS (As := [.int (nI c), .int (nI i)]) (rest := []) (csC := []) (is := []) ln_Mm_119 w_st_Mm_beside ok_Mm_isBesideSand_Mm_beside d_Mm_isBesideSand_11 (C_Mm_beside g c i (by omega) (by omega)) rfl rfl (Nat.le_of_ble_eq_true rfl) rfl (by decide) (by omega) (by omega) (fun E cs1 hx => ?_) (fun v cs1 hx => ?_)
      · exact absurd hx.1 (by simp)
      · obtain ⟨e1, rfl⟩ := hx
        cases e1
        refine ⟨rfl, ?_⟩
        refine r_st (st2 := [.int (oI (bs c i))]) rfl ?_
        refine r_cs (cs2 := [(b, .inl (1, 108, .inl f))]) rfl ?_
        refine r_istore (lv' := [(4, .int (oI (bs c i))), (3, .int (nI i)), (2, .int (bsdS f c i)), (0, .ref b), (1, .int (nI c))]) d_Mm_isBesideSand_14 (by decide) rfl ?_
        refine r_iload_n d_Mm_isBesideSand_16 rfl 2 rfl ?_
        refine r_if_ne (tgt := 35) d_Mm_isBesideSand_17 (by decide) (fun c_17 => ?_) (fun c_17 => ?_)
        · have hk := bsdS_1 c_17
          refine r_iconst d_Mm_isBesideSand_35 (v := 1) (by decide) ?_
          refine r_goto (tgt := 40) d_Mm_isBesideSand_36 (by decide) ?_
          refine r_istore_n (lv' := [(2, .int 1), (4, .int (oI (bs c i))), (3, .int (nI i)), (0, .ref b), (1, .int (nI c))]) d_Mm_isBesideSand_40 rfl (by decide) rfl ?_
          refine r_iinc (lv' := [(3, .int (nI (i + 1))), (2, .int 1), (4, .int (oI (bs c i))), (0, .ref b), (1, .int (nI c))]) (v := nI (i + 1)) d_Mm_isBesideSand_41 (j := 2) rfl (nI_add _ _) (by decide) rfl ?_
          refine r_goto (tgt := 4) d_Mm_isBesideSand_44 (by decide) ?_
          refine r_lv (lv' := [(3, .int (nI (i + 1))), (2, .int 1), (0, .ref b), (1, .int (nI c))]) [0, 1, 3, 4] rfl ?_
          refine r_lvE (lv2 := [(3, .int (nI (i + 1))), (2, .int (bsdS f c (i + 1))), (0, .ref b), (1, .int (nI c))]) (by rw [hk] <;> rfl) ?_
          refine r_cs (cs2 := [(b, .inl (1, 108, .inl f))]) (rfl) ?_
          exact ih (i + 1) (by omega) (by omega)
        · refine r_iload d_Mm_isBesideSand_20 0 rfl ?_
          refine r_iconst d_Mm_isBesideSand_22 (v := (-1)) (by decide) ?_
          refine r_icmp_eq (tgt := 35) d_Mm_isBesideSand_23 (by decide) (fun c_23 => ?_) (fun c_23 => ?_)
          · have hk : bsdS f c (i + 1) = 1 := bsdS_n (oI_nn hc c_23)
            refine r_iconst d_Mm_isBesideSand_35 (v := 1) (by decide) ?_
            refine r_goto (tgt := 40) d_Mm_isBesideSand_36 (by decide) ?_
            refine r_istore_n (lv' := [(2, .int 1), (4, .int (oI (bs c i))), (3, .int (nI i)), (0, .ref b), (1, .int (nI c))]) d_Mm_isBesideSand_40 rfl (by decide) rfl ?_
            refine r_iinc (lv' := [(3, .int (nI (i + 1))), (2, .int 1), (4, .int (oI (bs c i))), (0, .ref b), (1, .int (nI c))]) (v := nI (i + 1)) d_Mm_isBesideSand_41 (j := 2) rfl (nI_add _ _) (by decide) rfl ?_
            refine r_goto (tgt := 4) d_Mm_isBesideSand_44 (by decide) ?_
            refine r_lv (lv' := [(3, .int (nI (i + 1))), (2, .int 1), (0, .ref b), (1, .int (nI c))]) [0, 1, 3, 4] rfl ?_
            refine r_lvE (lv2 := [(3, .int (nI (i + 1))), (2, .int (bsdS f c (i + 1))), (0, .ref b), (1, .int (nI c))]) (by rw [hk] <;> rfl) ?_
            refine r_cs (cs2 := [(b, .inl (1, 108, .inl f))]) (rfl) ?_
            exact ih (i + 1) (by omega) (by omega)
          · obtain ⟨o, hob⟩ := oI_nm c_23
            have hol := bs_lt hc hob
            rw [hob, show oI (some o) = nI o from rfl]
            refine r_aload_n d_Mm_isBesideSand_26 rfl 3 rfl ?_
            refine r_iload d_Mm_isBesideSand_27 0 rfl ?_
            refine r_cald d_Mm_isBesideSand_29 (q0 := 0) rfl (vp_in_nI (by omega) (by omega)) (v := f o) (by rw [nI_clamp (by omega)]) ?_
            refine r_bipush d_Mm_isBesideSand_30 (v := 46) (by decide) ?_
            refine r_icmp_ne (tgt := 39) d_Mm_isBesideSand_32 (by decide) (fun c_32 => ?_) (fun c_32 => ?_)
            · have hk : bsdS f c (i + 1) = 0 := by rw [bsdS_o hob, if_neg c_32]; exact c_17
              refine r_iconst d_Mm_isBesideSand_39 (v := 0) (by decide) ?_
              refine r_istore_n (lv' := [(2, .int 0), (4, .int (nI o)), (3, .int (nI i)), (0, .ref b), (1, .int (nI c))]) d_Mm_isBesideSand_40 rfl (by decide) rfl ?_
              refine r_iinc (lv' := [(3, .int (nI (i + 1))), (2, .int 0), (4, .int (nI o)), (0, .ref b), (1, .int (nI c))]) (v := nI (i + 1)) d_Mm_isBesideSand_41 (j := 2) rfl (nI_add _ _) (by decide) rfl ?_
              refine r_goto (tgt := 4) d_Mm_isBesideSand_44 (by decide) ?_
              refine r_lv (lv' := [(3, .int (nI (i + 1))), (2, .int 0), (0, .ref b), (1, .int (nI c))]) [0, 1, 3, 4] rfl ?_
              refine r_lvE (lv2 := [(3, .int (nI (i + 1))), (2, .int (bsdS f c (i + 1))), (0, .ref b), (1, .int (nI c))]) (by rw [hk] <;> rfl) ?_
              refine r_cs (cs2 := [(b, .inl (1, 108, .inl f))]) (rfl) ?_
              exact ih (i + 1) (by omega) (by omega)
            · have hk : bsdS f c (i + 1) = 1 := by rw [bsdS_o hob, if_pos c_32]
              refine r_iconst d_Mm_isBesideSand_35 (v := 1) (by decide) ?_
              refine r_goto (tgt := 40) d_Mm_isBesideSand_36 (by decide) ?_
              refine r_istore_n (lv' := [(2, .int 1), (4, .int (nI o)), (3, .int (nI i)), (0, .ref b), (1, .int (nI c))]) d_Mm_isBesideSand_40 rfl (by decide) rfl ?_
              refine r_iinc (lv' := [(3, .int (nI (i + 1))), (2, .int 1), (4, .int (nI o)), (0, .ref b), (1, .int (nI c))]) (v := nI (i + 1)) d_Mm_isBesideSand_41 (j := 2) rfl (nI_add _ _) (by decide) rfl ?_
              refine r_goto (tgt := 4) d_Mm_isBesideSand_44 (by decide) ?_
              refine r_lv (lv' := [(3, .int (nI (i + 1))), (2, .int 1), (0, .ref b), (1, .int (nI c))]) [0, 1, 3, 4] rfl ?_
              refine r_lvE (lv2 := [(3, .int (nI (i + 1))), (2, .int (bsdS f c (i + 1))), (0, .ref b), (1, .int (nI c))]) (by rw [hk] <;> rfl) ?_
              refine r_cs (cs2 := [(b, .inl (1, 108, .inl f))]) (rfl) ?_
              exact ih (i + 1) (by omega) (by omega)
set_option maxHeartbeats 4000000 in
set_option maxRecDepth 100000 in
theorem C_Mm_isBesideSand (g : zG) (b : Nat) (f : Nat → Int32) (c : Nat) (hc : c < 108) : CT g M_Mm_isBesideSand [.ref b, .int (nI c)] [(b, .inl (1, 108, .inl f))] (fun o cs1 => o = .inl (some (.int (bsdS f c 4))) ∧ cs1 = [(b, .inl (1, 108, .inl f))]) 0 0 := by
  refine z_of (by decide) rfl (Nat.le_of_ble_eq_true rfl) (fun w0 => ?_)
  refine r_lvE (lv2 := [(0, .ref b), (1, .int (nI c))]) rfl ?_
  refine r_iconst d_Mm_isBesideSand_0 (v := 0) (by decide) ?_
  refine r_istore_n (lv' := [(2, .int 0), (0, .ref b), (1, .int (nI c))]) d_Mm_isBesideSand_1 rfl (by decide) rfl ?_
  refine r_iconst d_Mm_isBesideSand_2 (v := 0) (by decide) ?_
  refine r_istore_n (lv' := [(3, .int 0), (2, .int 0), (0, .ref b), (1, .int (nI c))]) d_Mm_isBesideSand_3 rfl (by decide) rfl ?_
  refine r_lvE (lv2 := [(3, .int (nI 0)), (2, .int (bsdS f c 0)), (0, .ref b), (1, .int (nI c))]) (rfl) ?_
  refine r_cs (cs2 := [(b, .inl (1, 108, .inl f))]) (rfl) ?_
  exact L_Mm_isBesideSand_4 g b f c hc w0 _  (4 + 1) 0 (Nat.zero_le _) (by omega)
set_option maxHeartbeats 4000000 in
set_option maxRecDepth 100000 in
theorem L_Mm_spread9_21 (g : zG) (m mp mf mh mn mt mz mc_ mq mgr ml mi mr mm mu mk mx : Nat) (th pt cl wa co_ fi bu ho lh mg wd fpi fal : Int32) (po de : Int64) (b : Nat) (f : Nat → Int32) (gp : Nat → Int32) (qn : Nat → Nat) (nv : Int32) (st : Nat) (hst : st < 108) (hg : gp st = -1) (hnv : ¬ nv = -1) (w0 : zW) (n : Nat) (h : Nat) (hok : Qok (bwB f (1, upd (sgn gp) st 1, updN qn 0 st) h).1) (hn : h < (bwB f (1, upd (sgn gp) st 1, updN qn 0 st) h).1.1) (hh : h < 108) (hhere : ((bwB f (1, upd (sgn gp) st 1, updN qn 0 st) h).1.2.2 h) < 108) (hbA : ∀ h, bI f (sgn gp) (bwB f (1, upd (sgn gp) st 1, updN qn 0 st) h).1) (hsee : ∀ h, ¬ (bwB f (1, upd (sgn gp) st 1, updN qn 0 st) h).1.2.1 st = 0) (K : DV g M_Mm_spread (fun o cs1 => o = .inl none ∧ cs1 = [(m, .inr (12, [.int th, .ref mp, .int pt, .ref mf, .ref mh, .ref mn, .ref mt, .ref mz, .ref mc_, .ref mq, .ref mgr, .int cl, .int wa, .int co_, .int fi, .int bu, .int ho, .ref ml, .ref mi, .ref mr, .int lh, .int mg, .int wd, .int fpi, .int fal, .ref mm, .ref mu, .ref mk, .ref mx, .long po, .long de])), (b, .inl (1, 108, .inl f)), (mgr, .inl (0, 108, .inl (gpX gp nv (bgB f (sgn gp) qn st).1))), (mq, .inl (0, 108, .inl (fun k => nI ((bgB f (sgn gp) qn st).1.2.2 k))))]) w0 n 97 [(4, .int (nI h)), (3, .int (nI (bwH f ((bwB f (1, upd (sgn gp) st 1, updN qn 0 st) h).1.2.2 h) (bwB f (1, upd (sgn gp) st 1, updN qn 0 st) h).1 4).1.1)), (0, .ref m), (1, .ref b), (2, .int (nI st))] [] [(m, .inr (12, [.int th, .ref mp, .int pt, .ref mf, .ref mh, .ref mn, .ref mt, .ref mz, .ref mc_, .ref mq, .ref mgr, .int cl, .int wa, .int co_, .int fi, .int bu, .int ho, .ref ml, .ref mi, .ref mr, .int lh, .int mg, .int wd, .int fpi, .int fal, .ref mm, .ref mu, .ref mk, .ref mx, .long po, .long de])), (b, .inl (1, 108, .inl f)), (mgr, .inl (0, 108, .inl (gpX gp nv (bwH f ((bwB f (1, upd (sgn gp) st 1, updN qn 0 st) h).1.2.2 h) (bwB f (1, upd (sgn gp) st 1, updN qn 0 st) h).1 4).1))), (mq, .inl (0, 108, .inl (fun k => nI ((bwH f ((bwB f (1, upd (sgn gp) st 1, updN qn 0 st) h).1.2.2 h) (bwB f (1, upd (sgn gp) st 1, updN qn 0 st) h).1 4).1.2.2 k))))] 0 0) : ∀ (d i : Nat), i ≤ 4 → 4 < i + d → DV g M_Mm_spread (fun o cs1 => o = .inl none ∧ cs1 = [(m, .inr (12, [.int th, .ref mp, .int pt, .ref mf, .ref mh, .ref mn, .ref mt, .ref mz, .ref mc_, .ref mq, .ref mgr, .int cl, .int wa, .int co_, .int fi, .int bu, .int ho, .ref ml, .ref mi, .ref mr, .int lh, .int mg, .int wd, .int fpi, .int fal, .ref mm, .ref mu, .ref mk, .ref mx, .long po, .long de])), (b, .inl (1, 108, .inl f)), (mgr, .inl (0, 108, .inl (gpX gp nv (bgB f (sgn gp) qn st).1))), (mq, .inl (0, 108, .inl (fun k => nI ((bgB f (sgn gp) qn st).1.2.2 k))))]) w0 n 21 [(5, .int (nI i)), (4, .int (nI h)), (3, .int (nI (bwH f ((bwB f (1, upd (sgn gp) st 1, updN qn 0 st) h).1.2.2 h) (bwB f (1, upd (sgn gp) st 1, updN qn 0 st) h).1 i).1.1)), (0, .ref m), (1, .ref b), (2, .int (nI st))] [] [(m, .inr (12, [.int th, .ref mp, .int pt, .ref mf, .ref mh, .ref mn, .ref mt, .ref mz, .ref mc_, .ref mq, .ref mgr, .int cl, .int wa, .int co_, .int fi, .int bu, .int ho, .ref ml, .ref mi, .ref mr, .int lh, .int mg, .int wd, .int fpi, .int fal, .ref mm, .ref mu, .ref mk, .ref mx, .long po, .long de])), (b, .inl (1, 108, .inl f)), (mgr, .inl (0, 108, .inl (gpX gp nv (bwH f ((bwB f (1, upd (sgn gp) st 1, updN qn 0 st) h).1.2.2 h) (bwB f (1, upd (sgn gp) st 1, updN qn 0 st) h).1 i).1))), (mq, .inl (0, 108, .inl (fun k => nI ((bwH f ((bwB f (1, upd (sgn gp) st 1, updN qn 0 st) h).1.2.2 h) (bwB f (1, upd (sgn gp) st 1, updN qn 0 st) h).1 i).1.2.2 k))))] 0 0 := by
  intro d
  induction d with
  | zero => intro i h1 h2 ; exact absurd h2 (by omega)
  | succ d ih =>
    intro i h1 h2 
    refine r_iload d_Mm_spread_21 0 rfl ?_
    refine r_iconst d_Mm_spread_23 (v := 4) (by decide) ?_
    refine r_icmp_ge (tgt := 97) d_Mm_spread_24 (by decide) (fun c_24 => ?_) (fun c_24 => ?_)
    · have hi4 := z_le (a := 4) (by omega) (by decide) c_24
      obtain rfl : i = 4 := by omega
      refine r_lv (lv' := [(4, .int (nI h)), (3, .int (nI (bwH f ((bwB f (1, upd (sgn gp) st 1, updN qn 0 st) h).1.2.2 h) (bwB f (1, upd (sgn gp) st 1, updN qn 0 st) h).1 4).1.1)), (0, .ref m), (1, .ref b), (2, .int (nI st))]) [1, 2, 3, 4, 5] rfl ?_
      exact K
    · have hi4 := z_nle (a := 4) (by omega) (by decide) c_24
      have hqq := bwH_ok (f := f) (here := ((bwB f (1, upd (sgn gp) st 1, updN qn 0 st) h).1.2.2 h)) hhere hok hn i
      have hq2 := hqq.1.1
      have hbi := bI_H (f := f) hhere (hbA h) i
      refine r_aload_n d_Mm_spread_27 rfl 3 rfl ?_
      refine r_get fs_Mm_37 d_Mm_spread_28 (q0 := 0) rfl rfl ?_
      refine r_iload d_Mm_spread_31 1 rfl ?_
      refine r_iald d_Mm_spread_33 (q0 := 3) rfl (vp_in_nI (by omega) (by omega)) (v := nI ((bwB f (1, upd (sgn gp) st 1, updN qn 0 st) h).1.2.2 h)) (by rw [nI_clamp (by omega)]; exact congrArg nI hqq.2.1) ?_
      refine r_iload d_Mm_spread_34 0 rfl ?_
      refine r_callS (As := [.int (nI ((bwB f (1, upd (sgn gp) st 1, updN qn 0 st) h).1.2.2 h)), .int (nI i)]) (rest := []) (csC := []) (is := []) ln_Mm_119 w_st_Mm_beside ok_Mm_spread_Mm_beside d_Mm_spread_36 (C_Mm_beside g ((bwB f (1, upd (sgn gp) st 1, updN qn 0 st) h).1.2.2 h) i hhere (by omega)) rfl rfl (Nat.le_of_ble_eq_true rfl) rfl (by decide) (by omega) (by omega) (fun E cs1 hx => ?_) (fun v cs1 hx => ?_)
      · exact absurd hx.1 (by simp)
      · obtain ⟨e1, rfl⟩ := hx
        cases e1
        refine ⟨rfl, ?_⟩
        refine r_st (st2 := [.int (oI (bs ((bwB f (1, upd (sgn gp) st 1, updN qn 0 st) h).1.2.2 h) i))]) rfl ?_
        refine r_cs (cs2 := [(m, .inr (12, [.int th, .ref mp, .int pt, .ref mf, .ref mh, .ref mn, .ref mt, .ref mz, .ref mc_, .ref mq, .ref mgr, .int cl, .int wa, .int co_, .int fi, .int bu, .int ho, .ref ml, .ref mi, .ref mr, .int lh, .int mg, .int wd, .int fpi, .int fal, .ref mm, .ref mu, .ref mk, .ref mx, .long po, .long de])), (b, .inl (1, 108, .inl f)), (mgr, .inl (0, 108, .inl (gpX gp nv (bwH f ((bwB f (1, upd (sgn gp) st 1, updN qn 0 st) h).1.2.2 h) (bwB f (1, upd (sgn gp) st 1, updN qn 0 st) h).1 i).1))), (mq, .inl (0, 108, .inl (fun k => nI ((bwH f ((bwB f (1, upd (sgn gp) st 1, updN qn 0 st) h).1.2.2 h) (bwB f (1, upd (sgn gp) st 1, updN qn 0 st) h).1 i).1.2.2 k))))]) rfl ?_
        refine r_istore (lv' := [(6, .int (oI (bs ((bwB f (1, upd (sgn gp) st 1, updN qn 0 st) h).1.2.2 h) i))), (5, .int (nI i)), (4, .int (nI h)), (3, .int (nI (bwH f ((bwB f (1, upd (sgn gp) st 1, updN qn 0 st) h).1.2.2 h) (bwB f (1, upd (sgn gp) st 1, updN qn 0 st) h).1 i).1.1)), (0, .ref m), (1, .ref b), (2, .int (nI st))]) d_Mm_spread_39 (by decide) rfl ?_
        refine r_iload d_Mm_spread_41 0 rfl ?_
        refine r_iconst d_Mm_spread_43 (v := (-1)) (by decide) ?_
        refine r_icmp_eq (tgt := 91) d_Mm_spread_44 (by decide) (fun c_44 => ?_) (fun c_44 => ?_)
        · have hk := bwI_nn (f := f) (P := (bwH f ((bwB f (1, upd (sgn gp) st 1, updN qn 0 st) h).1.2.2 h) (bwB f (1, upd (sgn gp) st 1, updN qn 0 st) h).1 i)) (oI_nn hhere c_44)
          refine r_iinc (lv' := [(5, .int (nI (i + 1))), (6, .int (oI (bs ((bwB f (1, upd (sgn gp) st 1, updN qn 0 st) h).1.2.2 h) i))), (4, .int (nI h)), (3, .int (nI (bwH f ((bwB f (1, upd (sgn gp) st 1, updN qn 0 st) h).1.2.2 h) (bwB f (1, upd (sgn gp) st 1, updN qn 0 st) h).1 i).1.1)), (0, .ref m), (1, .ref b), (2, .int (nI st))]) (v := nI (i + 1)) d_Mm_spread_91 (j := 1) rfl (nI_add _ _) (by decide) rfl ?_
          refine r_goto (tgt := 21) d_Mm_spread_94 (by decide) ?_
          refine r_lv (lv' := [(5, .int (nI (i + 1))), (4, .int (nI h)), (3, .int (nI (bwH f ((bwB f (1, upd (sgn gp) st 1, updN qn 0 st) h).1.2.2 h) (bwB f (1, upd (sgn gp) st 1, updN qn 0 st) h).1 i).1.1)), (0, .ref m), (1, .ref b), (2, .int (nI st))]) [0, 2, 3, 4, 5, 6] rfl ?_
          refine r_lvE (lv2 := [(5, .int (nI (i + 1))), (4, .int (nI h)), (3, .int (nI (bwH f ((bwB f (1, upd (sgn gp) st 1, updN qn 0 st) h).1.2.2 h) (bwB f (1, upd (sgn gp) st 1, updN qn 0 st) h).1 (i + 1)).1.1)), (0, .ref m), (1, .ref b), (2, .int (nI st))]) (by rw [show (bwH f ((bwB f (1, upd (sgn gp) st 1, updN qn 0 st) h).1.2.2 h) (bwB f (1, upd (sgn gp) st 1, updN qn 0 st) h).1 (i + 1)) = bwI f ((bwB f (1, upd (sgn gp) st 1, updN qn 0 st) h).1.2.2 h) i (bwH f ((bwB f (1, upd (sgn gp) st 1, updN qn 0 st) h).1.2.2 h) (bwB f (1, upd (sgn gp) st 1, updN qn 0 st) h).1 i) from rfl, hk] <;> rfl) ?_
          refine r_cs (cs2 := [(m, .inr (12, [.int th, .ref mp, .int pt, .ref mf, .ref mh, .ref mn, .ref mt, .ref mz, .ref mc_, .ref mq, .ref mgr, .int cl, .int wa, .int co_, .int fi, .int bu, .int ho, .ref ml, .ref mi, .ref mr, .int lh, .int mg, .int wd, .int fpi, .int fal, .ref mm, .ref mu, .ref mk, .ref mx, .long po, .long de])), (b, .inl (1, 108, .inl f)), (mgr, .inl (0, 108, .inl (gpX gp nv (bwH f ((bwB f (1, upd (sgn gp) st 1, updN qn 0 st) h).1.2.2 h) (bwB f (1, upd (sgn gp) st 1, updN qn 0 st) h).1 (i + 1)).1))), (mq, .inl (0, 108, .inl (fun k => nI ((bwH f ((bwB f (1, upd (sgn gp) st 1, updN qn 0 st) h).1.2.2 h) (bwB f (1, upd (sgn gp) st 1, updN qn 0 st) h).1 (i + 1)).1.2.2 k))))]) (by rw [show (bwH f ((bwB f (1, upd (sgn gp) st 1, updN qn 0 st) h).1.2.2 h) (bwB f (1, upd (sgn gp) st 1, updN qn 0 st) h).1 (i + 1)) = bwI f ((bwB f (1, upd (sgn gp) st 1, updN qn 0 st) h).1.2.2 h) i (bwH f ((bwB f (1, upd (sgn gp) st 1, updN qn 0 st) h).1.2.2 h) (bwB f (1, upd (sgn gp) st 1, updN qn 0 st) h).1 i) from rfl, hk] <;> rfl) ?_
          exact ih (i + 1) (by omega) (by omega)
        · obtain ⟨o, hob⟩ := oI_nm c_44
          have hol := bs_lt hhere hob
          rw [hob, show oI (some o) = nI o from rfl]
          refine r_aload_n d_Mm_spread_47 rfl 5 rfl ?_
          refine r_iload d_Mm_spread_48 0 rfl ?_
          refine r_cald d_Mm_spread_50 (q0 := 1) rfl (vp_in_nI (by omega) (by omega)) (v := f o) (by rw [nI_clamp (by omega)]) ?_
          refine r_bipush d_Mm_spread_51 (v := 111) (by decide) ?_
          refine r_icmp_ne (tgt := 91) d_Mm_spread_53 (by decide) (fun c_53 => ?_) (fun c_53 => ?_)
          · have hk := bwI_no (P := (bwH f ((bwB f (1, upd (sgn gp) st 1, updN qn 0 st) h).1.2.2 h) (bwB f (1, upd (sgn gp) st 1, updN qn 0 st) h).1 i)) hob c_53
            refine r_iinc (lv' := [(5, .int (nI (i + 1))), (6, .int (nI o)), (4, .int (nI h)), (3, .int (nI (bwH f ((bwB f (1, upd (sgn gp) st 1, updN qn 0 st) h).1.2.2 h) (bwB f (1, upd (sgn gp) st 1, updN qn 0 st) h).1 i).1.1)), (0, .ref m), (1, .ref b), (2, .int (nI st))]) (v := nI (i + 1)) d_Mm_spread_91 (j := 1) rfl (nI_add _ _) (by decide) rfl ?_
            refine r_goto (tgt := 21) d_Mm_spread_94 (by decide) ?_
            refine r_lv (lv' := [(5, .int (nI (i + 1))), (4, .int (nI h)), (3, .int (nI (bwH f ((bwB f (1, upd (sgn gp) st 1, updN qn 0 st) h).1.2.2 h) (bwB f (1, upd (sgn gp) st 1, updN qn 0 st) h).1 i).1.1)), (0, .ref m), (1, .ref b), (2, .int (nI st))]) [0, 2, 3, 4, 5, 6] rfl ?_
            refine r_lvE (lv2 := [(5, .int (nI (i + 1))), (4, .int (nI h)), (3, .int (nI (bwH f ((bwB f (1, upd (sgn gp) st 1, updN qn 0 st) h).1.2.2 h) (bwB f (1, upd (sgn gp) st 1, updN qn 0 st) h).1 (i + 1)).1.1)), (0, .ref m), (1, .ref b), (2, .int (nI st))]) (by rw [show (bwH f ((bwB f (1, upd (sgn gp) st 1, updN qn 0 st) h).1.2.2 h) (bwB f (1, upd (sgn gp) st 1, updN qn 0 st) h).1 (i + 1)) = bwI f ((bwB f (1, upd (sgn gp) st 1, updN qn 0 st) h).1.2.2 h) i (bwH f ((bwB f (1, upd (sgn gp) st 1, updN qn 0 st) h).1.2.2 h) (bwB f (1, upd (sgn gp) st 1, updN qn 0 st) h).1 i) from rfl, hk] <;> rfl) ?_
            refine r_cs (cs2 := [(m, .inr (12, [.int th, .ref mp, .int pt, .ref mf, .ref mh, .ref mn, .ref mt, .ref mz, .ref mc_, .ref mq, .ref mgr, .int cl, .int wa, .int co_, .int fi, .int bu, .int ho, .ref ml, .ref mi, .ref mr, .int lh, .int mg, .int wd, .int fpi, .int fal, .ref mm, .ref mu, .ref mk, .ref mx, .long po, .long de])), (b, .inl (1, 108, .inl f)), (mgr, .inl (0, 108, .inl (gpX gp nv (bwH f ((bwB f (1, upd (sgn gp) st 1, updN qn 0 st) h).1.2.2 h) (bwB f (1, upd (sgn gp) st 1, updN qn 0 st) h).1 (i + 1)).1))), (mq, .inl (0, 108, .inl (fun k => nI ((bwH f ((bwB f (1, upd (sgn gp) st 1, updN qn 0 st) h).1.2.2 h) (bwB f (1, upd (sgn gp) st 1, updN qn 0 st) h).1 (i + 1)).1.2.2 k))))]) (by rw [show (bwH f ((bwB f (1, upd (sgn gp) st 1, updN qn 0 st) h).1.2.2 h) (bwB f (1, upd (sgn gp) st 1, updN qn 0 st) h).1 (i + 1)) = bwI f ((bwB f (1, upd (sgn gp) st 1, updN qn 0 st) h).1.2.2 h) i (bwH f ((bwB f (1, upd (sgn gp) st 1, updN qn 0 st) h).1.2.2 h) (bwB f (1, upd (sgn gp) st 1, updN qn 0 st) h).1 i) from rfl, hk] <;> rfl) ?_
            exact ih (i + 1) (by omega) (by omega)
          · refine r_aload_n d_Mm_spread_56 rfl 4 rfl ?_
            refine r_get fs_Mm_40 d_Mm_spread_57 (q0 := 0) rfl rfl ?_
            refine r_iload d_Mm_spread_60 0 rfl ?_
            refine r_iald d_Mm_spread_62 (q0 := 2) rfl (vp_in_nI (by omega) (by omega)) (v := gpX gp nv (bwH f ((bwB f (1, upd (sgn gp) st 1, updN qn 0 st) h).1.2.2 h) (bwB f (1, upd (sgn gp) st 1, updN qn 0 st) h).1 i).1 o) (by rw [nI_clamp (by omega)]) ?_
            refine r_iconst d_Mm_spread_63 (v := (-1)) (by decide) ?_
            refine r_icmp_ne (tgt := 91) d_Mm_spread_64 (by decide) (fun c_64 => ?_) (fun c_64 => ?_)
            · have hk := bwI_ns (f := f) (P := (bwH f ((bwB f (1, upd (sgn gp) st 1, updN qn 0 st) h).1.2.2 h) (bwB f (1, upd (sgn gp) st 1, updN qn 0 st) h).1 i)) hob (fun z => c_64 ((gpX_m hbi hnv).mpr z))
              refine r_iinc (lv' := [(5, .int (nI (i + 1))), (6, .int (nI o)), (4, .int (nI h)), (3, .int (nI (bwH f ((bwB f (1, upd (sgn gp) st 1, updN qn 0 st) h).1.2.2 h) (bwB f (1, upd (sgn gp) st 1, updN qn 0 st) h).1 i).1.1)), (0, .ref m), (1, .ref b), (2, .int (nI st))]) (v := nI (i + 1)) d_Mm_spread_91 (j := 1) rfl (nI_add _ _) (by decide) rfl ?_
              refine r_goto (tgt := 21) d_Mm_spread_94 (by decide) ?_
              refine r_lv (lv' := [(5, .int (nI (i + 1))), (4, .int (nI h)), (3, .int (nI (bwH f ((bwB f (1, upd (sgn gp) st 1, updN qn 0 st) h).1.2.2 h) (bwB f (1, upd (sgn gp) st 1, updN qn 0 st) h).1 i).1.1)), (0, .ref m), (1, .ref b), (2, .int (nI st))]) [0, 2, 3, 4, 5, 6] rfl ?_
              refine r_lvE (lv2 := [(5, .int (nI (i + 1))), (4, .int (nI h)), (3, .int (nI (bwH f ((bwB f (1, upd (sgn gp) st 1, updN qn 0 st) h).1.2.2 h) (bwB f (1, upd (sgn gp) st 1, updN qn 0 st) h).1 (i + 1)).1.1)), (0, .ref m), (1, .ref b), (2, .int (nI st))]) (by rw [show (bwH f ((bwB f (1, upd (sgn gp) st 1, updN qn 0 st) h).1.2.2 h) (bwB f (1, upd (sgn gp) st 1, updN qn 0 st) h).1 (i + 1)) = bwI f ((bwB f (1, upd (sgn gp) st 1, updN qn 0 st) h).1.2.2 h) i (bwH f ((bwB f (1, upd (sgn gp) st 1, updN qn 0 st) h).1.2.2 h) (bwB f (1, upd (sgn gp) st 1, updN qn 0 st) h).1 i) from rfl, hk] <;> rfl) ?_
              refine r_cs (cs2 := [(m, .inr (12, [.int th, .ref mp, .int pt, .ref mf, .ref mh, .ref mn, .ref mt, .ref mz, .ref mc_, .ref mq, .ref mgr, .int cl, .int wa, .int co_, .int fi, .int bu, .int ho, .ref ml, .ref mi, .ref mr, .int lh, .int mg, .int wd, .int fpi, .int fal, .ref mm, .ref mu, .ref mk, .ref mx, .long po, .long de])), (b, .inl (1, 108, .inl f)), (mgr, .inl (0, 108, .inl (gpX gp nv (bwH f ((bwB f (1, upd (sgn gp) st 1, updN qn 0 st) h).1.2.2 h) (bwB f (1, upd (sgn gp) st 1, updN qn 0 st) h).1 (i + 1)).1))), (mq, .inl (0, 108, .inl (fun k => nI ((bwH f ((bwB f (1, upd (sgn gp) st 1, updN qn 0 st) h).1.2.2 h) (bwB f (1, upd (sgn gp) st 1, updN qn 0 st) h).1 (i + 1)).1.2.2 k))))]) (by rw [show (bwH f ((bwB f (1, upd (sgn gp) st 1, updN qn 0 st) h).1.2.2 h) (bwB f (1, upd (sgn gp) st 1, updN qn 0 st) h).1 (i + 1)) = bwI f ((bwB f (1, upd (sgn gp) st 1, updN qn 0 st) h).1.2.2 h) i (bwH f ((bwB f (1, upd (sgn gp) st 1, updN qn 0 st) h).1.2.2 h) (bwB f (1, upd (sgn gp) st 1, updN qn 0 st) h).1 i) from rfl, hk] <;> rfl) ?_
              exact ih (i + 1) (by omega) (by omega)
            · have hs0 := (gpX_m hbi hnv).mp c_64
              have htl := bI_lt hbi hol hs0
              have hk := bwI_y (P := (bwH f ((bwB f (1, upd (sgn gp) st 1, updN qn 0 st) h).1.2.2 h) (bwB f (1, upd (sgn gp) st 1, updN qn 0 st) h).1 i)) hob c_53 hs0 htl
              refine r_aload_n d_Mm_spread_67 rfl 4 rfl ?_
              refine r_get fs_Mm_40 d_Mm_spread_68 (q0 := 0) rfl rfl ?_
              refine r_iload d_Mm_spread_71 0 rfl ?_
              refine r_aload_n d_Mm_spread_73 rfl 4 rfl ?_
              refine r_get fs_Mm_40 d_Mm_spread_74 (q0 := 0) rfl rfl ?_
              refine r_iload_n d_Mm_spread_77 rfl 6 rfl ?_
              refine r_iald d_Mm_spread_78 (q0 := 2) rfl (vp_in_nI (by omega) (by omega)) (v := nv) (by rw [nI_clamp (by omega)]; exact if_pos ⟨hg, mn_H (hsee h) i⟩) ?_
              refine r_iast d_Mm_spread_79 (q0 := 2) rfl (vp_in_nI (by omega) (by omega)) (f' := gpX gp nv ((bwH f ((bwB f (1, upd (sgn gp) st 1, updN qn 0 st) h).1.2.2 h) (bwB f (1, upd (sgn gp) st 1, updN qn 0 st) h).1 i).1.1 + 1, upd (bwH f ((bwB f (1, upd (sgn gp) st 1, updN qn 0 st) h).1.2.2 h) (bwB f (1, upd (sgn gp) st 1, updN qn 0 st) h).1 i).1.2.1 o 1, updN (bwH f ((bwB f (1, upd (sgn gp) st 1, updN qn 0 st) h).1.2.2 h) (bwB f (1, upd (sgn gp) st 1, updN qn 0 st) h).1 i).1.2.2 (bwH f ((bwB f (1, upd (sgn gp) st 1, updN qn 0 st) h).1.2.2 h) (bwB f (1, upd (sgn gp) st 1, updN qn 0 st) h).1 i).1.1 o)) (by rw [nI_clamp (by omega)]; exact gpX_up hbi hs0) (cs' := [(m, .inr (12, [.int th, .ref mp, .int pt, .ref mf, .ref mh, .ref mn, .ref mt, .ref mz, .ref mc_, .ref mq, .ref mgr, .int cl, .int wa, .int co_, .int fi, .int bu, .int ho, .ref ml, .ref mi, .ref mr, .int lh, .int mg, .int wd, .int fpi, .int fal, .ref mm, .ref mu, .ref mk, .ref mx, .long po, .long de])), (b, .inl (1, 108, .inl f)), (mgr, .inl (0, 108, .inl (gpX gp nv ((bwH f ((bwB f (1, upd (sgn gp) st 1, updN qn 0 st) h).1.2.2 h) (bwB f (1, upd (sgn gp) st 1, updN qn 0 st) h).1 i).1.1 + 1, upd (bwH f ((bwB f (1, upd (sgn gp) st 1, updN qn 0 st) h).1.2.2 h) (bwB f (1, upd (sgn gp) st 1, updN qn 0 st) h).1 i).1.2.1 o 1, updN (bwH f ((bwB f (1, upd (sgn gp) st 1, updN qn 0 st) h).1.2.2 h) (bwB f (1, upd (sgn gp) st 1, updN qn 0 st) h).1 i).1.2.2 (bwH f ((bwB f (1, upd (sgn gp) st 1, updN qn 0 st) h).1.2.2 h) (bwB f (1, upd (sgn gp) st 1, updN qn 0 st) h).1 i).1.1 o)))), (mq, .inl (0, 108, .inl (fun k => nI ((bwH f ((bwB f (1, upd (sgn gp) st 1, updN qn 0 st) h).1.2.2 h) (bwB f (1, upd (sgn gp) st 1, updN qn 0 st) h).1 i).1.2.2 k))))]) rfl ?_
              refine r_aload_n d_Mm_spread_80 rfl 4 rfl ?_
              refine r_get fs_Mm_37 d_Mm_spread_81 (q0 := 0) rfl rfl ?_
              refine r_iload_n d_Mm_spread_84 rfl 3 rfl ?_
              refine r_iload d_Mm_spread_85 0 rfl ?_
              refine r_iast d_Mm_spread_87 (q0 := 3) rfl (vp_in_nI (by omega) (by omega)) (f' := fun k => nI (updN (bwH f ((bwB f (1, upd (sgn gp) st 1, updN qn 0 st) h).1.2.2 h) (bwB f (1, upd (sgn gp) st 1, updN qn 0 st) h).1 i).1.2.2 (bwH f ((bwB f (1, upd (sgn gp) st 1, updN qn 0 st) h).1.2.2 h) (bwB f (1, upd (sgn gp) st 1, updN qn 0 st) h).1 i).1.1 o k)) (by rw [nI_clamp (by omega)]; exact upd_qn) (cs' := [(m, .inr (12, [.int th, .ref mp, .int pt, .ref mf, .ref mh, .ref mn, .ref mt, .ref mz, .ref mc_, .ref mq, .ref mgr, .int cl, .int wa, .int co_, .int fi, .int bu, .int ho, .ref ml, .ref mi, .ref mr, .int lh, .int mg, .int wd, .int fpi, .int fal, .ref mm, .ref mu, .ref mk, .ref mx, .long po, .long de])), (b, .inl (1, 108, .inl f)), (mgr, .inl (0, 108, .inl (gpX gp nv ((bwH f ((bwB f (1, upd (sgn gp) st 1, updN qn 0 st) h).1.2.2 h) (bwB f (1, upd (sgn gp) st 1, updN qn 0 st) h).1 i).1.1 + 1, upd (bwH f ((bwB f (1, upd (sgn gp) st 1, updN qn 0 st) h).1.2.2 h) (bwB f (1, upd (sgn gp) st 1, updN qn 0 st) h).1 i).1.2.1 o 1, updN (bwH f ((bwB f (1, upd (sgn gp) st 1, updN qn 0 st) h).1.2.2 h) (bwB f (1, upd (sgn gp) st 1, updN qn 0 st) h).1 i).1.2.2 (bwH f ((bwB f (1, upd (sgn gp) st 1, updN qn 0 st) h).1.2.2 h) (bwB f (1, upd (sgn gp) st 1, updN qn 0 st) h).1 i).1.1 o)))), (mq, .inl (0, 108, .inl (fun k => nI (updN (bwH f ((bwB f (1, upd (sgn gp) st 1, updN qn 0 st) h).1.2.2 h) (bwB f (1, upd (sgn gp) st 1, updN qn 0 st) h).1 i).1.2.2 (bwH f ((bwB f (1, upd (sgn gp) st 1, updN qn 0 st) h).1.2.2 h) (bwB f (1, upd (sgn gp) st 1, updN qn 0 st) h).1 i).1.1 o k))))]) rfl ?_
              refine r_iinc (lv' := [(3, .int (nI ((bwH f ((bwB f (1, upd (sgn gp) st 1, updN qn 0 st) h).1.2.2 h) (bwB f (1, upd (sgn gp) st 1, updN qn 0 st) h).1 i).1.1 + 1))), (6, .int (nI o)), (5, .int (nI i)), (4, .int (nI h)), (0, .ref m), (1, .ref b), (2, .int (nI st))]) (v := nI ((bwH f ((bwB f (1, upd (sgn gp) st 1, updN qn 0 st) h).1.2.2 h) (bwB f (1, upd (sgn gp) st 1, updN qn 0 st) h).1 i).1.1 + 1)) d_Mm_spread_88 (j := 3) rfl (nI_add _ _) (by decide) rfl ?_
              refine r_iinc (lv' := [(5, .int (nI (i + 1))), (3, .int (nI ((bwH f ((bwB f (1, upd (sgn gp) st 1, updN qn 0 st) h).1.2.2 h) (bwB f (1, upd (sgn gp) st 1, updN qn 0 st) h).1 i).1.1 + 1))), (6, .int (nI o)), (4, .int (nI h)), (0, .ref m), (1, .ref b), (2, .int (nI st))]) (v := nI (i + 1)) d_Mm_spread_91 (j := 2) rfl (nI_add _ _) (by decide) rfl ?_
              refine r_goto (tgt := 21) d_Mm_spread_94 (by decide) ?_
              refine r_lv (lv' := [(5, .int (nI (i + 1))), (4, .int (nI h)), (3, .int (nI ((bwH f ((bwB f (1, upd (sgn gp) st 1, updN qn 0 st) h).1.2.2 h) (bwB f (1, upd (sgn gp) st 1, updN qn 0 st) h).1 i).1.1 + 1))), (0, .ref m), (1, .ref b), (2, .int (nI st))]) [0, 3, 1, 4, 5, 6] rfl ?_
              refine r_lvE (lv2 := [(5, .int (nI (i + 1))), (4, .int (nI h)), (3, .int (nI (bwH f ((bwB f (1, upd (sgn gp) st 1, updN qn 0 st) h).1.2.2 h) (bwB f (1, upd (sgn gp) st 1, updN qn 0 st) h).1 (i + 1)).1.1)), (0, .ref m), (1, .ref b), (2, .int (nI st))]) (by rw [show (bwH f ((bwB f (1, upd (sgn gp) st 1, updN qn 0 st) h).1.2.2 h) (bwB f (1, upd (sgn gp) st 1, updN qn 0 st) h).1 (i + 1)) = bwI f ((bwB f (1, upd (sgn gp) st 1, updN qn 0 st) h).1.2.2 h) i (bwH f ((bwB f (1, upd (sgn gp) st 1, updN qn 0 st) h).1.2.2 h) (bwB f (1, upd (sgn gp) st 1, updN qn 0 st) h).1 i) from rfl, hk] <;> rfl) ?_
              refine r_cs (cs2 := [(m, .inr (12, [.int th, .ref mp, .int pt, .ref mf, .ref mh, .ref mn, .ref mt, .ref mz, .ref mc_, .ref mq, .ref mgr, .int cl, .int wa, .int co_, .int fi, .int bu, .int ho, .ref ml, .ref mi, .ref mr, .int lh, .int mg, .int wd, .int fpi, .int fal, .ref mm, .ref mu, .ref mk, .ref mx, .long po, .long de])), (b, .inl (1, 108, .inl f)), (mgr, .inl (0, 108, .inl (gpX gp nv (bwH f ((bwB f (1, upd (sgn gp) st 1, updN qn 0 st) h).1.2.2 h) (bwB f (1, upd (sgn gp) st 1, updN qn 0 st) h).1 (i + 1)).1))), (mq, .inl (0, 108, .inl (fun k => nI ((bwH f ((bwB f (1, upd (sgn gp) st 1, updN qn 0 st) h).1.2.2 h) (bwB f (1, upd (sgn gp) st 1, updN qn 0 st) h).1 (i + 1)).1.2.2 k))))]) (by rw [show (bwH f ((bwB f (1, upd (sgn gp) st 1, updN qn 0 st) h).1.2.2 h) (bwB f (1, upd (sgn gp) st 1, updN qn 0 st) h).1 (i + 1)) = bwI f ((bwB f (1, upd (sgn gp) st 1, updN qn 0 st) h).1.2.2 h) i (bwH f ((bwB f (1, upd (sgn gp) st 1, updN qn 0 st) h).1.2.2 h) (bwB f (1, upd (sgn gp) st 1, updN qn 0 st) h).1 i) from rfl, hk] <;> rfl) ?_
              exact ih (i + 1) (by omega) (by omega)
set_option maxHeartbeats 4000000 in
set_option maxRecDepth 100000 in
theorem L_Mm_spread9_12 (g : zG) (m mp mf mh mn mt mz mc_ mq mgr ml mi mr mm mu mk mx : Nat) (th pt cl wa co_ fi bu ho lh mg wd fpi fal : Int32) (po de : Int64) (b : Nat) (f : Nat → Int32) (gp : Nat → Int32) (qn : Nat → Nat) (nv : Int32) (st : Nat) (hst : st < 108) (hg : gp st = -1) (hnv : ¬ nv = -1) (w0 : zW) (n : Nat) (hokA : ∀ h, Qok (bwB f (1, upd (sgn gp) st 1, updN qn 0 st) h).1) (hbA : ∀ h, bI f (sgn gp) (bwB f (1, upd (sgn gp) st 1, updN qn 0 st) h).1) (hsee : ∀ h, ¬ (bwB f (1, upd (sgn gp) st 1, updN qn 0 st) h).1.2.1 st = 0) : ∀ (d h : Nat), h ≤ 108 → 108 < h + d → DV g M_Mm_spread (fun o cs1 => o = .inl none ∧ cs1 = [(m, .inr (12, [.int th, .ref mp, .int pt, .ref mf, .ref mh, .ref mn, .ref mt, .ref mz, .ref mc_, .ref mq, .ref mgr, .int cl, .int wa, .int co_, .int fi, .int bu, .int ho, .ref ml, .ref mi, .ref mr, .int lh, .int mg, .int wd, .int fpi, .int fal, .ref mm, .ref mu, .ref mk, .ref mx, .long po, .long de])), (b, .inl (1, 108, .inl f)), (mgr, .inl (0, 108, .inl (gpX gp nv (bgB f (sgn gp) qn st).1))), (mq, .inl (0, 108, .inl (fun k => nI ((bgB f (sgn gp) qn st).1.2.2 k))))]) w0 n 12 [(4, .int (nI h)), (3, .int (nI (bwB f (1, upd (sgn gp) st 1, updN qn 0 st) h).1.1)), (0, .ref m), (1, .ref b), (2, .int (nI st))] [] [(m, .inr (12, [.int th, .ref mp, .int pt, .ref mf, .ref mh, .ref mn, .ref mt, .ref mz, .ref mc_, .ref mq, .ref mgr, .int cl, .int wa, .int co_, .int fi, .int bu, .int ho, .ref ml, .ref mi, .ref mr, .int lh, .int mg, .int wd, .int fpi, .int fal, .ref mm, .ref mu, .ref mk, .ref mx, .long po, .long de])), (b, .inl (1, 108, .inl f)), (mgr, .inl (0, 108, .inl (gpX gp nv (bwB f (1, upd (sgn gp) st 1, updN qn 0 st) h).1))), (mq, .inl (0, 108, .inl (fun k => nI ((bwB f (1, upd (sgn gp) st 1, updN qn 0 st) h).1.2.2 k))))] 0 0 := by
  intro d
  induction d with
  | zero => intro h h1 h2 ; exact absurd h2 (by omega)
  | succ d ih =>
    intro h h1 h2 
    refine r_iload d_Mm_spread_12 0 rfl ?_
    refine r_iload_n d_Mm_spread_14 rfl 1 rfl ?_
    refine r_icmp_ge (tgt := 103) d_Mm_spread_15 (by decide) (fun c_15 => ?_) (fun c_15 => ?_)
    · have hq1 := (hokA h).1
      have hn := z_le (by omega) (by omega) c_15
      have hx : (bwB f (1, upd (sgn gp) st 1, updN qn 0 st) 108) = (bwB f (1, upd (sgn gp) st 1, updN qn 0 st) h) := by have := bwB_stop (f := f) (Nat.not_lt.mpr hn) (108 - h); rw [show h + (108 - h) = 108 by omega] at this; exact this
      refine r_vret d_Mm_spread_103 rfl ?_
      exact ⟨rfl, by unfold bgB; rw [hx]⟩
    · have hok := hokA h
      have hq1 := hok.1
      have hn := z_nle (by omega) (by omega) c_15
      have hhere := hok.2 h hn
      refine r_iconst d_Mm_spread_18 (v := 0) (by decide) ?_
      refine r_istore (lv' := [(5, .int 0), (4, .int (nI h)), (3, .int (nI (bwB f (1, upd (sgn gp) st 1, updN qn 0 st) h).1.1)), (0, .ref m), (1, .ref b), (2, .int (nI st))]) d_Mm_spread_19 (by decide) rfl ?_
      refine r_lvE (lv2 := [(5, .int (nI 0)), (4, .int (nI h)), (3, .int (nI (bwH f ((bwB f (1, upd (sgn gp) st 1, updN qn 0 st) h).1.2.2 h) (bwB f (1, upd (sgn gp) st 1, updN qn 0 st) h).1 0).1.1)), (0, .ref m), (1, .ref b), (2, .int (nI st))]) (rfl) ?_
      refine r_cs (cs2 := [(m, .inr (12, [.int th, .ref mp, .int pt, .ref mf, .ref mh, .ref mn, .ref mt, .ref mz, .ref mc_, .ref mq, .ref mgr, .int cl, .int wa, .int co_, .int fi, .int bu, .int ho, .ref ml, .ref mi, .ref mr, .int lh, .int mg, .int wd, .int fpi, .int fal, .ref mm, .ref mu, .ref mk, .ref mx, .long po, .long de])), (b, .inl (1, 108, .inl f)), (mgr, .inl (0, 108, .inl (gpX gp nv (bwH f ((bwB f (1, upd (sgn gp) st 1, updN qn 0 st) h).1.2.2 h) (bwB f (1, upd (sgn gp) st 1, updN qn 0 st) h).1 0).1))), (mq, .inl (0, 108, .inl (fun k => nI ((bwH f ((bwB f (1, upd (sgn gp) st 1, updN qn 0 st) h).1.2.2 h) (bwB f (1, upd (sgn gp) st 1, updN qn 0 st) h).1 0).1.2.2 k))))]) (rfl) ?_
      refine L_Mm_spread9_21 g m mp mf mh mn mt mz mc_ mq mgr ml mi mr mm mu mk mx th pt cl wa co_ fi bu ho lh mg wd fpi fal po de b f gp qn nv st hst hg hnv w0 _ h hok hn (by omega) hhere hbA hsee (?_) (4 + 1) 0 (Nat.zero_le _) (by omega)
      refine r_iinc (lv' := [(4, .int (nI (h + 1))), (3, .int (nI (bwH f ((bwB f (1, upd (sgn gp) st 1, updN qn 0 st) h).1.2.2 h) (bwB f (1, upd (sgn gp) st 1, updN qn 0 st) h).1 4).1.1)), (0, .ref m), (1, .ref b), (2, .int (nI st))]) (v := nI (h + 1)) d_Mm_spread_97 (j := 0) rfl (nI_add _ _) (by decide) rfl ?_
      refine r_goto (tgt := 12) d_Mm_spread_100 (by decide) ?_
      refine r_lvE (lv2 := [(4, .int (nI (h + 1))), (3, .int (nI (bwB f (1, upd (sgn gp) st 1, updN qn 0 st) (h + 1)).1.1)), (0, .ref m), (1, .ref b), (2, .int (nI st))]) (by rw [bwB_t hn] <;> rfl) ?_
      refine r_cs (cs2 := [(m, .inr (12, [.int th, .ref mp, .int pt, .ref mf, .ref mh, .ref mn, .ref mt, .ref mz, .ref mc_, .ref mq, .ref mgr, .int cl, .int wa, .int co_, .int fi, .int bu, .int ho, .ref ml, .ref mi, .ref mr, .int lh, .int mg, .int wd, .int fpi, .int fal, .ref mm, .ref mu, .ref mk, .ref mx, .long po, .long de])), (b, .inl (1, 108, .inl f)), (mgr, .inl (0, 108, .inl (gpX gp nv (bwB f (1, upd (sgn gp) st 1, updN qn 0 st) (h + 1)).1))), (mq, .inl (0, 108, .inl (fun k => nI ((bwB f (1, upd (sgn gp) st 1, updN qn 0 st) (h + 1)).1.2.2 k))))]) (by rw [bwB_t hn] <;> rfl) ?_
      exact ih (h + 1) (by omega) (by omega)
set_option maxHeartbeats 4000000 in
set_option maxRecDepth 100000 in
theorem C_Mm_spread9 (g : zG) (m mp mf mh mn mt mz mc_ mq mgr ml mi mr mm mu mk mx : Nat) (th pt cl wa co_ fi bu ho lh mg wd fpi fal : Int32) (po de : Int64) (b : Nat) (f : Nat → Int32) (gp : Nat → Int32) (qn : Nat → Nat) (nv : Int32) (st : Nat) (hst : st < 108) (hg : gp st = -1) (hnv : ¬ nv = -1) : CT g M_Mm_spread [.ref m, .ref b, .int (nI st)] [(m, .inr (12, [.int th, .ref mp, .int pt, .ref mf, .ref mh, .ref mn, .ref mt, .ref mz, .ref mc_, .ref mq, .ref mgr, .int cl, .int wa, .int co_, .int fi, .int bu, .int ho, .ref ml, .ref mi, .ref mr, .int lh, .int mg, .int wd, .int fpi, .int fal, .ref mm, .ref mu, .ref mk, .ref mx, .long po, .long de])), (b, .inl (1, 108, .inl f)), (mgr, .inl (0, 108, .inl (upd gp st nv))), (mq, .inl (0, 108, .inl (fun k => nI (qn k))))] (fun o cs1 => o = .inl none ∧ cs1 = [(m, .inr (12, [.int th, .ref mp, .int pt, .ref mf, .ref mh, .ref mn, .ref mt, .ref mz, .ref mc_, .ref mq, .ref mgr, .int cl, .int wa, .int co_, .int fi, .int bu, .int ho, .ref ml, .ref mi, .ref mr, .int lh, .int mg, .int wd, .int fpi, .int fal, .ref mm, .ref mu, .ref mk, .ref mx, .long po, .long de])), (b, .inl (1, 108, .inl f)), (mgr, .inl (0, 108, .inl (gpX gp nv (bgB f (sgn gp) qn st).1))), (mq, .inl (0, 108, .inl (fun k => nI ((bgB f (sgn gp) qn st).1.2.2 k))))]) 0 0 := by
  refine z_of (by decide) rfl (Nat.le_of_ble_eq_true rfl) (fun w0 => ?_)
  refine r_lvE (lv2 := [(0, .ref m), (1, .ref b), (2, .int (nI st))]) rfl ?_
  refine r_aload_n d_Mm_spread_0 rfl 0 rfl ?_
  refine r_get fs_Mm_37 d_Mm_spread_1 (q0 := 0) rfl rfl ?_
  refine r_iconst d_Mm_spread_4 (v := 0) (by decide) ?_
  refine r_iload_n d_Mm_spread_5 rfl 2 rfl ?_
  refine r_iast d_Mm_spread_6 (q0 := 3) rfl (fun q => q.elim (by decide) (by decide)) (f' := fun k => nI (updN qn 0 st k)) upd_qn (cs' := [(m, .inr (12, [.int th, .ref mp, .int pt, .ref mf, .ref mh, .ref mn, .ref mt, .ref mz, .ref mc_, .ref mq, .ref mgr, .int cl, .int wa, .int co_, .int fi, .int bu, .int ho, .ref ml, .ref mi, .ref mr, .int lh, .int mg, .int wd, .int fpi, .int fal, .ref mm, .ref mu, .ref mk, .ref mx, .long po, .long de])), (b, .inl (1, 108, .inl f)), (mgr, .inl (0, 108, .inl (upd gp st nv))), (mq, .inl (0, 108, .inl (fun k => nI (updN qn 0 st k))))]) rfl ?_
  refine r_iconst d_Mm_spread_7 (v := 1) (by decide) ?_
  refine r_istore_n (lv' := [(3, .int 1), (0, .ref m), (1, .ref b), (2, .int (nI st))]) d_Mm_spread_8 rfl (by decide) rfl ?_
  refine r_iconst d_Mm_spread_9 (v := 0) (by decide) ?_
  refine r_istore (lv' := [(4, .int 0), (3, .int 1), (0, .ref m), (1, .ref b), (2, .int (nI st))]) d_Mm_spread_10 (by decide) rfl ?_
  have hQ : Qok (1, upd (sgn gp) st 1, updN qn 0 st) := Qok_1 hst
  have hokA := fun h => bwB_ok (f := f) hQ h
  have hbA := fun h => bI_B (f := f) hQ (bI_1 hst (sgn_0.mpr hg)) h
  have hsee := fun h => mn_B (f := f) (Q := (1, upd (sgn gp) st 1, updN qn 0 st)) (k := st) (by show ¬ upd (sgn gp) st 1 st = 0; rw [upd_eq]; decide) h
  refine r_lvE (lv2 := [(4, .int (nI 0)), (3, .int (nI (bwB f (1, upd (sgn gp) st 1, updN qn 0 st) 0).1.1)), (0, .ref m), (1, .ref b), (2, .int (nI st))]) (rfl) ?_
  refine r_cs (cs2 := [(m, .inr (12, [.int th, .ref mp, .int pt, .ref mf, .ref mh, .ref mn, .ref mt, .ref mz, .ref mc_, .ref mq, .ref mgr, .int cl, .int wa, .int co_, .int fi, .int bu, .int ho, .ref ml, .ref mi, .ref mr, .int lh, .int mg, .int wd, .int fpi, .int fal, .ref mm, .ref mu, .ref mk, .ref mx, .long po, .long de])), (b, .inl (1, 108, .inl f)), (mgr, .inl (0, 108, .inl (gpX gp nv (bwB f (1, upd (sgn gp) st 1, updN qn 0 st) 0).1))), (mq, .inl (0, 108, .inl (fun k => nI ((bwB f (1, upd (sgn gp) st 1, updN qn 0 st) 0).1.2.2 k))))]) (by rw [gpX_1 (qn := qn) hg] <;> rfl) ?_
  exact L_Mm_spread9_12 g m mp mf mh mn mt mz mc_ mq mgr ml mi mr mm mu mk mx th pt cl wa co_ fi bu ho lh mg wd fpi fal po de b f gp qn nv st hst hg hnv w0 _ hokA hbA hsee (108 + 1) 0 (Nat.zero_le _) (by omega)
set_option maxHeartbeats 4000000 in
set_option maxRecDepth 100000 in
theorem L_Mm_groupIn9_25 (g : zG) (m mp mf mh mn mt mz mc_ mq mgr ml mi mr mm mu mk mx : Nat) (th pt cl wa co_ fi bu ho lh mg wd fpi fal : Int32) (po de : Int64) (b : Nat) (f : Nat → Int32) (gp : Nat → Int32) (qn : Nat → Nat) (w0 : zW) (n : Nat) : ∀ (d i : Nat), i ≤ 108 → 108 < i + d → DV g M_Mm_groupIn (fun o cs1 => o = .inl (some (.int (nI (rgS f (fa_fill (fun _ => -1) gp 108, qn, 0) 108).2.2))) ∧ cs1 = [(m, .inr (12, [.int th, .ref mp, .int pt, .ref mf, .ref mh, .ref mn, .ref mt, .ref mz, .ref mc_, .ref mq, .ref mgr, .int cl, .int wa, .int co_, .int fi, .int bu, .int ho, .ref ml, .ref mi, .ref mr, .int lh, .int mg, .int wd, .int fpi, .int fal, .ref mm, .ref mu, .ref mk, .ref mx, .long po, .long de])), (b, .inl (1, 108, .inl f)), (mgr, .inl (0, 108, .inl ((rgS f (fa_fill (fun _ => -1) gp 108, qn, 0) 108).1))), (mq, .inl (0, 108, .inl (fun k => nI ((rgS f (fa_fill (fun _ => -1) gp 108, qn, 0) 108).2.1 k))))]) w0 n 25 [(3, .int (nI i)), (2, .int (nI (rgS f (fa_fill (fun _ => -1) gp 108, qn, 0) i).2.2)), (0, .ref m), (1, .ref b)] [] [(m, .inr (12, [.int th, .ref mp, .int pt, .ref mf, .ref mh, .ref mn, .ref mt, .ref mz, .ref mc_, .ref mq, .ref mgr, .int cl, .int wa, .int co_, .int fi, .int bu, .int ho, .ref ml, .ref mi, .ref mr, .int lh, .int mg, .int wd, .int fpi, .int fal, .ref mm, .ref mu, .ref mk, .ref mx, .long po, .long de])), (b, .inl (1, 108, .inl f)), (mgr, .inl (0, 108, .inl ((rgS f (fa_fill (fun _ => -1) gp 108, qn, 0) i).1))), (mq, .inl (0, 108, .inl (fun k => nI ((rgS f (fa_fill (fun _ => -1) gp 108, qn, 0) i).2.1 k))))] 0 0 := by
  intro d
  induction d with
  | zero => intro i h1 h2 ; exact absurd h2 (by omega)
  | succ d ih =>
    intro i h1 h2 
    refine r_iload_n d_Mm_groupIn_25 rfl 0 rfl ?_
    refine r_bipush d_Mm_groupIn_26 (v := 108) (by decide) ?_
    refine r_icmp_ge (tgt := 71) d_Mm_groupIn_28 (by decide) (fun c_28 => ?_) (fun c_28 => ?_)
    · have hn := z_le (a := 108) (by omega) (by decide) c_28
      obtain rfl : i = 108 := by omega
      refine r_iload_n d_Mm_groupIn_71 rfl 1 rfl ?_
      refine r_iret d_Mm_groupIn_72 rfl rfl ?_
      exact ⟨rfl, rfl⟩
    · have hn := z_nle (a := 108) (by omega) (by decide) c_28
      refine r_aload_n d_Mm_groupIn_31 rfl 3 rfl ?_
      refine r_iload_n d_Mm_groupIn_32 rfl 0 rfl ?_
      refine r_cald d_Mm_groupIn_33 (q0 := 1) rfl (vp_in_nI (by omega) (by omega)) (v := f i) (by rw [nI_clamp (by omega)]) ?_
      refine r_bipush d_Mm_groupIn_34 (v := 111) (by decide) ?_
      refine r_icmp_ne (tgt := 65) d_Mm_groupIn_36 (by decide) (fun c_36 => ?_) (fun c_36 => ?_)
      · have hk := rgS_f (f := f) (S0 := (fa_fill (fun _ => -1) gp 108, qn, 0)) (i := i) (fun q => c_36 q.1)
        refine r_iinc (lv' := [(3, .int (nI (i + 1))), (2, .int (nI (rgS f (fa_fill (fun _ => -1) gp 108, qn, 0) i).2.2)), (0, .ref m), (1, .ref b)]) (v := nI (i + 1)) d_Mm_groupIn_65 (j := 0) rfl (nI_add _ _) (by decide) rfl ?_
        refine r_goto (tgt := 25) d_Mm_groupIn_68 (by decide) ?_
        refine r_lvE (lv2 := [(3, .int (nI (i + 1))), (2, .int (nI (rgS f (fa_fill (fun _ => -1) gp 108, qn, 0) (i + 1)).2.2)), (0, .ref m), (1, .ref b)]) (by rw [hk] <;> rfl) ?_
        refine r_cs (cs2 := [(m, .inr (12, [.int th, .ref mp, .int pt, .ref mf, .ref mh, .ref mn, .ref mt, .ref mz, .ref mc_, .ref mq, .ref mgr, .int cl, .int wa, .int co_, .int fi, .int bu, .int ho, .ref ml, .ref mi, .ref mr, .int lh, .int mg, .int wd, .int fpi, .int fal, .ref mm, .ref mu, .ref mk, .ref mx, .long po, .long de])), (b, .inl (1, 108, .inl f)), (mgr, .inl (0, 108, .inl ((rgS f (fa_fill (fun _ => -1) gp 108, qn, 0) (i + 1)).1))), (mq, .inl (0, 108, .inl (fun k => nI ((rgS f (fa_fill (fun _ => -1) gp 108, qn, 0) (i + 1)).2.1 k))))]) (by rw [hk] <;> rfl) ?_
        exact ih (i + 1) (by omega) (by omega)
      · refine r_aload_n d_Mm_groupIn_39 rfl 2 rfl ?_
        refine r_get fs_Mm_40 d_Mm_groupIn_40 (q0 := 0) rfl rfl ?_
        refine r_iload_n d_Mm_groupIn_43 rfl 0 rfl ?_
        refine r_iald d_Mm_groupIn_44 (q0 := 2) rfl (vp_in_nI (by omega) (by omega)) (v := ((rgS f (fa_fill (fun _ => -1) gp 108, qn, 0) i).1) i) (by rw [nI_clamp (by omega)]) ?_
        refine r_iconst d_Mm_groupIn_45 (v := (-1)) (by decide) ?_
        refine r_icmp_ne (tgt := 65) d_Mm_groupIn_46 (by decide) (fun c_46 => ?_) (fun c_46 => ?_)
        · have hk := rgS_f (f := f) (S0 := (fa_fill (fun _ => -1) gp 108, qn, 0)) (i := i) (fun q => c_46 q.2)
          refine r_iinc (lv' := [(3, .int (nI (i + 1))), (2, .int (nI (rgS f (fa_fill (fun _ => -1) gp 108, qn, 0) i).2.2)), (0, .ref m), (1, .ref b)]) (v := nI (i + 1)) d_Mm_groupIn_65 (j := 0) rfl (nI_add _ _) (by decide) rfl ?_
          refine r_goto (tgt := 25) d_Mm_groupIn_68 (by decide) ?_
          refine r_lvE (lv2 := [(3, .int (nI (i + 1))), (2, .int (nI (rgS f (fa_fill (fun _ => -1) gp 108, qn, 0) (i + 1)).2.2)), (0, .ref m), (1, .ref b)]) (by rw [hk] <;> rfl) ?_
          refine r_cs (cs2 := [(m, .inr (12, [.int th, .ref mp, .int pt, .ref mf, .ref mh, .ref mn, .ref mt, .ref mz, .ref mc_, .ref mq, .ref mgr, .int cl, .int wa, .int co_, .int fi, .int bu, .int ho, .ref ml, .ref mi, .ref mr, .int lh, .int mg, .int wd, .int fpi, .int fal, .ref mm, .ref mu, .ref mk, .ref mx, .long po, .long de])), (b, .inl (1, 108, .inl f)), (mgr, .inl (0, 108, .inl ((rgS f (fa_fill (fun _ => -1) gp 108, qn, 0) (i + 1)).1))), (mq, .inl (0, 108, .inl (fun k => nI ((rgS f (fa_fill (fun _ => -1) gp 108, qn, 0) (i + 1)).2.1 k))))]) (by rw [hk] <;> rfl) ?_
          exact ih (i + 1) (by omega) (by omega)
        · have hle := rgS_le (f := f) (S0 := (fa_fill (fun _ => -1) gp 108, qn, 0)) rfl i
          have hk := rgS_t (f := f) (S0 := (fa_fill (fun _ => -1) gp 108, qn, 0)) (i := i) ⟨c_36, c_46⟩
          refine r_aload_n d_Mm_groupIn_49 rfl 2 rfl ?_
          refine r_get fs_Mm_40 d_Mm_groupIn_50 (q0 := 0) rfl rfl ?_
          refine r_iload_n d_Mm_groupIn_53 rfl 0 rfl ?_
          refine r_iload_n d_Mm_groupIn_54 rfl 1 rfl ?_
          refine r_iast d_Mm_groupIn_55 (q0 := 2) rfl (vp_in_nI (by omega) (by omega)) (f' := upd (rgS f (fa_fill (fun _ => -1) gp 108, qn, 0) i).1 i (nI (rgS f (fa_fill (fun _ => -1) gp 108, qn, 0) i).2.2)) (by rw [nI_clamp (by omega)] <;> rfl) (cs' := [(m, .inr (12, [.int th, .ref mp, .int pt, .ref mf, .ref mh, .ref mn, .ref mt, .ref mz, .ref mc_, .ref mq, .ref mgr, .int cl, .int wa, .int co_, .int fi, .int bu, .int ho, .ref ml, .ref mi, .ref mr, .int lh, .int mg, .int wd, .int fpi, .int fal, .ref mm, .ref mu, .ref mk, .ref mx, .long po, .long de])), (b, .inl (1, 108, .inl f)), (mgr, .inl (0, 108, .inl (upd (rgS f (fa_fill (fun _ => -1) gp 108, qn, 0) i).1 i (nI (rgS f (fa_fill (fun _ => -1) gp 108, qn, 0) i).2.2)))), (mq, .inl (0, 108, .inl (fun k => nI ((rgS f (fa_fill (fun _ => -1) gp 108, qn, 0) i).2.1 k))))]) rfl ?_
          refine r_aload_n d_Mm_groupIn_56 rfl 2 rfl ?_
          refine r_aload_n d_Mm_groupIn_57 rfl 3 rfl ?_
          refine r_iload_n d_Mm_groupIn_58 rfl 0 rfl ?_
          refine r_callV (As := [.ref b, .int (nI i)]) (rest := []) (csC := [(m, .inr (12, [.int th, .ref mp, .int pt, .ref mf, .ref mh, .ref mn, .ref mt, .ref mz, .ref mc_, .ref mq, .ref mgr, .int cl, .int wa, .int co_, .int fi, .int bu, .int ho, .ref ml, .ref mi, .ref mr, .int lh, .int mg, .int wd, .int fpi, .int fal, .ref mm, .ref mu, .ref mk, .ref mx, .long po, .long de])), (b, .inl (1, 108, .inl f)), (mgr, .inl (0, 108, .inl (upd (rgS f (fa_fill (fun _ => -1) gp 108, qn, 0) i).1 i (nI (rgS f (fa_fill (fun _ => -1) gp 108, qn, 0) i).2.2)))), (mq, .inl (0, 108, .inl (fun k => nI ((rgS f (fa_fill (fun _ => -1) gp 108, qn, 0) i).2.1 k))))]) (is := [0, 1, 2, 3]) (q0 := 0) rfl rfl ln_Mm_115 w_im_Mm_spread w_se_Mm_spread ok_Mm_groupIn_Mm_spread d_Mm_groupIn_59 (C_Mm_spread9 g m mp mf mh mn mt mz mc_ mq mgr ml mi mr mm mu mk mx th pt cl wa co_ fi bu ho lh mg wd fpi fal po de b f (rgS f (fa_fill (fun _ => -1) gp 108, qn, 0) i).1 (rgS f (fa_fill (fun _ => -1) gp 108, qn, 0) i).2.1 (nI (rgS f (fa_fill (fun _ => -1) gp 108, qn, 0) i).2.2) i (by omega) c_46 (nI_nm1 (by omega))) rfl rfl (Nat.le_of_ble_eq_true rfl) rfl (by decide) (by omega) (by omega) (fun E cs1 hx => ?_) (fun v cs1 hx => ?_)
          · exact absurd hx.1 (by simp)
          · obtain ⟨e1, rfl⟩ := hx
            cases e1
            refine ⟨rfl, ?_⟩
            refine r_st (st2 := []) rfl ?_
            refine r_cs (cs2 := [(m, .inr (12, [.int th, .ref mp, .int pt, .ref mf, .ref mh, .ref mn, .ref mt, .ref mz, .ref mc_, .ref mq, .ref mgr, .int cl, .int wa, .int co_, .int fi, .int bu, .int ho, .ref ml, .ref mi, .ref mr, .int lh, .int mg, .int wd, .int fpi, .int fal, .ref mm, .ref mu, .ref mk, .ref mx, .long po, .long de])), (b, .inl (1, 108, .inl f)), (mgr, .inl (0, 108, .inl (gpX (rgS f (fa_fill (fun _ => -1) gp 108, qn, 0) i).1 (nI (rgS f (fa_fill (fun _ => -1) gp 108, qn, 0) i).2.2) (bgB f (sgn (rgS f (fa_fill (fun _ => -1) gp 108, qn, 0) i).1) (rgS f (fa_fill (fun _ => -1) gp 108, qn, 0) i).2.1 i).1))), (mq, .inl (0, 108, .inl (fun k => nI ((bgB f (sgn (rgS f (fa_fill (fun _ => -1) gp 108, qn, 0) i).1) (rgS f (fa_fill (fun _ => -1) gp 108, qn, 0) i).2.1 i).1.2.2 k))))]) rfl ?_
            refine r_iinc (lv' := [(2, .int (nI ((rgS f (fa_fill (fun _ => -1) gp 108, qn, 0) i).2.2 + 1))), (3, .int (nI i)), (0, .ref m), (1, .ref b)]) (v := nI ((rgS f (fa_fill (fun _ => -1) gp 108, qn, 0) i).2.2 + 1)) d_Mm_groupIn_62 (j := 1) rfl (nI_add _ _) (by decide) rfl ?_
            refine r_iinc (lv' := [(3, .int (nI (i + 1))), (2, .int (nI ((rgS f (fa_fill (fun _ => -1) gp 108, qn, 0) i).2.2 + 1))), (0, .ref m), (1, .ref b)]) (v := nI (i + 1)) d_Mm_groupIn_65 (j := 1) rfl (nI_add _ _) (by decide) rfl ?_
            refine r_goto (tgt := 25) d_Mm_groupIn_68 (by decide) ?_
            refine r_lvE (lv2 := [(3, .int (nI (i + 1))), (2, .int (nI (rgS f (fa_fill (fun _ => -1) gp 108, qn, 0) (i + 1)).2.2)), (0, .ref m), (1, .ref b)]) (by rw [hk] <;> rfl) ?_
            refine r_cs (cs2 := [(m, .inr (12, [.int th, .ref mp, .int pt, .ref mf, .ref mh, .ref mn, .ref mt, .ref mz, .ref mc_, .ref mq, .ref mgr, .int cl, .int wa, .int co_, .int fi, .int bu, .int ho, .ref ml, .ref mi, .ref mr, .int lh, .int mg, .int wd, .int fpi, .int fal, .ref mm, .ref mu, .ref mk, .ref mx, .long po, .long de])), (b, .inl (1, 108, .inl f)), (mgr, .inl (0, 108, .inl ((rgS f (fa_fill (fun _ => -1) gp 108, qn, 0) (i + 1)).1))), (mq, .inl (0, 108, .inl (fun k => nI ((rgS f (fa_fill (fun _ => -1) gp 108, qn, 0) (i + 1)).2.1 k))))]) (by rw [hk] <;> rfl) ?_
            exact ih (i + 1) (by omega) (by omega)
set_option maxHeartbeats 4000000 in
set_option maxRecDepth 100000 in
theorem L_Mm_groupIn9_4 (g : zG) (m mp mf mh mn mt mz mc_ mq mgr ml mi mr mm mu mk mx : Nat) (th pt cl wa co_ fi bu ho lh mg wd fpi fal : Int32) (po de : Int64) (b : Nat) (f : Nat → Int32) (gp : Nat → Int32) (qn : Nat → Nat) (w0 : zW) (n : Nat) : ∀ (d i : Nat), i ≤ 108 → 108 < i + d → DV g M_Mm_groupIn (fun o cs1 => o = .inl (some (.int (nI (rgS f (fa_fill (fun _ => -1) gp 108, qn, 0) 108).2.2))) ∧ cs1 = [(m, .inr (12, [.int th, .ref mp, .int pt, .ref mf, .ref mh, .ref mn, .ref mt, .ref mz, .ref mc_, .ref mq, .ref mgr, .int cl, .int wa, .int co_, .int fi, .int bu, .int ho, .ref ml, .ref mi, .ref mr, .int lh, .int mg, .int wd, .int fpi, .int fal, .ref mm, .ref mu, .ref mk, .ref mx, .long po, .long de])), (b, .inl (1, 108, .inl f)), (mgr, .inl (0, 108, .inl ((rgS f (fa_fill (fun _ => -1) gp 108, qn, 0) 108).1))), (mq, .inl (0, 108, .inl (fun k => nI ((rgS f (fa_fill (fun _ => -1) gp 108, qn, 0) 108).2.1 k))))]) w0 n 4 [(3, .int (nI i)), (2, .int 0), (0, .ref m), (1, .ref b)] [] [(m, .inr (12, [.int th, .ref mp, .int pt, .ref mf, .ref mh, .ref mn, .ref mt, .ref mz, .ref mc_, .ref mq, .ref mgr, .int cl, .int wa, .int co_, .int fi, .int bu, .int ho, .ref ml, .ref mi, .ref mr, .int lh, .int mg, .int wd, .int fpi, .int fal, .ref mm, .ref mu, .ref mk, .ref mx, .long po, .long de])), (b, .inl (1, 108, .inl f)), (mgr, .inl (0, 108, .inl (fa_fill (fun _ => -1) gp i))), (mq, .inl (0, 108, .inl (fun k => nI (qn k))))] 0 0 := by
  intro d
  induction d with
  | zero => intro i h1 h2 ; exact absurd h2 (by omega)
  | succ d ih =>
    intro i h1 h2 
    refine r_iload_n d_Mm_groupIn_4 rfl 0 rfl ?_
    refine r_bipush d_Mm_groupIn_5 (v := 108) (by decide) ?_
    refine r_icmp_ge (tgt := 23) d_Mm_groupIn_7 (by decide) (fun c_7 => ?_) (fun c_7 => ?_)
    · have hn := z_le (a := 108) (by omega) (by decide) c_7
      obtain rfl : i = 108 := by omega
      refine r_iconst d_Mm_groupIn_23 (v := 0) (by decide) ?_
      refine r_istore_n (lv' := [(3, .int 0), (2, .int 0), (0, .ref m), (1, .ref b)]) d_Mm_groupIn_24 rfl (by decide) rfl ?_
      refine r_lvE (lv2 := [(3, .int (nI 0)), (2, .int (nI (rgS f (fa_fill (fun _ => -1) gp 108, qn, 0) 0).2.2)), (0, .ref m), (1, .ref b)]) (rfl) ?_
      refine r_cs (cs2 := [(m, .inr (12, [.int th, .ref mp, .int pt, .ref mf, .ref mh, .ref mn, .ref mt, .ref mz, .ref mc_, .ref mq, .ref mgr, .int cl, .int wa, .int co_, .int fi, .int bu, .int ho, .ref ml, .ref mi, .ref mr, .int lh, .int mg, .int wd, .int fpi, .int fal, .ref mm, .ref mu, .ref mk, .ref mx, .long po, .long de])), (b, .inl (1, 108, .inl f)), (mgr, .inl (0, 108, .inl ((rgS f (fa_fill (fun _ => -1) gp 108, qn, 0) 0).1))), (mq, .inl (0, 108, .inl (fun k => nI ((rgS f (fa_fill (fun _ => -1) gp 108, qn, 0) 0).2.1 k))))]) (rfl) ?_
      exact L_Mm_groupIn9_25 g m mp mf mh mn mt mz mc_ mq mgr ml mi mr mm mu mk mx th pt cl wa co_ fi bu ho lh mg wd fpi fal po de b f gp qn w0 _  (108 + 1) 0 (Nat.zero_le _) (by omega)
    · have hn := z_nle (a := 108) (by omega) (by decide) c_7
      refine r_aload_n d_Mm_groupIn_10 rfl 2 rfl ?_
      refine r_get fs_Mm_40 d_Mm_groupIn_11 (q0 := 0) rfl rfl ?_
      refine r_iload_n d_Mm_groupIn_14 rfl 0 rfl ?_
      refine r_iconst d_Mm_groupIn_15 (v := (-1)) (by decide) ?_
      refine r_iast d_Mm_groupIn_16 (q0 := 2) rfl (vp_in_nI (by omega) (by omega)) (f' := fa_fill (fun _ => -1) gp (i + 1)) (by rw [nI_clamp (by omega)]; exact fill_nI (-1) gp i) (cs' := [(m, .inr (12, [.int th, .ref mp, .int pt, .ref mf, .ref mh, .ref mn, .ref mt, .ref mz, .ref mc_, .ref mq, .ref mgr, .int cl, .int wa, .int co_, .int fi, .int bu, .int ho, .ref ml, .ref mi, .ref mr, .int lh, .int mg, .int wd, .int fpi, .int fal, .ref mm, .ref mu, .ref mk, .ref mx, .long po, .long de])), (b, .inl (1, 108, .inl f)), (mgr, .inl (0, 108, .inl (fa_fill (fun _ => -1) gp (i + 1)))), (mq, .inl (0, 108, .inl (fun k => nI (qn k))))]) rfl ?_
      refine r_iinc (lv' := [(3, .int (nI (i + 1))), (2, .int 0), (0, .ref m), (1, .ref b)]) (v := nI (i + 1)) d_Mm_groupIn_17 (j := 0) rfl (nI_add _ _) (by decide) rfl ?_
      refine r_goto (tgt := 4) d_Mm_groupIn_20 (by decide) ?_
      refine r_lvE (lv2 := [(3, .int (nI (i + 1))), (2, .int 0), (0, .ref m), (1, .ref b)]) (rfl) ?_
      refine r_cs (cs2 := [(m, .inr (12, [.int th, .ref mp, .int pt, .ref mf, .ref mh, .ref mn, .ref mt, .ref mz, .ref mc_, .ref mq, .ref mgr, .int cl, .int wa, .int co_, .int fi, .int bu, .int ho, .ref ml, .ref mi, .ref mr, .int lh, .int mg, .int wd, .int fpi, .int fal, .ref mm, .ref mu, .ref mk, .ref mx, .long po, .long de])), (b, .inl (1, 108, .inl f)), (mgr, .inl (0, 108, .inl (fa_fill (fun _ => -1) gp (i + 1)))), (mq, .inl (0, 108, .inl (fun k => nI (qn k))))]) (rfl) ?_
      exact ih (i + 1) (by omega) (by omega)
set_option maxHeartbeats 4000000 in
set_option maxRecDepth 100000 in
theorem C_Mm_groupIn9 (g : zG) (m mp mf mh mn mt mz mc_ mq mgr ml mi mr mm mu mk mx : Nat) (th pt cl wa co_ fi bu ho lh mg wd fpi fal : Int32) (po de : Int64) (b : Nat) (f : Nat → Int32) (gp : Nat → Int32) (qn : Nat → Nat) : CT g M_Mm_groupIn [.ref m, .ref b] [(m, .inr (12, [.int th, .ref mp, .int pt, .ref mf, .ref mh, .ref mn, .ref mt, .ref mz, .ref mc_, .ref mq, .ref mgr, .int cl, .int wa, .int co_, .int fi, .int bu, .int ho, .ref ml, .ref mi, .ref mr, .int lh, .int mg, .int wd, .int fpi, .int fal, .ref mm, .ref mu, .ref mk, .ref mx, .long po, .long de])), (b, .inl (1, 108, .inl f)), (mgr, .inl (0, 108, .inl gp)), (mq, .inl (0, 108, .inl (fun k => nI (qn k))))] (fun o cs1 => o = .inl (some (.int (nI (rgS f (fa_fill (fun _ => -1) gp 108, qn, 0) 108).2.2))) ∧ cs1 = [(m, .inr (12, [.int th, .ref mp, .int pt, .ref mf, .ref mh, .ref mn, .ref mt, .ref mz, .ref mc_, .ref mq, .ref mgr, .int cl, .int wa, .int co_, .int fi, .int bu, .int ho, .ref ml, .ref mi, .ref mr, .int lh, .int mg, .int wd, .int fpi, .int fal, .ref mm, .ref mu, .ref mk, .ref mx, .long po, .long de])), (b, .inl (1, 108, .inl f)), (mgr, .inl (0, 108, .inl ((rgS f (fa_fill (fun _ => -1) gp 108, qn, 0) 108).1))), (mq, .inl (0, 108, .inl (fun k => nI ((rgS f (fa_fill (fun _ => -1) gp 108, qn, 0) 108).2.1 k))))]) 0 0 := by
  refine z_of (by decide) rfl (Nat.le_of_ble_eq_true rfl) (fun w0 => ?_)
  refine r_lvE (lv2 := [(0, .ref m), (1, .ref b)]) rfl ?_
  refine r_iconst d_Mm_groupIn_0 (v := 0) (by decide) ?_
  refine r_istore_n (lv' := [(2, .int 0), (0, .ref m), (1, .ref b)]) d_Mm_groupIn_1 rfl (by decide) rfl ?_
  refine r_iconst d_Mm_groupIn_2 (v := 0) (by decide) ?_
  refine r_istore_n (lv' := [(3, .int 0), (2, .int 0), (0, .ref m), (1, .ref b)]) d_Mm_groupIn_3 rfl (by decide) rfl ?_
  refine r_lvE (lv2 := [(3, .int (nI 0)), (2, .int 0), (0, .ref m), (1, .ref b)]) (rfl) ?_
  refine r_cs (cs2 := [(m, .inr (12, [.int th, .ref mp, .int pt, .ref mf, .ref mh, .ref mn, .ref mt, .ref mz, .ref mc_, .ref mq, .ref mgr, .int cl, .int wa, .int co_, .int fi, .int bu, .int ho, .ref ml, .ref mi, .ref mr, .int lh, .int mg, .int wd, .int fpi, .int fal, .ref mm, .ref mu, .ref mk, .ref mx, .long po, .long de])), (b, .inl (1, 108, .inl f)), (mgr, .inl (0, 108, .inl (fa_fill (fun _ => -1) gp 0))), (mq, .inl (0, 108, .inl (fun k => nI (qn k))))]) (rfl) ?_
  exact L_Mm_groupIn9_4 g m mp mf mh mn mt mz mc_ mq mgr ml mi mr mm mu mk mx th pt cl wa co_ fi bu ho lh mg wd fpi fal po de b f gp qn w0 _  (108 + 1) 0 (Nat.zero_le _) (by omega)
set_option maxHeartbeats 4000000 in
set_option maxRecDepth 100000 in
theorem L_Mm_looseIn9_23 (g : zG) (m mp mf mh mn mt mz mc_ mq mgr ml mi mr mm mu mk mx : Nat) (th pt cl wa co_ fi bu ho lh mg wd fpi fal : Int32) (po de : Int64) (b : Nat) (f : Nat → Int32) (gp : Nat → Int32) (qn : Nat → Nat) (w0 : zW) (n : Nat) (co : Nat) (hco : co < 108) (K : DV g M_Mm_looseIn (fun o cs1 => o = .inl (some (.int (nI (fa_cnt (rgL f (rgS f (fa_fill (fun _ => -1) gp 108, qn, 0) 108).1) (rgS f (fa_fill (fun _ => -1) gp 108, qn, 0) 108).2.2)))) ∧ cs1 = [(m, .inr (12, [.int th, .ref mp, .int pt, .ref mf, .ref mh, .ref mn, .ref mt, .ref mz, .ref mc_, .ref mq, .ref mgr, .int cl, .int wa, .int co_, .int fi, .int bu, .int ho, .ref ml, .ref mi, .ref mr, .int lh, .int mg, .int wd, .int fpi, .int fal, .ref mm, .ref mu, .ref mk, .ref mx, .long po, .long de])), (b, .inl (1, 108, .inl f)), (mgr, .inl (0, 108, .inl ((rgS f (fa_fill (fun _ => -1) gp 108, qn, 0) 108).1))), (mq, .inl (0, 108, .inl (fun k => nI ((rgS f (fa_fill (fun _ => -1) gp 108, qn, 0) 108).2.1 k))))]) w0 n 67 [(5, .int (nI (fa_cnt (rgC f (rgS f (fa_fill (fun _ => -1) gp 108, qn, 0) 108).1 co) 108))), (4, .int (nI co)), (3, .int (nI (fa_cnt (rgL f (rgS f (fa_fill (fun _ => -1) gp 108, qn, 0) 108).1) co))), (2, .int (nI (rgS f (fa_fill (fun _ => -1) gp 108, qn, 0) 108).2.2)), (0, .ref m), (1, .ref b)] [] [(m, .inr (12, [.int th, .ref mp, .int pt, .ref mf, .ref mh, .ref mn, .ref mt, .ref mz, .ref mc_, .ref mq, .ref mgr, .int cl, .int wa, .int co_, .int fi, .int bu, .int ho, .ref ml, .ref mi, .ref mr, .int lh, .int mg, .int wd, .int fpi, .int fal, .ref mm, .ref mu, .ref mk, .ref mx, .long po, .long de])), (b, .inl (1, 108, .inl f)), (mgr, .inl (0, 108, .inl ((rgS f (fa_fill (fun _ => -1) gp 108, qn, 0) 108).1))), (mq, .inl (0, 108, .inl (fun k => nI ((rgS f (fa_fill (fun _ => -1) gp 108, qn, 0) 108).2.1 k))))] 0 0) : ∀ (d i : Nat), i ≤ 108 → 108 < i + d → DV g M_Mm_looseIn (fun o cs1 => o = .inl (some (.int (nI (fa_cnt (rgL f (rgS f (fa_fill (fun _ => -1) gp 108, qn, 0) 108).1) (rgS f (fa_fill (fun _ => -1) gp 108, qn, 0) 108).2.2)))) ∧ cs1 = [(m, .inr (12, [.int th, .ref mp, .int pt, .ref mf, .ref mh, .ref mn, .ref mt, .ref mz, .ref mc_, .ref mq, .ref mgr, .int cl, .int wa, .int co_, .int fi, .int bu, .int ho, .ref ml, .ref mi, .ref mr, .int lh, .int mg, .int wd, .int fpi, .int fal, .ref mm, .ref mu, .ref mk, .ref mx, .long po, .long de])), (b, .inl (1, 108, .inl f)), (mgr, .inl (0, 108, .inl ((rgS f (fa_fill (fun _ => -1) gp 108, qn, 0) 108).1))), (mq, .inl (0, 108, .inl (fun k => nI ((rgS f (fa_fill (fun _ => -1) gp 108, qn, 0) 108).2.1 k))))]) w0 n 23 [(6, .int (nI i)), (5, .int (nI (fa_cnt (rgC f (rgS f (fa_fill (fun _ => -1) gp 108, qn, 0) 108).1 co) i))), (4, .int (nI co)), (3, .int (nI (fa_cnt (rgL f (rgS f (fa_fill (fun _ => -1) gp 108, qn, 0) 108).1) co))), (2, .int (nI (rgS f (fa_fill (fun _ => -1) gp 108, qn, 0) 108).2.2)), (0, .ref m), (1, .ref b)] [] [(m, .inr (12, [.int th, .ref mp, .int pt, .ref mf, .ref mh, .ref mn, .ref mt, .ref mz, .ref mc_, .ref mq, .ref mgr, .int cl, .int wa, .int co_, .int fi, .int bu, .int ho, .ref ml, .ref mi, .ref mr, .int lh, .int mg, .int wd, .int fpi, .int fal, .ref mm, .ref mu, .ref mk, .ref mx, .long po, .long de])), (b, .inl (1, 108, .inl f)), (mgr, .inl (0, 108, .inl ((rgS f (fa_fill (fun _ => -1) gp 108, qn, 0) 108).1))), (mq, .inl (0, 108, .inl (fun k => nI ((rgS f (fa_fill (fun _ => -1) gp 108, qn, 0) 108).2.1 k))))] 0 0 := by
  intro d
  induction d with
  | zero => intro i h1 h2 ; exact absurd h2 (by omega)
  | succ d ih =>
    intro i h1 h2 
    refine r_iload d_Mm_looseIn_23 0 rfl ?_
    refine r_bipush d_Mm_looseIn_25 (v := 108) (by decide) ?_
    refine r_icmp_ge (tgt := 67) d_Mm_looseIn_27 (by decide) (fun c_27 => ?_) (fun c_27 => ?_)
    · have hn := z_le (a := 108) (by omega) (by decide) c_27
      obtain rfl : i = 108 := by omega
      refine r_lv (lv' := [(5, .int (nI (fa_cnt (rgC f (rgS f (fa_fill (fun _ => -1) gp 108, qn, 0) 108).1 co) 108))), (4, .int (nI co)), (3, .int (nI (fa_cnt (rgL f (rgS f (fa_fill (fun _ => -1) gp 108, qn, 0) 108).1) co))), (2, .int (nI (rgS f (fa_fill (fun _ => -1) gp 108, qn, 0) 108).2.2)), (0, .ref m), (1, .ref b)]) [1, 2, 3, 4, 5, 6] rfl ?_
      exact K
    · have hn := z_nle (a := 108) (by omega) (by decide) c_27
      refine r_iload d_Mm_looseIn_30 1 rfl ?_
      refine r_aload_n d_Mm_looseIn_32 rfl 5 rfl ?_
      refine r_get fs_Mm_40 d_Mm_looseIn_33 (q0 := 0) rfl rfl ?_
      refine r_iload d_Mm_looseIn_36 0 rfl ?_
      refine r_iald d_Mm_looseIn_38 (q0 := 2) rfl (vp_in_nI (by omega) (by omega)) (v := (rgS f (fa_fill (fun _ => -1) gp 108, qn, 0) 108).1 i) (by rw [nI_clamp (by omega)]) ?_
      refine r_iload d_Mm_looseIn_39 2 rfl ?_
      refine r_icmp_ne (tgt := 57) d_Mm_looseIn_41 (by decide) (fun c_41 => ?_) (fun c_41 => ?_)
      · have hb : rgC f (rgS f (fa_fill (fun _ => -1) gp 108, qn, 0) 108).1 co i = false := by unfold rgC; rw [decide_eq_false c_41]; rfl
        refine r_iconst d_Mm_looseIn_57 (v := 0) (by decide) ?_
        refine r_iadd d_Mm_looseIn_58 (v := nI ((fa_cnt (rgC f (rgS f (fa_fill (fun _ => -1) gp 108, qn, 0) 108).1 co) i) + 0)) (nI_add _ _) ?_
        refine r_istore (lv' := [(5, .int (nI ((fa_cnt (rgC f (rgS f (fa_fill (fun _ => -1) gp 108, qn, 0) 108).1 co) i) + 0))), (6, .int (nI i)), (4, .int (nI co)), (3, .int (nI (fa_cnt (rgL f (rgS f (fa_fill (fun _ => -1) gp 108, qn, 0) 108).1) co))), (2, .int (nI (rgS f (fa_fill (fun _ => -1) gp 108, qn, 0) 108).2.2)), (0, .ref m), (1, .ref b)]) d_Mm_looseIn_59 (by decide) rfl ?_
        refine r_iinc (lv' := [(6, .int (nI (i + 1))), (5, .int (nI ((fa_cnt (rgC f (rgS f (fa_fill (fun _ => -1) gp 108, qn, 0) 108).1 co) i) + 0))), (4, .int (nI co)), (3, .int (nI (fa_cnt (rgL f (rgS f (fa_fill (fun _ => -1) gp 108, qn, 0) 108).1) co))), (2, .int (nI (rgS f (fa_fill (fun _ => -1) gp 108, qn, 0) 108).2.2)), (0, .ref m), (1, .ref b)]) (v := nI (i + 1)) d_Mm_looseIn_61 (j := 1) rfl (nI_add _ _) (by decide) rfl ?_
        refine r_goto (tgt := 23) d_Mm_looseIn_64 (by decide) ?_
        refine r_lvE (lv2 := [(6, .int (nI (i + 1))), (5, .int (nI (fa_cnt (rgC f (rgS f (fa_fill (fun _ => -1) gp 108, qn, 0) 108).1 co) (i + 1)))), (4, .int (nI co)), (3, .int (nI (fa_cnt (rgL f (rgS f (fa_fill (fun _ => -1) gp 108, qn, 0) 108).1) co))), (2, .int (nI (rgS f (fa_fill (fun _ => -1) gp 108, qn, 0) 108).2.2)), (0, .ref m), (1, .ref b)]) (by first | (rw [fa_cnt_yes (p := rgC f (rgS f (fa_fill (fun _ => -1) gp 108, qn, 0) 108).1 co) hb] <;> rfl) | (rw [fa_cnt_no (p := rgC f (rgS f (fa_fill (fun _ => -1) gp 108, qn, 0) 108).1 co) hb] <;> rfl)) ?_
        refine r_cs (cs2 := [(m, .inr (12, [.int th, .ref mp, .int pt, .ref mf, .ref mh, .ref mn, .ref mt, .ref mz, .ref mc_, .ref mq, .ref mgr, .int cl, .int wa, .int co_, .int fi, .int bu, .int ho, .ref ml, .ref mi, .ref mr, .int lh, .int mg, .int wd, .int fpi, .int fal, .ref mm, .ref mu, .ref mk, .ref mx, .long po, .long de])), (b, .inl (1, 108, .inl f)), (mgr, .inl (0, 108, .inl ((rgS f (fa_fill (fun _ => -1) gp 108, qn, 0) 108).1))), (mq, .inl (0, 108, .inl (fun k => nI ((rgS f (fa_fill (fun _ => -1) gp 108, qn, 0) 108).2.1 k))))]) (rfl) ?_
        exact ih (i + 1) (by omega) (by omega)
      · refine r_aload_n d_Mm_looseIn_44 rfl 6 rfl ?_
        refine r_iload d_Mm_looseIn_45 0 rfl ?_
        refine r_callS (As := [.ref b, .int (nI i)]) (rest := [.int (nI (fa_cnt (rgC f (rgS f (fa_fill (fun _ => -1) gp 108, qn, 0) 108).1 co) i))]) (csC := [(b, .inl (1, 108, .inl f))]) (is := [1]) ln_Mm_127 w_st_Mm_isBesideSand ok_Mm_looseIn_Mm_isBesideSand d_Mm_looseIn_47 (C_Mm_isBesideSand g b f i (by omega)) rfl rfl (Nat.le_of_ble_eq_true rfl) rfl (by decide) (by omega) (by omega) (fun E cs1 hx => ?_) (fun v cs1 hx => ?_)
        · exact absurd hx.1 (by simp)
        · obtain ⟨e1, rfl⟩ := hx
          cases e1
          refine ⟨rfl, ?_⟩
          refine r_st (st2 := [.int (bsdS f i 4), .int (nI (fa_cnt (rgC f (rgS f (fa_fill (fun _ => -1) gp 108, qn, 0) 108).1 co) i))]) rfl ?_
          refine r_cs (cs2 := [(m, .inr (12, [.int th, .ref mp, .int pt, .ref mf, .ref mh, .ref mn, .ref mt, .ref mz, .ref mc_, .ref mq, .ref mgr, .int cl, .int wa, .int co_, .int fi, .int bu, .int ho, .ref ml, .ref mi, .ref mr, .int lh, .int mg, .int wd, .int fpi, .int fal, .ref mm, .ref mu, .ref mk, .ref mx, .long po, .long de])), (b, .inl (1, 108, .inl f)), (mgr, .inl (0, 108, .inl ((rgS f (fa_fill (fun _ => -1) gp 108, qn, 0) 108).1))), (mq, .inl (0, 108, .inl (fun k => nI ((rgS f (fa_fill (fun _ => -1) gp 108, qn, 0) 108).2.1 k))))]) rfl ?_
          refine r_if_eq (tgt := 57) d_Mm_looseIn_50 (by decide) (fun c_50 => ?_) (fun c_50 => ?_)
          · have hb : rgC f (rgS f (fa_fill (fun _ => -1) gp 108, qn, 0) 108).1 co i = false := by unfold rgC bsP; rw [decide_eq_false (show ¬ ¬ bsdS f i 4 = 0 from fun z => z c_50), Bool.and_false]
            refine r_iconst d_Mm_looseIn_57 (v := 0) (by decide) ?_
            refine r_iadd d_Mm_looseIn_58 (v := nI ((fa_cnt (rgC f (rgS f (fa_fill (fun _ => -1) gp 108, qn, 0) 108).1 co) i) + 0)) (nI_add _ _) ?_
            refine r_istore (lv' := [(5, .int (nI ((fa_cnt (rgC f (rgS f (fa_fill (fun _ => -1) gp 108, qn, 0) 108).1 co) i) + 0))), (6, .int (nI i)), (4, .int (nI co)), (3, .int (nI (fa_cnt (rgL f (rgS f (fa_fill (fun _ => -1) gp 108, qn, 0) 108).1) co))), (2, .int (nI (rgS f (fa_fill (fun _ => -1) gp 108, qn, 0) 108).2.2)), (0, .ref m), (1, .ref b)]) d_Mm_looseIn_59 (by decide) rfl ?_
            refine r_iinc (lv' := [(6, .int (nI (i + 1))), (5, .int (nI ((fa_cnt (rgC f (rgS f (fa_fill (fun _ => -1) gp 108, qn, 0) 108).1 co) i) + 0))), (4, .int (nI co)), (3, .int (nI (fa_cnt (rgL f (rgS f (fa_fill (fun _ => -1) gp 108, qn, 0) 108).1) co))), (2, .int (nI (rgS f (fa_fill (fun _ => -1) gp 108, qn, 0) 108).2.2)), (0, .ref m), (1, .ref b)]) (v := nI (i + 1)) d_Mm_looseIn_61 (j := 1) rfl (nI_add _ _) (by decide) rfl ?_
            refine r_goto (tgt := 23) d_Mm_looseIn_64 (by decide) ?_
            refine r_lvE (lv2 := [(6, .int (nI (i + 1))), (5, .int (nI (fa_cnt (rgC f (rgS f (fa_fill (fun _ => -1) gp 108, qn, 0) 108).1 co) (i + 1)))), (4, .int (nI co)), (3, .int (nI (fa_cnt (rgL f (rgS f (fa_fill (fun _ => -1) gp 108, qn, 0) 108).1) co))), (2, .int (nI (rgS f (fa_fill (fun _ => -1) gp 108, qn, 0) 108).2.2)), (0, .ref m), (1, .ref b)]) (by first | (rw [fa_cnt_yes (p := rgC f (rgS f (fa_fill (fun _ => -1) gp 108, qn, 0) 108).1 co) hb] <;> rfl) | (rw [fa_cnt_no (p := rgC f (rgS f (fa_fill (fun _ => -1) gp 108, qn, 0) 108).1 co) hb] <;> rfl)) ?_
            refine r_cs (cs2 := [(m, .inr (12, [.int th, .ref mp, .int pt, .ref mf, .ref mh, .ref mn, .ref mt, .ref mz, .ref mc_, .ref mq, .ref mgr, .int cl, .int wa, .int co_, .int fi, .int bu, .int ho, .ref ml, .ref mi, .ref mr, .int lh, .int mg, .int wd, .int fpi, .int fal, .ref mm, .ref mu, .ref mk, .ref mx, .long po, .long de])), (b, .inl (1, 108, .inl f)), (mgr, .inl (0, 108, .inl ((rgS f (fa_fill (fun _ => -1) gp 108, qn, 0) 108).1))), (mq, .inl (0, 108, .inl (fun k => nI ((rgS f (fa_fill (fun _ => -1) gp 108, qn, 0) 108).2.1 k))))]) (rfl) ?_
            exact ih (i + 1) (by omega) (by omega)
          · have hb : rgC f (rgS f (fa_fill (fun _ => -1) gp 108, qn, 0) 108).1 co i = true := by unfold rgC bsP; rw [decide_eq_true c_41, decide_eq_true c_50]; rfl
            refine r_iconst d_Mm_looseIn_53 (v := 1) (by decide) ?_
            refine r_goto (tgt := 58) d_Mm_looseIn_54 (by decide) ?_
            refine r_iadd d_Mm_looseIn_58 (v := nI ((fa_cnt (rgC f (rgS f (fa_fill (fun _ => -1) gp 108, qn, 0) 108).1 co) i) + 1)) (nI_add _ _) ?_
            refine r_istore (lv' := [(5, .int (nI ((fa_cnt (rgC f (rgS f (fa_fill (fun _ => -1) gp 108, qn, 0) 108).1 co) i) + 1))), (6, .int (nI i)), (4, .int (nI co)), (3, .int (nI (fa_cnt (rgL f (rgS f (fa_fill (fun _ => -1) gp 108, qn, 0) 108).1) co))), (2, .int (nI (rgS f (fa_fill (fun _ => -1) gp 108, qn, 0) 108).2.2)), (0, .ref m), (1, .ref b)]) d_Mm_looseIn_59 (by decide) rfl ?_
            refine r_iinc (lv' := [(6, .int (nI (i + 1))), (5, .int (nI ((fa_cnt (rgC f (rgS f (fa_fill (fun _ => -1) gp 108, qn, 0) 108).1 co) i) + 1))), (4, .int (nI co)), (3, .int (nI (fa_cnt (rgL f (rgS f (fa_fill (fun _ => -1) gp 108, qn, 0) 108).1) co))), (2, .int (nI (rgS f (fa_fill (fun _ => -1) gp 108, qn, 0) 108).2.2)), (0, .ref m), (1, .ref b)]) (v := nI (i + 1)) d_Mm_looseIn_61 (j := 1) rfl (nI_add _ _) (by decide) rfl ?_
            refine r_goto (tgt := 23) d_Mm_looseIn_64 (by decide) ?_
            refine r_lvE (lv2 := [(6, .int (nI (i + 1))), (5, .int (nI (fa_cnt (rgC f (rgS f (fa_fill (fun _ => -1) gp 108, qn, 0) 108).1 co) (i + 1)))), (4, .int (nI co)), (3, .int (nI (fa_cnt (rgL f (rgS f (fa_fill (fun _ => -1) gp 108, qn, 0) 108).1) co))), (2, .int (nI (rgS f (fa_fill (fun _ => -1) gp 108, qn, 0) 108).2.2)), (0, .ref m), (1, .ref b)]) (by first | (rw [fa_cnt_yes (p := rgC f (rgS f (fa_fill (fun _ => -1) gp 108, qn, 0) 108).1 co) hb] <;> rfl) | (rw [fa_cnt_no (p := rgC f (rgS f (fa_fill (fun _ => -1) gp 108, qn, 0) 108).1 co) hb] <;> rfl)) ?_
            refine r_cs (cs2 := [(m, .inr (12, [.int th, .ref mp, .int pt, .ref mf, .ref mh, .ref mn, .ref mt, .ref mz, .ref mc_, .ref mq, .ref mgr, .int cl, .int wa, .int co_, .int fi, .int bu, .int ho, .ref ml, .ref mi, .ref mr, .int lh, .int mg, .int wd, .int fpi, .int fal, .ref mm, .ref mu, .ref mk, .ref mx, .long po, .long de])), (b, .inl (1, 108, .inl f)), (mgr, .inl (0, 108, .inl ((rgS f (fa_fill (fun _ => -1) gp 108, qn, 0) 108).1))), (mq, .inl (0, 108, .inl (fun k => nI ((rgS f (fa_fill (fun _ => -1) gp 108, qn, 0) 108).2.1 k))))]) (rfl) ?_
            exact ih (i + 1) (by omega) (by omega)
set_option maxHeartbeats 4000000 in
set_option maxRecDepth 100000 in
theorem L_Mm_looseIn9_11 (g : zG) (m mp mf mh mn mt mz mc_ mq mgr ml mi mr mm mu mk mx : Nat) (th pt cl wa co_ fi bu ho lh mg wd fpi fal : Int32) (po de : Int64) (b : Nat) (f : Nat → Int32) (gp : Nat → Int32) (qn : Nat → Nat) (w0 : zW) (n : Nat) : ∀ (d co : Nat), co ≤ (rgS f (fa_fill (fun _ => -1) gp 108, qn, 0) 108).2.2 → (rgS f (fa_fill (fun _ => -1) gp 108, qn, 0) 108).2.2 < co + d → DV g M_Mm_looseIn (fun o cs1 => o = .inl (some (.int (nI (fa_cnt (rgL f (rgS f (fa_fill (fun _ => -1) gp 108, qn, 0) 108).1) (rgS f (fa_fill (fun _ => -1) gp 108, qn, 0) 108).2.2)))) ∧ cs1 = [(m, .inr (12, [.int th, .ref mp, .int pt, .ref mf, .ref mh, .ref mn, .ref mt, .ref mz, .ref mc_, .ref mq, .ref mgr, .int cl, .int wa, .int co_, .int fi, .int bu, .int ho, .ref ml, .ref mi, .ref mr, .int lh, .int mg, .int wd, .int fpi, .int fal, .ref mm, .ref mu, .ref mk, .ref mx, .long po, .long de])), (b, .inl (1, 108, .inl f)), (mgr, .inl (0, 108, .inl ((rgS f (fa_fill (fun _ => -1) gp 108, qn, 0) 108).1))), (mq, .inl (0, 108, .inl (fun k => nI ((rgS f (fa_fill (fun _ => -1) gp 108, qn, 0) 108).2.1 k))))]) w0 n 11 [(4, .int (nI co)), (3, .int (nI (fa_cnt (rgL f (rgS f (fa_fill (fun _ => -1) gp 108, qn, 0) 108).1) co))), (2, .int (nI (rgS f (fa_fill (fun _ => -1) gp 108, qn, 0) 108).2.2)), (0, .ref m), (1, .ref b)] [] [(m, .inr (12, [.int th, .ref mp, .int pt, .ref mf, .ref mh, .ref mn, .ref mt, .ref mz, .ref mc_, .ref mq, .ref mgr, .int cl, .int wa, .int co_, .int fi, .int bu, .int ho, .ref ml, .ref mi, .ref mr, .int lh, .int mg, .int wd, .int fpi, .int fal, .ref mm, .ref mu, .ref mk, .ref mx, .long po, .long de])), (b, .inl (1, 108, .inl f)), (mgr, .inl (0, 108, .inl ((rgS f (fa_fill (fun _ => -1) gp 108, qn, 0) 108).1))), (mq, .inl (0, 108, .inl (fun k => nI ((rgS f (fa_fill (fun _ => -1) gp 108, qn, 0) 108).2.1 k))))] 0 0 := by
  intro d
  induction d with
  | zero => intro co h1 h2 ; exact absurd h2 (by omega)
  | succ d ih =>
    intro co h1 h2 
    refine r_iload d_Mm_looseIn_11 0 rfl ?_
    refine r_iload_n d_Mm_looseIn_13 rfl 2 rfl ?_
    refine r_icmp_ge (tgt := 87) d_Mm_looseIn_14 (by decide) (fun c_14 => ?_) (fun c_14 => ?_)
    · have hle := rgS_le (f := f) (S0 := (fa_fill (fun _ => -1) gp 108, qn, 0)) rfl 108
      have hn := z_le (by omega) (by omega) c_14
      obtain hco : co = (rgS f (fa_fill (fun _ => -1) gp 108, qn, 0) 108).2.2 := by omega
      rw [hco]
      refine r_iload_n d_Mm_looseIn_87 rfl 1 rfl ?_
      refine r_iret d_Mm_looseIn_88 rfl rfl ?_
      exact ⟨rfl, rfl⟩
    · have hle := rgS_le (f := f) (S0 := (fa_fill (fun _ => -1) gp 108, qn, 0)) rfl 108
      have hn := z_nle (by omega) (by omega) c_14
      refine r_iconst d_Mm_looseIn_17 (v := 0) (by decide) ?_
      refine r_istore (lv' := [(5, .int 0), (4, .int (nI co)), (3, .int (nI (fa_cnt (rgL f (rgS f (fa_fill (fun _ => -1) gp 108, qn, 0) 108).1) co))), (2, .int (nI (rgS f (fa_fill (fun _ => -1) gp 108, qn, 0) 108).2.2)), (0, .ref m), (1, .ref b)]) d_Mm_looseIn_18 (by decide) rfl ?_
      refine r_iconst d_Mm_looseIn_20 (v := 0) (by decide) ?_
      refine r_istore (lv' := [(6, .int 0), (5, .int 0), (4, .int (nI co)), (3, .int (nI (fa_cnt (rgL f (rgS f (fa_fill (fun _ => -1) gp 108, qn, 0) 108).1) co))), (2, .int (nI (rgS f (fa_fill (fun _ => -1) gp 108, qn, 0) 108).2.2)), (0, .ref m), (1, .ref b)]) d_Mm_looseIn_21 (by decide) rfl ?_
      refine r_lvE (lv2 := [(6, .int (nI 0)), (5, .int (nI (fa_cnt (rgC f (rgS f (fa_fill (fun _ => -1) gp 108, qn, 0) 108).1 co) 0))), (4, .int (nI co)), (3, .int (nI (fa_cnt (rgL f (rgS f (fa_fill (fun _ => -1) gp 108, qn, 0) 108).1) co))), (2, .int (nI (rgS f (fa_fill (fun _ => -1) gp 108, qn, 0) 108).2.2)), (0, .ref m), (1, .ref b)]) (rfl) ?_
      refine r_cs (cs2 := [(m, .inr (12, [.int th, .ref mp, .int pt, .ref mf, .ref mh, .ref mn, .ref mt, .ref mz, .ref mc_, .ref mq, .ref mgr, .int cl, .int wa, .int co_, .int fi, .int bu, .int ho, .ref ml, .ref mi, .ref mr, .int lh, .int mg, .int wd, .int fpi, .int fal, .ref mm, .ref mu, .ref mk, .ref mx, .long po, .long de])), (b, .inl (1, 108, .inl f)), (mgr, .inl (0, 108, .inl ((rgS f (fa_fill (fun _ => -1) gp 108, qn, 0) 108).1))), (mq, .inl (0, 108, .inl (fun k => nI ((rgS f (fa_fill (fun _ => -1) gp 108, qn, 0) 108).2.1 k))))]) (rfl) ?_
      refine L_Mm_looseIn9_23 g m mp mf mh mn mt mz mc_ mq mgr ml mi mr mm mu mk mx th pt cl wa co_ fi bu ho lh mg wd fpi fal po de b f gp qn w0 _ co (by omega) (?_) (108 + 1) 0 (Nat.zero_le _) (by omega)
      refine r_iload_n d_Mm_looseIn_67 rfl 2 rfl ?_
      refine r_iload d_Mm_looseIn_68 0 rfl ?_
      refine r_iconst d_Mm_looseIn_70 (v := 2) (by decide) ?_
      refine r_icmp_ge (tgt := 78) d_Mm_looseIn_71 (by decide) (fun c_71 => ?_) (fun c_71 => ?_)
      · have hl := fa_cnt_le (rgC f (rgS f (fa_fill (fun _ => -1) gp 108, qn, 0) 108).1 co) 108
        have hz := z_le (a := 2) (by omega) (by decide) c_71
        have hb : rgL f (rgS f (fa_fill (fun _ => -1) gp 108, qn, 0) 108).1 co = false := by unfold rgL; exact decide_eq_false (by omega)
        refine r_iconst d_Mm_looseIn_78 (v := 0) (by decide) ?_
        refine r_iadd d_Mm_looseIn_79 (v := nI ((fa_cnt (rgL f (rgS f (fa_fill (fun _ => -1) gp 108, qn, 0) 108).1) co) + 0)) (nI_add _ _) ?_
        refine r_istore_n (lv' := [(3, .int (nI ((fa_cnt (rgL f (rgS f (fa_fill (fun _ => -1) gp 108, qn, 0) 108).1) co) + 0))), (5, .int (nI (fa_cnt (rgC f (rgS f (fa_fill (fun _ => -1) gp 108, qn, 0) 108).1 co) 108))), (4, .int (nI co)), (2, .int (nI (rgS f (fa_fill (fun _ => -1) gp 108, qn, 0) 108).2.2)), (0, .ref m), (1, .ref b)]) d_Mm_looseIn_80 rfl (by decide) rfl ?_
        refine r_iinc (lv' := [(4, .int (nI (co + 1))), (3, .int (nI ((fa_cnt (rgL f (rgS f (fa_fill (fun _ => -1) gp 108, qn, 0) 108).1) co) + 0))), (5, .int (nI (fa_cnt (rgC f (rgS f (fa_fill (fun _ => -1) gp 108, qn, 0) 108).1 co) 108))), (2, .int (nI (rgS f (fa_fill (fun _ => -1) gp 108, qn, 0) 108).2.2)), (0, .ref m), (1, .ref b)]) (v := nI (co + 1)) d_Mm_looseIn_81 (j := 2) rfl (nI_add _ _) (by decide) rfl ?_
        refine r_goto (tgt := 11) d_Mm_looseIn_84 (by decide) ?_
        refine r_lv (lv' := [(4, .int (nI (co + 1))), (3, .int (nI ((fa_cnt (rgL f (rgS f (fa_fill (fun _ => -1) gp 108, qn, 0) 108).1) co) + 0))), (2, .int (nI (rgS f (fa_fill (fun _ => -1) gp 108, qn, 0) 108).2.2)), (0, .ref m), (1, .ref b)]) [0, 1, 3, 4, 5] rfl ?_
        refine r_lvE (lv2 := [(4, .int (nI (co + 1))), (3, .int (nI (fa_cnt (rgL f (rgS f (fa_fill (fun _ => -1) gp 108, qn, 0) 108).1) (co + 1)))), (2, .int (nI (rgS f (fa_fill (fun _ => -1) gp 108, qn, 0) 108).2.2)), (0, .ref m), (1, .ref b)]) (by first | (rw [fa_cnt_yes (p := rgL f (rgS f (fa_fill (fun _ => -1) gp 108, qn, 0) 108).1) hb] <;> rfl) | (rw [fa_cnt_no (p := rgL f (rgS f (fa_fill (fun _ => -1) gp 108, qn, 0) 108).1) hb] <;> rfl)) ?_
        refine r_cs (cs2 := [(m, .inr (12, [.int th, .ref mp, .int pt, .ref mf, .ref mh, .ref mn, .ref mt, .ref mz, .ref mc_, .ref mq, .ref mgr, .int cl, .int wa, .int co_, .int fi, .int bu, .int ho, .ref ml, .ref mi, .ref mr, .int lh, .int mg, .int wd, .int fpi, .int fal, .ref mm, .ref mu, .ref mk, .ref mx, .long po, .long de])), (b, .inl (1, 108, .inl f)), (mgr, .inl (0, 108, .inl ((rgS f (fa_fill (fun _ => -1) gp 108, qn, 0) 108).1))), (mq, .inl (0, 108, .inl (fun k => nI ((rgS f (fa_fill (fun _ => -1) gp 108, qn, 0) 108).2.1 k))))]) (rfl) ?_
        exact ih (co + 1) (by omega) (by omega)
      · have hl := fa_cnt_le (rgC f (rgS f (fa_fill (fun _ => -1) gp 108, qn, 0) 108).1 co) 108
        have hz := z_nle (a := 2) (by omega) (by decide) c_71
        have hb : rgL f (rgS f (fa_fill (fun _ => -1) gp 108, qn, 0) 108).1 co = true := by unfold rgL; exact decide_eq_true (by omega)
        refine r_iconst d_Mm_looseIn_74 (v := 1) (by decide) ?_
        refine r_goto (tgt := 79) d_Mm_looseIn_75 (by decide) ?_
        refine r_iadd d_Mm_looseIn_79 (v := nI ((fa_cnt (rgL f (rgS f (fa_fill (fun _ => -1) gp 108, qn, 0) 108).1) co) + 1)) (nI_add _ _) ?_
        refine r_istore_n (lv' := [(3, .int (nI ((fa_cnt (rgL f (rgS f (fa_fill (fun _ => -1) gp 108, qn, 0) 108).1) co) + 1))), (5, .int (nI (fa_cnt (rgC f (rgS f (fa_fill (fun _ => -1) gp 108, qn, 0) 108).1 co) 108))), (4, .int (nI co)), (2, .int (nI (rgS f (fa_fill (fun _ => -1) gp 108, qn, 0) 108).2.2)), (0, .ref m), (1, .ref b)]) d_Mm_looseIn_80 rfl (by decide) rfl ?_
        refine r_iinc (lv' := [(4, .int (nI (co + 1))), (3, .int (nI ((fa_cnt (rgL f (rgS f (fa_fill (fun _ => -1) gp 108, qn, 0) 108).1) co) + 1))), (5, .int (nI (fa_cnt (rgC f (rgS f (fa_fill (fun _ => -1) gp 108, qn, 0) 108).1 co) 108))), (2, .int (nI (rgS f (fa_fill (fun _ => -1) gp 108, qn, 0) 108).2.2)), (0, .ref m), (1, .ref b)]) (v := nI (co + 1)) d_Mm_looseIn_81 (j := 2) rfl (nI_add _ _) (by decide) rfl ?_
        refine r_goto (tgt := 11) d_Mm_looseIn_84 (by decide) ?_
        refine r_lv (lv' := [(4, .int (nI (co + 1))), (3, .int (nI ((fa_cnt (rgL f (rgS f (fa_fill (fun _ => -1) gp 108, qn, 0) 108).1) co) + 1))), (2, .int (nI (rgS f (fa_fill (fun _ => -1) gp 108, qn, 0) 108).2.2)), (0, .ref m), (1, .ref b)]) [0, 1, 3, 4, 5] rfl ?_
        refine r_lvE (lv2 := [(4, .int (nI (co + 1))), (3, .int (nI (fa_cnt (rgL f (rgS f (fa_fill (fun _ => -1) gp 108, qn, 0) 108).1) (co + 1)))), (2, .int (nI (rgS f (fa_fill (fun _ => -1) gp 108, qn, 0) 108).2.2)), (0, .ref m), (1, .ref b)]) (by first | (rw [fa_cnt_yes (p := rgL f (rgS f (fa_fill (fun _ => -1) gp 108, qn, 0) 108).1) hb] <;> rfl) | (rw [fa_cnt_no (p := rgL f (rgS f (fa_fill (fun _ => -1) gp 108, qn, 0) 108).1) hb] <;> rfl)) ?_
        refine r_cs (cs2 := [(m, .inr (12, [.int th, .ref mp, .int pt, .ref mf, .ref mh, .ref mn, .ref mt, .ref mz, .ref mc_, .ref mq, .ref mgr, .int cl, .int wa, .int co_, .int fi, .int bu, .int ho, .ref ml, .ref mi, .ref mr, .int lh, .int mg, .int wd, .int fpi, .int fal, .ref mm, .ref mu, .ref mk, .ref mx, .long po, .long de])), (b, .inl (1, 108, .inl f)), (mgr, .inl (0, 108, .inl ((rgS f (fa_fill (fun _ => -1) gp 108, qn, 0) 108).1))), (mq, .inl (0, 108, .inl (fun k => nI ((rgS f (fa_fill (fun _ => -1) gp 108, qn, 0) 108).2.1 k))))]) (rfl) ?_
        exact ih (co + 1) (by omega) (by omega)
set_option maxHeartbeats 4000000 in
set_option maxRecDepth 100000 in
theorem C_Mm_looseIn9 (g : zG) (m mp mf mh mn mt mz mc_ mq mgr ml mi mr mm mu mk mx : Nat) (th pt cl wa co_ fi bu ho lh mg wd fpi fal : Int32) (po de : Int64) (b : Nat) (f : Nat → Int32) (gp : Nat → Int32) (qn : Nat → Nat) : CT g M_Mm_looseIn [.ref m, .ref b] [(m, .inr (12, [.int th, .ref mp, .int pt, .ref mf, .ref mh, .ref mn, .ref mt, .ref mz, .ref mc_, .ref mq, .ref mgr, .int cl, .int wa, .int co_, .int fi, .int bu, .int ho, .ref ml, .ref mi, .ref mr, .int lh, .int mg, .int wd, .int fpi, .int fal, .ref mm, .ref mu, .ref mk, .ref mx, .long po, .long de])), (b, .inl (1, 108, .inl f)), (mgr, .inl (0, 108, .inl gp)), (mq, .inl (0, 108, .inl (fun k => nI (qn k))))] (fun o cs1 => o = .inl (some (.int (nI (fa_cnt (rgL f (rgS f (fa_fill (fun _ => -1) gp 108, qn, 0) 108).1) (rgS f (fa_fill (fun _ => -1) gp 108, qn, 0) 108).2.2)))) ∧ cs1 = [(m, .inr (12, [.int th, .ref mp, .int pt, .ref mf, .ref mh, .ref mn, .ref mt, .ref mz, .ref mc_, .ref mq, .ref mgr, .int cl, .int wa, .int co_, .int fi, .int bu, .int ho, .ref ml, .ref mi, .ref mr, .int lh, .int mg, .int wd, .int fpi, .int fal, .ref mm, .ref mu, .ref mk, .ref mx, .long po, .long de])), (b, .inl (1, 108, .inl f)), (mgr, .inl (0, 108, .inl ((rgS f (fa_fill (fun _ => -1) gp 108, qn, 0) 108).1))), (mq, .inl (0, 108, .inl (fun k => nI ((rgS f (fa_fill (fun _ => -1) gp 108, qn, 0) 108).2.1 k))))]) 0 0 := by
  refine z_of (by decide) rfl (Nat.le_of_ble_eq_true rfl) (fun w0 => ?_)
  refine r_lvE (lv2 := [(0, .ref m), (1, .ref b)]) rfl ?_
  refine r_aload_n d_Mm_looseIn_0 rfl 0 rfl ?_
  refine r_aload_n d_Mm_looseIn_1 rfl 1 rfl ?_
  refine r_callV (As := [.ref b]) (rest := []) (csC := [(m, .inr (12, [.int th, .ref mp, .int pt, .ref mf, .ref mh, .ref mn, .ref mt, .ref mz, .ref mc_, .ref mq, .ref mgr, .int cl, .int wa, .int co_, .int fi, .int bu, .int ho, .ref ml, .ref mi, .ref mr, .int lh, .int mg, .int wd, .int fpi, .int fal, .ref mm, .ref mu, .ref mk, .ref mx, .long po, .long de])), (b, .inl (1, 108, .inl f)), (mgr, .inl (0, 108, .inl gp)), (mq, .inl (0, 108, .inl (fun k => nI (qn k))))]) (is := [0, 1, 2, 3]) (q0 := 0) rfl rfl ln_Mm_123 w_im_Mm_groupIn w_se_Mm_groupIn ok_Mm_looseIn_Mm_groupIn d_Mm_looseIn_2 (C_Mm_groupIn9 g m mp mf mh mn mt mz mc_ mq mgr ml mi mr mm mu mk mx th pt cl wa co_ fi bu ho lh mg wd fpi fal po de b f gp qn) rfl rfl (Nat.le_of_ble_eq_true rfl) rfl (by decide) (by omega) (by omega) (fun E cs1 hx => ?_) (fun v cs1 hx => ?_)
  · exact absurd hx.1 (by simp)
  · obtain ⟨e1, rfl⟩ := hx
    cases e1
    refine ⟨rfl, ?_⟩
    refine r_st (st2 := [.int (nI (rgS f (fa_fill (fun _ => -1) gp 108, qn, 0) 108).2.2)]) rfl ?_
    refine r_cs (cs2 := [(m, .inr (12, [.int th, .ref mp, .int pt, .ref mf, .ref mh, .ref mn, .ref mt, .ref mz, .ref mc_, .ref mq, .ref mgr, .int cl, .int wa, .int co_, .int fi, .int bu, .int ho, .ref ml, .ref mi, .ref mr, .int lh, .int mg, .int wd, .int fpi, .int fal, .ref mm, .ref mu, .ref mk, .ref mx, .long po, .long de])), (b, .inl (1, 108, .inl f)), (mgr, .inl (0, 108, .inl ((rgS f (fa_fill (fun _ => -1) gp 108, qn, 0) 108).1))), (mq, .inl (0, 108, .inl (fun k => nI ((rgS f (fa_fill (fun _ => -1) gp 108, qn, 0) 108).2.1 k))))]) rfl ?_
    refine r_istore_n (lv' := [(2, .int (nI (rgS f (fa_fill (fun _ => -1) gp 108, qn, 0) 108).2.2)), (0, .ref m), (1, .ref b)]) d_Mm_looseIn_5 rfl (by decide) rfl ?_
    refine r_iconst d_Mm_looseIn_6 (v := 0) (by decide) ?_
    refine r_istore_n (lv' := [(3, .int 0), (2, .int (nI (rgS f (fa_fill (fun _ => -1) gp 108, qn, 0) 108).2.2)), (0, .ref m), (1, .ref b)]) d_Mm_looseIn_7 rfl (by decide) rfl ?_
    refine r_iconst d_Mm_looseIn_8 (v := 0) (by decide) ?_
    refine r_istore (lv' := [(4, .int 0), (3, .int 0), (2, .int (nI (rgS f (fa_fill (fun _ => -1) gp 108, qn, 0) 108).2.2)), (0, .ref m), (1, .ref b)]) d_Mm_looseIn_9 (by decide) rfl ?_
    refine r_lvE (lv2 := [(4, .int (nI 0)), (3, .int (nI (fa_cnt (rgL f (rgS f (fa_fill (fun _ => -1) gp 108, qn, 0) 108).1) 0))), (2, .int (nI (rgS f (fa_fill (fun _ => -1) gp 108, qn, 0) 108).2.2)), (0, .ref m), (1, .ref b)]) (rfl) ?_
    refine r_cs (cs2 := [(m, .inr (12, [.int th, .ref mp, .int pt, .ref mf, .ref mh, .ref mn, .ref mt, .ref mz, .ref mc_, .ref mq, .ref mgr, .int cl, .int wa, .int co_, .int fi, .int bu, .int ho, .ref ml, .ref mi, .ref mr, .int lh, .int mg, .int wd, .int fpi, .int fal, .ref mm, .ref mu, .ref mk, .ref mx, .long po, .long de])), (b, .inl (1, 108, .inl f)), (mgr, .inl (0, 108, .inl ((rgS f (fa_fill (fun _ => -1) gp 108, qn, 0) 108).1))), (mq, .inl (0, 108, .inl (fun k => nI ((rgS f (fa_fill (fun _ => -1) gp 108, qn, 0) 108).2.1 k))))]) (rfl) ?_
    exact L_Mm_looseIn9_11 g m mp mf mh mn mt mz mc_ mq mgr ml mi mr mm mu mk mx th pt cl wa co_ fi bu ho lh mg wd fpi fal po de b f gp qn w0 _  ((rgS f (fa_fill (fun _ => -1) gp 108, qn, 0) 108).2.2 + 1) 0 (Nat.zero_le _) (by omega)
