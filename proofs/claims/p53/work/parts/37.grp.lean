def bsdS (f : Nat → Int32) (c : Nat) : Nat → Int32
  | 0 => 0
  | s + 1 => (bs c s).elim 1 (fun o => if f o = 46 then 1 else bsdS f c s)
theorem bsdS_n {f : Nat → Int32} {c s : Nat} (h : bs c s = none) : bsdS f c (s + 1) = 1 := by rw [bsdS, h]; rfl
theorem bsdS_o {f : Nat → Int32} {c s o : Nat} (h : bs c s = some o) : bsdS f c (s + 1) = if f o = 46 then 1 else bsdS f c s := by rw [bsdS, h]; rfl
theorem bsdS_01 (f : Nat → Int32) (c : Nat) : ∀ s, bsdS f c s = 0 ∨ bsdS f c s = 1
  | 0 => Or.inl rfl
  | s + 1 => by
    have ih := bsdS_01 f c s
    cases e : bs c s with
    | none => exact Or.inr (bsdS_n e)
    | some o =>
      rw [bsdS_o e]
      split
      · exact Or.inr rfl
      · exact ih
theorem bsdS_1 {f : Nat → Int32} {c s : Nat} (h : ¬ bsdS f c s = 0) : bsdS f c (s + 1) = 1 := by
  have h1 := (bsdS_01 f c s).resolve_left h
  cases e : bs c s with
  | none => exact bsdS_n e
  | some o =>
    rw [bsdS_o e]
    split
    · rfl
    · exact h1
theorem bwH_2 (f : Nat → Int32) (here : Nat) (Q : zQ) : ∀ s, (bwH f here Q s).2 = bsdS f here s
  | 0 => rfl
  | s + 1 => by
    have ih := bwH_2 f here Q s
    show (bwI f here s (bwH f here Q s)).2 = _
    cases e : bs here s with
    | none => rw [bwI_n e, bsdS_n e]
    | some o =>
      rw [bwI_s e, bsdS_o e]
      by_cases q : f o = 46
      · rw [bwJ_0 q, if_pos q]
      · rw [if_neg q]
        by_cases q2 : f o = 111 ∧ (bwH f here Q s).1.2.1 o = 0 ∧ (bwH f here Q s).1.1 < 108
        · rw [bwJ_1 q q2]; exact ih
        · rw [bwJ_2 q q2]; exact ih
theorem bwI_nn {f : Nat → Int32} {here s : Nat} {P : zP} (h : bs here s = none) : (bwI f here s P).1 = P.1 := by rw [bwI_n h]
theorem bwI_no {f : Nat → Int32} {here s o : Nat} {P : zP} (h : bs here s = some o) (h1 : ¬ f o = 111) : (bwI f here s P).1 = P.1 := by
  rw [bwI_s h]
  by_cases q : f o = 46
  · rw [bwJ_0 q]
  · rw [bwJ_2 q (fun q2 => h1 q2.1)]
theorem bwI_ns {f : Nat → Int32} {here s o : Nat} {P : zP} (h : bs here s = some o) (h1 : ¬ P.1.2.1 o = 0) : (bwI f here s P).1 = P.1 := by
  rw [bwI_s h]
  by_cases q : f o = 46
  · rw [bwJ_0 q]
  · rw [bwJ_2 q (fun q2 => h1 q2.2.1)]
theorem bwI_y {f : Nat → Int32} {here s o : Nat} {P : zP} (h : bs here s = some o) (h1 : f o = 111) (h2 : P.1.2.1 o = 0) (h3 : P.1.1 < 108) : (bwI f here s P).1 = (P.1.1 + 1, upd P.1.2.1 o 1, updN P.1.2.2 P.1.1 o) := by
  rw [bwI_s h, bwJ_1 (by rw [h1]; decide) ⟨h1, h2, h3⟩]
def bsP (f : Nat → Int32) (c : Nat) : Bool := decide (¬ bsdS f c 4 = 0)
def nwP (f sn se : Nat → Int32) (k : Nat) : Bool := decide (¬ se k = 0) && (decide (sn k = 0) && bsP f k)
theorem cnt_at {p p' : Nat → Bool} {o : Nat} (h : ∀ k, ¬ k = o → p' k = p k) (h0 : p o = false) : ∀ n, (n ≤ o → fa_cnt p' n = fa_cnt p n) ∧ (o < n → fa_cnt p' n = fa_cnt p n + (p' o).toNat)
  | 0 => ⟨fun _ => rfl, fun q => absurd q (Nat.not_lt_zero _)⟩
  | n + 1 => by
    have ih := cnt_at h h0 n
    refine ⟨fun q => ?_, fun q => ?_⟩
    · rw [fa_cnt, fa_cnt, ih.1 (by omega), h n (by omega)]
    · by_cases hn : n = o
      · subst hn
        rw [fa_cnt_no (p := p) h0]
        cases e : p' n with
        | true => rw [fa_cnt_yes (p := p') e, ih.1 (Nat.le_refl _)]; rfl
        | false => rw [fa_cnt_no (p := p') e, ih.1 (Nat.le_refl _)]; rfl
      · rw [fa_cnt, fa_cnt, ih.2 (by omega), h n hn, Nat.add_right_comm]
theorem upd_eq {f : Nat → Int32} {o : Nat} {v : Int32} : upd f o v o = v := if_pos rfl
theorem upd_ne {f : Nat → Int32} {o k : Nat} {v : Int32} (h : ¬ k = o) : upd f o v k = f k := if_neg h
theorem updN_eq {q : Nat → Nat} {t v : Nat} : updN q t v t = v := by unfold updN; rw [if_pos rfl]
theorem updN_ne {q : Nat → Nat} {t v k : Nat} (h : ¬ k = t) : updN q t v k = q k := by unfold updN; rw [if_neg h]
def bI (f sn : Nat → Int32) (P : zQ) : Prop := (∀ k, ¬ sn k = 0 → ¬ P.2.1 k = 0) ∧ P.1 ≤ ctM P.2.1 ∧ fa_cnt (nwP f sn P.2.1) 108 = fa_cnt (fun j => bsP f (P.2.2 j)) P.1
theorem bI_up {f sn : Nat → Int32} {P : zQ} {o : Nat} (h : bI f sn P) (ho : o < 108) (h0 : P.2.1 o = 0) : bI f sn (P.1 + 1, upd P.2.1 o 1, updN P.2.2 P.1 o) := by
  have hs : sn o = 0 := Classical.byContradiction (fun q => h.1 o q h0)
  refine ⟨fun k hk => ?_, ?_, ?_⟩
  · show ¬ upd P.2.1 o 1 k = 0
    by_cases q : k = o
    · subst q; rw [upd_eq]; decide
    · rw [upd_ne q]; exact h.1 k hk
  · show P.1 + 1 ≤ ctM (upd P.2.1 o 1)
    rw [ct_up ho h0]
    have := h.2.1
    omega
  · show fa_cnt (nwP f sn (upd P.2.1 o 1)) 108 = fa_cnt (fun j => bsP f (updN P.2.2 P.1 o j)) (P.1 + 1)
    have e0 : nwP f sn P.2.1 o = false := by
      show (decide (¬ P.2.1 o = 0) && _) = false
      rw [decide_eq_false (show ¬ ¬ P.2.1 o = 0 from fun q => q h0)]; rfl
    have e2 := (cnt_at (p := nwP f sn P.2.1) (p' := nwP f sn (upd P.2.1 o 1)) (o := o) (fun k hk => by unfold nwP; rw [upd_ne hk]) e0 108).2 ho
    have e3 : nwP f sn (upd P.2.1 o 1) o = bsP f o := by
      show (decide (¬ upd P.2.1 o 1 o = 0) && (decide (sn o = 0) && bsP f o)) = bsP f o
      rw [decide_eq_true (show ¬ upd P.2.1 o 1 o = 0 by rw [upd_eq]; decide), decide_eq_true hs]; rfl
    have e4 : fa_cnt (fun j => bsP f (updN P.2.2 P.1 o j)) P.1 = fa_cnt (fun j => bsP f (P.2.2 j)) P.1 := fa_cnt_cong (fun k hk => congrArg (bsP f) (updN_ne (by omega)))
    have e5 : bsP f (updN P.2.2 P.1 o P.1) = bsP f o := congrArg (bsP f) updN_eq
    rw [e2, e3, h.2.2]
    cases e : bsP f o with
    | true => rw [fa_cnt_yes (p := fun j => bsP f (updN P.2.2 P.1 o j)) (e5.trans e), e4]; rfl
    | false => rw [fa_cnt_no (p := fun j => bsP f (updN P.2.2 P.1 o j)) (e5.trans e), e4]; rfl
theorem bI_0 {f sn : Nat → Int32} {qn : Nat → Nat} : bI f sn (0, sn, qn) := by
  refine ⟨fun k h => h, Nat.zero_le _, ?_⟩
  show fa_cnt (nwP f sn sn) 108 = 0
  have key : ∀ n, fa_cnt (nwP f sn sn) n = 0 := fun n => by
    induction n with
    | zero => rfl
    | succ n ih =>
      rw [fa_cnt_no, ih]
      unfold nwP
      by_cases q : sn n = 0
      · rw [decide_eq_false (show ¬ ¬ sn n = 0 from fun e => e q)]; rfl
      · rw [decide_eq_false q, Bool.false_and, Bool.and_false]
  exact key 108
theorem bI_1 {f sn : Nat → Int32} {qn : Nat → Nat} {st : Nat} (hst : st < 108) (h0 : sn st = 0) : bI f sn (1, upd sn st 1, updN qn 0 st) := bI_up (P := (0, sn, qn)) bI_0 hst h0
theorem bI_lt {f sn : Nat → Int32} {P : zQ} {o : Nat} (h : bI f sn P) (ho : o < 108) (h0 : P.2.1 o = 0) : P.1 < 108 := by
  have h1 := ct_up ho h0
  have h2 := ctm_le (upd P.2.1 o 1)
  have h3 := h.2.1
  omega
theorem bI_I {f sn : Nat → Int32} {here s : Nat} {P : zP} (hh : here < 108) (h : bI f sn P.1) : bI f sn (bwI f here s P).1 := by
  cases e : bs here s with
  | none => rw [bwI_nn e]; exact h
  | some o =>
    by_cases q1 : f o = 111
    · by_cases q2 : P.1.2.1 o = 0
      · rw [bwI_y e q1 q2 (bI_lt h (bs_lt hh e) q2)]
        exact bI_up h (bs_lt hh e) q2
      · rw [bwI_ns e q2]; exact h
    · rw [bwI_no e q1]; exact h
theorem bI_H {f sn : Nat → Int32} {here : Nat} {Q : zQ} (hh : here < 108) (h : bI f sn Q) : ∀ s, bI f sn (bwH f here Q s).1
  | 0 => h
  | s + 1 => bI_I hh (bI_H hh h s)
theorem bI_B {f sn : Nat → Int32} {Q0 : zQ} (hk : Qok Q0) (h0 : bI f sn Q0) : ∀ h, bI f sn (bwB f Q0 h).1
  | 0 => h0
  | h + 1 => by
    have ih := bI_B hk h0 h
    by_cases q : h < (bwB f Q0 h).1.1
    · rw [bwB_t q]
      exact bI_H ((bwB_ok hk h).2 h q) ih 4
    · rw [bwB_f q]; exact ih
theorem bwB_c {f : Nat → Int32} {Q0 : zQ} (hk : Qok Q0) : ∀ h, (bwB f Q0 h).2 = fa_cnt (fun j => bsP f ((bwB f Q0 h).1.2.2 j)) (min h (bwB f Q0 h).1.1)
  | 0 => by rw [Nat.zero_min]; rfl
  | h + 1 => by
    have ih := bwB_c (f := f) hk h
    have hok := bwB_ok (f := f) hk h
    by_cases q : h < (bwB f Q0 h).1.1
    · have hh := hok.2 h q
      have w := fun j (hj : j < (bwB f Q0 h).1.1) => bwH_ok (f := f) hh hok hj 4
      rw [bwB_t q]
      show bwL (bwH f ((bwB f Q0 h).1.2.2 h) (bwB f Q0 h).1 4) (bwB f Q0 h).2 = fa_cnt (fun j => bsP f ((bwH f ((bwB f Q0 h).1.2.2 h) (bwB f Q0 h).1 4).1.2.2 j)) (min (h + 1) (bwH f ((bwB f Q0 h).1.2.2 h) (bwB f Q0 h).1 4).1.1)
      rw [Nat.min_eq_left (show h + 1 ≤ (bwH f ((bwB f Q0 h).1.2.2 h) (bwB f Q0 h).1 4).1.1 from (w h q).2.2)]
      rw [Nat.min_eq_left (Nat.le_of_lt q)] at ih
      have e4 : fa_cnt (fun j => bsP f ((bwH f ((bwB f Q0 h).1.2.2 h) (bwB f Q0 h).1 4).1.2.2 j)) h = fa_cnt (fun j => bsP f ((bwB f Q0 h).1.2.2 j)) h := fa_cnt_cong (fun k hk9 => congrArg (bsP f) (w k (by omega)).2.1)
      have e5 := congrArg (bsP f) (w h q).2.1
      have e6 := bwH_2 f ((bwB f Q0 h).1.2.2 h) (bwB f Q0 h).1 4
      unfold bwL
      rw [e6, ih]
      by_cases z : bsdS f ((bwB f Q0 h).1.2.2 h) 4 = 0
      · rw [if_pos z, fa_cnt_no (p := fun j => bsP f ((bwH f ((bwB f Q0 h).1.2.2 h) (bwB f Q0 h).1 4).1.2.2 j)) (e5.trans (by unfold bsP; exact decide_eq_false (fun y => y z))), e4]
      · rw [if_neg z, fa_cnt_yes (p := fun j => bsP f ((bwH f ((bwB f Q0 h).1.2.2 h) (bwB f Q0 h).1 4).1.2.2 j)) (e5.trans (by unfold bsP; exact decide_eq_true z)), e4]
    · rw [bwB_f q, ih, Nat.min_eq_right (by omega), Nat.min_eq_right (by omega)]
theorem Qok_1 {sn : Nat → Int32} {qn : Nat → Nat} {st : Nat} (hst : st < 108) : Qok (1, upd sn st 1, updN qn 0 st) := ⟨by show 1 ≤ 108; omega, fun k hk => by
  have e : k = 0 := Nat.lt_one_iff.mp hk
  show updN qn 0 st k < 108
  unfold updN; rw [if_pos e]; exact hst⟩
theorem bg_c {f sn : Nat → Int32} {qn : Nat → Nat} {st : Nat} (hst : st < 108) (h0 : sn st = 0) : (bgB f sn qn st).2 = fa_cnt (nwP f sn (bgB f sn qn st).1.2.1) 108 := by
  unfold bgB
  have h1 := bwB_c (f := f) (Qok_1 (sn := sn) (qn := qn) hst) 108
  have h2 := bI_B (Qok_1 (sn := sn) (qn := qn) hst) (bI_1 (f := f) (qn := qn) hst h0) 108
  have h3 := (bwB_ok (f := f) (Qok_1 (sn := sn) (qn := qn) hst) 108).1
  rw [Nat.min_eq_right h3] at h1
  rw [h1, h2.2.2]
def gqE (P R : zQ) : Prop := P.1 = R.1 ∧ (∀ k, k < 108 → (P.2.1 k = 0 ↔ R.2.1 k = 0)) ∧ ∀ j, j < P.1 → P.2.2 j = R.2.2 j
theorem gqE_up {P R : zQ} {o : Nat} (h : gqE P R) : gqE (P.1 + 1, upd P.2.1 o 1, updN P.2.2 P.1 o) (R.1 + 1, upd R.2.1 o 1, updN R.2.2 R.1 o) := by
  refine ⟨congrArg (· + 1) h.1, fun k hk => ?_, fun j hj => ?_⟩
  · show upd P.2.1 o 1 k = 0 ↔ upd R.2.1 o 1 k = 0
    by_cases q : k = o
    · subst q; rw [upd_eq, upd_eq]
    · rw [upd_ne q, upd_ne q]; exact h.2.1 k hk
  · show updN P.2.2 P.1 o j = updN R.2.2 R.1 o j
    rw [← h.1]
    by_cases q : j = P.1
    · subst q; rw [updN_eq, updN_eq]
    · rw [updN_ne q, updN_ne q]; exact h.2.2 j (by have : j < P.1 + 1 := hj; omega)
theorem gqE_I {f : Nat → Int32} {here s : Nat} {P R : zP} (hh : here < 108) (h : gqE P.1 R.1) : gqE (bwI f here s P).1 (bwI f here s R).1 := by
  cases e : bs here s with
  | none => rw [bwI_nn e, bwI_nn e]; exact h
  | some o =>
    by_cases q1 : f o = 111
    · by_cases q2 : P.1.2.1 o = 0
      · have q2' := (h.2.1 o (bs_lt hh e)).mp q2
        by_cases q3 : P.1.1 < 108
        · rw [bwI_y e q1 q2 q3, bwI_y e q1 q2' (by rw [← h.1]; exact q3)]
          exact gqE_up h
        · rw [bwI_s e, bwI_s e, bwJ_2 (by rw [q1]; decide) (fun z => q3 z.2.2), bwJ_2 (by rw [q1]; decide) (fun z => q3 (by rw [h.1]; exact z.2.2))]
          exact h
      · rw [bwI_ns e q2, bwI_ns e (fun z => q2 ((h.2.1 o (bs_lt hh e)).mpr z))]; exact h
    · rw [bwI_no e q1, bwI_no e q1]; exact h
theorem gqE_H {f : Nat → Int32} {here : Nat} {P R : zQ} (hh : here < 108) (h : gqE P R) : ∀ s, gqE (bwH f here P s).1 (bwH f here R s).1
  | 0 => h
  | s + 1 => gqE_I hh (gqE_H hh h s)
theorem gqE_B {f : Nat → Int32} {P R : zQ} (hk : Qok P) (h0 : gqE P R) : ∀ h, gqE (bwB f P h).1 (bwB f R h).1 ∧ (bwB f P h).2 = (bwB f R h).2
  | 0 => ⟨h0, rfl⟩
  | h + 1 => by
    have ih := gqE_B (f := f) hk h0 h
    by_cases q : h < (bwB f P h).1.1
    · have q' : h < (bwB f R h).1.1 := by rw [← ih.1.1]; exact q
      have e := ih.1.2.2 h q
      have hh := (bwB_ok (f := f) hk h).2 h q
      rw [bwB_t q, bwB_t q', ← e]
      refine ⟨gqE_H hh ih.1 4, ?_⟩
      show bwL _ _ = bwL _ _
      unfold bwL
      rw [bwH_2, bwH_2, ih.2]
    · rw [bwB_f q, bwB_f (fun z => q (by rw [ih.1.1]; exact z))]; exact ih
theorem gqE_g {f sn sm : Nat → Int32} {qn qm : Nat → Nat} {st : Nat} (hst : st < 108) (h : ∀ k, k < 108 → (sn k = 0 ↔ sm k = 0)) : gqE (bgB f sn qn st).1 (bgB f sm qm st).1 ∧ (bgB f sn qn st).2 = (bgB f sm qm st).2 := by
  have h0 : gqE ((1, upd sn st 1, updN qn 0 st) : zQ) (1, upd sm st 1, updN qm 0 st) := by
    refine ⟨rfl, fun k hk => ?_, fun j hj => ?_⟩
    · show upd sn st 1 k = 0 ↔ upd sm st 1 k = 0
      by_cases q : k = st
      · subst q; rw [upd_eq, upd_eq]
      · rw [upd_ne q, upd_ne q]; exact h k hk
    · have e : j = 0 := Nat.lt_one_iff.mp hj
      subst e
      show updN qn 0 st 0 = updN qm 0 st 0
      rw [updN_eq, updN_eq]
  have key := gqE_B (f := f) (Qok_1 hst) h0
  unfold bgB
  exact key 108
def sgn (gp : Nat → Int32) : Nat → Int32 := fun k => if gp k = -1 then 0 else 1
theorem sgn_0 {gp : Nat → Int32} {k : Nat} : sgn gp k = 0 ↔ gp k = -1 := by
  unfold sgn
  split
  · exact ⟨fun _ => by assumption, fun _ => rfl⟩
  · exact ⟨fun e => absurd e (by decide), fun e => absurd e (by assumption)⟩
def gpX (gp : Nat → Int32) (nv : Int32) (P : zQ) : Nat → Int32 := fun k => if gp k = -1 ∧ ¬ P.2.1 k = 0 then nv else gp k
theorem gpX_1 {gp : Nat → Int32} {nv : Int32} {st : Nat} {qn : Nat → Nat} (h : gp st = -1) : upd gp st nv = gpX gp nv (1, upd (sgn gp) st 1, updN qn 0 st) := funext fun k => by
  show _ = if gp k = -1 ∧ ¬ upd (sgn gp) st 1 k = 0 then nv else gp k
  by_cases q : k = st
  · subst q; rw [upd_eq, if_pos ⟨h, by rw [upd_eq]; decide⟩]
  · rw [upd_ne q, upd_ne q, if_neg (fun z => z.2 (sgn_0.mpr z.1))]
theorem gpX_up {f gp : Nat → Int32} {nv : Int32} {P : zQ} {o : Nat} (hb : bI f (sgn gp) P) (h0 : P.2.1 o = 0) : upd (gpX gp nv P) o nv = gpX gp nv (P.1 + 1, upd P.2.1 o 1, updN P.2.2 P.1 o) := funext fun k => by
  have hg : gp o = -1 := Classical.byContradiction (fun q => hb.1 o (fun z => q (sgn_0.mp z)) h0)
  show _ = if gp k = -1 ∧ ¬ upd P.2.1 o 1 k = 0 then nv else gp k
  by_cases q : k = o
  · subst q; rw [upd_eq, if_pos ⟨hg, by rw [upd_eq]; decide⟩]
  · rw [upd_ne q, upd_ne q]; rfl
theorem gpX_m {f gp : Nat → Int32} {nv : Int32} {P : zQ} {o : Nat} (hb : bI f (sgn gp) P) (hn : ¬ nv = -1) : gpX gp nv P o = -1 ↔ P.2.1 o = 0 := by
  unfold gpX
  by_cases h0 : P.2.1 o = 0
  · have hg : gp o = -1 := Classical.byContradiction (fun q => hb.1 o (fun z => q (sgn_0.mp z)) h0)
    rw [if_neg (fun z => z.2 h0)]
    exact ⟨fun _ => h0, fun _ => hg⟩
  · by_cases hg : gp o = -1
    · rw [if_pos ⟨hg, h0⟩]; exact ⟨fun e => absurd e hn, fun e => absurd e h0⟩
    · rw [if_neg (fun z => hg z.1)]; exact ⟨fun e => absurd e hg, fun e => absurd e h0⟩
theorem mn_I {f : Nat → Int32} {here s k : Nat} {P : zP} (h : ¬ P.1.2.1 k = 0) : ¬ (bwI f here s P).1.2.1 k = 0 := by
  cases e : bs here s with
  | none => rw [bwI_nn e]; exact h
  | some o =>
    rw [bwI_s e]
    by_cases q : f o = 46
    · rw [bwJ_0 q]; exact h
    · by_cases q2 : f o = 111 ∧ P.1.2.1 o = 0 ∧ P.1.1 < 108
      · rw [bwJ_1 q q2]
        show ¬ upd P.1.2.1 o 1 k = 0
        by_cases z : k = o
        · subst z; rw [upd_eq]; decide
        · rw [upd_ne z]; exact h
      · rw [bwJ_2 q q2]; exact h
theorem mn_H {f : Nat → Int32} {here k : Nat} {Q : zQ} (h : ¬ Q.2.1 k = 0) : ∀ s, ¬ (bwH f here Q s).1.2.1 k = 0
  | 0 => h
  | s + 1 => mn_I (mn_H h s)
theorem mn_B {f : Nat → Int32} {k : Nat} {Q : zQ} (h : ¬ Q.2.1 k = 0) : ∀ n, ¬ (bwB f Q n).1.2.1 k = 0
  | 0 => h
  | n + 1 => by
    have ih := mn_B (f := f) h n
    by_cases q : n < (bwB f Q n).1.1
    · rw [bwB_t q]; exact mn_H ih 4
    · rw [bwB_f q]; exact ih
abbrev zRG : Type := (Nat → Int32) × (Nat → Nat) × Nat
def rgS (f : Nat → Int32) (S0 : zRG) : Nat → zRG
  | 0 => S0
  | i + 1 => if f i = 111 ∧ (rgS f S0 i).1 i = -1 then (gpX (rgS f S0 i).1 (nI (rgS f S0 i).2.2) (bgB f (sgn (rgS f S0 i).1) (rgS f S0 i).2.1 i).1, (bgB f (sgn (rgS f S0 i).1) (rgS f S0 i).2.1 i).1.2.2, (rgS f S0 i).2.2 + 1) else rgS f S0 i
theorem rgS_t {f : Nat → Int32} {S0 : zRG} {i : Nat} (h : f i = 111 ∧ (rgS f S0 i).1 i = -1) : rgS f S0 (i + 1) = (gpX (rgS f S0 i).1 (nI (rgS f S0 i).2.2) (bgB f (sgn (rgS f S0 i).1) (rgS f S0 i).2.1 i).1, (bgB f (sgn (rgS f S0 i).1) (rgS f S0 i).2.1 i).1.2.2, (rgS f S0 i).2.2 + 1) := if_pos h
theorem rgS_f {f : Nat → Int32} {S0 : zRG} {i : Nat} (h : ¬ (f i = 111 ∧ (rgS f S0 i).1 i = -1)) : rgS f S0 (i + 1) = rgS f S0 i := if_neg h
theorem rgS_le {f : Nat → Int32} {S0 : zRG} (h0 : S0.2.2 = 0) : ∀ i, (rgS f S0 i).2.2 ≤ i
  | 0 => by show S0.2.2 ≤ 0; omega
  | i + 1 => by
    have ih := rgS_le (f := f) h0 i
    by_cases q : f i = 111 ∧ (rgS f S0 i).1 i = -1
    · rw [rgS_t q]; show (rgS f S0 i).2.2 + 1 ≤ i + 1; omega
    · rw [rgS_f q]; omega
def rgC (f gp : Nat → Int32) (c k : Nat) : Bool := decide (gp k = nI c) && bsP f k
def rgL (f gp : Nat → Int32) (c : Nat) : Bool := decide (fa_cnt (rgC f gp c) 108 < 2)
theorem gpX_c {gp : Nat → Int32} {P : zQ} {n c k : Nat} (hc : c < n) (hn : n < 2 ^ 31) : gpX gp (nI n) P k = nI c ↔ gp k = nI c := by
  unfold gpX
  split
  · rename_i h
    refine ⟨fun e => absurd (z_eqn hn (by omega) e) (by omega), fun e => ?_⟩
    rw [h.1] at e
    exact absurd e.symm (nI_nm1 (by omega))
  · exact Iff.rfl
theorem rg_rel {f sn : Nat → Int32} {qn : Nat → Nat} {S0 : zRG} (h0 : S0.2.2 = 0) (hg : ∀ k, k < 108 → S0.1 k = -1) (hs : ∀ k, k < 108 → sn k = 0) : ∀ i, i ≤ 108 → (∀ m, ∀ k, k < 108 → ((grS f m (sn, qn, 0) i).1 k = 0 ↔ (rgS f S0 i).1 k = -1)) ∧ (∀ k, k < 108 → (rgS f S0 i).1 k = -1 ∨ ∃ c, c < (rgS f S0 i).2.2 ∧ (rgS f S0 i).1 k = nI c) ∧ (grS f 109 (sn, qn, 0) i).2.2 = (rgS f S0 i).2.2 ∧ (grS f 2 (sn, qn, 0) i).2.2 = fa_cnt (rgL f (rgS f S0 i).1) (rgS f S0 i).2.2
  | 0, _ => by
    refine ⟨fun m k hk => ⟨fun _ => hg k hk, fun _ => hs k hk⟩, fun k hk => Or.inl (hg k hk), h0.symm, ?_⟩
    show 0 = fa_cnt (rgL f S0.1) S0.2.2
    rw [h0]; rfl
  | i + 1, hi => by
    have ih := rg_rel (f := f) (qn := qn) h0 hg hs i (by omega)
    have hle := rgS_le (f := f) h0 i
    by_cases q : f i = 111 ∧ (rgS f S0 i).1 i = -1
    · have qc : ∀ m, f i = 111 ∧ (grS f m (sn, qn, 0) i).1 i = 0 := fun m => ⟨q.1, (ih.1 m i (by omega)).mpr q.2⟩
      have hz := fun m => gqE_g (f := f) (sn := (grS f m (sn, qn, 0) i).1) (sm := sgn (rgS f S0 i).1) (qn := (grS f m (sn, qn, 0) i).2.1) (qm := (rgS f S0 i).2.1) (st := i) (by omega) (fun k hk => (ih.1 m k hk).trans sgn_0.symm)
      have hb : bI f (sgn (rgS f S0 i).1) (bgB f (sgn (rgS f S0 i).1) (rgS f S0 i).2.1 i).1 := by
        unfold bgB
        exact bI_B (Qok_1 (by omega)) (bI_1 (by omega) (sgn_0.mpr q.2)) 108
      have hn1 : ¬ nI (rgS f S0 i).2.2 = -1 := nI_nm1 (by omega)
      obtain ⟨G, hG⟩ : ∃ G, G = gpX (rgS f S0 i).1 (nI (rgS f S0 i).2.2) (bgB f (sgn (rgS f S0 i).1) (rgS f S0 i).2.1 i).1 := ⟨_, rfl⟩
      rw [rgS_t q, ← hG]
      refine ⟨fun m k hk => ?_, fun k hk => ?_, ?_, ?_⟩
      · have e9 : (grS f m (sn, qn, 0) (i + 1)).1 = (bgB f (grS f m (sn, qn, 0) i).1 (grS f m (sn, qn, 0) i).2.1 i).1.2.1 := by
          by_cases z : (bgB f (grS f m (sn, qn, 0) i).1 (grS f m (sn, qn, 0) i).2.1 i).2 < m
          · rw [grS_t (qc m) z]
          · rw [grS_n (qc m) z]
        rw [e9]
        show _ ↔ G k = -1
        rw [hG]
        exact ((hz m).1.2.1 k hk).trans (gpX_m hb hn1).symm
      · show G k = -1 ∨ ∃ c, c < (rgS f S0 i).2.2 + 1 ∧ G k = nI c
        rw [hG]
        by_cases z : (rgS f S0 i).1 k = -1 ∧ ¬ (bgB f (sgn (rgS f S0 i).1) (rgS f S0 i).2.1 i).1.2.1 k = 0
        · exact Or.inr ⟨_, Nat.lt_succ_self _, if_pos z⟩
        · rw [show gpX (rgS f S0 i).1 (nI (rgS f S0 i).2.2) (bgB f (sgn (rgS f S0 i).1) (rgS f S0 i).2.1 i).1 k = (rgS f S0 i).1 k from if_neg z]
          exact (ih.2.1 k hk).imp id (fun ⟨c, hc, e⟩ => ⟨c, Nat.lt_succ_of_lt hc, e⟩)
      · rw [grS_t (qc 109) (Nat.lt_of_le_of_lt bgB_le (by decide))]
        exact congrArg (· + 1) ih.2.2.1
      · have e1 : fa_cnt (rgL f G) (rgS f S0 i).2.2 = fa_cnt (rgL f (rgS f S0 i).1) (rgS f S0 i).2.2 := fa_cnt_cong (fun c hc => by
          have e2 : fa_cnt (rgC f G c) 108 = fa_cnt (rgC f (rgS f S0 i).1 c) 108 := fa_cnt_cong (fun k hk => by
            unfold rgC
            rw [hG]
            exact congrArg (· && bsP f k) (decide_eq_decide.mpr (gpX_c hc (by omega))))
          unfold rgL
          rw [e2])
        have e3 : fa_cnt (rgC f G (rgS f S0 i).2.2) 108 = (bgB f (grS f 2 (sn, qn, 0) i).1 (grS f 2 (sn, qn, 0) i).2.1 i).2 := by
          rw [(hz 2).2, bg_c (by omega) (sgn_0.mpr q.2)]
          refine fa_cnt_cong (fun k hk => ?_)
          unfold rgC nwP
          have e4 : decide (G k = nI (rgS f S0 i).2.2) = (decide (¬ (bgB f (sgn (rgS f S0 i).1) (rgS f S0 i).2.1 i).1.2.1 k = 0) && decide (sgn (rgS f S0 i).1 k = 0)) := by
            rw [← Bool.decide_and, hG]
            refine decide_eq_decide.mpr ⟨fun e => ?_, fun e => if_pos ⟨sgn_0.mp e.2, e.1⟩⟩
            refine Classical.byContradiction (fun z => ?_)
            rw [show gpX (rgS f S0 i).1 (nI (rgS f S0 i).2.2) (bgB f (sgn (rgS f S0 i).1) (rgS f S0 i).2.1 i).1 k = (rgS f S0 i).1 k from if_neg (fun y => z ⟨y.2, sgn_0.mpr y.1⟩)] at e
            rcases ih.2.1 k hk with y | ⟨c, hc, y⟩
            · exact hn1 (e.symm.trans y)
            · exact absurd (z_eqn (by omega) (by omega) (y.symm.trans e)) (by omega)
          rw [e4, Bool.and_assoc]
        show (grS f 2 (sn, qn, 0) (i + 1)).2.2 = fa_cnt (rgL f G) ((rgS f S0 i).2.2 + 1)
        by_cases z : (bgB f (grS f 2 (sn, qn, 0) i).1 (grS f 2 (sn, qn, 0) i).2.1 i).2 < 2
        · have e7 : rgL f G (rgS f S0 i).2.2 = true := by unfold rgL; exact decide_eq_true (by rw [e3]; exact z)
          rw [grS_t (qc 2) z, fa_cnt_yes (p := rgL f G) e7, e1]
          exact congrArg (· + 1) ih.2.2.2
        · have e7 : rgL f G (rgS f S0 i).2.2 = false := by unfold rgL; exact decide_eq_false (by rw [e3]; exact z)
          rw [grS_n (qc 2) z, fa_cnt_no (p := rgL f G) e7, e1]
          exact ih.2.2.2
    · have qc : ∀ m, ¬ (f i = 111 ∧ (grS f m (sn, qn, 0) i).1 i = 0) := fun m z => q ⟨z.1, (ih.1 m i (by omega)).mp z.2⟩
      rw [rgS_f q, grS_f (qc 109), grS_f (qc 2)]
      refine ⟨fun m k hk => ?_, ih.2.1, ih.2.2.1, ih.2.2.2⟩
      rw [grS_f (qc m)]
      exact ih.1 m k hk
def coN (f : Nat → Int32) : Nat := (rgS f (fun _ => -1, fun _ => 0, 0) 108).2.2
def loN (f : Nat → Int32) : Nat := fa_cnt (rgL f (rgS f (fun _ => -1, fun _ => 0, 0) 108).1) (rgS f (fun _ => -1, fun _ => 0, 0) 108).2.2
theorem co_c {f sn : Nat → Int32} {qn : Nat → Nat} : (grS f 109 (fa_fill (fun _ => 0) sn 108, qn, 0) 108).2.2 = coN f := (rg_rel (f := f) (qn := qn) (S0 := (fun _ => -1, fun _ => 0, 0)) rfl (fun _ _ => rfl) (fun _ hk => fa_fill_in hk) 108 (Nat.le_refl _)).2.2.1
theorem lo_c {f sn : Nat → Int32} {qn : Nat → Nat} : (grS f 2 (fa_fill (fun _ => 0) sn 108, qn, 0) 108).2.2 = loN f := (rg_rel (f := f) (qn := qn) (S0 := (fun _ => -1, fun _ => 0, 0)) rfl (fun _ _ => rfl) (fun _ hk => fa_fill_in hk) 108 (Nat.le_refl _)).2.2.2
theorem co_r {f gp : Nat → Int32} {qn : Nat → Nat} : (rgS f (fa_fill (fun _ => -1) gp 108, qn, 0) 108).2.2 = coN f := by
  have h := (rg_rel (f := f) (sn := fa_fill (fun _ => 0) gp 108) (qn := qn) (S0 := (fa_fill (fun _ => -1) gp 108, qn, 0)) rfl (fun k hk => show fa_fill (fun _ => (-1 : Int32)) gp 108 k = -1 from if_pos hk) (fun k hk => show fa_fill (fun _ => (0 : Int32)) gp 108 k = 0 from if_pos hk) 108 (Nat.le_refl _)).2.2.1
  exact h.symm.trans co_c
theorem lo_r {f gp : Nat → Int32} {qn : Nat → Nat} : fa_cnt (rgL f (rgS f (fa_fill (fun _ => -1) gp 108, qn, 0) 108).1) (rgS f (fa_fill (fun _ => -1) gp 108, qn, 0) 108).2.2 = loN f := by
  have h := (rg_rel (f := f) (sn := fa_fill (fun _ => 0) gp 108) (qn := qn) (S0 := (fa_fill (fun _ => -1) gp 108, qn, 0)) rfl (fun k hk => show fa_fill (fun _ => (-1 : Int32)) gp 108 k = -1 from if_pos hk) (fun k hk => show fa_fill (fun _ => (0 : Int32)) gp 108 k = 0 from if_pos hk) 108 (Nat.le_refl _)).2.2.2
  exact h.symm.trans lo_c
theorem co_le (f : Nat → Int32) : coN f ≤ 108 := rgS_le rfl 108
theorem lo_le (f : Nat → Int32) : loN f ≤ 108 := Nat.le_trans (fa_cnt_le _ _) (co_le f)
theorem oI_nn {c s : Nat} (hc : c < 108) (h : oI (bs c s) = -1) : bs c s = none := by
  cases e : bs c s with
  | none => rfl
  | some o =>
    rw [e] at h
    exact absurd h (nI_nm1 (a := o) (by have := bs_lt hc e; omega))
