section
def eqA (a b : Nat → Int32) : Prop := ∀ k, k < 108 → a k = b k
def vlA (f a : Nat → Int32) : Prop := ∀ k, k < 108 → a k = -1 ∨ (tmB (f k) = true ∧ ∃ t : Nat, t ≤ 109 ∧ a k = nI t)
theorem vl_neg {f a : Nat → Int32} {k : Nat} (h : vlA f a) (hk : k < 108) : a k < 0 ↔ a k = -1 := by
  rcases h k hk with e | ⟨-, t, ht, e⟩
  · rw [e]; exact ⟨fun _ => rfl, fun _ => by decide⟩
  · rw [e]; exact ⟨fun q => absurd q (nI_nneg (by omega)), fun q => absurd q (nI_nm1 (by omega))⟩
theorem eq_up {a b : Nat → Int32} {c : Nat} {v : Int32} (h : eqA a b) : eqA (upd a c v) (upd b c v) := fun k hk => by
  by_cases q : k = c
  · subst q; rw [show upd a k v k = v from if_pos rfl, show upd b k v k = v from if_pos rfl]
  · rw [show upd a c v k = a k from if_neg q, show upd b c v k = b k from if_neg q]; exact h k hk
theorem vl_up {f a : Nat → Int32} {c t : Nat} (h : vlA f a) (hm : tmB (f c) = true) (ht : t ≤ 109) : vlA f (upd a c (nI t)) := fun k hk => by
  by_cases q : k = c
  · subst q; exact Or.inr ⟨hm, t, ht, if_pos rfl⟩
  · rw [show upd a c (nI t) k = a k from if_neg q]; exact h k hk
theorem bf_can {f a b : Nat → Int32} {c : Nat} {st : Int32} (he : eqA a b) (hv : vlA f b) (hc : c < 108) : ∀ s, canS a c st s = bfB b c st s
  | 0 => rfl
  | s + 1 => by
    have ih := bf_can (st := st) he hv hc s
    rw [canS, bfB, ih]
    cases e : bs c s with
    | none => rw [chkM_n e, chkF_n e]
    | some o =>
      have ho := bs_lt hc e
      rw [chkM_s e, chkF_s e, he o ho, decide_eq_decide.mpr (show (¬ b o = -1 ∧ b o < st) ↔ (¬ b o < 0 ∧ b o < st) from and_congr_left' (not_congr (vl_neg hv ho).symm))]
theorem nf_fc {f ce a b : Nat → Int32} {c : Nat} {st : Int32} (hce : eqA ce f) (he : eqA a b) (hv : vlA f b) (hc : c < 108) : nfB f a st c = true ↔ (b c < 0 ∧ tmB (ce c) = true ∧ bfB b c st 4 = true) := by
  rw [hce c hc]
  constructor
  · intro h
    obtain ⟨h1, h2, h3⟩ := nfB_p h
    exact ⟨(vl_neg hv hc).mpr ((he c hc).symm.trans h2), h1, by rw [← bf_can he hv hc]; exact h3⟩
  · intro ⟨h1, h2, h3⟩
    rw [nfB_y h2 ((he c hc).trans ((vl_neg hv hc).mp h1)), bf_can he hv hc]; exact h3
noncomputable def lsS (f : Nat → Int32) (st : Int32) (mo : Nat) (s : zF) : Nat → zF
  | 0 => s
  | n + 1 => fcS f st mo (scC n) (lsS f st mo s n)
theorem ls_r {f : Nat → Int32} {st : Int32} {mo : Nat} {s : zF} {r : Nat} : ∀ x, x ≤ 12 → frS f st mo (8 - r) (lsS f st mo s (12 * r)) x = lsS f st mo s (12 * r + x)
  | 0, _ => rfl
  | x + 1, hx => by
    rw [frS, ls_r x (by omega), show 12 * r + (x + 1) = (12 * r + x) + 1 by omega, lsS, scC_e (by omega)]
theorem ls_s {f : Nat → Int32} {st : Int32} {mo : Nat} {s : zF} : ∀ r, fsS f st mo s r = lsS f st mo s (12 * r)
  | 0 => rfl
  | r + 1 => by rw [fsS, ls_s r, ls_r 12 (Nat.le_refl _), show 12 * (r + 1) = 12 * r + 12 by omega]
theorem chkF_up {b : Nat → Int32} {c c2 : Nat} {st : Int32} {s : Nat} (hs : 0 ≤ st) (h : chkF (upd b c st) c2 st s = true) : chkF b c2 st s = true := by
  cases e : bs c2 s with
  | none => rw [chkF_n e] at h; cases h
  | some o =>
    rw [chkF_s e] at h ⊢
    have h2 := of_decide_eq_true h
    by_cases q : o = c
    · subst q
      rw [show upd b o st o = st from if_pos rfl] at h2
      exact absurd h2.2 Int32.lt_irrefl
    · rw [show upd b c st o = b o from if_neg q] at h2
      exact decide_eq_true h2
theorem bfB_up {b : Nat → Int32} {c c2 : Nat} {st : Int32} (hs : 0 ≤ st) : ∀ s, bfB (upd b c st) c2 st s = true → bfB b c2 st s = true
  | 0, h => h
  | s + 1, h => by
    rw [bfB, Bool.or_eq_true] at h ⊢
    exact h.imp (bfB_up hs s) (chkF_up hs)
theorem fl_step {f ce a b : Nat → Int32} {mo t : Nat} (hce : eqA ce f) (he : eqA a b) (hv : vlA f b) (ht : t ≤ 109) : ∀ n, n ≤ 108 → (lsS ce (nI t) mo (b, 0) n).2 ≤ mo ∧ eqA (rfS f (nI t) a (lsS ce (nI t) mo (b, 0) n).2).1 (lsS ce (nI t) mo (b, 0) n).1 ∧ vlA f (lsS ce (nI t) mo (b, 0) n).1 ∧ (rfS f (nI t) a (lsS ce (nI t) mo (b, 0) n).2).2 = (if (lsS ce (nI t) mo (b, 0) n).2 = 0 then 0 else 1) ∧ ((lsS ce (nI t) mo (b, 0) n).2 < mo → ∀ j, j < n → ¬ ((lsS ce (nI t) mo (b, 0) n).1 (scC j) < 0 ∧ tmB (ce (scC j)) = true ∧ bfB (lsS ce (nI t) mo (b, 0) n).1 (scC j) (nI t) 4 = true))
  | 0, _ => ⟨Nat.zero_le _, he, hv, rfl, fun _ j hj => absurd hj (Nat.not_lt_zero j)⟩
  | n + 1, hn => by
    have ih := fl_step (mo := mo) hce he hv ht n (by omega)
    have hst : (0 : Int32) ≤ nI t := Int32.not_lt.mp (nI_nneg (by omega))
    obtain ⟨S, hS⟩ : ∃ S, S = lsS ce (nI t) mo (b, 0) n := ⟨_, rfl⟩
    rw [← hS] at ih
    obtain ⟨i1, i2, i3, i4, i5⟩ := ih
    have hsc := scC_lt (k := n) (by omega)
    rw [lsS, ← hS]
    by_cases q : fcP ce (nI t) mo (scC n) S
    · rw [fcS_t q]
      have hin : ∀ k, k < n → nfB f (rfS f (nI t) a S.2).1 (nI t) (scC k) = false := fun k hk => Bool.eq_false_iff.mpr (fun e => i5 q.1 k hk ((nf_fc hce i2 i3 (scC_lt (by omega))).mp e))
      have hy : nfB f (rfS f (nI t) a S.2).1 (nI t) (scC n) = true := (nf_fc hce i2 i3 hsc).mpr q.2
      have hr := rfS_s (z := S.2) (a := a) (ntF_hit (by omega) hin hy)
      refine ⟨q.1, ?_, vl_up i3 (by rw [← hce _ hsc]; exact q.2.2.1) ht, ?_, fun _ j hj e => ?_⟩
      · show eqA (rfS f (nI t) a (S.2 + 1)).1 (upd S.1 (scC n) (nI t))
        rw [hr]
        exact eq_up i2
      · show (rfS f (nI t) a (S.2 + 1)).2 = if S.2 + 1 = 0 then 0 else 1
        rw [hr, if_neg (Nat.succ_ne_zero _)]
      · have e1 : upd S.1 (scC n) (nI t) (scC j) < 0 := e.1
        have e2 : bfB (upd S.1 (scC n) (nI t)) (scC j) (nI t) 4 = true := e.2.2
        by_cases z : scC j = scC n
        · rw [z, show upd S.1 (scC n) (nI t) (scC n) = nI t from if_pos rfl] at e1
          exact absurd e1 (Int32.not_lt.mpr hst)
        · rw [show upd S.1 (scC n) (nI t) (scC j) = S.1 (scC j) from if_neg z] at e1
          have hj2 : j < n := by
            rcases Nat.lt_or_ge j n with y | y
            · exact y
            · exact absurd (congrArg scC (show j = n by omega)) z
          exact i5 q.1 j hj2 ⟨e1, e.2.1, bfB_up hst 4 e2⟩
    · rw [fcS_f q]
      refine ⟨i1, i2, i3, i4, fun h j hj => ?_⟩
      rcases Nat.lt_or_ge j n with y | y
      · exact i5 h j y
      · rw [show j = n by omega]
        exact fun e => q ⟨h, e⟩
theorem fl_full {f ce a b : Nat → Int32} {mo t : Nat} (hce : eqA ce f) (he : eqA a b) (hv : vlA f b) (ht : t ≤ 109) : eqA (rfS f (nI t) a mo).1 (fsS ce (nI t) mo (b, 0) 9).1 ∧ vlA f (fsS ce (nI t) mo (b, 0) 9).1 ∧ ((rfS f (nI t) a mo).2 = 0 ↔ (fsS ce (nI t) mo (b, 0) 9).2 = 0) := by
  rw [ls_s 9]
  obtain ⟨i1, i2, i3, i4, i5⟩ := fl_step (mo := mo) hce he hv ht 108 (Nat.le_refl _)
  show eqA _ (lsS ce (nI t) mo (b, 0) 108).1 ∧ vlA f (lsS ce (nI t) mo (b, 0) 108).1 ∧ (_ ↔ (lsS ce (nI t) mo (b, 0) 108).2 = 0)
  have e : rfS f (nI t) a mo = rfS f (nI t) a (lsS ce (nI t) mo (b, 0) 108).2 := by
    by_cases q : (lsS ce (nI t) mo (b, 0) 108).2 < mo
    · have hn : ntF f (rfS f (nI t) a (lsS ce (nI t) mo (b, 0) 108).2).1 (nI t) 108 = none := ntF_n 108 (fun k hk => Bool.eq_false_iff.mpr (fun e => i5 q k hk ((nf_fc hce i2 i3 (scC_lt hk)).mp e)))
      have := rfS_stop hn (mo - (lsS ce (nI t) mo (b, 0) 108).2)
      rwa [show (lsS ce (nI t) mo (b, 0) 108).2 + (mo - (lsS ce (nI t) mo (b, 0) 108).2) = mo by omega] at this
    · rw [show (lsS ce (nI t) mo (b, 0) 108).2 = mo by omega]
  rw [e]
  refine ⟨i2, i3, ?_⟩
  rw [i4]
  by_cases q : (lsS ce (nI t) mo (b, 0) 108).2 = 0
  · rw [if_pos q]; exact ⟨fun _ => q, fun _ => rfl⟩
  · rw [if_neg q]; exact ⟨fun y => absurd y (by decide), fun y => absurd y q⟩
theorem fl_T {f ce a b : Nat → Int32} {mo : Nat} {g0 : Int32} (hce : eqA ce f) (he : eqA a b) (hv : vlA f b) (hg : g0 = 0 ↔ mo = 0) : ∀ T, T ≤ 109 → eqA (rfT f mo a g0 T).1 (fiS ce mo b T).1 ∧ vlA f (fiS ce mo b T).1 ∧ ((rfT f mo a g0 T).2 = 0 ↔ (fiS ce mo b T).2 = 0)
  | 0, _ => ⟨he, hv, hg⟩
  | T + 1, hT => by
    have ih := fl_T hce he hv hg T (by omega)
    by_cases q : (rfT f mo a g0 T).2 = 0
    · rw [rfT_z q, show fiS ce mo b (T + 1) = fiS ce mo b T from if_pos (ih.2.2.mp q)]; exact ih
    · rw [rfT_n q, fiS_n (fun y => q (ih.2.2.mpr y))]
      exact fl_full hce ih.1 ih.2.1 (by omega)
theorem rfS_0 {f a : Nat → Int32} {st : Int32} (h : ntF f a st 108 = none) (d : Nat) : rfS f st a d = (a, 0) := by
  have := rfS_stop (f := f) (st := st) (a := a) (z := 0) h d
  rw [Nat.zero_add] at this
  exact this
theorem cn_0 {a : Nat → Int32} (h : cnM a = 0) {k : Nat} (hk : k < 108) : ¬ a k = -1 := of_decide_eq_false (cnt_0 (p := fun k => decide (a k = -1)) 108 h k hk)
noncomputable def flK (f : Nat → Int32) (fi : Nat → Int32) : Nat → Int32 := flP f fi 0
theorem og_vl {f ce F : Nat → Int32} (hce : eqA ce f) (hF : ∀ k, k < 108 → F k = -1) : ∀ i, i ≤ 12 → vlA f (ogS ce F i).1
  | 0, _ => fun k hk => Or.inl (hF k hk)
  | i + 1, hi => by
    have ih := og_vl hce hF i (by omega)
    by_cases q : ce i = 103
    · rw [ogS, if_pos q]
      by_cases z : (ogS ce F i).2 = 0
      · show vlA f (if (ogS ce F i).2 = 0 then upd (ogS ce F i).1 i 0 else (ogS ce F i).1)
        rw [if_pos z]
        exact vl_up (t := 0) ih (by rw [← hce i (by omega), q]; decide) (Nat.zero_le _)
      · show vlA f (if (ogS ce F i).2 = 0 then upd (ogS ce F i).1 i 0 else (ogS ce F i).1)
        rw [if_neg z]; exact ih
    · rw [ogS, if_neg q]; exact ih
theorem gt_eq {f ce : Nat → Int32} (hce : eqA ce f) : ∀ i, i ≤ 12 → fa_cnt (fun k => decide (f k = 103)) i = fa_cnt (fun k => decide (ce k = 103)) i := fun i hi => fa_cnt_cong (fun k hk => by rw [hce k (by omega)])
theorem og_eq {f ce F G : Nat → Int32} (hce : eqA ce f) (h : eqA F G) : ∀ i, i ≤ 12 → eqA (ogS f F i).1 (ogS ce G i).1
  | 0, _ => h
  | i + 1, hi => by
    have ih := og_eq hce h i (by omega)
    have e2 : (ogS f F i).2 = (ogS ce G i).2 := (ogS_c f F i).trans ((gt_eq hce i (by omega)).trans (ogS_c ce G i).symm)
    have e3 := hce i (by omega)
    by_cases q : f i = 103
    · rw [ogS, if_pos q, ogS, if_pos (show ce i = 103 from e3.trans q)]
      show eqA (if (ogS f F i).2 = 0 then upd (ogS f F i).1 i 0 else (ogS f F i).1) (if (ogS ce G i).2 = 0 then upd (ogS ce G i).1 i 0 else (ogS ce G i).1)
      rw [e2]
      by_cases z : (ogS ce G i).2 = 0
      · rw [if_pos z, if_pos z]; exact eq_up ih
      · rw [if_neg z, if_neg z]; exact ih
    · rw [ogS, if_neg q, ogS, if_neg (show ¬ ce i = 103 from fun z => q (e3.symm.trans z))]; exact ih
theorem fill_rel {f ce : Nat → Int32} (hce : eqA ce f) (fl fi : Nat → Int32) : eqA (flC f fl) (flK ce fi) ∧ vlA f (flK ce fi) := by
  have hA : eqA (fa_fill (fun _ => -1) fl 108) (fa_fill (fun _ => -1) fi 108) := fun k hk => by rw [fa_fill_in hk, fa_fill_in hk]
  have hv := og_vl hce (F := fa_fill (fun _ => -1) fi 108) (fun k hk => fa_fill_in hk) 12 (Nat.le_refl _)
  have hg : (if 0 < fa_cnt (fun k => decide (f k = 103)) 12 then (1 : Int32) else 0) = 0 ↔ fa_cnt (fun k => decide (f k = 103)) 12 = 0 := by
    by_cases q : 0 < fa_cnt (fun k => decide (f k = 103)) 12
    · rw [if_pos q]; exact ⟨fun e => absurd e (by decide), fun e => absurd e (by omega)⟩
    · rw [if_neg q]; exact ⟨fun _ => by omega, fun _ => rfl⟩
  have key := fl_T hce (og_eq hce hA 12 (Nat.le_refl _)) hv hg
  have k7 := key 107 (by omega)
  have eK : flK ce fi = (fiS ce (fa_cnt (fun k => decide (f k = 103)) 12) (ogS ce (fa_fill (fun _ => -1) fi 108) 12).1 107).1 := by
    unfold flK flP
    rw [if_pos rfl, ogS_c, gt_eq hce 12 (Nat.le_refl _)]
  rw [eK]
  refine ⟨fun k hk => ?_, k7.2.1⟩
  rw [← k7.1 k hk]
  unfold flC
  by_cases q : (rfT f (fa_cnt (fun k => decide (f k = 103)) 12) (ogS f (fa_fill (fun _ => -1) fl 108) 12).1 (if 0 < fa_cnt (fun k => decide (f k = 103)) 12 then 1 else 0) 107).2 = 0
  · rw [show 109 = 107 + 2 from rfl, rfT_stop q 2]
  · have hm := flC_m (f := f) (fl := fl) (T := 107) (by omega) q
    have hno : ntF f (rfT f (fa_cnt (fun k => decide (f k = 103)) 12) (ogS f (fa_fill (fun _ => -1) fl 108) 12).1 (if 0 < fa_cnt (fun k => decide (f k = 103)) 12 then 1 else 0) 107).1 (nI (107 + 1)) 108 = none := ntF_n 108 (fun j hj => nfB_x (cn_0 (by omega) (scC_lt hj)))
    have h8 : rfT f (fa_cnt (fun k => decide (f k = 103)) 12) (ogS f (fa_fill (fun _ => -1) fl 108) 12).1 (if 0 < fa_cnt (fun k => decide (f k = 103)) 12 then 1 else 0) (107 + 1) = ((rfT f (fa_cnt (fun k => decide (f k = 103)) 12) (ogS f (fa_fill (fun _ => -1) fl 108) 12).1 (if 0 < fa_cnt (fun k => decide (f k = 103)) 12 then 1 else 0) 107).1, 0) := by
      rw [rfT_n q]
      exact rfS_0 hno _
    rw [show 109 = (107 + 1) + 1 from rfl, rfT_stop (by rw [h8]) 1, h8]
end
section
def numM (f fl : Nat → Int32) (c o : Nat) : Int32 := if (f c = 107 ∧ ¬ fl o = -1) ∨ (f o = 107 ∧ ¬ fl c = -1) then 14 else if ¬ fl c = -1 ∧ ¬ fl o = -1 then 12 else if (¬ fl c = -1 ∧ f o = 111) ∨ (¬ fl o = -1 ∧ f c = 111) then 3 else 4
def gaM (f fl he : Nat → Int32) (c : Nat) : Nat → Int32
  | 0 => 0
  | s + 1 => gaM f fl he c s + (bs c s).elim ((20 - he c) * 4 / 64) (fun o => (he o - he c) * numM f fl c o / 64)
theorem gaM_n {f fl he : Nat → Int32} {c s : Nat} (h : bs c s = none) : gaM f fl he c (s + 1) = gaM f fl he c s + (20 - he c) * 4 / 64 := by rw [gaM, h]; rfl
theorem gaM_s {f fl he : Nat → Int32} {c s o : Nat} (h : bs c s = some o) : gaM f fl he c (s + 1) = gaM f fl he c s + (he o - he c) * numM f fl c o / 64 := by rw [gaM, h]; rfl
abbrev zMs : Type := (Nat → Int32) × (Nat → Int32) × (Nat → Int32) × Int32
def lfM (fl : Nat → Int32) (i : Nat) (z lf : Int32) : Int32 := if ¬ lf = 0 then 1 else if ¬ fl i = -1 ∧ z = 0 then 1 else 0
def fsM1 (fl nx : Nat → Int32) (st : Int32) (i : Nat) (S : zMs) : zMs :=
  if ¬ fl i = -1 ∧ S.2.2.1 i = 0 ∧ nx i < 1150 then (if 0 < S.2.1 i - (1150 - nx i) then (upd (upd S.1 i (nx i)) i 1150, upd S.2.1 i (S.2.1 i - (1150 - nx i)), upd S.2.2.1 i 0, lfM fl i 0 S.2.2.2) else (upd (upd S.1 i (nx i)) i 1150, upd S.2.1 i (S.2.1 i - (1150 - nx i)), upd S.2.2.1 i st, lfM fl i st S.2.2.2))
  else (upd S.1 i (nx i), S.2.1, S.2.2.1, lfM fl i (S.2.2.1 i) S.2.2.2)
def fsM (fl nx : Nat → Int32) (st : Int32) (S0 : zMs) : Nat → zMs
  | 0 => S0
  | i + 1 => fsM1 fl nx st i (fsM fl nx st S0 i)
theorem fsM_a {fl nx : Nat → Int32} {st : Int32} {S0 : zMs} {i : Nat} (hA : ¬ fl i = -1 ∧ (fsM fl nx st S0 i).2.2.1 i = 0 ∧ nx i < 1150) (hB : 0 < (fsM fl nx st S0 i).2.1 i - (1150 - nx i)) : fsM fl nx st S0 (i + 1) = (upd (upd (fsM fl nx st S0 i).1 i (nx i)) i 1150, upd (fsM fl nx st S0 i).2.1 i ((fsM fl nx st S0 i).2.1 i - (1150 - nx i)), upd (fsM fl nx st S0 i).2.2.1 i 0, lfM fl i 0 (fsM fl nx st S0 i).2.2.2) := by rw [fsM, fsM1, if_pos hA, if_pos hB]
theorem fsM_b {fl nx : Nat → Int32} {st : Int32} {S0 : zMs} {i : Nat} (hA : ¬ fl i = -1 ∧ (fsM fl nx st S0 i).2.2.1 i = 0 ∧ nx i < 1150) (hB : ¬ 0 < (fsM fl nx st S0 i).2.1 i - (1150 - nx i)) : fsM fl nx st S0 (i + 1) = (upd (upd (fsM fl nx st S0 i).1 i (nx i)) i 1150, upd (fsM fl nx st S0 i).2.1 i ((fsM fl nx st S0 i).2.1 i - (1150 - nx i)), upd (fsM fl nx st S0 i).2.2.1 i st, lfM fl i st (fsM fl nx st S0 i).2.2.2) := by rw [fsM, fsM1, if_pos hA, if_neg hB]
theorem fsM_n {fl nx : Nat → Int32} {st : Int32} {S0 : zMs} {i : Nat} (hA : ¬ (¬ fl i = -1 ∧ (fsM fl nx st S0 i).2.2.1 i = 0 ∧ nx i < 1150)) : fsM fl nx st S0 (i + 1) = (upd (fsM fl nx st S0 i).1 i (nx i), (fsM fl nx st S0 i).2.1, (fsM fl nx st S0 i).2.2.1, lfM fl i ((fsM fl nx st S0 i).2.2.1 i) (fsM fl nx st S0 i).2.2.2) := by rw [fsM, fsM1, if_neg hA]
theorem lfM_01 {fl : Nat → Int32} {i : Nat} {z lf : Int32} : lfM fl i z lf = 0 ∨ lfM fl i z lf = 1 := by
  unfold lfM
  split
  · exact Or.inr rfl
  · split
    · exact Or.inr rfl
    · exact Or.inl rfl
theorem fsM_01 {fl nx : Nat → Int32} {st : Int32} {S0 : zMs} (h : S0.2.2.2 = 0 ∨ S0.2.2.2 = 1) : ∀ i, (fsM fl nx st S0 i).2.2.2 = 0 ∨ (fsM fl nx st S0 i).2.2.2 = 1
  | 0 => h
  | i + 1 => by
    by_cases hA : ¬ fl i = -1 ∧ (fsM fl nx st S0 i).2.2.1 i = 0 ∧ nx i < 1150
    · by_cases hB : 0 < (fsM fl nx st S0 i).2.1 i - (1150 - nx i)
      · rw [fsM_a hA hB]; exact lfM_01
      · rw [fsM_b hA hB]; exact lfM_01
    · rw [fsM_n hA]; exact lfM_01
abbrev zFz : Type := zMs × (Nat → Int32)
def fnM (f fl : Nat → Int32) (Q : zFz) : Nat → Int32 := fa_fill (fun k => Q.1.1 k + gaM f fl Q.1.1 k 4) Q.2 108
def fsF (f fl he nx mtt fz : Nat → Int32) (st : Int32) : zFz := (fsM fl (fa_fill (fun k => he k + gaM f fl he k 4) nx 108) st (he, mtt, fz, 0) 108, fa_fill (fun k => he k + gaM f fl he k 4) nx 108)
theorem fsF_1 {f fl he nx mtt fz : Nat → Int32} {st : Int32} : (fsF f fl he nx mtt fz st).1 = fsM fl (fa_fill (fun k => he k + gaM f fl he k 4) nx 108) st (he, mtt, fz, 0) 108 := by
  unfold fsF
  dsimp only
theorem fsF_2 {f fl he nx mtt fz : Nat → Int32} {st : Int32} : (fsF f fl he nx mtt fz st).2 = fa_fill (fun k => he k + gaM f fl he k 4) nx 108 := by
  unfold fsF
  dsimp only
def fzP (f fl : Nat → Int32) (st : Int32) (Q : zFz) : zFz := fsF f fl Q.1.1 Q.2 Q.1.2.1 Q.1.2.2.1 st
theorem fzP_e {f fl : Nat → Int32} {st : Int32} {Q : zFz} : fzP f fl st Q = fsF f fl Q.1.1 Q.2 Q.1.2.1 Q.1.2.2.1 st := by
  unfold fzP
  rfl
theorem fzP_1 {f fl : Nat → Int32} {st : Int32} {Q : zFz} : (fzP f fl st Q).1 = fsM fl (fnM f fl Q) st (Q.1.1, Q.1.2.1, Q.1.2.2.1, 0) 108 := by
  rw [fzP_e, fsF_1]
  unfold fnM
  rfl
def fzR (f fl : Nat → Int32) (Q0 : zFz) : Nat → zFz
  | 0 => Q0
  | t + 1 => if (fzR f fl Q0 t).1.2.2.2 = 0 then fzR f fl Q0 t else fzP f fl (nI (t + 1)) (fzR f fl Q0 t)
theorem fzR_n {f fl : Nat → Int32} {Q0 : zFz} {t : Nat} (h : ¬ (fzR f fl Q0 t).1.2.2.2 = 0) : fzR f fl Q0 (t + 1) = fzP f fl (nI (t + 1)) (fzR f fl Q0 t) := if_neg h
theorem fzR_stop {f fl : Nat → Int32} {Q0 : zFz} {t : Nat} (h : (fzR f fl Q0 t).1.2.2.2 = 0) : ∀ d, fzR f fl Q0 (t + d) = fzR f fl Q0 t
  | 0 => rfl
  | d + 1 => by
    have ih := fzR_stop h d
    show fzR f fl Q0 (t + d + 1) = _
    rw [fzR, ih, if_pos h]
def hbM (fl : Nat → Int32) (h : Int32) (k : Nat) : Int32 := if fl k = -1 then 20 else h - 2 * fl k
def begM (fl he mt fz nx : Nat → Int32) (h lf : Int32) : zFz := ((fa_fill (hbM fl h) he 108, fa_fill (fun _ => 300) mt 108, fa_fill (fun _ => 0) fz 108, lf), nx)
def frG (fl fz : Nat → Int32) (k : Nat) : Int32 := if fl k = -1 then -1 else if fz k = 0 then 401 else fz k
def frM (f fl he mt fz nx : Nat → Int32) (h : Int32) : zFz := fzR f fl (begM fl he mt fz nx h 1) 400
set_option maxHeartbeats 4000000 in
set_option maxRecDepth 100000 in
theorem C_Mm_number9 (g : zG) (m mp mf mh mn mt mz mc_ mq mgr ml mi mr mm mu mk mx : Nat) (th pt cl wa co_ fi bu ho lh mg wd fpi fal : Int32) (po de : Int64) (b : Nat) (f : Nat → Int32) (fl : Nat → Int32) (c oo : Nat) (hc : c < 108) (hoo : oo < 108) : CT g M_Mm_number [.ref m, .ref b, .int (nI c), .int (nI oo)] [(m, .inr (12, [.int th, .ref mp, .int pt, .ref mf, .ref mh, .ref mn, .ref mt, .ref mz, .ref mc_, .ref mq, .ref mgr, .int cl, .int wa, .int co_, .int fi, .int bu, .int ho, .ref ml, .ref mi, .ref mr, .int lh, .int mg, .int wd, .int fpi, .int fal, .ref mm, .ref mu, .ref mk, .ref mx, .long po, .long de])), (b, .inl (1, 108, .inl f)), (mf, .inl (0, 108, .inl fl))] (fun o cs1 => o = .inl (some (.int (numM f fl c oo))) ∧ cs1 = [(m, .inr (12, [.int th, .ref mp, .int pt, .ref mf, .ref mh, .ref mn, .ref mt, .ref mz, .ref mc_, .ref mq, .ref mgr, .int cl, .int wa, .int co_, .int fi, .int bu, .int ho, .ref ml, .ref mi, .ref mr, .int lh, .int mg, .int wd, .int fpi, .int fal, .ref mm, .ref mu, .ref mk, .ref mx, .long po, .long de])), (b, .inl (1, 108, .inl f)), (mf, .inl (0, 108, .inl fl))]) 0 0 := by
  refine z_of (by decide) rfl (Nat.le_of_ble_eq_true rfl) (fun w0 => ?_)
  refine r_lvE (lv2 := [(0, .ref m), (1, .ref b), (2, .int (nI c)), (3, .int (nI oo))]) rfl ?_
  refine r_aload_n d_Mm_number_0 rfl 0 rfl ?_
  refine r_get fs_Mm_17 d_Mm_number_1 (q0 := 0) rfl rfl ?_
  refine r_iload_n d_Mm_number_4 rfl 2 rfl ?_
  refine r_iald d_Mm_number_5 (q0 := 2) rfl (vp_in_nI (by omega) (by omega)) (v := fl c) (by rw [nI_clamp (by omega)]) ?_
  refine r_iconst d_Mm_number_6 (v := (-1)) (by decide) ?_
  refine r_icmp_eq (tgt := 14) d_Mm_number_7 (by decide) (fun c_7 => ?_) (fun c_7 => ?_)
  · refine r_iconst d_Mm_number_14 (v := 0) (by decide) ?_
    refine r_istore (lv' := [(4, .int 0), (0, .ref m), (1, .ref b), (2, .int (nI c)), (3, .int (nI oo))]) d_Mm_number_15 (by decide) rfl ?_
    refine r_aload_n d_Mm_number_17 rfl 1 rfl ?_
    refine r_get fs_Mm_17 d_Mm_number_18 (q0 := 0) rfl rfl ?_
    refine r_iload_n d_Mm_number_21 rfl 4 rfl ?_
    refine r_iald d_Mm_number_22 (q0 := 2) rfl (vp_in_nI (by omega) (by omega)) (v := fl oo) (by rw [nI_clamp (by omega)]) ?_
    refine r_iconst d_Mm_number_23 (v := (-1)) (by decide) ?_
    refine r_icmp_eq (tgt := 31) d_Mm_number_24 (by decide) (fun c_24 => ?_) (fun c_24 => ?_)
    · refine r_iconst d_Mm_number_31 (v := 0) (by decide) ?_
      refine r_istore (lv' := [(5, .int 0), (4, .int 0), (0, .ref m), (1, .ref b), (2, .int (nI c)), (3, .int (nI oo))]) d_Mm_number_32 (by decide) rfl ?_
      refine r_aload_n d_Mm_number_34 rfl 3 rfl ?_
      refine r_iload_n d_Mm_number_35 rfl 4 rfl ?_
      refine r_cald d_Mm_number_36 (q0 := 1) rfl (vp_in_nI (by omega) (by omega)) (v := f c) (by rw [nI_clamp (by omega)]) ?_
      refine r_bipush d_Mm_number_37 (v := 107) (by decide) ?_
      refine r_icmp_ne (tgt := 47) d_Mm_number_39 (by decide) (fun c_39 => ?_) (fun c_39 => ?_)
      · refine r_aload_n d_Mm_number_47 rfl 3 rfl ?_
        refine r_iload_n d_Mm_number_48 rfl 5 rfl ?_
        refine r_cald d_Mm_number_49 (q0 := 1) rfl (vp_in_nI (by omega) (by omega)) (v := f oo) (by rw [nI_clamp (by omega)]) ?_
        refine r_bipush d_Mm_number_50 (v := 107) (by decide) ?_
        refine r_icmp_ne (tgt := 63) d_Mm_number_52 (by decide) (fun c_52 => ?_) (fun c_52 => ?_)
        · refine r_iload d_Mm_number_63 1 rfl ?_
          refine r_if_eq (tgt := 76) d_Mm_number_65 (by decide) (fun c_65 => ?_) (fun c_65 => ?_)
          · refine r_iload d_Mm_number_76 1 rfl ?_
            refine r_if_eq (tgt := 89) d_Mm_number_78 (by decide) (fun c_78 => ?_) (fun c_78 => ?_)
            · refine r_iload d_Mm_number_89 0 rfl ?_
              refine r_if_eq (tgt := 106) d_Mm_number_91 (by decide) (fun c_91 => ?_) (fun c_91 => ?_)
              · refine r_iconst d_Mm_number_106 (v := 4) (by decide) ?_
                refine r_iret d_Mm_number_107 rfl rfl ?_
                refine ⟨?_, rfl⟩
                unfold numM
                first | rw [if_pos (by first | exact Or.inl ⟨by assumption, by assumption⟩ | exact Or.inr ⟨by assumption, by assumption⟩)] | (rw [if_neg (by rintro (⟨h1, h2⟩ | ⟨h1, h2⟩) <;> contradiction)]; first | rw [if_pos ⟨by assumption, by assumption⟩] | (rw [if_neg (by rintro ⟨h1, h2⟩; contradiction)]; first | rw [if_pos (by first | exact Or.inl ⟨by assumption, by assumption⟩ | exact Or.inr ⟨by assumption, by assumption⟩)] | rw [if_neg (by rintro (⟨h1, h2⟩ | ⟨h1, h2⟩) <;> contradiction)]))
              · exact absurd c_91 (by decide)
            · exact absurd c_78 (by decide)
          · exact absurd c_65 (by decide)
        · refine r_iload d_Mm_number_55 1 rfl ?_
          refine r_if_eq (tgt := 63) d_Mm_number_57 (by decide) (fun c_57 => ?_) (fun c_57 => ?_)
          · refine r_iload d_Mm_number_63 1 rfl ?_
            refine r_if_eq (tgt := 76) d_Mm_number_65 (by decide) (fun c_65 => ?_) (fun c_65 => ?_)
            · refine r_iload d_Mm_number_76 1 rfl ?_
              refine r_if_eq (tgt := 89) d_Mm_number_78 (by decide) (fun c_78 => ?_) (fun c_78 => ?_)
              · refine r_iload d_Mm_number_89 0 rfl ?_
                refine r_if_eq (tgt := 106) d_Mm_number_91 (by decide) (fun c_91 => ?_) (fun c_91 => ?_)
                · refine r_iconst d_Mm_number_106 (v := 4) (by decide) ?_
                  refine r_iret d_Mm_number_107 rfl rfl ?_
                  refine ⟨?_, rfl⟩
                  unfold numM
                  first | rw [if_pos (by first | exact Or.inl ⟨by assumption, by assumption⟩ | exact Or.inr ⟨by assumption, by assumption⟩)] | (rw [if_neg (by rintro (⟨h1, h2⟩ | ⟨h1, h2⟩) <;> contradiction)]; first | rw [if_pos ⟨by assumption, by assumption⟩] | (rw [if_neg (by rintro ⟨h1, h2⟩; contradiction)]; first | rw [if_pos (by first | exact Or.inl ⟨by assumption, by assumption⟩ | exact Or.inr ⟨by assumption, by assumption⟩)] | rw [if_neg (by rintro (⟨h1, h2⟩ | ⟨h1, h2⟩) <;> contradiction)]))
                · exact absurd c_91 (by decide)
              · exact absurd c_78 (by decide)
            · exact absurd c_65 (by decide)
          · exact absurd c_57 (by decide)
      · refine r_iload d_Mm_number_42 0 rfl ?_
        refine r_if_ne (tgt := 60) d_Mm_number_44 (by decide) (fun c_44 => ?_) (fun c_44 => ?_)
        · exact absurd c_44 (by decide)
        · refine r_aload_n d_Mm_number_47 rfl 3 rfl ?_
          refine r_iload_n d_Mm_number_48 rfl 5 rfl ?_
          refine r_cald d_Mm_number_49 (q0 := 1) rfl (vp_in_nI (by omega) (by omega)) (v := f oo) (by rw [nI_clamp (by omega)]) ?_
          refine r_bipush d_Mm_number_50 (v := 107) (by decide) ?_
          refine r_icmp_ne (tgt := 63) d_Mm_number_52 (by decide) (fun c_52 => ?_) (fun c_52 => ?_)
          · refine r_iload d_Mm_number_63 1 rfl ?_
            refine r_if_eq (tgt := 76) d_Mm_number_65 (by decide) (fun c_65 => ?_) (fun c_65 => ?_)
            · refine r_iload d_Mm_number_76 1 rfl ?_
              refine r_if_eq (tgt := 89) d_Mm_number_78 (by decide) (fun c_78 => ?_) (fun c_78 => ?_)
              · refine r_iload d_Mm_number_89 0 rfl ?_
                refine r_if_eq (tgt := 106) d_Mm_number_91 (by decide) (fun c_91 => ?_) (fun c_91 => ?_)
                · refine r_iconst d_Mm_number_106 (v := 4) (by decide) ?_
                  refine r_iret d_Mm_number_107 rfl rfl ?_
                  refine ⟨?_, rfl⟩
                  unfold numM
                  first | rw [if_pos (by first | exact Or.inl ⟨by assumption, by assumption⟩ | exact Or.inr ⟨by assumption, by assumption⟩)] | (rw [if_neg (by rintro (⟨h1, h2⟩ | ⟨h1, h2⟩) <;> contradiction)]; first | rw [if_pos ⟨by assumption, by assumption⟩] | (rw [if_neg (by rintro ⟨h1, h2⟩; contradiction)]; first | rw [if_pos (by first | exact Or.inl ⟨by assumption, by assumption⟩ | exact Or.inr ⟨by assumption, by assumption⟩)] | rw [if_neg (by rintro (⟨h1, h2⟩ | ⟨h1, h2⟩) <;> contradiction)]))
                · exact absurd c_91 (by decide)
              · exact absurd c_78 (by decide)
            · exact absurd c_65 (by decide)
          · refine r_iload d_Mm_number_55 1 rfl ?_
            refine r_if_eq (tgt := 63) d_Mm_number_57 (by decide) (fun c_57 => ?_) (fun c_57 => ?_)
            · refine r_iload d_Mm_number_63 1 rfl ?_
              refine r_if_eq (tgt := 76) d_Mm_number_65 (by decide) (fun c_65 => ?_) (fun c_65 => ?_)
              · refine r_iload d_Mm_number_76 1 rfl ?_
                refine r_if_eq (tgt := 89) d_Mm_number_78 (by decide) (fun c_78 => ?_) (fun c_78 => ?_)
                · refine r_iload d_Mm_number_89 0 rfl ?_
                  refine r_if_eq (tgt := 106) d_Mm_number_91 (by decide) (fun c_91 => ?_) (fun c_91 => ?_)
                  · refine r_iconst d_Mm_number_106 (v := 4) (by decide) ?_
                    refine r_iret d_Mm_number_107 rfl rfl ?_
                    refine ⟨?_, rfl⟩
                    unfold numM
                    first | rw [if_pos (by first | exact Or.inl ⟨by assumption, by assumption⟩ | exact Or.inr ⟨by assumption, by assumption⟩)] | (rw [if_neg (by rintro (⟨h1, h2⟩ | ⟨h1, h2⟩) <;> contradiction)]; first | rw [if_pos ⟨by assumption, by assumption⟩] | (rw [if_neg (by rintro ⟨h1, h2⟩; contradiction)]; first | rw [if_pos (by first | exact Or.inl ⟨by assumption, by assumption⟩ | exact Or.inr ⟨by assumption, by assumption⟩)] | rw [if_neg (by rintro (⟨h1, h2⟩ | ⟨h1, h2⟩) <;> contradiction)]))
                  · exact absurd c_91 (by decide)
                · exact absurd c_78 (by decide)
              · exact absurd c_65 (by decide)
            · exact absurd c_57 (by decide)
    · refine r_iconst d_Mm_number_27 (v := 1) (by decide) ?_
      refine r_goto (tgt := 32) d_Mm_number_28 (by decide) ?_
      refine r_istore (lv' := [(5, .int 1), (4, .int 0), (0, .ref m), (1, .ref b), (2, .int (nI c)), (3, .int (nI oo))]) d_Mm_number_32 (by decide) rfl ?_
      refine r_aload_n d_Mm_number_34 rfl 3 rfl ?_
      refine r_iload_n d_Mm_number_35 rfl 4 rfl ?_
      refine r_cald d_Mm_number_36 (q0 := 1) rfl (vp_in_nI (by omega) (by omega)) (v := f c) (by rw [nI_clamp (by omega)]) ?_
      refine r_bipush d_Mm_number_37 (v := 107) (by decide) ?_
      refine r_icmp_ne (tgt := 47) d_Mm_number_39 (by decide) (fun c_39 => ?_) (fun c_39 => ?_)
      · refine r_aload_n d_Mm_number_47 rfl 3 rfl ?_
        refine r_iload_n d_Mm_number_48 rfl 5 rfl ?_
        refine r_cald d_Mm_number_49 (q0 := 1) rfl (vp_in_nI (by omega) (by omega)) (v := f oo) (by rw [nI_clamp (by omega)]) ?_
        refine r_bipush d_Mm_number_50 (v := 107) (by decide) ?_
        refine r_icmp_ne (tgt := 63) d_Mm_number_52 (by decide) (fun c_52 => ?_) (fun c_52 => ?_)
        · refine r_iload d_Mm_number_63 1 rfl ?_
          refine r_if_eq (tgt := 76) d_Mm_number_65 (by decide) (fun c_65 => ?_) (fun c_65 => ?_)
          · refine r_iload d_Mm_number_76 1 rfl ?_
            refine r_if_eq (tgt := 89) d_Mm_number_78 (by decide) (fun c_78 => ?_) (fun c_78 => ?_)
            · refine r_iload d_Mm_number_89 0 rfl ?_
              refine r_if_eq (tgt := 106) d_Mm_number_91 (by decide) (fun c_91 => ?_) (fun c_91 => ?_)
              · exact absurd c_91 (by decide)
              · refine r_aload_n d_Mm_number_94 rfl 3 rfl ?_
                refine r_iload_n d_Mm_number_95 rfl 4 rfl ?_
                refine r_cald d_Mm_number_96 (q0 := 1) rfl (vp_in_nI (by omega) (by omega)) (v := f c) (by rw [nI_clamp (by omega)]) ?_
                refine r_bipush d_Mm_number_97 (v := 111) (by decide) ?_
                refine r_icmp_ne (tgt := 106) d_Mm_number_99 (by decide) (fun c_99 => ?_) (fun c_99 => ?_)
                · refine r_iconst d_Mm_number_106 (v := 4) (by decide) ?_
                  refine r_iret d_Mm_number_107 rfl rfl ?_
                  refine ⟨?_, rfl⟩
                  unfold numM
                  first | rw [if_pos (by first | exact Or.inl ⟨by assumption, by assumption⟩ | exact Or.inr ⟨by assumption, by assumption⟩)] | (rw [if_neg (by rintro (⟨h1, h2⟩ | ⟨h1, h2⟩) <;> contradiction)]; first | rw [if_pos ⟨by assumption, by assumption⟩] | (rw [if_neg (by rintro ⟨h1, h2⟩; contradiction)]; first | rw [if_pos (by first | exact Or.inl ⟨by assumption, by assumption⟩ | exact Or.inr ⟨by assumption, by assumption⟩)] | rw [if_neg (by rintro (⟨h1, h2⟩ | ⟨h1, h2⟩) <;> contradiction)]))
                · refine r_iconst d_Mm_number_102 (v := 3) (by decide) ?_
                  refine r_goto (tgt := 107) d_Mm_number_103 (by decide) ?_
                  refine r_iret d_Mm_number_107 rfl rfl ?_
                  refine ⟨?_, rfl⟩
                  unfold numM
                  first | rw [if_pos (by first | exact Or.inl ⟨by assumption, by assumption⟩ | exact Or.inr ⟨by assumption, by assumption⟩)] | (rw [if_neg (by rintro (⟨h1, h2⟩ | ⟨h1, h2⟩) <;> contradiction)]; first | rw [if_pos ⟨by assumption, by assumption⟩] | (rw [if_neg (by rintro ⟨h1, h2⟩; contradiction)]; first | rw [if_pos (by first | exact Or.inl ⟨by assumption, by assumption⟩ | exact Or.inr ⟨by assumption, by assumption⟩)] | rw [if_neg (by rintro (⟨h1, h2⟩ | ⟨h1, h2⟩) <;> contradiction)]))
            · exact absurd c_78 (by decide)
          · exact absurd c_65 (by decide)
        · refine r_iload d_Mm_number_55 1 rfl ?_
          refine r_if_eq (tgt := 63) d_Mm_number_57 (by decide) (fun c_57 => ?_) (fun c_57 => ?_)
          · refine r_iload d_Mm_number_63 1 rfl ?_
            refine r_if_eq (tgt := 76) d_Mm_number_65 (by decide) (fun c_65 => ?_) (fun c_65 => ?_)
            · refine r_iload d_Mm_number_76 1 rfl ?_
              refine r_if_eq (tgt := 89) d_Mm_number_78 (by decide) (fun c_78 => ?_) (fun c_78 => ?_)
              · refine r_iload d_Mm_number_89 0 rfl ?_
                refine r_if_eq (tgt := 106) d_Mm_number_91 (by decide) (fun c_91 => ?_) (fun c_91 => ?_)
                · exact absurd c_91 (by decide)
                · refine r_aload_n d_Mm_number_94 rfl 3 rfl ?_
                  refine r_iload_n d_Mm_number_95 rfl 4 rfl ?_
                  refine r_cald d_Mm_number_96 (q0 := 1) rfl (vp_in_nI (by omega) (by omega)) (v := f c) (by rw [nI_clamp (by omega)]) ?_
                  refine r_bipush d_Mm_number_97 (v := 111) (by decide) ?_
                  refine r_icmp_ne (tgt := 106) d_Mm_number_99 (by decide) (fun c_99 => ?_) (fun c_99 => ?_)
                  · refine r_iconst d_Mm_number_106 (v := 4) (by decide) ?_
                    refine r_iret d_Mm_number_107 rfl rfl ?_
                    refine ⟨?_, rfl⟩
                    unfold numM
                    first | rw [if_pos (by first | exact Or.inl ⟨by assumption, by assumption⟩ | exact Or.inr ⟨by assumption, by assumption⟩)] | (rw [if_neg (by rintro (⟨h1, h2⟩ | ⟨h1, h2⟩) <;> contradiction)]; first | rw [if_pos ⟨by assumption, by assumption⟩] | (rw [if_neg (by rintro ⟨h1, h2⟩; contradiction)]; first | rw [if_pos (by first | exact Or.inl ⟨by assumption, by assumption⟩ | exact Or.inr ⟨by assumption, by assumption⟩)] | rw [if_neg (by rintro (⟨h1, h2⟩ | ⟨h1, h2⟩) <;> contradiction)]))
                  · refine r_iconst d_Mm_number_102 (v := 3) (by decide) ?_
                    refine r_goto (tgt := 107) d_Mm_number_103 (by decide) ?_
                    refine r_iret d_Mm_number_107 rfl rfl ?_
                    refine ⟨?_, rfl⟩
                    unfold numM
                    first | rw [if_pos (by first | exact Or.inl ⟨by assumption, by assumption⟩ | exact Or.inr ⟨by assumption, by assumption⟩)] | (rw [if_neg (by rintro (⟨h1, h2⟩ | ⟨h1, h2⟩) <;> contradiction)]; first | rw [if_pos ⟨by assumption, by assumption⟩] | (rw [if_neg (by rintro ⟨h1, h2⟩; contradiction)]; first | rw [if_pos (by first | exact Or.inl ⟨by assumption, by assumption⟩ | exact Or.inr ⟨by assumption, by assumption⟩)] | rw [if_neg (by rintro (⟨h1, h2⟩ | ⟨h1, h2⟩) <;> contradiction)]))
              · exact absurd c_78 (by decide)
            · exact absurd c_65 (by decide)
          · exact absurd c_57 (by decide)
      · refine r_iload d_Mm_number_42 0 rfl ?_
        refine r_if_ne (tgt := 60) d_Mm_number_44 (by decide) (fun c_44 => ?_) (fun c_44 => ?_)
        · refine r_bipush d_Mm_number_60 (v := 14) (by decide) ?_
          refine r_iret d_Mm_number_62 rfl rfl ?_
          refine ⟨?_, rfl⟩
          unfold numM
          first | rw [if_pos (by first | exact Or.inl ⟨by assumption, by assumption⟩ | exact Or.inr ⟨by assumption, by assumption⟩)] | (rw [if_neg (by rintro (⟨h1, h2⟩ | ⟨h1, h2⟩) <;> contradiction)]; first | rw [if_pos ⟨by assumption, by assumption⟩] | (rw [if_neg (by rintro ⟨h1, h2⟩; contradiction)]; first | rw [if_pos (by first | exact Or.inl ⟨by assumption, by assumption⟩ | exact Or.inr ⟨by assumption, by assumption⟩)] | rw [if_neg (by rintro (⟨h1, h2⟩ | ⟨h1, h2⟩) <;> contradiction)]))
        · exact absurd c_44 (by decide)
  · refine r_iconst d_Mm_number_10 (v := 1) (by decide) ?_
    refine r_goto (tgt := 15) d_Mm_number_11 (by decide) ?_
    refine r_istore (lv' := [(4, .int 1), (0, .ref m), (1, .ref b), (2, .int (nI c)), (3, .int (nI oo))]) d_Mm_number_15 (by decide) rfl ?_
    refine r_aload_n d_Mm_number_17 rfl 1 rfl ?_
    refine r_get fs_Mm_17 d_Mm_number_18 (q0 := 0) rfl rfl ?_
    refine r_iload_n d_Mm_number_21 rfl 4 rfl ?_
    refine r_iald d_Mm_number_22 (q0 := 2) rfl (vp_in_nI (by omega) (by omega)) (v := fl oo) (by rw [nI_clamp (by omega)]) ?_
    refine r_iconst d_Mm_number_23 (v := (-1)) (by decide) ?_
    refine r_icmp_eq (tgt := 31) d_Mm_number_24 (by decide) (fun c_24 => ?_) (fun c_24 => ?_)
    · refine r_iconst d_Mm_number_31 (v := 0) (by decide) ?_
      refine r_istore (lv' := [(5, .int 0), (4, .int 1), (0, .ref m), (1, .ref b), (2, .int (nI c)), (3, .int (nI oo))]) d_Mm_number_32 (by decide) rfl ?_
      refine r_aload_n d_Mm_number_34 rfl 3 rfl ?_
      refine r_iload_n d_Mm_number_35 rfl 4 rfl ?_
      refine r_cald d_Mm_number_36 (q0 := 1) rfl (vp_in_nI (by omega) (by omega)) (v := f c) (by rw [nI_clamp (by omega)]) ?_
      refine r_bipush d_Mm_number_37 (v := 107) (by decide) ?_
      refine r_icmp_ne (tgt := 47) d_Mm_number_39 (by decide) (fun c_39 => ?_) (fun c_39 => ?_)
      · refine r_aload_n d_Mm_number_47 rfl 3 rfl ?_
        refine r_iload_n d_Mm_number_48 rfl 5 rfl ?_
        refine r_cald d_Mm_number_49 (q0 := 1) rfl (vp_in_nI (by omega) (by omega)) (v := f oo) (by rw [nI_clamp (by omega)]) ?_
        refine r_bipush d_Mm_number_50 (v := 107) (by decide) ?_
        refine r_icmp_ne (tgt := 63) d_Mm_number_52 (by decide) (fun c_52 => ?_) (fun c_52 => ?_)
        · refine r_iload d_Mm_number_63 1 rfl ?_
          refine r_if_eq (tgt := 76) d_Mm_number_65 (by decide) (fun c_65 => ?_) (fun c_65 => ?_)
          · exact absurd c_65 (by decide)
          · refine r_iload d_Mm_number_68 0 rfl ?_
            refine r_if_eq (tgt := 76) d_Mm_number_70 (by decide) (fun c_70 => ?_) (fun c_70 => ?_)
            · refine r_iload d_Mm_number_76 1 rfl ?_
              refine r_if_eq (tgt := 89) d_Mm_number_78 (by decide) (fun c_78 => ?_) (fun c_78 => ?_)
              · exact absurd c_78 (by decide)
              · refine r_aload_n d_Mm_number_81 rfl 3 rfl ?_
                refine r_iload_n d_Mm_number_82 rfl 5 rfl ?_
                refine r_cald d_Mm_number_83 (q0 := 1) rfl (vp_in_nI (by omega) (by omega)) (v := f oo) (by rw [nI_clamp (by omega)]) ?_
                refine r_bipush d_Mm_number_84 (v := 111) (by decide) ?_
                refine r_icmp_eq (tgt := 102) d_Mm_number_86 (by decide) (fun c_86 => ?_) (fun c_86 => ?_)
                · refine r_iconst d_Mm_number_102 (v := 3) (by decide) ?_
                  refine r_goto (tgt := 107) d_Mm_number_103 (by decide) ?_
                  refine r_iret d_Mm_number_107 rfl rfl ?_
                  refine ⟨?_, rfl⟩
                  unfold numM
                  first | rw [if_pos (by first | exact Or.inl ⟨by assumption, by assumption⟩ | exact Or.inr ⟨by assumption, by assumption⟩)] | (rw [if_neg (by rintro (⟨h1, h2⟩ | ⟨h1, h2⟩) <;> contradiction)]; first | rw [if_pos ⟨by assumption, by assumption⟩] | (rw [if_neg (by rintro ⟨h1, h2⟩; contradiction)]; first | rw [if_pos (by first | exact Or.inl ⟨by assumption, by assumption⟩ | exact Or.inr ⟨by assumption, by assumption⟩)] | rw [if_neg (by rintro (⟨h1, h2⟩ | ⟨h1, h2⟩) <;> contradiction)]))
                · refine r_iload d_Mm_number_89 0 rfl ?_
                  refine r_if_eq (tgt := 106) d_Mm_number_91 (by decide) (fun c_91 => ?_) (fun c_91 => ?_)
                  · refine r_iconst d_Mm_number_106 (v := 4) (by decide) ?_
                    refine r_iret d_Mm_number_107 rfl rfl ?_
                    refine ⟨?_, rfl⟩
                    unfold numM
                    first | rw [if_pos (by first | exact Or.inl ⟨by assumption, by assumption⟩ | exact Or.inr ⟨by assumption, by assumption⟩)] | (rw [if_neg (by rintro (⟨h1, h2⟩ | ⟨h1, h2⟩) <;> contradiction)]; first | rw [if_pos ⟨by assumption, by assumption⟩] | (rw [if_neg (by rintro ⟨h1, h2⟩; contradiction)]; first | rw [if_pos (by first | exact Or.inl ⟨by assumption, by assumption⟩ | exact Or.inr ⟨by assumption, by assumption⟩)] | rw [if_neg (by rintro (⟨h1, h2⟩ | ⟨h1, h2⟩) <;> contradiction)]))
                  · exact absurd c_91 (by decide)
            · exact absurd c_70 (by decide)
        · refine r_iload d_Mm_number_55 1 rfl ?_
          refine r_if_eq (tgt := 63) d_Mm_number_57 (by decide) (fun c_57 => ?_) (fun c_57 => ?_)
          · exact absurd c_57 (by decide)
          · refine r_bipush d_Mm_number_60 (v := 14) (by decide) ?_
            refine r_iret d_Mm_number_62 rfl rfl ?_
            refine ⟨?_, rfl⟩
            unfold numM
            first | rw [if_pos (by first | exact Or.inl ⟨by assumption, by assumption⟩ | exact Or.inr ⟨by assumption, by assumption⟩)] | (rw [if_neg (by rintro (⟨h1, h2⟩ | ⟨h1, h2⟩) <;> contradiction)]; first | rw [if_pos ⟨by assumption, by assumption⟩] | (rw [if_neg (by rintro ⟨h1, h2⟩; contradiction)]; first | rw [if_pos (by first | exact Or.inl ⟨by assumption, by assumption⟩ | exact Or.inr ⟨by assumption, by assumption⟩)] | rw [if_neg (by rintro (⟨h1, h2⟩ | ⟨h1, h2⟩) <;> contradiction)]))
      · refine r_iload d_Mm_number_42 0 rfl ?_
        refine r_if_ne (tgt := 60) d_Mm_number_44 (by decide) (fun c_44 => ?_) (fun c_44 => ?_)
        · exact absurd c_44 (by decide)
        · refine r_aload_n d_Mm_number_47 rfl 3 rfl ?_
          refine r_iload_n d_Mm_number_48 rfl 5 rfl ?_
          refine r_cald d_Mm_number_49 (q0 := 1) rfl (vp_in_nI (by omega) (by omega)) (v := f oo) (by rw [nI_clamp (by omega)]) ?_
          refine r_bipush d_Mm_number_50 (v := 107) (by decide) ?_
          refine r_icmp_ne (tgt := 63) d_Mm_number_52 (by decide) (fun c_52 => ?_) (fun c_52 => ?_)
          · refine r_iload d_Mm_number_63 1 rfl ?_
            refine r_if_eq (tgt := 76) d_Mm_number_65 (by decide) (fun c_65 => ?_) (fun c_65 => ?_)
            · exact absurd c_65 (by decide)
            · refine r_iload d_Mm_number_68 0 rfl ?_
              refine r_if_eq (tgt := 76) d_Mm_number_70 (by decide) (fun c_70 => ?_) (fun c_70 => ?_)
              · refine r_iload d_Mm_number_76 1 rfl ?_
                refine r_if_eq (tgt := 89) d_Mm_number_78 (by decide) (fun c_78 => ?_) (fun c_78 => ?_)
                · exact absurd c_78 (by decide)
                · refine r_aload_n d_Mm_number_81 rfl 3 rfl ?_
                  refine r_iload_n d_Mm_number_82 rfl 5 rfl ?_
                  refine r_cald d_Mm_number_83 (q0 := 1) rfl (vp_in_nI (by omega) (by omega)) (v := f oo) (by rw [nI_clamp (by omega)]) ?_
                  refine r_bipush d_Mm_number_84 (v := 111) (by decide) ?_
                  refine r_icmp_eq (tgt := 102) d_Mm_number_86 (by decide) (fun c_86 => ?_) (fun c_86 => ?_)
                  · refine r_iconst d_Mm_number_102 (v := 3) (by decide) ?_
                    refine r_goto (tgt := 107) d_Mm_number_103 (by decide) ?_
                    refine r_iret d_Mm_number_107 rfl rfl ?_
                    refine ⟨?_, rfl⟩
                    unfold numM
                    first | rw [if_pos (by first | exact Or.inl ⟨by assumption, by assumption⟩ | exact Or.inr ⟨by assumption, by assumption⟩)] | (rw [if_neg (by rintro (⟨h1, h2⟩ | ⟨h1, h2⟩) <;> contradiction)]; first | rw [if_pos ⟨by assumption, by assumption⟩] | (rw [if_neg (by rintro ⟨h1, h2⟩; contradiction)]; first | rw [if_pos (by first | exact Or.inl ⟨by assumption, by assumption⟩ | exact Or.inr ⟨by assumption, by assumption⟩)] | rw [if_neg (by rintro (⟨h1, h2⟩ | ⟨h1, h2⟩) <;> contradiction)]))
                  · refine r_iload d_Mm_number_89 0 rfl ?_
                    refine r_if_eq (tgt := 106) d_Mm_number_91 (by decide) (fun c_91 => ?_) (fun c_91 => ?_)
                    · refine r_iconst d_Mm_number_106 (v := 4) (by decide) ?_
                      refine r_iret d_Mm_number_107 rfl rfl ?_
                      refine ⟨?_, rfl⟩
                      unfold numM
                      first | rw [if_pos (by first | exact Or.inl ⟨by assumption, by assumption⟩ | exact Or.inr ⟨by assumption, by assumption⟩)] | (rw [if_neg (by rintro (⟨h1, h2⟩ | ⟨h1, h2⟩) <;> contradiction)]; first | rw [if_pos ⟨by assumption, by assumption⟩] | (rw [if_neg (by rintro ⟨h1, h2⟩; contradiction)]; first | rw [if_pos (by first | exact Or.inl ⟨by assumption, by assumption⟩ | exact Or.inr ⟨by assumption, by assumption⟩)] | rw [if_neg (by rintro (⟨h1, h2⟩ | ⟨h1, h2⟩) <;> contradiction)]))
                    · exact absurd c_91 (by decide)
              · exact absurd c_70 (by decide)
          · refine r_iload d_Mm_number_55 1 rfl ?_
            refine r_if_eq (tgt := 63) d_Mm_number_57 (by decide) (fun c_57 => ?_) (fun c_57 => ?_)
            · exact absurd c_57 (by decide)
            · refine r_bipush d_Mm_number_60 (v := 14) (by decide) ?_
              refine r_iret d_Mm_number_62 rfl rfl ?_
              refine ⟨?_, rfl⟩
              unfold numM
              first | rw [if_pos (by first | exact Or.inl ⟨by assumption, by assumption⟩ | exact Or.inr ⟨by assumption, by assumption⟩)] | (rw [if_neg (by rintro (⟨h1, h2⟩ | ⟨h1, h2⟩) <;> contradiction)]; first | rw [if_pos ⟨by assumption, by assumption⟩] | (rw [if_neg (by rintro ⟨h1, h2⟩; contradiction)]; first | rw [if_pos (by first | exact Or.inl ⟨by assumption, by assumption⟩ | exact Or.inr ⟨by assumption, by assumption⟩)] | rw [if_neg (by rintro (⟨h1, h2⟩ | ⟨h1, h2⟩) <;> contradiction)]))
    · refine r_iconst d_Mm_number_27 (v := 1) (by decide) ?_
      refine r_goto (tgt := 32) d_Mm_number_28 (by decide) ?_
      refine r_istore (lv' := [(5, .int 1), (4, .int 1), (0, .ref m), (1, .ref b), (2, .int (nI c)), (3, .int (nI oo))]) d_Mm_number_32 (by decide) rfl ?_
      refine r_aload_n d_Mm_number_34 rfl 3 rfl ?_
      refine r_iload_n d_Mm_number_35 rfl 4 rfl ?_
      refine r_cald d_Mm_number_36 (q0 := 1) rfl (vp_in_nI (by omega) (by omega)) (v := f c) (by rw [nI_clamp (by omega)]) ?_
      refine r_bipush d_Mm_number_37 (v := 107) (by decide) ?_
      refine r_icmp_ne (tgt := 47) d_Mm_number_39 (by decide) (fun c_39 => ?_) (fun c_39 => ?_)
      · refine r_aload_n d_Mm_number_47 rfl 3 rfl ?_
        refine r_iload_n d_Mm_number_48 rfl 5 rfl ?_
        refine r_cald d_Mm_number_49 (q0 := 1) rfl (vp_in_nI (by omega) (by omega)) (v := f oo) (by rw [nI_clamp (by omega)]) ?_
        refine r_bipush d_Mm_number_50 (v := 107) (by decide) ?_
        refine r_icmp_ne (tgt := 63) d_Mm_number_52 (by decide) (fun c_52 => ?_) (fun c_52 => ?_)
        · refine r_iload d_Mm_number_63 1 rfl ?_
          refine r_if_eq (tgt := 76) d_Mm_number_65 (by decide) (fun c_65 => ?_) (fun c_65 => ?_)
          · exact absurd c_65 (by decide)
          · refine r_iload d_Mm_number_68 0 rfl ?_
            refine r_if_eq (tgt := 76) d_Mm_number_70 (by decide) (fun c_70 => ?_) (fun c_70 => ?_)
            · exact absurd c_70 (by decide)
            · refine r_bipush d_Mm_number_73 (v := 12) (by decide) ?_
              refine r_iret d_Mm_number_75 rfl rfl ?_
              refine ⟨?_, rfl⟩
              unfold numM
              first | rw [if_pos (by first | exact Or.inl ⟨by assumption, by assumption⟩ | exact Or.inr ⟨by assumption, by assumption⟩)] | (rw [if_neg (by rintro (⟨h1, h2⟩ | ⟨h1, h2⟩) <;> contradiction)]; first | rw [if_pos ⟨by assumption, by assumption⟩] | (rw [if_neg (by rintro ⟨h1, h2⟩; contradiction)]; first | rw [if_pos (by first | exact Or.inl ⟨by assumption, by assumption⟩ | exact Or.inr ⟨by assumption, by assumption⟩)] | rw [if_neg (by rintro (⟨h1, h2⟩ | ⟨h1, h2⟩) <;> contradiction)]))
        · refine r_iload d_Mm_number_55 1 rfl ?_
          refine r_if_eq (tgt := 63) d_Mm_number_57 (by decide) (fun c_57 => ?_) (fun c_57 => ?_)
          · exact absurd c_57 (by decide)
          · refine r_bipush d_Mm_number_60 (v := 14) (by decide) ?_
            refine r_iret d_Mm_number_62 rfl rfl ?_
            refine ⟨?_, rfl⟩
            unfold numM
            first | rw [if_pos (by first | exact Or.inl ⟨by assumption, by assumption⟩ | exact Or.inr ⟨by assumption, by assumption⟩)] | (rw [if_neg (by rintro (⟨h1, h2⟩ | ⟨h1, h2⟩) <;> contradiction)]; first | rw [if_pos ⟨by assumption, by assumption⟩] | (rw [if_neg (by rintro ⟨h1, h2⟩; contradiction)]; first | rw [if_pos (by first | exact Or.inl ⟨by assumption, by assumption⟩ | exact Or.inr ⟨by assumption, by assumption⟩)] | rw [if_neg (by rintro (⟨h1, h2⟩ | ⟨h1, h2⟩) <;> contradiction)]))
      · refine r_iload d_Mm_number_42 0 rfl ?_
        refine r_if_ne (tgt := 60) d_Mm_number_44 (by decide) (fun c_44 => ?_) (fun c_44 => ?_)
        · refine r_bipush d_Mm_number_60 (v := 14) (by decide) ?_
          refine r_iret d_Mm_number_62 rfl rfl ?_
          refine ⟨?_, rfl⟩
          unfold numM
          first | rw [if_pos (by first | exact Or.inl ⟨by assumption, by assumption⟩ | exact Or.inr ⟨by assumption, by assumption⟩)] | (rw [if_neg (by rintro (⟨h1, h2⟩ | ⟨h1, h2⟩) <;> contradiction)]; first | rw [if_pos ⟨by assumption, by assumption⟩] | (rw [if_neg (by rintro ⟨h1, h2⟩; contradiction)]; first | rw [if_pos (by first | exact Or.inl ⟨by assumption, by assumption⟩ | exact Or.inr ⟨by assumption, by assumption⟩)] | rw [if_neg (by rintro (⟨h1, h2⟩ | ⟨h1, h2⟩) <;> contradiction)]))
        · exact absurd c_44 (by decide)
set_option maxHeartbeats 4000000 in
set_option maxRecDepth 100000 in
theorem L_Mm_gains9_5 (g : zG) (m mp mf mh mn mt mz mc_ mq mgr ml mi mr mm mu mk mx : Nat) (th pt cl wa co_ fi bu ho lh mg wd fpi fal : Int32) (po de : Int64) (b : Nat) (f : Nat → Int32) (fl : Nat → Int32) (he : Nat → Int32) (c : Nat) (hc : c < 108) (w0 : zW) (n : Nat) : ∀ (d i : Nat), i ≤ 4 → 4 < i + d → DV g M_Mm_gains (fun o cs1 => o = .inl (some (.int (gaM f fl he c 4))) ∧ cs1 = [(m, .inr (12, [.int th, .ref mp, .int pt, .ref mf, .ref mh, .ref mn, .ref mt, .ref mz, .ref mc_, .ref mq, .ref mgr, .int cl, .int wa, .int co_, .int fi, .int bu, .int ho, .ref ml, .ref mi, .ref mr, .int lh, .int mg, .int wd, .int fpi, .int fal, .ref mm, .ref mu, .ref mk, .ref mx, .long po, .long de])), (b, .inl (1, 108, .inl f)), (mf, .inl (0, 108, .inl fl)), (mh, .inl (0, 108, .inl he))]) w0 n 5 [(4, .int (nI i)), (3, .int (gaM f fl he c i)), (0, .ref m), (1, .ref b), (2, .int (nI c))] [] [(m, .inr (12, [.int th, .ref mp, .int pt, .ref mf, .ref mh, .ref mn, .ref mt, .ref mz, .ref mc_, .ref mq, .ref mgr, .int cl, .int wa, .int co_, .int fi, .int bu, .int ho, .ref ml, .ref mi, .ref mr, .int lh, .int mg, .int wd, .int fpi, .int fal, .ref mm, .ref mu, .ref mk, .ref mx, .long po, .long de])), (b, .inl (1, 108, .inl f)), (mf, .inl (0, 108, .inl fl)), (mh, .inl (0, 108, .inl he))] 0 0 := by
  intro d
  induction d with
  | zero => intro i h1 h2 ; exact absurd h2 (by omega)
  | succ d ih =>
    intro i h1 h2 
    refine r_iload d_Mm_gains_5 0 rfl ?_
    refine r_iconst d_Mm_gains_7 (v := 4) (by decide) ?_
    refine r_icmp_ge (tgt := 79) d_Mm_gains_8 (by decide) (fun c_8 => ?_) (fun c_8 => ?_)
    · have hn := z_le (a := 4) (by omega) (by decide) c_8
      obtain rfl : i = 4 := by omega
      refine r_iload_n d_Mm_gains_79 rfl 1 rfl ?_
      refine r_iret d_Mm_gains_80 rfl rfl ?_
      exact ⟨rfl, rfl⟩
    · have hn := z_nle (a := 4) (by omega) (by decide) c_8
      refine r_iload_n d_Mm_gains_11 rfl 4 rfl ?_
      refine r_iload d_Mm_gains_12 0 rfl ?_
      refine r_callS (As := [.int (nI c), .int (nI i)]) (rest := []) (csC := []) (is := []) ln_Mm_119 w_st_Mm_beside ok_Mm_gains_Mm_beside d_Mm_gains_14 (C_Mm_beside g c i (by omega) (by omega)) rfl rfl (Nat.le_of_ble_eq_true rfl) rfl (by decide) (by omega) (by omega) (fun E cs1 hx => ?_) (fun v cs1 hx => ?_)
      · exact absurd hx.1 (by simp)
      · obtain ⟨e1, rfl⟩ := hx
        cases e1
        refine ⟨rfl, ?_⟩
        refine r_st (st2 := [.int (oI (bs c i))]) rfl ?_
        refine r_cs (cs2 := [(m, .inr (12, [.int th, .ref mp, .int pt, .ref mf, .ref mh, .ref mn, .ref mt, .ref mz, .ref mc_, .ref mq, .ref mgr, .int cl, .int wa, .int co_, .int fi, .int bu, .int ho, .ref ml, .ref mi, .ref mr, .int lh, .int mg, .int wd, .int fpi, .int fal, .ref mm, .ref mu, .ref mk, .ref mx, .long po, .long de])), (b, .inl (1, 108, .inl f)), (mf, .inl (0, 108, .inl fl)), (mh, .inl (0, 108, .inl he))]) rfl ?_
        refine r_istore (lv' := [(5, .int (oI (bs c i))), (4, .int (nI i)), (3, .int (gaM f fl he c i)), (0, .ref m), (1, .ref b), (2, .int (nI c))]) d_Mm_gains_17 (by decide) rfl ?_
        refine r_iload d_Mm_gains_19 0 rfl ?_
        refine r_iconst d_Mm_gains_21 (v := (-1)) (by decide) ?_
        refine r_icmp_ne (tgt := 30) d_Mm_gains_22 (by decide) (fun c_22 => ?_) (fun c_22 => ?_)
        · obtain ⟨oo, ho9⟩ := oI_nm c_22
          have hol := bs_lt hc ho9
          rw [ho9, show oI (some oo) = nI oo from rfl]
          refine r_aload_n d_Mm_gains_30 rfl 3 rfl ?_
          refine r_get fs_Mm_21 d_Mm_gains_31 (q0 := 0) rfl rfl ?_
          refine r_iload d_Mm_gains_34 0 rfl ?_
          refine r_iald d_Mm_gains_36 (q0 := 3) rfl (vp_in_nI (by omega) (by omega)) (v := he oo) (by rw [nI_clamp (by omega)]) ?_
          refine r_istore (lv' := [(6, .int (he oo)), (5, .int (nI oo)), (4, .int (nI i)), (3, .int (gaM f fl he c i)), (0, .ref m), (1, .ref b), (2, .int (nI c))]) d_Mm_gains_37 (by decide) rfl ?_
          refine r_iload_n d_Mm_gains_39 rfl 3 rfl ?_
          refine r_iload d_Mm_gains_40 0 rfl ?_
          refine r_aload_n d_Mm_gains_42 rfl 4 rfl ?_
          refine r_get fs_Mm_21 d_Mm_gains_43 (q0 := 0) rfl rfl ?_
          refine r_iload_n d_Mm_gains_46 rfl 6 rfl ?_
          refine r_iald d_Mm_gains_47 (q0 := 3) rfl (vp_in_nI (by omega) (by omega)) (v := he c) (by rw [nI_clamp (by omega)]) ?_
          refine r_isub d_Mm_gains_48 (v := (he oo) - (he c)) rfl ?_
          refine r_iload d_Mm_gains_49 1 rfl ?_
          refine r_iconst d_Mm_gains_51 (v := (-1)) (by decide) ?_
          refine r_icmp_ne (tgt := 59) d_Mm_gains_52 (by decide) (fun c_52 => ?_) (fun c_52 => ?_)
          · refine r_aload_n d_Mm_gains_59 rfl 4 rfl ?_
            refine r_aload_n d_Mm_gains_60 rfl 5 rfl ?_
            refine r_iload_n d_Mm_gains_61 rfl 6 rfl ?_
            refine r_iload d_Mm_gains_62 1 rfl ?_
            refine r_callV (As := [.ref b, .int (nI c), .int (nI oo)]) (rest := [.int ((he oo) - (he c)), .int (gaM f fl he c i)]) (csC := [(m, .inr (12, [.int th, .ref mp, .int pt, .ref mf, .ref mh, .ref mn, .ref mt, .ref mz, .ref mc_, .ref mq, .ref mgr, .int cl, .int wa, .int co_, .int fi, .int bu, .int ho, .ref ml, .ref mi, .ref mr, .int lh, .int mg, .int wd, .int fpi, .int fal, .ref mm, .ref mu, .ref mk, .ref mx, .long po, .long de])), (b, .inl (1, 108, .inl f)), (mf, .inl (0, 108, .inl fl))]) (is := [0, 1, 2]) (q0 := 0) rfl rfl ln_Mm_150 w_im_Mm_number w_se_Mm_number ok_Mm_gains_Mm_number d_Mm_gains_64 (C_Mm_number9 g m mp mf mh mn mt mz mc_ mq mgr ml mi mr mm mu mk mx th pt cl wa co_ fi bu ho lh mg wd fpi fal po de b f fl c oo hc hol) rfl rfl (Nat.le_of_ble_eq_true rfl) rfl (by decide) (by omega) (by omega) (fun E cs1 hx => ?_) (fun v cs1 hx => ?_)
            · exact absurd hx.1 (by simp)
            · obtain ⟨e1, rfl⟩ := hx
              cases e1
              refine ⟨rfl, ?_⟩
              refine r_st (st2 := [.int (numM f fl c oo), .int ((he oo) - (he c)), .int (gaM f fl he c i)]) rfl ?_
              refine r_cs (cs2 := [(m, .inr (12, [.int th, .ref mp, .int pt, .ref mf, .ref mh, .ref mn, .ref mt, .ref mz, .ref mc_, .ref mq, .ref mgr, .int cl, .int wa, .int co_, .int fi, .int bu, .int ho, .ref ml, .ref mi, .ref mr, .int lh, .int mg, .int wd, .int fpi, .int fal, .ref mm, .ref mu, .ref mk, .ref mx, .long po, .long de])), (b, .inl (1, 108, .inl f)), (mf, .inl (0, 108, .inl fl)), (mh, .inl (0, 108, .inl he))]) rfl ?_
              refine r_imul d_Mm_gains_67 (v := ((he oo) - (he c)) * (numM f fl c oo)) rfl ?_
              refine r_bipush d_Mm_gains_68 (v := 64) (by decide) ?_
              refine r_idiv d_Mm_gains_70 (v := (((he oo) - (he c)) * (numM f fl c oo)) / 64) (by decide) rfl ?_
              refine r_iadd d_Mm_gains_71 (v := (gaM f fl he c i) + ((((he oo) - (he c)) * (numM f fl c oo)) / 64)) rfl ?_
              refine r_istore_n (lv' := [(3, .int ((gaM f fl he c i) + ((((he oo) - (he c)) * (numM f fl c oo)) / 64))), (6, .int (he oo)), (5, .int (nI oo)), (4, .int (nI i)), (0, .ref m), (1, .ref b), (2, .int (nI c))]) d_Mm_gains_72 rfl (by decide) rfl ?_
              refine r_iinc (lv' := [(4, .int (nI (i + 1))), (3, .int ((gaM f fl he c i) + ((((he oo) - (he c)) * (numM f fl c oo)) / 64))), (6, .int (he oo)), (5, .int (nI oo)), (0, .ref m), (1, .ref b), (2, .int (nI c))]) (v := nI (i + 1)) d_Mm_gains_73 (j := 3) rfl (nI_add _ _) (by decide) rfl ?_
              refine r_goto (tgt := 5) d_Mm_gains_76 (by decide) ?_
              refine r_lv (lv' := [(4, .int (nI (i + 1))), (3, .int ((gaM f fl he c i) + ((((he oo) - (he c)) * (numM f fl c oo)) / 64))), (0, .ref m), (1, .ref b), (2, .int (nI c))]) [0, 1, 4, 5, 6] rfl ?_
              refine r_lvE (lv2 := [(4, .int (nI (i + 1))), (3, .int (gaM f fl he c (i + 1))), (0, .ref m), (1, .ref b), (2, .int (nI c))]) (by first | (rw [gaM_n ho9] <;> rfl) | (rw [gaM_s ho9] <;> rfl)) ?_
              refine r_cs (cs2 := [(m, .inr (12, [.int th, .ref mp, .int pt, .ref mf, .ref mh, .ref mn, .ref mt, .ref mz, .ref mc_, .ref mq, .ref mgr, .int cl, .int wa, .int co_, .int fi, .int bu, .int ho, .ref ml, .ref mi, .ref mr, .int lh, .int mg, .int wd, .int fpi, .int fal, .ref mm, .ref mu, .ref mk, .ref mx, .long po, .long de])), (b, .inl (1, 108, .inl f)), (mf, .inl (0, 108, .inl fl)), (mh, .inl (0, 108, .inl he))]) (rfl) ?_
              exact ih (i + 1) (by omega) (by omega)
          · exact absurd c_52 (nI_nm1 (by omega))
        · have ho9 := oI_nn hc c_22
          refine r_bipush d_Mm_gains_25 (v := 20) (by decide) ?_
          refine r_goto (tgt := 37) d_Mm_gains_27 (by decide) ?_
          refine r_istore (lv' := [(6, .int 20), (5, .int (oI (bs c i))), (4, .int (nI i)), (3, .int (gaM f fl he c i)), (0, .ref m), (1, .ref b), (2, .int (nI c))]) d_Mm_gains_37 (by decide) rfl ?_
          refine r_iload_n d_Mm_gains_39 rfl 3 rfl ?_
          refine r_iload d_Mm_gains_40 0 rfl ?_
          refine r_aload_n d_Mm_gains_42 rfl 4 rfl ?_
          refine r_get fs_Mm_21 d_Mm_gains_43 (q0 := 0) rfl rfl ?_
          refine r_iload_n d_Mm_gains_46 rfl 6 rfl ?_
          refine r_iald d_Mm_gains_47 (q0 := 3) rfl (vp_in_nI (by omega) (by omega)) (v := he c) (by rw [nI_clamp (by omega)]) ?_
          refine r_isub d_Mm_gains_48 (v := 20 - (he c)) rfl ?_
          refine r_iload d_Mm_gains_49 1 rfl ?_
          refine r_iconst d_Mm_gains_51 (v := (-1)) (by decide) ?_
          refine r_icmp_ne (tgt := 59) d_Mm_gains_52 (by decide) (fun c_52 => ?_) (fun c_52 => ?_)
          · exact absurd c_22 c_52
          · refine r_iconst d_Mm_gains_55 (v := 4) (by decide) ?_
            refine r_goto (tgt := 67) d_Mm_gains_56 (by decide) ?_
            refine r_imul d_Mm_gains_67 (v := (20 - (he c)) * 4) rfl ?_
            refine r_bipush d_Mm_gains_68 (v := 64) (by decide) ?_
            refine r_idiv d_Mm_gains_70 (v := ((20 - (he c)) * 4) / 64) (by decide) rfl ?_
            refine r_iadd d_Mm_gains_71 (v := (gaM f fl he c i) + (((20 - (he c)) * 4) / 64)) rfl ?_
            refine r_istore_n (lv' := [(3, .int ((gaM f fl he c i) + (((20 - (he c)) * 4) / 64))), (6, .int 20), (5, .int (oI (bs c i))), (4, .int (nI i)), (0, .ref m), (1, .ref b), (2, .int (nI c))]) d_Mm_gains_72 rfl (by decide) rfl ?_
            refine r_iinc (lv' := [(4, .int (nI (i + 1))), (3, .int ((gaM f fl he c i) + (((20 - (he c)) * 4) / 64))), (6, .int 20), (5, .int (oI (bs c i))), (0, .ref m), (1, .ref b), (2, .int (nI c))]) (v := nI (i + 1)) d_Mm_gains_73 (j := 3) rfl (nI_add _ _) (by decide) rfl ?_
            refine r_goto (tgt := 5) d_Mm_gains_76 (by decide) ?_
            refine r_lv (lv' := [(4, .int (nI (i + 1))), (3, .int ((gaM f fl he c i) + (((20 - (he c)) * 4) / 64))), (0, .ref m), (1, .ref b), (2, .int (nI c))]) [0, 1, 4, 5, 6] rfl ?_
            refine r_lvE (lv2 := [(4, .int (nI (i + 1))), (3, .int (gaM f fl he c (i + 1))), (0, .ref m), (1, .ref b), (2, .int (nI c))]) (by first | (rw [gaM_n ho9] <;> rfl) | (rw [gaM_s ho9] <;> rfl)) ?_
            refine r_cs (cs2 := [(m, .inr (12, [.int th, .ref mp, .int pt, .ref mf, .ref mh, .ref mn, .ref mt, .ref mz, .ref mc_, .ref mq, .ref mgr, .int cl, .int wa, .int co_, .int fi, .int bu, .int ho, .ref ml, .ref mi, .ref mr, .int lh, .int mg, .int wd, .int fpi, .int fal, .ref mm, .ref mu, .ref mk, .ref mx, .long po, .long de])), (b, .inl (1, 108, .inl f)), (mf, .inl (0, 108, .inl fl)), (mh, .inl (0, 108, .inl he))]) (rfl) ?_
            exact ih (i + 1) (by omega) (by omega)
set_option maxHeartbeats 4000000 in
set_option maxRecDepth 100000 in
theorem C_Mm_gains9 (g : zG) (m mp mf mh mn mt mz mc_ mq mgr ml mi mr mm mu mk mx : Nat) (th pt cl wa co_ fi bu ho lh mg wd fpi fal : Int32) (po de : Int64) (b : Nat) (f : Nat → Int32) (fl : Nat → Int32) (he : Nat → Int32) (c : Nat) (hc : c < 108) : CT g M_Mm_gains [.ref m, .ref b, .int (nI c)] [(m, .inr (12, [.int th, .ref mp, .int pt, .ref mf, .ref mh, .ref mn, .ref mt, .ref mz, .ref mc_, .ref mq, .ref mgr, .int cl, .int wa, .int co_, .int fi, .int bu, .int ho, .ref ml, .ref mi, .ref mr, .int lh, .int mg, .int wd, .int fpi, .int fal, .ref mm, .ref mu, .ref mk, .ref mx, .long po, .long de])), (b, .inl (1, 108, .inl f)), (mf, .inl (0, 108, .inl fl)), (mh, .inl (0, 108, .inl he))] (fun o cs1 => o = .inl (some (.int (gaM f fl he c 4))) ∧ cs1 = [(m, .inr (12, [.int th, .ref mp, .int pt, .ref mf, .ref mh, .ref mn, .ref mt, .ref mz, .ref mc_, .ref mq, .ref mgr, .int cl, .int wa, .int co_, .int fi, .int bu, .int ho, .ref ml, .ref mi, .ref mr, .int lh, .int mg, .int wd, .int fpi, .int fal, .ref mm, .ref mu, .ref mk, .ref mx, .long po, .long de])), (b, .inl (1, 108, .inl f)), (mf, .inl (0, 108, .inl fl)), (mh, .inl (0, 108, .inl he))]) 0 0 := by
  refine z_of (by decide) rfl (Nat.le_of_ble_eq_true rfl) (fun w0 => ?_)
  refine r_lvE (lv2 := [(0, .ref m), (1, .ref b), (2, .int (nI c))]) rfl ?_
  refine r_iconst d_Mm_gains_0 (v := 0) (by decide) ?_
  refine r_istore_n (lv' := [(3, .int 0), (0, .ref m), (1, .ref b), (2, .int (nI c))]) d_Mm_gains_1 rfl (by decide) rfl ?_
  refine r_iconst d_Mm_gains_2 (v := 0) (by decide) ?_
  refine r_istore (lv' := [(4, .int 0), (3, .int 0), (0, .ref m), (1, .ref b), (2, .int (nI c))]) d_Mm_gains_3 (by decide) rfl ?_
  refine r_lvE (lv2 := [(4, .int (nI 0)), (3, .int (gaM f fl he c 0)), (0, .ref m), (1, .ref b), (2, .int (nI c))]) (rfl) ?_
  refine r_cs (cs2 := [(m, .inr (12, [.int th, .ref mp, .int pt, .ref mf, .ref mh, .ref mn, .ref mt, .ref mz, .ref mc_, .ref mq, .ref mgr, .int cl, .int wa, .int co_, .int fi, .int bu, .int ho, .ref ml, .ref mi, .ref mr, .int lh, .int mg, .int wd, .int fpi, .int fal, .ref mm, .ref mu, .ref mk, .ref mx, .long po, .long de])), (b, .inl (1, 108, .inl f)), (mf, .inl (0, 108, .inl fl)), (mh, .inl (0, 108, .inl he))]) (rfl) ?_
  exact L_Mm_gains9_5 g m mp mf mh mn mt mz mc_ mq mgr ml mi mr mm mu mk mx th pt cl wa co_ fi bu ho lh mg wd fpi fal po de b f fl he c hc w0 _  (4 + 1) 0 (Nat.zero_le _) (by omega)
set_option maxHeartbeats 4000000 in
set_option maxRecDepth 100000 in
theorem L_Mm_freezeStep9_38 (g : zG) (m mp mf mh mn mt mz mc_ mq mgr ml mi mr mm mu mk mx : Nat) (th pt cl wa co_ fi bu ho lh mg wd fpi fal : Int32) (po de : Int64) (b : Nat) (f : Nat → Int32) (fl : Nat → Int32) (he nx mtt fz : Nat → Int32) (st : Int32) (w0 : zW) (n : Nat) : ∀ (d i : Nat), i ≤ 108 → 108 < i + d → DV g M_Mm_freezeStep (fun o cs1 => o = .inl (some (.int ((fsF f fl he nx mtt fz st).1.2.2.2))) ∧ cs1 = [(m, .inr (12, [.int th, .ref mp, .int pt, .ref mf, .ref mh, .ref mn, .ref mt, .ref mz, .ref mc_, .ref mq, .ref mgr, .int cl, .int wa, .int co_, .int fi, .int bu, .int ho, .ref ml, .ref mi, .ref mr, .int lh, .int mg, .int wd, .int fpi, .int fal, .ref mm, .ref mu, .ref mk, .ref mx, .long po, .long de])), (b, .inl (1, 108, .inl f)), (mf, .inl (0, 108, .inl fl)), (mh, .inl (0, 108, .inl ((fsF f fl he nx mtt fz st).1.1))), (mn, .inl (0, 108, .inl ((fsF f fl he nx mtt fz st).2))), (mt, .inl (0, 108, .inl ((fsF f fl he nx mtt fz st).1.2.1))), (mz, .inl (0, 108, .inl ((fsF f fl he nx mtt fz st).1.2.2.1)))]) w0 n 38 [(4, .int (nI i)), (3, .int ((fsM fl (fa_fill (fun k => he k + gaM f fl he k 4) nx 108) st (he, mtt, fz, 0) i).2.2.2)), (0, .ref m), (1, .ref b), (2, .int st)] [] [(m, .inr (12, [.int th, .ref mp, .int pt, .ref mf, .ref mh, .ref mn, .ref mt, .ref mz, .ref mc_, .ref mq, .ref mgr, .int cl, .int wa, .int co_, .int fi, .int bu, .int ho, .ref ml, .ref mi, .ref mr, .int lh, .int mg, .int wd, .int fpi, .int fal, .ref mm, .ref mu, .ref mk, .ref mx, .long po, .long de])), (b, .inl (1, 108, .inl f)), (mf, .inl (0, 108, .inl fl)), (mh, .inl (0, 108, .inl ((fsM fl (fa_fill (fun k => he k + gaM f fl he k 4) nx 108) st (he, mtt, fz, 0) i).1))), (mn, .inl (0, 108, .inl (fa_fill (fun k => he k + gaM f fl he k 4) nx 108))), (mt, .inl (0, 108, .inl ((fsM fl (fa_fill (fun k => he k + gaM f fl he k 4) nx 108) st (he, mtt, fz, 0) i).2.1))), (mz, .inl (0, 108, .inl ((fsM fl (fa_fill (fun k => he k + gaM f fl he k 4) nx 108) st (he, mtt, fz, 0) i).2.2.1)))] 0 0 := by
  intro d
  induction d with
  | zero => intro i h1 h2 ; exact absurd h2 (by omega)
  | succ d ih =>
    intro i h1 h2 
    refine r_iload d_Mm_freezeStep_38 0 rfl ?_
    refine r_bipush d_Mm_freezeStep_40 (v := 108) (by decide) ?_
    refine r_icmp_ge (tgt := 183) d_Mm_freezeStep_42 (by decide) (fun c_42 => ?_) (fun c_42 => ?_)
    · have hn := z_le (a := 108) (by omega) (by decide) c_42
      obtain rfl : i = 108 := by omega
      refine r_iload_n d_Mm_freezeStep_183 rfl 1 rfl ?_
      refine r_iret d_Mm_freezeStep_184 rfl (z_nar01 (fsM_01 (Or.inl rfl) 108)) ?_
      refine ⟨?_, ?_⟩
      · rw [fsF_1]
      · rw [fsF_1, fsF_2]
    · have hn := z_nle (a := 108) (by omega) (by decide) c_42
      refine r_aload_n d_Mm_freezeStep_45 rfl 2 rfl ?_
      refine r_get fs_Mm_21 d_Mm_freezeStep_46 (q0 := 0) rfl rfl ?_
      refine r_iload d_Mm_freezeStep_49 0 rfl ?_
      refine r_aload_n d_Mm_freezeStep_51 rfl 2 rfl ?_
      refine r_get fs_Mm_24 d_Mm_freezeStep_52 (q0 := 0) rfl rfl ?_
      refine r_iload d_Mm_freezeStep_55 0 rfl ?_
      refine r_iald d_Mm_freezeStep_57 (q0 := 4) rfl (vp_in_nI (by omega) (by omega)) (v := (fa_fill (fun k => he k + gaM f fl he k 4) nx 108) i) (by rw [nI_clamp (by omega)]) ?_
      refine r_iast d_Mm_freezeStep_58 (q0 := 3) rfl (vp_in_nI (by omega) (by omega)) (f' := upd ((fsM fl (fa_fill (fun k => he k + gaM f fl he k 4) nx 108) st (he, mtt, fz, 0) i).1) i ((fa_fill (fun k => he k + gaM f fl he k 4) nx 108) i)) (by rw [nI_clamp (by omega)]) (cs' := [(m, .inr (12, [.int th, .ref mp, .int pt, .ref mf, .ref mh, .ref mn, .ref mt, .ref mz, .ref mc_, .ref mq, .ref mgr, .int cl, .int wa, .int co_, .int fi, .int bu, .int ho, .ref ml, .ref mi, .ref mr, .int lh, .int mg, .int wd, .int fpi, .int fal, .ref mm, .ref mu, .ref mk, .ref mx, .long po, .long de])), (b, .inl (1, 108, .inl f)), (mf, .inl (0, 108, .inl fl)), (mh, .inl (0, 108, .inl (upd ((fsM fl (fa_fill (fun k => he k + gaM f fl he k 4) nx 108) st (he, mtt, fz, 0) i).1) i ((fa_fill (fun k => he k + gaM f fl he k 4) nx 108) i)))), (mn, .inl (0, 108, .inl (fa_fill (fun k => he k + gaM f fl he k 4) nx 108))), (mt, .inl (0, 108, .inl ((fsM fl (fa_fill (fun k => he k + gaM f fl he k 4) nx 108) st (he, mtt, fz, 0) i).2.1))), (mz, .inl (0, 108, .inl ((fsM fl (fa_fill (fun k => he k + gaM f fl he k 4) nx 108) st (he, mtt, fz, 0) i).2.2.1)))]) rfl ?_
      refine r_aload_n d_Mm_freezeStep_59 rfl 2 rfl ?_
      refine r_get fs_Mm_17 d_Mm_freezeStep_60 (q0 := 0) rfl rfl ?_
      refine r_iload d_Mm_freezeStep_63 0 rfl ?_
      refine r_iald d_Mm_freezeStep_65 (q0 := 2) rfl (vp_in_nI (by omega) (by omega)) (v := fl i) (by rw [nI_clamp (by omega)]) ?_
      refine r_iconst d_Mm_freezeStep_66 (v := (-1)) (by decide) ?_
      refine r_icmp_eq (tgt := 146) d_Mm_freezeStep_67 (by decide) (fun c_67 => ?_) (fun c_67 => ?_)
      · have hA : ¬ (¬ fl i = -1 ∧ (fsM fl (fa_fill (fun k => he k + gaM f fl he k 4) nx 108) st (he, mtt, fz, 0) i).2.2.1 i = 0 ∧ (fa_fill (fun k => he k + gaM f fl he k 4) nx 108) i < 1150) := fun q => q.1 c_67
        refine r_iload_n d_Mm_freezeStep_146 rfl 1 rfl ?_
        refine r_if_ne (tgt := 171) d_Mm_freezeStep_147 (by decide) (fun c_147 => ?_) (fun c_147 => ?_)
        · have hL : lfM fl i ((fsM fl (fa_fill (fun k => he k + gaM f fl he k 4) nx 108) st (he, mtt, fz, 0) i).2.2.1 i) (fsM fl (fa_fill (fun k => he k + gaM f fl he k 4) nx 108) st (he, mtt, fz, 0) i).2.2.2 = 1 := if_pos c_147
          refine r_iconst d_Mm_freezeStep_171 (v := 1) (by decide) ?_
          refine r_goto (tgt := 176) d_Mm_freezeStep_172 (by decide) ?_
          refine r_istore_n (lv' := [(3, .int 1), (4, .int (nI i)), (0, .ref m), (1, .ref b), (2, .int st)]) d_Mm_freezeStep_176 rfl (by decide) rfl ?_
          refine r_iinc (lv' := [(4, .int (nI (i + 1))), (3, .int 1), (0, .ref m), (1, .ref b), (2, .int st)]) (v := nI (i + 1)) d_Mm_freezeStep_177 (j := 1) rfl (nI_add _ _) (by decide) rfl ?_
          refine r_goto (tgt := 38) d_Mm_freezeStep_180 (by decide) ?_
          refine r_lvE (lv2 := [(4, .int (nI (i + 1))), (3, .int ((fsM fl (fa_fill (fun k => he k + gaM f fl he k 4) nx 108) st (he, mtt, fz, 0) (i + 1)).2.2.2)), (0, .ref m), (1, .ref b), (2, .int st)]) (by first | contradiction | (rw [fsM_a hA hB, hL] <;> rfl) | (rw [fsM_b hA hB, hL] <;> rfl) | (rw [fsM_n hA, hL] <;> rfl)) ?_
          refine r_cs (cs2 := [(m, .inr (12, [.int th, .ref mp, .int pt, .ref mf, .ref mh, .ref mn, .ref mt, .ref mz, .ref mc_, .ref mq, .ref mgr, .int cl, .int wa, .int co_, .int fi, .int bu, .int ho, .ref ml, .ref mi, .ref mr, .int lh, .int mg, .int wd, .int fpi, .int fal, .ref mm, .ref mu, .ref mk, .ref mx, .long po, .long de])), (b, .inl (1, 108, .inl f)), (mf, .inl (0, 108, .inl fl)), (mh, .inl (0, 108, .inl ((fsM fl (fa_fill (fun k => he k + gaM f fl he k 4) nx 108) st (he, mtt, fz, 0) (i + 1)).1))), (mn, .inl (0, 108, .inl (fa_fill (fun k => he k + gaM f fl he k 4) nx 108))), (mt, .inl (0, 108, .inl ((fsM fl (fa_fill (fun k => he k + gaM f fl he k 4) nx 108) st (he, mtt, fz, 0) (i + 1)).2.1))), (mz, .inl (0, 108, .inl ((fsM fl (fa_fill (fun k => he k + gaM f fl he k 4) nx 108) st (he, mtt, fz, 0) (i + 1)).2.2.1)))]) (by first | contradiction | (rw [fsM_a hA hB] <;> rfl) | (rw [fsM_b hA hB] <;> rfl) | (rw [fsM_n hA] <;> rfl)) ?_
          exact ih (i + 1) (by omega) (by omega)
        · refine r_aload_n d_Mm_freezeStep_150 rfl 2 rfl ?_
          refine r_get fs_Mm_17 d_Mm_freezeStep_151 (q0 := 0) rfl rfl ?_
          refine r_iload d_Mm_freezeStep_154 0 rfl ?_
          refine r_iald d_Mm_freezeStep_156 (q0 := 2) rfl (vp_in_nI (by omega) (by omega)) (v := fl i) (by rw [nI_clamp (by omega)]) ?_
          refine r_iconst d_Mm_freezeStep_157 (v := (-1)) (by decide) ?_
          refine r_icmp_eq (tgt := 175) d_Mm_freezeStep_158 (by decide) (fun c_158 => ?_) (fun c_158 => ?_)
          · have hL : lfM fl i ((fsM fl (fa_fill (fun k => he k + gaM f fl he k 4) nx 108) st (he, mtt, fz, 0) i).2.2.1 i) (fsM fl (fa_fill (fun k => he k + gaM f fl he k 4) nx 108) st (he, mtt, fz, 0) i).2.2.2 = 0 := by unfold lfM; rw [if_neg (fun q => q c_147), if_neg (fun q => q.1 c_158)]
            refine r_iconst d_Mm_freezeStep_175 (v := 0) (by decide) ?_
            refine r_istore_n (lv' := [(3, .int 0), (4, .int (nI i)), (0, .ref m), (1, .ref b), (2, .int st)]) d_Mm_freezeStep_176 rfl (by decide) rfl ?_
            refine r_iinc (lv' := [(4, .int (nI (i + 1))), (3, .int 0), (0, .ref m), (1, .ref b), (2, .int st)]) (v := nI (i + 1)) d_Mm_freezeStep_177 (j := 1) rfl (nI_add _ _) (by decide) rfl ?_
            refine r_goto (tgt := 38) d_Mm_freezeStep_180 (by decide) ?_
            refine r_lvE (lv2 := [(4, .int (nI (i + 1))), (3, .int ((fsM fl (fa_fill (fun k => he k + gaM f fl he k 4) nx 108) st (he, mtt, fz, 0) (i + 1)).2.2.2)), (0, .ref m), (1, .ref b), (2, .int st)]) (by first | contradiction | (rw [fsM_a hA hB, hL] <;> rfl) | (rw [fsM_b hA hB, hL] <;> rfl) | (rw [fsM_n hA, hL] <;> rfl)) ?_
            refine r_cs (cs2 := [(m, .inr (12, [.int th, .ref mp, .int pt, .ref mf, .ref mh, .ref mn, .ref mt, .ref mz, .ref mc_, .ref mq, .ref mgr, .int cl, .int wa, .int co_, .int fi, .int bu, .int ho, .ref ml, .ref mi, .ref mr, .int lh, .int mg, .int wd, .int fpi, .int fal, .ref mm, .ref mu, .ref mk, .ref mx, .long po, .long de])), (b, .inl (1, 108, .inl f)), (mf, .inl (0, 108, .inl fl)), (mh, .inl (0, 108, .inl ((fsM fl (fa_fill (fun k => he k + gaM f fl he k 4) nx 108) st (he, mtt, fz, 0) (i + 1)).1))), (mn, .inl (0, 108, .inl (fa_fill (fun k => he k + gaM f fl he k 4) nx 108))), (mt, .inl (0, 108, .inl ((fsM fl (fa_fill (fun k => he k + gaM f fl he k 4) nx 108) st (he, mtt, fz, 0) (i + 1)).2.1))), (mz, .inl (0, 108, .inl ((fsM fl (fa_fill (fun k => he k + gaM f fl he k 4) nx 108) st (he, mtt, fz, 0) (i + 1)).2.2.1)))]) (by first | contradiction | (rw [fsM_a hA hB] <;> rfl) | (rw [fsM_b hA hB] <;> rfl) | (rw [fsM_n hA] <;> rfl)) ?_
            exact ih (i + 1) (by omega) (by omega)
          · refine r_aload_n d_Mm_freezeStep_161 rfl 2 rfl ?_
            refine r_get fs_Mm_30 d_Mm_freezeStep_162 (q0 := 0) rfl rfl ?_
            refine r_iload d_Mm_freezeStep_165 0 rfl ?_
            refine r_iald d_Mm_freezeStep_167 (q0 := 6) rfl (vp_in_nI (by omega) (by omega)) (v := (fsM fl (fa_fill (fun k => he k + gaM f fl he k 4) nx 108) st (he, mtt, fz, 0) i).2.2.1 i) (by rw [nI_clamp (by omega)]) ?_
            refine r_if_ne (tgt := 175) d_Mm_freezeStep_168 (by decide) (fun c_168 => ?_) (fun c_168 => ?_)
            · have hL : lfM fl i ((fsM fl (fa_fill (fun k => he k + gaM f fl he k 4) nx 108) st (he, mtt, fz, 0) i).2.2.1 i) (fsM fl (fa_fill (fun k => he k + gaM f fl he k 4) nx 108) st (he, mtt, fz, 0) i).2.2.2 = 0 := by unfold lfM; rw [if_neg (fun q => q c_147), if_neg (fun q => c_168 q.2)]
              refine r_iconst d_Mm_freezeStep_175 (v := 0) (by decide) ?_
              refine r_istore_n (lv' := [(3, .int 0), (4, .int (nI i)), (0, .ref m), (1, .ref b), (2, .int st)]) d_Mm_freezeStep_176 rfl (by decide) rfl ?_
              refine r_iinc (lv' := [(4, .int (nI (i + 1))), (3, .int 0), (0, .ref m), (1, .ref b), (2, .int st)]) (v := nI (i + 1)) d_Mm_freezeStep_177 (j := 1) rfl (nI_add _ _) (by decide) rfl ?_
              refine r_goto (tgt := 38) d_Mm_freezeStep_180 (by decide) ?_
              refine r_lvE (lv2 := [(4, .int (nI (i + 1))), (3, .int ((fsM fl (fa_fill (fun k => he k + gaM f fl he k 4) nx 108) st (he, mtt, fz, 0) (i + 1)).2.2.2)), (0, .ref m), (1, .ref b), (2, .int st)]) (by first | contradiction | (rw [fsM_a hA hB, hL] <;> rfl) | (rw [fsM_b hA hB, hL] <;> rfl) | (rw [fsM_n hA, hL] <;> rfl)) ?_
              refine r_cs (cs2 := [(m, .inr (12, [.int th, .ref mp, .int pt, .ref mf, .ref mh, .ref mn, .ref mt, .ref mz, .ref mc_, .ref mq, .ref mgr, .int cl, .int wa, .int co_, .int fi, .int bu, .int ho, .ref ml, .ref mi, .ref mr, .int lh, .int mg, .int wd, .int fpi, .int fal, .ref mm, .ref mu, .ref mk, .ref mx, .long po, .long de])), (b, .inl (1, 108, .inl f)), (mf, .inl (0, 108, .inl fl)), (mh, .inl (0, 108, .inl ((fsM fl (fa_fill (fun k => he k + gaM f fl he k 4) nx 108) st (he, mtt, fz, 0) (i + 1)).1))), (mn, .inl (0, 108, .inl (fa_fill (fun k => he k + gaM f fl he k 4) nx 108))), (mt, .inl (0, 108, .inl ((fsM fl (fa_fill (fun k => he k + gaM f fl he k 4) nx 108) st (he, mtt, fz, 0) (i + 1)).2.1))), (mz, .inl (0, 108, .inl ((fsM fl (fa_fill (fun k => he k + gaM f fl he k 4) nx 108) st (he, mtt, fz, 0) (i + 1)).2.2.1)))]) (by first | contradiction | (rw [fsM_a hA hB] <;> rfl) | (rw [fsM_b hA hB] <;> rfl) | (rw [fsM_n hA] <;> rfl)) ?_
              exact ih (i + 1) (by omega) (by omega)
            · have hL : lfM fl i ((fsM fl (fa_fill (fun k => he k + gaM f fl he k 4) nx 108) st (he, mtt, fz, 0) i).2.2.1 i) (fsM fl (fa_fill (fun k => he k + gaM f fl he k 4) nx 108) st (he, mtt, fz, 0) i).2.2.2 = 1 := by unfold lfM; rw [if_neg (fun q => q c_147), if_pos ⟨c_158, c_168⟩]
              refine r_iconst d_Mm_freezeStep_171 (v := 1) (by decide) ?_
              refine r_goto (tgt := 176) d_Mm_freezeStep_172 (by decide) ?_
              refine r_istore_n (lv' := [(3, .int 1), (4, .int (nI i)), (0, .ref m), (1, .ref b), (2, .int st)]) d_Mm_freezeStep_176 rfl (by decide) rfl ?_
              refine r_iinc (lv' := [(4, .int (nI (i + 1))), (3, .int 1), (0, .ref m), (1, .ref b), (2, .int st)]) (v := nI (i + 1)) d_Mm_freezeStep_177 (j := 1) rfl (nI_add _ _) (by decide) rfl ?_
              refine r_goto (tgt := 38) d_Mm_freezeStep_180 (by decide) ?_
              refine r_lvE (lv2 := [(4, .int (nI (i + 1))), (3, .int ((fsM fl (fa_fill (fun k => he k + gaM f fl he k 4) nx 108) st (he, mtt, fz, 0) (i + 1)).2.2.2)), (0, .ref m), (1, .ref b), (2, .int st)]) (by first | contradiction | (rw [fsM_a hA hB, hL] <;> rfl) | (rw [fsM_b hA hB, hL] <;> rfl) | (rw [fsM_n hA, hL] <;> rfl)) ?_
              refine r_cs (cs2 := [(m, .inr (12, [.int th, .ref mp, .int pt, .ref mf, .ref mh, .ref mn, .ref mt, .ref mz, .ref mc_, .ref mq, .ref mgr, .int cl, .int wa, .int co_, .int fi, .int bu, .int ho, .ref ml, .ref mi, .ref mr, .int lh, .int mg, .int wd, .int fpi, .int fal, .ref mm, .ref mu, .ref mk, .ref mx, .long po, .long de])), (b, .inl (1, 108, .inl f)), (mf, .inl (0, 108, .inl fl)), (mh, .inl (0, 108, .inl ((fsM fl (fa_fill (fun k => he k + gaM f fl he k 4) nx 108) st (he, mtt, fz, 0) (i + 1)).1))), (mn, .inl (0, 108, .inl (fa_fill (fun k => he k + gaM f fl he k 4) nx 108))), (mt, .inl (0, 108, .inl ((fsM fl (fa_fill (fun k => he k + gaM f fl he k 4) nx 108) st (he, mtt, fz, 0) (i + 1)).2.1))), (mz, .inl (0, 108, .inl ((fsM fl (fa_fill (fun k => he k + gaM f fl he k 4) nx 108) st (he, mtt, fz, 0) (i + 1)).2.2.1)))]) (by first | contradiction | (rw [fsM_a hA hB] <;> rfl) | (rw [fsM_b hA hB] <;> rfl) | (rw [fsM_n hA] <;> rfl)) ?_
              exact ih (i + 1) (by omega) (by omega)
      · refine r_aload_n d_Mm_freezeStep_70 rfl 2 rfl ?_
        refine r_get fs_Mm_30 d_Mm_freezeStep_71 (q0 := 0) rfl rfl ?_
        refine r_iload d_Mm_freezeStep_74 0 rfl ?_
        refine r_iald d_Mm_freezeStep_76 (q0 := 6) rfl (vp_in_nI (by omega) (by omega)) (v := ((fsM fl (fa_fill (fun k => he k + gaM f fl he k 4) nx 108) st (he, mtt, fz, 0) i).2.2.1) i) (by rw [nI_clamp (by omega)]) ?_
        refine r_if_ne (tgt := 146) d_Mm_freezeStep_77 (by decide) (fun c_77 => ?_) (fun c_77 => ?_)
        · have hA : ¬ (¬ fl i = -1 ∧ (fsM fl (fa_fill (fun k => he k + gaM f fl he k 4) nx 108) st (he, mtt, fz, 0) i).2.2.1 i = 0 ∧ (fa_fill (fun k => he k + gaM f fl he k 4) nx 108) i < 1150) := fun q => c_77 q.2.1
          refine r_iload_n d_Mm_freezeStep_146 rfl 1 rfl ?_
          refine r_if_ne (tgt := 171) d_Mm_freezeStep_147 (by decide) (fun c_147 => ?_) (fun c_147 => ?_)
          · have hL : lfM fl i ((fsM fl (fa_fill (fun k => he k + gaM f fl he k 4) nx 108) st (he, mtt, fz, 0) i).2.2.1 i) (fsM fl (fa_fill (fun k => he k + gaM f fl he k 4) nx 108) st (he, mtt, fz, 0) i).2.2.2 = 1 := if_pos c_147
            refine r_iconst d_Mm_freezeStep_171 (v := 1) (by decide) ?_
            refine r_goto (tgt := 176) d_Mm_freezeStep_172 (by decide) ?_
            refine r_istore_n (lv' := [(3, .int 1), (4, .int (nI i)), (0, .ref m), (1, .ref b), (2, .int st)]) d_Mm_freezeStep_176 rfl (by decide) rfl ?_
            refine r_iinc (lv' := [(4, .int (nI (i + 1))), (3, .int 1), (0, .ref m), (1, .ref b), (2, .int st)]) (v := nI (i + 1)) d_Mm_freezeStep_177 (j := 1) rfl (nI_add _ _) (by decide) rfl ?_
            refine r_goto (tgt := 38) d_Mm_freezeStep_180 (by decide) ?_
            refine r_lvE (lv2 := [(4, .int (nI (i + 1))), (3, .int ((fsM fl (fa_fill (fun k => he k + gaM f fl he k 4) nx 108) st (he, mtt, fz, 0) (i + 1)).2.2.2)), (0, .ref m), (1, .ref b), (2, .int st)]) (by first | contradiction | (rw [fsM_a hA hB, hL] <;> rfl) | (rw [fsM_b hA hB, hL] <;> rfl) | (rw [fsM_n hA, hL] <;> rfl)) ?_
            refine r_cs (cs2 := [(m, .inr (12, [.int th, .ref mp, .int pt, .ref mf, .ref mh, .ref mn, .ref mt, .ref mz, .ref mc_, .ref mq, .ref mgr, .int cl, .int wa, .int co_, .int fi, .int bu, .int ho, .ref ml, .ref mi, .ref mr, .int lh, .int mg, .int wd, .int fpi, .int fal, .ref mm, .ref mu, .ref mk, .ref mx, .long po, .long de])), (b, .inl (1, 108, .inl f)), (mf, .inl (0, 108, .inl fl)), (mh, .inl (0, 108, .inl ((fsM fl (fa_fill (fun k => he k + gaM f fl he k 4) nx 108) st (he, mtt, fz, 0) (i + 1)).1))), (mn, .inl (0, 108, .inl (fa_fill (fun k => he k + gaM f fl he k 4) nx 108))), (mt, .inl (0, 108, .inl ((fsM fl (fa_fill (fun k => he k + gaM f fl he k 4) nx 108) st (he, mtt, fz, 0) (i + 1)).2.1))), (mz, .inl (0, 108, .inl ((fsM fl (fa_fill (fun k => he k + gaM f fl he k 4) nx 108) st (he, mtt, fz, 0) (i + 1)).2.2.1)))]) (by first | contradiction | (rw [fsM_a hA hB] <;> rfl) | (rw [fsM_b hA hB] <;> rfl) | (rw [fsM_n hA] <;> rfl)) ?_
            exact ih (i + 1) (by omega) (by omega)
          · refine r_aload_n d_Mm_freezeStep_150 rfl 2 rfl ?_
            refine r_get fs_Mm_17 d_Mm_freezeStep_151 (q0 := 0) rfl rfl ?_
            refine r_iload d_Mm_freezeStep_154 0 rfl ?_
            refine r_iald d_Mm_freezeStep_156 (q0 := 2) rfl (vp_in_nI (by omega) (by omega)) (v := fl i) (by rw [nI_clamp (by omega)]) ?_
            refine r_iconst d_Mm_freezeStep_157 (v := (-1)) (by decide) ?_
            refine r_icmp_eq (tgt := 175) d_Mm_freezeStep_158 (by decide) (fun c_158 => ?_) (fun c_158 => ?_)
            · have hL : lfM fl i ((fsM fl (fa_fill (fun k => he k + gaM f fl he k 4) nx 108) st (he, mtt, fz, 0) i).2.2.1 i) (fsM fl (fa_fill (fun k => he k + gaM f fl he k 4) nx 108) st (he, mtt, fz, 0) i).2.2.2 = 0 := by unfold lfM; rw [if_neg (fun q => q c_147), if_neg (fun q => q.1 c_158)]
              refine r_iconst d_Mm_freezeStep_175 (v := 0) (by decide) ?_
              refine r_istore_n (lv' := [(3, .int 0), (4, .int (nI i)), (0, .ref m), (1, .ref b), (2, .int st)]) d_Mm_freezeStep_176 rfl (by decide) rfl ?_
              refine r_iinc (lv' := [(4, .int (nI (i + 1))), (3, .int 0), (0, .ref m), (1, .ref b), (2, .int st)]) (v := nI (i + 1)) d_Mm_freezeStep_177 (j := 1) rfl (nI_add _ _) (by decide) rfl ?_
              refine r_goto (tgt := 38) d_Mm_freezeStep_180 (by decide) ?_
              refine r_lvE (lv2 := [(4, .int (nI (i + 1))), (3, .int ((fsM fl (fa_fill (fun k => he k + gaM f fl he k 4) nx 108) st (he, mtt, fz, 0) (i + 1)).2.2.2)), (0, .ref m), (1, .ref b), (2, .int st)]) (by first | contradiction | (rw [fsM_a hA hB, hL] <;> rfl) | (rw [fsM_b hA hB, hL] <;> rfl) | (rw [fsM_n hA, hL] <;> rfl)) ?_
              refine r_cs (cs2 := [(m, .inr (12, [.int th, .ref mp, .int pt, .ref mf, .ref mh, .ref mn, .ref mt, .ref mz, .ref mc_, .ref mq, .ref mgr, .int cl, .int wa, .int co_, .int fi, .int bu, .int ho, .ref ml, .ref mi, .ref mr, .int lh, .int mg, .int wd, .int fpi, .int fal, .ref mm, .ref mu, .ref mk, .ref mx, .long po, .long de])), (b, .inl (1, 108, .inl f)), (mf, .inl (0, 108, .inl fl)), (mh, .inl (0, 108, .inl ((fsM fl (fa_fill (fun k => he k + gaM f fl he k 4) nx 108) st (he, mtt, fz, 0) (i + 1)).1))), (mn, .inl (0, 108, .inl (fa_fill (fun k => he k + gaM f fl he k 4) nx 108))), (mt, .inl (0, 108, .inl ((fsM fl (fa_fill (fun k => he k + gaM f fl he k 4) nx 108) st (he, mtt, fz, 0) (i + 1)).2.1))), (mz, .inl (0, 108, .inl ((fsM fl (fa_fill (fun k => he k + gaM f fl he k 4) nx 108) st (he, mtt, fz, 0) (i + 1)).2.2.1)))]) (by first | contradiction | (rw [fsM_a hA hB] <;> rfl) | (rw [fsM_b hA hB] <;> rfl) | (rw [fsM_n hA] <;> rfl)) ?_
              exact ih (i + 1) (by omega) (by omega)
            · refine r_aload_n d_Mm_freezeStep_161 rfl 2 rfl ?_
              refine r_get fs_Mm_30 d_Mm_freezeStep_162 (q0 := 0) rfl rfl ?_
              refine r_iload d_Mm_freezeStep_165 0 rfl ?_
              refine r_iald d_Mm_freezeStep_167 (q0 := 6) rfl (vp_in_nI (by omega) (by omega)) (v := (fsM fl (fa_fill (fun k => he k + gaM f fl he k 4) nx 108) st (he, mtt, fz, 0) i).2.2.1 i) (by rw [nI_clamp (by omega)]) ?_
              refine r_if_ne (tgt := 175) d_Mm_freezeStep_168 (by decide) (fun c_168 => ?_) (fun c_168 => ?_)
              · have hL : lfM fl i ((fsM fl (fa_fill (fun k => he k + gaM f fl he k 4) nx 108) st (he, mtt, fz, 0) i).2.2.1 i) (fsM fl (fa_fill (fun k => he k + gaM f fl he k 4) nx 108) st (he, mtt, fz, 0) i).2.2.2 = 0 := by unfold lfM; rw [if_neg (fun q => q c_147), if_neg (fun q => c_168 q.2)]
                refine r_iconst d_Mm_freezeStep_175 (v := 0) (by decide) ?_
                refine r_istore_n (lv' := [(3, .int 0), (4, .int (nI i)), (0, .ref m), (1, .ref b), (2, .int st)]) d_Mm_freezeStep_176 rfl (by decide) rfl ?_
                refine r_iinc (lv' := [(4, .int (nI (i + 1))), (3, .int 0), (0, .ref m), (1, .ref b), (2, .int st)]) (v := nI (i + 1)) d_Mm_freezeStep_177 (j := 1) rfl (nI_add _ _) (by decide) rfl ?_
                refine r_goto (tgt := 38) d_Mm_freezeStep_180 (by decide) ?_
                refine r_lvE (lv2 := [(4, .int (nI (i + 1))), (3, .int ((fsM fl (fa_fill (fun k => he k + gaM f fl he k 4) nx 108) st (he, mtt, fz, 0) (i + 1)).2.2.2)), (0, .ref m), (1, .ref b), (2, .int st)]) (by first | contradiction | (rw [fsM_a hA hB, hL] <;> rfl) | (rw [fsM_b hA hB, hL] <;> rfl) | (rw [fsM_n hA, hL] <;> rfl)) ?_
                refine r_cs (cs2 := [(m, .inr (12, [.int th, .ref mp, .int pt, .ref mf, .ref mh, .ref mn, .ref mt, .ref mz, .ref mc_, .ref mq, .ref mgr, .int cl, .int wa, .int co_, .int fi, .int bu, .int ho, .ref ml, .ref mi, .ref mr, .int lh, .int mg, .int wd, .int fpi, .int fal, .ref mm, .ref mu, .ref mk, .ref mx, .long po, .long de])), (b, .inl (1, 108, .inl f)), (mf, .inl (0, 108, .inl fl)), (mh, .inl (0, 108, .inl ((fsM fl (fa_fill (fun k => he k + gaM f fl he k 4) nx 108) st (he, mtt, fz, 0) (i + 1)).1))), (mn, .inl (0, 108, .inl (fa_fill (fun k => he k + gaM f fl he k 4) nx 108))), (mt, .inl (0, 108, .inl ((fsM fl (fa_fill (fun k => he k + gaM f fl he k 4) nx 108) st (he, mtt, fz, 0) (i + 1)).2.1))), (mz, .inl (0, 108, .inl ((fsM fl (fa_fill (fun k => he k + gaM f fl he k 4) nx 108) st (he, mtt, fz, 0) (i + 1)).2.2.1)))]) (by first | contradiction | (rw [fsM_a hA hB] <;> rfl) | (rw [fsM_b hA hB] <;> rfl) | (rw [fsM_n hA] <;> rfl)) ?_
                exact ih (i + 1) (by omega) (by omega)
              · have hL : lfM fl i ((fsM fl (fa_fill (fun k => he k + gaM f fl he k 4) nx 108) st (he, mtt, fz, 0) i).2.2.1 i) (fsM fl (fa_fill (fun k => he k + gaM f fl he k 4) nx 108) st (he, mtt, fz, 0) i).2.2.2 = 1 := by unfold lfM; rw [if_neg (fun q => q c_147), if_pos ⟨c_158, c_168⟩]
                refine r_iconst d_Mm_freezeStep_171 (v := 1) (by decide) ?_
                refine r_goto (tgt := 176) d_Mm_freezeStep_172 (by decide) ?_
                refine r_istore_n (lv' := [(3, .int 1), (4, .int (nI i)), (0, .ref m), (1, .ref b), (2, .int st)]) d_Mm_freezeStep_176 rfl (by decide) rfl ?_
                refine r_iinc (lv' := [(4, .int (nI (i + 1))), (3, .int 1), (0, .ref m), (1, .ref b), (2, .int st)]) (v := nI (i + 1)) d_Mm_freezeStep_177 (j := 1) rfl (nI_add _ _) (by decide) rfl ?_
                refine r_goto (tgt := 38) d_Mm_freezeStep_180 (by decide) ?_
                refine r_lvE (lv2 := [(4, .int (nI (i + 1))), (3, .int ((fsM fl (fa_fill (fun k => he k + gaM f fl he k 4) nx 108) st (he, mtt, fz, 0) (i + 1)).2.2.2)), (0, .ref m), (1, .ref b), (2, .int st)]) (by first | contradiction | (rw [fsM_a hA hB, hL] <;> rfl) | (rw [fsM_b hA hB, hL] <;> rfl) | (rw [fsM_n hA, hL] <;> rfl)) ?_
                refine r_cs (cs2 := [(m, .inr (12, [.int th, .ref mp, .int pt, .ref mf, .ref mh, .ref mn, .ref mt, .ref mz, .ref mc_, .ref mq, .ref mgr, .int cl, .int wa, .int co_, .int fi, .int bu, .int ho, .ref ml, .ref mi, .ref mr, .int lh, .int mg, .int wd, .int fpi, .int fal, .ref mm, .ref mu, .ref mk, .ref mx, .long po, .long de])), (b, .inl (1, 108, .inl f)), (mf, .inl (0, 108, .inl fl)), (mh, .inl (0, 108, .inl ((fsM fl (fa_fill (fun k => he k + gaM f fl he k 4) nx 108) st (he, mtt, fz, 0) (i + 1)).1))), (mn, .inl (0, 108, .inl (fa_fill (fun k => he k + gaM f fl he k 4) nx 108))), (mt, .inl (0, 108, .inl ((fsM fl (fa_fill (fun k => he k + gaM f fl he k 4) nx 108) st (he, mtt, fz, 0) (i + 1)).2.1))), (mz, .inl (0, 108, .inl ((fsM fl (fa_fill (fun k => he k + gaM f fl he k 4) nx 108) st (he, mtt, fz, 0) (i + 1)).2.2.1)))]) (by first | contradiction | (rw [fsM_a hA hB] <;> rfl) | (rw [fsM_b hA hB] <;> rfl) | (rw [fsM_n hA] <;> rfl)) ?_
                exact ih (i + 1) (by omega) (by omega)
        · refine r_aload_n d_Mm_freezeStep_80 rfl 2 rfl ?_
          refine r_get fs_Mm_21 d_Mm_freezeStep_81 (q0 := 0) rfl rfl ?_
          refine r_iload d_Mm_freezeStep_84 0 rfl ?_
          refine r_iald d_Mm_freezeStep_86 (q0 := 3) rfl (vp_in_nI (by omega) (by omega)) (v := (fa_fill (fun k => he k + gaM f fl he k 4) nx 108) i) (by rw [nI_clamp (by omega)]; exact upd_eq) ?_
          refine r_sipush d_Mm_freezeStep_87 (v := 1150) (by decide) ?_
          refine r_icmp_ge (tgt := 146) d_Mm_freezeStep_90 (by decide) (fun c_90 => ?_) (fun c_90 => ?_)
          · have hA : ¬ (¬ fl i = -1 ∧ (fsM fl (fa_fill (fun k => he k + gaM f fl he k 4) nx 108) st (he, mtt, fz, 0) i).2.2.1 i = 0 ∧ (fa_fill (fun k => he k + gaM f fl he k 4) nx 108) i < 1150) := fun q => Int32.not_lt.mpr c_90 q.2.2
            refine r_iload_n d_Mm_freezeStep_146 rfl 1 rfl ?_
            refine r_if_ne (tgt := 171) d_Mm_freezeStep_147 (by decide) (fun c_147 => ?_) (fun c_147 => ?_)
            · have hL : lfM fl i ((fsM fl (fa_fill (fun k => he k + gaM f fl he k 4) nx 108) st (he, mtt, fz, 0) i).2.2.1 i) (fsM fl (fa_fill (fun k => he k + gaM f fl he k 4) nx 108) st (he, mtt, fz, 0) i).2.2.2 = 1 := if_pos c_147
              refine r_iconst d_Mm_freezeStep_171 (v := 1) (by decide) ?_
              refine r_goto (tgt := 176) d_Mm_freezeStep_172 (by decide) ?_
              refine r_istore_n (lv' := [(3, .int 1), (4, .int (nI i)), (0, .ref m), (1, .ref b), (2, .int st)]) d_Mm_freezeStep_176 rfl (by decide) rfl ?_
              refine r_iinc (lv' := [(4, .int (nI (i + 1))), (3, .int 1), (0, .ref m), (1, .ref b), (2, .int st)]) (v := nI (i + 1)) d_Mm_freezeStep_177 (j := 1) rfl (nI_add _ _) (by decide) rfl ?_
              refine r_goto (tgt := 38) d_Mm_freezeStep_180 (by decide) ?_
              refine r_lvE (lv2 := [(4, .int (nI (i + 1))), (3, .int ((fsM fl (fa_fill (fun k => he k + gaM f fl he k 4) nx 108) st (he, mtt, fz, 0) (i + 1)).2.2.2)), (0, .ref m), (1, .ref b), (2, .int st)]) (by first | contradiction | (rw [fsM_a hA hB, hL] <;> rfl) | (rw [fsM_b hA hB, hL] <;> rfl) | (rw [fsM_n hA, hL] <;> rfl)) ?_
              refine r_cs (cs2 := [(m, .inr (12, [.int th, .ref mp, .int pt, .ref mf, .ref mh, .ref mn, .ref mt, .ref mz, .ref mc_, .ref mq, .ref mgr, .int cl, .int wa, .int co_, .int fi, .int bu, .int ho, .ref ml, .ref mi, .ref mr, .int lh, .int mg, .int wd, .int fpi, .int fal, .ref mm, .ref mu, .ref mk, .ref mx, .long po, .long de])), (b, .inl (1, 108, .inl f)), (mf, .inl (0, 108, .inl fl)), (mh, .inl (0, 108, .inl ((fsM fl (fa_fill (fun k => he k + gaM f fl he k 4) nx 108) st (he, mtt, fz, 0) (i + 1)).1))), (mn, .inl (0, 108, .inl (fa_fill (fun k => he k + gaM f fl he k 4) nx 108))), (mt, .inl (0, 108, .inl ((fsM fl (fa_fill (fun k => he k + gaM f fl he k 4) nx 108) st (he, mtt, fz, 0) (i + 1)).2.1))), (mz, .inl (0, 108, .inl ((fsM fl (fa_fill (fun k => he k + gaM f fl he k 4) nx 108) st (he, mtt, fz, 0) (i + 1)).2.2.1)))]) (by first | contradiction | (rw [fsM_a hA hB] <;> rfl) | (rw [fsM_b hA hB] <;> rfl) | (rw [fsM_n hA] <;> rfl)) ?_
              exact ih (i + 1) (by omega) (by omega)
            · refine r_aload_n d_Mm_freezeStep_150 rfl 2 rfl ?_
              refine r_get fs_Mm_17 d_Mm_freezeStep_151 (q0 := 0) rfl rfl ?_
              refine r_iload d_Mm_freezeStep_154 0 rfl ?_
              refine r_iald d_Mm_freezeStep_156 (q0 := 2) rfl (vp_in_nI (by omega) (by omega)) (v := fl i) (by rw [nI_clamp (by omega)]) ?_
              refine r_iconst d_Mm_freezeStep_157 (v := (-1)) (by decide) ?_
              refine r_icmp_eq (tgt := 175) d_Mm_freezeStep_158 (by decide) (fun c_158 => ?_) (fun c_158 => ?_)
              · have hL : lfM fl i ((fsM fl (fa_fill (fun k => he k + gaM f fl he k 4) nx 108) st (he, mtt, fz, 0) i).2.2.1 i) (fsM fl (fa_fill (fun k => he k + gaM f fl he k 4) nx 108) st (he, mtt, fz, 0) i).2.2.2 = 0 := by unfold lfM; rw [if_neg (fun q => q c_147), if_neg (fun q => q.1 c_158)]
                refine r_iconst d_Mm_freezeStep_175 (v := 0) (by decide) ?_
                refine r_istore_n (lv' := [(3, .int 0), (4, .int (nI i)), (0, .ref m), (1, .ref b), (2, .int st)]) d_Mm_freezeStep_176 rfl (by decide) rfl ?_
                refine r_iinc (lv' := [(4, .int (nI (i + 1))), (3, .int 0), (0, .ref m), (1, .ref b), (2, .int st)]) (v := nI (i + 1)) d_Mm_freezeStep_177 (j := 1) rfl (nI_add _ _) (by decide) rfl ?_
                refine r_goto (tgt := 38) d_Mm_freezeStep_180 (by decide) ?_
                refine r_lvE (lv2 := [(4, .int (nI (i + 1))), (3, .int ((fsM fl (fa_fill (fun k => he k + gaM f fl he k 4) nx 108) st (he, mtt, fz, 0) (i + 1)).2.2.2)), (0, .ref m), (1, .ref b), (2, .int st)]) (by first | contradiction | (rw [fsM_a hA hB, hL] <;> rfl) | (rw [fsM_b hA hB, hL] <;> rfl) | (rw [fsM_n hA, hL] <;> rfl)) ?_
                refine r_cs (cs2 := [(m, .inr (12, [.int th, .ref mp, .int pt, .ref mf, .ref mh, .ref mn, .ref mt, .ref mz, .ref mc_, .ref mq, .ref mgr, .int cl, .int wa, .int co_, .int fi, .int bu, .int ho, .ref ml, .ref mi, .ref mr, .int lh, .int mg, .int wd, .int fpi, .int fal, .ref mm, .ref mu, .ref mk, .ref mx, .long po, .long de])), (b, .inl (1, 108, .inl f)), (mf, .inl (0, 108, .inl fl)), (mh, .inl (0, 108, .inl ((fsM fl (fa_fill (fun k => he k + gaM f fl he k 4) nx 108) st (he, mtt, fz, 0) (i + 1)).1))), (mn, .inl (0, 108, .inl (fa_fill (fun k => he k + gaM f fl he k 4) nx 108))), (mt, .inl (0, 108, .inl ((fsM fl (fa_fill (fun k => he k + gaM f fl he k 4) nx 108) st (he, mtt, fz, 0) (i + 1)).2.1))), (mz, .inl (0, 108, .inl ((fsM fl (fa_fill (fun k => he k + gaM f fl he k 4) nx 108) st (he, mtt, fz, 0) (i + 1)).2.2.1)))]) (by first | contradiction | (rw [fsM_a hA hB] <;> rfl) | (rw [fsM_b hA hB] <;> rfl) | (rw [fsM_n hA] <;> rfl)) ?_
                exact ih (i + 1) (by omega) (by omega)
              · refine r_aload_n d_Mm_freezeStep_161 rfl 2 rfl ?_
                refine r_get fs_Mm_30 d_Mm_freezeStep_162 (q0 := 0) rfl rfl ?_
                refine r_iload d_Mm_freezeStep_165 0 rfl ?_
                refine r_iald d_Mm_freezeStep_167 (q0 := 6) rfl (vp_in_nI (by omega) (by omega)) (v := (fsM fl (fa_fill (fun k => he k + gaM f fl he k 4) nx 108) st (he, mtt, fz, 0) i).2.2.1 i) (by rw [nI_clamp (by omega)]) ?_
                refine r_if_ne (tgt := 175) d_Mm_freezeStep_168 (by decide) (fun c_168 => ?_) (fun c_168 => ?_)
                · have hL : lfM fl i ((fsM fl (fa_fill (fun k => he k + gaM f fl he k 4) nx 108) st (he, mtt, fz, 0) i).2.2.1 i) (fsM fl (fa_fill (fun k => he k + gaM f fl he k 4) nx 108) st (he, mtt, fz, 0) i).2.2.2 = 0 := by unfold lfM; rw [if_neg (fun q => q c_147), if_neg (fun q => c_168 q.2)]
                  refine r_iconst d_Mm_freezeStep_175 (v := 0) (by decide) ?_
                  refine r_istore_n (lv' := [(3, .int 0), (4, .int (nI i)), (0, .ref m), (1, .ref b), (2, .int st)]) d_Mm_freezeStep_176 rfl (by decide) rfl ?_
                  refine r_iinc (lv' := [(4, .int (nI (i + 1))), (3, .int 0), (0, .ref m), (1, .ref b), (2, .int st)]) (v := nI (i + 1)) d_Mm_freezeStep_177 (j := 1) rfl (nI_add _ _) (by decide) rfl ?_
                  refine r_goto (tgt := 38) d_Mm_freezeStep_180 (by decide) ?_
                  refine r_lvE (lv2 := [(4, .int (nI (i + 1))), (3, .int ((fsM fl (fa_fill (fun k => he k + gaM f fl he k 4) nx 108) st (he, mtt, fz, 0) (i + 1)).2.2.2)), (0, .ref m), (1, .ref b), (2, .int st)]) (by first | contradiction | (rw [fsM_a hA hB, hL] <;> rfl) | (rw [fsM_b hA hB, hL] <;> rfl) | (rw [fsM_n hA, hL] <;> rfl)) ?_
                  refine r_cs (cs2 := [(m, .inr (12, [.int th, .ref mp, .int pt, .ref mf, .ref mh, .ref mn, .ref mt, .ref mz, .ref mc_, .ref mq, .ref mgr, .int cl, .int wa, .int co_, .int fi, .int bu, .int ho, .ref ml, .ref mi, .ref mr, .int lh, .int mg, .int wd, .int fpi, .int fal, .ref mm, .ref mu, .ref mk, .ref mx, .long po, .long de])), (b, .inl (1, 108, .inl f)), (mf, .inl (0, 108, .inl fl)), (mh, .inl (0, 108, .inl ((fsM fl (fa_fill (fun k => he k + gaM f fl he k 4) nx 108) st (he, mtt, fz, 0) (i + 1)).1))), (mn, .inl (0, 108, .inl (fa_fill (fun k => he k + gaM f fl he k 4) nx 108))), (mt, .inl (0, 108, .inl ((fsM fl (fa_fill (fun k => he k + gaM f fl he k 4) nx 108) st (he, mtt, fz, 0) (i + 1)).2.1))), (mz, .inl (0, 108, .inl ((fsM fl (fa_fill (fun k => he k + gaM f fl he k 4) nx 108) st (he, mtt, fz, 0) (i + 1)).2.2.1)))]) (by first | contradiction | (rw [fsM_a hA hB] <;> rfl) | (rw [fsM_b hA hB] <;> rfl) | (rw [fsM_n hA] <;> rfl)) ?_
                  exact ih (i + 1) (by omega) (by omega)
                · have hL : lfM fl i ((fsM fl (fa_fill (fun k => he k + gaM f fl he k 4) nx 108) st (he, mtt, fz, 0) i).2.2.1 i) (fsM fl (fa_fill (fun k => he k + gaM f fl he k 4) nx 108) st (he, mtt, fz, 0) i).2.2.2 = 1 := by unfold lfM; rw [if_neg (fun q => q c_147), if_pos ⟨c_158, c_168⟩]
                  refine r_iconst d_Mm_freezeStep_171 (v := 1) (by decide) ?_
                  refine r_goto (tgt := 176) d_Mm_freezeStep_172 (by decide) ?_
                  refine r_istore_n (lv' := [(3, .int 1), (4, .int (nI i)), (0, .ref m), (1, .ref b), (2, .int st)]) d_Mm_freezeStep_176 rfl (by decide) rfl ?_
                  refine r_iinc (lv' := [(4, .int (nI (i + 1))), (3, .int 1), (0, .ref m), (1, .ref b), (2, .int st)]) (v := nI (i + 1)) d_Mm_freezeStep_177 (j := 1) rfl (nI_add _ _) (by decide) rfl ?_
                  refine r_goto (tgt := 38) d_Mm_freezeStep_180 (by decide) ?_
                  refine r_lvE (lv2 := [(4, .int (nI (i + 1))), (3, .int ((fsM fl (fa_fill (fun k => he k + gaM f fl he k 4) nx 108) st (he, mtt, fz, 0) (i + 1)).2.2.2)), (0, .ref m), (1, .ref b), (2, .int st)]) (by first | contradiction | (rw [fsM_a hA hB, hL] <;> rfl) | (rw [fsM_b hA hB, hL] <;> rfl) | (rw [fsM_n hA, hL] <;> rfl)) ?_
                  refine r_cs (cs2 := [(m, .inr (12, [.int th, .ref mp, .int pt, .ref mf, .ref mh, .ref mn, .ref mt, .ref mz, .ref mc_, .ref mq, .ref mgr, .int cl, .int wa, .int co_, .int fi, .int bu, .int ho, .ref ml, .ref mi, .ref mr, .int lh, .int mg, .int wd, .int fpi, .int fal, .ref mm, .ref mu, .ref mk, .ref mx, .long po, .long de])), (b, .inl (1, 108, .inl f)), (mf, .inl (0, 108, .inl fl)), (mh, .inl (0, 108, .inl ((fsM fl (fa_fill (fun k => he k + gaM f fl he k 4) nx 108) st (he, mtt, fz, 0) (i + 1)).1))), (mn, .inl (0, 108, .inl (fa_fill (fun k => he k + gaM f fl he k 4) nx 108))), (mt, .inl (0, 108, .inl ((fsM fl (fa_fill (fun k => he k + gaM f fl he k 4) nx 108) st (he, mtt, fz, 0) (i + 1)).2.1))), (mz, .inl (0, 108, .inl ((fsM fl (fa_fill (fun k => he k + gaM f fl he k 4) nx 108) st (he, mtt, fz, 0) (i + 1)).2.2.1)))]) (by first | contradiction | (rw [fsM_a hA hB] <;> rfl) | (rw [fsM_b hA hB] <;> rfl) | (rw [fsM_n hA] <;> rfl)) ?_
                  exact ih (i + 1) (by omega) (by omega)
          · have hA : (¬ fl i = -1 ∧ (fsM fl (fa_fill (fun k => he k + gaM f fl he k 4) nx 108) st (he, mtt, fz, 0) i).2.2.1 i = 0 ∧ (fa_fill (fun k => he k + gaM f fl he k 4) nx 108) i < 1150) := ⟨c_67, c_77, Int32.not_le.mp c_90⟩
            refine r_aload_n d_Mm_freezeStep_93 rfl 2 rfl ?_
            refine r_get fs_Mm_27 d_Mm_freezeStep_94 (q0 := 0) rfl rfl ?_
            refine r_iload d_Mm_freezeStep_97 0 rfl ?_
            refine r_dup2_11 d_Mm_freezeStep_99 rfl rfl ?_
            refine r_iald d_Mm_freezeStep_100 (q0 := 5) rfl (vp_in_nI (by omega) (by omega)) (v := ((fsM fl (fa_fill (fun k => he k + gaM f fl he k 4) nx 108) st (he, mtt, fz, 0) i).2.1) i) (by rw [nI_clamp (by omega)]) ?_
            refine r_sipush d_Mm_freezeStep_101 (v := 1150) (by decide) ?_
            refine r_aload_n d_Mm_freezeStep_104 rfl 2 rfl ?_
            refine r_get fs_Mm_21 d_Mm_freezeStep_105 (q0 := 0) rfl rfl ?_
            refine r_iload d_Mm_freezeStep_108 0 rfl ?_
            refine r_iald d_Mm_freezeStep_110 (q0 := 3) rfl (vp_in_nI (by omega) (by omega)) (v := (fa_fill (fun k => he k + gaM f fl he k 4) nx 108) i) (by rw [nI_clamp (by omega)]; exact upd_eq) ?_
            refine r_isub d_Mm_freezeStep_111 (v := 1150 - ((fa_fill (fun k => he k + gaM f fl he k 4) nx 108) i)) rfl ?_
            refine r_isub d_Mm_freezeStep_112 (v := (((fsM fl (fa_fill (fun k => he k + gaM f fl he k 4) nx 108) st (he, mtt, fz, 0) i).2.1) i) - (1150 - ((fa_fill (fun k => he k + gaM f fl he k 4) nx 108) i))) rfl ?_
            refine r_iast d_Mm_freezeStep_113 (q0 := 5) rfl (vp_in_nI (by omega) (by omega)) (f' := upd ((fsM fl (fa_fill (fun k => he k + gaM f fl he k 4) nx 108) st (he, mtt, fz, 0) i).2.1) i ((((fsM fl (fa_fill (fun k => he k + gaM f fl he k 4) nx 108) st (he, mtt, fz, 0) i).2.1) i) - (1150 - ((fa_fill (fun k => he k + gaM f fl he k 4) nx 108) i)))) (by rw [nI_clamp (by omega)]) (cs' := [(m, .inr (12, [.int th, .ref mp, .int pt, .ref mf, .ref mh, .ref mn, .ref mt, .ref mz, .ref mc_, .ref mq, .ref mgr, .int cl, .int wa, .int co_, .int fi, .int bu, .int ho, .ref ml, .ref mi, .ref mr, .int lh, .int mg, .int wd, .int fpi, .int fal, .ref mm, .ref mu, .ref mk, .ref mx, .long po, .long de])), (b, .inl (1, 108, .inl f)), (mf, .inl (0, 108, .inl fl)), (mh, .inl (0, 108, .inl (upd ((fsM fl (fa_fill (fun k => he k + gaM f fl he k 4) nx 108) st (he, mtt, fz, 0) i).1) i ((fa_fill (fun k => he k + gaM f fl he k 4) nx 108) i)))), (mn, .inl (0, 108, .inl (fa_fill (fun k => he k + gaM f fl he k 4) nx 108))), (mt, .inl (0, 108, .inl (upd ((fsM fl (fa_fill (fun k => he k + gaM f fl he k 4) nx 108) st (he, mtt, fz, 0) i).2.1) i ((((fsM fl (fa_fill (fun k => he k + gaM f fl he k 4) nx 108) st (he, mtt, fz, 0) i).2.1) i) - (1150 - ((fa_fill (fun k => he k + gaM f fl he k 4) nx 108) i)))))), (mz, .inl (0, 108, .inl ((fsM fl (fa_fill (fun k => he k + gaM f fl he k 4) nx 108) st (he, mtt, fz, 0) i).2.2.1)))]) rfl ?_
            refine r_aload_n d_Mm_freezeStep_114 rfl 2 rfl ?_
            refine r_get fs_Mm_21 d_Mm_freezeStep_115 (q0 := 0) rfl rfl ?_
            refine r_iload d_Mm_freezeStep_118 0 rfl ?_
            refine r_sipush d_Mm_freezeStep_120 (v := 1150) (by decide) ?_
            refine r_iast d_Mm_freezeStep_123 (q0 := 3) rfl (vp_in_nI (by omega) (by omega)) (f' := upd (upd ((fsM fl (fa_fill (fun k => he k + gaM f fl he k 4) nx 108) st (he, mtt, fz, 0) i).1) i ((fa_fill (fun k => he k + gaM f fl he k 4) nx 108) i)) i 1150) (by rw [nI_clamp (by omega)]) (cs' := [(m, .inr (12, [.int th, .ref mp, .int pt, .ref mf, .ref mh, .ref mn, .ref mt, .ref mz, .ref mc_, .ref mq, .ref mgr, .int cl, .int wa, .int co_, .int fi, .int bu, .int ho, .ref ml, .ref mi, .ref mr, .int lh, .int mg, .int wd, .int fpi, .int fal, .ref mm, .ref mu, .ref mk, .ref mx, .long po, .long de])), (b, .inl (1, 108, .inl f)), (mf, .inl (0, 108, .inl fl)), (mh, .inl (0, 108, .inl (upd (upd ((fsM fl (fa_fill (fun k => he k + gaM f fl he k 4) nx 108) st (he, mtt, fz, 0) i).1) i ((fa_fill (fun k => he k + gaM f fl he k 4) nx 108) i)) i 1150))), (mn, .inl (0, 108, .inl (fa_fill (fun k => he k + gaM f fl he k 4) nx 108))), (mt, .inl (0, 108, .inl (upd ((fsM fl (fa_fill (fun k => he k + gaM f fl he k 4) nx 108) st (he, mtt, fz, 0) i).2.1) i ((((fsM fl (fa_fill (fun k => he k + gaM f fl he k 4) nx 108) st (he, mtt, fz, 0) i).2.1) i) - (1150 - ((fa_fill (fun k => he k + gaM f fl he k 4) nx 108) i)))))), (mz, .inl (0, 108, .inl ((fsM fl (fa_fill (fun k => he k + gaM f fl he k 4) nx 108) st (he, mtt, fz, 0) i).2.2.1)))]) rfl ?_
            refine r_aload_n d_Mm_freezeStep_124 rfl 2 rfl ?_
            refine r_get fs_Mm_30 d_Mm_freezeStep_125 (q0 := 0) rfl rfl ?_
            refine r_iload d_Mm_freezeStep_128 0 rfl ?_
            refine r_aload_n d_Mm_freezeStep_130 rfl 2 rfl ?_
            refine r_get fs_Mm_27 d_Mm_freezeStep_131 (q0 := 0) rfl rfl ?_
            refine r_iload d_Mm_freezeStep_134 0 rfl ?_
            refine r_iald d_Mm_freezeStep_136 (q0 := 5) rfl (vp_in_nI (by omega) (by omega)) (v := (fsM fl (fa_fill (fun k => he k + gaM f fl he k 4) nx 108) st (he, mtt, fz, 0) i).2.1 i - (1150 - (fa_fill (fun k => he k + gaM f fl he k 4) nx 108) i)) (by rw [nI_clamp (by omega)]; exact upd_eq) ?_
            refine r_if_gt (tgt := 144) d_Mm_freezeStep_137 (by decide) (fun c_137 => ?_) (fun c_137 => ?_)
            · have hB := c_137
              refine r_iconst d_Mm_freezeStep_144 (v := 0) (by decide) ?_
              refine r_iast d_Mm_freezeStep_145 (q0 := 6) rfl (vp_in_nI (by omega) (by omega)) (f' := upd ((fsM fl (fa_fill (fun k => he k + gaM f fl he k 4) nx 108) st (he, mtt, fz, 0) i).2.2.1) i 0) (by rw [nI_clamp (by omega)]) (cs' := [(m, .inr (12, [.int th, .ref mp, .int pt, .ref mf, .ref mh, .ref mn, .ref mt, .ref mz, .ref mc_, .ref mq, .ref mgr, .int cl, .int wa, .int co_, .int fi, .int bu, .int ho, .ref ml, .ref mi, .ref mr, .int lh, .int mg, .int wd, .int fpi, .int fal, .ref mm, .ref mu, .ref mk, .ref mx, .long po, .long de])), (b, .inl (1, 108, .inl f)), (mf, .inl (0, 108, .inl fl)), (mh, .inl (0, 108, .inl (upd (upd ((fsM fl (fa_fill (fun k => he k + gaM f fl he k 4) nx 108) st (he, mtt, fz, 0) i).1) i ((fa_fill (fun k => he k + gaM f fl he k 4) nx 108) i)) i 1150))), (mn, .inl (0, 108, .inl (fa_fill (fun k => he k + gaM f fl he k 4) nx 108))), (mt, .inl (0, 108, .inl (upd ((fsM fl (fa_fill (fun k => he k + gaM f fl he k 4) nx 108) st (he, mtt, fz, 0) i).2.1) i ((((fsM fl (fa_fill (fun k => he k + gaM f fl he k 4) nx 108) st (he, mtt, fz, 0) i).2.1) i) - (1150 - ((fa_fill (fun k => he k + gaM f fl he k 4) nx 108) i)))))), (mz, .inl (0, 108, .inl (upd ((fsM fl (fa_fill (fun k => he k + gaM f fl he k 4) nx 108) st (he, mtt, fz, 0) i).2.2.1) i 0)))]) rfl ?_
              refine r_iload_n d_Mm_freezeStep_146 rfl 1 rfl ?_
              refine r_if_ne (tgt := 171) d_Mm_freezeStep_147 (by decide) (fun c_147 => ?_) (fun c_147 => ?_)
              · have hL : lfM fl i 0 (fsM fl (fa_fill (fun k => he k + gaM f fl he k 4) nx 108) st (he, mtt, fz, 0) i).2.2.2 = 1 := if_pos c_147
                refine r_iconst d_Mm_freezeStep_171 (v := 1) (by decide) ?_
                refine r_goto (tgt := 176) d_Mm_freezeStep_172 (by decide) ?_
                refine r_istore_n (lv' := [(3, .int 1), (4, .int (nI i)), (0, .ref m), (1, .ref b), (2, .int st)]) d_Mm_freezeStep_176 rfl (by decide) rfl ?_
                refine r_iinc (lv' := [(4, .int (nI (i + 1))), (3, .int 1), (0, .ref m), (1, .ref b), (2, .int st)]) (v := nI (i + 1)) d_Mm_freezeStep_177 (j := 1) rfl (nI_add _ _) (by decide) rfl ?_
                refine r_goto (tgt := 38) d_Mm_freezeStep_180 (by decide) ?_
                refine r_lvE (lv2 := [(4, .int (nI (i + 1))), (3, .int ((fsM fl (fa_fill (fun k => he k + gaM f fl he k 4) nx 108) st (he, mtt, fz, 0) (i + 1)).2.2.2)), (0, .ref m), (1, .ref b), (2, .int st)]) (by first | contradiction | (rw [fsM_a hA hB, hL] <;> rfl) | (rw [fsM_b hA hB, hL] <;> rfl) | (rw [fsM_n hA, hL] <;> rfl)) ?_
                refine r_cs (cs2 := [(m, .inr (12, [.int th, .ref mp, .int pt, .ref mf, .ref mh, .ref mn, .ref mt, .ref mz, .ref mc_, .ref mq, .ref mgr, .int cl, .int wa, .int co_, .int fi, .int bu, .int ho, .ref ml, .ref mi, .ref mr, .int lh, .int mg, .int wd, .int fpi, .int fal, .ref mm, .ref mu, .ref mk, .ref mx, .long po, .long de])), (b, .inl (1, 108, .inl f)), (mf, .inl (0, 108, .inl fl)), (mh, .inl (0, 108, .inl ((fsM fl (fa_fill (fun k => he k + gaM f fl he k 4) nx 108) st (he, mtt, fz, 0) (i + 1)).1))), (mn, .inl (0, 108, .inl (fa_fill (fun k => he k + gaM f fl he k 4) nx 108))), (mt, .inl (0, 108, .inl ((fsM fl (fa_fill (fun k => he k + gaM f fl he k 4) nx 108) st (he, mtt, fz, 0) (i + 1)).2.1))), (mz, .inl (0, 108, .inl ((fsM fl (fa_fill (fun k => he k + gaM f fl he k 4) nx 108) st (he, mtt, fz, 0) (i + 1)).2.2.1)))]) (by first | contradiction | (rw [fsM_a hA hB] <;> rfl) | (rw [fsM_b hA hB] <;> rfl) | (rw [fsM_n hA] <;> rfl)) ?_
                exact ih (i + 1) (by omega) (by omega)
              · refine r_aload_n d_Mm_freezeStep_150 rfl 2 rfl ?_
                refine r_get fs_Mm_17 d_Mm_freezeStep_151 (q0 := 0) rfl rfl ?_
                refine r_iload d_Mm_freezeStep_154 0 rfl ?_
                refine r_iald d_Mm_freezeStep_156 (q0 := 2) rfl (vp_in_nI (by omega) (by omega)) (v := fl i) (by rw [nI_clamp (by omega)]) ?_
                refine r_iconst d_Mm_freezeStep_157 (v := (-1)) (by decide) ?_
                refine r_icmp_eq (tgt := 175) d_Mm_freezeStep_158 (by decide) (fun c_158 => ?_) (fun c_158 => ?_)
                · have hL : lfM fl i 0 (fsM fl (fa_fill (fun k => he k + gaM f fl he k 4) nx 108) st (he, mtt, fz, 0) i).2.2.2 = 0 := by unfold lfM; rw [if_neg (fun q => q c_147), if_neg (fun q => q.1 c_158)]
                  refine r_iconst d_Mm_freezeStep_175 (v := 0) (by decide) ?_
                  refine r_istore_n (lv' := [(3, .int 0), (4, .int (nI i)), (0, .ref m), (1, .ref b), (2, .int st)]) d_Mm_freezeStep_176 rfl (by decide) rfl ?_
                  refine r_iinc (lv' := [(4, .int (nI (i + 1))), (3, .int 0), (0, .ref m), (1, .ref b), (2, .int st)]) (v := nI (i + 1)) d_Mm_freezeStep_177 (j := 1) rfl (nI_add _ _) (by decide) rfl ?_
                  refine r_goto (tgt := 38) d_Mm_freezeStep_180 (by decide) ?_
                  refine r_lvE (lv2 := [(4, .int (nI (i + 1))), (3, .int ((fsM fl (fa_fill (fun k => he k + gaM f fl he k 4) nx 108) st (he, mtt, fz, 0) (i + 1)).2.2.2)), (0, .ref m), (1, .ref b), (2, .int st)]) (by first | contradiction | (rw [fsM_a hA hB, hL] <;> rfl) | (rw [fsM_b hA hB, hL] <;> rfl) | (rw [fsM_n hA, hL] <;> rfl)) ?_
                  refine r_cs (cs2 := [(m, .inr (12, [.int th, .ref mp, .int pt, .ref mf, .ref mh, .ref mn, .ref mt, .ref mz, .ref mc_, .ref mq, .ref mgr, .int cl, .int wa, .int co_, .int fi, .int bu, .int ho, .ref ml, .ref mi, .ref mr, .int lh, .int mg, .int wd, .int fpi, .int fal, .ref mm, .ref mu, .ref mk, .ref mx, .long po, .long de])), (b, .inl (1, 108, .inl f)), (mf, .inl (0, 108, .inl fl)), (mh, .inl (0, 108, .inl ((fsM fl (fa_fill (fun k => he k + gaM f fl he k 4) nx 108) st (he, mtt, fz, 0) (i + 1)).1))), (mn, .inl (0, 108, .inl (fa_fill (fun k => he k + gaM f fl he k 4) nx 108))), (mt, .inl (0, 108, .inl ((fsM fl (fa_fill (fun k => he k + gaM f fl he k 4) nx 108) st (he, mtt, fz, 0) (i + 1)).2.1))), (mz, .inl (0, 108, .inl ((fsM fl (fa_fill (fun k => he k + gaM f fl he k 4) nx 108) st (he, mtt, fz, 0) (i + 1)).2.2.1)))]) (by first | contradiction | (rw [fsM_a hA hB] <;> rfl) | (rw [fsM_b hA hB] <;> rfl) | (rw [fsM_n hA] <;> rfl)) ?_
                  exact ih (i + 1) (by omega) (by omega)
                · refine r_aload_n d_Mm_freezeStep_161 rfl 2 rfl ?_
                  refine r_get fs_Mm_30 d_Mm_freezeStep_162 (q0 := 0) rfl rfl ?_
                  refine r_iload d_Mm_freezeStep_165 0 rfl ?_
                  refine r_iald d_Mm_freezeStep_167 (q0 := 6) rfl (vp_in_nI (by omega) (by omega)) (v := 0) (by rw [nI_clamp (by omega)]; exact upd_eq) ?_
                  refine r_if_ne (tgt := 175) d_Mm_freezeStep_168 (by decide) (fun c_168 => ?_) (fun c_168 => ?_)
                  · exact absurd c_168 (by decide)
                  · have hL : lfM fl i 0 (fsM fl (fa_fill (fun k => he k + gaM f fl he k 4) nx 108) st (he, mtt, fz, 0) i).2.2.2 = 1 := by unfold lfM; rw [if_neg (fun q => q c_147), if_pos ⟨c_158, c_168⟩]
                    refine r_iconst d_Mm_freezeStep_171 (v := 1) (by decide) ?_
                    refine r_goto (tgt := 176) d_Mm_freezeStep_172 (by decide) ?_
                    refine r_istore_n (lv' := [(3, .int 1), (4, .int (nI i)), (0, .ref m), (1, .ref b), (2, .int st)]) d_Mm_freezeStep_176 rfl (by decide) rfl ?_
                    refine r_iinc (lv' := [(4, .int (nI (i + 1))), (3, .int 1), (0, .ref m), (1, .ref b), (2, .int st)]) (v := nI (i + 1)) d_Mm_freezeStep_177 (j := 1) rfl (nI_add _ _) (by decide) rfl ?_
                    refine r_goto (tgt := 38) d_Mm_freezeStep_180 (by decide) ?_
                    refine r_lvE (lv2 := [(4, .int (nI (i + 1))), (3, .int ((fsM fl (fa_fill (fun k => he k + gaM f fl he k 4) nx 108) st (he, mtt, fz, 0) (i + 1)).2.2.2)), (0, .ref m), (1, .ref b), (2, .int st)]) (by first | contradiction | (rw [fsM_a hA hB, hL] <;> rfl) | (rw [fsM_b hA hB, hL] <;> rfl) | (rw [fsM_n hA, hL] <;> rfl)) ?_
                    refine r_cs (cs2 := [(m, .inr (12, [.int th, .ref mp, .int pt, .ref mf, .ref mh, .ref mn, .ref mt, .ref mz, .ref mc_, .ref mq, .ref mgr, .int cl, .int wa, .int co_, .int fi, .int bu, .int ho, .ref ml, .ref mi, .ref mr, .int lh, .int mg, .int wd, .int fpi, .int fal, .ref mm, .ref mu, .ref mk, .ref mx, .long po, .long de])), (b, .inl (1, 108, .inl f)), (mf, .inl (0, 108, .inl fl)), (mh, .inl (0, 108, .inl ((fsM fl (fa_fill (fun k => he k + gaM f fl he k 4) nx 108) st (he, mtt, fz, 0) (i + 1)).1))), (mn, .inl (0, 108, .inl (fa_fill (fun k => he k + gaM f fl he k 4) nx 108))), (mt, .inl (0, 108, .inl ((fsM fl (fa_fill (fun k => he k + gaM f fl he k 4) nx 108) st (he, mtt, fz, 0) (i + 1)).2.1))), (mz, .inl (0, 108, .inl ((fsM fl (fa_fill (fun k => he k + gaM f fl he k 4) nx 108) st (he, mtt, fz, 0) (i + 1)).2.2.1)))]) (by first | contradiction | (rw [fsM_a hA hB] <;> rfl) | (rw [fsM_b hA hB] <;> rfl) | (rw [fsM_n hA] <;> rfl)) ?_
                    exact ih (i + 1) (by omega) (by omega)
            · have hB := c_137
              refine r_iload_n d_Mm_freezeStep_140 rfl 4 rfl ?_
              refine r_goto (tgt := 145) d_Mm_freezeStep_141 (by decide) ?_
              refine r_iast d_Mm_freezeStep_145 (q0 := 6) rfl (vp_in_nI (by omega) (by omega)) (f' := upd ((fsM fl (fa_fill (fun k => he k + gaM f fl he k 4) nx 108) st (he, mtt, fz, 0) i).2.2.1) i st) (by rw [nI_clamp (by omega)]) (cs' := [(m, .inr (12, [.int th, .ref mp, .int pt, .ref mf, .ref mh, .ref mn, .ref mt, .ref mz, .ref mc_, .ref mq, .ref mgr, .int cl, .int wa, .int co_, .int fi, .int bu, .int ho, .ref ml, .ref mi, .ref mr, .int lh, .int mg, .int wd, .int fpi, .int fal, .ref mm, .ref mu, .ref mk, .ref mx, .long po, .long de])), (b, .inl (1, 108, .inl f)), (mf, .inl (0, 108, .inl fl)), (mh, .inl (0, 108, .inl (upd (upd ((fsM fl (fa_fill (fun k => he k + gaM f fl he k 4) nx 108) st (he, mtt, fz, 0) i).1) i ((fa_fill (fun k => he k + gaM f fl he k 4) nx 108) i)) i 1150))), (mn, .inl (0, 108, .inl (fa_fill (fun k => he k + gaM f fl he k 4) nx 108))), (mt, .inl (0, 108, .inl (upd ((fsM fl (fa_fill (fun k => he k + gaM f fl he k 4) nx 108) st (he, mtt, fz, 0) i).2.1) i ((((fsM fl (fa_fill (fun k => he k + gaM f fl he k 4) nx 108) st (he, mtt, fz, 0) i).2.1) i) - (1150 - ((fa_fill (fun k => he k + gaM f fl he k 4) nx 108) i)))))), (mz, .inl (0, 108, .inl (upd ((fsM fl (fa_fill (fun k => he k + gaM f fl he k 4) nx 108) st (he, mtt, fz, 0) i).2.2.1) i st)))]) rfl ?_
              refine r_iload_n d_Mm_freezeStep_146 rfl 1 rfl ?_
              refine r_if_ne (tgt := 171) d_Mm_freezeStep_147 (by decide) (fun c_147 => ?_) (fun c_147 => ?_)
              · have hL : lfM fl i st (fsM fl (fa_fill (fun k => he k + gaM f fl he k 4) nx 108) st (he, mtt, fz, 0) i).2.2.2 = 1 := if_pos c_147
                refine r_iconst d_Mm_freezeStep_171 (v := 1) (by decide) ?_
                refine r_goto (tgt := 176) d_Mm_freezeStep_172 (by decide) ?_
                refine r_istore_n (lv' := [(3, .int 1), (4, .int (nI i)), (0, .ref m), (1, .ref b), (2, .int st)]) d_Mm_freezeStep_176 rfl (by decide) rfl ?_
                refine r_iinc (lv' := [(4, .int (nI (i + 1))), (3, .int 1), (0, .ref m), (1, .ref b), (2, .int st)]) (v := nI (i + 1)) d_Mm_freezeStep_177 (j := 1) rfl (nI_add _ _) (by decide) rfl ?_
                refine r_goto (tgt := 38) d_Mm_freezeStep_180 (by decide) ?_
                refine r_lvE (lv2 := [(4, .int (nI (i + 1))), (3, .int ((fsM fl (fa_fill (fun k => he k + gaM f fl he k 4) nx 108) st (he, mtt, fz, 0) (i + 1)).2.2.2)), (0, .ref m), (1, .ref b), (2, .int st)]) (by first | contradiction | (rw [fsM_a hA hB, hL] <;> rfl) | (rw [fsM_b hA hB, hL] <;> rfl) | (rw [fsM_n hA, hL] <;> rfl)) ?_
                refine r_cs (cs2 := [(m, .inr (12, [.int th, .ref mp, .int pt, .ref mf, .ref mh, .ref mn, .ref mt, .ref mz, .ref mc_, .ref mq, .ref mgr, .int cl, .int wa, .int co_, .int fi, .int bu, .int ho, .ref ml, .ref mi, .ref mr, .int lh, .int mg, .int wd, .int fpi, .int fal, .ref mm, .ref mu, .ref mk, .ref mx, .long po, .long de])), (b, .inl (1, 108, .inl f)), (mf, .inl (0, 108, .inl fl)), (mh, .inl (0, 108, .inl ((fsM fl (fa_fill (fun k => he k + gaM f fl he k 4) nx 108) st (he, mtt, fz, 0) (i + 1)).1))), (mn, .inl (0, 108, .inl (fa_fill (fun k => he k + gaM f fl he k 4) nx 108))), (mt, .inl (0, 108, .inl ((fsM fl (fa_fill (fun k => he k + gaM f fl he k 4) nx 108) st (he, mtt, fz, 0) (i + 1)).2.1))), (mz, .inl (0, 108, .inl ((fsM fl (fa_fill (fun k => he k + gaM f fl he k 4) nx 108) st (he, mtt, fz, 0) (i + 1)).2.2.1)))]) (by first | contradiction | (rw [fsM_a hA hB] <;> rfl) | (rw [fsM_b hA hB] <;> rfl) | (rw [fsM_n hA] <;> rfl)) ?_
                exact ih (i + 1) (by omega) (by omega)
              · refine r_aload_n d_Mm_freezeStep_150 rfl 2 rfl ?_
                refine r_get fs_Mm_17 d_Mm_freezeStep_151 (q0 := 0) rfl rfl ?_
                refine r_iload d_Mm_freezeStep_154 0 rfl ?_
                refine r_iald d_Mm_freezeStep_156 (q0 := 2) rfl (vp_in_nI (by omega) (by omega)) (v := fl i) (by rw [nI_clamp (by omega)]) ?_
                refine r_iconst d_Mm_freezeStep_157 (v := (-1)) (by decide) ?_
                refine r_icmp_eq (tgt := 175) d_Mm_freezeStep_158 (by decide) (fun c_158 => ?_) (fun c_158 => ?_)
                · have hL : lfM fl i st (fsM fl (fa_fill (fun k => he k + gaM f fl he k 4) nx 108) st (he, mtt, fz, 0) i).2.2.2 = 0 := by unfold lfM; rw [if_neg (fun q => q c_147), if_neg (fun q => q.1 c_158)]
                  refine r_iconst d_Mm_freezeStep_175 (v := 0) (by decide) ?_
                  refine r_istore_n (lv' := [(3, .int 0), (4, .int (nI i)), (0, .ref m), (1, .ref b), (2, .int st)]) d_Mm_freezeStep_176 rfl (by decide) rfl ?_
                  refine r_iinc (lv' := [(4, .int (nI (i + 1))), (3, .int 0), (0, .ref m), (1, .ref b), (2, .int st)]) (v := nI (i + 1)) d_Mm_freezeStep_177 (j := 1) rfl (nI_add _ _) (by decide) rfl ?_
                  refine r_goto (tgt := 38) d_Mm_freezeStep_180 (by decide) ?_
                  refine r_lvE (lv2 := [(4, .int (nI (i + 1))), (3, .int ((fsM fl (fa_fill (fun k => he k + gaM f fl he k 4) nx 108) st (he, mtt, fz, 0) (i + 1)).2.2.2)), (0, .ref m), (1, .ref b), (2, .int st)]) (by first | contradiction | (rw [fsM_a hA hB, hL] <;> rfl) | (rw [fsM_b hA hB, hL] <;> rfl) | (rw [fsM_n hA, hL] <;> rfl)) ?_
                  refine r_cs (cs2 := [(m, .inr (12, [.int th, .ref mp, .int pt, .ref mf, .ref mh, .ref mn, .ref mt, .ref mz, .ref mc_, .ref mq, .ref mgr, .int cl, .int wa, .int co_, .int fi, .int bu, .int ho, .ref ml, .ref mi, .ref mr, .int lh, .int mg, .int wd, .int fpi, .int fal, .ref mm, .ref mu, .ref mk, .ref mx, .long po, .long de])), (b, .inl (1, 108, .inl f)), (mf, .inl (0, 108, .inl fl)), (mh, .inl (0, 108, .inl ((fsM fl (fa_fill (fun k => he k + gaM f fl he k 4) nx 108) st (he, mtt, fz, 0) (i + 1)).1))), (mn, .inl (0, 108, .inl (fa_fill (fun k => he k + gaM f fl he k 4) nx 108))), (mt, .inl (0, 108, .inl ((fsM fl (fa_fill (fun k => he k + gaM f fl he k 4) nx 108) st (he, mtt, fz, 0) (i + 1)).2.1))), (mz, .inl (0, 108, .inl ((fsM fl (fa_fill (fun k => he k + gaM f fl he k 4) nx 108) st (he, mtt, fz, 0) (i + 1)).2.2.1)))]) (by first | contradiction | (rw [fsM_a hA hB] <;> rfl) | (rw [fsM_b hA hB] <;> rfl) | (rw [fsM_n hA] <;> rfl)) ?_
                  exact ih (i + 1) (by omega) (by omega)
                · refine r_aload_n d_Mm_freezeStep_161 rfl 2 rfl ?_
                  refine r_get fs_Mm_30 d_Mm_freezeStep_162 (q0 := 0) rfl rfl ?_
                  refine r_iload d_Mm_freezeStep_165 0 rfl ?_
                  refine r_iald d_Mm_freezeStep_167 (q0 := 6) rfl (vp_in_nI (by omega) (by omega)) (v := st) (by rw [nI_clamp (by omega)]; exact upd_eq) ?_
                  refine r_if_ne (tgt := 175) d_Mm_freezeStep_168 (by decide) (fun c_168 => ?_) (fun c_168 => ?_)
                  · have hL : lfM fl i st (fsM fl (fa_fill (fun k => he k + gaM f fl he k 4) nx 108) st (he, mtt, fz, 0) i).2.2.2 = 0 := by unfold lfM; rw [if_neg (fun q => q c_147), if_neg (fun q => c_168 q.2)]
                    refine r_iconst d_Mm_freezeStep_175 (v := 0) (by decide) ?_
                    refine r_istore_n (lv' := [(3, .int 0), (4, .int (nI i)), (0, .ref m), (1, .ref b), (2, .int st)]) d_Mm_freezeStep_176 rfl (by decide) rfl ?_
                    refine r_iinc (lv' := [(4, .int (nI (i + 1))), (3, .int 0), (0, .ref m), (1, .ref b), (2, .int st)]) (v := nI (i + 1)) d_Mm_freezeStep_177 (j := 1) rfl (nI_add _ _) (by decide) rfl ?_
                    refine r_goto (tgt := 38) d_Mm_freezeStep_180 (by decide) ?_
                    refine r_lvE (lv2 := [(4, .int (nI (i + 1))), (3, .int ((fsM fl (fa_fill (fun k => he k + gaM f fl he k 4) nx 108) st (he, mtt, fz, 0) (i + 1)).2.2.2)), (0, .ref m), (1, .ref b), (2, .int st)]) (by first | contradiction | (rw [fsM_a hA hB, hL] <;> rfl) | (rw [fsM_b hA hB, hL] <;> rfl) | (rw [fsM_n hA, hL] <;> rfl)) ?_
                    refine r_cs (cs2 := [(m, .inr (12, [.int th, .ref mp, .int pt, .ref mf, .ref mh, .ref mn, .ref mt, .ref mz, .ref mc_, .ref mq, .ref mgr, .int cl, .int wa, .int co_, .int fi, .int bu, .int ho, .ref ml, .ref mi, .ref mr, .int lh, .int mg, .int wd, .int fpi, .int fal, .ref mm, .ref mu, .ref mk, .ref mx, .long po, .long de])), (b, .inl (1, 108, .inl f)), (mf, .inl (0, 108, .inl fl)), (mh, .inl (0, 108, .inl ((fsM fl (fa_fill (fun k => he k + gaM f fl he k 4) nx 108) st (he, mtt, fz, 0) (i + 1)).1))), (mn, .inl (0, 108, .inl (fa_fill (fun k => he k + gaM f fl he k 4) nx 108))), (mt, .inl (0, 108, .inl ((fsM fl (fa_fill (fun k => he k + gaM f fl he k 4) nx 108) st (he, mtt, fz, 0) (i + 1)).2.1))), (mz, .inl (0, 108, .inl ((fsM fl (fa_fill (fun k => he k + gaM f fl he k 4) nx 108) st (he, mtt, fz, 0) (i + 1)).2.2.1)))]) (by first | contradiction | (rw [fsM_a hA hB] <;> rfl) | (rw [fsM_b hA hB] <;> rfl) | (rw [fsM_n hA] <;> rfl)) ?_
                    exact ih (i + 1) (by omega) (by omega)
                  · have hL : lfM fl i st (fsM fl (fa_fill (fun k => he k + gaM f fl he k 4) nx 108) st (he, mtt, fz, 0) i).2.2.2 = 1 := by unfold lfM; rw [if_neg (fun q => q c_147), if_pos ⟨c_158, c_168⟩]
                    refine r_iconst d_Mm_freezeStep_171 (v := 1) (by decide) ?_
                    refine r_goto (tgt := 176) d_Mm_freezeStep_172 (by decide) ?_
                    refine r_istore_n (lv' := [(3, .int 1), (4, .int (nI i)), (0, .ref m), (1, .ref b), (2, .int st)]) d_Mm_freezeStep_176 rfl (by decide) rfl ?_
                    refine r_iinc (lv' := [(4, .int (nI (i + 1))), (3, .int 1), (0, .ref m), (1, .ref b), (2, .int st)]) (v := nI (i + 1)) d_Mm_freezeStep_177 (j := 1) rfl (nI_add _ _) (by decide) rfl ?_
                    refine r_goto (tgt := 38) d_Mm_freezeStep_180 (by decide) ?_
                    refine r_lvE (lv2 := [(4, .int (nI (i + 1))), (3, .int ((fsM fl (fa_fill (fun k => he k + gaM f fl he k 4) nx 108) st (he, mtt, fz, 0) (i + 1)).2.2.2)), (0, .ref m), (1, .ref b), (2, .int st)]) (by first | contradiction | (rw [fsM_a hA hB, hL] <;> rfl) | (rw [fsM_b hA hB, hL] <;> rfl) | (rw [fsM_n hA, hL] <;> rfl)) ?_
                    refine r_cs (cs2 := [(m, .inr (12, [.int th, .ref mp, .int pt, .ref mf, .ref mh, .ref mn, .ref mt, .ref mz, .ref mc_, .ref mq, .ref mgr, .int cl, .int wa, .int co_, .int fi, .int bu, .int ho, .ref ml, .ref mi, .ref mr, .int lh, .int mg, .int wd, .int fpi, .int fal, .ref mm, .ref mu, .ref mk, .ref mx, .long po, .long de])), (b, .inl (1, 108, .inl f)), (mf, .inl (0, 108, .inl fl)), (mh, .inl (0, 108, .inl ((fsM fl (fa_fill (fun k => he k + gaM f fl he k 4) nx 108) st (he, mtt, fz, 0) (i + 1)).1))), (mn, .inl (0, 108, .inl (fa_fill (fun k => he k + gaM f fl he k 4) nx 108))), (mt, .inl (0, 108, .inl ((fsM fl (fa_fill (fun k => he k + gaM f fl he k 4) nx 108) st (he, mtt, fz, 0) (i + 1)).2.1))), (mz, .inl (0, 108, .inl ((fsM fl (fa_fill (fun k => he k + gaM f fl he k 4) nx 108) st (he, mtt, fz, 0) (i + 1)).2.2.1)))]) (by first | contradiction | (rw [fsM_a hA hB] <;> rfl) | (rw [fsM_b hA hB] <;> rfl) | (rw [fsM_n hA] <;> rfl)) ?_
                    exact ih (i + 1) (by omega) (by omega)
set_option maxHeartbeats 4000000 in
set_option maxRecDepth 100000 in
theorem L_Mm_freezeStep9_2 (g : zG) (m mp mf mh mn mt mz mc_ mq mgr ml mi mr mm mu mk mx : Nat) (th pt cl wa co_ fi bu ho lh mg wd fpi fal : Int32) (po de : Int64) (b : Nat) (f : Nat → Int32) (fl : Nat → Int32) (he nx mtt fz : Nat → Int32) (st : Int32) (w0 : zW) (n : Nat) : ∀ (d i : Nat), i ≤ 108 → 108 < i + d → DV g M_Mm_freezeStep (fun o cs1 => o = .inl (some (.int ((fsF f fl he nx mtt fz st).1.2.2.2))) ∧ cs1 = [(m, .inr (12, [.int th, .ref mp, .int pt, .ref mf, .ref mh, .ref mn, .ref mt, .ref mz, .ref mc_, .ref mq, .ref mgr, .int cl, .int wa, .int co_, .int fi, .int bu, .int ho, .ref ml, .ref mi, .ref mr, .int lh, .int mg, .int wd, .int fpi, .int fal, .ref mm, .ref mu, .ref mk, .ref mx, .long po, .long de])), (b, .inl (1, 108, .inl f)), (mf, .inl (0, 108, .inl fl)), (mh, .inl (0, 108, .inl ((fsF f fl he nx mtt fz st).1.1))), (mn, .inl (0, 108, .inl ((fsF f fl he nx mtt fz st).2))), (mt, .inl (0, 108, .inl ((fsF f fl he nx mtt fz st).1.2.1))), (mz, .inl (0, 108, .inl ((fsF f fl he nx mtt fz st).1.2.2.1)))]) w0 n 2 [(3, .int (nI i)), (0, .ref m), (1, .ref b), (2, .int st)] [] [(m, .inr (12, [.int th, .ref mp, .int pt, .ref mf, .ref mh, .ref mn, .ref mt, .ref mz, .ref mc_, .ref mq, .ref mgr, .int cl, .int wa, .int co_, .int fi, .int bu, .int ho, .ref ml, .ref mi, .ref mr, .int lh, .int mg, .int wd, .int fpi, .int fal, .ref mm, .ref mu, .ref mk, .ref mx, .long po, .long de])), (b, .inl (1, 108, .inl f)), (mf, .inl (0, 108, .inl fl)), (mh, .inl (0, 108, .inl he)), (mn, .inl (0, 108, .inl (fa_fill (fun k => he k + gaM f fl he k 4) nx i))), (mt, .inl (0, 108, .inl mtt)), (mz, .inl (0, 108, .inl fz))] 0 0 := by
  intro d
  induction d with
  | zero => intro i h1 h2 ; exact absurd h2 (by omega)
  | succ d ih =>
    intro i h1 h2 
    refine r_iload_n d_Mm_freezeStep_2 rfl 0 rfl ?_
    refine r_bipush d_Mm_freezeStep_3 (v := 108) (by decide) ?_
    refine r_icmp_ge (tgt := 33) d_Mm_freezeStep_5 (by decide) (fun c_5 => ?_) (fun c_5 => ?_)
    · have hn := z_le (a := 108) (by omega) (by decide) c_5
      obtain rfl : i = 108 := by omega
      refine r_iconst d_Mm_freezeStep_33 (v := 0) (by decide) ?_
      refine r_istore_n (lv' := [(3, .int 0), (0, .ref m), (1, .ref b), (2, .int st)]) d_Mm_freezeStep_34 rfl (by decide) rfl ?_
      refine r_iconst d_Mm_freezeStep_35 (v := 0) (by decide) ?_
      refine r_istore (lv' := [(4, .int 0), (3, .int 0), (0, .ref m), (1, .ref b), (2, .int st)]) d_Mm_freezeStep_36 (by decide) rfl ?_
      refine r_lvE (lv2 := [(4, .int (nI 0)), (3, .int ((fsM fl (fa_fill (fun k => he k + gaM f fl he k 4) nx 108) st (he, mtt, fz, 0) 0).2.2.2)), (0, .ref m), (1, .ref b), (2, .int st)]) (rfl) ?_
      refine r_cs (cs2 := [(m, .inr (12, [.int th, .ref mp, .int pt, .ref mf, .ref mh, .ref mn, .ref mt, .ref mz, .ref mc_, .ref mq, .ref mgr, .int cl, .int wa, .int co_, .int fi, .int bu, .int ho, .ref ml, .ref mi, .ref mr, .int lh, .int mg, .int wd, .int fpi, .int fal, .ref mm, .ref mu, .ref mk, .ref mx, .long po, .long de])), (b, .inl (1, 108, .inl f)), (mf, .inl (0, 108, .inl fl)), (mh, .inl (0, 108, .inl ((fsM fl (fa_fill (fun k => he k + gaM f fl he k 4) nx 108) st (he, mtt, fz, 0) 0).1))), (mn, .inl (0, 108, .inl (fa_fill (fun k => he k + gaM f fl he k 4) nx 108))), (mt, .inl (0, 108, .inl ((fsM fl (fa_fill (fun k => he k + gaM f fl he k 4) nx 108) st (he, mtt, fz, 0) 0).2.1))), (mz, .inl (0, 108, .inl ((fsM fl (fa_fill (fun k => he k + gaM f fl he k 4) nx 108) st (he, mtt, fz, 0) 0).2.2.1)))]) (rfl) ?_
      exact L_Mm_freezeStep9_38 g m mp mf mh mn mt mz mc_ mq mgr ml mi mr mm mu mk mx th pt cl wa co_ fi bu ho lh mg wd fpi fal po de b f fl he nx mtt fz st w0 _  (108 + 1) 0 (Nat.zero_le _) (by omega)
    · have hn := z_nle (a := 108) (by omega) (by decide) c_5
      refine r_aload_n d_Mm_freezeStep_8 rfl 1 rfl ?_
      refine r_get fs_Mm_24 d_Mm_freezeStep_9 (q0 := 0) rfl rfl ?_
      refine r_iload_n d_Mm_freezeStep_12 rfl 0 rfl ?_
      refine r_aload_n d_Mm_freezeStep_13 rfl 1 rfl ?_
      refine r_get fs_Mm_21 d_Mm_freezeStep_14 (q0 := 0) rfl rfl ?_
      refine r_iload_n d_Mm_freezeStep_17 rfl 0 rfl ?_
      refine r_iald d_Mm_freezeStep_18 (q0 := 3) rfl (vp_in_nI (by omega) (by omega)) (v := he i) (by rw [nI_clamp (by omega)]) ?_
      refine r_aload_n d_Mm_freezeStep_19 rfl 1 rfl ?_
      refine r_aload_n d_Mm_freezeStep_20 rfl 2 rfl ?_
      refine r_iload_n d_Mm_freezeStep_21 rfl 0 rfl ?_
      refine r_callV (As := [.ref b, .int (nI i)]) (rest := [.int (he i), .int (nI i), .ref mn]) (csC := [(m, .inr (12, [.int th, .ref mp, .int pt, .ref mf, .ref mh, .ref mn, .ref mt, .ref mz, .ref mc_, .ref mq, .ref mgr, .int cl, .int wa, .int co_, .int fi, .int bu, .int ho, .ref ml, .ref mi, .ref mr, .int lh, .int mg, .int wd, .int fpi, .int fal, .ref mm, .ref mu, .ref mk, .ref mx, .long po, .long de])), (b, .inl (1, 108, .inl f)), (mf, .inl (0, 108, .inl fl)), (mh, .inl (0, 108, .inl he))]) (is := [0, 1, 2, 3]) (q0 := 0) rfl rfl ln_Mm_154 w_im_Mm_gains w_se_Mm_gains ok_Mm_freezeStep_Mm_gains d_Mm_freezeStep_22 (C_Mm_gains9 g m mp mf mh mn mt mz mc_ mq mgr ml mi mr mm mu mk mx th pt cl wa co_ fi bu ho lh mg wd fpi fal po de b f fl he i (by omega)) rfl rfl (Nat.le_of_ble_eq_true rfl) rfl (by decide) (by omega) (by omega) (fun E cs1 hx => ?_) (fun v cs1 hx => ?_)
      · exact absurd hx.1 (by simp)
      · obtain ⟨e1, rfl⟩ := hx
        cases e1
        refine ⟨rfl, ?_⟩
        refine r_st (st2 := [.int (gaM f fl he i 4), .int (he i), .int (nI i), .ref mn]) rfl ?_
        refine r_cs (cs2 := [(m, .inr (12, [.int th, .ref mp, .int pt, .ref mf, .ref mh, .ref mn, .ref mt, .ref mz, .ref mc_, .ref mq, .ref mgr, .int cl, .int wa, .int co_, .int fi, .int bu, .int ho, .ref ml, .ref mi, .ref mr, .int lh, .int mg, .int wd, .int fpi, .int fal, .ref mm, .ref mu, .ref mk, .ref mx, .long po, .long de])), (b, .inl (1, 108, .inl f)), (mf, .inl (0, 108, .inl fl)), (mh, .inl (0, 108, .inl he)), (mn, .inl (0, 108, .inl (fa_fill (fun k => he k + gaM f fl he k 4) nx i))), (mt, .inl (0, 108, .inl mtt)), (mz, .inl (0, 108, .inl fz))]) rfl ?_
        refine r_iadd d_Mm_freezeStep_25 (v := (he i) + (gaM f fl he i 4)) rfl ?_
        refine r_iast d_Mm_freezeStep_26 (q0 := 4) rfl (vp_in_nI (by omega) (by omega)) (f' := fa_fill (fun k => he k + gaM f fl he k 4) nx (i + 1)) (by rw [nI_clamp (by omega)]; exact fa_fill_succ (fun k => he k + gaM f fl he k 4) nx i) (cs' := [(m, .inr (12, [.int th, .ref mp, .int pt, .ref mf, .ref mh, .ref mn, .ref mt, .ref mz, .ref mc_, .ref mq, .ref mgr, .int cl, .int wa, .int co_, .int fi, .int bu, .int ho, .ref ml, .ref mi, .ref mr, .int lh, .int mg, .int wd, .int fpi, .int fal, .ref mm, .ref mu, .ref mk, .ref mx, .long po, .long de])), (b, .inl (1, 108, .inl f)), (mf, .inl (0, 108, .inl fl)), (mh, .inl (0, 108, .inl he)), (mn, .inl (0, 108, .inl (fa_fill (fun k => he k + gaM f fl he k 4) nx (i + 1)))), (mt, .inl (0, 108, .inl mtt)), (mz, .inl (0, 108, .inl fz))]) rfl ?_
        refine r_iinc (lv' := [(3, .int (nI (i + 1))), (0, .ref m), (1, .ref b), (2, .int st)]) (v := nI (i + 1)) d_Mm_freezeStep_27 (j := 0) rfl (nI_add _ _) (by decide) rfl ?_
        refine r_goto (tgt := 2) d_Mm_freezeStep_30 (by decide) ?_
        refine r_lvE (lv2 := [(3, .int (nI (i + 1))), (0, .ref m), (1, .ref b), (2, .int st)]) (rfl) ?_
        refine r_cs (cs2 := [(m, .inr (12, [.int th, .ref mp, .int pt, .ref mf, .ref mh, .ref mn, .ref mt, .ref mz, .ref mc_, .ref mq, .ref mgr, .int cl, .int wa, .int co_, .int fi, .int bu, .int ho, .ref ml, .ref mi, .ref mr, .int lh, .int mg, .int wd, .int fpi, .int fal, .ref mm, .ref mu, .ref mk, .ref mx, .long po, .long de])), (b, .inl (1, 108, .inl f)), (mf, .inl (0, 108, .inl fl)), (mh, .inl (0, 108, .inl he)), (mn, .inl (0, 108, .inl (fa_fill (fun k => he k + gaM f fl he k 4) nx (i + 1)))), (mt, .inl (0, 108, .inl mtt)), (mz, .inl (0, 108, .inl fz))]) (rfl) ?_
        exact ih (i + 1) (by omega) (by omega)
set_option maxHeartbeats 4000000 in
set_option maxRecDepth 100000 in
theorem C_Mm_freezeStep9 (g : zG) (m mp mf mh mn mt mz mc_ mq mgr ml mi mr mm mu mk mx : Nat) (th pt cl wa co_ fi bu ho lh mg wd fpi fal : Int32) (po de : Int64) (b : Nat) (f : Nat → Int32) (fl : Nat → Int32) (he nx mtt fz : Nat → Int32) (st : Int32) : CT g M_Mm_freezeStep [.ref m, .ref b, .int st] [(m, .inr (12, [.int th, .ref mp, .int pt, .ref mf, .ref mh, .ref mn, .ref mt, .ref mz, .ref mc_, .ref mq, .ref mgr, .int cl, .int wa, .int co_, .int fi, .int bu, .int ho, .ref ml, .ref mi, .ref mr, .int lh, .int mg, .int wd, .int fpi, .int fal, .ref mm, .ref mu, .ref mk, .ref mx, .long po, .long de])), (b, .inl (1, 108, .inl f)), (mf, .inl (0, 108, .inl fl)), (mh, .inl (0, 108, .inl he)), (mn, .inl (0, 108, .inl nx)), (mt, .inl (0, 108, .inl mtt)), (mz, .inl (0, 108, .inl fz))] (fun o cs1 => o = .inl (some (.int ((fsF f fl he nx mtt fz st).1.2.2.2))) ∧ cs1 = [(m, .inr (12, [.int th, .ref mp, .int pt, .ref mf, .ref mh, .ref mn, .ref mt, .ref mz, .ref mc_, .ref mq, .ref mgr, .int cl, .int wa, .int co_, .int fi, .int bu, .int ho, .ref ml, .ref mi, .ref mr, .int lh, .int mg, .int wd, .int fpi, .int fal, .ref mm, .ref mu, .ref mk, .ref mx, .long po, .long de])), (b, .inl (1, 108, .inl f)), (mf, .inl (0, 108, .inl fl)), (mh, .inl (0, 108, .inl ((fsF f fl he nx mtt fz st).1.1))), (mn, .inl (0, 108, .inl ((fsF f fl he nx mtt fz st).2))), (mt, .inl (0, 108, .inl ((fsF f fl he nx mtt fz st).1.2.1))), (mz, .inl (0, 108, .inl ((fsF f fl he nx mtt fz st).1.2.2.1)))]) 0 0 := by
  refine z_of (by decide) rfl (Nat.le_of_ble_eq_true rfl) (fun w0 => ?_)
  refine r_lvE (lv2 := [(0, .ref m), (1, .ref b), (2, .int st)]) rfl ?_
  refine r_iconst d_Mm_freezeStep_0 (v := 0) (by decide) ?_
  refine r_istore_n (lv' := [(3, .int 0), (0, .ref m), (1, .ref b), (2, .int st)]) d_Mm_freezeStep_1 rfl (by decide) rfl ?_
  refine r_lvE (lv2 := [(3, .int (nI 0)), (0, .ref m), (1, .ref b), (2, .int st)]) (rfl) ?_
  refine r_cs (cs2 := [(m, .inr (12, [.int th, .ref mp, .int pt, .ref mf, .ref mh, .ref mn, .ref mt, .ref mz, .ref mc_, .ref mq, .ref mgr, .int cl, .int wa, .int co_, .int fi, .int bu, .int ho, .ref ml, .ref mi, .ref mr, .int lh, .int mg, .int wd, .int fpi, .int fal, .ref mm, .ref mu, .ref mk, .ref mx, .long po, .long de])), (b, .inl (1, 108, .inl f)), (mf, .inl (0, 108, .inl fl)), (mh, .inl (0, 108, .inl he)), (mn, .inl (0, 108, .inl (fa_fill (fun k => he k + gaM f fl he k 4) nx 0))), (mt, .inl (0, 108, .inl mtt)), (mz, .inl (0, 108, .inl fz))]) (rfl) ?_
  exact L_Mm_freezeStep9_2 g m mp mf mh mn mt mz mc_ mq mgr ml mi mr mm mu mk mx th pt cl wa co_ fi bu ho lh mg wd fpi fal po de b f fl he nx mtt fz st w0 _  (108 + 1) 0 (Nat.zero_le _) (by omega)
set_option maxHeartbeats 4000000 in
set_option maxRecDepth 100000 in
theorem L_Mm_begin9_7 (g : zG) (m mp mf mh mn mt mz mc_ mq mgr ml mi mr mm mu mk mx : Nat) (th pt cl wa co_ fi bu ho lh mg wd fpi fal : Int32) (po de : Int64) (b : Nat) (f : Nat → Int32) (fl : Nat → Int32) (he mtt fz : Nat → Int32) (h : Int32) (w0 : zW) (n : Nat) : ∀ (d i : Nat), i ≤ 108 → 108 < i + d → DV g M_Mm_begin (fun o cs1 => o = .inl none ∧ cs1 = [(m, .inr (12, [.int th, .ref mp, .int pt, .ref mf, .ref mh, .ref mn, .ref mt, .ref mz, .ref mc_, .ref mq, .ref mgr, .int cl, .int wa, .int co_, .int fi, .int bu, .int ho, .ref ml, .ref mi, .ref mr, .int lh, .int mg, .int wd, .int fpi, .int fal, .ref mm, .ref mu, .ref mk, .ref mx, .long po, .long de])), (b, .inl (1, 108, .inl f)), (mf, .inl (0, 108, .inl (flC f fl))), (mh, .inl (0, 108, .inl (fa_fill (hbM (flC f fl) h) he 108))), (mt, .inl (0, 108, .inl (fa_fill (fun _ => 300) mtt 108))), (mz, .inl (0, 108, .inl (fa_fill (fun _ => 0) fz 108)))]) w0 n 7 [(3, .int (nI i)), (0, .ref m), (1, .ref b), (2, .int h)] [] [(m, .inr (12, [.int th, .ref mp, .int pt, .ref mf, .ref mh, .ref mn, .ref mt, .ref mz, .ref mc_, .ref mq, .ref mgr, .int cl, .int wa, .int co_, .int fi, .int bu, .int ho, .ref ml, .ref mi, .ref mr, .int lh, .int mg, .int wd, .int fpi, .int fal, .ref mm, .ref mu, .ref mk, .ref mx, .long po, .long de])), (b, .inl (1, 108, .inl f)), (mf, .inl (0, 108, .inl (flC f fl))), (mh, .inl (0, 108, .inl (fa_fill (hbM (flC f fl) h) he i))), (mt, .inl (0, 108, .inl (fa_fill (fun _ => 300) mtt i))), (mz, .inl (0, 108, .inl (fa_fill (fun _ => 0) fz i)))] 0 0 := by
  intro d
  induction d with
  | zero => intro i h1 h2 ; exact absurd h2 (by omega)
  | succ d ih =>
    intro i h1 h2 
    refine r_iload_n d_Mm_begin_7 rfl 0 rfl ?_
    refine r_bipush d_Mm_begin_8 (v := 108) (by decide) ?_
    refine r_icmp_ge (tgt := 66) d_Mm_begin_10 (by decide) (fun c_10 => ?_) (fun c_10 => ?_)
    · have hn := z_le (a := 108) (by omega) (by decide) c_10
      obtain rfl : i = 108 := by omega
      refine r_vret d_Mm_begin_66 rfl ?_
      exact ⟨rfl, rfl⟩
    · have hn := z_nle (a := 108) (by omega) (by decide) c_10
      refine r_aload_n d_Mm_begin_13 rfl 1 rfl ?_
      refine r_get fs_Mm_21 d_Mm_begin_14 (q0 := 0) rfl rfl ?_
      refine r_iload_n d_Mm_begin_17 rfl 0 rfl ?_
      refine r_aload_n d_Mm_begin_18 rfl 1 rfl ?_
      refine r_get fs_Mm_17 d_Mm_begin_19 (q0 := 0) rfl rfl ?_
      refine r_iload_n d_Mm_begin_22 rfl 0 rfl ?_
      refine r_iald d_Mm_begin_23 (q0 := 2) rfl (vp_in_nI (by omega) (by omega)) (v := (flC f fl) i) (by rw [nI_clamp (by omega)]) ?_
      refine r_iconst d_Mm_begin_24 (v := (-1)) (by decide) ?_
      refine r_icmp_ne (tgt := 33) d_Mm_begin_25 (by decide) (fun c_25 => ?_) (fun c_25 => ?_)
      · refine r_iload_n d_Mm_begin_33 rfl 3 rfl ?_
        refine r_iconst d_Mm_begin_34 (v := 2) (by decide) ?_
        refine r_aload_n d_Mm_begin_35 rfl 1 rfl ?_
        refine r_get fs_Mm_17 d_Mm_begin_36 (q0 := 0) rfl rfl ?_
        refine r_iload_n d_Mm_begin_39 rfl 0 rfl ?_
        refine r_iald d_Mm_begin_40 (q0 := 2) rfl (vp_in_nI (by omega) (by omega)) (v := (flC f fl) i) (by rw [nI_clamp (by omega)]) ?_
        refine r_imul d_Mm_begin_41 (v := 2 * ((flC f fl) i)) rfl ?_
        refine r_isub d_Mm_begin_42 (v := h - (2 * ((flC f fl) i))) rfl ?_
        refine r_iast d_Mm_begin_43 (q0 := 3) rfl (vp_in_nI (by omega) (by omega)) (f' := fa_fill (hbM (flC f fl) h) he (i + 1)) (by rw [nI_clamp (by omega), ← fa_fill_succ]; exact congrArg (upd _ i) (show _ = hbM (flC f fl) h i from (if_neg c_25).symm)) (cs' := [(m, .inr (12, [.int th, .ref mp, .int pt, .ref mf, .ref mh, .ref mn, .ref mt, .ref mz, .ref mc_, .ref mq, .ref mgr, .int cl, .int wa, .int co_, .int fi, .int bu, .int ho, .ref ml, .ref mi, .ref mr, .int lh, .int mg, .int wd, .int fpi, .int fal, .ref mm, .ref mu, .ref mk, .ref mx, .long po, .long de])), (b, .inl (1, 108, .inl f)), (mf, .inl (0, 108, .inl (flC f fl))), (mh, .inl (0, 108, .inl (fa_fill (hbM (flC f fl) h) he (i + 1)))), (mt, .inl (0, 108, .inl (fa_fill (fun _ => 300) mtt i))), (mz, .inl (0, 108, .inl (fa_fill (fun _ => 0) fz i)))]) rfl ?_
        refine r_aload_n d_Mm_begin_44 rfl 1 rfl ?_
        refine r_get fs_Mm_27 d_Mm_begin_45 (q0 := 0) rfl rfl ?_
        refine r_iload_n d_Mm_begin_48 rfl 0 rfl ?_
        refine r_sipush d_Mm_begin_49 (v := 300) (by decide) ?_
        refine r_iast d_Mm_begin_52 (q0 := 4) rfl (vp_in_nI (by omega) (by omega)) (f' := fa_fill (fun _ => 300) mtt (i + 1)) (by rw [nI_clamp (by omega)]; exact fill_nI 300 mtt i) (cs' := [(m, .inr (12, [.int th, .ref mp, .int pt, .ref mf, .ref mh, .ref mn, .ref mt, .ref mz, .ref mc_, .ref mq, .ref mgr, .int cl, .int wa, .int co_, .int fi, .int bu, .int ho, .ref ml, .ref mi, .ref mr, .int lh, .int mg, .int wd, .int fpi, .int fal, .ref mm, .ref mu, .ref mk, .ref mx, .long po, .long de])), (b, .inl (1, 108, .inl f)), (mf, .inl (0, 108, .inl (flC f fl))), (mh, .inl (0, 108, .inl (fa_fill (hbM (flC f fl) h) he (i + 1)))), (mt, .inl (0, 108, .inl (fa_fill (fun _ => 300) mtt (i + 1)))), (mz, .inl (0, 108, .inl (fa_fill (fun _ => 0) fz i)))]) rfl ?_
        refine r_aload_n d_Mm_begin_53 rfl 1 rfl ?_
        refine r_get fs_Mm_30 d_Mm_begin_54 (q0 := 0) rfl rfl ?_
        refine r_iload_n d_Mm_begin_57 rfl 0 rfl ?_
        refine r_iconst d_Mm_begin_58 (v := 0) (by decide) ?_
        refine r_iast d_Mm_begin_59 (q0 := 5) rfl (vp_in_nI (by omega) (by omega)) (f' := fa_fill (fun _ => 0) fz (i + 1)) (by rw [nI_clamp (by omega)]; exact fill_nI 0 fz i) (cs' := [(m, .inr (12, [.int th, .ref mp, .int pt, .ref mf, .ref mh, .ref mn, .ref mt, .ref mz, .ref mc_, .ref mq, .ref mgr, .int cl, .int wa, .int co_, .int fi, .int bu, .int ho, .ref ml, .ref mi, .ref mr, .int lh, .int mg, .int wd, .int fpi, .int fal, .ref mm, .ref mu, .ref mk, .ref mx, .long po, .long de])), (b, .inl (1, 108, .inl f)), (mf, .inl (0, 108, .inl (flC f fl))), (mh, .inl (0, 108, .inl (fa_fill (hbM (flC f fl) h) he (i + 1)))), (mt, .inl (0, 108, .inl (fa_fill (fun _ => 300) mtt (i + 1)))), (mz, .inl (0, 108, .inl (fa_fill (fun _ => 0) fz (i + 1))))]) rfl ?_
        refine r_iinc (lv' := [(3, .int (nI (i + 1))), (0, .ref m), (1, .ref b), (2, .int h)]) (v := nI (i + 1)) d_Mm_begin_60 (j := 0) rfl (nI_add _ _) (by decide) rfl ?_
        refine r_goto (tgt := 7) d_Mm_begin_63 (by decide) ?_
        refine r_lvE (lv2 := [(3, .int (nI (i + 1))), (0, .ref m), (1, .ref b), (2, .int h)]) (rfl) ?_
        refine r_cs (cs2 := [(m, .inr (12, [.int th, .ref mp, .int pt, .ref mf, .ref mh, .ref mn, .ref mt, .ref mz, .ref mc_, .ref mq, .ref mgr, .int cl, .int wa, .int co_, .int fi, .int bu, .int ho, .ref ml, .ref mi, .ref mr, .int lh, .int mg, .int wd, .int fpi, .int fal, .ref mm, .ref mu, .ref mk, .ref mx, .long po, .long de])), (b, .inl (1, 108, .inl f)), (mf, .inl (0, 108, .inl (flC f fl))), (mh, .inl (0, 108, .inl (fa_fill (hbM (flC f fl) h) he (i + 1)))), (mt, .inl (0, 108, .inl (fa_fill (fun _ => 300) mtt (i + 1)))), (mz, .inl (0, 108, .inl (fa_fill (fun _ => 0) fz (i + 1))))]) (rfl) ?_
        exact ih (i + 1) (by omega) (by omega)
      · refine r_bipush d_Mm_begin_28 (v := 20) (by decide) ?_
        refine r_goto (tgt := 43) d_Mm_begin_30 (by decide) ?_
        refine r_iast d_Mm_begin_43 (q0 := 3) rfl (vp_in_nI (by omega) (by omega)) (f' := fa_fill (hbM (flC f fl) h) he (i + 1)) (by rw [nI_clamp (by omega), ← fa_fill_succ]; exact congrArg (upd _ i) (show _ = hbM (flC f fl) h i from (if_pos c_25).symm)) (cs' := [(m, .inr (12, [.int th, .ref mp, .int pt, .ref mf, .ref mh, .ref mn, .ref mt, .ref mz, .ref mc_, .ref mq, .ref mgr, .int cl, .int wa, .int co_, .int fi, .int bu, .int ho, .ref ml, .ref mi, .ref mr, .int lh, .int mg, .int wd, .int fpi, .int fal, .ref mm, .ref mu, .ref mk, .ref mx, .long po, .long de])), (b, .inl (1, 108, .inl f)), (mf, .inl (0, 108, .inl (flC f fl))), (mh, .inl (0, 108, .inl (fa_fill (hbM (flC f fl) h) he (i + 1)))), (mt, .inl (0, 108, .inl (fa_fill (fun _ => 300) mtt i))), (mz, .inl (0, 108, .inl (fa_fill (fun _ => 0) fz i)))]) rfl ?_
        refine r_aload_n d_Mm_begin_44 rfl 1 rfl ?_
        refine r_get fs_Mm_27 d_Mm_begin_45 (q0 := 0) rfl rfl ?_
        refine r_iload_n d_Mm_begin_48 rfl 0 rfl ?_
        refine r_sipush d_Mm_begin_49 (v := 300) (by decide) ?_
        refine r_iast d_Mm_begin_52 (q0 := 4) rfl (vp_in_nI (by omega) (by omega)) (f' := fa_fill (fun _ => 300) mtt (i + 1)) (by rw [nI_clamp (by omega)]; exact fill_nI 300 mtt i) (cs' := [(m, .inr (12, [.int th, .ref mp, .int pt, .ref mf, .ref mh, .ref mn, .ref mt, .ref mz, .ref mc_, .ref mq, .ref mgr, .int cl, .int wa, .int co_, .int fi, .int bu, .int ho, .ref ml, .ref mi, .ref mr, .int lh, .int mg, .int wd, .int fpi, .int fal, .ref mm, .ref mu, .ref mk, .ref mx, .long po, .long de])), (b, .inl (1, 108, .inl f)), (mf, .inl (0, 108, .inl (flC f fl))), (mh, .inl (0, 108, .inl (fa_fill (hbM (flC f fl) h) he (i + 1)))), (mt, .inl (0, 108, .inl (fa_fill (fun _ => 300) mtt (i + 1)))), (mz, .inl (0, 108, .inl (fa_fill (fun _ => 0) fz i)))]) rfl ?_
        refine r_aload_n d_Mm_begin_53 rfl 1 rfl ?_
        refine r_get fs_Mm_30 d_Mm_begin_54 (q0 := 0) rfl rfl ?_
        refine r_iload_n d_Mm_begin_57 rfl 0 rfl ?_
        refine r_iconst d_Mm_begin_58 (v := 0) (by decide) ?_
        refine r_iast d_Mm_begin_59 (q0 := 5) rfl (vp_in_nI (by omega) (by omega)) (f' := fa_fill (fun _ => 0) fz (i + 1)) (by rw [nI_clamp (by omega)]; exact fill_nI 0 fz i) (cs' := [(m, .inr (12, [.int th, .ref mp, .int pt, .ref mf, .ref mh, .ref mn, .ref mt, .ref mz, .ref mc_, .ref mq, .ref mgr, .int cl, .int wa, .int co_, .int fi, .int bu, .int ho, .ref ml, .ref mi, .ref mr, .int lh, .int mg, .int wd, .int fpi, .int fal, .ref mm, .ref mu, .ref mk, .ref mx, .long po, .long de])), (b, .inl (1, 108, .inl f)), (mf, .inl (0, 108, .inl (flC f fl))), (mh, .inl (0, 108, .inl (fa_fill (hbM (flC f fl) h) he (i + 1)))), (mt, .inl (0, 108, .inl (fa_fill (fun _ => 300) mtt (i + 1)))), (mz, .inl (0, 108, .inl (fa_fill (fun _ => 0) fz (i + 1))))]) rfl ?_
        refine r_iinc (lv' := [(3, .int (nI (i + 1))), (0, .ref m), (1, .ref b), (2, .int h)]) (v := nI (i + 1)) d_Mm_begin_60 (j := 0) rfl (nI_add _ _) (by decide) rfl ?_
        refine r_goto (tgt := 7) d_Mm_begin_63 (by decide) ?_
        refine r_lvE (lv2 := [(3, .int (nI (i + 1))), (0, .ref m), (1, .ref b), (2, .int h)]) (rfl) ?_
        refine r_cs (cs2 := [(m, .inr (12, [.int th, .ref mp, .int pt, .ref mf, .ref mh, .ref mn, .ref mt, .ref mz, .ref mc_, .ref mq, .ref mgr, .int cl, .int wa, .int co_, .int fi, .int bu, .int ho, .ref ml, .ref mi, .ref mr, .int lh, .int mg, .int wd, .int fpi, .int fal, .ref mm, .ref mu, .ref mk, .ref mx, .long po, .long de])), (b, .inl (1, 108, .inl f)), (mf, .inl (0, 108, .inl (flC f fl))), (mh, .inl (0, 108, .inl (fa_fill (hbM (flC f fl) h) he (i + 1)))), (mt, .inl (0, 108, .inl (fa_fill (fun _ => 300) mtt (i + 1)))), (mz, .inl (0, 108, .inl (fa_fill (fun _ => 0) fz (i + 1))))]) (rfl) ?_
        exact ih (i + 1) (by omega) (by omega)
set_option maxHeartbeats 4000000 in
set_option maxRecDepth 100000 in
theorem C_Mm_begin9 (g : zG) (m mp mf mh mn mt mz mc_ mq mgr ml mi mr mm mu mk mx : Nat) (th pt cl wa co_ fi bu ho lh mg wd fpi fal : Int32) (po de : Int64) (b : Nat) (f : Nat → Int32) (fl : Nat → Int32) (he mtt fz : Nat → Int32) (h : Int32) : CT g M_Mm_begin [.ref m, .ref b, .int h] [(m, .inr (12, [.int th, .ref mp, .int pt, .ref mf, .ref mh, .ref mn, .ref mt, .ref mz, .ref mc_, .ref mq, .ref mgr, .int cl, .int wa, .int co_, .int fi, .int bu, .int ho, .ref ml, .ref mi, .ref mr, .int lh, .int mg, .int wd, .int fpi, .int fal, .ref mm, .ref mu, .ref mk, .ref mx, .long po, .long de])), (b, .inl (1, 108, .inl f)), (mf, .inl (0, 108, .inl fl)), (mh, .inl (0, 108, .inl he)), (mt, .inl (0, 108, .inl mtt)), (mz, .inl (0, 108, .inl fz))] (fun o cs1 => o = .inl none ∧ cs1 = [(m, .inr (12, [.int th, .ref mp, .int pt, .ref mf, .ref mh, .ref mn, .ref mt, .ref mz, .ref mc_, .ref mq, .ref mgr, .int cl, .int wa, .int co_, .int fi, .int bu, .int ho, .ref ml, .ref mi, .ref mr, .int lh, .int mg, .int wd, .int fpi, .int fal, .ref mm, .ref mu, .ref mk, .ref mx, .long po, .long de])), (b, .inl (1, 108, .inl f)), (mf, .inl (0, 108, .inl (flC f fl))), (mh, .inl (0, 108, .inl (fa_fill (hbM (flC f fl) h) he 108))), (mt, .inl (0, 108, .inl (fa_fill (fun _ => 300) mtt 108))), (mz, .inl (0, 108, .inl (fa_fill (fun _ => 0) fz 108)))]) 0 0 := by
  refine z_of (by decide) rfl (Nat.le_of_ble_eq_true rfl) (fun w0 => ?_)
  refine r_lvE (lv2 := [(0, .ref m), (1, .ref b), (2, .int h)]) rfl ?_
  refine r_aload_n d_Mm_begin_0 rfl 0 rfl ?_
  refine r_aload_n d_Mm_begin_1 rfl 1 rfl ?_
  refine r_callV (As := [.ref b]) (rest := []) (csC := [(m, .inr (12, [.int th, .ref mp, .int pt, .ref mf, .ref mh, .ref mn, .ref mt, .ref mz, .ref mc_, .ref mq, .ref mgr, .int cl, .int wa, .int co_, .int fi, .int bu, .int ho, .ref ml, .ref mi, .ref mr, .int lh, .int mg, .int wd, .int fpi, .int fal, .ref mm, .ref mu, .ref mk, .ref mx, .long po, .long de])), (b, .inl (1, 108, .inl f)), (mf, .inl (0, 108, .inl fl))]) (is := [0, 1, 2]) (q0 := 0) rfl rfl ln_Mm_143 w_im_Mm_fill w_se_Mm_fill ok_Mm_begin_Mm_fill d_Mm_begin_2 (C_Mm_fill9 g m mp mf mh mn mt mz mc_ mq mgr ml mi mr mm mu mk mx th pt cl wa co_ fi bu ho lh mg wd fpi fal po de b f fl) rfl rfl (Nat.le_of_ble_eq_true rfl) rfl (by decide) (by omega) (by omega) (fun E cs1 hx => ?_) (fun v cs1 hx => ?_)
  · exact absurd hx.1 (by simp)
  · obtain ⟨e1, rfl⟩ := hx
    cases e1
    refine ⟨rfl, ?_⟩
    refine r_st (st2 := []) rfl ?_
    refine r_cs (cs2 := [(m, .inr (12, [.int th, .ref mp, .int pt, .ref mf, .ref mh, .ref mn, .ref mt, .ref mz, .ref mc_, .ref mq, .ref mgr, .int cl, .int wa, .int co_, .int fi, .int bu, .int ho, .ref ml, .ref mi, .ref mr, .int lh, .int mg, .int wd, .int fpi, .int fal, .ref mm, .ref mu, .ref mk, .ref mx, .long po, .long de])), (b, .inl (1, 108, .inl f)), (mf, .inl (0, 108, .inl (flC f fl))), (mh, .inl (0, 108, .inl he)), (mt, .inl (0, 108, .inl mtt)), (mz, .inl (0, 108, .inl fz))]) rfl ?_
    refine r_iconst d_Mm_begin_5 (v := 0) (by decide) ?_
    refine r_istore_n (lv' := [(3, .int 0), (0, .ref m), (1, .ref b), (2, .int h)]) d_Mm_begin_6 rfl (by decide) rfl ?_
    refine r_lvE (lv2 := [(3, .int (nI 0)), (0, .ref m), (1, .ref b), (2, .int h)]) (rfl) ?_
    refine r_cs (cs2 := [(m, .inr (12, [.int th, .ref mp, .int pt, .ref mf, .ref mh, .ref mn, .ref mt, .ref mz, .ref mc_, .ref mq, .ref mgr, .int cl, .int wa, .int co_, .int fi, .int bu, .int ho, .ref ml, .ref mi, .ref mr, .int lh, .int mg, .int wd, .int fpi, .int fal, .ref mm, .ref mu, .ref mk, .ref mx, .long po, .long de])), (b, .inl (1, 108, .inl f)), (mf, .inl (0, 108, .inl (flC f fl))), (mh, .inl (0, 108, .inl (fa_fill (hbM (flC f fl) h) he 0))), (mt, .inl (0, 108, .inl (fa_fill (fun _ => 300) mtt 0))), (mz, .inl (0, 108, .inl (fa_fill (fun _ => 0) fz 0)))]) (rfl) ?_
    exact L_Mm_begin9_7 g m mp mf mh mn mt mz mc_ mq mgr ml mi mr mm mu mk mx th pt cl wa co_ fi bu ho lh mg wd fpi fal po de b f fl he mtt fz h w0 _  (108 + 1) 0 (Nat.zero_le _) (by omega)
set_option maxHeartbeats 4000000 in
set_option maxRecDepth 100000 in
theorem L_Mm_freeze9_40 (g : zG) (m mp mf mh mn mt mz mc_ mq mgr ml mi mr mm mu mk mx : Nat) (th pt cl wa co_ fi bu ho lh mg wd fpi fal : Int32) (po de : Int64) (b : Nat) (f : Nat → Int32) (fl : Nat → Int32) (he nx mtt fz : Nat → Int32) (h : Int32) (w0 : zW) (n : Nat) : ∀ (d i : Nat), i ≤ 108 → 108 < i + d → DV g M_Mm_freeze (fun o cs1 => o = .inl none ∧ cs1 = [(m, .inr (12, [.int th, .ref mp, .int pt, .ref mf, .ref mh, .ref mn, .ref mt, .ref mz, .ref mc_, .ref mq, .ref mgr, .int cl, .int wa, .int co_, .int fi, .int bu, .int ho, .ref ml, .ref mi, .ref mr, .int lh, .int mg, .int wd, .int fpi, .int fal, .ref mm, .ref mu, .ref mk, .ref mx, .long po, .long de])), (b, .inl (1, 108, .inl f)), (mf, .inl (0, 108, .inl (flC f fl))), (mh, .inl (0, 108, .inl ((frM f (flC f fl) he mtt fz nx h).1.1))), (mt, .inl (0, 108, .inl ((frM f (flC f fl) he mtt fz nx h).1.2.1))), (mz, .inl (0, 108, .inl (fa_fill (frG (flC f fl) (frM f (flC f fl) he mtt fz nx h).1.2.2.1) (frM f (flC f fl) he mtt fz nx h).1.2.2.1 108))), (mn, .inl (0, 108, .inl ((frM f (flC f fl) he mtt fz nx h).2)))]) w0 n 40 [(4, .int (nI i)), (0, .ref m), (1, .ref b), (2, .int h)] [] [(m, .inr (12, [.int th, .ref mp, .int pt, .ref mf, .ref mh, .ref mn, .ref mt, .ref mz, .ref mc_, .ref mq, .ref mgr, .int cl, .int wa, .int co_, .int fi, .int bu, .int ho, .ref ml, .ref mi, .ref mr, .int lh, .int mg, .int wd, .int fpi, .int fal, .ref mm, .ref mu, .ref mk, .ref mx, .long po, .long de])), (b, .inl (1, 108, .inl f)), (mf, .inl (0, 108, .inl (flC f fl))), (mh, .inl (0, 108, .inl ((frM f (flC f fl) he mtt fz nx h).1.1))), (mt, .inl (0, 108, .inl ((frM f (flC f fl) he mtt fz nx h).1.2.1))), (mz, .inl (0, 108, .inl (fa_fill (frG (flC f fl) (frM f (flC f fl) he mtt fz nx h).1.2.2.1) (frM f (flC f fl) he mtt fz nx h).1.2.2.1 i))), (mn, .inl (0, 108, .inl ((frM f (flC f fl) he mtt fz nx h).2)))] 0 0 := by
  intro d
  induction d with
  | zero => intro i h1 h2 ; exact absurd h2 (by omega)
  | succ d ih =>
    intro i h1 h2 
    refine r_iload d_Mm_freeze_40 0 rfl ?_
    refine r_bipush d_Mm_freeze_42 (v := 108) (by decide) ?_
    refine r_icmp_ge (tgt := 98) d_Mm_freeze_44 (by decide) (fun c_44 => ?_) (fun c_44 => ?_)
    · have hn := z_le (a := 108) (by omega) (by decide) c_44
      obtain rfl : i = 108 := by omega
      refine r_vret d_Mm_freeze_98 rfl ?_
      exact ⟨rfl, rfl⟩
    · have hn := z_nle (a := 108) (by omega) (by decide) c_44
      refine r_aload_n d_Mm_freeze_47 rfl 1 rfl ?_
      refine r_get fs_Mm_30 d_Mm_freeze_48 (q0 := 0) rfl rfl ?_
      refine r_iload d_Mm_freeze_51 0 rfl ?_
      refine r_aload_n d_Mm_freeze_53 rfl 1 rfl ?_
      refine r_get fs_Mm_17 d_Mm_freeze_54 (q0 := 0) rfl rfl ?_
      refine r_iload d_Mm_freeze_57 0 rfl ?_
      refine r_iald d_Mm_freeze_59 (q0 := 2) rfl (vp_in_nI (by omega) (by omega)) (v := (flC f fl) i) (by rw [nI_clamp (by omega)]) ?_
      refine r_iconst d_Mm_freeze_60 (v := (-1)) (by decide) ?_
      refine r_icmp_ne (tgt := 68) d_Mm_freeze_61 (by decide) (fun c_61 => ?_) (fun c_61 => ?_)
      · refine r_aload_n d_Mm_freeze_68 rfl 1 rfl ?_
        refine r_get fs_Mm_30 d_Mm_freeze_69 (q0 := 0) rfl rfl ?_
        refine r_iload d_Mm_freeze_72 0 rfl ?_
        refine r_iald d_Mm_freeze_74 (q0 := 5) rfl (vp_in_nI (by omega) (by omega)) (v := (frM f (flC f fl) he mtt fz nx h).1.2.2.1 i) (by rw [nI_clamp (by omega)]; exact fa_fill_out (Nat.le_refl _)) ?_
        refine r_if_ne (tgt := 84) d_Mm_freeze_75 (by decide) (fun c_75 => ?_) (fun c_75 => ?_)
        · refine r_aload_n d_Mm_freeze_84 rfl 1 rfl ?_
          refine r_get fs_Mm_30 d_Mm_freeze_85 (q0 := 0) rfl rfl ?_
          refine r_iload d_Mm_freeze_88 0 rfl ?_
          refine r_iald d_Mm_freeze_90 (q0 := 5) rfl (vp_in_nI (by omega) (by omega)) (v := (frM f (flC f fl) he mtt fz nx h).1.2.2.1 i) (by rw [nI_clamp (by omega)]; exact fa_fill_out (Nat.le_refl _)) ?_
          refine r_iast d_Mm_freeze_91 (q0 := 5) rfl (vp_in_nI (by omega) (by omega)) (f' := fa_fill (frG (flC f fl) (frM f (flC f fl) he mtt fz nx h).1.2.2.1) (frM f (flC f fl) he mtt fz nx h).1.2.2.1 (i + 1)) (by rw [nI_clamp (by omega), ← fa_fill_succ]; exact congrArg (upd _ i) (show _ = frG (flC f fl) (frM f (flC f fl) he mtt fz nx h).1.2.2.1 i from (Eq.trans (if_neg c_61) (if_neg c_75)).symm)) (cs' := [(m, .inr (12, [.int th, .ref mp, .int pt, .ref mf, .ref mh, .ref mn, .ref mt, .ref mz, .ref mc_, .ref mq, .ref mgr, .int cl, .int wa, .int co_, .int fi, .int bu, .int ho, .ref ml, .ref mi, .ref mr, .int lh, .int mg, .int wd, .int fpi, .int fal, .ref mm, .ref mu, .ref mk, .ref mx, .long po, .long de])), (b, .inl (1, 108, .inl f)), (mf, .inl (0, 108, .inl (flC f fl))), (mh, .inl (0, 108, .inl ((frM f (flC f fl) he mtt fz nx h).1.1))), (mt, .inl (0, 108, .inl ((frM f (flC f fl) he mtt fz nx h).1.2.1))), (mz, .inl (0, 108, .inl (fa_fill (frG (flC f fl) (frM f (flC f fl) he mtt fz nx h).1.2.2.1) (frM f (flC f fl) he mtt fz nx h).1.2.2.1 (i + 1)))), (mn, .inl (0, 108, .inl ((frM f (flC f fl) he mtt fz nx h).2)))]) rfl ?_
          refine r_iinc (lv' := [(4, .int (nI (i + 1))), (0, .ref m), (1, .ref b), (2, .int h)]) (v := nI (i + 1)) d_Mm_freeze_92 (j := 0) rfl (nI_add _ _) (by decide) rfl ?_
          refine r_goto (tgt := 40) d_Mm_freeze_95 (by decide) ?_
          refine r_lvE (lv2 := [(4, .int (nI (i + 1))), (0, .ref m), (1, .ref b), (2, .int h)]) (rfl) ?_
          refine r_cs (cs2 := [(m, .inr (12, [.int th, .ref mp, .int pt, .ref mf, .ref mh, .ref mn, .ref mt, .ref mz, .ref mc_, .ref mq, .ref mgr, .int cl, .int wa, .int co_, .int fi, .int bu, .int ho, .ref ml, .ref mi, .ref mr, .int lh, .int mg, .int wd, .int fpi, .int fal, .ref mm, .ref mu, .ref mk, .ref mx, .long po, .long de])), (b, .inl (1, 108, .inl f)), (mf, .inl (0, 108, .inl (flC f fl))), (mh, .inl (0, 108, .inl ((frM f (flC f fl) he mtt fz nx h).1.1))), (mt, .inl (0, 108, .inl ((frM f (flC f fl) he mtt fz nx h).1.2.1))), (mz, .inl (0, 108, .inl (fa_fill (frG (flC f fl) (frM f (flC f fl) he mtt fz nx h).1.2.2.1) (frM f (flC f fl) he mtt fz nx h).1.2.2.1 (i + 1)))), (mn, .inl (0, 108, .inl ((frM f (flC f fl) he mtt fz nx h).2)))]) (rfl) ?_
          exact ih (i + 1) (by omega) (by omega)
        · refine r_sipush d_Mm_freeze_78 (v := 401) (by decide) ?_
          refine r_goto (tgt := 91) d_Mm_freeze_81 (by decide) ?_
          refine r_iast d_Mm_freeze_91 (q0 := 5) rfl (vp_in_nI (by omega) (by omega)) (f' := fa_fill (frG (flC f fl) (frM f (flC f fl) he mtt fz nx h).1.2.2.1) (frM f (flC f fl) he mtt fz nx h).1.2.2.1 (i + 1)) (by rw [nI_clamp (by omega), ← fa_fill_succ]; exact congrArg (upd _ i) (show _ = frG (flC f fl) (frM f (flC f fl) he mtt fz nx h).1.2.2.1 i from (Eq.trans (if_neg c_61) (if_pos c_75)).symm)) (cs' := [(m, .inr (12, [.int th, .ref mp, .int pt, .ref mf, .ref mh, .ref mn, .ref mt, .ref mz, .ref mc_, .ref mq, .ref mgr, .int cl, .int wa, .int co_, .int fi, .int bu, .int ho, .ref ml, .ref mi, .ref mr, .int lh, .int mg, .int wd, .int fpi, .int fal, .ref mm, .ref mu, .ref mk, .ref mx, .long po, .long de])), (b, .inl (1, 108, .inl f)), (mf, .inl (0, 108, .inl (flC f fl))), (mh, .inl (0, 108, .inl ((frM f (flC f fl) he mtt fz nx h).1.1))), (mt, .inl (0, 108, .inl ((frM f (flC f fl) he mtt fz nx h).1.2.1))), (mz, .inl (0, 108, .inl (fa_fill (frG (flC f fl) (frM f (flC f fl) he mtt fz nx h).1.2.2.1) (frM f (flC f fl) he mtt fz nx h).1.2.2.1 (i + 1)))), (mn, .inl (0, 108, .inl ((frM f (flC f fl) he mtt fz nx h).2)))]) rfl ?_
          refine r_iinc (lv' := [(4, .int (nI (i + 1))), (0, .ref m), (1, .ref b), (2, .int h)]) (v := nI (i + 1)) d_Mm_freeze_92 (j := 0) rfl (nI_add _ _) (by decide) rfl ?_
          refine r_goto (tgt := 40) d_Mm_freeze_95 (by decide) ?_
          refine r_lvE (lv2 := [(4, .int (nI (i + 1))), (0, .ref m), (1, .ref b), (2, .int h)]) (rfl) ?_
          refine r_cs (cs2 := [(m, .inr (12, [.int th, .ref mp, .int pt, .ref mf, .ref mh, .ref mn, .ref mt, .ref mz, .ref mc_, .ref mq, .ref mgr, .int cl, .int wa, .int co_, .int fi, .int bu, .int ho, .ref ml, .ref mi, .ref mr, .int lh, .int mg, .int wd, .int fpi, .int fal, .ref mm, .ref mu, .ref mk, .ref mx, .long po, .long de])), (b, .inl (1, 108, .inl f)), (mf, .inl (0, 108, .inl (flC f fl))), (mh, .inl (0, 108, .inl ((frM f (flC f fl) he mtt fz nx h).1.1))), (mt, .inl (0, 108, .inl ((frM f (flC f fl) he mtt fz nx h).1.2.1))), (mz, .inl (0, 108, .inl (fa_fill (frG (flC f fl) (frM f (flC f fl) he mtt fz nx h).1.2.2.1) (frM f (flC f fl) he mtt fz nx h).1.2.2.1 (i + 1)))), (mn, .inl (0, 108, .inl ((frM f (flC f fl) he mtt fz nx h).2)))]) (rfl) ?_
          exact ih (i + 1) (by omega) (by omega)
      · refine r_iconst d_Mm_freeze_64 (v := (-1)) (by decide) ?_
        refine r_goto (tgt := 91) d_Mm_freeze_65 (by decide) ?_
        refine r_iast d_Mm_freeze_91 (q0 := 5) rfl (vp_in_nI (by omega) (by omega)) (f' := fa_fill (frG (flC f fl) (frM f (flC f fl) he mtt fz nx h).1.2.2.1) (frM f (flC f fl) he mtt fz nx h).1.2.2.1 (i + 1)) (by rw [nI_clamp (by omega), ← fa_fill_succ]; exact congrArg (upd _ i) (show _ = frG (flC f fl) (frM f (flC f fl) he mtt fz nx h).1.2.2.1 i from (if_pos c_61).symm)) (cs' := [(m, .inr (12, [.int th, .ref mp, .int pt, .ref mf, .ref mh, .ref mn, .ref mt, .ref mz, .ref mc_, .ref mq, .ref mgr, .int cl, .int wa, .int co_, .int fi, .int bu, .int ho, .ref ml, .ref mi, .ref mr, .int lh, .int mg, .int wd, .int fpi, .int fal, .ref mm, .ref mu, .ref mk, .ref mx, .long po, .long de])), (b, .inl (1, 108, .inl f)), (mf, .inl (0, 108, .inl (flC f fl))), (mh, .inl (0, 108, .inl ((frM f (flC f fl) he mtt fz nx h).1.1))), (mt, .inl (0, 108, .inl ((frM f (flC f fl) he mtt fz nx h).1.2.1))), (mz, .inl (0, 108, .inl (fa_fill (frG (flC f fl) (frM f (flC f fl) he mtt fz nx h).1.2.2.1) (frM f (flC f fl) he mtt fz nx h).1.2.2.1 (i + 1)))), (mn, .inl (0, 108, .inl ((frM f (flC f fl) he mtt fz nx h).2)))]) rfl ?_
        refine r_iinc (lv' := [(4, .int (nI (i + 1))), (0, .ref m), (1, .ref b), (2, .int h)]) (v := nI (i + 1)) d_Mm_freeze_92 (j := 0) rfl (nI_add _ _) (by decide) rfl ?_
        refine r_goto (tgt := 40) d_Mm_freeze_95 (by decide) ?_
        refine r_lvE (lv2 := [(4, .int (nI (i + 1))), (0, .ref m), (1, .ref b), (2, .int h)]) (rfl) ?_
        refine r_cs (cs2 := [(m, .inr (12, [.int th, .ref mp, .int pt, .ref mf, .ref mh, .ref mn, .ref mt, .ref mz, .ref mc_, .ref mq, .ref mgr, .int cl, .int wa, .int co_, .int fi, .int bu, .int ho, .ref ml, .ref mi, .ref mr, .int lh, .int mg, .int wd, .int fpi, .int fal, .ref mm, .ref mu, .ref mk, .ref mx, .long po, .long de])), (b, .inl (1, 108, .inl f)), (mf, .inl (0, 108, .inl (flC f fl))), (mh, .inl (0, 108, .inl ((frM f (flC f fl) he mtt fz nx h).1.1))), (mt, .inl (0, 108, .inl ((frM f (flC f fl) he mtt fz nx h).1.2.1))), (mz, .inl (0, 108, .inl (fa_fill (frG (flC f fl) (frM f (flC f fl) he mtt fz nx h).1.2.2.1) (frM f (flC f fl) he mtt fz nx h).1.2.2.1 (i + 1)))), (mn, .inl (0, 108, .inl ((frM f (flC f fl) he mtt fz nx h).2)))]) (rfl) ?_
        exact ih (i + 1) (by omega) (by omega)
set_option maxHeartbeats 4000000 in
set_option maxRecDepth 100000 in
theorem L_Mm_freeze9_11 (g : zG) (m mp mf mh mn mt mz mc_ mq mgr ml mi mr mm mu mk mx : Nat) (th pt cl wa co_ fi bu ho lh mg wd fpi fal : Int32) (po de : Int64) (b : Nat) (f : Nat → Int32) (fl : Nat → Int32) (he nx mtt fz : Nat → Int32) (h : Int32) (w0 : zW) (n : Nat) (K : DV g M_Mm_freeze (fun o cs1 => o = .inl none ∧ cs1 = [(m, .inr (12, [.int th, .ref mp, .int pt, .ref mf, .ref mh, .ref mn, .ref mt, .ref mz, .ref mc_, .ref mq, .ref mgr, .int cl, .int wa, .int co_, .int fi, .int bu, .int ho, .ref ml, .ref mi, .ref mr, .int lh, .int mg, .int wd, .int fpi, .int fal, .ref mm, .ref mu, .ref mk, .ref mx, .long po, .long de])), (b, .inl (1, 108, .inl f)), (mf, .inl (0, 108, .inl (flC f fl))), (mh, .inl (0, 108, .inl ((frM f (flC f fl) he mtt fz nx h).1.1))), (mt, .inl (0, 108, .inl ((frM f (flC f fl) he mtt fz nx h).1.2.1))), (mz, .inl (0, 108, .inl (fa_fill (frG (flC f fl) (frM f (flC f fl) he mtt fz nx h).1.2.2.1) (frM f (flC f fl) he mtt fz nx h).1.2.2.1 108))), (mn, .inl (0, 108, .inl ((frM f (flC f fl) he mtt fz nx h).2)))]) w0 n 37 [(0, .ref m), (1, .ref b), (2, .int h)] [] [(m, .inr (12, [.int th, .ref mp, .int pt, .ref mf, .ref mh, .ref mn, .ref mt, .ref mz, .ref mc_, .ref mq, .ref mgr, .int cl, .int wa, .int co_, .int fi, .int bu, .int ho, .ref ml, .ref mi, .ref mr, .int lh, .int mg, .int wd, .int fpi, .int fal, .ref mm, .ref mu, .ref mk, .ref mx, .long po, .long de])), (b, .inl (1, 108, .inl f)), (mf, .inl (0, 108, .inl (flC f fl))), (mh, .inl (0, 108, .inl ((frM f (flC f fl) he mtt fz nx h).1.1))), (mt, .inl (0, 108, .inl ((frM f (flC f fl) he mtt fz nx h).1.2.1))), (mz, .inl (0, 108, .inl ((frM f (flC f fl) he mtt fz nx h).1.2.2.1))), (mn, .inl (0, 108, .inl ((frM f (flC f fl) he mtt fz nx h).2)))] 0 0) : ∀ (d i : Nat), i ≤ 400 → 400 < i + d → DV g M_Mm_freeze (fun o cs1 => o = .inl none ∧ cs1 = [(m, .inr (12, [.int th, .ref mp, .int pt, .ref mf, .ref mh, .ref mn, .ref mt, .ref mz, .ref mc_, .ref mq, .ref mgr, .int cl, .int wa, .int co_, .int fi, .int bu, .int ho, .ref ml, .ref mi, .ref mr, .int lh, .int mg, .int wd, .int fpi, .int fal, .ref mm, .ref mu, .ref mk, .ref mx, .long po, .long de])), (b, .inl (1, 108, .inl f)), (mf, .inl (0, 108, .inl (flC f fl))), (mh, .inl (0, 108, .inl ((frM f (flC f fl) he mtt fz nx h).1.1))), (mt, .inl (0, 108, .inl ((frM f (flC f fl) he mtt fz nx h).1.2.1))), (mz, .inl (0, 108, .inl (fa_fill (frG (flC f fl) (frM f (flC f fl) he mtt fz nx h).1.2.2.1) (frM f (flC f fl) he mtt fz nx h).1.2.2.1 108))), (mn, .inl (0, 108, .inl ((frM f (flC f fl) he mtt fz nx h).2)))]) w0 n 11 [(4, .int (nI (i + 1))), (3, .int ((fzR f (flC f fl) (begM (flC f fl) he mtt fz nx h 1) i).1.2.2.2)), (0, .ref m), (1, .ref b), (2, .int h)] [] [(m, .inr (12, [.int th, .ref mp, .int pt, .ref mf, .ref mh, .ref mn, .ref mt, .ref mz, .ref mc_, .ref mq, .ref mgr, .int cl, .int wa, .int co_, .int fi, .int bu, .int ho, .ref ml, .ref mi, .ref mr, .int lh, .int mg, .int wd, .int fpi, .int fal, .ref mm, .ref mu, .ref mk, .ref mx, .long po, .long de])), (b, .inl (1, 108, .inl f)), (mf, .inl (0, 108, .inl (flC f fl))), (mh, .inl (0, 108, .inl ((fzR f (flC f fl) (begM (flC f fl) he mtt fz nx h 1) i).1.1))), (mt, .inl (0, 108, .inl ((fzR f (flC f fl) (begM (flC f fl) he mtt fz nx h 1) i).1.2.1))), (mz, .inl (0, 108, .inl ((fzR f (flC f fl) (begM (flC f fl) he mtt fz nx h 1) i).1.2.2.1))), (mn, .inl (0, 108, .inl ((fzR f (flC f fl) (begM (flC f fl) he mtt fz nx h 1) i).2)))] 0 0 := by
  intro d
  induction d with
  | zero => intro i h1 h2 ; exact absurd h2 (by omega)
  | succ d ih =>
    intro i h1 h2 
    refine r_iload d_Mm_freeze_11 0 rfl ?_
    refine r_sipush d_Mm_freeze_13 (v := 400) (by decide) ?_
    refine r_icmp_gt (tgt := 37) d_Mm_freeze_16 (by decide) (fun c_16 => ?_) (fun c_16 => ?_)
    · have hn := z_lt (a := 400) (b := i + 1) (by omega) (by decide) c_16
      obtain rfl : i = 400 := by omega
      have hx : (frM f (flC f fl) he mtt fz nx h) = (fzR f (flC f fl) (begM (flC f fl) he mtt fz nx h 1) 400) := by unfold frM; rfl
      refine r_lv (lv' := [(0, .ref m), (1, .ref b), (2, .int h)]) [2, 3, 4] rfl ?_
      refine r_cs (cs2 := [(m, .inr (12, [.int th, .ref mp, .int pt, .ref mf, .ref mh, .ref mn, .ref mt, .ref mz, .ref mc_, .ref mq, .ref mgr, .int cl, .int wa, .int co_, .int fi, .int bu, .int ho, .ref ml, .ref mi, .ref mr, .int lh, .int mg, .int wd, .int fpi, .int fal, .ref mm, .ref mu, .ref mk, .ref mx, .long po, .long de])), (b, .inl (1, 108, .inl f)), (mf, .inl (0, 108, .inl (flC f fl))), (mh, .inl (0, 108, .inl ((frM f (flC f fl) he mtt fz nx h).1.1))), (mt, .inl (0, 108, .inl ((frM f (flC f fl) he mtt fz nx h).1.2.1))), (mz, .inl (0, 108, .inl ((frM f (flC f fl) he mtt fz nx h).1.2.2.1))), (mn, .inl (0, 108, .inl ((frM f (flC f fl) he mtt fz nx h).2)))]) (by first | (rw [hx] <;> rfl) | rfl) ?_
      exact K
    · have hn := z_nlt (a := 400) (b := i + 1) (by omega) (by decide) c_16
      refine r_iload_n d_Mm_freeze_19 rfl 1 rfl ?_
      refine r_if_eq (tgt := 37) d_Mm_freeze_20 (by decide) (fun c_20 => ?_) (fun c_20 => ?_)
      · have hx : (frM f (flC f fl) he mtt fz nx h) = (fzR f (flC f fl) (begM (flC f fl) he mtt fz nx h 1) i) := by unfold frM; have := fzR_stop c_20 (400 - i); rw [show i + (400 - i) = 400 by omega] at this; exact this
        refine r_lv (lv' := [(0, .ref m), (1, .ref b), (2, .int h)]) [2, 3, 4] rfl ?_
        refine r_cs (cs2 := [(m, .inr (12, [.int th, .ref mp, .int pt, .ref mf, .ref mh, .ref mn, .ref mt, .ref mz, .ref mc_, .ref mq, .ref mgr, .int cl, .int wa, .int co_, .int fi, .int bu, .int ho, .ref ml, .ref mi, .ref mr, .int lh, .int mg, .int wd, .int fpi, .int fal, .ref mm, .ref mu, .ref mk, .ref mx, .long po, .long de])), (b, .inl (1, 108, .inl f)), (mf, .inl (0, 108, .inl (flC f fl))), (mh, .inl (0, 108, .inl ((frM f (flC f fl) he mtt fz nx h).1.1))), (mt, .inl (0, 108, .inl ((frM f (flC f fl) he mtt fz nx h).1.2.1))), (mz, .inl (0, 108, .inl ((frM f (flC f fl) he mtt fz nx h).1.2.2.1))), (mn, .inl (0, 108, .inl ((frM f (flC f fl) he mtt fz nx h).2)))]) (by first | (rw [hx] <;> rfl) | rfl) ?_
        exact K
      · refine r_aload_n d_Mm_freeze_23 rfl 2 rfl ?_
        refine r_aload_n d_Mm_freeze_24 rfl 3 rfl ?_
        refine r_iload d_Mm_freeze_25 0 rfl ?_
        refine r_callV (As := [.ref b, .int (nI (i + 1))]) (rest := []) (csC := [(m, .inr (12, [.int th, .ref mp, .int pt, .ref mf, .ref mh, .ref mn, .ref mt, .ref mz, .ref mc_, .ref mq, .ref mgr, .int cl, .int wa, .int co_, .int fi, .int bu, .int ho, .ref ml, .ref mi, .ref mr, .int lh, .int mg, .int wd, .int fpi, .int fal, .ref mm, .ref mu, .ref mk, .ref mx, .long po, .long de])), (b, .inl (1, 108, .inl f)), (mf, .inl (0, 108, .inl (flC f fl))), (mh, .inl (0, 108, .inl ((fzR f (flC f fl) (begM (flC f fl) he mtt fz nx h 1) i).1.1))), (mn, .inl (0, 108, .inl ((fzR f (flC f fl) (begM (flC f fl) he mtt fz nx h 1) i).2))), (mt, .inl (0, 108, .inl ((fzR f (flC f fl) (begM (flC f fl) he mtt fz nx h 1) i).1.2.1))), (mz, .inl (0, 108, .inl ((fzR f (flC f fl) (begM (flC f fl) he mtt fz nx h 1) i).1.2.2.1)))]) (is := [0, 1, 2, 3, 6, 4, 5]) (q0 := 0) rfl rfl ln_Mm_160 w_im_Mm_freezeStep w_se_Mm_freezeStep ok_Mm_freeze_Mm_freezeStep d_Mm_freeze_27 (C_Mm_freezeStep9 g m mp mf mh mn mt mz mc_ mq mgr ml mi mr mm mu mk mx th pt cl wa co_ fi bu ho lh mg wd fpi fal po de b f (flC f fl) (fzR f (flC f fl) (begM (flC f fl) he mtt fz nx h 1) i).1.1 (fzR f (flC f fl) (begM (flC f fl) he mtt fz nx h 1) i).2 (fzR f (flC f fl) (begM (flC f fl) he mtt fz nx h 1) i).1.2.1 (fzR f (flC f fl) (begM (flC f fl) he mtt fz nx h 1) i).1.2.2.1 (nI (i + 1))) rfl rfl (Nat.le_of_ble_eq_true rfl) rfl (by decide) (by omega) (by omega) (fun E cs1 hx => ?_) (fun v cs1 hx => ?_)
        · exact absurd hx.1 (by simp)
        · obtain ⟨e1, rfl⟩ := hx
          cases e1
          refine ⟨rfl, ?_⟩
          refine r_st (st2 := [.int ((fsF f (flC f fl) (fzR f (flC f fl) (begM (flC f fl) he mtt fz nx h 1) i).1.1 (fzR f (flC f fl) (begM (flC f fl) he mtt fz nx h 1) i).2 (fzR f (flC f fl) (begM (flC f fl) he mtt fz nx h 1) i).1.2.1 (fzR f (flC f fl) (begM (flC f fl) he mtt fz nx h 1) i).1.2.2.1 (nI (i + 1))).1.2.2.2)]) rfl ?_
          refine r_cs (cs2 := [(m, .inr (12, [.int th, .ref mp, .int pt, .ref mf, .ref mh, .ref mn, .ref mt, .ref mz, .ref mc_, .ref mq, .ref mgr, .int cl, .int wa, .int co_, .int fi, .int bu, .int ho, .ref ml, .ref mi, .ref mr, .int lh, .int mg, .int wd, .int fpi, .int fal, .ref mm, .ref mu, .ref mk, .ref mx, .long po, .long de])), (b, .inl (1, 108, .inl f)), (mf, .inl (0, 108, .inl (flC f fl))), (mh, .inl (0, 108, .inl ((fsF f (flC f fl) (fzR f (flC f fl) (begM (flC f fl) he mtt fz nx h 1) i).1.1 (fzR f (flC f fl) (begM (flC f fl) he mtt fz nx h 1) i).2 (fzR f (flC f fl) (begM (flC f fl) he mtt fz nx h 1) i).1.2.1 (fzR f (flC f fl) (begM (flC f fl) he mtt fz nx h 1) i).1.2.2.1 (nI (i + 1))).1.1))), (mt, .inl (0, 108, .inl ((fsF f (flC f fl) (fzR f (flC f fl) (begM (flC f fl) he mtt fz nx h 1) i).1.1 (fzR f (flC f fl) (begM (flC f fl) he mtt fz nx h 1) i).2 (fzR f (flC f fl) (begM (flC f fl) he mtt fz nx h 1) i).1.2.1 (fzR f (flC f fl) (begM (flC f fl) he mtt fz nx h 1) i).1.2.2.1 (nI (i + 1))).1.2.1))), (mz, .inl (0, 108, .inl ((fsF f (flC f fl) (fzR f (flC f fl) (begM (flC f fl) he mtt fz nx h 1) i).1.1 (fzR f (flC f fl) (begM (flC f fl) he mtt fz nx h 1) i).2 (fzR f (flC f fl) (begM (flC f fl) he mtt fz nx h 1) i).1.2.1 (fzR f (flC f fl) (begM (flC f fl) he mtt fz nx h 1) i).1.2.2.1 (nI (i + 1))).1.2.2.1))), (mn, .inl (0, 108, .inl ((fsF f (flC f fl) (fzR f (flC f fl) (begM (flC f fl) he mtt fz nx h 1) i).1.1 (fzR f (flC f fl) (begM (flC f fl) he mtt fz nx h 1) i).2 (fzR f (flC f fl) (begM (flC f fl) he mtt fz nx h 1) i).1.2.1 (fzR f (flC f fl) (begM (flC f fl) he mtt fz nx h 1) i).1.2.2.1 (nI (i + 1))).2)))]) rfl ?_
          refine r_istore_n (lv' := [(3, .int ((fsF f (flC f fl) (fzR f (flC f fl) (begM (flC f fl) he mtt fz nx h 1) i).1.1 (fzR f (flC f fl) (begM (flC f fl) he mtt fz nx h 1) i).2 (fzR f (flC f fl) (begM (flC f fl) he mtt fz nx h 1) i).1.2.1 (fzR f (flC f fl) (begM (flC f fl) he mtt fz nx h 1) i).1.2.2.1 (nI (i + 1))).1.2.2.2)), (4, .int (nI (i + 1))), (0, .ref m), (1, .ref b), (2, .int h)]) d_Mm_freeze_30 rfl (by decide) rfl ?_
          refine r_iinc (lv' := [(4, .int (nI (i + 1 + 1))), (3, .int ((fsF f (flC f fl) (fzR f (flC f fl) (begM (flC f fl) he mtt fz nx h 1) i).1.1 (fzR f (flC f fl) (begM (flC f fl) he mtt fz nx h 1) i).2 (fzR f (flC f fl) (begM (flC f fl) he mtt fz nx h 1) i).1.2.1 (fzR f (flC f fl) (begM (flC f fl) he mtt fz nx h 1) i).1.2.2.1 (nI (i + 1))).1.2.2.2)), (0, .ref m), (1, .ref b), (2, .int h)]) (v := nI (i + 1 + 1)) d_Mm_freeze_31 (j := 1) rfl (nI_add _ _) (by decide) rfl ?_
          refine r_goto (tgt := 11) d_Mm_freeze_34 (by decide) ?_
          refine r_lvE (lv2 := [(4, .int (nI ((i + 1) + 1))), (3, .int ((fzR f (flC f fl) (begM (flC f fl) he mtt fz nx h 1) (i + 1)).1.2.2.2)), (0, .ref m), (1, .ref b), (2, .int h)]) (by rw [fzR_n c_20, fzP_e] <;> rfl) ?_
          refine r_cs (cs2 := [(m, .inr (12, [.int th, .ref mp, .int pt, .ref mf, .ref mh, .ref mn, .ref mt, .ref mz, .ref mc_, .ref mq, .ref mgr, .int cl, .int wa, .int co_, .int fi, .int bu, .int ho, .ref ml, .ref mi, .ref mr, .int lh, .int mg, .int wd, .int fpi, .int fal, .ref mm, .ref mu, .ref mk, .ref mx, .long po, .long de])), (b, .inl (1, 108, .inl f)), (mf, .inl (0, 108, .inl (flC f fl))), (mh, .inl (0, 108, .inl ((fzR f (flC f fl) (begM (flC f fl) he mtt fz nx h 1) (i + 1)).1.1))), (mt, .inl (0, 108, .inl ((fzR f (flC f fl) (begM (flC f fl) he mtt fz nx h 1) (i + 1)).1.2.1))), (mz, .inl (0, 108, .inl ((fzR f (flC f fl) (begM (flC f fl) he mtt fz nx h 1) (i + 1)).1.2.2.1))), (mn, .inl (0, 108, .inl ((fzR f (flC f fl) (begM (flC f fl) he mtt fz nx h 1) (i + 1)).2)))]) (by rw [fzR_n c_20, fzP_e] <;> rfl) ?_
          exact ih (i + 1) (by omega) (by omega)
set_option maxHeartbeats 4000000 in
set_option maxRecDepth 100000 in
theorem C_Mm_freeze9 (g : zG) (m mp mf mh mn mt mz mc_ mq mgr ml mi mr mm mu mk mx : Nat) (th pt cl wa co_ fi bu ho lh mg wd fpi fal : Int32) (po de : Int64) (b : Nat) (f : Nat → Int32) (fl : Nat → Int32) (he nx mtt fz : Nat → Int32) (h : Int32) : CT g M_Mm_freeze [.ref m, .ref b, .int h] [(m, .inr (12, [.int th, .ref mp, .int pt, .ref mf, .ref mh, .ref mn, .ref mt, .ref mz, .ref mc_, .ref mq, .ref mgr, .int cl, .int wa, .int co_, .int fi, .int bu, .int ho, .ref ml, .ref mi, .ref mr, .int lh, .int mg, .int wd, .int fpi, .int fal, .ref mm, .ref mu, .ref mk, .ref mx, .long po, .long de])), (b, .inl (1, 108, .inl f)), (mf, .inl (0, 108, .inl fl)), (mh, .inl (0, 108, .inl he)), (mt, .inl (0, 108, .inl mtt)), (mz, .inl (0, 108, .inl fz)), (mn, .inl (0, 108, .inl nx))] (fun o cs1 => o = .inl none ∧ cs1 = [(m, .inr (12, [.int th, .ref mp, .int pt, .ref mf, .ref mh, .ref mn, .ref mt, .ref mz, .ref mc_, .ref mq, .ref mgr, .int cl, .int wa, .int co_, .int fi, .int bu, .int ho, .ref ml, .ref mi, .ref mr, .int lh, .int mg, .int wd, .int fpi, .int fal, .ref mm, .ref mu, .ref mk, .ref mx, .long po, .long de])), (b, .inl (1, 108, .inl f)), (mf, .inl (0, 108, .inl (flC f fl))), (mh, .inl (0, 108, .inl ((frM f (flC f fl) he mtt fz nx h).1.1))), (mt, .inl (0, 108, .inl ((frM f (flC f fl) he mtt fz nx h).1.2.1))), (mz, .inl (0, 108, .inl (fa_fill (frG (flC f fl) (frM f (flC f fl) he mtt fz nx h).1.2.2.1) (frM f (flC f fl) he mtt fz nx h).1.2.2.1 108))), (mn, .inl (0, 108, .inl ((frM f (flC f fl) he mtt fz nx h).2)))]) 0 0 := by
  refine z_of (by decide) rfl (Nat.le_of_ble_eq_true rfl) (fun w0 => ?_)
  refine r_lvE (lv2 := [(0, .ref m), (1, .ref b), (2, .int h)]) rfl ?_
  refine r_aload_n d_Mm_freeze_0 rfl 0 rfl ?_
  refine r_aload_n d_Mm_freeze_1 rfl 1 rfl ?_
  refine r_iload_n d_Mm_freeze_2 rfl 2 rfl ?_
  refine r_callV (As := [.ref b, .int h]) (rest := []) (csC := [(m, .inr (12, [.int th, .ref mp, .int pt, .ref mf, .ref mh, .ref mn, .ref mt, .ref mz, .ref mc_, .ref mq, .ref mgr, .int cl, .int wa, .int co_, .int fi, .int bu, .int ho, .ref ml, .ref mi, .ref mr, .int lh, .int mg, .int wd, .int fpi, .int fal, .ref mm, .ref mu, .ref mk, .ref mx, .long po, .long de])), (b, .inl (1, 108, .inl f)), (mf, .inl (0, 108, .inl fl)), (mh, .inl (0, 108, .inl he)), (mt, .inl (0, 108, .inl mtt)), (mz, .inl (0, 108, .inl fz))]) (is := [0, 1, 2, 3, 4, 5]) (q0 := 0) rfl rfl ln_Mm_157 w_im_Mm_begin w_se_Mm_begin ok_Mm_freeze_Mm_begin d_Mm_freeze_3 (C_Mm_begin9 g m mp mf mh mn mt mz mc_ mq mgr ml mi mr mm mu mk mx th pt cl wa co_ fi bu ho lh mg wd fpi fal po de b f fl he mtt fz h) rfl rfl (Nat.le_of_ble_eq_true rfl) rfl (by decide) (by omega) (by omega) (fun E cs1 hx => ?_) (fun v cs1 hx => ?_)
  · exact absurd hx.1 (by simp)
  · obtain ⟨e1, rfl⟩ := hx
    cases e1
    refine ⟨rfl, ?_⟩
    refine r_st (st2 := []) rfl ?_
    refine r_cs (cs2 := [(m, .inr (12, [.int th, .ref mp, .int pt, .ref mf, .ref mh, .ref mn, .ref mt, .ref mz, .ref mc_, .ref mq, .ref mgr, .int cl, .int wa, .int co_, .int fi, .int bu, .int ho, .ref ml, .ref mi, .ref mr, .int lh, .int mg, .int wd, .int fpi, .int fal, .ref mm, .ref mu, .ref mk, .ref mx, .long po, .long de])), (b, .inl (1, 108, .inl f)), (mf, .inl (0, 108, .inl (flC f fl))), (mh, .inl (0, 108, .inl (fa_fill (hbM (flC f fl) h) he 108))), (mt, .inl (0, 108, .inl (fa_fill (fun _ => 300) mtt 108))), (mz, .inl (0, 108, .inl (fa_fill (fun _ => 0) fz 108))), (mn, .inl (0, 108, .inl nx))]) rfl ?_
    refine r_iconst d_Mm_freeze_6 (v := 1) (by decide) ?_
    refine r_istore_n (lv' := [(3, .int 1), (0, .ref m), (1, .ref b), (2, .int h)]) d_Mm_freeze_7 rfl (by decide) rfl ?_
    refine r_iconst d_Mm_freeze_8 (v := 1) (by decide) ?_
    refine r_istore (lv' := [(4, .int 1), (3, .int 1), (0, .ref m), (1, .ref b), (2, .int h)]) d_Mm_freeze_9 (by decide) rfl ?_
    refine r_lvE (lv2 := [(4, .int (nI (0 + 1))), (3, .int ((fzR f (flC f fl) (begM (flC f fl) he mtt fz nx h 1) 0).1.2.2.2)), (0, .ref m), (1, .ref b), (2, .int h)]) (rfl) ?_
    refine r_cs (cs2 := [(m, .inr (12, [.int th, .ref mp, .int pt, .ref mf, .ref mh, .ref mn, .ref mt, .ref mz, .ref mc_, .ref mq, .ref mgr, .int cl, .int wa, .int co_, .int fi, .int bu, .int ho, .ref ml, .ref mi, .ref mr, .int lh, .int mg, .int wd, .int fpi, .int fal, .ref mm, .ref mu, .ref mk, .ref mx, .long po, .long de])), (b, .inl (1, 108, .inl f)), (mf, .inl (0, 108, .inl (flC f fl))), (mh, .inl (0, 108, .inl ((fzR f (flC f fl) (begM (flC f fl) he mtt fz nx h 1) 0).1.1))), (mt, .inl (0, 108, .inl ((fzR f (flC f fl) (begM (flC f fl) he mtt fz nx h 1) 0).1.2.1))), (mz, .inl (0, 108, .inl ((fzR f (flC f fl) (begM (flC f fl) he mtt fz nx h 1) 0).1.2.2.1))), (mn, .inl (0, 108, .inl ((fzR f (flC f fl) (begM (flC f fl) he mtt fz nx h 1) 0).2)))]) (rfl) ?_
    refine L_Mm_freeze9_11 g m mp mf mh mn mt mz mc_ mq mgr ml mi mr mm mu mk mx th pt cl wa co_ fi bu ho lh mg wd fpi fal po de b f fl he nx mtt fz h w0 _   (?_) (400 + 1) 0 (Nat.zero_le _) (by omega)
    refine r_iconst d_Mm_freeze_37 (v := 0) (by decide) ?_
    refine r_istore (lv' := [(4, .int 0), (0, .ref m), (1, .ref b), (2, .int h)]) d_Mm_freeze_38 (by decide) rfl ?_
    refine r_lvE (lv2 := [(4, .int (nI 0)), (0, .ref m), (1, .ref b), (2, .int h)]) (rfl) ?_
    refine r_cs (cs2 := [(m, .inr (12, [.int th, .ref mp, .int pt, .ref mf, .ref mh, .ref mn, .ref mt, .ref mz, .ref mc_, .ref mq, .ref mgr, .int cl, .int wa, .int co_, .int fi, .int bu, .int ho, .ref ml, .ref mi, .ref mr, .int lh, .int mg, .int wd, .int fpi, .int fal, .ref mm, .ref mu, .ref mk, .ref mx, .long po, .long de])), (b, .inl (1, 108, .inl f)), (mf, .inl (0, 108, .inl (flC f fl))), (mh, .inl (0, 108, .inl ((frM f (flC f fl) he mtt fz nx h).1.1))), (mt, .inl (0, 108, .inl ((frM f (flC f fl) he mtt fz nx h).1.2.1))), (mz, .inl (0, 108, .inl (fa_fill (frG (flC f fl) (frM f (flC f fl) he mtt fz nx h).1.2.2.1) (frM f (flC f fl) he mtt fz nx h).1.2.2.1 0))), (mn, .inl (0, 108, .inl ((frM f (flC f fl) he mtt fz nx h).2)))]) (by simp only [fa_fill_0]) ?_
    exact L_Mm_freeze9_40 g m mp mf mh mn mt mz mc_ mq mgr ml mi mr mm mu mk mx th pt cl wa co_ fi bu ho lh mg wd fpi fal po de b f fl he nx mtt fz h w0 _  (108 + 1) 0 (Nat.zero_le _) (by omega)
end
section
def dI (S : zD) : Prop := S.2.2.1 ≤ ctM S.1 ∧ ∃ n : Nat, n ≤ 1080 ∧ S.2.2.2 = nI n
theorem fdA_ct {ce fi fed : Nat → Int32} {qn : Nat → Nat} : ∀ i, (fdA ce fi (fed, qn, 0, 0) i).2.2.1 ≤ fa_cnt (fun k => decide (¬ (fdA ce fi (fed, qn, 0, 0) i).1 k = 0)) i ∧ (fdA ce fi (fed, qn, 0, 0) i).2.2.2 = nI (10 * (fdA ce fi (fed, qn, 0, 0) i).2.2.1)
  | 0 => ⟨Nat.le_refl _, rfl⟩
  | i + 1 => by
    have ih := fdA_ct (ce := ce) (fi := fi) (fed := fed) (qn := qn) i
    obtain ⟨S, hS⟩ : ∃ S, S = fdA ce fi (fed, qn, 0, 0) i := ⟨_, rfl⟩
    have e : ∀ v, fa_cnt (fun k => decide (¬ upd S.1 i v k = 0)) i = fa_cnt (fun k => decide (¬ S.1 k = 0)) i := fun v => fa_cnt_cong (fun k hk => by rw [upd_ne (by omega)])
    by_cases q : ce i = 114 ∧ ¬ fi i < 0
    · rw [fdA_t q, ← hS]
      rw [← hS] at ih
      refine ⟨?_, ?_⟩
      · show S.2.2.1 + 1 ≤ fa_cnt (fun k => decide (¬ upd S.1 i 1 k = 0)) (i + 1)
        rw [fa_cnt_yes (p := fun k => decide (¬ upd S.1 i 1 k = 0)) (decide_eq_true (by rw [upd_eq]; decide)), e]
        have := ih.1
        omega
      · show S.2.2.2 + 10 = nI (10 * (S.2.2.1 + 1))
        rw [ih.2, show (10 : Int32) = nI 10 from rfl, nI_add, Nat.mul_add]
    · rw [fdA_f q, ← hS]
      rw [← hS] at ih
      refine ⟨?_, ih.2⟩
      show S.2.2.1 ≤ fa_cnt (fun k => decide (¬ upd S.1 i 0 k = 0)) (i + 1)
      rw [fa_cnt, e]
      have := ih.1
      omega
theorem fdA_dI {ce fi fed : Nat → Int32} {qn : Nat → Nat} : dI (fdA ce fi (fed, qn, 0, 0) 108) := by
  have h := fdA_ct (ce := ce) (fi := fi) (fed := fed) (qn := qn) 108
  have h2 := (fdA_ok (ce := ce) (fi := fi) (S0 := (fed, qn, 0, 0)) rfl 108 (Nat.le_refl _)).1
  exact ⟨h.1, _, by omega, h.2⟩
theorem dI_lt {S : zD} {o : Nat} (h : dI S) (ho : o < 108) (h0 : S.1 o = 0) : S.2.2.1 < 108 := by
  have h1 := ct_up ho h0
  have h2 := ctm_le (upd S.1 o 1)
  have h3 := h.1
  omega
theorem dI_up {S : zD} {o : Nat} {l : Int32} {q : Nat → Nat} (h : dI S) (ho : o < 108) (h0 : S.1 o = 0) (hl : ∃ n : Nat, n ≤ 1080 ∧ l = nI n) : dI (upd S.1 o 1, q, S.2.2.1 + 1, l) := by
  refine ⟨?_, hl⟩
  show S.2.2.1 + 1 ≤ ctM (upd S.1 o 1)
  rw [ct_up ho h0]
  have := h.1
  omega
theorem dI_d {l : Int32} (h : ∃ n : Nat, n ≤ 1080 ∧ l = nI n) (h0 : ¬ l = 0) : ∃ n : Nat, n ≤ 1080 ∧ l + -1 = nI n := by
  obtain ⟨n, hn, rfl⟩ := h
  cases n with
  | zero => exact absurd rfl h0
  | succ n => exact ⟨n, by omega, by rw [← Int32.sub_eq_add_neg]; exact nI_sub1 (p := n + 1) (Nat.succ_le_succ (Nat.zero_le n))⟩
theorem cf_0 {fed fi fr : Nat → Int32} {here o : Nat} (h : cfB fed fi fr here o = true) : fed o = 0 := (of_decide_eq_true h).1
theorem dI_I {ce fi fr : Nat → Int32} {here s : Nat} {S : zD} (hh : here < 108) (h : dI S) : dI (fdI ce fi fr here s S) := by
  cases e : bs here s with
  | none => rw [fdI_n e]; exact h
  | some o =>
    rw [fdI_s e]
    by_cases q : cfB S.1 fi fr here o = true ∧ S.2.2.1 < 108
    · by_cases q2 : ce o = 99
      · by_cases q3 : S.2.2.2 = 0
        · rw [fdJ_1 q q2 q3]; exact h
        · rw [fdJ_2 q q2 q3]; exact dI_up h (bs_lt hh e) (cf_0 q.1) (dI_d h.2 q3)
      · rw [fdJ_3 q q2]; exact dI_up h (bs_lt hh e) (cf_0 q.1) h.2
    · rw [fdJ_0 q]; exact h
theorem dI_H {ce fi fr : Nat → Int32} {here : Nat} {S : zD} (hh : here < 108) (h : dI S) : ∀ s, dI (fdH ce fi fr here S s)
  | 0 => h
  | s + 1 => dI_I hh (dI_H hh h s)
theorem dI_B {ce fi fr : Nat → Int32} {S0 : zD} (hk : Dok S0 108) (h0 : dI S0) : ∀ h, dI (fdB ce fi fr S0 h)
  | 0 => h0
  | h + 1 => by
    have ih := dI_B (ce := ce) (fi := fi) (fr := fr) hk h0 h
    by_cases q : h < (fdB ce fi fr S0 h).2.2.1
    · rw [fdB_t q]; exact dI_H ((fdB_ok hk h).2 h q) ih 4
    · rw [fdB, if_neg q]; exact ih
theorem dI_z {l : Int32} (h : ∃ n : Nat, n ≤ 1080 ∧ l = nI n) (h0 : l ≤ 0) : l = 0 := by
  obtain ⟨n, hn, rfl⟩ := h
  have := z_le (b := 0) (by decide) (by omega) h0
  rw [show n = 0 by omega]
  rfl
theorem vl_ng {f fl : Nat → Int32} {k : Nat} (hv : vlA f fl) (hk : k < 108) : ¬ fl k < 0 ↔ ¬ fl k = -1 := not_congr (vl_neg hv hk)
theorem vl_m {f fl : Nat → Int32} {k : Nat} (hv : vlA f fl) (hk : k < 108) (h : tmB (f k) = false) : fl k = -1 := by
  rcases hv k hk with e | ⟨e, -⟩
  · exact e
  · rw [h] at e; cases e
theorem vl_C (f fl : Nat → Int32) : vlA f (flC f fl) := by
  have h := fill_rel (f := f) (ce := f) (fun _ _ => rfl) fl fl
  exact fun k hk => by rw [h.1 k hk]; exact h.2 k hk
def icQ (f fl : Nat → Int32) (h : Int32) (s : Bool) (i : Nat) : Bool := s || anB (icP f fl h) i
theorem icQ_t {f fl : Nat → Int32} {h : Int32} {s : Bool} {i : Nat} (q : icQ f fl h s i = true) : icQ f fl h s (i + 1) = true := by
  unfold icQ at q ⊢
  rw [anB]
  rcases (Bool.or_eq_true _ _).mp q with e | e
  · rw [e]; rfl
  · rw [e, Bool.true_or, Bool.or_true]
theorem icQ_h {f fl : Nat → Int32} {h : Int32} {s : Bool} {i : Nat} (q : icP f fl h i = true) : icQ f fl h s (i + 1) = true := by
  unfold icQ
  rw [anB, q, Bool.or_true, Bool.or_true]
theorem icQ_f {f fl : Nat → Int32} {h : Int32} {s : Bool} {i : Nat} (q : icQ f fl h s i = false) (q2 : icP f fl h i = false) : icQ f fl h s (i + 1) = false := by
  unfold icQ at q ⊢
  rw [anB, q2, Bool.or_false]; exact q
theorem z_narB9 (b : Bool) : narrow .boolean (Value.int (z_bi b)) = .int (z_bi b) := by
  cases b <;> rfl
set_option maxHeartbeats 4000000 in
set_option maxRecDepth 100000 in
theorem L_Mm_feed9_95 (g : zG) (m mp mf mh mn mt mz mc_ mq mgr ml mi mr mm mu mk mx : Nat) (th pt cl wa co_ fi bu ho lh mg wd fpi fal : Int32) (po de : Int64) (b : Nat) (f : Nat → Int32) (fl : Nat → Int32) (he nx mtt fz ic : Nat → Int32) (qn : Nat → Nat) (hh : Int32) (w0 : zW) (n : Nat) (h : Nat) (hok : Dok (fdB f (flC f fl) (fa_fill (frG (flC f fl) (frM f (flC f fl) he mtt fz nx hh).1.2.2.1) (frM f (flC f fl) he mtt fz nx hh).1.2.2.1 108) (fdA f (flC f fl) (ic, qn, 0, 0) 108) h) 108) (hn : h < (fdB f (flC f fl) (fa_fill (frG (flC f fl) (frM f (flC f fl) he mtt fz nx hh).1.2.2.1) (frM f (flC f fl) he mtt fz nx hh).1.2.2.1 108) (fdA f (flC f fl) (ic, qn, 0, 0) 108) h).2.2.1) (hh9 : h < 108) (hhere : ((fdB f (flC f fl) (fa_fill (frG (flC f fl) (frM f (flC f fl) he mtt fz nx hh).1.2.2.1) (frM f (flC f fl) he mtt fz nx hh).1.2.2.1 108) (fdA f (flC f fl) (ic, qn, 0, 0) 108) h).2.1 h) < 108) (hdA : ∀ h, dI (fdB f (flC f fl) (fa_fill (frG (flC f fl) (frM f (flC f fl) he mtt fz nx hh).1.2.2.1) (frM f (flC f fl) he mtt fz nx hh).1.2.2.1 108) (fdA f (flC f fl) (ic, qn, 0, 0) 108) h)) (K : DV g M_Mm_feed (fun o cs1 => o = .inl none ∧ cs1 = [(m, .inr (12, [.int th, .ref mp, .int pt, .ref mf, .ref mh, .ref mn, .ref mt, .ref mz, .ref mc_, .ref mq, .ref mgr, .int cl, .int wa, .int co_, .int fi, .int bu, .int ho, .ref ml, .ref mi, .ref mr, .int lh, .int mg, .int wd, .int fpi, .int fal, .ref mm, .ref mu, .ref mk, .ref mx, .long po, .long de])), (b, .inl (1, 108, .inl f)), (mf, .inl (0, 108, .inl (flC f fl))), (mh, .inl (0, 108, .inl ((frM f (flC f fl) he mtt fz nx hh).1.1))), (mt, .inl (0, 108, .inl ((frM f (flC f fl) he mtt fz nx hh).1.2.1))), (mz, .inl (0, 108, .inl (fa_fill (frG (flC f fl) (frM f (flC f fl) he mtt fz nx hh).1.2.2.1) (frM f (flC f fl) he mtt fz nx hh).1.2.2.1 108))), (mn, .inl (0, 108, .inl ((frM f (flC f fl) he mtt fz nx hh).2))), (mc_, .inl (2, 108, .inl ((fdB f (flC f fl) (fa_fill (frG (flC f fl) (frM f (flC f fl) he mtt fz nx hh).1.2.2.1) (frM f (flC f fl) he mtt fz nx hh).1.2.2.1 108) (fdA f (flC f fl) (ic, qn, 0, 0) 108) 108).1))), (mq, .inl (0, 108, .inl (fun k => nI ((fdB f (flC f fl) (fa_fill (frG (flC f fl) (frM f (flC f fl) he mtt fz nx hh).1.2.2.1) (frM f (flC f fl) he mtt fz nx hh).1.2.2.1 108) (fdA f (flC f fl) (ic, qn, 0, 0) 108) 108).2.1 k))))]) w0 n 244 [(5, .int (nI h)), (4, .int ((fdH f (flC f fl) (fa_fill (frG (flC f fl) (frM f (flC f fl) he mtt fz nx hh).1.2.2.1) (frM f (flC f fl) he mtt fz nx hh).1.2.2.1 108) ((fdB f (flC f fl) (fa_fill (frG (flC f fl) (frM f (flC f fl) he mtt fz nx hh).1.2.2.1) (frM f (flC f fl) he mtt fz nx hh).1.2.2.1 108) (fdA f (flC f fl) (ic, qn, 0, 0) 108) h).2.1 h) (fdB f (flC f fl) (fa_fill (frG (flC f fl) (frM f (flC f fl) he mtt fz nx hh).1.2.2.1) (frM f (flC f fl) he mtt fz nx hh).1.2.2.1 108) (fdA f (flC f fl) (ic, qn, 0, 0) 108) h) 4).2.2.2)), (3, .int (nI (fdH f (flC f fl) (fa_fill (frG (flC f fl) (frM f (flC f fl) he mtt fz nx hh).1.2.2.1) (frM f (flC f fl) he mtt fz nx hh).1.2.2.1 108) ((fdB f (flC f fl) (fa_fill (frG (flC f fl) (frM f (flC f fl) he mtt fz nx hh).1.2.2.1) (frM f (flC f fl) he mtt fz nx hh).1.2.2.1 108) (fdA f (flC f fl) (ic, qn, 0, 0) 108) h).2.1 h) (fdB f (flC f fl) (fa_fill (frG (flC f fl) (frM f (flC f fl) he mtt fz nx hh).1.2.2.1) (frM f (flC f fl) he mtt fz nx hh).1.2.2.1 108) (fdA f (flC f fl) (ic, qn, 0, 0) 108) h) 4).2.2.1)), (0, .ref m), (1, .ref b), (2, .int hh)] [] [(m, .inr (12, [.int th, .ref mp, .int pt, .ref mf, .ref mh, .ref mn, .ref mt, .ref mz, .ref mc_, .ref mq, .ref mgr, .int cl, .int wa, .int co_, .int fi, .int bu, .int ho, .ref ml, .ref mi, .ref mr, .int lh, .int mg, .int wd, .int fpi, .int fal, .ref mm, .ref mu, .ref mk, .ref mx, .long po, .long de])), (b, .inl (1, 108, .inl f)), (mf, .inl (0, 108, .inl (flC f fl))), (mh, .inl (0, 108, .inl ((frM f (flC f fl) he mtt fz nx hh).1.1))), (mt, .inl (0, 108, .inl ((frM f (flC f fl) he mtt fz nx hh).1.2.1))), (mz, .inl (0, 108, .inl (fa_fill (frG (flC f fl) (frM f (flC f fl) he mtt fz nx hh).1.2.2.1) (frM f (flC f fl) he mtt fz nx hh).1.2.2.1 108))), (mn, .inl (0, 108, .inl ((frM f (flC f fl) he mtt fz nx hh).2))), (mc_, .inl (2, 108, .inl ((fdH f (flC f fl) (fa_fill (frG (flC f fl) (frM f (flC f fl) he mtt fz nx hh).1.2.2.1) (frM f (flC f fl) he mtt fz nx hh).1.2.2.1 108) ((fdB f (flC f fl) (fa_fill (frG (flC f fl) (frM f (flC f fl) he mtt fz nx hh).1.2.2.1) (frM f (flC f fl) he mtt fz nx hh).1.2.2.1 108) (fdA f (flC f fl) (ic, qn, 0, 0) 108) h).2.1 h) (fdB f (flC f fl) (fa_fill (frG (flC f fl) (frM f (flC f fl) he mtt fz nx hh).1.2.2.1) (frM f (flC f fl) he mtt fz nx hh).1.2.2.1 108) (fdA f (flC f fl) (ic, qn, 0, 0) 108) h) 4).1))), (mq, .inl (0, 108, .inl (fun k => nI ((fdH f (flC f fl) (fa_fill (frG (flC f fl) (frM f (flC f fl) he mtt fz nx hh).1.2.2.1) (frM f (flC f fl) he mtt fz nx hh).1.2.2.1 108) ((fdB f (flC f fl) (fa_fill (frG (flC f fl) (frM f (flC f fl) he mtt fz nx hh).1.2.2.1) (frM f (flC f fl) he mtt fz nx hh).1.2.2.1 108) (fdA f (flC f fl) (ic, qn, 0, 0) 108) h).2.1 h) (fdB f (flC f fl) (fa_fill (frG (flC f fl) (frM f (flC f fl) he mtt fz nx hh).1.2.2.1) (frM f (flC f fl) he mtt fz nx hh).1.2.2.1 108) (fdA f (flC f fl) (ic, qn, 0, 0) 108) h) 4).2.1 k))))] 0 0) : ∀ (d i : Nat), i ≤ 4 → 4 < i + d → DV g M_Mm_feed (fun o cs1 => o = .inl none ∧ cs1 = [(m, .inr (12, [.int th, .ref mp, .int pt, .ref mf, .ref mh, .ref mn, .ref mt, .ref mz, .ref mc_, .ref mq, .ref mgr, .int cl, .int wa, .int co_, .int fi, .int bu, .int ho, .ref ml, .ref mi, .ref mr, .int lh, .int mg, .int wd, .int fpi, .int fal, .ref mm, .ref mu, .ref mk, .ref mx, .long po, .long de])), (b, .inl (1, 108, .inl f)), (mf, .inl (0, 108, .inl (flC f fl))), (mh, .inl (0, 108, .inl ((frM f (flC f fl) he mtt fz nx hh).1.1))), (mt, .inl (0, 108, .inl ((frM f (flC f fl) he mtt fz nx hh).1.2.1))), (mz, .inl (0, 108, .inl (fa_fill (frG (flC f fl) (frM f (flC f fl) he mtt fz nx hh).1.2.2.1) (frM f (flC f fl) he mtt fz nx hh).1.2.2.1 108))), (mn, .inl (0, 108, .inl ((frM f (flC f fl) he mtt fz nx hh).2))), (mc_, .inl (2, 108, .inl ((fdB f (flC f fl) (fa_fill (frG (flC f fl) (frM f (flC f fl) he mtt fz nx hh).1.2.2.1) (frM f (flC f fl) he mtt fz nx hh).1.2.2.1 108) (fdA f (flC f fl) (ic, qn, 0, 0) 108) 108).1))), (mq, .inl (0, 108, .inl (fun k => nI ((fdB f (flC f fl) (fa_fill (frG (flC f fl) (frM f (flC f fl) he mtt fz nx hh).1.2.2.1) (frM f (flC f fl) he mtt fz nx hh).1.2.2.1 108) (fdA f (flC f fl) (ic, qn, 0, 0) 108) 108).2.1 k))))]) w0 n 95 [(6, .int (nI i)), (5, .int (nI h)), (4, .int ((fdH f (flC f fl) (fa_fill (frG (flC f fl) (frM f (flC f fl) he mtt fz nx hh).1.2.2.1) (frM f (flC f fl) he mtt fz nx hh).1.2.2.1 108) ((fdB f (flC f fl) (fa_fill (frG (flC f fl) (frM f (flC f fl) he mtt fz nx hh).1.2.2.1) (frM f (flC f fl) he mtt fz nx hh).1.2.2.1 108) (fdA f (flC f fl) (ic, qn, 0, 0) 108) h).2.1 h) (fdB f (flC f fl) (fa_fill (frG (flC f fl) (frM f (flC f fl) he mtt fz nx hh).1.2.2.1) (frM f (flC f fl) he mtt fz nx hh).1.2.2.1 108) (fdA f (flC f fl) (ic, qn, 0, 0) 108) h) i).2.2.2)), (3, .int (nI (fdH f (flC f fl) (fa_fill (frG (flC f fl) (frM f (flC f fl) he mtt fz nx hh).1.2.2.1) (frM f (flC f fl) he mtt fz nx hh).1.2.2.1 108) ((fdB f (flC f fl) (fa_fill (frG (flC f fl) (frM f (flC f fl) he mtt fz nx hh).1.2.2.1) (frM f (flC f fl) he mtt fz nx hh).1.2.2.1 108) (fdA f (flC f fl) (ic, qn, 0, 0) 108) h).2.1 h) (fdB f (flC f fl) (fa_fill (frG (flC f fl) (frM f (flC f fl) he mtt fz nx hh).1.2.2.1) (frM f (flC f fl) he mtt fz nx hh).1.2.2.1 108) (fdA f (flC f fl) (ic, qn, 0, 0) 108) h) i).2.2.1)), (0, .ref m), (1, .ref b), (2, .int hh)] [] [(m, .inr (12, [.int th, .ref mp, .int pt, .ref mf, .ref mh, .ref mn, .ref mt, .ref mz, .ref mc_, .ref mq, .ref mgr, .int cl, .int wa, .int co_, .int fi, .int bu, .int ho, .ref ml, .ref mi, .ref mr, .int lh, .int mg, .int wd, .int fpi, .int fal, .ref mm, .ref mu, .ref mk, .ref mx, .long po, .long de])), (b, .inl (1, 108, .inl f)), (mf, .inl (0, 108, .inl (flC f fl))), (mh, .inl (0, 108, .inl ((frM f (flC f fl) he mtt fz nx hh).1.1))), (mt, .inl (0, 108, .inl ((frM f (flC f fl) he mtt fz nx hh).1.2.1))), (mz, .inl (0, 108, .inl (fa_fill (frG (flC f fl) (frM f (flC f fl) he mtt fz nx hh).1.2.2.1) (frM f (flC f fl) he mtt fz nx hh).1.2.2.1 108))), (mn, .inl (0, 108, .inl ((frM f (flC f fl) he mtt fz nx hh).2))), (mc_, .inl (2, 108, .inl ((fdH f (flC f fl) (fa_fill (frG (flC f fl) (frM f (flC f fl) he mtt fz nx hh).1.2.2.1) (frM f (flC f fl) he mtt fz nx hh).1.2.2.1 108) ((fdB f (flC f fl) (fa_fill (frG (flC f fl) (frM f (flC f fl) he mtt fz nx hh).1.2.2.1) (frM f (flC f fl) he mtt fz nx hh).1.2.2.1 108) (fdA f (flC f fl) (ic, qn, 0, 0) 108) h).2.1 h) (fdB f (flC f fl) (fa_fill (frG (flC f fl) (frM f (flC f fl) he mtt fz nx hh).1.2.2.1) (frM f (flC f fl) he mtt fz nx hh).1.2.2.1 108) (fdA f (flC f fl) (ic, qn, 0, 0) 108) h) i).1))), (mq, .inl (0, 108, .inl (fun k => nI ((fdH f (flC f fl) (fa_fill (frG (flC f fl) (frM f (flC f fl) he mtt fz nx hh).1.2.2.1) (frM f (flC f fl) he mtt fz nx hh).1.2.2.1 108) ((fdB f (flC f fl) (fa_fill (frG (flC f fl) (frM f (flC f fl) he mtt fz nx hh).1.2.2.1) (frM f (flC f fl) he mtt fz nx hh).1.2.2.1 108) (fdA f (flC f fl) (ic, qn, 0, 0) 108) h).2.1 h) (fdB f (flC f fl) (fa_fill (frG (flC f fl) (frM f (flC f fl) he mtt fz nx hh).1.2.2.1) (frM f (flC f fl) he mtt fz nx hh).1.2.2.1 108) (fdA f (flC f fl) (ic, qn, 0, 0) 108) h) i).2.1 k))))] 0 0 := by
  intro d
  induction d with
  | zero => intro i h1 h2 ; exact absurd h2 (by omega)
  | succ d ih =>
    intro i h1 h2 
    refine r_iload d_Mm_feed_95 0 rfl ?_
    refine r_iconst d_Mm_feed_97 (v := 4) (by decide) ?_
    refine r_icmp_ge (tgt := 244) d_Mm_feed_98 (by decide) (fun c_98 => ?_) (fun c_98 => ?_)
    · have hi4 := z_le (a := 4) (by omega) (by decide) c_98
      obtain rfl : i = 4 := by omega
      refine r_lv (lv' := [(5, .int (nI h)), (4, .int ((fdH f (flC f fl) (fa_fill (frG (flC f fl) (frM f (flC f fl) he mtt fz nx hh).1.2.2.1) (frM f (flC f fl) he mtt fz nx hh).1.2.2.1 108) ((fdB f (flC f fl) (fa_fill (frG (flC f fl) (frM f (flC f fl) he mtt fz nx hh).1.2.2.1) (frM f (flC f fl) he mtt fz nx hh).1.2.2.1 108) (fdA f (flC f fl) (ic, qn, 0, 0) 108) h).2.1 h) (fdB f (flC f fl) (fa_fill (frG (flC f fl) (frM f (flC f fl) he mtt fz nx hh).1.2.2.1) (frM f (flC f fl) he mtt fz nx hh).1.2.2.1 108) (fdA f (flC f fl) (ic, qn, 0, 0) 108) h) 4).2.2.2)), (3, .int (nI (fdH f (flC f fl) (fa_fill (frG (flC f fl) (frM f (flC f fl) he mtt fz nx hh).1.2.2.1) (frM f (flC f fl) he mtt fz nx hh).1.2.2.1 108) ((fdB f (flC f fl) (fa_fill (frG (flC f fl) (frM f (flC f fl) he mtt fz nx hh).1.2.2.1) (frM f (flC f fl) he mtt fz nx hh).1.2.2.1 108) (fdA f (flC f fl) (ic, qn, 0, 0) 108) h).2.1 h) (fdB f (flC f fl) (fa_fill (frG (flC f fl) (frM f (flC f fl) he mtt fz nx hh).1.2.2.1) (frM f (flC f fl) he mtt fz nx hh).1.2.2.1 108) (fdA f (flC f fl) (ic, qn, 0, 0) 108) h) 4).2.2.1)), (0, .ref m), (1, .ref b), (2, .int hh)]) [1, 2, 3, 4, 5, 6] rfl ?_
      exact K
    · have hi4 := z_nle (a := 4) (by omega) (by decide) c_98
      have hok2 := fdH_ok (ce := f) (fi := (flC f fl)) (fr := (fa_fill (frG (flC f fl) (frM f (flC f fl) he mtt fz nx hh).1.2.2.1) (frM f (flC f fl) he mtt fz nx hh).1.2.2.1 108)) hhere hok i
      have hqq := fdH_q (ce := f) (fi := (flC f fl)) (fr := (fa_fill (frG (flC f fl) (frM f (flC f fl) he mtt fz nx hh).1.2.2.1) (frM f (flC f fl) he mtt fz nx hh).1.2.2.1 108)) (here := ((fdB f (flC f fl) (fa_fill (frG (flC f fl) (frM f (flC f fl) he mtt fz nx hh).1.2.2.1) (frM f (flC f fl) he mtt fz nx hh).1.2.2.1 108) (fdA f (flC f fl) (ic, qn, 0, 0) 108) h).2.1 h)) hn i
      have hq2 := hok2.1
      have hdi := dI_H (ce := f) (fi := (flC f fl)) (fr := (fa_fill (frG (flC f fl) (frM f (flC f fl) he mtt fz nx hh).1.2.2.1) (frM f (flC f fl) he mtt fz nx hh).1.2.2.1 108)) hhere (hdA h) i
      refine r_aload_n d_Mm_feed_101 rfl 4 rfl ?_
      refine r_get fs_Mm_37 d_Mm_feed_102 (q0 := 0) rfl rfl ?_
      refine r_iload d_Mm_feed_105 1 rfl ?_
      refine r_iald d_Mm_feed_107 (q0 := 8) rfl (vp_in_nI (by omega) (by omega)) (v := nI ((fdB f (flC f fl) (fa_fill (frG (flC f fl) (frM f (flC f fl) he mtt fz nx hh).1.2.2.1) (frM f (flC f fl) he mtt fz nx hh).1.2.2.1 108) (fdA f (flC f fl) (ic, qn, 0, 0) 108) h).2.1 h)) (by rw [nI_clamp (by omega)]; exact congrArg nI hqq.1) ?_
      refine r_iload d_Mm_feed_108 0 rfl ?_
      refine r_callS (As := [.int (nI ((fdB f (flC f fl) (fa_fill (frG (flC f fl) (frM f (flC f fl) he mtt fz nx hh).1.2.2.1) (frM f (flC f fl) he mtt fz nx hh).1.2.2.1 108) (fdA f (flC f fl) (ic, qn, 0, 0) 108) h).2.1 h)), .int (nI i)]) (rest := []) (csC := []) (is := []) ln_Mm_119 w_st_Mm_beside ok_Mm_feed_Mm_beside d_Mm_feed_110 (C_Mm_beside g ((fdB f (flC f fl) (fa_fill (frG (flC f fl) (frM f (flC f fl) he mtt fz nx hh).1.2.2.1) (frM f (flC f fl) he mtt fz nx hh).1.2.2.1 108) (fdA f (flC f fl) (ic, qn, 0, 0) 108) h).2.1 h) i hhere (by omega)) rfl rfl (Nat.le_of_ble_eq_true rfl) rfl (by decide) (by omega) (by omega) (fun E cs1 hx => ?_) (fun v cs1 hx => ?_)
      · exact absurd hx.1 (by simp)
      · obtain ⟨e1, rfl⟩ := hx
        cases e1
        refine ⟨rfl, ?_⟩
        refine r_st (st2 := [.int (oI (bs ((fdB f (flC f fl) (fa_fill (frG (flC f fl) (frM f (flC f fl) he mtt fz nx hh).1.2.2.1) (frM f (flC f fl) he mtt fz nx hh).1.2.2.1 108) (fdA f (flC f fl) (ic, qn, 0, 0) 108) h).2.1 h) i))]) rfl ?_
        refine r_cs (cs2 := [(m, .inr (12, [.int th, .ref mp, .int pt, .ref mf, .ref mh, .ref mn, .ref mt, .ref mz, .ref mc_, .ref mq, .ref mgr, .int cl, .int wa, .int co_, .int fi, .int bu, .int ho, .ref ml, .ref mi, .ref mr, .int lh, .int mg, .int wd, .int fpi, .int fal, .ref mm, .ref mu, .ref mk, .ref mx, .long po, .long de])), (b, .inl (1, 108, .inl f)), (mf, .inl (0, 108, .inl (flC f fl))), (mh, .inl (0, 108, .inl ((frM f (flC f fl) he mtt fz nx hh).1.1))), (mt, .inl (0, 108, .inl ((frM f (flC f fl) he mtt fz nx hh).1.2.1))), (mz, .inl (0, 108, .inl (fa_fill (frG (flC f fl) (frM f (flC f fl) he mtt fz nx hh).1.2.2.1) (frM f (flC f fl) he mtt fz nx hh).1.2.2.1 108))), (mn, .inl (0, 108, .inl ((frM f (flC f fl) he mtt fz nx hh).2))), (mc_, .inl (2, 108, .inl ((fdH f (flC f fl) (fa_fill (frG (flC f fl) (frM f (flC f fl) he mtt fz nx hh).1.2.2.1) (frM f (flC f fl) he mtt fz nx hh).1.2.2.1 108) ((fdB f (flC f fl) (fa_fill (frG (flC f fl) (frM f (flC f fl) he mtt fz nx hh).1.2.2.1) (frM f (flC f fl) he mtt fz nx hh).1.2.2.1 108) (fdA f (flC f fl) (ic, qn, 0, 0) 108) h).2.1 h) (fdB f (flC f fl) (fa_fill (frG (flC f fl) (frM f (flC f fl) he mtt fz nx hh).1.2.2.1) (frM f (flC f fl) he mtt fz nx hh).1.2.2.1 108) (fdA f (flC f fl) (ic, qn, 0, 0) 108) h) i).1))), (mq, .inl (0, 108, .inl (fun k => nI ((fdH f (flC f fl) (fa_fill (frG (flC f fl) (frM f (flC f fl) he mtt fz nx hh).1.2.2.1) (frM f (flC f fl) he mtt fz nx hh).1.2.2.1 108) ((fdB f (flC f fl) (fa_fill (frG (flC f fl) (frM f (flC f fl) he mtt fz nx hh).1.2.2.1) (frM f (flC f fl) he mtt fz nx hh).1.2.2.1 108) (fdA f (flC f fl) (ic, qn, 0, 0) 108) h).2.1 h) (fdB f (flC f fl) (fa_fill (frG (flC f fl) (frM f (flC f fl) he mtt fz nx hh).1.2.2.1) (frM f (flC f fl) he mtt fz nx hh).1.2.2.1 108) (fdA f (flC f fl) (ic, qn, 0, 0) 108) h) i).2.1 k))))]) rfl ?_
        refine r_istore (lv' := [(7, .int (oI (bs ((fdB f (flC f fl) (fa_fill (frG (flC f fl) (frM f (flC f fl) he mtt fz nx hh).1.2.2.1) (frM f (flC f fl) he mtt fz nx hh).1.2.2.1 108) (fdA f (flC f fl) (ic, qn, 0, 0) 108) h).2.1 h) i))), (6, .int (nI i)), (5, .int (nI h)), (4, .int ((fdH f (flC f fl) (fa_fill (frG (flC f fl) (frM f (flC f fl) he mtt fz nx hh).1.2.2.1) (frM f (flC f fl) he mtt fz nx hh).1.2.2.1 108) ((fdB f (flC f fl) (fa_fill (frG (flC f fl) (frM f (flC f fl) he mtt fz nx hh).1.2.2.1) (frM f (flC f fl) he mtt fz nx hh).1.2.2.1 108) (fdA f (flC f fl) (ic, qn, 0, 0) 108) h).2.1 h) (fdB f (flC f fl) (fa_fill (frG (flC f fl) (frM f (flC f fl) he mtt fz nx hh).1.2.2.1) (frM f (flC f fl) he mtt fz nx hh).1.2.2.1 108) (fdA f (flC f fl) (ic, qn, 0, 0) 108) h) i).2.2.2)), (3, .int (nI (fdH f (flC f fl) (fa_fill (frG (flC f fl) (frM f (flC f fl) he mtt fz nx hh).1.2.2.1) (frM f (flC f fl) he mtt fz nx hh).1.2.2.1 108) ((fdB f (flC f fl) (fa_fill (frG (flC f fl) (frM f (flC f fl) he mtt fz nx hh).1.2.2.1) (frM f (flC f fl) he mtt fz nx hh).1.2.2.1 108) (fdA f (flC f fl) (ic, qn, 0, 0) 108) h).2.1 h) (fdB f (flC f fl) (fa_fill (frG (flC f fl) (frM f (flC f fl) he mtt fz nx hh).1.2.2.1) (frM f (flC f fl) he mtt fz nx hh).1.2.2.1 108) (fdA f (flC f fl) (ic, qn, 0, 0) 108) h) i).2.2.1)), (0, .ref m), (1, .ref b), (2, .int hh)]) d_Mm_feed_113 (by decide) rfl ?_
        refine r_iload d_Mm_feed_115 0 rfl ?_
        refine r_iconst d_Mm_feed_117 (v := (-1)) (by decide) ?_
        refine r_icmp_eq (tgt := 178) d_Mm_feed_118 (by decide) (fun c_118 => ?_) (fun c_118 => ?_)
        · have hk := fdI_n (ce := f) (fi := (flC f fl)) (fr := (fa_fill (frG (flC f fl) (frM f (flC f fl) he mtt fz nx hh).1.2.2.1) (frM f (flC f fl) he mtt fz nx hh).1.2.2.1 108)) (S := (fdH f (flC f fl) (fa_fill (frG (flC f fl) (frM f (flC f fl) he mtt fz nx hh).1.2.2.1) (frM f (flC f fl) he mtt fz nx hh).1.2.2.1 108) ((fdB f (flC f fl) (fa_fill (frG (flC f fl) (frM f (flC f fl) he mtt fz nx hh).1.2.2.1) (frM f (flC f fl) he mtt fz nx hh).1.2.2.1 108) (fdA f (flC f fl) (ic, qn, 0, 0) 108) h).2.1 h) (fdB f (flC f fl) (fa_fill (frG (flC f fl) (frM f (flC f fl) he mtt fz nx hh).1.2.2.1) (frM f (flC f fl) he mtt fz nx hh).1.2.2.1 108) (fdA f (flC f fl) (ic, qn, 0, 0) 108) h) i)) (oI_nn hhere c_118)
          refine r_iconst d_Mm_feed_178 (v := 0) (by decide) ?_
          refine r_istore (lv' := [(8, .int 0), (7, .int (oI (bs ((fdB f (flC f fl) (fa_fill (frG (flC f fl) (frM f (flC f fl) he mtt fz nx hh).1.2.2.1) (frM f (flC f fl) he mtt fz nx hh).1.2.2.1 108) (fdA f (flC f fl) (ic, qn, 0, 0) 108) h).2.1 h) i))), (6, .int (nI i)), (5, .int (nI h)), (4, .int ((fdH f (flC f fl) (fa_fill (frG (flC f fl) (frM f (flC f fl) he mtt fz nx hh).1.2.2.1) (frM f (flC f fl) he mtt fz nx hh).1.2.2.1 108) ((fdB f (flC f fl) (fa_fill (frG (flC f fl) (frM f (flC f fl) he mtt fz nx hh).1.2.2.1) (frM f (flC f fl) he mtt fz nx hh).1.2.2.1 108) (fdA f (flC f fl) (ic, qn, 0, 0) 108) h).2.1 h) (fdB f (flC f fl) (fa_fill (frG (flC f fl) (frM f (flC f fl) he mtt fz nx hh).1.2.2.1) (frM f (flC f fl) he mtt fz nx hh).1.2.2.1 108) (fdA f (flC f fl) (ic, qn, 0, 0) 108) h) i).2.2.2)), (3, .int (nI (fdH f (flC f fl) (fa_fill (frG (flC f fl) (frM f (flC f fl) he mtt fz nx hh).1.2.2.1) (frM f (flC f fl) he mtt fz nx hh).1.2.2.1 108) ((fdB f (flC f fl) (fa_fill (frG (flC f fl) (frM f (flC f fl) he mtt fz nx hh).1.2.2.1) (frM f (flC f fl) he mtt fz nx hh).1.2.2.1 108) (fdA f (flC f fl) (ic, qn, 0, 0) 108) h).2.1 h) (fdB f (flC f fl) (fa_fill (frG (flC f fl) (frM f (flC f fl) he mtt fz nx hh).1.2.2.1) (frM f (flC f fl) he mtt fz nx hh).1.2.2.1 108) (fdA f (flC f fl) (ic, qn, 0, 0) 108) h) i).2.2.1)), (0, .ref m), (1, .ref b), (2, .int hh)]) d_Mm_feed_179 (by decide) rfl ?_
          refine r_iload d_Mm_feed_181 0 rfl ?_
          refine r_if_eq (tgt := 238) d_Mm_feed_183 (by decide) (fun c_183 => ?_) (fun c_183 => ?_)
          · refine r_iinc (lv' := [(6, .int (nI (i + 1))), (8, .int 0), (7, .int (oI (bs ((fdB f (flC f fl) (fa_fill (frG (flC f fl) (frM f (flC f fl) he mtt fz nx hh).1.2.2.1) (frM f (flC f fl) he mtt fz nx hh).1.2.2.1 108) (fdA f (flC f fl) (ic, qn, 0, 0) 108) h).2.1 h) i))), (5, .int (nI h)), (4, .int ((fdH f (flC f fl) (fa_fill (frG (flC f fl) (frM f (flC f fl) he mtt fz nx hh).1.2.2.1) (frM f (flC f fl) he mtt fz nx hh).1.2.2.1 108) ((fdB f (flC f fl) (fa_fill (frG (flC f fl) (frM f (flC f fl) he mtt fz nx hh).1.2.2.1) (frM f (flC f fl) he mtt fz nx hh).1.2.2.1 108) (fdA f (flC f fl) (ic, qn, 0, 0) 108) h).2.1 h) (fdB f (flC f fl) (fa_fill (frG (flC f fl) (frM f (flC f fl) he mtt fz nx hh).1.2.2.1) (frM f (flC f fl) he mtt fz nx hh).1.2.2.1 108) (fdA f (flC f fl) (ic, qn, 0, 0) 108) h) i).2.2.2)), (3, .int (nI (fdH f (flC f fl) (fa_fill (frG (flC f fl) (frM f (flC f fl) he mtt fz nx hh).1.2.2.1) (frM f (flC f fl) he mtt fz nx hh).1.2.2.1 108) ((fdB f (flC f fl) (fa_fill (frG (flC f fl) (frM f (flC f fl) he mtt fz nx hh).1.2.2.1) (frM f (flC f fl) he mtt fz nx hh).1.2.2.1 108) (fdA f (flC f fl) (ic, qn, 0, 0) 108) h).2.1 h) (fdB f (flC f fl) (fa_fill (frG (flC f fl) (frM f (flC f fl) he mtt fz nx hh).1.2.2.1) (frM f (flC f fl) he mtt fz nx hh).1.2.2.1 108) (fdA f (flC f fl) (ic, qn, 0, 0) 108) h) i).2.2.1)), (0, .ref m), (1, .ref b), (2, .int hh)]) (v := nI (i + 1)) d_Mm_feed_238 (j := 2) rfl (nI_add _ _) (by decide) rfl ?_
            refine r_goto (tgt := 95) d_Mm_feed_241 (by decide) ?_
            refine r_lv (lv' := [(6, .int (nI (i + 1))), (5, .int (nI h)), (4, .int ((fdH f (flC f fl) (fa_fill (frG (flC f fl) (frM f (flC f fl) he mtt fz nx hh).1.2.2.1) (frM f (flC f fl) he mtt fz nx hh).1.2.2.1 108) ((fdB f (flC f fl) (fa_fill (frG (flC f fl) (frM f (flC f fl) he mtt fz nx hh).1.2.2.1) (frM f (flC f fl) he mtt fz nx hh).1.2.2.1 108) (fdA f (flC f fl) (ic, qn, 0, 0) 108) h).2.1 h) (fdB f (flC f fl) (fa_fill (frG (flC f fl) (frM f (flC f fl) he mtt fz nx hh).1.2.2.1) (frM f (flC f fl) he mtt fz nx hh).1.2.2.1 108) (fdA f (flC f fl) (ic, qn, 0, 0) 108) h) i).2.2.2)), (3, .int (nI (fdH f (flC f fl) (fa_fill (frG (flC f fl) (frM f (flC f fl) he mtt fz nx hh).1.2.2.1) (frM f (flC f fl) he mtt fz nx hh).1.2.2.1 108) ((fdB f (flC f fl) (fa_fill (frG (flC f fl) (frM f (flC f fl) he mtt fz nx hh).1.2.2.1) (frM f (flC f fl) he mtt fz nx hh).1.2.2.1 108) (fdA f (flC f fl) (ic, qn, 0, 0) 108) h).2.1 h) (fdB f (flC f fl) (fa_fill (frG (flC f fl) (frM f (flC f fl) he mtt fz nx hh).1.2.2.1) (frM f (flC f fl) he mtt fz nx hh).1.2.2.1 108) (fdA f (flC f fl) (ic, qn, 0, 0) 108) h) i).2.2.1)), (0, .ref m), (1, .ref b), (2, .int hh)]) [0, 3, 4, 5, 6, 7, 8] rfl ?_
            refine r_lvE (lv2 := [(6, .int (nI (i + 1))), (5, .int (nI h)), (4, .int ((fdH f (flC f fl) (fa_fill (frG (flC f fl) (frM f (flC f fl) he mtt fz nx hh).1.2.2.1) (frM f (flC f fl) he mtt fz nx hh).1.2.2.1 108) ((fdB f (flC f fl) (fa_fill (frG (flC f fl) (frM f (flC f fl) he mtt fz nx hh).1.2.2.1) (frM f (flC f fl) he mtt fz nx hh).1.2.2.1 108) (fdA f (flC f fl) (ic, qn, 0, 0) 108) h).2.1 h) (fdB f (flC f fl) (fa_fill (frG (flC f fl) (frM f (flC f fl) he mtt fz nx hh).1.2.2.1) (frM f (flC f fl) he mtt fz nx hh).1.2.2.1 108) (fdA f (flC f fl) (ic, qn, 0, 0) 108) h) (i + 1)).2.2.2)), (3, .int (nI (fdH f (flC f fl) (fa_fill (frG (flC f fl) (frM f (flC f fl) he mtt fz nx hh).1.2.2.1) (frM f (flC f fl) he mtt fz nx hh).1.2.2.1 108) ((fdB f (flC f fl) (fa_fill (frG (flC f fl) (frM f (flC f fl) he mtt fz nx hh).1.2.2.1) (frM f (flC f fl) he mtt fz nx hh).1.2.2.1 108) (fdA f (flC f fl) (ic, qn, 0, 0) 108) h).2.1 h) (fdB f (flC f fl) (fa_fill (frG (flC f fl) (frM f (flC f fl) he mtt fz nx hh).1.2.2.1) (frM f (flC f fl) he mtt fz nx hh).1.2.2.1 108) (fdA f (flC f fl) (ic, qn, 0, 0) 108) h) (i + 1)).2.2.1)), (0, .ref m), (1, .ref b), (2, .int hh)]) (by first | exact absurd c_192 c_216 | exact absurd c_216 c_192 | (rw [show (fdH f (flC f fl) (fa_fill (frG (flC f fl) (frM f (flC f fl) he mtt fz nx hh).1.2.2.1) (frM f (flC f fl) he mtt fz nx hh).1.2.2.1 108) ((fdB f (flC f fl) (fa_fill (frG (flC f fl) (frM f (flC f fl) he mtt fz nx hh).1.2.2.1) (frM f (flC f fl) he mtt fz nx hh).1.2.2.1 108) (fdA f (flC f fl) (ic, qn, 0, 0) 108) h).2.1 h) (fdB f (flC f fl) (fa_fill (frG (flC f fl) (frM f (flC f fl) he mtt fz nx hh).1.2.2.1) (frM f (flC f fl) he mtt fz nx hh).1.2.2.1 108) (fdA f (flC f fl) (ic, qn, 0, 0) 108) h) (i + 1)) = fdI f (flC f fl) (fa_fill (frG (flC f fl) (frM f (flC f fl) he mtt fz nx hh).1.2.2.1) (frM f (flC f fl) he mtt fz nx hh).1.2.2.1 108) ((fdB f (flC f fl) (fa_fill (frG (flC f fl) (frM f (flC f fl) he mtt fz nx hh).1.2.2.1) (frM f (flC f fl) he mtt fz nx hh).1.2.2.1 108) (fdA f (flC f fl) (ic, qn, 0, 0) 108) h).2.1 h) i (fdH f (flC f fl) (fa_fill (frG (flC f fl) (frM f (flC f fl) he mtt fz nx hh).1.2.2.1) (frM f (flC f fl) he mtt fz nx hh).1.2.2.1 108) ((fdB f (flC f fl) (fa_fill (frG (flC f fl) (frM f (flC f fl) he mtt fz nx hh).1.2.2.1) (frM f (flC f fl) he mtt fz nx hh).1.2.2.1 108) (fdA f (flC f fl) (ic, qn, 0, 0) 108) h).2.1 h) (fdB f (flC f fl) (fa_fill (frG (flC f fl) (frM f (flC f fl) he mtt fz nx hh).1.2.2.1) (frM f (flC f fl) he mtt fz nx hh).1.2.2.1 108) (fdA f (flC f fl) (ic, qn, 0, 0) 108) h) i) from rfl, hk] <;> rfl)) ?_
            refine r_cs (cs2 := [(m, .inr (12, [.int th, .ref mp, .int pt, .ref mf, .ref mh, .ref mn, .ref mt, .ref mz, .ref mc_, .ref mq, .ref mgr, .int cl, .int wa, .int co_, .int fi, .int bu, .int ho, .ref ml, .ref mi, .ref mr, .int lh, .int mg, .int wd, .int fpi, .int fal, .ref mm, .ref mu, .ref mk, .ref mx, .long po, .long de])), (b, .inl (1, 108, .inl f)), (mf, .inl (0, 108, .inl (flC f fl))), (mh, .inl (0, 108, .inl ((frM f (flC f fl) he mtt fz nx hh).1.1))), (mt, .inl (0, 108, .inl ((frM f (flC f fl) he mtt fz nx hh).1.2.1))), (mz, .inl (0, 108, .inl (fa_fill (frG (flC f fl) (frM f (flC f fl) he mtt fz nx hh).1.2.2.1) (frM f (flC f fl) he mtt fz nx hh).1.2.2.1 108))), (mn, .inl (0, 108, .inl ((frM f (flC f fl) he mtt fz nx hh).2))), (mc_, .inl (2, 108, .inl ((fdH f (flC f fl) (fa_fill (frG (flC f fl) (frM f (flC f fl) he mtt fz nx hh).1.2.2.1) (frM f (flC f fl) he mtt fz nx hh).1.2.2.1 108) ((fdB f (flC f fl) (fa_fill (frG (flC f fl) (frM f (flC f fl) he mtt fz nx hh).1.2.2.1) (frM f (flC f fl) he mtt fz nx hh).1.2.2.1 108) (fdA f (flC f fl) (ic, qn, 0, 0) 108) h).2.1 h) (fdB f (flC f fl) (fa_fill (frG (flC f fl) (frM f (flC f fl) he mtt fz nx hh).1.2.2.1) (frM f (flC f fl) he mtt fz nx hh).1.2.2.1 108) (fdA f (flC f fl) (ic, qn, 0, 0) 108) h) (i + 1)).1))), (mq, .inl (0, 108, .inl (fun k => nI ((fdH f (flC f fl) (fa_fill (frG (flC f fl) (frM f (flC f fl) he mtt fz nx hh).1.2.2.1) (frM f (flC f fl) he mtt fz nx hh).1.2.2.1 108) ((fdB f (flC f fl) (fa_fill (frG (flC f fl) (frM f (flC f fl) he mtt fz nx hh).1.2.2.1) (frM f (flC f fl) he mtt fz nx hh).1.2.2.1 108) (fdA f (flC f fl) (ic, qn, 0, 0) 108) h).2.1 h) (fdB f (flC f fl) (fa_fill (frG (flC f fl) (frM f (flC f fl) he mtt fz nx hh).1.2.2.1) (frM f (flC f fl) he mtt fz nx hh).1.2.2.1 108) (fdA f (flC f fl) (ic, qn, 0, 0) 108) h) (i + 1)).2.1 k))))]) (by first | exact absurd c_192 c_216 | exact absurd c_216 c_192 | (rw [show (fdH f (flC f fl) (fa_fill (frG (flC f fl) (frM f (flC f fl) he mtt fz nx hh).1.2.2.1) (frM f (flC f fl) he mtt fz nx hh).1.2.2.1 108) ((fdB f (flC f fl) (fa_fill (frG (flC f fl) (frM f (flC f fl) he mtt fz nx hh).1.2.2.1) (frM f (flC f fl) he mtt fz nx hh).1.2.2.1 108) (fdA f (flC f fl) (ic, qn, 0, 0) 108) h).2.1 h) (fdB f (flC f fl) (fa_fill (frG (flC f fl) (frM f (flC f fl) he mtt fz nx hh).1.2.2.1) (frM f (flC f fl) he mtt fz nx hh).1.2.2.1 108) (fdA f (flC f fl) (ic, qn, 0, 0) 108) h) (i + 1)) = fdI f (flC f fl) (fa_fill (frG (flC f fl) (frM f (flC f fl) he mtt fz nx hh).1.2.2.1) (frM f (flC f fl) he mtt fz nx hh).1.2.2.1 108) ((fdB f (flC f fl) (fa_fill (frG (flC f fl) (frM f (flC f fl) he mtt fz nx hh).1.2.2.1) (frM f (flC f fl) he mtt fz nx hh).1.2.2.1 108) (fdA f (flC f fl) (ic, qn, 0, 0) 108) h).2.1 h) i (fdH f (flC f fl) (fa_fill (frG (flC f fl) (frM f (flC f fl) he mtt fz nx hh).1.2.2.1) (frM f (flC f fl) he mtt fz nx hh).1.2.2.1 108) ((fdB f (flC f fl) (fa_fill (frG (flC f fl) (frM f (flC f fl) he mtt fz nx hh).1.2.2.1) (frM f (flC f fl) he mtt fz nx hh).1.2.2.1 108) (fdA f (flC f fl) (ic, qn, 0, 0) 108) h).2.1 h) (fdB f (flC f fl) (fa_fill (frG (flC f fl) (frM f (flC f fl) he mtt fz nx hh).1.2.2.1) (frM f (flC f fl) he mtt fz nx hh).1.2.2.1 108) (fdA f (flC f fl) (ic, qn, 0, 0) 108) h) i) from rfl, hk] <;> rfl)) ?_
            exact ih (i + 1) (by omega) (by omega)
          · exact absurd c_183 (by decide)
        · obtain ⟨o, hob⟩ := oI_nm c_118
          have hol := bs_lt hhere hob
          rw [hob, show oI (some o) = nI o from rfl]
          have hk0 := fdI_s (ce := f) (fi := (flC f fl)) (fr := (fa_fill (frG (flC f fl) (frM f (flC f fl) he mtt fz nx hh).1.2.2.1) (frM f (flC f fl) he mtt fz nx hh).1.2.2.1 108)) (S := (fdH f (flC f fl) (fa_fill (frG (flC f fl) (frM f (flC f fl) he mtt fz nx hh).1.2.2.1) (frM f (flC f fl) he mtt fz nx hh).1.2.2.1 108) ((fdB f (flC f fl) (fa_fill (frG (flC f fl) (frM f (flC f fl) he mtt fz nx hh).1.2.2.1) (frM f (flC f fl) he mtt fz nx hh).1.2.2.1 108) (fdA f (flC f fl) (ic, qn, 0, 0) 108) h).2.1 h) (fdB f (flC f fl) (fa_fill (frG (flC f fl) (frM f (flC f fl) he mtt fz nx hh).1.2.2.1) (frM f (flC f fl) he mtt fz nx hh).1.2.2.1 108) (fdA f (flC f fl) (ic, qn, 0, 0) 108) h) i)) hob
          refine r_aload_n d_Mm_feed_121 rfl 6 rfl ?_
          refine r_iload d_Mm_feed_122 0 rfl ?_
          refine r_cald d_Mm_feed_124 (q0 := 1) rfl (vp_in_nI (by omega) (by omega)) (v := f o) (by rw [nI_clamp (by omega)]) ?_
          refine r_callS (As := [.int (f o)]) (rest := []) (csC := []) (is := []) ln_Mm_107 w_st_Mm_isMetal ok_Mm_feed_Mm_isMetal d_Mm_feed_125 (C_Mm_isMetal g (f o)) rfl rfl (Nat.le_of_ble_eq_true rfl) rfl (by decide) (by omega) (by omega) (fun E cs1 hx => ?_) (fun v cs1 hx => ?_)
          · exact absurd hx.1 (by simp)
          · obtain ⟨e1, rfl⟩ := hx
            cases e1
            refine ⟨rfl, ?_⟩
            refine r_st (st2 := [.int (z_bi (tmB (f o)))]) rfl ?_
            refine r_cs (cs2 := [(m, .inr (12, [.int th, .ref mp, .int pt, .ref mf, .ref mh, .ref mn, .ref mt, .ref mz, .ref mc_, .ref mq, .ref mgr, .int cl, .int wa, .int co_, .int fi, .int bu, .int ho, .ref ml, .ref mi, .ref mr, .int lh, .int mg, .int wd, .int fpi, .int fal, .ref mm, .ref mu, .ref mk, .ref mx, .long po, .long de])), (b, .inl (1, 108, .inl f)), (mf, .inl (0, 108, .inl (flC f fl))), (mh, .inl (0, 108, .inl ((frM f (flC f fl) he mtt fz nx hh).1.1))), (mt, .inl (0, 108, .inl ((frM f (flC f fl) he mtt fz nx hh).1.2.1))), (mz, .inl (0, 108, .inl (fa_fill (frG (flC f fl) (frM f (flC f fl) he mtt fz nx hh).1.2.2.1) (frM f (flC f fl) he mtt fz nx hh).1.2.2.1 108))), (mn, .inl (0, 108, .inl ((frM f (flC f fl) he mtt fz nx hh).2))), (mc_, .inl (2, 108, .inl ((fdH f (flC f fl) (fa_fill (frG (flC f fl) (frM f (flC f fl) he mtt fz nx hh).1.2.2.1) (frM f (flC f fl) he mtt fz nx hh).1.2.2.1 108) ((fdB f (flC f fl) (fa_fill (frG (flC f fl) (frM f (flC f fl) he mtt fz nx hh).1.2.2.1) (frM f (flC f fl) he mtt fz nx hh).1.2.2.1 108) (fdA f (flC f fl) (ic, qn, 0, 0) 108) h).2.1 h) (fdB f (flC f fl) (fa_fill (frG (flC f fl) (frM f (flC f fl) he mtt fz nx hh).1.2.2.1) (frM f (flC f fl) he mtt fz nx hh).1.2.2.1 108) (fdA f (flC f fl) (ic, qn, 0, 0) 108) h) i).1))), (mq, .inl (0, 108, .inl (fun k => nI ((fdH f (flC f fl) (fa_fill (frG (flC f fl) (frM f (flC f fl) he mtt fz nx hh).1.2.2.1) (frM f (flC f fl) he mtt fz nx hh).1.2.2.1 108) ((fdB f (flC f fl) (fa_fill (frG (flC f fl) (frM f (flC f fl) he mtt fz nx hh).1.2.2.1) (frM f (flC f fl) he mtt fz nx hh).1.2.2.1 108) (fdA f (flC f fl) (ic, qn, 0, 0) 108) h).2.1 h) (fdB f (flC f fl) (fa_fill (frG (flC f fl) (frM f (flC f fl) he mtt fz nx hh).1.2.2.1) (frM f (flC f fl) he mtt fz nx hh).1.2.2.1 108) (fdA f (flC f fl) (ic, qn, 0, 0) 108) h) i).2.1 k))))]) rfl ?_
            refine r_if_eq (tgt := 178) d_Mm_feed_128 (by decide) (fun c_128 => ?_) (fun c_128 => ?_)
            · have hk := hk0.trans (fdJ_0 (fun q => (fun (y : ¬ (fdH f (flC f fl) (fa_fill (frG (flC f fl) (frM f (flC f fl) he mtt fz nx hh).1.2.2.1) (frM f (flC f fl) he mtt fz nx hh).1.2.2.1 108) ((fdB f (flC f fl) (fa_fill (frG (flC f fl) (frM f (flC f fl) he mtt fz nx hh).1.2.2.1) (frM f (flC f fl) he mtt fz nx hh).1.2.2.1 108) (fdA f (flC f fl) (ic, qn, 0, 0) 108) h).2.1 h) (fdB f (flC f fl) (fa_fill (frG (flC f fl) (frM f (flC f fl) he mtt fz nx hh).1.2.2.1) (frM f (flC f fl) he mtt fz nx hh).1.2.2.1 108) (fdA f (flC f fl) (ic, qn, 0, 0) 108) h) i).1 o = 0 ∨ (flC f fl) o < 0 ∨ (fa_fill (frG (flC f fl) (frM f (flC f fl) he mtt fz nx hh).1.2.2.1) (frM f (flC f fl) he mtt fz nx hh).1.2.2.1 108) ((fdB f (flC f fl) (fa_fill (frG (flC f fl) (frM f (flC f fl) he mtt fz nx hh).1.2.2.1) (frM f (flC f fl) he mtt fz nx hh).1.2.2.1 108) (fdA f (flC f fl) (ic, qn, 0, 0) 108) h).2.1 h) < (fa_fill (frG (flC f fl) (frM f (flC f fl) he mtt fz nx hh).1.2.2.1) (frM f (flC f fl) he mtt fz nx hh).1.2.2.1 108) o) => y.elim (fun z => z (of_decide_eq_true q.1).1) (fun y => y.elim (fun z => (of_decide_eq_true q.1).2.1 z) (fun z => (of_decide_eq_true q.1).2.2 z))) (Or.inr (Or.inl ((vl_neg (vl_C f fl) hol).mpr (vl_m (vl_C f fl) hol (z_bi0 c_128)))))))
              refine r_iconst d_Mm_feed_178 (v := 0) (by decide) ?_
              refine r_istore (lv' := [(8, .int 0), (7, .int (nI o)), (6, .int (nI i)), (5, .int (nI h)), (4, .int ((fdH f (flC f fl) (fa_fill (frG (flC f fl) (frM f (flC f fl) he mtt fz nx hh).1.2.2.1) (frM f (flC f fl) he mtt fz nx hh).1.2.2.1 108) ((fdB f (flC f fl) (fa_fill (frG (flC f fl) (frM f (flC f fl) he mtt fz nx hh).1.2.2.1) (frM f (flC f fl) he mtt fz nx hh).1.2.2.1 108) (fdA f (flC f fl) (ic, qn, 0, 0) 108) h).2.1 h) (fdB f (flC f fl) (fa_fill (frG (flC f fl) (frM f (flC f fl) he mtt fz nx hh).1.2.2.1) (frM f (flC f fl) he mtt fz nx hh).1.2.2.1 108) (fdA f (flC f fl) (ic, qn, 0, 0) 108) h) i).2.2.2)), (3, .int (nI (fdH f (flC f fl) (fa_fill (frG (flC f fl) (frM f (flC f fl) he mtt fz nx hh).1.2.2.1) (frM f (flC f fl) he mtt fz nx hh).1.2.2.1 108) ((fdB f (flC f fl) (fa_fill (frG (flC f fl) (frM f (flC f fl) he mtt fz nx hh).1.2.2.1) (frM f (flC f fl) he mtt fz nx hh).1.2.2.1 108) (fdA f (flC f fl) (ic, qn, 0, 0) 108) h).2.1 h) (fdB f (flC f fl) (fa_fill (frG (flC f fl) (frM f (flC f fl) he mtt fz nx hh).1.2.2.1) (frM f (flC f fl) he mtt fz nx hh).1.2.2.1 108) (fdA f (flC f fl) (ic, qn, 0, 0) 108) h) i).2.2.1)), (0, .ref m), (1, .ref b), (2, .int hh)]) d_Mm_feed_179 (by decide) rfl ?_
              refine r_iload d_Mm_feed_181 0 rfl ?_
              refine r_if_eq (tgt := 238) d_Mm_feed_183 (by decide) (fun c_183 => ?_) (fun c_183 => ?_)
              · refine r_iinc (lv' := [(6, .int (nI (i + 1))), (8, .int 0), (7, .int (nI o)), (5, .int (nI h)), (4, .int ((fdH f (flC f fl) (fa_fill (frG (flC f fl) (frM f (flC f fl) he mtt fz nx hh).1.2.2.1) (frM f (flC f fl) he mtt fz nx hh).1.2.2.1 108) ((fdB f (flC f fl) (fa_fill (frG (flC f fl) (frM f (flC f fl) he mtt fz nx hh).1.2.2.1) (frM f (flC f fl) he mtt fz nx hh).1.2.2.1 108) (fdA f (flC f fl) (ic, qn, 0, 0) 108) h).2.1 h) (fdB f (flC f fl) (fa_fill (frG (flC f fl) (frM f (flC f fl) he mtt fz nx hh).1.2.2.1) (frM f (flC f fl) he mtt fz nx hh).1.2.2.1 108) (fdA f (flC f fl) (ic, qn, 0, 0) 108) h) i).2.2.2)), (3, .int (nI (fdH f (flC f fl) (fa_fill (frG (flC f fl) (frM f (flC f fl) he mtt fz nx hh).1.2.2.1) (frM f (flC f fl) he mtt fz nx hh).1.2.2.1 108) ((fdB f (flC f fl) (fa_fill (frG (flC f fl) (frM f (flC f fl) he mtt fz nx hh).1.2.2.1) (frM f (flC f fl) he mtt fz nx hh).1.2.2.1 108) (fdA f (flC f fl) (ic, qn, 0, 0) 108) h).2.1 h) (fdB f (flC f fl) (fa_fill (frG (flC f fl) (frM f (flC f fl) he mtt fz nx hh).1.2.2.1) (frM f (flC f fl) he mtt fz nx hh).1.2.2.1 108) (fdA f (flC f fl) (ic, qn, 0, 0) 108) h) i).2.2.1)), (0, .ref m), (1, .ref b), (2, .int hh)]) (v := nI (i + 1)) d_Mm_feed_238 (j := 2) rfl (nI_add _ _) (by decide) rfl ?_
                refine r_goto (tgt := 95) d_Mm_feed_241 (by decide) ?_
                refine r_lv (lv' := [(6, .int (nI (i + 1))), (5, .int (nI h)), (4, .int ((fdH f (flC f fl) (fa_fill (frG (flC f fl) (frM f (flC f fl) he mtt fz nx hh).1.2.2.1) (frM f (flC f fl) he mtt fz nx hh).1.2.2.1 108) ((fdB f (flC f fl) (fa_fill (frG (flC f fl) (frM f (flC f fl) he mtt fz nx hh).1.2.2.1) (frM f (flC f fl) he mtt fz nx hh).1.2.2.1 108) (fdA f (flC f fl) (ic, qn, 0, 0) 108) h).2.1 h) (fdB f (flC f fl) (fa_fill (frG (flC f fl) (frM f (flC f fl) he mtt fz nx hh).1.2.2.1) (frM f (flC f fl) he mtt fz nx hh).1.2.2.1 108) (fdA f (flC f fl) (ic, qn, 0, 0) 108) h) i).2.2.2)), (3, .int (nI (fdH f (flC f fl) (fa_fill (frG (flC f fl) (frM f (flC f fl) he mtt fz nx hh).1.2.2.1) (frM f (flC f fl) he mtt fz nx hh).1.2.2.1 108) ((fdB f (flC f fl) (fa_fill (frG (flC f fl) (frM f (flC f fl) he mtt fz nx hh).1.2.2.1) (frM f (flC f fl) he mtt fz nx hh).1.2.2.1 108) (fdA f (flC f fl) (ic, qn, 0, 0) 108) h).2.1 h) (fdB f (flC f fl) (fa_fill (frG (flC f fl) (frM f (flC f fl) he mtt fz nx hh).1.2.2.1) (frM f (flC f fl) he mtt fz nx hh).1.2.2.1 108) (fdA f (flC f fl) (ic, qn, 0, 0) 108) h) i).2.2.1)), (0, .ref m), (1, .ref b), (2, .int hh)]) [0, 3, 4, 5, 6, 7, 8] rfl ?_
                refine r_lvE (lv2 := [(6, .int (nI (i + 1))), (5, .int (nI h)), (4, .int ((fdH f (flC f fl) (fa_fill (frG (flC f fl) (frM f (flC f fl) he mtt fz nx hh).1.2.2.1) (frM f (flC f fl) he mtt fz nx hh).1.2.2.1 108) ((fdB f (flC f fl) (fa_fill (frG (flC f fl) (frM f (flC f fl) he mtt fz nx hh).1.2.2.1) (frM f (flC f fl) he mtt fz nx hh).1.2.2.1 108) (fdA f (flC f fl) (ic, qn, 0, 0) 108) h).2.1 h) (fdB f (flC f fl) (fa_fill (frG (flC f fl) (frM f (flC f fl) he mtt fz nx hh).1.2.2.1) (frM f (flC f fl) he mtt fz nx hh).1.2.2.1 108) (fdA f (flC f fl) (ic, qn, 0, 0) 108) h) (i + 1)).2.2.2)), (3, .int (nI (fdH f (flC f fl) (fa_fill (frG (flC f fl) (frM f (flC f fl) he mtt fz nx hh).1.2.2.1) (frM f (flC f fl) he mtt fz nx hh).1.2.2.1 108) ((fdB f (flC f fl) (fa_fill (frG (flC f fl) (frM f (flC f fl) he mtt fz nx hh).1.2.2.1) (frM f (flC f fl) he mtt fz nx hh).1.2.2.1 108) (fdA f (flC f fl) (ic, qn, 0, 0) 108) h).2.1 h) (fdB f (flC f fl) (fa_fill (frG (flC f fl) (frM f (flC f fl) he mtt fz nx hh).1.2.2.1) (frM f (flC f fl) he mtt fz nx hh).1.2.2.1 108) (fdA f (flC f fl) (ic, qn, 0, 0) 108) h) (i + 1)).2.2.1)), (0, .ref m), (1, .ref b), (2, .int hh)]) (by first | exact absurd c_192 c_216 | exact absurd c_216 c_192 | (rw [show (fdH f (flC f fl) (fa_fill (frG (flC f fl) (frM f (flC f fl) he mtt fz nx hh).1.2.2.1) (frM f (flC f fl) he mtt fz nx hh).1.2.2.1 108) ((fdB f (flC f fl) (fa_fill (frG (flC f fl) (frM f (flC f fl) he mtt fz nx hh).1.2.2.1) (frM f (flC f fl) he mtt fz nx hh).1.2.2.1 108) (fdA f (flC f fl) (ic, qn, 0, 0) 108) h).2.1 h) (fdB f (flC f fl) (fa_fill (frG (flC f fl) (frM f (flC f fl) he mtt fz nx hh).1.2.2.1) (frM f (flC f fl) he mtt fz nx hh).1.2.2.1 108) (fdA f (flC f fl) (ic, qn, 0, 0) 108) h) (i + 1)) = fdI f (flC f fl) (fa_fill (frG (flC f fl) (frM f (flC f fl) he mtt fz nx hh).1.2.2.1) (frM f (flC f fl) he mtt fz nx hh).1.2.2.1 108) ((fdB f (flC f fl) (fa_fill (frG (flC f fl) (frM f (flC f fl) he mtt fz nx hh).1.2.2.1) (frM f (flC f fl) he mtt fz nx hh).1.2.2.1 108) (fdA f (flC f fl) (ic, qn, 0, 0) 108) h).2.1 h) i (fdH f (flC f fl) (fa_fill (frG (flC f fl) (frM f (flC f fl) he mtt fz nx hh).1.2.2.1) (frM f (flC f fl) he mtt fz nx hh).1.2.2.1 108) ((fdB f (flC f fl) (fa_fill (frG (flC f fl) (frM f (flC f fl) he mtt fz nx hh).1.2.2.1) (frM f (flC f fl) he mtt fz nx hh).1.2.2.1 108) (fdA f (flC f fl) (ic, qn, 0, 0) 108) h).2.1 h) (fdB f (flC f fl) (fa_fill (frG (flC f fl) (frM f (flC f fl) he mtt fz nx hh).1.2.2.1) (frM f (flC f fl) he mtt fz nx hh).1.2.2.1 108) (fdA f (flC f fl) (ic, qn, 0, 0) 108) h) i) from rfl, hk] <;> rfl)) ?_
                refine r_cs (cs2 := [(m, .inr (12, [.int th, .ref mp, .int pt, .ref mf, .ref mh, .ref mn, .ref mt, .ref mz, .ref mc_, .ref mq, .ref mgr, .int cl, .int wa, .int co_, .int fi, .int bu, .int ho, .ref ml, .ref mi, .ref mr, .int lh, .int mg, .int wd, .int fpi, .int fal, .ref mm, .ref mu, .ref mk, .ref mx, .long po, .long de])), (b, .inl (1, 108, .inl f)), (mf, .inl (0, 108, .inl (flC f fl))), (mh, .inl (0, 108, .inl ((frM f (flC f fl) he mtt fz nx hh).1.1))), (mt, .inl (0, 108, .inl ((frM f (flC f fl) he mtt fz nx hh).1.2.1))), (mz, .inl (0, 108, .inl (fa_fill (frG (flC f fl) (frM f (flC f fl) he mtt fz nx hh).1.2.2.1) (frM f (flC f fl) he mtt fz nx hh).1.2.2.1 108))), (mn, .inl (0, 108, .inl ((frM f (flC f fl) he mtt fz nx hh).2))), (mc_, .inl (2, 108, .inl ((fdH f (flC f fl) (fa_fill (frG (flC f fl) (frM f (flC f fl) he mtt fz nx hh).1.2.2.1) (frM f (flC f fl) he mtt fz nx hh).1.2.2.1 108) ((fdB f (flC f fl) (fa_fill (frG (flC f fl) (frM f (flC f fl) he mtt fz nx hh).1.2.2.1) (frM f (flC f fl) he mtt fz nx hh).1.2.2.1 108) (fdA f (flC f fl) (ic, qn, 0, 0) 108) h).2.1 h) (fdB f (flC f fl) (fa_fill (frG (flC f fl) (frM f (flC f fl) he mtt fz nx hh).1.2.2.1) (frM f (flC f fl) he mtt fz nx hh).1.2.2.1 108) (fdA f (flC f fl) (ic, qn, 0, 0) 108) h) (i + 1)).1))), (mq, .inl (0, 108, .inl (fun k => nI ((fdH f (flC f fl) (fa_fill (frG (flC f fl) (frM f (flC f fl) he mtt fz nx hh).1.2.2.1) (frM f (flC f fl) he mtt fz nx hh).1.2.2.1 108) ((fdB f (flC f fl) (fa_fill (frG (flC f fl) (frM f (flC f fl) he mtt fz nx hh).1.2.2.1) (frM f (flC f fl) he mtt fz nx hh).1.2.2.1 108) (fdA f (flC f fl) (ic, qn, 0, 0) 108) h).2.1 h) (fdB f (flC f fl) (fa_fill (frG (flC f fl) (frM f (flC f fl) he mtt fz nx hh).1.2.2.1) (frM f (flC f fl) he mtt fz nx hh).1.2.2.1 108) (fdA f (flC f fl) (ic, qn, 0, 0) 108) h) (i + 1)).2.1 k))))]) (by first | exact absurd c_192 c_216 | exact absurd c_216 c_192 | (rw [show (fdH f (flC f fl) (fa_fill (frG (flC f fl) (frM f (flC f fl) he mtt fz nx hh).1.2.2.1) (frM f (flC f fl) he mtt fz nx hh).1.2.2.1 108) ((fdB f (flC f fl) (fa_fill (frG (flC f fl) (frM f (flC f fl) he mtt fz nx hh).1.2.2.1) (frM f (flC f fl) he mtt fz nx hh).1.2.2.1 108) (fdA f (flC f fl) (ic, qn, 0, 0) 108) h).2.1 h) (fdB f (flC f fl) (fa_fill (frG (flC f fl) (frM f (flC f fl) he mtt fz nx hh).1.2.2.1) (frM f (flC f fl) he mtt fz nx hh).1.2.2.1 108) (fdA f (flC f fl) (ic, qn, 0, 0) 108) h) (i + 1)) = fdI f (flC f fl) (fa_fill (frG (flC f fl) (frM f (flC f fl) he mtt fz nx hh).1.2.2.1) (frM f (flC f fl) he mtt fz nx hh).1.2.2.1 108) ((fdB f (flC f fl) (fa_fill (frG (flC f fl) (frM f (flC f fl) he mtt fz nx hh).1.2.2.1) (frM f (flC f fl) he mtt fz nx hh).1.2.2.1 108) (fdA f (flC f fl) (ic, qn, 0, 0) 108) h).2.1 h) i (fdH f (flC f fl) (fa_fill (frG (flC f fl) (frM f (flC f fl) he mtt fz nx hh).1.2.2.1) (frM f (flC f fl) he mtt fz nx hh).1.2.2.1 108) ((fdB f (flC f fl) (fa_fill (frG (flC f fl) (frM f (flC f fl) he mtt fz nx hh).1.2.2.1) (frM f (flC f fl) he mtt fz nx hh).1.2.2.1 108) (fdA f (flC f fl) (ic, qn, 0, 0) 108) h).2.1 h) (fdB f (flC f fl) (fa_fill (frG (flC f fl) (frM f (flC f fl) he mtt fz nx hh).1.2.2.1) (frM f (flC f fl) he mtt fz nx hh).1.2.2.1 108) (fdA f (flC f fl) (ic, qn, 0, 0) 108) h) i) from rfl, hk] <;> rfl)) ?_
                exact ih (i + 1) (by omega) (by omega)
              · exact absurd c_183 (by decide)
            · refine r_aload_n d_Mm_feed_131 rfl 5 rfl ?_
              refine r_get fs_Mm_17 d_Mm_feed_132 (q0 := 0) rfl rfl ?_
              refine r_iload d_Mm_feed_135 0 rfl ?_
              refine r_iald d_Mm_feed_137 (q0 := 2) rfl (vp_in_nI (by omega) (by omega)) (v := (flC f fl) o) (by rw [nI_clamp (by omega)]) ?_
              refine r_iconst d_Mm_feed_138 (v := (-1)) (by decide) ?_
              refine r_icmp_eq (tgt := 178) d_Mm_feed_139 (by decide) (fun c_139 => ?_) (fun c_139 => ?_)
              · have hk := hk0.trans (fdJ_0 (fun q => (fun (y : ¬ (fdH f (flC f fl) (fa_fill (frG (flC f fl) (frM f (flC f fl) he mtt fz nx hh).1.2.2.1) (frM f (flC f fl) he mtt fz nx hh).1.2.2.1 108) ((fdB f (flC f fl) (fa_fill (frG (flC f fl) (frM f (flC f fl) he mtt fz nx hh).1.2.2.1) (frM f (flC f fl) he mtt fz nx hh).1.2.2.1 108) (fdA f (flC f fl) (ic, qn, 0, 0) 108) h).2.1 h) (fdB f (flC f fl) (fa_fill (frG (flC f fl) (frM f (flC f fl) he mtt fz nx hh).1.2.2.1) (frM f (flC f fl) he mtt fz nx hh).1.2.2.1 108) (fdA f (flC f fl) (ic, qn, 0, 0) 108) h) i).1 o = 0 ∨ (flC f fl) o < 0 ∨ (fa_fill (frG (flC f fl) (frM f (flC f fl) he mtt fz nx hh).1.2.2.1) (frM f (flC f fl) he mtt fz nx hh).1.2.2.1 108) ((fdB f (flC f fl) (fa_fill (frG (flC f fl) (frM f (flC f fl) he mtt fz nx hh).1.2.2.1) (frM f (flC f fl) he mtt fz nx hh).1.2.2.1 108) (fdA f (flC f fl) (ic, qn, 0, 0) 108) h).2.1 h) < (fa_fill (frG (flC f fl) (frM f (flC f fl) he mtt fz nx hh).1.2.2.1) (frM f (flC f fl) he mtt fz nx hh).1.2.2.1 108) o) => y.elim (fun z => z (of_decide_eq_true q.1).1) (fun y => y.elim (fun z => (of_decide_eq_true q.1).2.1 z) (fun z => (of_decide_eq_true q.1).2.2 z))) (Or.inr (Or.inl ((vl_neg (vl_C f fl) hol).mpr c_139)))))
                refine r_iconst d_Mm_feed_178 (v := 0) (by decide) ?_
                refine r_istore (lv' := [(8, .int 0), (7, .int (nI o)), (6, .int (nI i)), (5, .int (nI h)), (4, .int ((fdH f (flC f fl) (fa_fill (frG (flC f fl) (frM f (flC f fl) he mtt fz nx hh).1.2.2.1) (frM f (flC f fl) he mtt fz nx hh).1.2.2.1 108) ((fdB f (flC f fl) (fa_fill (frG (flC f fl) (frM f (flC f fl) he mtt fz nx hh).1.2.2.1) (frM f (flC f fl) he mtt fz nx hh).1.2.2.1 108) (fdA f (flC f fl) (ic, qn, 0, 0) 108) h).2.1 h) (fdB f (flC f fl) (fa_fill (frG (flC f fl) (frM f (flC f fl) he mtt fz nx hh).1.2.2.1) (frM f (flC f fl) he mtt fz nx hh).1.2.2.1 108) (fdA f (flC f fl) (ic, qn, 0, 0) 108) h) i).2.2.2)), (3, .int (nI (fdH f (flC f fl) (fa_fill (frG (flC f fl) (frM f (flC f fl) he mtt fz nx hh).1.2.2.1) (frM f (flC f fl) he mtt fz nx hh).1.2.2.1 108) ((fdB f (flC f fl) (fa_fill (frG (flC f fl) (frM f (flC f fl) he mtt fz nx hh).1.2.2.1) (frM f (flC f fl) he mtt fz nx hh).1.2.2.1 108) (fdA f (flC f fl) (ic, qn, 0, 0) 108) h).2.1 h) (fdB f (flC f fl) (fa_fill (frG (flC f fl) (frM f (flC f fl) he mtt fz nx hh).1.2.2.1) (frM f (flC f fl) he mtt fz nx hh).1.2.2.1 108) (fdA f (flC f fl) (ic, qn, 0, 0) 108) h) i).2.2.1)), (0, .ref m), (1, .ref b), (2, .int hh)]) d_Mm_feed_179 (by decide) rfl ?_
                refine r_iload d_Mm_feed_181 0 rfl ?_
                refine r_if_eq (tgt := 238) d_Mm_feed_183 (by decide) (fun c_183 => ?_) (fun c_183 => ?_)
                · refine r_iinc (lv' := [(6, .int (nI (i + 1))), (8, .int 0), (7, .int (nI o)), (5, .int (nI h)), (4, .int ((fdH f (flC f fl) (fa_fill (frG (flC f fl) (frM f (flC f fl) he mtt fz nx hh).1.2.2.1) (frM f (flC f fl) he mtt fz nx hh).1.2.2.1 108) ((fdB f (flC f fl) (fa_fill (frG (flC f fl) (frM f (flC f fl) he mtt fz nx hh).1.2.2.1) (frM f (flC f fl) he mtt fz nx hh).1.2.2.1 108) (fdA f (flC f fl) (ic, qn, 0, 0) 108) h).2.1 h) (fdB f (flC f fl) (fa_fill (frG (flC f fl) (frM f (flC f fl) he mtt fz nx hh).1.2.2.1) (frM f (flC f fl) he mtt fz nx hh).1.2.2.1 108) (fdA f (flC f fl) (ic, qn, 0, 0) 108) h) i).2.2.2)), (3, .int (nI (fdH f (flC f fl) (fa_fill (frG (flC f fl) (frM f (flC f fl) he mtt fz nx hh).1.2.2.1) (frM f (flC f fl) he mtt fz nx hh).1.2.2.1 108) ((fdB f (flC f fl) (fa_fill (frG (flC f fl) (frM f (flC f fl) he mtt fz nx hh).1.2.2.1) (frM f (flC f fl) he mtt fz nx hh).1.2.2.1 108) (fdA f (flC f fl) (ic, qn, 0, 0) 108) h).2.1 h) (fdB f (flC f fl) (fa_fill (frG (flC f fl) (frM f (flC f fl) he mtt fz nx hh).1.2.2.1) (frM f (flC f fl) he mtt fz nx hh).1.2.2.1 108) (fdA f (flC f fl) (ic, qn, 0, 0) 108) h) i).2.2.1)), (0, .ref m), (1, .ref b), (2, .int hh)]) (v := nI (i + 1)) d_Mm_feed_238 (j := 2) rfl (nI_add _ _) (by decide) rfl ?_
                  refine r_goto (tgt := 95) d_Mm_feed_241 (by decide) ?_
                  refine r_lv (lv' := [(6, .int (nI (i + 1))), (5, .int (nI h)), (4, .int ((fdH f (flC f fl) (fa_fill (frG (flC f fl) (frM f (flC f fl) he mtt fz nx hh).1.2.2.1) (frM f (flC f fl) he mtt fz nx hh).1.2.2.1 108) ((fdB f (flC f fl) (fa_fill (frG (flC f fl) (frM f (flC f fl) he mtt fz nx hh).1.2.2.1) (frM f (flC f fl) he mtt fz nx hh).1.2.2.1 108) (fdA f (flC f fl) (ic, qn, 0, 0) 108) h).2.1 h) (fdB f (flC f fl) (fa_fill (frG (flC f fl) (frM f (flC f fl) he mtt fz nx hh).1.2.2.1) (frM f (flC f fl) he mtt fz nx hh).1.2.2.1 108) (fdA f (flC f fl) (ic, qn, 0, 0) 108) h) i).2.2.2)), (3, .int (nI (fdH f (flC f fl) (fa_fill (frG (flC f fl) (frM f (flC f fl) he mtt fz nx hh).1.2.2.1) (frM f (flC f fl) he mtt fz nx hh).1.2.2.1 108) ((fdB f (flC f fl) (fa_fill (frG (flC f fl) (frM f (flC f fl) he mtt fz nx hh).1.2.2.1) (frM f (flC f fl) he mtt fz nx hh).1.2.2.1 108) (fdA f (flC f fl) (ic, qn, 0, 0) 108) h).2.1 h) (fdB f (flC f fl) (fa_fill (frG (flC f fl) (frM f (flC f fl) he mtt fz nx hh).1.2.2.1) (frM f (flC f fl) he mtt fz nx hh).1.2.2.1 108) (fdA f (flC f fl) (ic, qn, 0, 0) 108) h) i).2.2.1)), (0, .ref m), (1, .ref b), (2, .int hh)]) [0, 3, 4, 5, 6, 7, 8] rfl ?_
                  refine r_lvE (lv2 := [(6, .int (nI (i + 1))), (5, .int (nI h)), (4, .int ((fdH f (flC f fl) (fa_fill (frG (flC f fl) (frM f (flC f fl) he mtt fz nx hh).1.2.2.1) (frM f (flC f fl) he mtt fz nx hh).1.2.2.1 108) ((fdB f (flC f fl) (fa_fill (frG (flC f fl) (frM f (flC f fl) he mtt fz nx hh).1.2.2.1) (frM f (flC f fl) he mtt fz nx hh).1.2.2.1 108) (fdA f (flC f fl) (ic, qn, 0, 0) 108) h).2.1 h) (fdB f (flC f fl) (fa_fill (frG (flC f fl) (frM f (flC f fl) he mtt fz nx hh).1.2.2.1) (frM f (flC f fl) he mtt fz nx hh).1.2.2.1 108) (fdA f (flC f fl) (ic, qn, 0, 0) 108) h) (i + 1)).2.2.2)), (3, .int (nI (fdH f (flC f fl) (fa_fill (frG (flC f fl) (frM f (flC f fl) he mtt fz nx hh).1.2.2.1) (frM f (flC f fl) he mtt fz nx hh).1.2.2.1 108) ((fdB f (flC f fl) (fa_fill (frG (flC f fl) (frM f (flC f fl) he mtt fz nx hh).1.2.2.1) (frM f (flC f fl) he mtt fz nx hh).1.2.2.1 108) (fdA f (flC f fl) (ic, qn, 0, 0) 108) h).2.1 h) (fdB f (flC f fl) (fa_fill (frG (flC f fl) (frM f (flC f fl) he mtt fz nx hh).1.2.2.1) (frM f (flC f fl) he mtt fz nx hh).1.2.2.1 108) (fdA f (flC f fl) (ic, qn, 0, 0) 108) h) (i + 1)).2.2.1)), (0, .ref m), (1, .ref b), (2, .int hh)]) (by first | exact absurd c_192 c_216 | exact absurd c_216 c_192 | (rw [show (fdH f (flC f fl) (fa_fill (frG (flC f fl) (frM f (flC f fl) he mtt fz nx hh).1.2.2.1) (frM f (flC f fl) he mtt fz nx hh).1.2.2.1 108) ((fdB f (flC f fl) (fa_fill (frG (flC f fl) (frM f (flC f fl) he mtt fz nx hh).1.2.2.1) (frM f (flC f fl) he mtt fz nx hh).1.2.2.1 108) (fdA f (flC f fl) (ic, qn, 0, 0) 108) h).2.1 h) (fdB f (flC f fl) (fa_fill (frG (flC f fl) (frM f (flC f fl) he mtt fz nx hh).1.2.2.1) (frM f (flC f fl) he mtt fz nx hh).1.2.2.1 108) (fdA f (flC f fl) (ic, qn, 0, 0) 108) h) (i + 1)) = fdI f (flC f fl) (fa_fill (frG (flC f fl) (frM f (flC f fl) he mtt fz nx hh).1.2.2.1) (frM f (flC f fl) he mtt fz nx hh).1.2.2.1 108) ((fdB f (flC f fl) (fa_fill (frG (flC f fl) (frM f (flC f fl) he mtt fz nx hh).1.2.2.1) (frM f (flC f fl) he mtt fz nx hh).1.2.2.1 108) (fdA f (flC f fl) (ic, qn, 0, 0) 108) h).2.1 h) i (fdH f (flC f fl) (fa_fill (frG (flC f fl) (frM f (flC f fl) he mtt fz nx hh).1.2.2.1) (frM f (flC f fl) he mtt fz nx hh).1.2.2.1 108) ((fdB f (flC f fl) (fa_fill (frG (flC f fl) (frM f (flC f fl) he mtt fz nx hh).1.2.2.1) (frM f (flC f fl) he mtt fz nx hh).1.2.2.1 108) (fdA f (flC f fl) (ic, qn, 0, 0) 108) h).2.1 h) (fdB f (flC f fl) (fa_fill (frG (flC f fl) (frM f (flC f fl) he mtt fz nx hh).1.2.2.1) (frM f (flC f fl) he mtt fz nx hh).1.2.2.1 108) (fdA f (flC f fl) (ic, qn, 0, 0) 108) h) i) from rfl, hk] <;> rfl)) ?_
                  refine r_cs (cs2 := [(m, .inr (12, [.int th, .ref mp, .int pt, .ref mf, .ref mh, .ref mn, .ref mt, .ref mz, .ref mc_, .ref mq, .ref mgr, .int cl, .int wa, .int co_, .int fi, .int bu, .int ho, .ref ml, .ref mi, .ref mr, .int lh, .int mg, .int wd, .int fpi, .int fal, .ref mm, .ref mu, .ref mk, .ref mx, .long po, .long de])), (b, .inl (1, 108, .inl f)), (mf, .inl (0, 108, .inl (flC f fl))), (mh, .inl (0, 108, .inl ((frM f (flC f fl) he mtt fz nx hh).1.1))), (mt, .inl (0, 108, .inl ((frM f (flC f fl) he mtt fz nx hh).1.2.1))), (mz, .inl (0, 108, .inl (fa_fill (frG (flC f fl) (frM f (flC f fl) he mtt fz nx hh).1.2.2.1) (frM f (flC f fl) he mtt fz nx hh).1.2.2.1 108))), (mn, .inl (0, 108, .inl ((frM f (flC f fl) he mtt fz nx hh).2))), (mc_, .inl (2, 108, .inl ((fdH f (flC f fl) (fa_fill (frG (flC f fl) (frM f (flC f fl) he mtt fz nx hh).1.2.2.1) (frM f (flC f fl) he mtt fz nx hh).1.2.2.1 108) ((fdB f (flC f fl) (fa_fill (frG (flC f fl) (frM f (flC f fl) he mtt fz nx hh).1.2.2.1) (frM f (flC f fl) he mtt fz nx hh).1.2.2.1 108) (fdA f (flC f fl) (ic, qn, 0, 0) 108) h).2.1 h) (fdB f (flC f fl) (fa_fill (frG (flC f fl) (frM f (flC f fl) he mtt fz nx hh).1.2.2.1) (frM f (flC f fl) he mtt fz nx hh).1.2.2.1 108) (fdA f (flC f fl) (ic, qn, 0, 0) 108) h) (i + 1)).1))), (mq, .inl (0, 108, .inl (fun k => nI ((fdH f (flC f fl) (fa_fill (frG (flC f fl) (frM f (flC f fl) he mtt fz nx hh).1.2.2.1) (frM f (flC f fl) he mtt fz nx hh).1.2.2.1 108) ((fdB f (flC f fl) (fa_fill (frG (flC f fl) (frM f (flC f fl) he mtt fz nx hh).1.2.2.1) (frM f (flC f fl) he mtt fz nx hh).1.2.2.1 108) (fdA f (flC f fl) (ic, qn, 0, 0) 108) h).2.1 h) (fdB f (flC f fl) (fa_fill (frG (flC f fl) (frM f (flC f fl) he mtt fz nx hh).1.2.2.1) (frM f (flC f fl) he mtt fz nx hh).1.2.2.1 108) (fdA f (flC f fl) (ic, qn, 0, 0) 108) h) (i + 1)).2.1 k))))]) (by first | exact absurd c_192 c_216 | exact absurd c_216 c_192 | (rw [show (fdH f (flC f fl) (fa_fill (frG (flC f fl) (frM f (flC f fl) he mtt fz nx hh).1.2.2.1) (frM f (flC f fl) he mtt fz nx hh).1.2.2.1 108) ((fdB f (flC f fl) (fa_fill (frG (flC f fl) (frM f (flC f fl) he mtt fz nx hh).1.2.2.1) (frM f (flC f fl) he mtt fz nx hh).1.2.2.1 108) (fdA f (flC f fl) (ic, qn, 0, 0) 108) h).2.1 h) (fdB f (flC f fl) (fa_fill (frG (flC f fl) (frM f (flC f fl) he mtt fz nx hh).1.2.2.1) (frM f (flC f fl) he mtt fz nx hh).1.2.2.1 108) (fdA f (flC f fl) (ic, qn, 0, 0) 108) h) (i + 1)) = fdI f (flC f fl) (fa_fill (frG (flC f fl) (frM f (flC f fl) he mtt fz nx hh).1.2.2.1) (frM f (flC f fl) he mtt fz nx hh).1.2.2.1 108) ((fdB f (flC f fl) (fa_fill (frG (flC f fl) (frM f (flC f fl) he mtt fz nx hh).1.2.2.1) (frM f (flC f fl) he mtt fz nx hh).1.2.2.1 108) (fdA f (flC f fl) (ic, qn, 0, 0) 108) h).2.1 h) i (fdH f (flC f fl) (fa_fill (frG (flC f fl) (frM f (flC f fl) he mtt fz nx hh).1.2.2.1) (frM f (flC f fl) he mtt fz nx hh).1.2.2.1 108) ((fdB f (flC f fl) (fa_fill (frG (flC f fl) (frM f (flC f fl) he mtt fz nx hh).1.2.2.1) (frM f (flC f fl) he mtt fz nx hh).1.2.2.1 108) (fdA f (flC f fl) (ic, qn, 0, 0) 108) h).2.1 h) (fdB f (flC f fl) (fa_fill (frG (flC f fl) (frM f (flC f fl) he mtt fz nx hh).1.2.2.1) (frM f (flC f fl) he mtt fz nx hh).1.2.2.1 108) (fdA f (flC f fl) (ic, qn, 0, 0) 108) h) i) from rfl, hk] <;> rfl)) ?_
                  exact ih (i + 1) (by omega) (by omega)
                · exact absurd c_183 (by decide)
              · refine r_aload_n d_Mm_feed_142 rfl 5 rfl ?_
                refine r_get fs_Mm_33 d_Mm_feed_143 (q0 := 0) rfl rfl ?_
                refine r_iload d_Mm_feed_146 0 rfl ?_
                refine r_zald d_Mm_feed_148 (q0 := 7) rfl (vp_in_nI (by omega) (by omega)) (v := ((fdH f (flC f fl) (fa_fill (frG (flC f fl) (frM f (flC f fl) he mtt fz nx hh).1.2.2.1) (frM f (flC f fl) he mtt fz nx hh).1.2.2.1 108) ((fdB f (flC f fl) (fa_fill (frG (flC f fl) (frM f (flC f fl) he mtt fz nx hh).1.2.2.1) (frM f (flC f fl) he mtt fz nx hh).1.2.2.1 108) (fdA f (flC f fl) (ic, qn, 0, 0) 108) h).2.1 h) (fdB f (flC f fl) (fa_fill (frG (flC f fl) (frM f (flC f fl) he mtt fz nx hh).1.2.2.1) (frM f (flC f fl) he mtt fz nx hh).1.2.2.1 108) (fdA f (flC f fl) (ic, qn, 0, 0) 108) h) i).1) o) (by rw [nI_clamp (by omega)]) ?_
                refine r_if_ne (tgt := 178) d_Mm_feed_149 (by decide) (fun c_149 => ?_) (fun c_149 => ?_)
                · have hk := hk0.trans (fdJ_0 (fun q => (fun (y : ¬ (fdH f (flC f fl) (fa_fill (frG (flC f fl) (frM f (flC f fl) he mtt fz nx hh).1.2.2.1) (frM f (flC f fl) he mtt fz nx hh).1.2.2.1 108) ((fdB f (flC f fl) (fa_fill (frG (flC f fl) (frM f (flC f fl) he mtt fz nx hh).1.2.2.1) (frM f (flC f fl) he mtt fz nx hh).1.2.2.1 108) (fdA f (flC f fl) (ic, qn, 0, 0) 108) h).2.1 h) (fdB f (flC f fl) (fa_fill (frG (flC f fl) (frM f (flC f fl) he mtt fz nx hh).1.2.2.1) (frM f (flC f fl) he mtt fz nx hh).1.2.2.1 108) (fdA f (flC f fl) (ic, qn, 0, 0) 108) h) i).1 o = 0 ∨ (flC f fl) o < 0 ∨ (fa_fill (frG (flC f fl) (frM f (flC f fl) he mtt fz nx hh).1.2.2.1) (frM f (flC f fl) he mtt fz nx hh).1.2.2.1 108) ((fdB f (flC f fl) (fa_fill (frG (flC f fl) (frM f (flC f fl) he mtt fz nx hh).1.2.2.1) (frM f (flC f fl) he mtt fz nx hh).1.2.2.1 108) (fdA f (flC f fl) (ic, qn, 0, 0) 108) h).2.1 h) < (fa_fill (frG (flC f fl) (frM f (flC f fl) he mtt fz nx hh).1.2.2.1) (frM f (flC f fl) he mtt fz nx hh).1.2.2.1 108) o) => y.elim (fun z => z (of_decide_eq_true q.1).1) (fun y => y.elim (fun z => (of_decide_eq_true q.1).2.1 z) (fun z => (of_decide_eq_true q.1).2.2 z))) (Or.inl c_149)))
                  refine r_iconst d_Mm_feed_178 (v := 0) (by decide) ?_
                  refine r_istore (lv' := [(8, .int 0), (7, .int (nI o)), (6, .int (nI i)), (5, .int (nI h)), (4, .int ((fdH f (flC f fl) (fa_fill (frG (flC f fl) (frM f (flC f fl) he mtt fz nx hh).1.2.2.1) (frM f (flC f fl) he mtt fz nx hh).1.2.2.1 108) ((fdB f (flC f fl) (fa_fill (frG (flC f fl) (frM f (flC f fl) he mtt fz nx hh).1.2.2.1) (frM f (flC f fl) he mtt fz nx hh).1.2.2.1 108) (fdA f (flC f fl) (ic, qn, 0, 0) 108) h).2.1 h) (fdB f (flC f fl) (fa_fill (frG (flC f fl) (frM f (flC f fl) he mtt fz nx hh).1.2.2.1) (frM f (flC f fl) he mtt fz nx hh).1.2.2.1 108) (fdA f (flC f fl) (ic, qn, 0, 0) 108) h) i).2.2.2)), (3, .int (nI (fdH f (flC f fl) (fa_fill (frG (flC f fl) (frM f (flC f fl) he mtt fz nx hh).1.2.2.1) (frM f (flC f fl) he mtt fz nx hh).1.2.2.1 108) ((fdB f (flC f fl) (fa_fill (frG (flC f fl) (frM f (flC f fl) he mtt fz nx hh).1.2.2.1) (frM f (flC f fl) he mtt fz nx hh).1.2.2.1 108) (fdA f (flC f fl) (ic, qn, 0, 0) 108) h).2.1 h) (fdB f (flC f fl) (fa_fill (frG (flC f fl) (frM f (flC f fl) he mtt fz nx hh).1.2.2.1) (frM f (flC f fl) he mtt fz nx hh).1.2.2.1 108) (fdA f (flC f fl) (ic, qn, 0, 0) 108) h) i).2.2.1)), (0, .ref m), (1, .ref b), (2, .int hh)]) d_Mm_feed_179 (by decide) rfl ?_
                  refine r_iload d_Mm_feed_181 0 rfl ?_
                  refine r_if_eq (tgt := 238) d_Mm_feed_183 (by decide) (fun c_183 => ?_) (fun c_183 => ?_)
                  · refine r_iinc (lv' := [(6, .int (nI (i + 1))), (8, .int 0), (7, .int (nI o)), (5, .int (nI h)), (4, .int ((fdH f (flC f fl) (fa_fill (frG (flC f fl) (frM f (flC f fl) he mtt fz nx hh).1.2.2.1) (frM f (flC f fl) he mtt fz nx hh).1.2.2.1 108) ((fdB f (flC f fl) (fa_fill (frG (flC f fl) (frM f (flC f fl) he mtt fz nx hh).1.2.2.1) (frM f (flC f fl) he mtt fz nx hh).1.2.2.1 108) (fdA f (flC f fl) (ic, qn, 0, 0) 108) h).2.1 h) (fdB f (flC f fl) (fa_fill (frG (flC f fl) (frM f (flC f fl) he mtt fz nx hh).1.2.2.1) (frM f (flC f fl) he mtt fz nx hh).1.2.2.1 108) (fdA f (flC f fl) (ic, qn, 0, 0) 108) h) i).2.2.2)), (3, .int (nI (fdH f (flC f fl) (fa_fill (frG (flC f fl) (frM f (flC f fl) he mtt fz nx hh).1.2.2.1) (frM f (flC f fl) he mtt fz nx hh).1.2.2.1 108) ((fdB f (flC f fl) (fa_fill (frG (flC f fl) (frM f (flC f fl) he mtt fz nx hh).1.2.2.1) (frM f (flC f fl) he mtt fz nx hh).1.2.2.1 108) (fdA f (flC f fl) (ic, qn, 0, 0) 108) h).2.1 h) (fdB f (flC f fl) (fa_fill (frG (flC f fl) (frM f (flC f fl) he mtt fz nx hh).1.2.2.1) (frM f (flC f fl) he mtt fz nx hh).1.2.2.1 108) (fdA f (flC f fl) (ic, qn, 0, 0) 108) h) i).2.2.1)), (0, .ref m), (1, .ref b), (2, .int hh)]) (v := nI (i + 1)) d_Mm_feed_238 (j := 2) rfl (nI_add _ _) (by decide) rfl ?_
                    refine r_goto (tgt := 95) d_Mm_feed_241 (by decide) ?_
                    refine r_lv (lv' := [(6, .int (nI (i + 1))), (5, .int (nI h)), (4, .int ((fdH f (flC f fl) (fa_fill (frG (flC f fl) (frM f (flC f fl) he mtt fz nx hh).1.2.2.1) (frM f (flC f fl) he mtt fz nx hh).1.2.2.1 108) ((fdB f (flC f fl) (fa_fill (frG (flC f fl) (frM f (flC f fl) he mtt fz nx hh).1.2.2.1) (frM f (flC f fl) he mtt fz nx hh).1.2.2.1 108) (fdA f (flC f fl) (ic, qn, 0, 0) 108) h).2.1 h) (fdB f (flC f fl) (fa_fill (frG (flC f fl) (frM f (flC f fl) he mtt fz nx hh).1.2.2.1) (frM f (flC f fl) he mtt fz nx hh).1.2.2.1 108) (fdA f (flC f fl) (ic, qn, 0, 0) 108) h) i).2.2.2)), (3, .int (nI (fdH f (flC f fl) (fa_fill (frG (flC f fl) (frM f (flC f fl) he mtt fz nx hh).1.2.2.1) (frM f (flC f fl) he mtt fz nx hh).1.2.2.1 108) ((fdB f (flC f fl) (fa_fill (frG (flC f fl) (frM f (flC f fl) he mtt fz nx hh).1.2.2.1) (frM f (flC f fl) he mtt fz nx hh).1.2.2.1 108) (fdA f (flC f fl) (ic, qn, 0, 0) 108) h).2.1 h) (fdB f (flC f fl) (fa_fill (frG (flC f fl) (frM f (flC f fl) he mtt fz nx hh).1.2.2.1) (frM f (flC f fl) he mtt fz nx hh).1.2.2.1 108) (fdA f (flC f fl) (ic, qn, 0, 0) 108) h) i).2.2.1)), (0, .ref m), (1, .ref b), (2, .int hh)]) [0, 3, 4, 5, 6, 7, 8] rfl ?_
                    refine r_lvE (lv2 := [(6, .int (nI (i + 1))), (5, .int (nI h)), (4, .int ((fdH f (flC f fl) (fa_fill (frG (flC f fl) (frM f (flC f fl) he mtt fz nx hh).1.2.2.1) (frM f (flC f fl) he mtt fz nx hh).1.2.2.1 108) ((fdB f (flC f fl) (fa_fill (frG (flC f fl) (frM f (flC f fl) he mtt fz nx hh).1.2.2.1) (frM f (flC f fl) he mtt fz nx hh).1.2.2.1 108) (fdA f (flC f fl) (ic, qn, 0, 0) 108) h).2.1 h) (fdB f (flC f fl) (fa_fill (frG (flC f fl) (frM f (flC f fl) he mtt fz nx hh).1.2.2.1) (frM f (flC f fl) he mtt fz nx hh).1.2.2.1 108) (fdA f (flC f fl) (ic, qn, 0, 0) 108) h) (i + 1)).2.2.2)), (3, .int (nI (fdH f (flC f fl) (fa_fill (frG (flC f fl) (frM f (flC f fl) he mtt fz nx hh).1.2.2.1) (frM f (flC f fl) he mtt fz nx hh).1.2.2.1 108) ((fdB f (flC f fl) (fa_fill (frG (flC f fl) (frM f (flC f fl) he mtt fz nx hh).1.2.2.1) (frM f (flC f fl) he mtt fz nx hh).1.2.2.1 108) (fdA f (flC f fl) (ic, qn, 0, 0) 108) h).2.1 h) (fdB f (flC f fl) (fa_fill (frG (flC f fl) (frM f (flC f fl) he mtt fz nx hh).1.2.2.1) (frM f (flC f fl) he mtt fz nx hh).1.2.2.1 108) (fdA f (flC f fl) (ic, qn, 0, 0) 108) h) (i + 1)).2.2.1)), (0, .ref m), (1, .ref b), (2, .int hh)]) (by first | exact absurd c_192 c_216 | exact absurd c_216 c_192 | (rw [show (fdH f (flC f fl) (fa_fill (frG (flC f fl) (frM f (flC f fl) he mtt fz nx hh).1.2.2.1) (frM f (flC f fl) he mtt fz nx hh).1.2.2.1 108) ((fdB f (flC f fl) (fa_fill (frG (flC f fl) (frM f (flC f fl) he mtt fz nx hh).1.2.2.1) (frM f (flC f fl) he mtt fz nx hh).1.2.2.1 108) (fdA f (flC f fl) (ic, qn, 0, 0) 108) h).2.1 h) (fdB f (flC f fl) (fa_fill (frG (flC f fl) (frM f (flC f fl) he mtt fz nx hh).1.2.2.1) (frM f (flC f fl) he mtt fz nx hh).1.2.2.1 108) (fdA f (flC f fl) (ic, qn, 0, 0) 108) h) (i + 1)) = fdI f (flC f fl) (fa_fill (frG (flC f fl) (frM f (flC f fl) he mtt fz nx hh).1.2.2.1) (frM f (flC f fl) he mtt fz nx hh).1.2.2.1 108) ((fdB f (flC f fl) (fa_fill (frG (flC f fl) (frM f (flC f fl) he mtt fz nx hh).1.2.2.1) (frM f (flC f fl) he mtt fz nx hh).1.2.2.1 108) (fdA f (flC f fl) (ic, qn, 0, 0) 108) h).2.1 h) i (fdH f (flC f fl) (fa_fill (frG (flC f fl) (frM f (flC f fl) he mtt fz nx hh).1.2.2.1) (frM f (flC f fl) he mtt fz nx hh).1.2.2.1 108) ((fdB f (flC f fl) (fa_fill (frG (flC f fl) (frM f (flC f fl) he mtt fz nx hh).1.2.2.1) (frM f (flC f fl) he mtt fz nx hh).1.2.2.1 108) (fdA f (flC f fl) (ic, qn, 0, 0) 108) h).2.1 h) (fdB f (flC f fl) (fa_fill (frG (flC f fl) (frM f (flC f fl) he mtt fz nx hh).1.2.2.1) (frM f (flC f fl) he mtt fz nx hh).1.2.2.1 108) (fdA f (flC f fl) (ic, qn, 0, 0) 108) h) i) from rfl, hk] <;> rfl)) ?_
                    refine r_cs (cs2 := [(m, .inr (12, [.int th, .ref mp, .int pt, .ref mf, .ref mh, .ref mn, .ref mt, .ref mz, .ref mc_, .ref mq, .ref mgr, .int cl, .int wa, .int co_, .int fi, .int bu, .int ho, .ref ml, .ref mi, .ref mr, .int lh, .int mg, .int wd, .int fpi, .int fal, .ref mm, .ref mu, .ref mk, .ref mx, .long po, .long de])), (b, .inl (1, 108, .inl f)), (mf, .inl (0, 108, .inl (flC f fl))), (mh, .inl (0, 108, .inl ((frM f (flC f fl) he mtt fz nx hh).1.1))), (mt, .inl (0, 108, .inl ((frM f (flC f fl) he mtt fz nx hh).1.2.1))), (mz, .inl (0, 108, .inl (fa_fill (frG (flC f fl) (frM f (flC f fl) he mtt fz nx hh).1.2.2.1) (frM f (flC f fl) he mtt fz nx hh).1.2.2.1 108))), (mn, .inl (0, 108, .inl ((frM f (flC f fl) he mtt fz nx hh).2))), (mc_, .inl (2, 108, .inl ((fdH f (flC f fl) (fa_fill (frG (flC f fl) (frM f (flC f fl) he mtt fz nx hh).1.2.2.1) (frM f (flC f fl) he mtt fz nx hh).1.2.2.1 108) ((fdB f (flC f fl) (fa_fill (frG (flC f fl) (frM f (flC f fl) he mtt fz nx hh).1.2.2.1) (frM f (flC f fl) he mtt fz nx hh).1.2.2.1 108) (fdA f (flC f fl) (ic, qn, 0, 0) 108) h).2.1 h) (fdB f (flC f fl) (fa_fill (frG (flC f fl) (frM f (flC f fl) he mtt fz nx hh).1.2.2.1) (frM f (flC f fl) he mtt fz nx hh).1.2.2.1 108) (fdA f (flC f fl) (ic, qn, 0, 0) 108) h) (i + 1)).1))), (mq, .inl (0, 108, .inl (fun k => nI ((fdH f (flC f fl) (fa_fill (frG (flC f fl) (frM f (flC f fl) he mtt fz nx hh).1.2.2.1) (frM f (flC f fl) he mtt fz nx hh).1.2.2.1 108) ((fdB f (flC f fl) (fa_fill (frG (flC f fl) (frM f (flC f fl) he mtt fz nx hh).1.2.2.1) (frM f (flC f fl) he mtt fz nx hh).1.2.2.1 108) (fdA f (flC f fl) (ic, qn, 0, 0) 108) h).2.1 h) (fdB f (flC f fl) (fa_fill (frG (flC f fl) (frM f (flC f fl) he mtt fz nx hh).1.2.2.1) (frM f (flC f fl) he mtt fz nx hh).1.2.2.1 108) (fdA f (flC f fl) (ic, qn, 0, 0) 108) h) (i + 1)).2.1 k))))]) (by first | exact absurd c_192 c_216 | exact absurd c_216 c_192 | (rw [show (fdH f (flC f fl) (fa_fill (frG (flC f fl) (frM f (flC f fl) he mtt fz nx hh).1.2.2.1) (frM f (flC f fl) he mtt fz nx hh).1.2.2.1 108) ((fdB f (flC f fl) (fa_fill (frG (flC f fl) (frM f (flC f fl) he mtt fz nx hh).1.2.2.1) (frM f (flC f fl) he mtt fz nx hh).1.2.2.1 108) (fdA f (flC f fl) (ic, qn, 0, 0) 108) h).2.1 h) (fdB f (flC f fl) (fa_fill (frG (flC f fl) (frM f (flC f fl) he mtt fz nx hh).1.2.2.1) (frM f (flC f fl) he mtt fz nx hh).1.2.2.1 108) (fdA f (flC f fl) (ic, qn, 0, 0) 108) h) (i + 1)) = fdI f (flC f fl) (fa_fill (frG (flC f fl) (frM f (flC f fl) he mtt fz nx hh).1.2.2.1) (frM f (flC f fl) he mtt fz nx hh).1.2.2.1 108) ((fdB f (flC f fl) (fa_fill (frG (flC f fl) (frM f (flC f fl) he mtt fz nx hh).1.2.2.1) (frM f (flC f fl) he mtt fz nx hh).1.2.2.1 108) (fdA f (flC f fl) (ic, qn, 0, 0) 108) h).2.1 h) i (fdH f (flC f fl) (fa_fill (frG (flC f fl) (frM f (flC f fl) he mtt fz nx hh).1.2.2.1) (frM f (flC f fl) he mtt fz nx hh).1.2.2.1 108) ((fdB f (flC f fl) (fa_fill (frG (flC f fl) (frM f (flC f fl) he mtt fz nx hh).1.2.2.1) (frM f (flC f fl) he mtt fz nx hh).1.2.2.1 108) (fdA f (flC f fl) (ic, qn, 0, 0) 108) h).2.1 h) (fdB f (flC f fl) (fa_fill (frG (flC f fl) (frM f (flC f fl) he mtt fz nx hh).1.2.2.1) (frM f (flC f fl) he mtt fz nx hh).1.2.2.1 108) (fdA f (flC f fl) (ic, qn, 0, 0) 108) h) i) from rfl, hk] <;> rfl)) ?_
                    exact ih (i + 1) (by omega) (by omega)
                  · exact absurd c_183 (by decide)
                · refine r_aload_n d_Mm_feed_152 rfl 5 rfl ?_
                  refine r_get fs_Mm_30 d_Mm_feed_153 (q0 := 0) rfl rfl ?_
                  refine r_iload d_Mm_feed_156 0 rfl ?_
                  refine r_iald d_Mm_feed_158 (q0 := 5) rfl (vp_in_nI (by omega) (by omega)) (v := (fa_fill (frG (flC f fl) (frM f (flC f fl) he mtt fz nx hh).1.2.2.1) (frM f (flC f fl) he mtt fz nx hh).1.2.2.1 108) o) (by rw [nI_clamp (by omega)]) ?_
                  refine r_aload_n d_Mm_feed_159 rfl 5 rfl ?_
                  refine r_get fs_Mm_30 d_Mm_feed_160 (q0 := 0) rfl rfl ?_
                  refine r_aload_n d_Mm_feed_163 rfl 5 rfl ?_
                  refine r_get fs_Mm_37 d_Mm_feed_164 (q0 := 0) rfl rfl ?_
                  refine r_iload d_Mm_feed_167 2 rfl ?_
                  refine r_iald d_Mm_feed_169 (q0 := 8) rfl (vp_in_nI (by omega) (by omega)) (v := nI ((fdB f (flC f fl) (fa_fill (frG (flC f fl) (frM f (flC f fl) he mtt fz nx hh).1.2.2.1) (frM f (flC f fl) he mtt fz nx hh).1.2.2.1 108) (fdA f (flC f fl) (ic, qn, 0, 0) 108) h).2.1 h)) (by rw [nI_clamp (by omega)]; exact congrArg nI hqq.1) ?_
                  refine r_iald d_Mm_feed_170 (q0 := 5) rfl (vp_in_nI (by omega) (by omega)) (v := (fa_fill (frG (flC f fl) (frM f (flC f fl) he mtt fz nx hh).1.2.2.1) (frM f (flC f fl) he mtt fz nx hh).1.2.2.1 108) ((fdB f (flC f fl) (fa_fill (frG (flC f fl) (frM f (flC f fl) he mtt fz nx hh).1.2.2.1) (frM f (flC f fl) he mtt fz nx hh).1.2.2.1 108) (fdA f (flC f fl) (ic, qn, 0, 0) 108) h).2.1 h)) (by rw [nI_clamp (by omega)]) ?_
                  refine r_icmp_gt (tgt := 178) d_Mm_feed_171 (by decide) (fun c_171 => ?_) (fun c_171 => ?_)
                  · have hk := hk0.trans (fdJ_0 (fun q => (fun (y : ¬ (fdH f (flC f fl) (fa_fill (frG (flC f fl) (frM f (flC f fl) he mtt fz nx hh).1.2.2.1) (frM f (flC f fl) he mtt fz nx hh).1.2.2.1 108) ((fdB f (flC f fl) (fa_fill (frG (flC f fl) (frM f (flC f fl) he mtt fz nx hh).1.2.2.1) (frM f (flC f fl) he mtt fz nx hh).1.2.2.1 108) (fdA f (flC f fl) (ic, qn, 0, 0) 108) h).2.1 h) (fdB f (flC f fl) (fa_fill (frG (flC f fl) (frM f (flC f fl) he mtt fz nx hh).1.2.2.1) (frM f (flC f fl) he mtt fz nx hh).1.2.2.1 108) (fdA f (flC f fl) (ic, qn, 0, 0) 108) h) i).1 o = 0 ∨ (flC f fl) o < 0 ∨ (fa_fill (frG (flC f fl) (frM f (flC f fl) he mtt fz nx hh).1.2.2.1) (frM f (flC f fl) he mtt fz nx hh).1.2.2.1 108) ((fdB f (flC f fl) (fa_fill (frG (flC f fl) (frM f (flC f fl) he mtt fz nx hh).1.2.2.1) (frM f (flC f fl) he mtt fz nx hh).1.2.2.1 108) (fdA f (flC f fl) (ic, qn, 0, 0) 108) h).2.1 h) < (fa_fill (frG (flC f fl) (frM f (flC f fl) he mtt fz nx hh).1.2.2.1) (frM f (flC f fl) he mtt fz nx hh).1.2.2.1 108) o) => y.elim (fun z => z (of_decide_eq_true q.1).1) (fun y => y.elim (fun z => (of_decide_eq_true q.1).2.1 z) (fun z => (of_decide_eq_true q.1).2.2 z))) (Or.inr (Or.inr c_171))))
                    refine r_iconst d_Mm_feed_178 (v := 0) (by decide) ?_
                    refine r_istore (lv' := [(8, .int 0), (7, .int (nI o)), (6, .int (nI i)), (5, .int (nI h)), (4, .int ((fdH f (flC f fl) (fa_fill (frG (flC f fl) (frM f (flC f fl) he mtt fz nx hh).1.2.2.1) (frM f (flC f fl) he mtt fz nx hh).1.2.2.1 108) ((fdB f (flC f fl) (fa_fill (frG (flC f fl) (frM f (flC f fl) he mtt fz nx hh).1.2.2.1) (frM f (flC f fl) he mtt fz nx hh).1.2.2.1 108) (fdA f (flC f fl) (ic, qn, 0, 0) 108) h).2.1 h) (fdB f (flC f fl) (fa_fill (frG (flC f fl) (frM f (flC f fl) he mtt fz nx hh).1.2.2.1) (frM f (flC f fl) he mtt fz nx hh).1.2.2.1 108) (fdA f (flC f fl) (ic, qn, 0, 0) 108) h) i).2.2.2)), (3, .int (nI (fdH f (flC f fl) (fa_fill (frG (flC f fl) (frM f (flC f fl) he mtt fz nx hh).1.2.2.1) (frM f (flC f fl) he mtt fz nx hh).1.2.2.1 108) ((fdB f (flC f fl) (fa_fill (frG (flC f fl) (frM f (flC f fl) he mtt fz nx hh).1.2.2.1) (frM f (flC f fl) he mtt fz nx hh).1.2.2.1 108) (fdA f (flC f fl) (ic, qn, 0, 0) 108) h).2.1 h) (fdB f (flC f fl) (fa_fill (frG (flC f fl) (frM f (flC f fl) he mtt fz nx hh).1.2.2.1) (frM f (flC f fl) he mtt fz nx hh).1.2.2.1 108) (fdA f (flC f fl) (ic, qn, 0, 0) 108) h) i).2.2.1)), (0, .ref m), (1, .ref b), (2, .int hh)]) d_Mm_feed_179 (by decide) rfl ?_
                    refine r_iload d_Mm_feed_181 0 rfl ?_
                    refine r_if_eq (tgt := 238) d_Mm_feed_183 (by decide) (fun c_183 => ?_) (fun c_183 => ?_)
                    · refine r_iinc (lv' := [(6, .int (nI (i + 1))), (8, .int 0), (7, .int (nI o)), (5, .int (nI h)), (4, .int ((fdH f (flC f fl) (fa_fill (frG (flC f fl) (frM f (flC f fl) he mtt fz nx hh).1.2.2.1) (frM f (flC f fl) he mtt fz nx hh).1.2.2.1 108) ((fdB f (flC f fl) (fa_fill (frG (flC f fl) (frM f (flC f fl) he mtt fz nx hh).1.2.2.1) (frM f (flC f fl) he mtt fz nx hh).1.2.2.1 108) (fdA f (flC f fl) (ic, qn, 0, 0) 108) h).2.1 h) (fdB f (flC f fl) (fa_fill (frG (flC f fl) (frM f (flC f fl) he mtt fz nx hh).1.2.2.1) (frM f (flC f fl) he mtt fz nx hh).1.2.2.1 108) (fdA f (flC f fl) (ic, qn, 0, 0) 108) h) i).2.2.2)), (3, .int (nI (fdH f (flC f fl) (fa_fill (frG (flC f fl) (frM f (flC f fl) he mtt fz nx hh).1.2.2.1) (frM f (flC f fl) he mtt fz nx hh).1.2.2.1 108) ((fdB f (flC f fl) (fa_fill (frG (flC f fl) (frM f (flC f fl) he mtt fz nx hh).1.2.2.1) (frM f (flC f fl) he mtt fz nx hh).1.2.2.1 108) (fdA f (flC f fl) (ic, qn, 0, 0) 108) h).2.1 h) (fdB f (flC f fl) (fa_fill (frG (flC f fl) (frM f (flC f fl) he mtt fz nx hh).1.2.2.1) (frM f (flC f fl) he mtt fz nx hh).1.2.2.1 108) (fdA f (flC f fl) (ic, qn, 0, 0) 108) h) i).2.2.1)), (0, .ref m), (1, .ref b), (2, .int hh)]) (v := nI (i + 1)) d_Mm_feed_238 (j := 2) rfl (nI_add _ _) (by decide) rfl ?_
                      refine r_goto (tgt := 95) d_Mm_feed_241 (by decide) ?_
                      refine r_lv (lv' := [(6, .int (nI (i + 1))), (5, .int (nI h)), (4, .int ((fdH f (flC f fl) (fa_fill (frG (flC f fl) (frM f (flC f fl) he mtt fz nx hh).1.2.2.1) (frM f (flC f fl) he mtt fz nx hh).1.2.2.1 108) ((fdB f (flC f fl) (fa_fill (frG (flC f fl) (frM f (flC f fl) he mtt fz nx hh).1.2.2.1) (frM f (flC f fl) he mtt fz nx hh).1.2.2.1 108) (fdA f (flC f fl) (ic, qn, 0, 0) 108) h).2.1 h) (fdB f (flC f fl) (fa_fill (frG (flC f fl) (frM f (flC f fl) he mtt fz nx hh).1.2.2.1) (frM f (flC f fl) he mtt fz nx hh).1.2.2.1 108) (fdA f (flC f fl) (ic, qn, 0, 0) 108) h) i).2.2.2)), (3, .int (nI (fdH f (flC f fl) (fa_fill (frG (flC f fl) (frM f (flC f fl) he mtt fz nx hh).1.2.2.1) (frM f (flC f fl) he mtt fz nx hh).1.2.2.1 108) ((fdB f (flC f fl) (fa_fill (frG (flC f fl) (frM f (flC f fl) he mtt fz nx hh).1.2.2.1) (frM f (flC f fl) he mtt fz nx hh).1.2.2.1 108) (fdA f (flC f fl) (ic, qn, 0, 0) 108) h).2.1 h) (fdB f (flC f fl) (fa_fill (frG (flC f fl) (frM f (flC f fl) he mtt fz nx hh).1.2.2.1) (frM f (flC f fl) he mtt fz nx hh).1.2.2.1 108) (fdA f (flC f fl) (ic, qn, 0, 0) 108) h) i).2.2.1)), (0, .ref m), (1, .ref b), (2, .int hh)]) [0, 3, 4, 5, 6, 7, 8] rfl ?_
                      refine r_lvE (lv2 := [(6, .int (nI (i + 1))), (5, .int (nI h)), (4, .int ((fdH f (flC f fl) (fa_fill (frG (flC f fl) (frM f (flC f fl) he mtt fz nx hh).1.2.2.1) (frM f (flC f fl) he mtt fz nx hh).1.2.2.1 108) ((fdB f (flC f fl) (fa_fill (frG (flC f fl) (frM f (flC f fl) he mtt fz nx hh).1.2.2.1) (frM f (flC f fl) he mtt fz nx hh).1.2.2.1 108) (fdA f (flC f fl) (ic, qn, 0, 0) 108) h).2.1 h) (fdB f (flC f fl) (fa_fill (frG (flC f fl) (frM f (flC f fl) he mtt fz nx hh).1.2.2.1) (frM f (flC f fl) he mtt fz nx hh).1.2.2.1 108) (fdA f (flC f fl) (ic, qn, 0, 0) 108) h) (i + 1)).2.2.2)), (3, .int (nI (fdH f (flC f fl) (fa_fill (frG (flC f fl) (frM f (flC f fl) he mtt fz nx hh).1.2.2.1) (frM f (flC f fl) he mtt fz nx hh).1.2.2.1 108) ((fdB f (flC f fl) (fa_fill (frG (flC f fl) (frM f (flC f fl) he mtt fz nx hh).1.2.2.1) (frM f (flC f fl) he mtt fz nx hh).1.2.2.1 108) (fdA f (flC f fl) (ic, qn, 0, 0) 108) h).2.1 h) (fdB f (flC f fl) (fa_fill (frG (flC f fl) (frM f (flC f fl) he mtt fz nx hh).1.2.2.1) (frM f (flC f fl) he mtt fz nx hh).1.2.2.1 108) (fdA f (flC f fl) (ic, qn, 0, 0) 108) h) (i + 1)).2.2.1)), (0, .ref m), (1, .ref b), (2, .int hh)]) (by first | exact absurd c_192 c_216 | exact absurd c_216 c_192 | (rw [show (fdH f (flC f fl) (fa_fill (frG (flC f fl) (frM f (flC f fl) he mtt fz nx hh).1.2.2.1) (frM f (flC f fl) he mtt fz nx hh).1.2.2.1 108) ((fdB f (flC f fl) (fa_fill (frG (flC f fl) (frM f (flC f fl) he mtt fz nx hh).1.2.2.1) (frM f (flC f fl) he mtt fz nx hh).1.2.2.1 108) (fdA f (flC f fl) (ic, qn, 0, 0) 108) h).2.1 h) (fdB f (flC f fl) (fa_fill (frG (flC f fl) (frM f (flC f fl) he mtt fz nx hh).1.2.2.1) (frM f (flC f fl) he mtt fz nx hh).1.2.2.1 108) (fdA f (flC f fl) (ic, qn, 0, 0) 108) h) (i + 1)) = fdI f (flC f fl) (fa_fill (frG (flC f fl) (frM f (flC f fl) he mtt fz nx hh).1.2.2.1) (frM f (flC f fl) he mtt fz nx hh).1.2.2.1 108) ((fdB f (flC f fl) (fa_fill (frG (flC f fl) (frM f (flC f fl) he mtt fz nx hh).1.2.2.1) (frM f (flC f fl) he mtt fz nx hh).1.2.2.1 108) (fdA f (flC f fl) (ic, qn, 0, 0) 108) h).2.1 h) i (fdH f (flC f fl) (fa_fill (frG (flC f fl) (frM f (flC f fl) he mtt fz nx hh).1.2.2.1) (frM f (flC f fl) he mtt fz nx hh).1.2.2.1 108) ((fdB f (flC f fl) (fa_fill (frG (flC f fl) (frM f (flC f fl) he mtt fz nx hh).1.2.2.1) (frM f (flC f fl) he mtt fz nx hh).1.2.2.1 108) (fdA f (flC f fl) (ic, qn, 0, 0) 108) h).2.1 h) (fdB f (flC f fl) (fa_fill (frG (flC f fl) (frM f (flC f fl) he mtt fz nx hh).1.2.2.1) (frM f (flC f fl) he mtt fz nx hh).1.2.2.1 108) (fdA f (flC f fl) (ic, qn, 0, 0) 108) h) i) from rfl, hk] <;> rfl)) ?_
                      refine r_cs (cs2 := [(m, .inr (12, [.int th, .ref mp, .int pt, .ref mf, .ref mh, .ref mn, .ref mt, .ref mz, .ref mc_, .ref mq, .ref mgr, .int cl, .int wa, .int co_, .int fi, .int bu, .int ho, .ref ml, .ref mi, .ref mr, .int lh, .int mg, .int wd, .int fpi, .int fal, .ref mm, .ref mu, .ref mk, .ref mx, .long po, .long de])), (b, .inl (1, 108, .inl f)), (mf, .inl (0, 108, .inl (flC f fl))), (mh, .inl (0, 108, .inl ((frM f (flC f fl) he mtt fz nx hh).1.1))), (mt, .inl (0, 108, .inl ((frM f (flC f fl) he mtt fz nx hh).1.2.1))), (mz, .inl (0, 108, .inl (fa_fill (frG (flC f fl) (frM f (flC f fl) he mtt fz nx hh).1.2.2.1) (frM f (flC f fl) he mtt fz nx hh).1.2.2.1 108))), (mn, .inl (0, 108, .inl ((frM f (flC f fl) he mtt fz nx hh).2))), (mc_, .inl (2, 108, .inl ((fdH f (flC f fl) (fa_fill (frG (flC f fl) (frM f (flC f fl) he mtt fz nx hh).1.2.2.1) (frM f (flC f fl) he mtt fz nx hh).1.2.2.1 108) ((fdB f (flC f fl) (fa_fill (frG (flC f fl) (frM f (flC f fl) he mtt fz nx hh).1.2.2.1) (frM f (flC f fl) he mtt fz nx hh).1.2.2.1 108) (fdA f (flC f fl) (ic, qn, 0, 0) 108) h).2.1 h) (fdB f (flC f fl) (fa_fill (frG (flC f fl) (frM f (flC f fl) he mtt fz nx hh).1.2.2.1) (frM f (flC f fl) he mtt fz nx hh).1.2.2.1 108) (fdA f (flC f fl) (ic, qn, 0, 0) 108) h) (i + 1)).1))), (mq, .inl (0, 108, .inl (fun k => nI ((fdH f (flC f fl) (fa_fill (frG (flC f fl) (frM f (flC f fl) he mtt fz nx hh).1.2.2.1) (frM f (flC f fl) he mtt fz nx hh).1.2.2.1 108) ((fdB f (flC f fl) (fa_fill (frG (flC f fl) (frM f (flC f fl) he mtt fz nx hh).1.2.2.1) (frM f (flC f fl) he mtt fz nx hh).1.2.2.1 108) (fdA f (flC f fl) (ic, qn, 0, 0) 108) h).2.1 h) (fdB f (flC f fl) (fa_fill (frG (flC f fl) (frM f (flC f fl) he mtt fz nx hh).1.2.2.1) (frM f (flC f fl) he mtt fz nx hh).1.2.2.1 108) (fdA f (flC f fl) (ic, qn, 0, 0) 108) h) (i + 1)).2.1 k))))]) (by first | exact absurd c_192 c_216 | exact absurd c_216 c_192 | (rw [show (fdH f (flC f fl) (fa_fill (frG (flC f fl) (frM f (flC f fl) he mtt fz nx hh).1.2.2.1) (frM f (flC f fl) he mtt fz nx hh).1.2.2.1 108) ((fdB f (flC f fl) (fa_fill (frG (flC f fl) (frM f (flC f fl) he mtt fz nx hh).1.2.2.1) (frM f (flC f fl) he mtt fz nx hh).1.2.2.1 108) (fdA f (flC f fl) (ic, qn, 0, 0) 108) h).2.1 h) (fdB f (flC f fl) (fa_fill (frG (flC f fl) (frM f (flC f fl) he mtt fz nx hh).1.2.2.1) (frM f (flC f fl) he mtt fz nx hh).1.2.2.1 108) (fdA f (flC f fl) (ic, qn, 0, 0) 108) h) (i + 1)) = fdI f (flC f fl) (fa_fill (frG (flC f fl) (frM f (flC f fl) he mtt fz nx hh).1.2.2.1) (frM f (flC f fl) he mtt fz nx hh).1.2.2.1 108) ((fdB f (flC f fl) (fa_fill (frG (flC f fl) (frM f (flC f fl) he mtt fz nx hh).1.2.2.1) (frM f (flC f fl) he mtt fz nx hh).1.2.2.1 108) (fdA f (flC f fl) (ic, qn, 0, 0) 108) h).2.1 h) i (fdH f (flC f fl) (fa_fill (frG (flC f fl) (frM f (flC f fl) he mtt fz nx hh).1.2.2.1) (frM f (flC f fl) he mtt fz nx hh).1.2.2.1 108) ((fdB f (flC f fl) (fa_fill (frG (flC f fl) (frM f (flC f fl) he mtt fz nx hh).1.2.2.1) (frM f (flC f fl) he mtt fz nx hh).1.2.2.1 108) (fdA f (flC f fl) (ic, qn, 0, 0) 108) h).2.1 h) (fdB f (flC f fl) (fa_fill (frG (flC f fl) (frM f (flC f fl) he mtt fz nx hh).1.2.2.1) (frM f (flC f fl) he mtt fz nx hh).1.2.2.1 108) (fdA f (flC f fl) (ic, qn, 0, 0) 108) h) i) from rfl, hk] <;> rfl)) ?_
                      exact ih (i + 1) (by omega) (by omega)
                    · exact absurd c_183 (by decide)
                  · have hcf : cfB (fdH f (flC f fl) (fa_fill (frG (flC f fl) (frM f (flC f fl) he mtt fz nx hh).1.2.2.1) (frM f (flC f fl) he mtt fz nx hh).1.2.2.1 108) ((fdB f (flC f fl) (fa_fill (frG (flC f fl) (frM f (flC f fl) he mtt fz nx hh).1.2.2.1) (frM f (flC f fl) he mtt fz nx hh).1.2.2.1 108) (fdA f (flC f fl) (ic, qn, 0, 0) 108) h).2.1 h) (fdB f (flC f fl) (fa_fill (frG (flC f fl) (frM f (flC f fl) he mtt fz nx hh).1.2.2.1) (frM f (flC f fl) he mtt fz nx hh).1.2.2.1 108) (fdA f (flC f fl) (ic, qn, 0, 0) 108) h) i).1 (flC f fl) (fa_fill (frG (flC f fl) (frM f (flC f fl) he mtt fz nx hh).1.2.2.1) (frM f (flC f fl) he mtt fz nx hh).1.2.2.1 108) ((fdB f (flC f fl) (fa_fill (frG (flC f fl) (frM f (flC f fl) he mtt fz nx hh).1.2.2.1) (frM f (flC f fl) he mtt fz nx hh).1.2.2.1 108) (fdA f (flC f fl) (ic, qn, 0, 0) 108) h).2.1 h) o = true ∧ (fdH f (flC f fl) (fa_fill (frG (flC f fl) (frM f (flC f fl) he mtt fz nx hh).1.2.2.1) (frM f (flC f fl) he mtt fz nx hh).1.2.2.1 108) ((fdB f (flC f fl) (fa_fill (frG (flC f fl) (frM f (flC f fl) he mtt fz nx hh).1.2.2.1) (frM f (flC f fl) he mtt fz nx hh).1.2.2.1 108) (fdA f (flC f fl) (ic, qn, 0, 0) 108) h).2.1 h) (fdB f (flC f fl) (fa_fill (frG (flC f fl) (frM f (flC f fl) he mtt fz nx hh).1.2.2.1) (frM f (flC f fl) he mtt fz nx hh).1.2.2.1 108) (fdA f (flC f fl) (ic, qn, 0, 0) 108) h) i).2.2.1 < 108 := ⟨decide_eq_true ⟨c_149, (vl_ng (vl_C f fl) hol).mpr c_139, c_171⟩, dI_lt hdi hol c_149⟩
                    refine r_iconst d_Mm_feed_174 (v := 1) (by decide) ?_
                    refine r_goto (tgt := 179) d_Mm_feed_175 (by decide) ?_
                    refine r_istore (lv' := [(8, .int 1), (7, .int (nI o)), (6, .int (nI i)), (5, .int (nI h)), (4, .int ((fdH f (flC f fl) (fa_fill (frG (flC f fl) (frM f (flC f fl) he mtt fz nx hh).1.2.2.1) (frM f (flC f fl) he mtt fz nx hh).1.2.2.1 108) ((fdB f (flC f fl) (fa_fill (frG (flC f fl) (frM f (flC f fl) he mtt fz nx hh).1.2.2.1) (frM f (flC f fl) he mtt fz nx hh).1.2.2.1 108) (fdA f (flC f fl) (ic, qn, 0, 0) 108) h).2.1 h) (fdB f (flC f fl) (fa_fill (frG (flC f fl) (frM f (flC f fl) he mtt fz nx hh).1.2.2.1) (frM f (flC f fl) he mtt fz nx hh).1.2.2.1 108) (fdA f (flC f fl) (ic, qn, 0, 0) 108) h) i).2.2.2)), (3, .int (nI (fdH f (flC f fl) (fa_fill (frG (flC f fl) (frM f (flC f fl) he mtt fz nx hh).1.2.2.1) (frM f (flC f fl) he mtt fz nx hh).1.2.2.1 108) ((fdB f (flC f fl) (fa_fill (frG (flC f fl) (frM f (flC f fl) he mtt fz nx hh).1.2.2.1) (frM f (flC f fl) he mtt fz nx hh).1.2.2.1 108) (fdA f (flC f fl) (ic, qn, 0, 0) 108) h).2.1 h) (fdB f (flC f fl) (fa_fill (frG (flC f fl) (frM f (flC f fl) he mtt fz nx hh).1.2.2.1) (frM f (flC f fl) he mtt fz nx hh).1.2.2.1 108) (fdA f (flC f fl) (ic, qn, 0, 0) 108) h) i).2.2.1)), (0, .ref m), (1, .ref b), (2, .int hh)]) d_Mm_feed_179 (by decide) rfl ?_
                    refine r_iload d_Mm_feed_181 0 rfl ?_
                    refine r_if_eq (tgt := 238) d_Mm_feed_183 (by decide) (fun c_183 => ?_) (fun c_183 => ?_)
                    · exact absurd c_183 (by decide)
                    · refine r_aload_n d_Mm_feed_186 rfl 7 rfl ?_
                      refine r_iload d_Mm_feed_187 1 rfl ?_
                      refine r_cald d_Mm_feed_189 (q0 := 1) rfl (vp_in_nI (by omega) (by omega)) (v := f o) (by rw [nI_clamp (by omega)]) ?_
                      refine r_bipush d_Mm_feed_190 (v := 99) (by decide) ?_
                      refine r_icmp_ne (tgt := 200) d_Mm_feed_192 (by decide) (fun c_192 => ?_) (fun c_192 => ?_)
                      · have hk := hk0.trans (fdJ_3 hcf c_192)
                        refine r_aload_n d_Mm_feed_200 rfl 6 rfl ?_
                        refine r_get fs_Mm_33 d_Mm_feed_201 (q0 := 0) rfl rfl ?_
                        refine r_iload d_Mm_feed_204 1 rfl ?_
                        refine r_iconst d_Mm_feed_206 (v := 1) (by decide) ?_
                        refine r_zast d_Mm_feed_207 (q0 := 7) rfl (vp_in_nI (by omega) (by omega)) (f' := upd (fdH f (flC f fl) (fa_fill (frG (flC f fl) (frM f (flC f fl) he mtt fz nx hh).1.2.2.1) (frM f (flC f fl) he mtt fz nx hh).1.2.2.1 108) ((fdB f (flC f fl) (fa_fill (frG (flC f fl) (frM f (flC f fl) he mtt fz nx hh).1.2.2.1) (frM f (flC f fl) he mtt fz nx hh).1.2.2.1 108) (fdA f (flC f fl) (ic, qn, 0, 0) 108) h).2.1 h) (fdB f (flC f fl) (fa_fill (frG (flC f fl) (frM f (flC f fl) he mtt fz nx hh).1.2.2.1) (frM f (flC f fl) he mtt fz nx hh).1.2.2.1 108) (fdA f (flC f fl) (ic, qn, 0, 0) 108) h) i).1 o 1) (by rw [nI_clamp (by omega)] <;> rfl) (cs' := [(m, .inr (12, [.int th, .ref mp, .int pt, .ref mf, .ref mh, .ref mn, .ref mt, .ref mz, .ref mc_, .ref mq, .ref mgr, .int cl, .int wa, .int co_, .int fi, .int bu, .int ho, .ref ml, .ref mi, .ref mr, .int lh, .int mg, .int wd, .int fpi, .int fal, .ref mm, .ref mu, .ref mk, .ref mx, .long po, .long de])), (b, .inl (1, 108, .inl f)), (mf, .inl (0, 108, .inl (flC f fl))), (mh, .inl (0, 108, .inl ((frM f (flC f fl) he mtt fz nx hh).1.1))), (mt, .inl (0, 108, .inl ((frM f (flC f fl) he mtt fz nx hh).1.2.1))), (mz, .inl (0, 108, .inl (fa_fill (frG (flC f fl) (frM f (flC f fl) he mtt fz nx hh).1.2.2.1) (frM f (flC f fl) he mtt fz nx hh).1.2.2.1 108))), (mn, .inl (0, 108, .inl ((frM f (flC f fl) he mtt fz nx hh).2))), (mc_, .inl (2, 108, .inl (upd (fdH f (flC f fl) (fa_fill (frG (flC f fl) (frM f (flC f fl) he mtt fz nx hh).1.2.2.1) (frM f (flC f fl) he mtt fz nx hh).1.2.2.1 108) ((fdB f (flC f fl) (fa_fill (frG (flC f fl) (frM f (flC f fl) he mtt fz nx hh).1.2.2.1) (frM f (flC f fl) he mtt fz nx hh).1.2.2.1 108) (fdA f (flC f fl) (ic, qn, 0, 0) 108) h).2.1 h) (fdB f (flC f fl) (fa_fill (frG (flC f fl) (frM f (flC f fl) he mtt fz nx hh).1.2.2.1) (frM f (flC f fl) he mtt fz nx hh).1.2.2.1 108) (fdA f (flC f fl) (ic, qn, 0, 0) 108) h) i).1 o 1))), (mq, .inl (0, 108, .inl (fun k => nI ((fdH f (flC f fl) (fa_fill (frG (flC f fl) (frM f (flC f fl) he mtt fz nx hh).1.2.2.1) (frM f (flC f fl) he mtt fz nx hh).1.2.2.1 108) ((fdB f (flC f fl) (fa_fill (frG (flC f fl) (frM f (flC f fl) he mtt fz nx hh).1.2.2.1) (frM f (flC f fl) he mtt fz nx hh).1.2.2.1 108) (fdA f (flC f fl) (ic, qn, 0, 0) 108) h).2.1 h) (fdB f (flC f fl) (fa_fill (frG (flC f fl) (frM f (flC f fl) he mtt fz nx hh).1.2.2.1) (frM f (flC f fl) he mtt fz nx hh).1.2.2.1 108) (fdA f (flC f fl) (ic, qn, 0, 0) 108) h) i).2.1 k))))]) rfl ?_
                        refine r_iload d_Mm_feed_208 4 rfl ?_
                        refine r_aload_n d_Mm_feed_210 rfl 7 rfl ?_
                        refine r_iload d_Mm_feed_211 1 rfl ?_
                        refine r_cald d_Mm_feed_213 (q0 := 1) rfl (vp_in_nI (by omega) (by omega)) (v := f o) (by rw [nI_clamp (by omega)]) ?_
                        refine r_bipush d_Mm_feed_214 (v := 99) (by decide) ?_
                        refine r_icmp_ne (tgt := 223) d_Mm_feed_216 (by decide) (fun c_216 => ?_) (fun c_216 => ?_)
                        · refine r_iconst d_Mm_feed_223 (v := 0) (by decide) ?_
                          refine r_isub d_Mm_feed_224 (v := (fdH f (flC f fl) (fa_fill (frG (flC f fl) (frM f (flC f fl) he mtt fz nx hh).1.2.2.1) (frM f (flC f fl) he mtt fz nx hh).1.2.2.1 108) ((fdB f (flC f fl) (fa_fill (frG (flC f fl) (frM f (flC f fl) he mtt fz nx hh).1.2.2.1) (frM f (flC f fl) he mtt fz nx hh).1.2.2.1 108) (fdA f (flC f fl) (ic, qn, 0, 0) 108) h).2.1 h) (fdB f (flC f fl) (fa_fill (frG (flC f fl) (frM f (flC f fl) he mtt fz nx hh).1.2.2.1) (frM f (flC f fl) he mtt fz nx hh).1.2.2.1 108) (fdA f (flC f fl) (ic, qn, 0, 0) 108) h) i).2.2.2) (Int32.sub_zero _) ?_
                          refine r_istore (lv' := [(4, .int ((fdH f (flC f fl) (fa_fill (frG (flC f fl) (frM f (flC f fl) he mtt fz nx hh).1.2.2.1) (frM f (flC f fl) he mtt fz nx hh).1.2.2.1 108) ((fdB f (flC f fl) (fa_fill (frG (flC f fl) (frM f (flC f fl) he mtt fz nx hh).1.2.2.1) (frM f (flC f fl) he mtt fz nx hh).1.2.2.1 108) (fdA f (flC f fl) (ic, qn, 0, 0) 108) h).2.1 h) (fdB f (flC f fl) (fa_fill (frG (flC f fl) (frM f (flC f fl) he mtt fz nx hh).1.2.2.1) (frM f (flC f fl) he mtt fz nx hh).1.2.2.1 108) (fdA f (flC f fl) (ic, qn, 0, 0) 108) h) i).2.2.2)), (8, .int 1), (7, .int (nI o)), (6, .int (nI i)), (5, .int (nI h)), (3, .int (nI (fdH f (flC f fl) (fa_fill (frG (flC f fl) (frM f (flC f fl) he mtt fz nx hh).1.2.2.1) (frM f (flC f fl) he mtt fz nx hh).1.2.2.1 108) ((fdB f (flC f fl) (fa_fill (frG (flC f fl) (frM f (flC f fl) he mtt fz nx hh).1.2.2.1) (frM f (flC f fl) he mtt fz nx hh).1.2.2.1 108) (fdA f (flC f fl) (ic, qn, 0, 0) 108) h).2.1 h) (fdB f (flC f fl) (fa_fill (frG (flC f fl) (frM f (flC f fl) he mtt fz nx hh).1.2.2.1) (frM f (flC f fl) he mtt fz nx hh).1.2.2.1 108) (fdA f (flC f fl) (ic, qn, 0, 0) 108) h) i).2.2.1)), (0, .ref m), (1, .ref b), (2, .int hh)]) d_Mm_feed_225 (by decide) rfl ?_
                          refine r_aload_n d_Mm_feed_227 rfl 6 rfl ?_
                          refine r_get fs_Mm_37 d_Mm_feed_228 (q0 := 0) rfl rfl ?_
                          refine r_iload_n d_Mm_feed_231 rfl 5 rfl ?_
                          refine r_iload d_Mm_feed_232 2 rfl ?_
                          refine r_iast d_Mm_feed_234 (q0 := 8) rfl (vp_in_nI (by omega) (by omega)) (f' := fun k => nI (updN (fdH f (flC f fl) (fa_fill (frG (flC f fl) (frM f (flC f fl) he mtt fz nx hh).1.2.2.1) (frM f (flC f fl) he mtt fz nx hh).1.2.2.1 108) ((fdB f (flC f fl) (fa_fill (frG (flC f fl) (frM f (flC f fl) he mtt fz nx hh).1.2.2.1) (frM f (flC f fl) he mtt fz nx hh).1.2.2.1 108) (fdA f (flC f fl) (ic, qn, 0, 0) 108) h).2.1 h) (fdB f (flC f fl) (fa_fill (frG (flC f fl) (frM f (flC f fl) he mtt fz nx hh).1.2.2.1) (frM f (flC f fl) he mtt fz nx hh).1.2.2.1 108) (fdA f (flC f fl) (ic, qn, 0, 0) 108) h) i).2.1 (fdH f (flC f fl) (fa_fill (frG (flC f fl) (frM f (flC f fl) he mtt fz nx hh).1.2.2.1) (frM f (flC f fl) he mtt fz nx hh).1.2.2.1 108) ((fdB f (flC f fl) (fa_fill (frG (flC f fl) (frM f (flC f fl) he mtt fz nx hh).1.2.2.1) (frM f (flC f fl) he mtt fz nx hh).1.2.2.1 108) (fdA f (flC f fl) (ic, qn, 0, 0) 108) h).2.1 h) (fdB f (flC f fl) (fa_fill (frG (flC f fl) (frM f (flC f fl) he mtt fz nx hh).1.2.2.1) (frM f (flC f fl) he mtt fz nx hh).1.2.2.1 108) (fdA f (flC f fl) (ic, qn, 0, 0) 108) h) i).2.2.1 o k)) (by rw [nI_clamp (by omega)]; exact upd_qn) (cs' := [(m, .inr (12, [.int th, .ref mp, .int pt, .ref mf, .ref mh, .ref mn, .ref mt, .ref mz, .ref mc_, .ref mq, .ref mgr, .int cl, .int wa, .int co_, .int fi, .int bu, .int ho, .ref ml, .ref mi, .ref mr, .int lh, .int mg, .int wd, .int fpi, .int fal, .ref mm, .ref mu, .ref mk, .ref mx, .long po, .long de])), (b, .inl (1, 108, .inl f)), (mf, .inl (0, 108, .inl (flC f fl))), (mh, .inl (0, 108, .inl ((frM f (flC f fl) he mtt fz nx hh).1.1))), (mt, .inl (0, 108, .inl ((frM f (flC f fl) he mtt fz nx hh).1.2.1))), (mz, .inl (0, 108, .inl (fa_fill (frG (flC f fl) (frM f (flC f fl) he mtt fz nx hh).1.2.2.1) (frM f (flC f fl) he mtt fz nx hh).1.2.2.1 108))), (mn, .inl (0, 108, .inl ((frM f (flC f fl) he mtt fz nx hh).2))), (mc_, .inl (2, 108, .inl (upd (fdH f (flC f fl) (fa_fill (frG (flC f fl) (frM f (flC f fl) he mtt fz nx hh).1.2.2.1) (frM f (flC f fl) he mtt fz nx hh).1.2.2.1 108) ((fdB f (flC f fl) (fa_fill (frG (flC f fl) (frM f (flC f fl) he mtt fz nx hh).1.2.2.1) (frM f (flC f fl) he mtt fz nx hh).1.2.2.1 108) (fdA f (flC f fl) (ic, qn, 0, 0) 108) h).2.1 h) (fdB f (flC f fl) (fa_fill (frG (flC f fl) (frM f (flC f fl) he mtt fz nx hh).1.2.2.1) (frM f (flC f fl) he mtt fz nx hh).1.2.2.1 108) (fdA f (flC f fl) (ic, qn, 0, 0) 108) h) i).1 o 1))), (mq, .inl (0, 108, .inl (fun k => nI (updN (fdH f (flC f fl) (fa_fill (frG (flC f fl) (frM f (flC f fl) he mtt fz nx hh).1.2.2.1) (frM f (flC f fl) he mtt fz nx hh).1.2.2.1 108) ((fdB f (flC f fl) (fa_fill (frG (flC f fl) (frM f (flC f fl) he mtt fz nx hh).1.2.2.1) (frM f (flC f fl) he mtt fz nx hh).1.2.2.1 108) (fdA f (flC f fl) (ic, qn, 0, 0) 108) h).2.1 h) (fdB f (flC f fl) (fa_fill (frG (flC f fl) (frM f (flC f fl) he mtt fz nx hh).1.2.2.1) (frM f (flC f fl) he mtt fz nx hh).1.2.2.1 108) (fdA f (flC f fl) (ic, qn, 0, 0) 108) h) i).2.1 (fdH f (flC f fl) (fa_fill (frG (flC f fl) (frM f (flC f fl) he mtt fz nx hh).1.2.2.1) (frM f (flC f fl) he mtt fz nx hh).1.2.2.1 108) ((fdB f (flC f fl) (fa_fill (frG (flC f fl) (frM f (flC f fl) he mtt fz nx hh).1.2.2.1) (frM f (flC f fl) he mtt fz nx hh).1.2.2.1 108) (fdA f (flC f fl) (ic, qn, 0, 0) 108) h).2.1 h) (fdB f (flC f fl) (fa_fill (frG (flC f fl) (frM f (flC f fl) he mtt fz nx hh).1.2.2.1) (frM f (flC f fl) he mtt fz nx hh).1.2.2.1 108) (fdA f (flC f fl) (ic, qn, 0, 0) 108) h) i).2.2.1 o k))))]) rfl ?_
                          refine r_iinc (lv' := [(3, .int (nI ((fdH f (flC f fl) (fa_fill (frG (flC f fl) (frM f (flC f fl) he mtt fz nx hh).1.2.2.1) (frM f (flC f fl) he mtt fz nx hh).1.2.2.1 108) ((fdB f (flC f fl) (fa_fill (frG (flC f fl) (frM f (flC f fl) he mtt fz nx hh).1.2.2.1) (frM f (flC f fl) he mtt fz nx hh).1.2.2.1 108) (fdA f (flC f fl) (ic, qn, 0, 0) 108) h).2.1 h) (fdB f (flC f fl) (fa_fill (frG (flC f fl) (frM f (flC f fl) he mtt fz nx hh).1.2.2.1) (frM f (flC f fl) he mtt fz nx hh).1.2.2.1 108) (fdA f (flC f fl) (ic, qn, 0, 0) 108) h) i).2.2.1 + 1))), (4, .int ((fdH f (flC f fl) (fa_fill (frG (flC f fl) (frM f (flC f fl) he mtt fz nx hh).1.2.2.1) (frM f (flC f fl) he mtt fz nx hh).1.2.2.1 108) ((fdB f (flC f fl) (fa_fill (frG (flC f fl) (frM f (flC f fl) he mtt fz nx hh).1.2.2.1) (frM f (flC f fl) he mtt fz nx hh).1.2.2.1 108) (fdA f (flC f fl) (ic, qn, 0, 0) 108) h).2.1 h) (fdB f (flC f fl) (fa_fill (frG (flC f fl) (frM f (flC f fl) he mtt fz nx hh).1.2.2.1) (frM f (flC f fl) he mtt fz nx hh).1.2.2.1 108) (fdA f (flC f fl) (ic, qn, 0, 0) 108) h) i).2.2.2)), (8, .int 1), (7, .int (nI o)), (6, .int (nI i)), (5, .int (nI h)), (0, .ref m), (1, .ref b), (2, .int hh)]) (v := nI ((fdH f (flC f fl) (fa_fill (frG (flC f fl) (frM f (flC f fl) he mtt fz nx hh).1.2.2.1) (frM f (flC f fl) he mtt fz nx hh).1.2.2.1 108) ((fdB f (flC f fl) (fa_fill (frG (flC f fl) (frM f (flC f fl) he mtt fz nx hh).1.2.2.1) (frM f (flC f fl) he mtt fz nx hh).1.2.2.1 108) (fdA f (flC f fl) (ic, qn, 0, 0) 108) h).2.1 h) (fdB f (flC f fl) (fa_fill (frG (flC f fl) (frM f (flC f fl) he mtt fz nx hh).1.2.2.1) (frM f (flC f fl) he mtt fz nx hh).1.2.2.1 108) (fdA f (flC f fl) (ic, qn, 0, 0) 108) h) i).2.2.1 + 1)) d_Mm_feed_235 (j := 5) rfl (nI_add _ _) (by decide) rfl ?_
                          refine r_iinc (lv' := [(6, .int (nI (i + 1))), (3, .int (nI ((fdH f (flC f fl) (fa_fill (frG (flC f fl) (frM f (flC f fl) he mtt fz nx hh).1.2.2.1) (frM f (flC f fl) he mtt fz nx hh).1.2.2.1 108) ((fdB f (flC f fl) (fa_fill (frG (flC f fl) (frM f (flC f fl) he mtt fz nx hh).1.2.2.1) (frM f (flC f fl) he mtt fz nx hh).1.2.2.1 108) (fdA f (flC f fl) (ic, qn, 0, 0) 108) h).2.1 h) (fdB f (flC f fl) (fa_fill (frG (flC f fl) (frM f (flC f fl) he mtt fz nx hh).1.2.2.1) (frM f (flC f fl) he mtt fz nx hh).1.2.2.1 108) (fdA f (flC f fl) (ic, qn, 0, 0) 108) h) i).2.2.1 + 1))), (4, .int ((fdH f (flC f fl) (fa_fill (frG (flC f fl) (frM f (flC f fl) he mtt fz nx hh).1.2.2.1) (frM f (flC f fl) he mtt fz nx hh).1.2.2.1 108) ((fdB f (flC f fl) (fa_fill (frG (flC f fl) (frM f (flC f fl) he mtt fz nx hh).1.2.2.1) (frM f (flC f fl) he mtt fz nx hh).1.2.2.1 108) (fdA f (flC f fl) (ic, qn, 0, 0) 108) h).2.1 h) (fdB f (flC f fl) (fa_fill (frG (flC f fl) (frM f (flC f fl) he mtt fz nx hh).1.2.2.1) (frM f (flC f fl) he mtt fz nx hh).1.2.2.1 108) (fdA f (flC f fl) (ic, qn, 0, 0) 108) h) i).2.2.2)), (8, .int 1), (7, .int (nI o)), (5, .int (nI h)), (0, .ref m), (1, .ref b), (2, .int hh)]) (v := nI (i + 1)) d_Mm_feed_238 (j := 4) rfl (nI_add _ _) (by decide) rfl ?_
                          refine r_goto (tgt := 95) d_Mm_feed_241 (by decide) ?_
                          refine r_lv (lv' := [(6, .int (nI (i + 1))), (5, .int (nI h)), (4, .int ((fdH f (flC f fl) (fa_fill (frG (flC f fl) (frM f (flC f fl) he mtt fz nx hh).1.2.2.1) (frM f (flC f fl) he mtt fz nx hh).1.2.2.1 108) ((fdB f (flC f fl) (fa_fill (frG (flC f fl) (frM f (flC f fl) he mtt fz nx hh).1.2.2.1) (frM f (flC f fl) he mtt fz nx hh).1.2.2.1 108) (fdA f (flC f fl) (ic, qn, 0, 0) 108) h).2.1 h) (fdB f (flC f fl) (fa_fill (frG (flC f fl) (frM f (flC f fl) he mtt fz nx hh).1.2.2.1) (frM f (flC f fl) he mtt fz nx hh).1.2.2.1 108) (fdA f (flC f fl) (ic, qn, 0, 0) 108) h) i).2.2.2)), (3, .int (nI ((fdH f (flC f fl) (fa_fill (frG (flC f fl) (frM f (flC f fl) he mtt fz nx hh).1.2.2.1) (frM f (flC f fl) he mtt fz nx hh).1.2.2.1 108) ((fdB f (flC f fl) (fa_fill (frG (flC f fl) (frM f (flC f fl) he mtt fz nx hh).1.2.2.1) (frM f (flC f fl) he mtt fz nx hh).1.2.2.1 108) (fdA f (flC f fl) (ic, qn, 0, 0) 108) h).2.1 h) (fdB f (flC f fl) (fa_fill (frG (flC f fl) (frM f (flC f fl) he mtt fz nx hh).1.2.2.1) (frM f (flC f fl) he mtt fz nx hh).1.2.2.1 108) (fdA f (flC f fl) (ic, qn, 0, 0) 108) h) i).2.2.1 + 1))), (0, .ref m), (1, .ref b), (2, .int hh)]) [0, 5, 2, 1, 6, 7, 8] rfl ?_
                          refine r_lvE (lv2 := [(6, .int (nI (i + 1))), (5, .int (nI h)), (4, .int ((fdH f (flC f fl) (fa_fill (frG (flC f fl) (frM f (flC f fl) he mtt fz nx hh).1.2.2.1) (frM f (flC f fl) he mtt fz nx hh).1.2.2.1 108) ((fdB f (flC f fl) (fa_fill (frG (flC f fl) (frM f (flC f fl) he mtt fz nx hh).1.2.2.1) (frM f (flC f fl) he mtt fz nx hh).1.2.2.1 108) (fdA f (flC f fl) (ic, qn, 0, 0) 108) h).2.1 h) (fdB f (flC f fl) (fa_fill (frG (flC f fl) (frM f (flC f fl) he mtt fz nx hh).1.2.2.1) (frM f (flC f fl) he mtt fz nx hh).1.2.2.1 108) (fdA f (flC f fl) (ic, qn, 0, 0) 108) h) (i + 1)).2.2.2)), (3, .int (nI (fdH f (flC f fl) (fa_fill (frG (flC f fl) (frM f (flC f fl) he mtt fz nx hh).1.2.2.1) (frM f (flC f fl) he mtt fz nx hh).1.2.2.1 108) ((fdB f (flC f fl) (fa_fill (frG (flC f fl) (frM f (flC f fl) he mtt fz nx hh).1.2.2.1) (frM f (flC f fl) he mtt fz nx hh).1.2.2.1 108) (fdA f (flC f fl) (ic, qn, 0, 0) 108) h).2.1 h) (fdB f (flC f fl) (fa_fill (frG (flC f fl) (frM f (flC f fl) he mtt fz nx hh).1.2.2.1) (frM f (flC f fl) he mtt fz nx hh).1.2.2.1 108) (fdA f (flC f fl) (ic, qn, 0, 0) 108) h) (i + 1)).2.2.1)), (0, .ref m), (1, .ref b), (2, .int hh)]) (by first | exact absurd c_192 c_216 | exact absurd c_216 c_192 | (rw [show (fdH f (flC f fl) (fa_fill (frG (flC f fl) (frM f (flC f fl) he mtt fz nx hh).1.2.2.1) (frM f (flC f fl) he mtt fz nx hh).1.2.2.1 108) ((fdB f (flC f fl) (fa_fill (frG (flC f fl) (frM f (flC f fl) he mtt fz nx hh).1.2.2.1) (frM f (flC f fl) he mtt fz nx hh).1.2.2.1 108) (fdA f (flC f fl) (ic, qn, 0, 0) 108) h).2.1 h) (fdB f (flC f fl) (fa_fill (frG (flC f fl) (frM f (flC f fl) he mtt fz nx hh).1.2.2.1) (frM f (flC f fl) he mtt fz nx hh).1.2.2.1 108) (fdA f (flC f fl) (ic, qn, 0, 0) 108) h) (i + 1)) = fdI f (flC f fl) (fa_fill (frG (flC f fl) (frM f (flC f fl) he mtt fz nx hh).1.2.2.1) (frM f (flC f fl) he mtt fz nx hh).1.2.2.1 108) ((fdB f (flC f fl) (fa_fill (frG (flC f fl) (frM f (flC f fl) he mtt fz nx hh).1.2.2.1) (frM f (flC f fl) he mtt fz nx hh).1.2.2.1 108) (fdA f (flC f fl) (ic, qn, 0, 0) 108) h).2.1 h) i (fdH f (flC f fl) (fa_fill (frG (flC f fl) (frM f (flC f fl) he mtt fz nx hh).1.2.2.1) (frM f (flC f fl) he mtt fz nx hh).1.2.2.1 108) ((fdB f (flC f fl) (fa_fill (frG (flC f fl) (frM f (flC f fl) he mtt fz nx hh).1.2.2.1) (frM f (flC f fl) he mtt fz nx hh).1.2.2.1 108) (fdA f (flC f fl) (ic, qn, 0, 0) 108) h).2.1 h) (fdB f (flC f fl) (fa_fill (frG (flC f fl) (frM f (flC f fl) he mtt fz nx hh).1.2.2.1) (frM f (flC f fl) he mtt fz nx hh).1.2.2.1 108) (fdA f (flC f fl) (ic, qn, 0, 0) 108) h) i) from rfl, hk] <;> rfl)) ?_
                          refine r_cs (cs2 := [(m, .inr (12, [.int th, .ref mp, .int pt, .ref mf, .ref mh, .ref mn, .ref mt, .ref mz, .ref mc_, .ref mq, .ref mgr, .int cl, .int wa, .int co_, .int fi, .int bu, .int ho, .ref ml, .ref mi, .ref mr, .int lh, .int mg, .int wd, .int fpi, .int fal, .ref mm, .ref mu, .ref mk, .ref mx, .long po, .long de])), (b, .inl (1, 108, .inl f)), (mf, .inl (0, 108, .inl (flC f fl))), (mh, .inl (0, 108, .inl ((frM f (flC f fl) he mtt fz nx hh).1.1))), (mt, .inl (0, 108, .inl ((frM f (flC f fl) he mtt fz nx hh).1.2.1))), (mz, .inl (0, 108, .inl (fa_fill (frG (flC f fl) (frM f (flC f fl) he mtt fz nx hh).1.2.2.1) (frM f (flC f fl) he mtt fz nx hh).1.2.2.1 108))), (mn, .inl (0, 108, .inl ((frM f (flC f fl) he mtt fz nx hh).2))), (mc_, .inl (2, 108, .inl ((fdH f (flC f fl) (fa_fill (frG (flC f fl) (frM f (flC f fl) he mtt fz nx hh).1.2.2.1) (frM f (flC f fl) he mtt fz nx hh).1.2.2.1 108) ((fdB f (flC f fl) (fa_fill (frG (flC f fl) (frM f (flC f fl) he mtt fz nx hh).1.2.2.1) (frM f (flC f fl) he mtt fz nx hh).1.2.2.1 108) (fdA f (flC f fl) (ic, qn, 0, 0) 108) h).2.1 h) (fdB f (flC f fl) (fa_fill (frG (flC f fl) (frM f (flC f fl) he mtt fz nx hh).1.2.2.1) (frM f (flC f fl) he mtt fz nx hh).1.2.2.1 108) (fdA f (flC f fl) (ic, qn, 0, 0) 108) h) (i + 1)).1))), (mq, .inl (0, 108, .inl (fun k => nI ((fdH f (flC f fl) (fa_fill (frG (flC f fl) (frM f (flC f fl) he mtt fz nx hh).1.2.2.1) (frM f (flC f fl) he mtt fz nx hh).1.2.2.1 108) ((fdB f (flC f fl) (fa_fill (frG (flC f fl) (frM f (flC f fl) he mtt fz nx hh).1.2.2.1) (frM f (flC f fl) he mtt fz nx hh).1.2.2.1 108) (fdA f (flC f fl) (ic, qn, 0, 0) 108) h).2.1 h) (fdB f (flC f fl) (fa_fill (frG (flC f fl) (frM f (flC f fl) he mtt fz nx hh).1.2.2.1) (frM f (flC f fl) he mtt fz nx hh).1.2.2.1 108) (fdA f (flC f fl) (ic, qn, 0, 0) 108) h) (i + 1)).2.1 k))))]) (by first | exact absurd c_192 c_216 | exact absurd c_216 c_192 | (rw [show (fdH f (flC f fl) (fa_fill (frG (flC f fl) (frM f (flC f fl) he mtt fz nx hh).1.2.2.1) (frM f (flC f fl) he mtt fz nx hh).1.2.2.1 108) ((fdB f (flC f fl) (fa_fill (frG (flC f fl) (frM f (flC f fl) he mtt fz nx hh).1.2.2.1) (frM f (flC f fl) he mtt fz nx hh).1.2.2.1 108) (fdA f (flC f fl) (ic, qn, 0, 0) 108) h).2.1 h) (fdB f (flC f fl) (fa_fill (frG (flC f fl) (frM f (flC f fl) he mtt fz nx hh).1.2.2.1) (frM f (flC f fl) he mtt fz nx hh).1.2.2.1 108) (fdA f (flC f fl) (ic, qn, 0, 0) 108) h) (i + 1)) = fdI f (flC f fl) (fa_fill (frG (flC f fl) (frM f (flC f fl) he mtt fz nx hh).1.2.2.1) (frM f (flC f fl) he mtt fz nx hh).1.2.2.1 108) ((fdB f (flC f fl) (fa_fill (frG (flC f fl) (frM f (flC f fl) he mtt fz nx hh).1.2.2.1) (frM f (flC f fl) he mtt fz nx hh).1.2.2.1 108) (fdA f (flC f fl) (ic, qn, 0, 0) 108) h).2.1 h) i (fdH f (flC f fl) (fa_fill (frG (flC f fl) (frM f (flC f fl) he mtt fz nx hh).1.2.2.1) (frM f (flC f fl) he mtt fz nx hh).1.2.2.1 108) ((fdB f (flC f fl) (fa_fill (frG (flC f fl) (frM f (flC f fl) he mtt fz nx hh).1.2.2.1) (frM f (flC f fl) he mtt fz nx hh).1.2.2.1 108) (fdA f (flC f fl) (ic, qn, 0, 0) 108) h).2.1 h) (fdB f (flC f fl) (fa_fill (frG (flC f fl) (frM f (flC f fl) he mtt fz nx hh).1.2.2.1) (frM f (flC f fl) he mtt fz nx hh).1.2.2.1 108) (fdA f (flC f fl) (ic, qn, 0, 0) 108) h) i) from rfl, hk] <;> rfl)) ?_
                          exact ih (i + 1) (by omega) (by omega)
                        · refine r_iconst d_Mm_feed_219 (v := 1) (by decide) ?_
                          refine r_goto (tgt := 224) d_Mm_feed_220 (by decide) ?_
                          refine r_isub d_Mm_feed_224 (v := ((fdH f (flC f fl) (fa_fill (frG (flC f fl) (frM f (flC f fl) he mtt fz nx hh).1.2.2.1) (frM f (flC f fl) he mtt fz nx hh).1.2.2.1 108) ((fdB f (flC f fl) (fa_fill (frG (flC f fl) (frM f (flC f fl) he mtt fz nx hh).1.2.2.1) (frM f (flC f fl) he mtt fz nx hh).1.2.2.1 108) (fdA f (flC f fl) (ic, qn, 0, 0) 108) h).2.1 h) (fdB f (flC f fl) (fa_fill (frG (flC f fl) (frM f (flC f fl) he mtt fz nx hh).1.2.2.1) (frM f (flC f fl) he mtt fz nx hh).1.2.2.1 108) (fdA f (flC f fl) (ic, qn, 0, 0) 108) h) i).2.2.2) + -1) (Int32.sub_eq_add_neg ..) ?_
                          refine r_istore (lv' := [(4, .int (((fdH f (flC f fl) (fa_fill (frG (flC f fl) (frM f (flC f fl) he mtt fz nx hh).1.2.2.1) (frM f (flC f fl) he mtt fz nx hh).1.2.2.1 108) ((fdB f (flC f fl) (fa_fill (frG (flC f fl) (frM f (flC f fl) he mtt fz nx hh).1.2.2.1) (frM f (flC f fl) he mtt fz nx hh).1.2.2.1 108) (fdA f (flC f fl) (ic, qn, 0, 0) 108) h).2.1 h) (fdB f (flC f fl) (fa_fill (frG (flC f fl) (frM f (flC f fl) he mtt fz nx hh).1.2.2.1) (frM f (flC f fl) he mtt fz nx hh).1.2.2.1 108) (fdA f (flC f fl) (ic, qn, 0, 0) 108) h) i).2.2.2) + -1)), (8, .int 1), (7, .int (nI o)), (6, .int (nI i)), (5, .int (nI h)), (3, .int (nI (fdH f (flC f fl) (fa_fill (frG (flC f fl) (frM f (flC f fl) he mtt fz nx hh).1.2.2.1) (frM f (flC f fl) he mtt fz nx hh).1.2.2.1 108) ((fdB f (flC f fl) (fa_fill (frG (flC f fl) (frM f (flC f fl) he mtt fz nx hh).1.2.2.1) (frM f (flC f fl) he mtt fz nx hh).1.2.2.1 108) (fdA f (flC f fl) (ic, qn, 0, 0) 108) h).2.1 h) (fdB f (flC f fl) (fa_fill (frG (flC f fl) (frM f (flC f fl) he mtt fz nx hh).1.2.2.1) (frM f (flC f fl) he mtt fz nx hh).1.2.2.1 108) (fdA f (flC f fl) (ic, qn, 0, 0) 108) h) i).2.2.1)), (0, .ref m), (1, .ref b), (2, .int hh)]) d_Mm_feed_225 (by decide) rfl ?_
                          refine r_aload_n d_Mm_feed_227 rfl 6 rfl ?_
                          refine r_get fs_Mm_37 d_Mm_feed_228 (q0 := 0) rfl rfl ?_
                          refine r_iload_n d_Mm_feed_231 rfl 5 rfl ?_
                          refine r_iload d_Mm_feed_232 2 rfl ?_
                          refine r_iast d_Mm_feed_234 (q0 := 8) rfl (vp_in_nI (by omega) (by omega)) (f' := fun k => nI (updN (fdH f (flC f fl) (fa_fill (frG (flC f fl) (frM f (flC f fl) he mtt fz nx hh).1.2.2.1) (frM f (flC f fl) he mtt fz nx hh).1.2.2.1 108) ((fdB f (flC f fl) (fa_fill (frG (flC f fl) (frM f (flC f fl) he mtt fz nx hh).1.2.2.1) (frM f (flC f fl) he mtt fz nx hh).1.2.2.1 108) (fdA f (flC f fl) (ic, qn, 0, 0) 108) h).2.1 h) (fdB f (flC f fl) (fa_fill (frG (flC f fl) (frM f (flC f fl) he mtt fz nx hh).1.2.2.1) (frM f (flC f fl) he mtt fz nx hh).1.2.2.1 108) (fdA f (flC f fl) (ic, qn, 0, 0) 108) h) i).2.1 (fdH f (flC f fl) (fa_fill (frG (flC f fl) (frM f (flC f fl) he mtt fz nx hh).1.2.2.1) (frM f (flC f fl) he mtt fz nx hh).1.2.2.1 108) ((fdB f (flC f fl) (fa_fill (frG (flC f fl) (frM f (flC f fl) he mtt fz nx hh).1.2.2.1) (frM f (flC f fl) he mtt fz nx hh).1.2.2.1 108) (fdA f (flC f fl) (ic, qn, 0, 0) 108) h).2.1 h) (fdB f (flC f fl) (fa_fill (frG (flC f fl) (frM f (flC f fl) he mtt fz nx hh).1.2.2.1) (frM f (flC f fl) he mtt fz nx hh).1.2.2.1 108) (fdA f (flC f fl) (ic, qn, 0, 0) 108) h) i).2.2.1 o k)) (by rw [nI_clamp (by omega)]; exact upd_qn) (cs' := [(m, .inr (12, [.int th, .ref mp, .int pt, .ref mf, .ref mh, .ref mn, .ref mt, .ref mz, .ref mc_, .ref mq, .ref mgr, .int cl, .int wa, .int co_, .int fi, .int bu, .int ho, .ref ml, .ref mi, .ref mr, .int lh, .int mg, .int wd, .int fpi, .int fal, .ref mm, .ref mu, .ref mk, .ref mx, .long po, .long de])), (b, .inl (1, 108, .inl f)), (mf, .inl (0, 108, .inl (flC f fl))), (mh, .inl (0, 108, .inl ((frM f (flC f fl) he mtt fz nx hh).1.1))), (mt, .inl (0, 108, .inl ((frM f (flC f fl) he mtt fz nx hh).1.2.1))), (mz, .inl (0, 108, .inl (fa_fill (frG (flC f fl) (frM f (flC f fl) he mtt fz nx hh).1.2.2.1) (frM f (flC f fl) he mtt fz nx hh).1.2.2.1 108))), (mn, .inl (0, 108, .inl ((frM f (flC f fl) he mtt fz nx hh).2))), (mc_, .inl (2, 108, .inl (upd (fdH f (flC f fl) (fa_fill (frG (flC f fl) (frM f (flC f fl) he mtt fz nx hh).1.2.2.1) (frM f (flC f fl) he mtt fz nx hh).1.2.2.1 108) ((fdB f (flC f fl) (fa_fill (frG (flC f fl) (frM f (flC f fl) he mtt fz nx hh).1.2.2.1) (frM f (flC f fl) he mtt fz nx hh).1.2.2.1 108) (fdA f (flC f fl) (ic, qn, 0, 0) 108) h).2.1 h) (fdB f (flC f fl) (fa_fill (frG (flC f fl) (frM f (flC f fl) he mtt fz nx hh).1.2.2.1) (frM f (flC f fl) he mtt fz nx hh).1.2.2.1 108) (fdA f (flC f fl) (ic, qn, 0, 0) 108) h) i).1 o 1))), (mq, .inl (0, 108, .inl (fun k => nI (updN (fdH f (flC f fl) (fa_fill (frG (flC f fl) (frM f (flC f fl) he mtt fz nx hh).1.2.2.1) (frM f (flC f fl) he mtt fz nx hh).1.2.2.1 108) ((fdB f (flC f fl) (fa_fill (frG (flC f fl) (frM f (flC f fl) he mtt fz nx hh).1.2.2.1) (frM f (flC f fl) he mtt fz nx hh).1.2.2.1 108) (fdA f (flC f fl) (ic, qn, 0, 0) 108) h).2.1 h) (fdB f (flC f fl) (fa_fill (frG (flC f fl) (frM f (flC f fl) he mtt fz nx hh).1.2.2.1) (frM f (flC f fl) he mtt fz nx hh).1.2.2.1 108) (fdA f (flC f fl) (ic, qn, 0, 0) 108) h) i).2.1 (fdH f (flC f fl) (fa_fill (frG (flC f fl) (frM f (flC f fl) he mtt fz nx hh).1.2.2.1) (frM f (flC f fl) he mtt fz nx hh).1.2.2.1 108) ((fdB f (flC f fl) (fa_fill (frG (flC f fl) (frM f (flC f fl) he mtt fz nx hh).1.2.2.1) (frM f (flC f fl) he mtt fz nx hh).1.2.2.1 108) (fdA f (flC f fl) (ic, qn, 0, 0) 108) h).2.1 h) (fdB f (flC f fl) (fa_fill (frG (flC f fl) (frM f (flC f fl) he mtt fz nx hh).1.2.2.1) (frM f (flC f fl) he mtt fz nx hh).1.2.2.1 108) (fdA f (flC f fl) (ic, qn, 0, 0) 108) h) i).2.2.1 o k))))]) rfl ?_
                          refine r_iinc (lv' := [(3, .int (nI ((fdH f (flC f fl) (fa_fill (frG (flC f fl) (frM f (flC f fl) he mtt fz nx hh).1.2.2.1) (frM f (flC f fl) he mtt fz nx hh).1.2.2.1 108) ((fdB f (flC f fl) (fa_fill (frG (flC f fl) (frM f (flC f fl) he mtt fz nx hh).1.2.2.1) (frM f (flC f fl) he mtt fz nx hh).1.2.2.1 108) (fdA f (flC f fl) (ic, qn, 0, 0) 108) h).2.1 h) (fdB f (flC f fl) (fa_fill (frG (flC f fl) (frM f (flC f fl) he mtt fz nx hh).1.2.2.1) (frM f (flC f fl) he mtt fz nx hh).1.2.2.1 108) (fdA f (flC f fl) (ic, qn, 0, 0) 108) h) i).2.2.1 + 1))), (4, .int (((fdH f (flC f fl) (fa_fill (frG (flC f fl) (frM f (flC f fl) he mtt fz nx hh).1.2.2.1) (frM f (flC f fl) he mtt fz nx hh).1.2.2.1 108) ((fdB f (flC f fl) (fa_fill (frG (flC f fl) (frM f (flC f fl) he mtt fz nx hh).1.2.2.1) (frM f (flC f fl) he mtt fz nx hh).1.2.2.1 108) (fdA f (flC f fl) (ic, qn, 0, 0) 108) h).2.1 h) (fdB f (flC f fl) (fa_fill (frG (flC f fl) (frM f (flC f fl) he mtt fz nx hh).1.2.2.1) (frM f (flC f fl) he mtt fz nx hh).1.2.2.1 108) (fdA f (flC f fl) (ic, qn, 0, 0) 108) h) i).2.2.2) + -1)), (8, .int 1), (7, .int (nI o)), (6, .int (nI i)), (5, .int (nI h)), (0, .ref m), (1, .ref b), (2, .int hh)]) (v := nI ((fdH f (flC f fl) (fa_fill (frG (flC f fl) (frM f (flC f fl) he mtt fz nx hh).1.2.2.1) (frM f (flC f fl) he mtt fz nx hh).1.2.2.1 108) ((fdB f (flC f fl) (fa_fill (frG (flC f fl) (frM f (flC f fl) he mtt fz nx hh).1.2.2.1) (frM f (flC f fl) he mtt fz nx hh).1.2.2.1 108) (fdA f (flC f fl) (ic, qn, 0, 0) 108) h).2.1 h) (fdB f (flC f fl) (fa_fill (frG (flC f fl) (frM f (flC f fl) he mtt fz nx hh).1.2.2.1) (frM f (flC f fl) he mtt fz nx hh).1.2.2.1 108) (fdA f (flC f fl) (ic, qn, 0, 0) 108) h) i).2.2.1 + 1)) d_Mm_feed_235 (j := 5) rfl (nI_add _ _) (by decide) rfl ?_
                          refine r_iinc (lv' := [(6, .int (nI (i + 1))), (3, .int (nI ((fdH f (flC f fl) (fa_fill (frG (flC f fl) (frM f (flC f fl) he mtt fz nx hh).1.2.2.1) (frM f (flC f fl) he mtt fz nx hh).1.2.2.1 108) ((fdB f (flC f fl) (fa_fill (frG (flC f fl) (frM f (flC f fl) he mtt fz nx hh).1.2.2.1) (frM f (flC f fl) he mtt fz nx hh).1.2.2.1 108) (fdA f (flC f fl) (ic, qn, 0, 0) 108) h).2.1 h) (fdB f (flC f fl) (fa_fill (frG (flC f fl) (frM f (flC f fl) he mtt fz nx hh).1.2.2.1) (frM f (flC f fl) he mtt fz nx hh).1.2.2.1 108) (fdA f (flC f fl) (ic, qn, 0, 0) 108) h) i).2.2.1 + 1))), (4, .int (((fdH f (flC f fl) (fa_fill (frG (flC f fl) (frM f (flC f fl) he mtt fz nx hh).1.2.2.1) (frM f (flC f fl) he mtt fz nx hh).1.2.2.1 108) ((fdB f (flC f fl) (fa_fill (frG (flC f fl) (frM f (flC f fl) he mtt fz nx hh).1.2.2.1) (frM f (flC f fl) he mtt fz nx hh).1.2.2.1 108) (fdA f (flC f fl) (ic, qn, 0, 0) 108) h).2.1 h) (fdB f (flC f fl) (fa_fill (frG (flC f fl) (frM f (flC f fl) he mtt fz nx hh).1.2.2.1) (frM f (flC f fl) he mtt fz nx hh).1.2.2.1 108) (fdA f (flC f fl) (ic, qn, 0, 0) 108) h) i).2.2.2) + -1)), (8, .int 1), (7, .int (nI o)), (5, .int (nI h)), (0, .ref m), (1, .ref b), (2, .int hh)]) (v := nI (i + 1)) d_Mm_feed_238 (j := 4) rfl (nI_add _ _) (by decide) rfl ?_
                          refine r_goto (tgt := 95) d_Mm_feed_241 (by decide) ?_
                          refine r_lv (lv' := [(6, .int (nI (i + 1))), (5, .int (nI h)), (4, .int (((fdH f (flC f fl) (fa_fill (frG (flC f fl) (frM f (flC f fl) he mtt fz nx hh).1.2.2.1) (frM f (flC f fl) he mtt fz nx hh).1.2.2.1 108) ((fdB f (flC f fl) (fa_fill (frG (flC f fl) (frM f (flC f fl) he mtt fz nx hh).1.2.2.1) (frM f (flC f fl) he mtt fz nx hh).1.2.2.1 108) (fdA f (flC f fl) (ic, qn, 0, 0) 108) h).2.1 h) (fdB f (flC f fl) (fa_fill (frG (flC f fl) (frM f (flC f fl) he mtt fz nx hh).1.2.2.1) (frM f (flC f fl) he mtt fz nx hh).1.2.2.1 108) (fdA f (flC f fl) (ic, qn, 0, 0) 108) h) i).2.2.2) + -1)), (3, .int (nI ((fdH f (flC f fl) (fa_fill (frG (flC f fl) (frM f (flC f fl) he mtt fz nx hh).1.2.2.1) (frM f (flC f fl) he mtt fz nx hh).1.2.2.1 108) ((fdB f (flC f fl) (fa_fill (frG (flC f fl) (frM f (flC f fl) he mtt fz nx hh).1.2.2.1) (frM f (flC f fl) he mtt fz nx hh).1.2.2.1 108) (fdA f (flC f fl) (ic, qn, 0, 0) 108) h).2.1 h) (fdB f (flC f fl) (fa_fill (frG (flC f fl) (frM f (flC f fl) he mtt fz nx hh).1.2.2.1) (frM f (flC f fl) he mtt fz nx hh).1.2.2.1 108) (fdA f (flC f fl) (ic, qn, 0, 0) 108) h) i).2.2.1 + 1))), (0, .ref m), (1, .ref b), (2, .int hh)]) [0, 5, 2, 1, 6, 7, 8] rfl ?_
                          refine r_lvE (lv2 := [(6, .int (nI (i + 1))), (5, .int (nI h)), (4, .int ((fdH f (flC f fl) (fa_fill (frG (flC f fl) (frM f (flC f fl) he mtt fz nx hh).1.2.2.1) (frM f (flC f fl) he mtt fz nx hh).1.2.2.1 108) ((fdB f (flC f fl) (fa_fill (frG (flC f fl) (frM f (flC f fl) he mtt fz nx hh).1.2.2.1) (frM f (flC f fl) he mtt fz nx hh).1.2.2.1 108) (fdA f (flC f fl) (ic, qn, 0, 0) 108) h).2.1 h) (fdB f (flC f fl) (fa_fill (frG (flC f fl) (frM f (flC f fl) he mtt fz nx hh).1.2.2.1) (frM f (flC f fl) he mtt fz nx hh).1.2.2.1 108) (fdA f (flC f fl) (ic, qn, 0, 0) 108) h) (i + 1)).2.2.2)), (3, .int (nI (fdH f (flC f fl) (fa_fill (frG (flC f fl) (frM f (flC f fl) he mtt fz nx hh).1.2.2.1) (frM f (flC f fl) he mtt fz nx hh).1.2.2.1 108) ((fdB f (flC f fl) (fa_fill (frG (flC f fl) (frM f (flC f fl) he mtt fz nx hh).1.2.2.1) (frM f (flC f fl) he mtt fz nx hh).1.2.2.1 108) (fdA f (flC f fl) (ic, qn, 0, 0) 108) h).2.1 h) (fdB f (flC f fl) (fa_fill (frG (flC f fl) (frM f (flC f fl) he mtt fz nx hh).1.2.2.1) (frM f (flC f fl) he mtt fz nx hh).1.2.2.1 108) (fdA f (flC f fl) (ic, qn, 0, 0) 108) h) (i + 1)).2.2.1)), (0, .ref m), (1, .ref b), (2, .int hh)]) (by first | exact absurd c_192 c_216 | exact absurd c_216 c_192 | (rw [show (fdH f (flC f fl) (fa_fill (frG (flC f fl) (frM f (flC f fl) he mtt fz nx hh).1.2.2.1) (frM f (flC f fl) he mtt fz nx hh).1.2.2.1 108) ((fdB f (flC f fl) (fa_fill (frG (flC f fl) (frM f (flC f fl) he mtt fz nx hh).1.2.2.1) (frM f (flC f fl) he mtt fz nx hh).1.2.2.1 108) (fdA f (flC f fl) (ic, qn, 0, 0) 108) h).2.1 h) (fdB f (flC f fl) (fa_fill (frG (flC f fl) (frM f (flC f fl) he mtt fz nx hh).1.2.2.1) (frM f (flC f fl) he mtt fz nx hh).1.2.2.1 108) (fdA f (flC f fl) (ic, qn, 0, 0) 108) h) (i + 1)) = fdI f (flC f fl) (fa_fill (frG (flC f fl) (frM f (flC f fl) he mtt fz nx hh).1.2.2.1) (frM f (flC f fl) he mtt fz nx hh).1.2.2.1 108) ((fdB f (flC f fl) (fa_fill (frG (flC f fl) (frM f (flC f fl) he mtt fz nx hh).1.2.2.1) (frM f (flC f fl) he mtt fz nx hh).1.2.2.1 108) (fdA f (flC f fl) (ic, qn, 0, 0) 108) h).2.1 h) i (fdH f (flC f fl) (fa_fill (frG (flC f fl) (frM f (flC f fl) he mtt fz nx hh).1.2.2.1) (frM f (flC f fl) he mtt fz nx hh).1.2.2.1 108) ((fdB f (flC f fl) (fa_fill (frG (flC f fl) (frM f (flC f fl) he mtt fz nx hh).1.2.2.1) (frM f (flC f fl) he mtt fz nx hh).1.2.2.1 108) (fdA f (flC f fl) (ic, qn, 0, 0) 108) h).2.1 h) (fdB f (flC f fl) (fa_fill (frG (flC f fl) (frM f (flC f fl) he mtt fz nx hh).1.2.2.1) (frM f (flC f fl) he mtt fz nx hh).1.2.2.1 108) (fdA f (flC f fl) (ic, qn, 0, 0) 108) h) i) from rfl, hk] <;> rfl)) ?_
                          refine r_cs (cs2 := [(m, .inr (12, [.int th, .ref mp, .int pt, .ref mf, .ref mh, .ref mn, .ref mt, .ref mz, .ref mc_, .ref mq, .ref mgr, .int cl, .int wa, .int co_, .int fi, .int bu, .int ho, .ref ml, .ref mi, .ref mr, .int lh, .int mg, .int wd, .int fpi, .int fal, .ref mm, .ref mu, .ref mk, .ref mx, .long po, .long de])), (b, .inl (1, 108, .inl f)), (mf, .inl (0, 108, .inl (flC f fl))), (mh, .inl (0, 108, .inl ((frM f (flC f fl) he mtt fz nx hh).1.1))), (mt, .inl (0, 108, .inl ((frM f (flC f fl) he mtt fz nx hh).1.2.1))), (mz, .inl (0, 108, .inl (fa_fill (frG (flC f fl) (frM f (flC f fl) he mtt fz nx hh).1.2.2.1) (frM f (flC f fl) he mtt fz nx hh).1.2.2.1 108))), (mn, .inl (0, 108, .inl ((frM f (flC f fl) he mtt fz nx hh).2))), (mc_, .inl (2, 108, .inl ((fdH f (flC f fl) (fa_fill (frG (flC f fl) (frM f (flC f fl) he mtt fz nx hh).1.2.2.1) (frM f (flC f fl) he mtt fz nx hh).1.2.2.1 108) ((fdB f (flC f fl) (fa_fill (frG (flC f fl) (frM f (flC f fl) he mtt fz nx hh).1.2.2.1) (frM f (flC f fl) he mtt fz nx hh).1.2.2.1 108) (fdA f (flC f fl) (ic, qn, 0, 0) 108) h).2.1 h) (fdB f (flC f fl) (fa_fill (frG (flC f fl) (frM f (flC f fl) he mtt fz nx hh).1.2.2.1) (frM f (flC f fl) he mtt fz nx hh).1.2.2.1 108) (fdA f (flC f fl) (ic, qn, 0, 0) 108) h) (i + 1)).1))), (mq, .inl (0, 108, .inl (fun k => nI ((fdH f (flC f fl) (fa_fill (frG (flC f fl) (frM f (flC f fl) he mtt fz nx hh).1.2.2.1) (frM f (flC f fl) he mtt fz nx hh).1.2.2.1 108) ((fdB f (flC f fl) (fa_fill (frG (flC f fl) (frM f (flC f fl) he mtt fz nx hh).1.2.2.1) (frM f (flC f fl) he mtt fz nx hh).1.2.2.1 108) (fdA f (flC f fl) (ic, qn, 0, 0) 108) h).2.1 h) (fdB f (flC f fl) (fa_fill (frG (flC f fl) (frM f (flC f fl) he mtt fz nx hh).1.2.2.1) (frM f (flC f fl) he mtt fz nx hh).1.2.2.1 108) (fdA f (flC f fl) (ic, qn, 0, 0) 108) h) (i + 1)).2.1 k))))]) (by first | exact absurd c_192 c_216 | exact absurd c_216 c_192 | (rw [show (fdH f (flC f fl) (fa_fill (frG (flC f fl) (frM f (flC f fl) he mtt fz nx hh).1.2.2.1) (frM f (flC f fl) he mtt fz nx hh).1.2.2.1 108) ((fdB f (flC f fl) (fa_fill (frG (flC f fl) (frM f (flC f fl) he mtt fz nx hh).1.2.2.1) (frM f (flC f fl) he mtt fz nx hh).1.2.2.1 108) (fdA f (flC f fl) (ic, qn, 0, 0) 108) h).2.1 h) (fdB f (flC f fl) (fa_fill (frG (flC f fl) (frM f (flC f fl) he mtt fz nx hh).1.2.2.1) (frM f (flC f fl) he mtt fz nx hh).1.2.2.1 108) (fdA f (flC f fl) (ic, qn, 0, 0) 108) h) (i + 1)) = fdI f (flC f fl) (fa_fill (frG (flC f fl) (frM f (flC f fl) he mtt fz nx hh).1.2.2.1) (frM f (flC f fl) he mtt fz nx hh).1.2.2.1 108) ((fdB f (flC f fl) (fa_fill (frG (flC f fl) (frM f (flC f fl) he mtt fz nx hh).1.2.2.1) (frM f (flC f fl) he mtt fz nx hh).1.2.2.1 108) (fdA f (flC f fl) (ic, qn, 0, 0) 108) h).2.1 h) i (fdH f (flC f fl) (fa_fill (frG (flC f fl) (frM f (flC f fl) he mtt fz nx hh).1.2.2.1) (frM f (flC f fl) he mtt fz nx hh).1.2.2.1 108) ((fdB f (flC f fl) (fa_fill (frG (flC f fl) (frM f (flC f fl) he mtt fz nx hh).1.2.2.1) (frM f (flC f fl) he mtt fz nx hh).1.2.2.1 108) (fdA f (flC f fl) (ic, qn, 0, 0) 108) h).2.1 h) (fdB f (flC f fl) (fa_fill (frG (flC f fl) (frM f (flC f fl) he mtt fz nx hh).1.2.2.1) (frM f (flC f fl) he mtt fz nx hh).1.2.2.1 108) (fdA f (flC f fl) (ic, qn, 0, 0) 108) h) i) from rfl, hk] <;> rfl)) ?_
                          exact ih (i + 1) (by omega) (by omega)
                      · refine r_iload d_Mm_feed_195 4 rfl ?_
                        refine r_if_le (tgt := 238) d_Mm_feed_197 (by decide) (fun c_197 => ?_) (fun c_197 => ?_)
                        · have hk := hk0.trans (fdJ_1 hcf c_192 (dI_z hdi.2 c_197))
                          refine r_iinc (lv' := [(6, .int (nI (i + 1))), (8, .int 1), (7, .int (nI o)), (5, .int (nI h)), (4, .int ((fdH f (flC f fl) (fa_fill (frG (flC f fl) (frM f (flC f fl) he mtt fz nx hh).1.2.2.1) (frM f (flC f fl) he mtt fz nx hh).1.2.2.1 108) ((fdB f (flC f fl) (fa_fill (frG (flC f fl) (frM f (flC f fl) he mtt fz nx hh).1.2.2.1) (frM f (flC f fl) he mtt fz nx hh).1.2.2.1 108) (fdA f (flC f fl) (ic, qn, 0, 0) 108) h).2.1 h) (fdB f (flC f fl) (fa_fill (frG (flC f fl) (frM f (flC f fl) he mtt fz nx hh).1.2.2.1) (frM f (flC f fl) he mtt fz nx hh).1.2.2.1 108) (fdA f (flC f fl) (ic, qn, 0, 0) 108) h) i).2.2.2)), (3, .int (nI (fdH f (flC f fl) (fa_fill (frG (flC f fl) (frM f (flC f fl) he mtt fz nx hh).1.2.2.1) (frM f (flC f fl) he mtt fz nx hh).1.2.2.1 108) ((fdB f (flC f fl) (fa_fill (frG (flC f fl) (frM f (flC f fl) he mtt fz nx hh).1.2.2.1) (frM f (flC f fl) he mtt fz nx hh).1.2.2.1 108) (fdA f (flC f fl) (ic, qn, 0, 0) 108) h).2.1 h) (fdB f (flC f fl) (fa_fill (frG (flC f fl) (frM f (flC f fl) he mtt fz nx hh).1.2.2.1) (frM f (flC f fl) he mtt fz nx hh).1.2.2.1 108) (fdA f (flC f fl) (ic, qn, 0, 0) 108) h) i).2.2.1)), (0, .ref m), (1, .ref b), (2, .int hh)]) (v := nI (i + 1)) d_Mm_feed_238 (j := 2) rfl (nI_add _ _) (by decide) rfl ?_
                          refine r_goto (tgt := 95) d_Mm_feed_241 (by decide) ?_
                          refine r_lv (lv' := [(6, .int (nI (i + 1))), (5, .int (nI h)), (4, .int ((fdH f (flC f fl) (fa_fill (frG (flC f fl) (frM f (flC f fl) he mtt fz nx hh).1.2.2.1) (frM f (flC f fl) he mtt fz nx hh).1.2.2.1 108) ((fdB f (flC f fl) (fa_fill (frG (flC f fl) (frM f (flC f fl) he mtt fz nx hh).1.2.2.1) (frM f (flC f fl) he mtt fz nx hh).1.2.2.1 108) (fdA f (flC f fl) (ic, qn, 0, 0) 108) h).2.1 h) (fdB f (flC f fl) (fa_fill (frG (flC f fl) (frM f (flC f fl) he mtt fz nx hh).1.2.2.1) (frM f (flC f fl) he mtt fz nx hh).1.2.2.1 108) (fdA f (flC f fl) (ic, qn, 0, 0) 108) h) i).2.2.2)), (3, .int (nI (fdH f (flC f fl) (fa_fill (frG (flC f fl) (frM f (flC f fl) he mtt fz nx hh).1.2.2.1) (frM f (flC f fl) he mtt fz nx hh).1.2.2.1 108) ((fdB f (flC f fl) (fa_fill (frG (flC f fl) (frM f (flC f fl) he mtt fz nx hh).1.2.2.1) (frM f (flC f fl) he mtt fz nx hh).1.2.2.1 108) (fdA f (flC f fl) (ic, qn, 0, 0) 108) h).2.1 h) (fdB f (flC f fl) (fa_fill (frG (flC f fl) (frM f (flC f fl) he mtt fz nx hh).1.2.2.1) (frM f (flC f fl) he mtt fz nx hh).1.2.2.1 108) (fdA f (flC f fl) (ic, qn, 0, 0) 108) h) i).2.2.1)), (0, .ref m), (1, .ref b), (2, .int hh)]) [0, 3, 4, 5, 6, 7, 8] rfl ?_
                          refine r_lvE (lv2 := [(6, .int (nI (i + 1))), (5, .int (nI h)), (4, .int ((fdH f (flC f fl) (fa_fill (frG (flC f fl) (frM f (flC f fl) he mtt fz nx hh).1.2.2.1) (frM f (flC f fl) he mtt fz nx hh).1.2.2.1 108) ((fdB f (flC f fl) (fa_fill (frG (flC f fl) (frM f (flC f fl) he mtt fz nx hh).1.2.2.1) (frM f (flC f fl) he mtt fz nx hh).1.2.2.1 108) (fdA f (flC f fl) (ic, qn, 0, 0) 108) h).2.1 h) (fdB f (flC f fl) (fa_fill (frG (flC f fl) (frM f (flC f fl) he mtt fz nx hh).1.2.2.1) (frM f (flC f fl) he mtt fz nx hh).1.2.2.1 108) (fdA f (flC f fl) (ic, qn, 0, 0) 108) h) (i + 1)).2.2.2)), (3, .int (nI (fdH f (flC f fl) (fa_fill (frG (flC f fl) (frM f (flC f fl) he mtt fz nx hh).1.2.2.1) (frM f (flC f fl) he mtt fz nx hh).1.2.2.1 108) ((fdB f (flC f fl) (fa_fill (frG (flC f fl) (frM f (flC f fl) he mtt fz nx hh).1.2.2.1) (frM f (flC f fl) he mtt fz nx hh).1.2.2.1 108) (fdA f (flC f fl) (ic, qn, 0, 0) 108) h).2.1 h) (fdB f (flC f fl) (fa_fill (frG (flC f fl) (frM f (flC f fl) he mtt fz nx hh).1.2.2.1) (frM f (flC f fl) he mtt fz nx hh).1.2.2.1 108) (fdA f (flC f fl) (ic, qn, 0, 0) 108) h) (i + 1)).2.2.1)), (0, .ref m), (1, .ref b), (2, .int hh)]) (by first | exact absurd c_192 c_216 | exact absurd c_216 c_192 | (rw [show (fdH f (flC f fl) (fa_fill (frG (flC f fl) (frM f (flC f fl) he mtt fz nx hh).1.2.2.1) (frM f (flC f fl) he mtt fz nx hh).1.2.2.1 108) ((fdB f (flC f fl) (fa_fill (frG (flC f fl) (frM f (flC f fl) he mtt fz nx hh).1.2.2.1) (frM f (flC f fl) he mtt fz nx hh).1.2.2.1 108) (fdA f (flC f fl) (ic, qn, 0, 0) 108) h).2.1 h) (fdB f (flC f fl) (fa_fill (frG (flC f fl) (frM f (flC f fl) he mtt fz nx hh).1.2.2.1) (frM f (flC f fl) he mtt fz nx hh).1.2.2.1 108) (fdA f (flC f fl) (ic, qn, 0, 0) 108) h) (i + 1)) = fdI f (flC f fl) (fa_fill (frG (flC f fl) (frM f (flC f fl) he mtt fz nx hh).1.2.2.1) (frM f (flC f fl) he mtt fz nx hh).1.2.2.1 108) ((fdB f (flC f fl) (fa_fill (frG (flC f fl) (frM f (flC f fl) he mtt fz nx hh).1.2.2.1) (frM f (flC f fl) he mtt fz nx hh).1.2.2.1 108) (fdA f (flC f fl) (ic, qn, 0, 0) 108) h).2.1 h) i (fdH f (flC f fl) (fa_fill (frG (flC f fl) (frM f (flC f fl) he mtt fz nx hh).1.2.2.1) (frM f (flC f fl) he mtt fz nx hh).1.2.2.1 108) ((fdB f (flC f fl) (fa_fill (frG (flC f fl) (frM f (flC f fl) he mtt fz nx hh).1.2.2.1) (frM f (flC f fl) he mtt fz nx hh).1.2.2.1 108) (fdA f (flC f fl) (ic, qn, 0, 0) 108) h).2.1 h) (fdB f (flC f fl) (fa_fill (frG (flC f fl) (frM f (flC f fl) he mtt fz nx hh).1.2.2.1) (frM f (flC f fl) he mtt fz nx hh).1.2.2.1 108) (fdA f (flC f fl) (ic, qn, 0, 0) 108) h) i) from rfl, hk] <;> rfl)) ?_
                          refine r_cs (cs2 := [(m, .inr (12, [.int th, .ref mp, .int pt, .ref mf, .ref mh, .ref mn, .ref mt, .ref mz, .ref mc_, .ref mq, .ref mgr, .int cl, .int wa, .int co_, .int fi, .int bu, .int ho, .ref ml, .ref mi, .ref mr, .int lh, .int mg, .int wd, .int fpi, .int fal, .ref mm, .ref mu, .ref mk, .ref mx, .long po, .long de])), (b, .inl (1, 108, .inl f)), (mf, .inl (0, 108, .inl (flC f fl))), (mh, .inl (0, 108, .inl ((frM f (flC f fl) he mtt fz nx hh).1.1))), (mt, .inl (0, 108, .inl ((frM f (flC f fl) he mtt fz nx hh).1.2.1))), (mz, .inl (0, 108, .inl (fa_fill (frG (flC f fl) (frM f (flC f fl) he mtt fz nx hh).1.2.2.1) (frM f (flC f fl) he mtt fz nx hh).1.2.2.1 108))), (mn, .inl (0, 108, .inl ((frM f (flC f fl) he mtt fz nx hh).2))), (mc_, .inl (2, 108, .inl ((fdH f (flC f fl) (fa_fill (frG (flC f fl) (frM f (flC f fl) he mtt fz nx hh).1.2.2.1) (frM f (flC f fl) he mtt fz nx hh).1.2.2.1 108) ((fdB f (flC f fl) (fa_fill (frG (flC f fl) (frM f (flC f fl) he mtt fz nx hh).1.2.2.1) (frM f (flC f fl) he mtt fz nx hh).1.2.2.1 108) (fdA f (flC f fl) (ic, qn, 0, 0) 108) h).2.1 h) (fdB f (flC f fl) (fa_fill (frG (flC f fl) (frM f (flC f fl) he mtt fz nx hh).1.2.2.1) (frM f (flC f fl) he mtt fz nx hh).1.2.2.1 108) (fdA f (flC f fl) (ic, qn, 0, 0) 108) h) (i + 1)).1))), (mq, .inl (0, 108, .inl (fun k => nI ((fdH f (flC f fl) (fa_fill (frG (flC f fl) (frM f (flC f fl) he mtt fz nx hh).1.2.2.1) (frM f (flC f fl) he mtt fz nx hh).1.2.2.1 108) ((fdB f (flC f fl) (fa_fill (frG (flC f fl) (frM f (flC f fl) he mtt fz nx hh).1.2.2.1) (frM f (flC f fl) he mtt fz nx hh).1.2.2.1 108) (fdA f (flC f fl) (ic, qn, 0, 0) 108) h).2.1 h) (fdB f (flC f fl) (fa_fill (frG (flC f fl) (frM f (flC f fl) he mtt fz nx hh).1.2.2.1) (frM f (flC f fl) he mtt fz nx hh).1.2.2.1 108) (fdA f (flC f fl) (ic, qn, 0, 0) 108) h) (i + 1)).2.1 k))))]) (by first | exact absurd c_192 c_216 | exact absurd c_216 c_192 | (rw [show (fdH f (flC f fl) (fa_fill (frG (flC f fl) (frM f (flC f fl) he mtt fz nx hh).1.2.2.1) (frM f (flC f fl) he mtt fz nx hh).1.2.2.1 108) ((fdB f (flC f fl) (fa_fill (frG (flC f fl) (frM f (flC f fl) he mtt fz nx hh).1.2.2.1) (frM f (flC f fl) he mtt fz nx hh).1.2.2.1 108) (fdA f (flC f fl) (ic, qn, 0, 0) 108) h).2.1 h) (fdB f (flC f fl) (fa_fill (frG (flC f fl) (frM f (flC f fl) he mtt fz nx hh).1.2.2.1) (frM f (flC f fl) he mtt fz nx hh).1.2.2.1 108) (fdA f (flC f fl) (ic, qn, 0, 0) 108) h) (i + 1)) = fdI f (flC f fl) (fa_fill (frG (flC f fl) (frM f (flC f fl) he mtt fz nx hh).1.2.2.1) (frM f (flC f fl) he mtt fz nx hh).1.2.2.1 108) ((fdB f (flC f fl) (fa_fill (frG (flC f fl) (frM f (flC f fl) he mtt fz nx hh).1.2.2.1) (frM f (flC f fl) he mtt fz nx hh).1.2.2.1 108) (fdA f (flC f fl) (ic, qn, 0, 0) 108) h).2.1 h) i (fdH f (flC f fl) (fa_fill (frG (flC f fl) (frM f (flC f fl) he mtt fz nx hh).1.2.2.1) (frM f (flC f fl) he mtt fz nx hh).1.2.2.1 108) ((fdB f (flC f fl) (fa_fill (frG (flC f fl) (frM f (flC f fl) he mtt fz nx hh).1.2.2.1) (frM f (flC f fl) he mtt fz nx hh).1.2.2.1 108) (fdA f (flC f fl) (ic, qn, 0, 0) 108) h).2.1 h) (fdB f (flC f fl) (fa_fill (frG (flC f fl) (frM f (flC f fl) he mtt fz nx hh).1.2.2.1) (frM f (flC f fl) he mtt fz nx hh).1.2.2.1 108) (fdA f (flC f fl) (ic, qn, 0, 0) 108) h) i) from rfl, hk] <;> rfl)) ?_
                          exact ih (i + 1) (by omega) (by omega)
                        · have hk := hk0.trans (fdJ_2 hcf c_192 (fun q => c_197 (by rw [q]; decide)))
                          refine r_aload_n d_Mm_feed_200 rfl 6 rfl ?_
                          refine r_get fs_Mm_33 d_Mm_feed_201 (q0 := 0) rfl rfl ?_
                          refine r_iload d_Mm_feed_204 1 rfl ?_
                          refine r_iconst d_Mm_feed_206 (v := 1) (by decide) ?_
                          refine r_zast d_Mm_feed_207 (q0 := 7) rfl (vp_in_nI (by omega) (by omega)) (f' := upd (fdH f (flC f fl) (fa_fill (frG (flC f fl) (frM f (flC f fl) he mtt fz nx hh).1.2.2.1) (frM f (flC f fl) he mtt fz nx hh).1.2.2.1 108) ((fdB f (flC f fl) (fa_fill (frG (flC f fl) (frM f (flC f fl) he mtt fz nx hh).1.2.2.1) (frM f (flC f fl) he mtt fz nx hh).1.2.2.1 108) (fdA f (flC f fl) (ic, qn, 0, 0) 108) h).2.1 h) (fdB f (flC f fl) (fa_fill (frG (flC f fl) (frM f (flC f fl) he mtt fz nx hh).1.2.2.1) (frM f (flC f fl) he mtt fz nx hh).1.2.2.1 108) (fdA f (flC f fl) (ic, qn, 0, 0) 108) h) i).1 o 1) (by rw [nI_clamp (by omega)] <;> rfl) (cs' := [(m, .inr (12, [.int th, .ref mp, .int pt, .ref mf, .ref mh, .ref mn, .ref mt, .ref mz, .ref mc_, .ref mq, .ref mgr, .int cl, .int wa, .int co_, .int fi, .int bu, .int ho, .ref ml, .ref mi, .ref mr, .int lh, .int mg, .int wd, .int fpi, .int fal, .ref mm, .ref mu, .ref mk, .ref mx, .long po, .long de])), (b, .inl (1, 108, .inl f)), (mf, .inl (0, 108, .inl (flC f fl))), (mh, .inl (0, 108, .inl ((frM f (flC f fl) he mtt fz nx hh).1.1))), (mt, .inl (0, 108, .inl ((frM f (flC f fl) he mtt fz nx hh).1.2.1))), (mz, .inl (0, 108, .inl (fa_fill (frG (flC f fl) (frM f (flC f fl) he mtt fz nx hh).1.2.2.1) (frM f (flC f fl) he mtt fz nx hh).1.2.2.1 108))), (mn, .inl (0, 108, .inl ((frM f (flC f fl) he mtt fz nx hh).2))), (mc_, .inl (2, 108, .inl (upd (fdH f (flC f fl) (fa_fill (frG (flC f fl) (frM f (flC f fl) he mtt fz nx hh).1.2.2.1) (frM f (flC f fl) he mtt fz nx hh).1.2.2.1 108) ((fdB f (flC f fl) (fa_fill (frG (flC f fl) (frM f (flC f fl) he mtt fz nx hh).1.2.2.1) (frM f (flC f fl) he mtt fz nx hh).1.2.2.1 108) (fdA f (flC f fl) (ic, qn, 0, 0) 108) h).2.1 h) (fdB f (flC f fl) (fa_fill (frG (flC f fl) (frM f (flC f fl) he mtt fz nx hh).1.2.2.1) (frM f (flC f fl) he mtt fz nx hh).1.2.2.1 108) (fdA f (flC f fl) (ic, qn, 0, 0) 108) h) i).1 o 1))), (mq, .inl (0, 108, .inl (fun k => nI ((fdH f (flC f fl) (fa_fill (frG (flC f fl) (frM f (flC f fl) he mtt fz nx hh).1.2.2.1) (frM f (flC f fl) he mtt fz nx hh).1.2.2.1 108) ((fdB f (flC f fl) (fa_fill (frG (flC f fl) (frM f (flC f fl) he mtt fz nx hh).1.2.2.1) (frM f (flC f fl) he mtt fz nx hh).1.2.2.1 108) (fdA f (flC f fl) (ic, qn, 0, 0) 108) h).2.1 h) (fdB f (flC f fl) (fa_fill (frG (flC f fl) (frM f (flC f fl) he mtt fz nx hh).1.2.2.1) (frM f (flC f fl) he mtt fz nx hh).1.2.2.1 108) (fdA f (flC f fl) (ic, qn, 0, 0) 108) h) i).2.1 k))))]) rfl ?_
                          refine r_iload d_Mm_feed_208 4 rfl ?_
                          refine r_aload_n d_Mm_feed_210 rfl 7 rfl ?_
                          refine r_iload d_Mm_feed_211 1 rfl ?_
                          refine r_cald d_Mm_feed_213 (q0 := 1) rfl (vp_in_nI (by omega) (by omega)) (v := f o) (by rw [nI_clamp (by omega)]) ?_
                          refine r_bipush d_Mm_feed_214 (v := 99) (by decide) ?_
                          refine r_icmp_ne (tgt := 223) d_Mm_feed_216 (by decide) (fun c_216 => ?_) (fun c_216 => ?_)
                          · refine r_iconst d_Mm_feed_223 (v := 0) (by decide) ?_
                            refine r_isub d_Mm_feed_224 (v := (fdH f (flC f fl) (fa_fill (frG (flC f fl) (frM f (flC f fl) he mtt fz nx hh).1.2.2.1) (frM f (flC f fl) he mtt fz nx hh).1.2.2.1 108) ((fdB f (flC f fl) (fa_fill (frG (flC f fl) (frM f (flC f fl) he mtt fz nx hh).1.2.2.1) (frM f (flC f fl) he mtt fz nx hh).1.2.2.1 108) (fdA f (flC f fl) (ic, qn, 0, 0) 108) h).2.1 h) (fdB f (flC f fl) (fa_fill (frG (flC f fl) (frM f (flC f fl) he mtt fz nx hh).1.2.2.1) (frM f (flC f fl) he mtt fz nx hh).1.2.2.1 108) (fdA f (flC f fl) (ic, qn, 0, 0) 108) h) i).2.2.2) (Int32.sub_zero _) ?_
                            refine r_istore (lv' := [(4, .int ((fdH f (flC f fl) (fa_fill (frG (flC f fl) (frM f (flC f fl) he mtt fz nx hh).1.2.2.1) (frM f (flC f fl) he mtt fz nx hh).1.2.2.1 108) ((fdB f (flC f fl) (fa_fill (frG (flC f fl) (frM f (flC f fl) he mtt fz nx hh).1.2.2.1) (frM f (flC f fl) he mtt fz nx hh).1.2.2.1 108) (fdA f (flC f fl) (ic, qn, 0, 0) 108) h).2.1 h) (fdB f (flC f fl) (fa_fill (frG (flC f fl) (frM f (flC f fl) he mtt fz nx hh).1.2.2.1) (frM f (flC f fl) he mtt fz nx hh).1.2.2.1 108) (fdA f (flC f fl) (ic, qn, 0, 0) 108) h) i).2.2.2)), (8, .int 1), (7, .int (nI o)), (6, .int (nI i)), (5, .int (nI h)), (3, .int (nI (fdH f (flC f fl) (fa_fill (frG (flC f fl) (frM f (flC f fl) he mtt fz nx hh).1.2.2.1) (frM f (flC f fl) he mtt fz nx hh).1.2.2.1 108) ((fdB f (flC f fl) (fa_fill (frG (flC f fl) (frM f (flC f fl) he mtt fz nx hh).1.2.2.1) (frM f (flC f fl) he mtt fz nx hh).1.2.2.1 108) (fdA f (flC f fl) (ic, qn, 0, 0) 108) h).2.1 h) (fdB f (flC f fl) (fa_fill (frG (flC f fl) (frM f (flC f fl) he mtt fz nx hh).1.2.2.1) (frM f (flC f fl) he mtt fz nx hh).1.2.2.1 108) (fdA f (flC f fl) (ic, qn, 0, 0) 108) h) i).2.2.1)), (0, .ref m), (1, .ref b), (2, .int hh)]) d_Mm_feed_225 (by decide) rfl ?_
                            refine r_aload_n d_Mm_feed_227 rfl 6 rfl ?_
                            refine r_get fs_Mm_37 d_Mm_feed_228 (q0 := 0) rfl rfl ?_
                            refine r_iload_n d_Mm_feed_231 rfl 5 rfl ?_
                            refine r_iload d_Mm_feed_232 2 rfl ?_
                            refine r_iast d_Mm_feed_234 (q0 := 8) rfl (vp_in_nI (by omega) (by omega)) (f' := fun k => nI (updN (fdH f (flC f fl) (fa_fill (frG (flC f fl) (frM f (flC f fl) he mtt fz nx hh).1.2.2.1) (frM f (flC f fl) he mtt fz nx hh).1.2.2.1 108) ((fdB f (flC f fl) (fa_fill (frG (flC f fl) (frM f (flC f fl) he mtt fz nx hh).1.2.2.1) (frM f (flC f fl) he mtt fz nx hh).1.2.2.1 108) (fdA f (flC f fl) (ic, qn, 0, 0) 108) h).2.1 h) (fdB f (flC f fl) (fa_fill (frG (flC f fl) (frM f (flC f fl) he mtt fz nx hh).1.2.2.1) (frM f (flC f fl) he mtt fz nx hh).1.2.2.1 108) (fdA f (flC f fl) (ic, qn, 0, 0) 108) h) i).2.1 (fdH f (flC f fl) (fa_fill (frG (flC f fl) (frM f (flC f fl) he mtt fz nx hh).1.2.2.1) (frM f (flC f fl) he mtt fz nx hh).1.2.2.1 108) ((fdB f (flC f fl) (fa_fill (frG (flC f fl) (frM f (flC f fl) he mtt fz nx hh).1.2.2.1) (frM f (flC f fl) he mtt fz nx hh).1.2.2.1 108) (fdA f (flC f fl) (ic, qn, 0, 0) 108) h).2.1 h) (fdB f (flC f fl) (fa_fill (frG (flC f fl) (frM f (flC f fl) he mtt fz nx hh).1.2.2.1) (frM f (flC f fl) he mtt fz nx hh).1.2.2.1 108) (fdA f (flC f fl) (ic, qn, 0, 0) 108) h) i).2.2.1 o k)) (by rw [nI_clamp (by omega)]; exact upd_qn) (cs' := [(m, .inr (12, [.int th, .ref mp, .int pt, .ref mf, .ref mh, .ref mn, .ref mt, .ref mz, .ref mc_, .ref mq, .ref mgr, .int cl, .int wa, .int co_, .int fi, .int bu, .int ho, .ref ml, .ref mi, .ref mr, .int lh, .int mg, .int wd, .int fpi, .int fal, .ref mm, .ref mu, .ref mk, .ref mx, .long po, .long de])), (b, .inl (1, 108, .inl f)), (mf, .inl (0, 108, .inl (flC f fl))), (mh, .inl (0, 108, .inl ((frM f (flC f fl) he mtt fz nx hh).1.1))), (mt, .inl (0, 108, .inl ((frM f (flC f fl) he mtt fz nx hh).1.2.1))), (mz, .inl (0, 108, .inl (fa_fill (frG (flC f fl) (frM f (flC f fl) he mtt fz nx hh).1.2.2.1) (frM f (flC f fl) he mtt fz nx hh).1.2.2.1 108))), (mn, .inl (0, 108, .inl ((frM f (flC f fl) he mtt fz nx hh).2))), (mc_, .inl (2, 108, .inl (upd (fdH f (flC f fl) (fa_fill (frG (flC f fl) (frM f (flC f fl) he mtt fz nx hh).1.2.2.1) (frM f (flC f fl) he mtt fz nx hh).1.2.2.1 108) ((fdB f (flC f fl) (fa_fill (frG (flC f fl) (frM f (flC f fl) he mtt fz nx hh).1.2.2.1) (frM f (flC f fl) he mtt fz nx hh).1.2.2.1 108) (fdA f (flC f fl) (ic, qn, 0, 0) 108) h).2.1 h) (fdB f (flC f fl) (fa_fill (frG (flC f fl) (frM f (flC f fl) he mtt fz nx hh).1.2.2.1) (frM f (flC f fl) he mtt fz nx hh).1.2.2.1 108) (fdA f (flC f fl) (ic, qn, 0, 0) 108) h) i).1 o 1))), (mq, .inl (0, 108, .inl (fun k => nI (updN (fdH f (flC f fl) (fa_fill (frG (flC f fl) (frM f (flC f fl) he mtt fz nx hh).1.2.2.1) (frM f (flC f fl) he mtt fz nx hh).1.2.2.1 108) ((fdB f (flC f fl) (fa_fill (frG (flC f fl) (frM f (flC f fl) he mtt fz nx hh).1.2.2.1) (frM f (flC f fl) he mtt fz nx hh).1.2.2.1 108) (fdA f (flC f fl) (ic, qn, 0, 0) 108) h).2.1 h) (fdB f (flC f fl) (fa_fill (frG (flC f fl) (frM f (flC f fl) he mtt fz nx hh).1.2.2.1) (frM f (flC f fl) he mtt fz nx hh).1.2.2.1 108) (fdA f (flC f fl) (ic, qn, 0, 0) 108) h) i).2.1 (fdH f (flC f fl) (fa_fill (frG (flC f fl) (frM f (flC f fl) he mtt fz nx hh).1.2.2.1) (frM f (flC f fl) he mtt fz nx hh).1.2.2.1 108) ((fdB f (flC f fl) (fa_fill (frG (flC f fl) (frM f (flC f fl) he mtt fz nx hh).1.2.2.1) (frM f (flC f fl) he mtt fz nx hh).1.2.2.1 108) (fdA f (flC f fl) (ic, qn, 0, 0) 108) h).2.1 h) (fdB f (flC f fl) (fa_fill (frG (flC f fl) (frM f (flC f fl) he mtt fz nx hh).1.2.2.1) (frM f (flC f fl) he mtt fz nx hh).1.2.2.1 108) (fdA f (flC f fl) (ic, qn, 0, 0) 108) h) i).2.2.1 o k))))]) rfl ?_
                            refine r_iinc (lv' := [(3, .int (nI ((fdH f (flC f fl) (fa_fill (frG (flC f fl) (frM f (flC f fl) he mtt fz nx hh).1.2.2.1) (frM f (flC f fl) he mtt fz nx hh).1.2.2.1 108) ((fdB f (flC f fl) (fa_fill (frG (flC f fl) (frM f (flC f fl) he mtt fz nx hh).1.2.2.1) (frM f (flC f fl) he mtt fz nx hh).1.2.2.1 108) (fdA f (flC f fl) (ic, qn, 0, 0) 108) h).2.1 h) (fdB f (flC f fl) (fa_fill (frG (flC f fl) (frM f (flC f fl) he mtt fz nx hh).1.2.2.1) (frM f (flC f fl) he mtt fz nx hh).1.2.2.1 108) (fdA f (flC f fl) (ic, qn, 0, 0) 108) h) i).2.2.1 + 1))), (4, .int ((fdH f (flC f fl) (fa_fill (frG (flC f fl) (frM f (flC f fl) he mtt fz nx hh).1.2.2.1) (frM f (flC f fl) he mtt fz nx hh).1.2.2.1 108) ((fdB f (flC f fl) (fa_fill (frG (flC f fl) (frM f (flC f fl) he mtt fz nx hh).1.2.2.1) (frM f (flC f fl) he mtt fz nx hh).1.2.2.1 108) (fdA f (flC f fl) (ic, qn, 0, 0) 108) h).2.1 h) (fdB f (flC f fl) (fa_fill (frG (flC f fl) (frM f (flC f fl) he mtt fz nx hh).1.2.2.1) (frM f (flC f fl) he mtt fz nx hh).1.2.2.1 108) (fdA f (flC f fl) (ic, qn, 0, 0) 108) h) i).2.2.2)), (8, .int 1), (7, .int (nI o)), (6, .int (nI i)), (5, .int (nI h)), (0, .ref m), (1, .ref b), (2, .int hh)]) (v := nI ((fdH f (flC f fl) (fa_fill (frG (flC f fl) (frM f (flC f fl) he mtt fz nx hh).1.2.2.1) (frM f (flC f fl) he mtt fz nx hh).1.2.2.1 108) ((fdB f (flC f fl) (fa_fill (frG (flC f fl) (frM f (flC f fl) he mtt fz nx hh).1.2.2.1) (frM f (flC f fl) he mtt fz nx hh).1.2.2.1 108) (fdA f (flC f fl) (ic, qn, 0, 0) 108) h).2.1 h) (fdB f (flC f fl) (fa_fill (frG (flC f fl) (frM f (flC f fl) he mtt fz nx hh).1.2.2.1) (frM f (flC f fl) he mtt fz nx hh).1.2.2.1 108) (fdA f (flC f fl) (ic, qn, 0, 0) 108) h) i).2.2.1 + 1)) d_Mm_feed_235 (j := 5) rfl (nI_add _ _) (by decide) rfl ?_
                            refine r_iinc (lv' := [(6, .int (nI (i + 1))), (3, .int (nI ((fdH f (flC f fl) (fa_fill (frG (flC f fl) (frM f (flC f fl) he mtt fz nx hh).1.2.2.1) (frM f (flC f fl) he mtt fz nx hh).1.2.2.1 108) ((fdB f (flC f fl) (fa_fill (frG (flC f fl) (frM f (flC f fl) he mtt fz nx hh).1.2.2.1) (frM f (flC f fl) he mtt fz nx hh).1.2.2.1 108) (fdA f (flC f fl) (ic, qn, 0, 0) 108) h).2.1 h) (fdB f (flC f fl) (fa_fill (frG (flC f fl) (frM f (flC f fl) he mtt fz nx hh).1.2.2.1) (frM f (flC f fl) he mtt fz nx hh).1.2.2.1 108) (fdA f (flC f fl) (ic, qn, 0, 0) 108) h) i).2.2.1 + 1))), (4, .int ((fdH f (flC f fl) (fa_fill (frG (flC f fl) (frM f (flC f fl) he mtt fz nx hh).1.2.2.1) (frM f (flC f fl) he mtt fz nx hh).1.2.2.1 108) ((fdB f (flC f fl) (fa_fill (frG (flC f fl) (frM f (flC f fl) he mtt fz nx hh).1.2.2.1) (frM f (flC f fl) he mtt fz nx hh).1.2.2.1 108) (fdA f (flC f fl) (ic, qn, 0, 0) 108) h).2.1 h) (fdB f (flC f fl) (fa_fill (frG (flC f fl) (frM f (flC f fl) he mtt fz nx hh).1.2.2.1) (frM f (flC f fl) he mtt fz nx hh).1.2.2.1 108) (fdA f (flC f fl) (ic, qn, 0, 0) 108) h) i).2.2.2)), (8, .int 1), (7, .int (nI o)), (5, .int (nI h)), (0, .ref m), (1, .ref b), (2, .int hh)]) (v := nI (i + 1)) d_Mm_feed_238 (j := 4) rfl (nI_add _ _) (by decide) rfl ?_
                            refine r_goto (tgt := 95) d_Mm_feed_241 (by decide) ?_
                            refine r_lv (lv' := [(6, .int (nI (i + 1))), (5, .int (nI h)), (4, .int ((fdH f (flC f fl) (fa_fill (frG (flC f fl) (frM f (flC f fl) he mtt fz nx hh).1.2.2.1) (frM f (flC f fl) he mtt fz nx hh).1.2.2.1 108) ((fdB f (flC f fl) (fa_fill (frG (flC f fl) (frM f (flC f fl) he mtt fz nx hh).1.2.2.1) (frM f (flC f fl) he mtt fz nx hh).1.2.2.1 108) (fdA f (flC f fl) (ic, qn, 0, 0) 108) h).2.1 h) (fdB f (flC f fl) (fa_fill (frG (flC f fl) (frM f (flC f fl) he mtt fz nx hh).1.2.2.1) (frM f (flC f fl) he mtt fz nx hh).1.2.2.1 108) (fdA f (flC f fl) (ic, qn, 0, 0) 108) h) i).2.2.2)), (3, .int (nI ((fdH f (flC f fl) (fa_fill (frG (flC f fl) (frM f (flC f fl) he mtt fz nx hh).1.2.2.1) (frM f (flC f fl) he mtt fz nx hh).1.2.2.1 108) ((fdB f (flC f fl) (fa_fill (frG (flC f fl) (frM f (flC f fl) he mtt fz nx hh).1.2.2.1) (frM f (flC f fl) he mtt fz nx hh).1.2.2.1 108) (fdA f (flC f fl) (ic, qn, 0, 0) 108) h).2.1 h) (fdB f (flC f fl) (fa_fill (frG (flC f fl) (frM f (flC f fl) he mtt fz nx hh).1.2.2.1) (frM f (flC f fl) he mtt fz nx hh).1.2.2.1 108) (fdA f (flC f fl) (ic, qn, 0, 0) 108) h) i).2.2.1 + 1))), (0, .ref m), (1, .ref b), (2, .int hh)]) [0, 5, 2, 1, 6, 7, 8] rfl ?_
                            refine r_lvE (lv2 := [(6, .int (nI (i + 1))), (5, .int (nI h)), (4, .int ((fdH f (flC f fl) (fa_fill (frG (flC f fl) (frM f (flC f fl) he mtt fz nx hh).1.2.2.1) (frM f (flC f fl) he mtt fz nx hh).1.2.2.1 108) ((fdB f (flC f fl) (fa_fill (frG (flC f fl) (frM f (flC f fl) he mtt fz nx hh).1.2.2.1) (frM f (flC f fl) he mtt fz nx hh).1.2.2.1 108) (fdA f (flC f fl) (ic, qn, 0, 0) 108) h).2.1 h) (fdB f (flC f fl) (fa_fill (frG (flC f fl) (frM f (flC f fl) he mtt fz nx hh).1.2.2.1) (frM f (flC f fl) he mtt fz nx hh).1.2.2.1 108) (fdA f (flC f fl) (ic, qn, 0, 0) 108) h) (i + 1)).2.2.2)), (3, .int (nI (fdH f (flC f fl) (fa_fill (frG (flC f fl) (frM f (flC f fl) he mtt fz nx hh).1.2.2.1) (frM f (flC f fl) he mtt fz nx hh).1.2.2.1 108) ((fdB f (flC f fl) (fa_fill (frG (flC f fl) (frM f (flC f fl) he mtt fz nx hh).1.2.2.1) (frM f (flC f fl) he mtt fz nx hh).1.2.2.1 108) (fdA f (flC f fl) (ic, qn, 0, 0) 108) h).2.1 h) (fdB f (flC f fl) (fa_fill (frG (flC f fl) (frM f (flC f fl) he mtt fz nx hh).1.2.2.1) (frM f (flC f fl) he mtt fz nx hh).1.2.2.1 108) (fdA f (flC f fl) (ic, qn, 0, 0) 108) h) (i + 1)).2.2.1)), (0, .ref m), (1, .ref b), (2, .int hh)]) (by first | exact absurd c_192 c_216 | exact absurd c_216 c_192 | (rw [show (fdH f (flC f fl) (fa_fill (frG (flC f fl) (frM f (flC f fl) he mtt fz nx hh).1.2.2.1) (frM f (flC f fl) he mtt fz nx hh).1.2.2.1 108) ((fdB f (flC f fl) (fa_fill (frG (flC f fl) (frM f (flC f fl) he mtt fz nx hh).1.2.2.1) (frM f (flC f fl) he mtt fz nx hh).1.2.2.1 108) (fdA f (flC f fl) (ic, qn, 0, 0) 108) h).2.1 h) (fdB f (flC f fl) (fa_fill (frG (flC f fl) (frM f (flC f fl) he mtt fz nx hh).1.2.2.1) (frM f (flC f fl) he mtt fz nx hh).1.2.2.1 108) (fdA f (flC f fl) (ic, qn, 0, 0) 108) h) (i + 1)) = fdI f (flC f fl) (fa_fill (frG (flC f fl) (frM f (flC f fl) he mtt fz nx hh).1.2.2.1) (frM f (flC f fl) he mtt fz nx hh).1.2.2.1 108) ((fdB f (flC f fl) (fa_fill (frG (flC f fl) (frM f (flC f fl) he mtt fz nx hh).1.2.2.1) (frM f (flC f fl) he mtt fz nx hh).1.2.2.1 108) (fdA f (flC f fl) (ic, qn, 0, 0) 108) h).2.1 h) i (fdH f (flC f fl) (fa_fill (frG (flC f fl) (frM f (flC f fl) he mtt fz nx hh).1.2.2.1) (frM f (flC f fl) he mtt fz nx hh).1.2.2.1 108) ((fdB f (flC f fl) (fa_fill (frG (flC f fl) (frM f (flC f fl) he mtt fz nx hh).1.2.2.1) (frM f (flC f fl) he mtt fz nx hh).1.2.2.1 108) (fdA f (flC f fl) (ic, qn, 0, 0) 108) h).2.1 h) (fdB f (flC f fl) (fa_fill (frG (flC f fl) (frM f (flC f fl) he mtt fz nx hh).1.2.2.1) (frM f (flC f fl) he mtt fz nx hh).1.2.2.1 108) (fdA f (flC f fl) (ic, qn, 0, 0) 108) h) i) from rfl, hk] <;> rfl)) ?_
                            refine r_cs (cs2 := [(m, .inr (12, [.int th, .ref mp, .int pt, .ref mf, .ref mh, .ref mn, .ref mt, .ref mz, .ref mc_, .ref mq, .ref mgr, .int cl, .int wa, .int co_, .int fi, .int bu, .int ho, .ref ml, .ref mi, .ref mr, .int lh, .int mg, .int wd, .int fpi, .int fal, .ref mm, .ref mu, .ref mk, .ref mx, .long po, .long de])), (b, .inl (1, 108, .inl f)), (mf, .inl (0, 108, .inl (flC f fl))), (mh, .inl (0, 108, .inl ((frM f (flC f fl) he mtt fz nx hh).1.1))), (mt, .inl (0, 108, .inl ((frM f (flC f fl) he mtt fz nx hh).1.2.1))), (mz, .inl (0, 108, .inl (fa_fill (frG (flC f fl) (frM f (flC f fl) he mtt fz nx hh).1.2.2.1) (frM f (flC f fl) he mtt fz nx hh).1.2.2.1 108))), (mn, .inl (0, 108, .inl ((frM f (flC f fl) he mtt fz nx hh).2))), (mc_, .inl (2, 108, .inl ((fdH f (flC f fl) (fa_fill (frG (flC f fl) (frM f (flC f fl) he mtt fz nx hh).1.2.2.1) (frM f (flC f fl) he mtt fz nx hh).1.2.2.1 108) ((fdB f (flC f fl) (fa_fill (frG (flC f fl) (frM f (flC f fl) he mtt fz nx hh).1.2.2.1) (frM f (flC f fl) he mtt fz nx hh).1.2.2.1 108) (fdA f (flC f fl) (ic, qn, 0, 0) 108) h).2.1 h) (fdB f (flC f fl) (fa_fill (frG (flC f fl) (frM f (flC f fl) he mtt fz nx hh).1.2.2.1) (frM f (flC f fl) he mtt fz nx hh).1.2.2.1 108) (fdA f (flC f fl) (ic, qn, 0, 0) 108) h) (i + 1)).1))), (mq, .inl (0, 108, .inl (fun k => nI ((fdH f (flC f fl) (fa_fill (frG (flC f fl) (frM f (flC f fl) he mtt fz nx hh).1.2.2.1) (frM f (flC f fl) he mtt fz nx hh).1.2.2.1 108) ((fdB f (flC f fl) (fa_fill (frG (flC f fl) (frM f (flC f fl) he mtt fz nx hh).1.2.2.1) (frM f (flC f fl) he mtt fz nx hh).1.2.2.1 108) (fdA f (flC f fl) (ic, qn, 0, 0) 108) h).2.1 h) (fdB f (flC f fl) (fa_fill (frG (flC f fl) (frM f (flC f fl) he mtt fz nx hh).1.2.2.1) (frM f (flC f fl) he mtt fz nx hh).1.2.2.1 108) (fdA f (flC f fl) (ic, qn, 0, 0) 108) h) (i + 1)).2.1 k))))]) (by first | exact absurd c_192 c_216 | exact absurd c_216 c_192 | (rw [show (fdH f (flC f fl) (fa_fill (frG (flC f fl) (frM f (flC f fl) he mtt fz nx hh).1.2.2.1) (frM f (flC f fl) he mtt fz nx hh).1.2.2.1 108) ((fdB f (flC f fl) (fa_fill (frG (flC f fl) (frM f (flC f fl) he mtt fz nx hh).1.2.2.1) (frM f (flC f fl) he mtt fz nx hh).1.2.2.1 108) (fdA f (flC f fl) (ic, qn, 0, 0) 108) h).2.1 h) (fdB f (flC f fl) (fa_fill (frG (flC f fl) (frM f (flC f fl) he mtt fz nx hh).1.2.2.1) (frM f (flC f fl) he mtt fz nx hh).1.2.2.1 108) (fdA f (flC f fl) (ic, qn, 0, 0) 108) h) (i + 1)) = fdI f (flC f fl) (fa_fill (frG (flC f fl) (frM f (flC f fl) he mtt fz nx hh).1.2.2.1) (frM f (flC f fl) he mtt fz nx hh).1.2.2.1 108) ((fdB f (flC f fl) (fa_fill (frG (flC f fl) (frM f (flC f fl) he mtt fz nx hh).1.2.2.1) (frM f (flC f fl) he mtt fz nx hh).1.2.2.1 108) (fdA f (flC f fl) (ic, qn, 0, 0) 108) h).2.1 h) i (fdH f (flC f fl) (fa_fill (frG (flC f fl) (frM f (flC f fl) he mtt fz nx hh).1.2.2.1) (frM f (flC f fl) he mtt fz nx hh).1.2.2.1 108) ((fdB f (flC f fl) (fa_fill (frG (flC f fl) (frM f (flC f fl) he mtt fz nx hh).1.2.2.1) (frM f (flC f fl) he mtt fz nx hh).1.2.2.1 108) (fdA f (flC f fl) (ic, qn, 0, 0) 108) h).2.1 h) (fdB f (flC f fl) (fa_fill (frG (flC f fl) (frM f (flC f fl) he mtt fz nx hh).1.2.2.1) (frM f (flC f fl) he mtt fz nx hh).1.2.2.1 108) (fdA f (flC f fl) (ic, qn, 0, 0) 108) h) i) from rfl, hk] <;> rfl)) ?_
                            exact ih (i + 1) (by omega) (by omega)
                          · refine r_iconst d_Mm_feed_219 (v := 1) (by decide) ?_
                            refine r_goto (tgt := 224) d_Mm_feed_220 (by decide) ?_
                            refine r_isub d_Mm_feed_224 (v := ((fdH f (flC f fl) (fa_fill (frG (flC f fl) (frM f (flC f fl) he mtt fz nx hh).1.2.2.1) (frM f (flC f fl) he mtt fz nx hh).1.2.2.1 108) ((fdB f (flC f fl) (fa_fill (frG (flC f fl) (frM f (flC f fl) he mtt fz nx hh).1.2.2.1) (frM f (flC f fl) he mtt fz nx hh).1.2.2.1 108) (fdA f (flC f fl) (ic, qn, 0, 0) 108) h).2.1 h) (fdB f (flC f fl) (fa_fill (frG (flC f fl) (frM f (flC f fl) he mtt fz nx hh).1.2.2.1) (frM f (flC f fl) he mtt fz nx hh).1.2.2.1 108) (fdA f (flC f fl) (ic, qn, 0, 0) 108) h) i).2.2.2) + -1) (Int32.sub_eq_add_neg ..) ?_
                            refine r_istore (lv' := [(4, .int (((fdH f (flC f fl) (fa_fill (frG (flC f fl) (frM f (flC f fl) he mtt fz nx hh).1.2.2.1) (frM f (flC f fl) he mtt fz nx hh).1.2.2.1 108) ((fdB f (flC f fl) (fa_fill (frG (flC f fl) (frM f (flC f fl) he mtt fz nx hh).1.2.2.1) (frM f (flC f fl) he mtt fz nx hh).1.2.2.1 108) (fdA f (flC f fl) (ic, qn, 0, 0) 108) h).2.1 h) (fdB f (flC f fl) (fa_fill (frG (flC f fl) (frM f (flC f fl) he mtt fz nx hh).1.2.2.1) (frM f (flC f fl) he mtt fz nx hh).1.2.2.1 108) (fdA f (flC f fl) (ic, qn, 0, 0) 108) h) i).2.2.2) + -1)), (8, .int 1), (7, .int (nI o)), (6, .int (nI i)), (5, .int (nI h)), (3, .int (nI (fdH f (flC f fl) (fa_fill (frG (flC f fl) (frM f (flC f fl) he mtt fz nx hh).1.2.2.1) (frM f (flC f fl) he mtt fz nx hh).1.2.2.1 108) ((fdB f (flC f fl) (fa_fill (frG (flC f fl) (frM f (flC f fl) he mtt fz nx hh).1.2.2.1) (frM f (flC f fl) he mtt fz nx hh).1.2.2.1 108) (fdA f (flC f fl) (ic, qn, 0, 0) 108) h).2.1 h) (fdB f (flC f fl) (fa_fill (frG (flC f fl) (frM f (flC f fl) he mtt fz nx hh).1.2.2.1) (frM f (flC f fl) he mtt fz nx hh).1.2.2.1 108) (fdA f (flC f fl) (ic, qn, 0, 0) 108) h) i).2.2.1)), (0, .ref m), (1, .ref b), (2, .int hh)]) d_Mm_feed_225 (by decide) rfl ?_
                            refine r_aload_n d_Mm_feed_227 rfl 6 rfl ?_
                            refine r_get fs_Mm_37 d_Mm_feed_228 (q0 := 0) rfl rfl ?_
                            refine r_iload_n d_Mm_feed_231 rfl 5 rfl ?_
                            refine r_iload d_Mm_feed_232 2 rfl ?_
                            refine r_iast d_Mm_feed_234 (q0 := 8) rfl (vp_in_nI (by omega) (by omega)) (f' := fun k => nI (updN (fdH f (flC f fl) (fa_fill (frG (flC f fl) (frM f (flC f fl) he mtt fz nx hh).1.2.2.1) (frM f (flC f fl) he mtt fz nx hh).1.2.2.1 108) ((fdB f (flC f fl) (fa_fill (frG (flC f fl) (frM f (flC f fl) he mtt fz nx hh).1.2.2.1) (frM f (flC f fl) he mtt fz nx hh).1.2.2.1 108) (fdA f (flC f fl) (ic, qn, 0, 0) 108) h).2.1 h) (fdB f (flC f fl) (fa_fill (frG (flC f fl) (frM f (flC f fl) he mtt fz nx hh).1.2.2.1) (frM f (flC f fl) he mtt fz nx hh).1.2.2.1 108) (fdA f (flC f fl) (ic, qn, 0, 0) 108) h) i).2.1 (fdH f (flC f fl) (fa_fill (frG (flC f fl) (frM f (flC f fl) he mtt fz nx hh).1.2.2.1) (frM f (flC f fl) he mtt fz nx hh).1.2.2.1 108) ((fdB f (flC f fl) (fa_fill (frG (flC f fl) (frM f (flC f fl) he mtt fz nx hh).1.2.2.1) (frM f (flC f fl) he mtt fz nx hh).1.2.2.1 108) (fdA f (flC f fl) (ic, qn, 0, 0) 108) h).2.1 h) (fdB f (flC f fl) (fa_fill (frG (flC f fl) (frM f (flC f fl) he mtt fz nx hh).1.2.2.1) (frM f (flC f fl) he mtt fz nx hh).1.2.2.1 108) (fdA f (flC f fl) (ic, qn, 0, 0) 108) h) i).2.2.1 o k)) (by rw [nI_clamp (by omega)]; exact upd_qn) (cs' := [(m, .inr (12, [.int th, .ref mp, .int pt, .ref mf, .ref mh, .ref mn, .ref mt, .ref mz, .ref mc_, .ref mq, .ref mgr, .int cl, .int wa, .int co_, .int fi, .int bu, .int ho, .ref ml, .ref mi, .ref mr, .int lh, .int mg, .int wd, .int fpi, .int fal, .ref mm, .ref mu, .ref mk, .ref mx, .long po, .long de])), (b, .inl (1, 108, .inl f)), (mf, .inl (0, 108, .inl (flC f fl))), (mh, .inl (0, 108, .inl ((frM f (flC f fl) he mtt fz nx hh).1.1))), (mt, .inl (0, 108, .inl ((frM f (flC f fl) he mtt fz nx hh).1.2.1))), (mz, .inl (0, 108, .inl (fa_fill (frG (flC f fl) (frM f (flC f fl) he mtt fz nx hh).1.2.2.1) (frM f (flC f fl) he mtt fz nx hh).1.2.2.1 108))), (mn, .inl (0, 108, .inl ((frM f (flC f fl) he mtt fz nx hh).2))), (mc_, .inl (2, 108, .inl (upd (fdH f (flC f fl) (fa_fill (frG (flC f fl) (frM f (flC f fl) he mtt fz nx hh).1.2.2.1) (frM f (flC f fl) he mtt fz nx hh).1.2.2.1 108) ((fdB f (flC f fl) (fa_fill (frG (flC f fl) (frM f (flC f fl) he mtt fz nx hh).1.2.2.1) (frM f (flC f fl) he mtt fz nx hh).1.2.2.1 108) (fdA f (flC f fl) (ic, qn, 0, 0) 108) h).2.1 h) (fdB f (flC f fl) (fa_fill (frG (flC f fl) (frM f (flC f fl) he mtt fz nx hh).1.2.2.1) (frM f (flC f fl) he mtt fz nx hh).1.2.2.1 108) (fdA f (flC f fl) (ic, qn, 0, 0) 108) h) i).1 o 1))), (mq, .inl (0, 108, .inl (fun k => nI (updN (fdH f (flC f fl) (fa_fill (frG (flC f fl) (frM f (flC f fl) he mtt fz nx hh).1.2.2.1) (frM f (flC f fl) he mtt fz nx hh).1.2.2.1 108) ((fdB f (flC f fl) (fa_fill (frG (flC f fl) (frM f (flC f fl) he mtt fz nx hh).1.2.2.1) (frM f (flC f fl) he mtt fz nx hh).1.2.2.1 108) (fdA f (flC f fl) (ic, qn, 0, 0) 108) h).2.1 h) (fdB f (flC f fl) (fa_fill (frG (flC f fl) (frM f (flC f fl) he mtt fz nx hh).1.2.2.1) (frM f (flC f fl) he mtt fz nx hh).1.2.2.1 108) (fdA f (flC f fl) (ic, qn, 0, 0) 108) h) i).2.1 (fdH f (flC f fl) (fa_fill (frG (flC f fl) (frM f (flC f fl) he mtt fz nx hh).1.2.2.1) (frM f (flC f fl) he mtt fz nx hh).1.2.2.1 108) ((fdB f (flC f fl) (fa_fill (frG (flC f fl) (frM f (flC f fl) he mtt fz nx hh).1.2.2.1) (frM f (flC f fl) he mtt fz nx hh).1.2.2.1 108) (fdA f (flC f fl) (ic, qn, 0, 0) 108) h).2.1 h) (fdB f (flC f fl) (fa_fill (frG (flC f fl) (frM f (flC f fl) he mtt fz nx hh).1.2.2.1) (frM f (flC f fl) he mtt fz nx hh).1.2.2.1 108) (fdA f (flC f fl) (ic, qn, 0, 0) 108) h) i).2.2.1 o k))))]) rfl ?_
                            refine r_iinc (lv' := [(3, .int (nI ((fdH f (flC f fl) (fa_fill (frG (flC f fl) (frM f (flC f fl) he mtt fz nx hh).1.2.2.1) (frM f (flC f fl) he mtt fz nx hh).1.2.2.1 108) ((fdB f (flC f fl) (fa_fill (frG (flC f fl) (frM f (flC f fl) he mtt fz nx hh).1.2.2.1) (frM f (flC f fl) he mtt fz nx hh).1.2.2.1 108) (fdA f (flC f fl) (ic, qn, 0, 0) 108) h).2.1 h) (fdB f (flC f fl) (fa_fill (frG (flC f fl) (frM f (flC f fl) he mtt fz nx hh).1.2.2.1) (frM f (flC f fl) he mtt fz nx hh).1.2.2.1 108) (fdA f (flC f fl) (ic, qn, 0, 0) 108) h) i).2.2.1 + 1))), (4, .int (((fdH f (flC f fl) (fa_fill (frG (flC f fl) (frM f (flC f fl) he mtt fz nx hh).1.2.2.1) (frM f (flC f fl) he mtt fz nx hh).1.2.2.1 108) ((fdB f (flC f fl) (fa_fill (frG (flC f fl) (frM f (flC f fl) he mtt fz nx hh).1.2.2.1) (frM f (flC f fl) he mtt fz nx hh).1.2.2.1 108) (fdA f (flC f fl) (ic, qn, 0, 0) 108) h).2.1 h) (fdB f (flC f fl) (fa_fill (frG (flC f fl) (frM f (flC f fl) he mtt fz nx hh).1.2.2.1) (frM f (flC f fl) he mtt fz nx hh).1.2.2.1 108) (fdA f (flC f fl) (ic, qn, 0, 0) 108) h) i).2.2.2) + -1)), (8, .int 1), (7, .int (nI o)), (6, .int (nI i)), (5, .int (nI h)), (0, .ref m), (1, .ref b), (2, .int hh)]) (v := nI ((fdH f (flC f fl) (fa_fill (frG (flC f fl) (frM f (flC f fl) he mtt fz nx hh).1.2.2.1) (frM f (flC f fl) he mtt fz nx hh).1.2.2.1 108) ((fdB f (flC f fl) (fa_fill (frG (flC f fl) (frM f (flC f fl) he mtt fz nx hh).1.2.2.1) (frM f (flC f fl) he mtt fz nx hh).1.2.2.1 108) (fdA f (flC f fl) (ic, qn, 0, 0) 108) h).2.1 h) (fdB f (flC f fl) (fa_fill (frG (flC f fl) (frM f (flC f fl) he mtt fz nx hh).1.2.2.1) (frM f (flC f fl) he mtt fz nx hh).1.2.2.1 108) (fdA f (flC f fl) (ic, qn, 0, 0) 108) h) i).2.2.1 + 1)) d_Mm_feed_235 (j := 5) rfl (nI_add _ _) (by decide) rfl ?_
                            refine r_iinc (lv' := [(6, .int (nI (i + 1))), (3, .int (nI ((fdH f (flC f fl) (fa_fill (frG (flC f fl) (frM f (flC f fl) he mtt fz nx hh).1.2.2.1) (frM f (flC f fl) he mtt fz nx hh).1.2.2.1 108) ((fdB f (flC f fl) (fa_fill (frG (flC f fl) (frM f (flC f fl) he mtt fz nx hh).1.2.2.1) (frM f (flC f fl) he mtt fz nx hh).1.2.2.1 108) (fdA f (flC f fl) (ic, qn, 0, 0) 108) h).2.1 h) (fdB f (flC f fl) (fa_fill (frG (flC f fl) (frM f (flC f fl) he mtt fz nx hh).1.2.2.1) (frM f (flC f fl) he mtt fz nx hh).1.2.2.1 108) (fdA f (flC f fl) (ic, qn, 0, 0) 108) h) i).2.2.1 + 1))), (4, .int (((fdH f (flC f fl) (fa_fill (frG (flC f fl) (frM f (flC f fl) he mtt fz nx hh).1.2.2.1) (frM f (flC f fl) he mtt fz nx hh).1.2.2.1 108) ((fdB f (flC f fl) (fa_fill (frG (flC f fl) (frM f (flC f fl) he mtt fz nx hh).1.2.2.1) (frM f (flC f fl) he mtt fz nx hh).1.2.2.1 108) (fdA f (flC f fl) (ic, qn, 0, 0) 108) h).2.1 h) (fdB f (flC f fl) (fa_fill (frG (flC f fl) (frM f (flC f fl) he mtt fz nx hh).1.2.2.1) (frM f (flC f fl) he mtt fz nx hh).1.2.2.1 108) (fdA f (flC f fl) (ic, qn, 0, 0) 108) h) i).2.2.2) + -1)), (8, .int 1), (7, .int (nI o)), (5, .int (nI h)), (0, .ref m), (1, .ref b), (2, .int hh)]) (v := nI (i + 1)) d_Mm_feed_238 (j := 4) rfl (nI_add _ _) (by decide) rfl ?_
                            refine r_goto (tgt := 95) d_Mm_feed_241 (by decide) ?_
                            refine r_lv (lv' := [(6, .int (nI (i + 1))), (5, .int (nI h)), (4, .int (((fdH f (flC f fl) (fa_fill (frG (flC f fl) (frM f (flC f fl) he mtt fz nx hh).1.2.2.1) (frM f (flC f fl) he mtt fz nx hh).1.2.2.1 108) ((fdB f (flC f fl) (fa_fill (frG (flC f fl) (frM f (flC f fl) he mtt fz nx hh).1.2.2.1) (frM f (flC f fl) he mtt fz nx hh).1.2.2.1 108) (fdA f (flC f fl) (ic, qn, 0, 0) 108) h).2.1 h) (fdB f (flC f fl) (fa_fill (frG (flC f fl) (frM f (flC f fl) he mtt fz nx hh).1.2.2.1) (frM f (flC f fl) he mtt fz nx hh).1.2.2.1 108) (fdA f (flC f fl) (ic, qn, 0, 0) 108) h) i).2.2.2) + -1)), (3, .int (nI ((fdH f (flC f fl) (fa_fill (frG (flC f fl) (frM f (flC f fl) he mtt fz nx hh).1.2.2.1) (frM f (flC f fl) he mtt fz nx hh).1.2.2.1 108) ((fdB f (flC f fl) (fa_fill (frG (flC f fl) (frM f (flC f fl) he mtt fz nx hh).1.2.2.1) (frM f (flC f fl) he mtt fz nx hh).1.2.2.1 108) (fdA f (flC f fl) (ic, qn, 0, 0) 108) h).2.1 h) (fdB f (flC f fl) (fa_fill (frG (flC f fl) (frM f (flC f fl) he mtt fz nx hh).1.2.2.1) (frM f (flC f fl) he mtt fz nx hh).1.2.2.1 108) (fdA f (flC f fl) (ic, qn, 0, 0) 108) h) i).2.2.1 + 1))), (0, .ref m), (1, .ref b), (2, .int hh)]) [0, 5, 2, 1, 6, 7, 8] rfl ?_
                            refine r_lvE (lv2 := [(6, .int (nI (i + 1))), (5, .int (nI h)), (4, .int ((fdH f (flC f fl) (fa_fill (frG (flC f fl) (frM f (flC f fl) he mtt fz nx hh).1.2.2.1) (frM f (flC f fl) he mtt fz nx hh).1.2.2.1 108) ((fdB f (flC f fl) (fa_fill (frG (flC f fl) (frM f (flC f fl) he mtt fz nx hh).1.2.2.1) (frM f (flC f fl) he mtt fz nx hh).1.2.2.1 108) (fdA f (flC f fl) (ic, qn, 0, 0) 108) h).2.1 h) (fdB f (flC f fl) (fa_fill (frG (flC f fl) (frM f (flC f fl) he mtt fz nx hh).1.2.2.1) (frM f (flC f fl) he mtt fz nx hh).1.2.2.1 108) (fdA f (flC f fl) (ic, qn, 0, 0) 108) h) (i + 1)).2.2.2)), (3, .int (nI (fdH f (flC f fl) (fa_fill (frG (flC f fl) (frM f (flC f fl) he mtt fz nx hh).1.2.2.1) (frM f (flC f fl) he mtt fz nx hh).1.2.2.1 108) ((fdB f (flC f fl) (fa_fill (frG (flC f fl) (frM f (flC f fl) he mtt fz nx hh).1.2.2.1) (frM f (flC f fl) he mtt fz nx hh).1.2.2.1 108) (fdA f (flC f fl) (ic, qn, 0, 0) 108) h).2.1 h) (fdB f (flC f fl) (fa_fill (frG (flC f fl) (frM f (flC f fl) he mtt fz nx hh).1.2.2.1) (frM f (flC f fl) he mtt fz nx hh).1.2.2.1 108) (fdA f (flC f fl) (ic, qn, 0, 0) 108) h) (i + 1)).2.2.1)), (0, .ref m), (1, .ref b), (2, .int hh)]) (by first | exact absurd c_192 c_216 | exact absurd c_216 c_192 | (rw [show (fdH f (flC f fl) (fa_fill (frG (flC f fl) (frM f (flC f fl) he mtt fz nx hh).1.2.2.1) (frM f (flC f fl) he mtt fz nx hh).1.2.2.1 108) ((fdB f (flC f fl) (fa_fill (frG (flC f fl) (frM f (flC f fl) he mtt fz nx hh).1.2.2.1) (frM f (flC f fl) he mtt fz nx hh).1.2.2.1 108) (fdA f (flC f fl) (ic, qn, 0, 0) 108) h).2.1 h) (fdB f (flC f fl) (fa_fill (frG (flC f fl) (frM f (flC f fl) he mtt fz nx hh).1.2.2.1) (frM f (flC f fl) he mtt fz nx hh).1.2.2.1 108) (fdA f (flC f fl) (ic, qn, 0, 0) 108) h) (i + 1)) = fdI f (flC f fl) (fa_fill (frG (flC f fl) (frM f (flC f fl) he mtt fz nx hh).1.2.2.1) (frM f (flC f fl) he mtt fz nx hh).1.2.2.1 108) ((fdB f (flC f fl) (fa_fill (frG (flC f fl) (frM f (flC f fl) he mtt fz nx hh).1.2.2.1) (frM f (flC f fl) he mtt fz nx hh).1.2.2.1 108) (fdA f (flC f fl) (ic, qn, 0, 0) 108) h).2.1 h) i (fdH f (flC f fl) (fa_fill (frG (flC f fl) (frM f (flC f fl) he mtt fz nx hh).1.2.2.1) (frM f (flC f fl) he mtt fz nx hh).1.2.2.1 108) ((fdB f (flC f fl) (fa_fill (frG (flC f fl) (frM f (flC f fl) he mtt fz nx hh).1.2.2.1) (frM f (flC f fl) he mtt fz nx hh).1.2.2.1 108) (fdA f (flC f fl) (ic, qn, 0, 0) 108) h).2.1 h) (fdB f (flC f fl) (fa_fill (frG (flC f fl) (frM f (flC f fl) he mtt fz nx hh).1.2.2.1) (frM f (flC f fl) he mtt fz nx hh).1.2.2.1 108) (fdA f (flC f fl) (ic, qn, 0, 0) 108) h) i) from rfl, hk] <;> rfl)) ?_
                            refine r_cs (cs2 := [(m, .inr (12, [.int th, .ref mp, .int pt, .ref mf, .ref mh, .ref mn, .ref mt, .ref mz, .ref mc_, .ref mq, .ref mgr, .int cl, .int wa, .int co_, .int fi, .int bu, .int ho, .ref ml, .ref mi, .ref mr, .int lh, .int mg, .int wd, .int fpi, .int fal, .ref mm, .ref mu, .ref mk, .ref mx, .long po, .long de])), (b, .inl (1, 108, .inl f)), (mf, .inl (0, 108, .inl (flC f fl))), (mh, .inl (0, 108, .inl ((frM f (flC f fl) he mtt fz nx hh).1.1))), (mt, .inl (0, 108, .inl ((frM f (flC f fl) he mtt fz nx hh).1.2.1))), (mz, .inl (0, 108, .inl (fa_fill (frG (flC f fl) (frM f (flC f fl) he mtt fz nx hh).1.2.2.1) (frM f (flC f fl) he mtt fz nx hh).1.2.2.1 108))), (mn, .inl (0, 108, .inl ((frM f (flC f fl) he mtt fz nx hh).2))), (mc_, .inl (2, 108, .inl ((fdH f (flC f fl) (fa_fill (frG (flC f fl) (frM f (flC f fl) he mtt fz nx hh).1.2.2.1) (frM f (flC f fl) he mtt fz nx hh).1.2.2.1 108) ((fdB f (flC f fl) (fa_fill (frG (flC f fl) (frM f (flC f fl) he mtt fz nx hh).1.2.2.1) (frM f (flC f fl) he mtt fz nx hh).1.2.2.1 108) (fdA f (flC f fl) (ic, qn, 0, 0) 108) h).2.1 h) (fdB f (flC f fl) (fa_fill (frG (flC f fl) (frM f (flC f fl) he mtt fz nx hh).1.2.2.1) (frM f (flC f fl) he mtt fz nx hh).1.2.2.1 108) (fdA f (flC f fl) (ic, qn, 0, 0) 108) h) (i + 1)).1))), (mq, .inl (0, 108, .inl (fun k => nI ((fdH f (flC f fl) (fa_fill (frG (flC f fl) (frM f (flC f fl) he mtt fz nx hh).1.2.2.1) (frM f (flC f fl) he mtt fz nx hh).1.2.2.1 108) ((fdB f (flC f fl) (fa_fill (frG (flC f fl) (frM f (flC f fl) he mtt fz nx hh).1.2.2.1) (frM f (flC f fl) he mtt fz nx hh).1.2.2.1 108) (fdA f (flC f fl) (ic, qn, 0, 0) 108) h).2.1 h) (fdB f (flC f fl) (fa_fill (frG (flC f fl) (frM f (flC f fl) he mtt fz nx hh).1.2.2.1) (frM f (flC f fl) he mtt fz nx hh).1.2.2.1 108) (fdA f (flC f fl) (ic, qn, 0, 0) 108) h) (i + 1)).2.1 k))))]) (by first | exact absurd c_192 c_216 | exact absurd c_216 c_192 | (rw [show (fdH f (flC f fl) (fa_fill (frG (flC f fl) (frM f (flC f fl) he mtt fz nx hh).1.2.2.1) (frM f (flC f fl) he mtt fz nx hh).1.2.2.1 108) ((fdB f (flC f fl) (fa_fill (frG (flC f fl) (frM f (flC f fl) he mtt fz nx hh).1.2.2.1) (frM f (flC f fl) he mtt fz nx hh).1.2.2.1 108) (fdA f (flC f fl) (ic, qn, 0, 0) 108) h).2.1 h) (fdB f (flC f fl) (fa_fill (frG (flC f fl) (frM f (flC f fl) he mtt fz nx hh).1.2.2.1) (frM f (flC f fl) he mtt fz nx hh).1.2.2.1 108) (fdA f (flC f fl) (ic, qn, 0, 0) 108) h) (i + 1)) = fdI f (flC f fl) (fa_fill (frG (flC f fl) (frM f (flC f fl) he mtt fz nx hh).1.2.2.1) (frM f (flC f fl) he mtt fz nx hh).1.2.2.1 108) ((fdB f (flC f fl) (fa_fill (frG (flC f fl) (frM f (flC f fl) he mtt fz nx hh).1.2.2.1) (frM f (flC f fl) he mtt fz nx hh).1.2.2.1 108) (fdA f (flC f fl) (ic, qn, 0, 0) 108) h).2.1 h) i (fdH f (flC f fl) (fa_fill (frG (flC f fl) (frM f (flC f fl) he mtt fz nx hh).1.2.2.1) (frM f (flC f fl) he mtt fz nx hh).1.2.2.1 108) ((fdB f (flC f fl) (fa_fill (frG (flC f fl) (frM f (flC f fl) he mtt fz nx hh).1.2.2.1) (frM f (flC f fl) he mtt fz nx hh).1.2.2.1 108) (fdA f (flC f fl) (ic, qn, 0, 0) 108) h).2.1 h) (fdB f (flC f fl) (fa_fill (frG (flC f fl) (frM f (flC f fl) he mtt fz nx hh).1.2.2.1) (frM f (flC f fl) he mtt fz nx hh).1.2.2.1 108) (fdA f (flC f fl) (ic, qn, 0, 0) 108) h) i) from rfl, hk] <;> rfl)) ?_
                            exact ih (i + 1) (by omega) (by omega)
set_option maxHeartbeats 4000000 in
set_option maxRecDepth 100000 in
theorem L_Mm_feed9_86 (g : zG) (m mp mf mh mn mt mz mc_ mq mgr ml mi mr mm mu mk mx : Nat) (th pt cl wa co_ fi bu ho lh mg wd fpi fal : Int32) (po de : Int64) (b : Nat) (f : Nat → Int32) (fl : Nat → Int32) (he nx mtt fz ic : Nat → Int32) (qn : Nat → Nat) (hh : Int32) (w0 : zW) (n : Nat) (hokA : ∀ h, Dok (fdB f (flC f fl) (fa_fill (frG (flC f fl) (frM f (flC f fl) he mtt fz nx hh).1.2.2.1) (frM f (flC f fl) he mtt fz nx hh).1.2.2.1 108) (fdA f (flC f fl) (ic, qn, 0, 0) 108) h) 108) (hdA : ∀ h, dI (fdB f (flC f fl) (fa_fill (frG (flC f fl) (frM f (flC f fl) he mtt fz nx hh).1.2.2.1) (frM f (flC f fl) he mtt fz nx hh).1.2.2.1 108) (fdA f (flC f fl) (ic, qn, 0, 0) 108) h)) : ∀ (d h : Nat), h ≤ 108 → 108 < h + d → DV g M_Mm_feed (fun o cs1 => o = .inl none ∧ cs1 = [(m, .inr (12, [.int th, .ref mp, .int pt, .ref mf, .ref mh, .ref mn, .ref mt, .ref mz, .ref mc_, .ref mq, .ref mgr, .int cl, .int wa, .int co_, .int fi, .int bu, .int ho, .ref ml, .ref mi, .ref mr, .int lh, .int mg, .int wd, .int fpi, .int fal, .ref mm, .ref mu, .ref mk, .ref mx, .long po, .long de])), (b, .inl (1, 108, .inl f)), (mf, .inl (0, 108, .inl (flC f fl))), (mh, .inl (0, 108, .inl ((frM f (flC f fl) he mtt fz nx hh).1.1))), (mt, .inl (0, 108, .inl ((frM f (flC f fl) he mtt fz nx hh).1.2.1))), (mz, .inl (0, 108, .inl (fa_fill (frG (flC f fl) (frM f (flC f fl) he mtt fz nx hh).1.2.2.1) (frM f (flC f fl) he mtt fz nx hh).1.2.2.1 108))), (mn, .inl (0, 108, .inl ((frM f (flC f fl) he mtt fz nx hh).2))), (mc_, .inl (2, 108, .inl ((fdB f (flC f fl) (fa_fill (frG (flC f fl) (frM f (flC f fl) he mtt fz nx hh).1.2.2.1) (frM f (flC f fl) he mtt fz nx hh).1.2.2.1 108) (fdA f (flC f fl) (ic, qn, 0, 0) 108) 108).1))), (mq, .inl (0, 108, .inl (fun k => nI ((fdB f (flC f fl) (fa_fill (frG (flC f fl) (frM f (flC f fl) he mtt fz nx hh).1.2.2.1) (frM f (flC f fl) he mtt fz nx hh).1.2.2.1 108) (fdA f (flC f fl) (ic, qn, 0, 0) 108) 108).2.1 k))))]) w0 n 86 [(5, .int (nI h)), (4, .int ((fdB f (flC f fl) (fa_fill (frG (flC f fl) (frM f (flC f fl) he mtt fz nx hh).1.2.2.1) (frM f (flC f fl) he mtt fz nx hh).1.2.2.1 108) (fdA f (flC f fl) (ic, qn, 0, 0) 108) h).2.2.2)), (3, .int (nI (fdB f (flC f fl) (fa_fill (frG (flC f fl) (frM f (flC f fl) he mtt fz nx hh).1.2.2.1) (frM f (flC f fl) he mtt fz nx hh).1.2.2.1 108) (fdA f (flC f fl) (ic, qn, 0, 0) 108) h).2.2.1)), (0, .ref m), (1, .ref b), (2, .int hh)] [] [(m, .inr (12, [.int th, .ref mp, .int pt, .ref mf, .ref mh, .ref mn, .ref mt, .ref mz, .ref mc_, .ref mq, .ref mgr, .int cl, .int wa, .int co_, .int fi, .int bu, .int ho, .ref ml, .ref mi, .ref mr, .int lh, .int mg, .int wd, .int fpi, .int fal, .ref mm, .ref mu, .ref mk, .ref mx, .long po, .long de])), (b, .inl (1, 108, .inl f)), (mf, .inl (0, 108, .inl (flC f fl))), (mh, .inl (0, 108, .inl ((frM f (flC f fl) he mtt fz nx hh).1.1))), (mt, .inl (0, 108, .inl ((frM f (flC f fl) he mtt fz nx hh).1.2.1))), (mz, .inl (0, 108, .inl (fa_fill (frG (flC f fl) (frM f (flC f fl) he mtt fz nx hh).1.2.2.1) (frM f (flC f fl) he mtt fz nx hh).1.2.2.1 108))), (mn, .inl (0, 108, .inl ((frM f (flC f fl) he mtt fz nx hh).2))), (mc_, .inl (2, 108, .inl ((fdB f (flC f fl) (fa_fill (frG (flC f fl) (frM f (flC f fl) he mtt fz nx hh).1.2.2.1) (frM f (flC f fl) he mtt fz nx hh).1.2.2.1 108) (fdA f (flC f fl) (ic, qn, 0, 0) 108) h).1))), (mq, .inl (0, 108, .inl (fun k => nI ((fdB f (flC f fl) (fa_fill (frG (flC f fl) (frM f (flC f fl) he mtt fz nx hh).1.2.2.1) (frM f (flC f fl) he mtt fz nx hh).1.2.2.1 108) (fdA f (flC f fl) (ic, qn, 0, 0) 108) h).2.1 k))))] 0 0 := by
  intro d
  induction d with
  | zero => intro h h1 h2 ; exact absurd h2 (by omega)
  | succ d ih =>
    intro h h1 h2 
    refine r_iload d_Mm_feed_86 0 rfl ?_
    refine r_iload_n d_Mm_feed_88 rfl 2 rfl ?_
    refine r_icmp_ge (tgt := 250) d_Mm_feed_89 (by decide) (fun c_89 => ?_) (fun c_89 => ?_)
    · have hq1 := (hokA h).1
      have hn := z_le (by omega) (by omega) c_89
      have hx : (fdB f (flC f fl) (fa_fill (frG (flC f fl) (frM f (flC f fl) he mtt fz nx hh).1.2.2.1) (frM f (flC f fl) he mtt fz nx hh).1.2.2.1 108) (fdA f (flC f fl) (ic, qn, 0, 0) 108) 108) = (fdB f (flC f fl) (fa_fill (frG (flC f fl) (frM f (flC f fl) he mtt fz nx hh).1.2.2.1) (frM f (flC f fl) he mtt fz nx hh).1.2.2.1 108) (fdA f (flC f fl) (ic, qn, 0, 0) 108) h) := by have := fdB_stop (ce := f) (fi := (flC f fl)) (fr := (fa_fill (frG (flC f fl) (frM f (flC f fl) he mtt fz nx hh).1.2.2.1) (frM f (flC f fl) he mtt fz nx hh).1.2.2.1 108)) (Nat.not_lt.mpr hn) (108 - h); rw [show h + (108 - h) = 108 by omega] at this; exact this
      refine r_vret d_Mm_feed_250 rfl ?_
      exact ⟨rfl, by rw [hx]⟩
    · have hok := hokA h
      have hq1 := hok.1
      have hn := z_nle (by omega) (by omega) c_89
      have hhere := hok.2 h hn
      refine r_iconst d_Mm_feed_92 (v := 0) (by decide) ?_
      refine r_istore (lv' := [(6, .int 0), (5, .int (nI h)), (4, .int ((fdB f (flC f fl) (fa_fill (frG (flC f fl) (frM f (flC f fl) he mtt fz nx hh).1.2.2.1) (frM f (flC f fl) he mtt fz nx hh).1.2.2.1 108) (fdA f (flC f fl) (ic, qn, 0, 0) 108) h).2.2.2)), (3, .int (nI (fdB f (flC f fl) (fa_fill (frG (flC f fl) (frM f (flC f fl) he mtt fz nx hh).1.2.2.1) (frM f (flC f fl) he mtt fz nx hh).1.2.2.1 108) (fdA f (flC f fl) (ic, qn, 0, 0) 108) h).2.2.1)), (0, .ref m), (1, .ref b), (2, .int hh)]) d_Mm_feed_93 (by decide) rfl ?_
      refine r_lvE (lv2 := [(6, .int (nI 0)), (5, .int (nI h)), (4, .int ((fdH f (flC f fl) (fa_fill (frG (flC f fl) (frM f (flC f fl) he mtt fz nx hh).1.2.2.1) (frM f (flC f fl) he mtt fz nx hh).1.2.2.1 108) ((fdB f (flC f fl) (fa_fill (frG (flC f fl) (frM f (flC f fl) he mtt fz nx hh).1.2.2.1) (frM f (flC f fl) he mtt fz nx hh).1.2.2.1 108) (fdA f (flC f fl) (ic, qn, 0, 0) 108) h).2.1 h) (fdB f (flC f fl) (fa_fill (frG (flC f fl) (frM f (flC f fl) he mtt fz nx hh).1.2.2.1) (frM f (flC f fl) he mtt fz nx hh).1.2.2.1 108) (fdA f (flC f fl) (ic, qn, 0, 0) 108) h) 0).2.2.2)), (3, .int (nI (fdH f (flC f fl) (fa_fill (frG (flC f fl) (frM f (flC f fl) he mtt fz nx hh).1.2.2.1) (frM f (flC f fl) he mtt fz nx hh).1.2.2.1 108) ((fdB f (flC f fl) (fa_fill (frG (flC f fl) (frM f (flC f fl) he mtt fz nx hh).1.2.2.1) (frM f (flC f fl) he mtt fz nx hh).1.2.2.1 108) (fdA f (flC f fl) (ic, qn, 0, 0) 108) h).2.1 h) (fdB f (flC f fl) (fa_fill (frG (flC f fl) (frM f (flC f fl) he mtt fz nx hh).1.2.2.1) (frM f (flC f fl) he mtt fz nx hh).1.2.2.1 108) (fdA f (flC f fl) (ic, qn, 0, 0) 108) h) 0).2.2.1)), (0, .ref m), (1, .ref b), (2, .int hh)]) (rfl) ?_
      refine r_cs (cs2 := [(m, .inr (12, [.int th, .ref mp, .int pt, .ref mf, .ref mh, .ref mn, .ref mt, .ref mz, .ref mc_, .ref mq, .ref mgr, .int cl, .int wa, .int co_, .int fi, .int bu, .int ho, .ref ml, .ref mi, .ref mr, .int lh, .int mg, .int wd, .int fpi, .int fal, .ref mm, .ref mu, .ref mk, .ref mx, .long po, .long de])), (b, .inl (1, 108, .inl f)), (mf, .inl (0, 108, .inl (flC f fl))), (mh, .inl (0, 108, .inl ((frM f (flC f fl) he mtt fz nx hh).1.1))), (mt, .inl (0, 108, .inl ((frM f (flC f fl) he mtt fz nx hh).1.2.1))), (mz, .inl (0, 108, .inl (fa_fill (frG (flC f fl) (frM f (flC f fl) he mtt fz nx hh).1.2.2.1) (frM f (flC f fl) he mtt fz nx hh).1.2.2.1 108))), (mn, .inl (0, 108, .inl ((frM f (flC f fl) he mtt fz nx hh).2))), (mc_, .inl (2, 108, .inl ((fdH f (flC f fl) (fa_fill (frG (flC f fl) (frM f (flC f fl) he mtt fz nx hh).1.2.2.1) (frM f (flC f fl) he mtt fz nx hh).1.2.2.1 108) ((fdB f (flC f fl) (fa_fill (frG (flC f fl) (frM f (flC f fl) he mtt fz nx hh).1.2.2.1) (frM f (flC f fl) he mtt fz nx hh).1.2.2.1 108) (fdA f (flC f fl) (ic, qn, 0, 0) 108) h).2.1 h) (fdB f (flC f fl) (fa_fill (frG (flC f fl) (frM f (flC f fl) he mtt fz nx hh).1.2.2.1) (frM f (flC f fl) he mtt fz nx hh).1.2.2.1 108) (fdA f (flC f fl) (ic, qn, 0, 0) 108) h) 0).1))), (mq, .inl (0, 108, .inl (fun k => nI ((fdH f (flC f fl) (fa_fill (frG (flC f fl) (frM f (flC f fl) he mtt fz nx hh).1.2.2.1) (frM f (flC f fl) he mtt fz nx hh).1.2.2.1 108) ((fdB f (flC f fl) (fa_fill (frG (flC f fl) (frM f (flC f fl) he mtt fz nx hh).1.2.2.1) (frM f (flC f fl) he mtt fz nx hh).1.2.2.1 108) (fdA f (flC f fl) (ic, qn, 0, 0) 108) h).2.1 h) (fdB f (flC f fl) (fa_fill (frG (flC f fl) (frM f (flC f fl) he mtt fz nx hh).1.2.2.1) (frM f (flC f fl) he mtt fz nx hh).1.2.2.1 108) (fdA f (flC f fl) (ic, qn, 0, 0) 108) h) 0).2.1 k))))]) (rfl) ?_
      refine L_Mm_feed9_95 g m mp mf mh mn mt mz mc_ mq mgr ml mi mr mm mu mk mx th pt cl wa co_ fi bu ho lh mg wd fpi fal po de b f fl he nx mtt fz ic qn hh w0 _ h hok hn (by omega) hhere hdA (?_) (4 + 1) 0 (Nat.zero_le _) (by omega)
      refine r_iinc (lv' := [(5, .int (nI (h + 1))), (4, .int ((fdH f (flC f fl) (fa_fill (frG (flC f fl) (frM f (flC f fl) he mtt fz nx hh).1.2.2.1) (frM f (flC f fl) he mtt fz nx hh).1.2.2.1 108) ((fdB f (flC f fl) (fa_fill (frG (flC f fl) (frM f (flC f fl) he mtt fz nx hh).1.2.2.1) (frM f (flC f fl) he mtt fz nx hh).1.2.2.1 108) (fdA f (flC f fl) (ic, qn, 0, 0) 108) h).2.1 h) (fdB f (flC f fl) (fa_fill (frG (flC f fl) (frM f (flC f fl) he mtt fz nx hh).1.2.2.1) (frM f (flC f fl) he mtt fz nx hh).1.2.2.1 108) (fdA f (flC f fl) (ic, qn, 0, 0) 108) h) 4).2.2.2)), (3, .int (nI (fdH f (flC f fl) (fa_fill (frG (flC f fl) (frM f (flC f fl) he mtt fz nx hh).1.2.2.1) (frM f (flC f fl) he mtt fz nx hh).1.2.2.1 108) ((fdB f (flC f fl) (fa_fill (frG (flC f fl) (frM f (flC f fl) he mtt fz nx hh).1.2.2.1) (frM f (flC f fl) he mtt fz nx hh).1.2.2.1 108) (fdA f (flC f fl) (ic, qn, 0, 0) 108) h).2.1 h) (fdB f (flC f fl) (fa_fill (frG (flC f fl) (frM f (flC f fl) he mtt fz nx hh).1.2.2.1) (frM f (flC f fl) he mtt fz nx hh).1.2.2.1 108) (fdA f (flC f fl) (ic, qn, 0, 0) 108) h) 4).2.2.1)), (0, .ref m), (1, .ref b), (2, .int hh)]) (v := nI (h + 1)) d_Mm_feed_244 (j := 0) rfl (nI_add _ _) (by decide) rfl ?_
      refine r_goto (tgt := 86) d_Mm_feed_247 (by decide) ?_
      refine r_lvE (lv2 := [(5, .int (nI (h + 1))), (4, .int ((fdB f (flC f fl) (fa_fill (frG (flC f fl) (frM f (flC f fl) he mtt fz nx hh).1.2.2.1) (frM f (flC f fl) he mtt fz nx hh).1.2.2.1 108) (fdA f (flC f fl) (ic, qn, 0, 0) 108) (h + 1)).2.2.2)), (3, .int (nI (fdB f (flC f fl) (fa_fill (frG (flC f fl) (frM f (flC f fl) he mtt fz nx hh).1.2.2.1) (frM f (flC f fl) he mtt fz nx hh).1.2.2.1 108) (fdA f (flC f fl) (ic, qn, 0, 0) 108) (h + 1)).2.2.1)), (0, .ref m), (1, .ref b), (2, .int hh)]) (by rw [fdB_t hn] <;> rfl) ?_
      refine r_cs (cs2 := [(m, .inr (12, [.int th, .ref mp, .int pt, .ref mf, .ref mh, .ref mn, .ref mt, .ref mz, .ref mc_, .ref mq, .ref mgr, .int cl, .int wa, .int co_, .int fi, .int bu, .int ho, .ref ml, .ref mi, .ref mr, .int lh, .int mg, .int wd, .int fpi, .int fal, .ref mm, .ref mu, .ref mk, .ref mx, .long po, .long de])), (b, .inl (1, 108, .inl f)), (mf, .inl (0, 108, .inl (flC f fl))), (mh, .inl (0, 108, .inl ((frM f (flC f fl) he mtt fz nx hh).1.1))), (mt, .inl (0, 108, .inl ((frM f (flC f fl) he mtt fz nx hh).1.2.1))), (mz, .inl (0, 108, .inl (fa_fill (frG (flC f fl) (frM f (flC f fl) he mtt fz nx hh).1.2.2.1) (frM f (flC f fl) he mtt fz nx hh).1.2.2.1 108))), (mn, .inl (0, 108, .inl ((frM f (flC f fl) he mtt fz nx hh).2))), (mc_, .inl (2, 108, .inl ((fdB f (flC f fl) (fa_fill (frG (flC f fl) (frM f (flC f fl) he mtt fz nx hh).1.2.2.1) (frM f (flC f fl) he mtt fz nx hh).1.2.2.1 108) (fdA f (flC f fl) (ic, qn, 0, 0) 108) (h + 1)).1))), (mq, .inl (0, 108, .inl (fun k => nI ((fdB f (flC f fl) (fa_fill (frG (flC f fl) (frM f (flC f fl) he mtt fz nx hh).1.2.2.1) (frM f (flC f fl) he mtt fz nx hh).1.2.2.1 108) (fdA f (flC f fl) (ic, qn, 0, 0) 108) (h + 1)).2.1 k))))]) (by rw [fdB_t hn] <;> rfl) ?_
      exact ih (h + 1) (by omega) (by omega)
set_option maxHeartbeats 4000000 in
set_option maxRecDepth 100000 in
theorem L_Mm_feed9_11 (g : zG) (m mp mf mh mn mt mz mc_ mq mgr ml mi mr mm mu mk mx : Nat) (th pt cl wa co_ fi bu ho lh mg wd fpi fal : Int32) (po de : Int64) (b : Nat) (f : Nat → Int32) (fl : Nat → Int32) (he nx mtt fz ic : Nat → Int32) (qn : Nat → Nat) (hh : Int32) (w0 : zW) (n : Nat) : ∀ (d i : Nat), i ≤ 108 → 108 < i + d → DV g M_Mm_feed (fun o cs1 => o = .inl none ∧ cs1 = [(m, .inr (12, [.int th, .ref mp, .int pt, .ref mf, .ref mh, .ref mn, .ref mt, .ref mz, .ref mc_, .ref mq, .ref mgr, .int cl, .int wa, .int co_, .int fi, .int bu, .int ho, .ref ml, .ref mi, .ref mr, .int lh, .int mg, .int wd, .int fpi, .int fal, .ref mm, .ref mu, .ref mk, .ref mx, .long po, .long de])), (b, .inl (1, 108, .inl f)), (mf, .inl (0, 108, .inl (flC f fl))), (mh, .inl (0, 108, .inl ((frM f (flC f fl) he mtt fz nx hh).1.1))), (mt, .inl (0, 108, .inl ((frM f (flC f fl) he mtt fz nx hh).1.2.1))), (mz, .inl (0, 108, .inl (fa_fill (frG (flC f fl) (frM f (flC f fl) he mtt fz nx hh).1.2.2.1) (frM f (flC f fl) he mtt fz nx hh).1.2.2.1 108))), (mn, .inl (0, 108, .inl ((frM f (flC f fl) he mtt fz nx hh).2))), (mc_, .inl (2, 108, .inl ((fdB f (flC f fl) (fa_fill (frG (flC f fl) (frM f (flC f fl) he mtt fz nx hh).1.2.2.1) (frM f (flC f fl) he mtt fz nx hh).1.2.2.1 108) (fdA f (flC f fl) (ic, qn, 0, 0) 108) 108).1))), (mq, .inl (0, 108, .inl (fun k => nI ((fdB f (flC f fl) (fa_fill (frG (flC f fl) (frM f (flC f fl) he mtt fz nx hh).1.2.2.1) (frM f (flC f fl) he mtt fz nx hh).1.2.2.1 108) (fdA f (flC f fl) (ic, qn, 0, 0) 108) 108).2.1 k))))]) w0 n 11 [(4, .int (nI i)), (3, .int (nI (fdA f (flC f fl) (ic, qn, 0, 0) i).2.2.1)), (0, .ref m), (1, .ref b), (2, .int hh)] [] [(m, .inr (12, [.int th, .ref mp, .int pt, .ref mf, .ref mh, .ref mn, .ref mt, .ref mz, .ref mc_, .ref mq, .ref mgr, .int cl, .int wa, .int co_, .int fi, .int bu, .int ho, .ref ml, .ref mi, .ref mr, .int lh, .int mg, .int wd, .int fpi, .int fal, .ref mm, .ref mu, .ref mk, .ref mx, .long po, .long de])), (b, .inl (1, 108, .inl f)), (mf, .inl (0, 108, .inl (flC f fl))), (mh, .inl (0, 108, .inl ((frM f (flC f fl) he mtt fz nx hh).1.1))), (mt, .inl (0, 108, .inl ((frM f (flC f fl) he mtt fz nx hh).1.2.1))), (mz, .inl (0, 108, .inl (fa_fill (frG (flC f fl) (frM f (flC f fl) he mtt fz nx hh).1.2.2.1) (frM f (flC f fl) he mtt fz nx hh).1.2.2.1 108))), (mn, .inl (0, 108, .inl ((frM f (flC f fl) he mtt fz nx hh).2))), (mc_, .inl (2, 108, .inl ((fdA f (flC f fl) (ic, qn, 0, 0) i).1))), (mq, .inl (0, 108, .inl (fun k => nI ((fdA f (flC f fl) (ic, qn, 0, 0) i).2.1 k))))] 0 0 := by
  intro d
  induction d with
  | zero => intro i h1 h2 ; exact absurd h2 (by omega)
  | succ d ih =>
    intro i h1 h2 
    refine r_iload d_Mm_feed_11 0 rfl ?_
    refine r_bipush d_Mm_feed_13 (v := 108) (by decide) ?_
    refine r_icmp_ge (tgt := 77) d_Mm_feed_15 (by decide) (fun c_15 => ?_) (fun c_15 => ?_)
    · have hn := z_le (a := 108) (by omega) (by decide) c_15
      obtain rfl : i = 108 := by omega
      refine r_bipush d_Mm_feed_77 (v := 10) (by decide) ?_
      refine r_iload_n d_Mm_feed_79 rfl 1 rfl ?_
      refine r_imul d_Mm_feed_80 (v := nI (10 * (fdA f (flC f fl) (ic, qn, 0, 0) 108).2.2.1)) (pk_mul _ _) ?_
      refine r_istore (lv' := [(4, .int (nI (10 * (fdA f (flC f fl) (ic, qn, 0, 0) 108).2.2.1))), (3, .int (nI (fdA f (flC f fl) (ic, qn, 0, 0) 108).2.2.1)), (0, .ref m), (1, .ref b), (2, .int hh)]) d_Mm_feed_81 (by decide) rfl ?_
      refine r_iconst d_Mm_feed_83 (v := 0) (by decide) ?_
      refine r_istore (lv' := [(5, .int 0), (4, .int (nI (10 * (fdA f (flC f fl) (ic, qn, 0, 0) 108).2.2.1))), (3, .int (nI (fdA f (flC f fl) (ic, qn, 0, 0) 108).2.2.1)), (0, .ref m), (1, .ref b), (2, .int hh)]) d_Mm_feed_84 (by decide) rfl ?_
      have hok0 := fdA_ok (ce := f) (fi := (flC f fl)) (S0 := (ic, qn, 0, 0)) rfl 108 (by omega)
      have hokA := fun h => fdB_ok (ce := f) (fi := (flC f fl)) (fr := (fa_fill (frG (flC f fl) (frM f (flC f fl) he mtt fz nx hh).1.2.2.1) (frM f (flC f fl) he mtt fz nx hh).1.2.2.1 108)) (S0 := (fdA f (flC f fl) (ic, qn, 0, 0) 108)) hok0 h
      have hdA := fun h => dI_B (ce := f) (fi := (flC f fl)) (fr := (fa_fill (frG (flC f fl) (frM f (flC f fl) he mtt fz nx hh).1.2.2.1) (frM f (flC f fl) he mtt fz nx hh).1.2.2.1 108)) (S0 := (fdA f (flC f fl) (ic, qn, 0, 0) 108)) hok0 fdA_dI h
      refine r_lvE (lv2 := [(5, .int (nI 0)), (4, .int ((fdB f (flC f fl) (fa_fill (frG (flC f fl) (frM f (flC f fl) he mtt fz nx hh).1.2.2.1) (frM f (flC f fl) he mtt fz nx hh).1.2.2.1 108) (fdA f (flC f fl) (ic, qn, 0, 0) 108) 0).2.2.2)), (3, .int (nI (fdB f (flC f fl) (fa_fill (frG (flC f fl) (frM f (flC f fl) he mtt fz nx hh).1.2.2.1) (frM f (flC f fl) he mtt fz nx hh).1.2.2.1 108) (fdA f (flC f fl) (ic, qn, 0, 0) 108) 0).2.2.1)), (0, .ref m), (1, .ref b), (2, .int hh)]) (by rw [show (fdB f (flC f fl) (fa_fill (frG (flC f fl) (frM f (flC f fl) he mtt fz nx hh).1.2.2.1) (frM f (flC f fl) he mtt fz nx hh).1.2.2.1 108) (fdA f (flC f fl) (ic, qn, 0, 0) 108) 0).2.2.2 = nI (10 * (fdA f (flC f fl) (ic, qn, 0, 0) 108).2.2.1) from (fdA_ct 108).2] <;> rfl) ?_
      refine r_cs (cs2 := [(m, .inr (12, [.int th, .ref mp, .int pt, .ref mf, .ref mh, .ref mn, .ref mt, .ref mz, .ref mc_, .ref mq, .ref mgr, .int cl, .int wa, .int co_, .int fi, .int bu, .int ho, .ref ml, .ref mi, .ref mr, .int lh, .int mg, .int wd, .int fpi, .int fal, .ref mm, .ref mu, .ref mk, .ref mx, .long po, .long de])), (b, .inl (1, 108, .inl f)), (mf, .inl (0, 108, .inl (flC f fl))), (mh, .inl (0, 108, .inl ((frM f (flC f fl) he mtt fz nx hh).1.1))), (mt, .inl (0, 108, .inl ((frM f (flC f fl) he mtt fz nx hh).1.2.1))), (mz, .inl (0, 108, .inl (fa_fill (frG (flC f fl) (frM f (flC f fl) he mtt fz nx hh).1.2.2.1) (frM f (flC f fl) he mtt fz nx hh).1.2.2.1 108))), (mn, .inl (0, 108, .inl ((frM f (flC f fl) he mtt fz nx hh).2))), (mc_, .inl (2, 108, .inl ((fdB f (flC f fl) (fa_fill (frG (flC f fl) (frM f (flC f fl) he mtt fz nx hh).1.2.2.1) (frM f (flC f fl) he mtt fz nx hh).1.2.2.1 108) (fdA f (flC f fl) (ic, qn, 0, 0) 108) 0).1))), (mq, .inl (0, 108, .inl (fun k => nI ((fdB f (flC f fl) (fa_fill (frG (flC f fl) (frM f (flC f fl) he mtt fz nx hh).1.2.2.1) (frM f (flC f fl) he mtt fz nx hh).1.2.2.1 108) (fdA f (flC f fl) (ic, qn, 0, 0) 108) 0).2.1 k))))]) (rfl) ?_
      exact L_Mm_feed9_86 g m mp mf mh mn mt mz mc_ mq mgr ml mi mr mm mu mk mx th pt cl wa co_ fi bu ho lh mg wd fpi fal po de b f fl he nx mtt fz ic qn hh w0 _ hokA hdA (108 + 1) 0 (Nat.zero_le _) (by omega)
    · have hn := z_nle (a := 108) (by omega) (by decide) c_15
      have hok := fdA_ok (ce := f) (fi := (flC f fl)) (S0 := (ic, qn, 0, 0)) rfl i (by omega)
      have hq1 := hok.1
      refine r_aload_n d_Mm_feed_18 rfl 2 rfl ?_
      refine r_get fs_Mm_33 d_Mm_feed_19 (q0 := 0) rfl rfl ?_
      refine r_iload d_Mm_feed_22 0 rfl ?_
      refine r_aload_n d_Mm_feed_24 rfl 3 rfl ?_
      refine r_iload d_Mm_feed_25 0 rfl ?_
      refine r_cald d_Mm_feed_27 (q0 := 1) rfl (vp_in_nI (by omega) (by omega)) (v := f i) (by rw [nI_clamp (by omega)]) ?_
      refine r_bipush d_Mm_feed_28 (v := 114) (by decide) ?_
      refine r_icmp_ne (tgt := 48) d_Mm_feed_30 (by decide) (fun c_30 => ?_) (fun c_30 => ?_)
      · have hq : ¬ (f i = 114 ∧ ¬ (flC f fl) i < 0) := fun q => c_30 q.1
        refine r_iconst d_Mm_feed_48 (v := 0) (by decide) ?_
        refine r_zast d_Mm_feed_49 (q0 := 7) rfl (vp_in_nI (by omega) (by omega)) (f' := upd ((fdA f (flC f fl) (ic, qn, 0, 0) i).1) i 0) (by rw [nI_clamp (by omega)] <;> rfl) (cs' := [(m, .inr (12, [.int th, .ref mp, .int pt, .ref mf, .ref mh, .ref mn, .ref mt, .ref mz, .ref mc_, .ref mq, .ref mgr, .int cl, .int wa, .int co_, .int fi, .int bu, .int ho, .ref ml, .ref mi, .ref mr, .int lh, .int mg, .int wd, .int fpi, .int fal, .ref mm, .ref mu, .ref mk, .ref mx, .long po, .long de])), (b, .inl (1, 108, .inl f)), (mf, .inl (0, 108, .inl (flC f fl))), (mh, .inl (0, 108, .inl ((frM f (flC f fl) he mtt fz nx hh).1.1))), (mt, .inl (0, 108, .inl ((frM f (flC f fl) he mtt fz nx hh).1.2.1))), (mz, .inl (0, 108, .inl (fa_fill (frG (flC f fl) (frM f (flC f fl) he mtt fz nx hh).1.2.2.1) (frM f (flC f fl) he mtt fz nx hh).1.2.2.1 108))), (mn, .inl (0, 108, .inl ((frM f (flC f fl) he mtt fz nx hh).2))), (mc_, .inl (2, 108, .inl (upd ((fdA f (flC f fl) (ic, qn, 0, 0) i).1) i 0))), (mq, .inl (0, 108, .inl (fun k => nI ((fdA f (flC f fl) (ic, qn, 0, 0) i).2.1 k))))]) rfl ?_
        refine r_aload_n d_Mm_feed_50 rfl 2 rfl ?_
        refine r_get fs_Mm_33 d_Mm_feed_51 (q0 := 0) rfl rfl ?_
        refine r_iload d_Mm_feed_54 0 rfl ?_
        refine r_zald d_Mm_feed_56 (q0 := 7) rfl (vp_in_nI (by omega) (by omega)) (v := 0) (by rw [nI_clamp (by omega)]; exact upd_eq) ?_
        refine r_if_eq (tgt := 71) d_Mm_feed_57 (by decide) (fun c_57 => ?_) (fun c_57 => ?_)
        · refine r_iinc (lv' := [(4, .int (nI (i + 1))), (3, .int (nI (fdA f (flC f fl) (ic, qn, 0, 0) i).2.2.1)), (0, .ref m), (1, .ref b), (2, .int hh)]) (v := nI (i + 1)) d_Mm_feed_71 (j := 0) rfl (nI_add _ _) (by decide) rfl ?_
          refine r_goto (tgt := 11) d_Mm_feed_74 (by decide) ?_
          refine r_lvE (lv2 := [(4, .int (nI (i + 1))), (3, .int (nI (fdA f (flC f fl) (ic, qn, 0, 0) (i + 1)).2.2.1)), (0, .ref m), (1, .ref b), (2, .int hh)]) (by first | (rw [fdA_t hq] <;> rfl) | (rw [fdA_f hq] <;> rfl)) ?_
          refine r_cs (cs2 := [(m, .inr (12, [.int th, .ref mp, .int pt, .ref mf, .ref mh, .ref mn, .ref mt, .ref mz, .ref mc_, .ref mq, .ref mgr, .int cl, .int wa, .int co_, .int fi, .int bu, .int ho, .ref ml, .ref mi, .ref mr, .int lh, .int mg, .int wd, .int fpi, .int fal, .ref mm, .ref mu, .ref mk, .ref mx, .long po, .long de])), (b, .inl (1, 108, .inl f)), (mf, .inl (0, 108, .inl (flC f fl))), (mh, .inl (0, 108, .inl ((frM f (flC f fl) he mtt fz nx hh).1.1))), (mt, .inl (0, 108, .inl ((frM f (flC f fl) he mtt fz nx hh).1.2.1))), (mz, .inl (0, 108, .inl (fa_fill (frG (flC f fl) (frM f (flC f fl) he mtt fz nx hh).1.2.2.1) (frM f (flC f fl) he mtt fz nx hh).1.2.2.1 108))), (mn, .inl (0, 108, .inl ((frM f (flC f fl) he mtt fz nx hh).2))), (mc_, .inl (2, 108, .inl ((fdA f (flC f fl) (ic, qn, 0, 0) (i + 1)).1))), (mq, .inl (0, 108, .inl (fun k => nI ((fdA f (flC f fl) (ic, qn, 0, 0) (i + 1)).2.1 k))))]) (by first | (rw [fdA_t hq] <;> rfl) | (rw [fdA_f hq] <;> rfl)) ?_
          exact ih (i + 1) (by omega) (by omega)
        · exact absurd c_57 (by decide)
      · refine r_aload_n d_Mm_feed_33 rfl 2 rfl ?_
        refine r_get fs_Mm_17 d_Mm_feed_34 (q0 := 0) rfl rfl ?_
        refine r_iload d_Mm_feed_37 0 rfl ?_
        refine r_iald d_Mm_feed_39 (q0 := 2) rfl (vp_in_nI (by omega) (by omega)) (v := (flC f fl) i) (by rw [nI_clamp (by omega)]) ?_
        refine r_iconst d_Mm_feed_40 (v := (-1)) (by decide) ?_
        refine r_icmp_eq (tgt := 48) d_Mm_feed_41 (by decide) (fun c_41 => ?_) (fun c_41 => ?_)
        · have hq : ¬ (f i = 114 ∧ ¬ (flC f fl) i < 0) := fun q => (vl_ng (vl_C f fl) hn).mp q.2 c_41
          refine r_iconst d_Mm_feed_48 (v := 0) (by decide) ?_
          refine r_zast d_Mm_feed_49 (q0 := 7) rfl (vp_in_nI (by omega) (by omega)) (f' := upd ((fdA f (flC f fl) (ic, qn, 0, 0) i).1) i 0) (by rw [nI_clamp (by omega)] <;> rfl) (cs' := [(m, .inr (12, [.int th, .ref mp, .int pt, .ref mf, .ref mh, .ref mn, .ref mt, .ref mz, .ref mc_, .ref mq, .ref mgr, .int cl, .int wa, .int co_, .int fi, .int bu, .int ho, .ref ml, .ref mi, .ref mr, .int lh, .int mg, .int wd, .int fpi, .int fal, .ref mm, .ref mu, .ref mk, .ref mx, .long po, .long de])), (b, .inl (1, 108, .inl f)), (mf, .inl (0, 108, .inl (flC f fl))), (mh, .inl (0, 108, .inl ((frM f (flC f fl) he mtt fz nx hh).1.1))), (mt, .inl (0, 108, .inl ((frM f (flC f fl) he mtt fz nx hh).1.2.1))), (mz, .inl (0, 108, .inl (fa_fill (frG (flC f fl) (frM f (flC f fl) he mtt fz nx hh).1.2.2.1) (frM f (flC f fl) he mtt fz nx hh).1.2.2.1 108))), (mn, .inl (0, 108, .inl ((frM f (flC f fl) he mtt fz nx hh).2))), (mc_, .inl (2, 108, .inl (upd ((fdA f (flC f fl) (ic, qn, 0, 0) i).1) i 0))), (mq, .inl (0, 108, .inl (fun k => nI ((fdA f (flC f fl) (ic, qn, 0, 0) i).2.1 k))))]) rfl ?_
          refine r_aload_n d_Mm_feed_50 rfl 2 rfl ?_
          refine r_get fs_Mm_33 d_Mm_feed_51 (q0 := 0) rfl rfl ?_
          refine r_iload d_Mm_feed_54 0 rfl ?_
          refine r_zald d_Mm_feed_56 (q0 := 7) rfl (vp_in_nI (by omega) (by omega)) (v := 0) (by rw [nI_clamp (by omega)]; exact upd_eq) ?_
          refine r_if_eq (tgt := 71) d_Mm_feed_57 (by decide) (fun c_57 => ?_) (fun c_57 => ?_)
          · refine r_iinc (lv' := [(4, .int (nI (i + 1))), (3, .int (nI (fdA f (flC f fl) (ic, qn, 0, 0) i).2.2.1)), (0, .ref m), (1, .ref b), (2, .int hh)]) (v := nI (i + 1)) d_Mm_feed_71 (j := 0) rfl (nI_add _ _) (by decide) rfl ?_
            refine r_goto (tgt := 11) d_Mm_feed_74 (by decide) ?_
            refine r_lvE (lv2 := [(4, .int (nI (i + 1))), (3, .int (nI (fdA f (flC f fl) (ic, qn, 0, 0) (i + 1)).2.2.1)), (0, .ref m), (1, .ref b), (2, .int hh)]) (by first | (rw [fdA_t hq] <;> rfl) | (rw [fdA_f hq] <;> rfl)) ?_
            refine r_cs (cs2 := [(m, .inr (12, [.int th, .ref mp, .int pt, .ref mf, .ref mh, .ref mn, .ref mt, .ref mz, .ref mc_, .ref mq, .ref mgr, .int cl, .int wa, .int co_, .int fi, .int bu, .int ho, .ref ml, .ref mi, .ref mr, .int lh, .int mg, .int wd, .int fpi, .int fal, .ref mm, .ref mu, .ref mk, .ref mx, .long po, .long de])), (b, .inl (1, 108, .inl f)), (mf, .inl (0, 108, .inl (flC f fl))), (mh, .inl (0, 108, .inl ((frM f (flC f fl) he mtt fz nx hh).1.1))), (mt, .inl (0, 108, .inl ((frM f (flC f fl) he mtt fz nx hh).1.2.1))), (mz, .inl (0, 108, .inl (fa_fill (frG (flC f fl) (frM f (flC f fl) he mtt fz nx hh).1.2.2.1) (frM f (flC f fl) he mtt fz nx hh).1.2.2.1 108))), (mn, .inl (0, 108, .inl ((frM f (flC f fl) he mtt fz nx hh).2))), (mc_, .inl (2, 108, .inl ((fdA f (flC f fl) (ic, qn, 0, 0) (i + 1)).1))), (mq, .inl (0, 108, .inl (fun k => nI ((fdA f (flC f fl) (ic, qn, 0, 0) (i + 1)).2.1 k))))]) (by first | (rw [fdA_t hq] <;> rfl) | (rw [fdA_f hq] <;> rfl)) ?_
            exact ih (i + 1) (by omega) (by omega)
          · exact absurd c_57 (by decide)
        · have hq : f i = 114 ∧ ¬ (flC f fl) i < 0 := ⟨c_30, (vl_ng (vl_C f fl) hn).mpr c_41⟩
          refine r_iconst d_Mm_feed_44 (v := 1) (by decide) ?_
          refine r_goto (tgt := 49) d_Mm_feed_45 (by decide) ?_
          refine r_zast d_Mm_feed_49 (q0 := 7) rfl (vp_in_nI (by omega) (by omega)) (f' := upd ((fdA f (flC f fl) (ic, qn, 0, 0) i).1) i 1) (by rw [nI_clamp (by omega)] <;> rfl) (cs' := [(m, .inr (12, [.int th, .ref mp, .int pt, .ref mf, .ref mh, .ref mn, .ref mt, .ref mz, .ref mc_, .ref mq, .ref mgr, .int cl, .int wa, .int co_, .int fi, .int bu, .int ho, .ref ml, .ref mi, .ref mr, .int lh, .int mg, .int wd, .int fpi, .int fal, .ref mm, .ref mu, .ref mk, .ref mx, .long po, .long de])), (b, .inl (1, 108, .inl f)), (mf, .inl (0, 108, .inl (flC f fl))), (mh, .inl (0, 108, .inl ((frM f (flC f fl) he mtt fz nx hh).1.1))), (mt, .inl (0, 108, .inl ((frM f (flC f fl) he mtt fz nx hh).1.2.1))), (mz, .inl (0, 108, .inl (fa_fill (frG (flC f fl) (frM f (flC f fl) he mtt fz nx hh).1.2.2.1) (frM f (flC f fl) he mtt fz nx hh).1.2.2.1 108))), (mn, .inl (0, 108, .inl ((frM f (flC f fl) he mtt fz nx hh).2))), (mc_, .inl (2, 108, .inl (upd ((fdA f (flC f fl) (ic, qn, 0, 0) i).1) i 1))), (mq, .inl (0, 108, .inl (fun k => nI ((fdA f (flC f fl) (ic, qn, 0, 0) i).2.1 k))))]) rfl ?_
          refine r_aload_n d_Mm_feed_50 rfl 2 rfl ?_
          refine r_get fs_Mm_33 d_Mm_feed_51 (q0 := 0) rfl rfl ?_
          refine r_iload d_Mm_feed_54 0 rfl ?_
          refine r_zald d_Mm_feed_56 (q0 := 7) rfl (vp_in_nI (by omega) (by omega)) (v := 1) (by rw [nI_clamp (by omega)]; exact upd_eq) ?_
          refine r_if_eq (tgt := 71) d_Mm_feed_57 (by decide) (fun c_57 => ?_) (fun c_57 => ?_)
          · exact absurd c_57 (by decide)
          · refine r_aload_n d_Mm_feed_60 rfl 2 rfl ?_
            refine r_get fs_Mm_37 d_Mm_feed_61 (q0 := 0) rfl rfl ?_
            refine r_iload_n d_Mm_feed_64 rfl 1 rfl ?_
            refine r_iload d_Mm_feed_65 0 rfl ?_
            refine r_iast d_Mm_feed_67 (q0 := 8) rfl (vp_in_nI (by omega) (by omega)) (f' := fun k => nI (updN (fdA f (flC f fl) (ic, qn, 0, 0) i).2.1 (fdA f (flC f fl) (ic, qn, 0, 0) i).2.2.1 i k)) (by rw [nI_clamp (by omega)]; exact upd_qn) (cs' := [(m, .inr (12, [.int th, .ref mp, .int pt, .ref mf, .ref mh, .ref mn, .ref mt, .ref mz, .ref mc_, .ref mq, .ref mgr, .int cl, .int wa, .int co_, .int fi, .int bu, .int ho, .ref ml, .ref mi, .ref mr, .int lh, .int mg, .int wd, .int fpi, .int fal, .ref mm, .ref mu, .ref mk, .ref mx, .long po, .long de])), (b, .inl (1, 108, .inl f)), (mf, .inl (0, 108, .inl (flC f fl))), (mh, .inl (0, 108, .inl ((frM f (flC f fl) he mtt fz nx hh).1.1))), (mt, .inl (0, 108, .inl ((frM f (flC f fl) he mtt fz nx hh).1.2.1))), (mz, .inl (0, 108, .inl (fa_fill (frG (flC f fl) (frM f (flC f fl) he mtt fz nx hh).1.2.2.1) (frM f (flC f fl) he mtt fz nx hh).1.2.2.1 108))), (mn, .inl (0, 108, .inl ((frM f (flC f fl) he mtt fz nx hh).2))), (mc_, .inl (2, 108, .inl (upd ((fdA f (flC f fl) (ic, qn, 0, 0) i).1) i 1))), (mq, .inl (0, 108, .inl (fun k => nI (updN (fdA f (flC f fl) (ic, qn, 0, 0) i).2.1 (fdA f (flC f fl) (ic, qn, 0, 0) i).2.2.1 i k))))]) rfl ?_
            refine r_iinc (lv' := [(3, .int (nI ((fdA f (flC f fl) (ic, qn, 0, 0) i).2.2.1 + 1))), (4, .int (nI i)), (0, .ref m), (1, .ref b), (2, .int hh)]) (v := nI ((fdA f (flC f fl) (ic, qn, 0, 0) i).2.2.1 + 1)) d_Mm_feed_68 (j := 1) rfl (nI_add _ _) (by decide) rfl ?_
            refine r_iinc (lv' := [(4, .int (nI (i + 1))), (3, .int (nI ((fdA f (flC f fl) (ic, qn, 0, 0) i).2.2.1 + 1))), (0, .ref m), (1, .ref b), (2, .int hh)]) (v := nI (i + 1)) d_Mm_feed_71 (j := 1) rfl (nI_add _ _) (by decide) rfl ?_
            refine r_goto (tgt := 11) d_Mm_feed_74 (by decide) ?_
            refine r_lvE (lv2 := [(4, .int (nI (i + 1))), (3, .int (nI (fdA f (flC f fl) (ic, qn, 0, 0) (i + 1)).2.2.1)), (0, .ref m), (1, .ref b), (2, .int hh)]) (by first | (rw [fdA_t hq] <;> rfl) | (rw [fdA_f hq] <;> rfl)) ?_
            refine r_cs (cs2 := [(m, .inr (12, [.int th, .ref mp, .int pt, .ref mf, .ref mh, .ref mn, .ref mt, .ref mz, .ref mc_, .ref mq, .ref mgr, .int cl, .int wa, .int co_, .int fi, .int bu, .int ho, .ref ml, .ref mi, .ref mr, .int lh, .int mg, .int wd, .int fpi, .int fal, .ref mm, .ref mu, .ref mk, .ref mx, .long po, .long de])), (b, .inl (1, 108, .inl f)), (mf, .inl (0, 108, .inl (flC f fl))), (mh, .inl (0, 108, .inl ((frM f (flC f fl) he mtt fz nx hh).1.1))), (mt, .inl (0, 108, .inl ((frM f (flC f fl) he mtt fz nx hh).1.2.1))), (mz, .inl (0, 108, .inl (fa_fill (frG (flC f fl) (frM f (flC f fl) he mtt fz nx hh).1.2.2.1) (frM f (flC f fl) he mtt fz nx hh).1.2.2.1 108))), (mn, .inl (0, 108, .inl ((frM f (flC f fl) he mtt fz nx hh).2))), (mc_, .inl (2, 108, .inl ((fdA f (flC f fl) (ic, qn, 0, 0) (i + 1)).1))), (mq, .inl (0, 108, .inl (fun k => nI ((fdA f (flC f fl) (ic, qn, 0, 0) (i + 1)).2.1 k))))]) (by first | (rw [fdA_t hq] <;> rfl) | (rw [fdA_f hq] <;> rfl)) ?_
            exact ih (i + 1) (by omega) (by omega)
set_option maxHeartbeats 4000000 in
set_option maxRecDepth 100000 in
theorem C_Mm_feed9 (g : zG) (m mp mf mh mn mt mz mc_ mq mgr ml mi mr mm mu mk mx : Nat) (th pt cl wa co_ fi bu ho lh mg wd fpi fal : Int32) (po de : Int64) (b : Nat) (f : Nat → Int32) (fl : Nat → Int32) (he nx mtt fz ic : Nat → Int32) (qn : Nat → Nat) (hh : Int32) : CT g M_Mm_feed [.ref m, .ref b, .int hh] [(m, .inr (12, [.int th, .ref mp, .int pt, .ref mf, .ref mh, .ref mn, .ref mt, .ref mz, .ref mc_, .ref mq, .ref mgr, .int cl, .int wa, .int co_, .int fi, .int bu, .int ho, .ref ml, .ref mi, .ref mr, .int lh, .int mg, .int wd, .int fpi, .int fal, .ref mm, .ref mu, .ref mk, .ref mx, .long po, .long de])), (b, .inl (1, 108, .inl f)), (mf, .inl (0, 108, .inl fl)), (mh, .inl (0, 108, .inl he)), (mt, .inl (0, 108, .inl mtt)), (mz, .inl (0, 108, .inl fz)), (mn, .inl (0, 108, .inl nx)), (mc_, .inl (2, 108, .inl ic)), (mq, .inl (0, 108, .inl (fun k => nI (qn k))))] (fun o cs1 => o = .inl none ∧ cs1 = [(m, .inr (12, [.int th, .ref mp, .int pt, .ref mf, .ref mh, .ref mn, .ref mt, .ref mz, .ref mc_, .ref mq, .ref mgr, .int cl, .int wa, .int co_, .int fi, .int bu, .int ho, .ref ml, .ref mi, .ref mr, .int lh, .int mg, .int wd, .int fpi, .int fal, .ref mm, .ref mu, .ref mk, .ref mx, .long po, .long de])), (b, .inl (1, 108, .inl f)), (mf, .inl (0, 108, .inl (flC f fl))), (mh, .inl (0, 108, .inl ((frM f (flC f fl) he mtt fz nx hh).1.1))), (mt, .inl (0, 108, .inl ((frM f (flC f fl) he mtt fz nx hh).1.2.1))), (mz, .inl (0, 108, .inl (fa_fill (frG (flC f fl) (frM f (flC f fl) he mtt fz nx hh).1.2.2.1) (frM f (flC f fl) he mtt fz nx hh).1.2.2.1 108))), (mn, .inl (0, 108, .inl ((frM f (flC f fl) he mtt fz nx hh).2))), (mc_, .inl (2, 108, .inl ((fdB f (flC f fl) (fa_fill (frG (flC f fl) (frM f (flC f fl) he mtt fz nx hh).1.2.2.1) (frM f (flC f fl) he mtt fz nx hh).1.2.2.1 108) (fdA f (flC f fl) (ic, qn, 0, 0) 108) 108).1))), (mq, .inl (0, 108, .inl (fun k => nI ((fdB f (flC f fl) (fa_fill (frG (flC f fl) (frM f (flC f fl) he mtt fz nx hh).1.2.2.1) (frM f (flC f fl) he mtt fz nx hh).1.2.2.1 108) (fdA f (flC f fl) (ic, qn, 0, 0) 108) 108).2.1 k))))]) 0 0 := by
  refine z_of (by decide) rfl (Nat.le_of_ble_eq_true rfl) (fun w0 => ?_)
  refine r_lvE (lv2 := [(0, .ref m), (1, .ref b), (2, .int hh)]) rfl ?_
  refine r_aload_n d_Mm_feed_0 rfl 0 rfl ?_
  refine r_aload_n d_Mm_feed_1 rfl 1 rfl ?_
  refine r_iload_n d_Mm_feed_2 rfl 2 rfl ?_
  refine r_callV (As := [.ref b, .int hh]) (rest := []) (csC := [(m, .inr (12, [.int th, .ref mp, .int pt, .ref mf, .ref mh, .ref mn, .ref mt, .ref mz, .ref mc_, .ref mq, .ref mgr, .int cl, .int wa, .int co_, .int fi, .int bu, .int ho, .ref ml, .ref mi, .ref mr, .int lh, .int mg, .int wd, .int fpi, .int fal, .ref mm, .ref mu, .ref mk, .ref mx, .long po, .long de])), (b, .inl (1, 108, .inl f)), (mf, .inl (0, 108, .inl fl)), (mh, .inl (0, 108, .inl he)), (mt, .inl (0, 108, .inl mtt)), (mz, .inl (0, 108, .inl fz)), (mn, .inl (0, 108, .inl nx))]) (is := [0, 1, 2, 3, 4, 5, 6]) (q0 := 0) rfl rfl ln_Mm_167 w_im_Mm_freeze w_se_Mm_freeze ok_Mm_feed_Mm_freeze d_Mm_feed_3 (C_Mm_freeze9 g m mp mf mh mn mt mz mc_ mq mgr ml mi mr mm mu mk mx th pt cl wa co_ fi bu ho lh mg wd fpi fal po de b f fl he nx mtt fz hh) rfl rfl (Nat.le_of_ble_eq_true rfl) rfl (by decide) (by omega) (by omega) (fun E cs1 hx => ?_) (fun v cs1 hx => ?_)
  · exact absurd hx.1 (by simp)
  · obtain ⟨e1, rfl⟩ := hx
    cases e1
    refine ⟨rfl, ?_⟩
    refine r_st (st2 := []) rfl ?_
    refine r_cs (cs2 := [(m, .inr (12, [.int th, .ref mp, .int pt, .ref mf, .ref mh, .ref mn, .ref mt, .ref mz, .ref mc_, .ref mq, .ref mgr, .int cl, .int wa, .int co_, .int fi, .int bu, .int ho, .ref ml, .ref mi, .ref mr, .int lh, .int mg, .int wd, .int fpi, .int fal, .ref mm, .ref mu, .ref mk, .ref mx, .long po, .long de])), (b, .inl (1, 108, .inl f)), (mf, .inl (0, 108, .inl (flC f fl))), (mh, .inl (0, 108, .inl ((frM f (flC f fl) he mtt fz nx hh).1.1))), (mt, .inl (0, 108, .inl ((frM f (flC f fl) he mtt fz nx hh).1.2.1))), (mz, .inl (0, 108, .inl (fa_fill (frG (flC f fl) (frM f (flC f fl) he mtt fz nx hh).1.2.2.1) (frM f (flC f fl) he mtt fz nx hh).1.2.2.1 108))), (mn, .inl (0, 108, .inl ((frM f (flC f fl) he mtt fz nx hh).2))), (mc_, .inl (2, 108, .inl ic)), (mq, .inl (0, 108, .inl (fun k => nI (qn k))))]) rfl ?_
    refine r_iconst d_Mm_feed_6 (v := 0) (by decide) ?_
    refine r_istore_n (lv' := [(3, .int 0), (0, .ref m), (1, .ref b), (2, .int hh)]) d_Mm_feed_7 rfl (by decide) rfl ?_
    refine r_iconst d_Mm_feed_8 (v := 0) (by decide) ?_
    refine r_istore (lv' := [(4, .int 0), (3, .int 0), (0, .ref m), (1, .ref b), (2, .int hh)]) d_Mm_feed_9 (by decide) rfl ?_
    refine r_lvE (lv2 := [(4, .int (nI 0)), (3, .int (nI (fdA f (flC f fl) (ic, qn, 0, 0) 0).2.2.1)), (0, .ref m), (1, .ref b), (2, .int hh)]) (rfl) ?_
    refine r_cs (cs2 := [(m, .inr (12, [.int th, .ref mp, .int pt, .ref mf, .ref mh, .ref mn, .ref mt, .ref mz, .ref mc_, .ref mq, .ref mgr, .int cl, .int wa, .int co_, .int fi, .int bu, .int ho, .ref ml, .ref mi, .ref mr, .int lh, .int mg, .int wd, .int fpi, .int fal, .ref mm, .ref mu, .ref mk, .ref mx, .long po, .long de])), (b, .inl (1, 108, .inl f)), (mf, .inl (0, 108, .inl (flC f fl))), (mh, .inl (0, 108, .inl ((frM f (flC f fl) he mtt fz nx hh).1.1))), (mt, .inl (0, 108, .inl ((frM f (flC f fl) he mtt fz nx hh).1.2.1))), (mz, .inl (0, 108, .inl (fa_fill (frG (flC f fl) (frM f (flC f fl) he mtt fz nx hh).1.2.2.1) (frM f (flC f fl) he mtt fz nx hh).1.2.2.1 108))), (mn, .inl (0, 108, .inl ((frM f (flC f fl) he mtt fz nx hh).2))), (mc_, .inl (2, 108, .inl ((fdA f (flC f fl) (ic, qn, 0, 0) 0).1))), (mq, .inl (0, 108, .inl (fun k => nI ((fdA f (flC f fl) (ic, qn, 0, 0) 0).2.1 k))))]) (rfl) ?_
    exact L_Mm_feed9_11 g m mp mf mh mn mt mz mc_ mq mgr ml mi mr mm mu mk mx th pt cl wa co_ fi bu ho lh mg wd fpi fal po de b f fl he nx mtt fz ic qn hh w0 _  (108 + 1) 0 (Nat.zero_le _) (by omega)
set_option maxHeartbeats 4000000 in
set_option maxRecDepth 100000 in
theorem L_Mm_shrunkOf9_11 (g : zG) (m mp mf mh mn mt mz mc_ mq mgr ml mi mr mm mu mk mx : Nat) (th pt cl wa co_ fi bu ho lh mg wd fpi fal : Int32) (po de : Int64) (b : Nat) (f : Nat → Int32) (fl : Nat → Int32) (he nx mtt fz ic : Nat → Int32) (qn : Nat → Nat) (hh : Int32) (w0 : zW) (n : Nat) : ∀ (d i : Nat), i ≤ 108 → 108 < i + d → DV g M_Mm_shrunkOf (fun o cs1 => o = .inl (some (.int (nI (fa_cnt (scP f (flC f fl) (fdB f (flC f fl) (fa_fill (frG (flC f fl) (frM f (flC f fl) he mtt fz nx hh).1.2.2.1) (frM f (flC f fl) he mtt fz nx hh).1.2.2.1 108) (fdA f (flC f fl) (ic, qn, 0, 0) 108) 108).1) 108)))) ∧ cs1 = [(m, .inr (12, [.int th, .ref mp, .int pt, .ref mf, .ref mh, .ref mn, .ref mt, .ref mz, .ref mc_, .ref mq, .ref mgr, .int cl, .int wa, .int co_, .int fi, .int bu, .int ho, .ref ml, .ref mi, .ref mr, .int lh, .int mg, .int wd, .int fpi, .int fal, .ref mm, .ref mu, .ref mk, .ref mx, .long po, .long de])), (b, .inl (1, 108, .inl f)), (mf, .inl (0, 108, .inl (flC f fl))), (mh, .inl (0, 108, .inl ((frM f (flC f fl) he mtt fz nx hh).1.1))), (mt, .inl (0, 108, .inl ((frM f (flC f fl) he mtt fz nx hh).1.2.1))), (mz, .inl (0, 108, .inl (fa_fill (frG (flC f fl) (frM f (flC f fl) he mtt fz nx hh).1.2.2.1) (frM f (flC f fl) he mtt fz nx hh).1.2.2.1 108))), (mn, .inl (0, 108, .inl ((frM f (flC f fl) he mtt fz nx hh).2))), (mc_, .inl (2, 108, .inl ((fdB f (flC f fl) (fa_fill (frG (flC f fl) (frM f (flC f fl) he mtt fz nx hh).1.2.2.1) (frM f (flC f fl) he mtt fz nx hh).1.2.2.1 108) (fdA f (flC f fl) (ic, qn, 0, 0) 108) 108).1))), (mq, .inl (0, 108, .inl (fun k => nI ((fdB f (flC f fl) (fa_fill (frG (flC f fl) (frM f (flC f fl) he mtt fz nx hh).1.2.2.1) (frM f (flC f fl) he mtt fz nx hh).1.2.2.1 108) (fdA f (flC f fl) (ic, qn, 0, 0) 108) 108).2.1 k))))]) w0 n 11 [(4, .int (nI i)), (3, .int (nI (fa_cnt (scP f (flC f fl) (fdB f (flC f fl) (fa_fill (frG (flC f fl) (frM f (flC f fl) he mtt fz nx hh).1.2.2.1) (frM f (flC f fl) he mtt fz nx hh).1.2.2.1 108) (fdA f (flC f fl) (ic, qn, 0, 0) 108) 108).1) i))), (0, .ref m), (1, .ref b), (2, .int hh)] [] [(m, .inr (12, [.int th, .ref mp, .int pt, .ref mf, .ref mh, .ref mn, .ref mt, .ref mz, .ref mc_, .ref mq, .ref mgr, .int cl, .int wa, .int co_, .int fi, .int bu, .int ho, .ref ml, .ref mi, .ref mr, .int lh, .int mg, .int wd, .int fpi, .int fal, .ref mm, .ref mu, .ref mk, .ref mx, .long po, .long de])), (b, .inl (1, 108, .inl f)), (mf, .inl (0, 108, .inl (flC f fl))), (mh, .inl (0, 108, .inl ((frM f (flC f fl) he mtt fz nx hh).1.1))), (mt, .inl (0, 108, .inl ((frM f (flC f fl) he mtt fz nx hh).1.2.1))), (mz, .inl (0, 108, .inl (fa_fill (frG (flC f fl) (frM f (flC f fl) he mtt fz nx hh).1.2.2.1) (frM f (flC f fl) he mtt fz nx hh).1.2.2.1 108))), (mn, .inl (0, 108, .inl ((frM f (flC f fl) he mtt fz nx hh).2))), (mc_, .inl (2, 108, .inl ((fdB f (flC f fl) (fa_fill (frG (flC f fl) (frM f (flC f fl) he mtt fz nx hh).1.2.2.1) (frM f (flC f fl) he mtt fz nx hh).1.2.2.1 108) (fdA f (flC f fl) (ic, qn, 0, 0) 108) 108).1))), (mq, .inl (0, 108, .inl (fun k => nI ((fdB f (flC f fl) (fa_fill (frG (flC f fl) (frM f (flC f fl) he mtt fz nx hh).1.2.2.1) (frM f (flC f fl) he mtt fz nx hh).1.2.2.1 108) (fdA f (flC f fl) (ic, qn, 0, 0) 108) 108).2.1 k))))] 0 0 := by
  intro d
  induction d with
  | zero => intro i h1 h2 ; exact absurd h2 (by omega)
  | succ d ih =>
    intro i h1 h2 
    refine r_iload d_Mm_shrunkOf_11 0 rfl ?_
    refine r_bipush d_Mm_shrunkOf_13 (v := 108) (by decide) ?_
    refine r_icmp_ge (tgt := 62) d_Mm_shrunkOf_15 (by decide) (fun c_15 => ?_) (fun c_15 => ?_)
    · have hn := z_le (a := 108) (by omega) (by decide) c_15
      obtain rfl : i = 108 := by omega
      refine r_iload_n d_Mm_shrunkOf_62 rfl 1 rfl ?_
      refine r_iret d_Mm_shrunkOf_63 rfl rfl ?_
      exact ⟨rfl, rfl⟩
    · have hn := z_nle (a := 108) (by omega) (by decide) c_15
      refine r_iload_n d_Mm_shrunkOf_18 rfl 1 rfl ?_
      refine r_aload_n d_Mm_shrunkOf_19 rfl 3 rfl ?_
      refine r_iload d_Mm_shrunkOf_20 0 rfl ?_
      refine r_cald d_Mm_shrunkOf_22 (q0 := 1) rfl (vp_in_nI (by omega) (by omega)) (v := f i) (by rw [nI_clamp (by omega)]) ?_
      refine r_bipush d_Mm_shrunkOf_23 (v := 99) (by decide) ?_
      refine r_icmp_ne (tgt := 53) d_Mm_shrunkOf_25 (by decide) (fun c_25 => ?_) (fun c_25 => ?_)
      · have hb : (scP f (flC f fl) (fdB f (flC f fl) (fa_fill (frG (flC f fl) (frM f (flC f fl) he mtt fz nx hh).1.2.2.1) (frM f (flC f fl) he mtt fz nx hh).1.2.2.1 108) (fdA f (flC f fl) (ic, qn, 0, 0) 108) 108).1) i = false := decide_eq_false (fun q => c_25 q.1)
        refine r_iconst d_Mm_shrunkOf_53 (v := 0) (by decide) ?_
        refine r_iadd d_Mm_shrunkOf_54 (v := nI ((fa_cnt (scP f (flC f fl) (fdB f (flC f fl) (fa_fill (frG (flC f fl) (frM f (flC f fl) he mtt fz nx hh).1.2.2.1) (frM f (flC f fl) he mtt fz nx hh).1.2.2.1 108) (fdA f (flC f fl) (ic, qn, 0, 0) 108) 108).1) i) + 0)) (nI_add _ _) ?_
        refine r_istore_n (lv' := [(3, .int (nI ((fa_cnt (scP f (flC f fl) (fdB f (flC f fl) (fa_fill (frG (flC f fl) (frM f (flC f fl) he mtt fz nx hh).1.2.2.1) (frM f (flC f fl) he mtt fz nx hh).1.2.2.1 108) (fdA f (flC f fl) (ic, qn, 0, 0) 108) 108).1) i) + 0))), (4, .int (nI i)), (0, .ref m), (1, .ref b), (2, .int hh)]) d_Mm_shrunkOf_55 rfl (by decide) rfl ?_
        refine r_iinc (lv' := [(4, .int (nI (i + 1))), (3, .int (nI ((fa_cnt (scP f (flC f fl) (fdB f (flC f fl) (fa_fill (frG (flC f fl) (frM f (flC f fl) he mtt fz nx hh).1.2.2.1) (frM f (flC f fl) he mtt fz nx hh).1.2.2.1 108) (fdA f (flC f fl) (ic, qn, 0, 0) 108) 108).1) i) + 0))), (0, .ref m), (1, .ref b), (2, .int hh)]) (v := nI (i + 1)) d_Mm_shrunkOf_56 (j := 1) rfl (nI_add _ _) (by decide) rfl ?_
        refine r_goto (tgt := 11) d_Mm_shrunkOf_59 (by decide) ?_
        refine r_lvE (lv2 := [(4, .int (nI (i + 1))), (3, .int (nI (fa_cnt (scP f (flC f fl) (fdB f (flC f fl) (fa_fill (frG (flC f fl) (frM f (flC f fl) he mtt fz nx hh).1.2.2.1) (frM f (flC f fl) he mtt fz nx hh).1.2.2.1 108) (fdA f (flC f fl) (ic, qn, 0, 0) 108) 108).1) (i + 1)))), (0, .ref m), (1, .ref b), (2, .int hh)]) (by first | (rw [fa_cnt_yes (p := (scP f (flC f fl) (fdB f (flC f fl) (fa_fill (frG (flC f fl) (frM f (flC f fl) he mtt fz nx hh).1.2.2.1) (frM f (flC f fl) he mtt fz nx hh).1.2.2.1 108) (fdA f (flC f fl) (ic, qn, 0, 0) 108) 108).1)) hb] <;> rfl) | (rw [fa_cnt_no (p := (scP f (flC f fl) (fdB f (flC f fl) (fa_fill (frG (flC f fl) (frM f (flC f fl) he mtt fz nx hh).1.2.2.1) (frM f (flC f fl) he mtt fz nx hh).1.2.2.1 108) (fdA f (flC f fl) (ic, qn, 0, 0) 108) 108).1)) hb] <;> rfl)) ?_
        refine r_cs (cs2 := [(m, .inr (12, [.int th, .ref mp, .int pt, .ref mf, .ref mh, .ref mn, .ref mt, .ref mz, .ref mc_, .ref mq, .ref mgr, .int cl, .int wa, .int co_, .int fi, .int bu, .int ho, .ref ml, .ref mi, .ref mr, .int lh, .int mg, .int wd, .int fpi, .int fal, .ref mm, .ref mu, .ref mk, .ref mx, .long po, .long de])), (b, .inl (1, 108, .inl f)), (mf, .inl (0, 108, .inl (flC f fl))), (mh, .inl (0, 108, .inl ((frM f (flC f fl) he mtt fz nx hh).1.1))), (mt, .inl (0, 108, .inl ((frM f (flC f fl) he mtt fz nx hh).1.2.1))), (mz, .inl (0, 108, .inl (fa_fill (frG (flC f fl) (frM f (flC f fl) he mtt fz nx hh).1.2.2.1) (frM f (flC f fl) he mtt fz nx hh).1.2.2.1 108))), (mn, .inl (0, 108, .inl ((frM f (flC f fl) he mtt fz nx hh).2))), (mc_, .inl (2, 108, .inl ((fdB f (flC f fl) (fa_fill (frG (flC f fl) (frM f (flC f fl) he mtt fz nx hh).1.2.2.1) (frM f (flC f fl) he mtt fz nx hh).1.2.2.1 108) (fdA f (flC f fl) (ic, qn, 0, 0) 108) 108).1))), (mq, .inl (0, 108, .inl (fun k => nI ((fdB f (flC f fl) (fa_fill (frG (flC f fl) (frM f (flC f fl) he mtt fz nx hh).1.2.2.1) (frM f (flC f fl) he mtt fz nx hh).1.2.2.1 108) (fdA f (flC f fl) (ic, qn, 0, 0) 108) 108).2.1 k))))]) (rfl) ?_
        exact ih (i + 1) (by omega) (by omega)
      · refine r_aload_n d_Mm_shrunkOf_28 rfl 2 rfl ?_
        refine r_get fs_Mm_17 d_Mm_shrunkOf_29 (q0 := 0) rfl rfl ?_
        refine r_iload d_Mm_shrunkOf_32 0 rfl ?_
        refine r_iald d_Mm_shrunkOf_34 (q0 := 2) rfl (vp_in_nI (by omega) (by omega)) (v := (flC f fl) i) (by rw [nI_clamp (by omega)]) ?_
        refine r_iconst d_Mm_shrunkOf_35 (v := (-1)) (by decide) ?_
        refine r_icmp_eq (tgt := 53) d_Mm_shrunkOf_36 (by decide) (fun c_36 => ?_) (fun c_36 => ?_)
        · have hb : (scP f (flC f fl) (fdB f (flC f fl) (fa_fill (frG (flC f fl) (frM f (flC f fl) he mtt fz nx hh).1.2.2.1) (frM f (flC f fl) he mtt fz nx hh).1.2.2.1 108) (fdA f (flC f fl) (ic, qn, 0, 0) 108) 108).1) i = false := decide_eq_false (fun q => (vl_ng (vl_C f fl) hn).mp q.2.1 c_36)
          refine r_iconst d_Mm_shrunkOf_53 (v := 0) (by decide) ?_
          refine r_iadd d_Mm_shrunkOf_54 (v := nI ((fa_cnt (scP f (flC f fl) (fdB f (flC f fl) (fa_fill (frG (flC f fl) (frM f (flC f fl) he mtt fz nx hh).1.2.2.1) (frM f (flC f fl) he mtt fz nx hh).1.2.2.1 108) (fdA f (flC f fl) (ic, qn, 0, 0) 108) 108).1) i) + 0)) (nI_add _ _) ?_
          refine r_istore_n (lv' := [(3, .int (nI ((fa_cnt (scP f (flC f fl) (fdB f (flC f fl) (fa_fill (frG (flC f fl) (frM f (flC f fl) he mtt fz nx hh).1.2.2.1) (frM f (flC f fl) he mtt fz nx hh).1.2.2.1 108) (fdA f (flC f fl) (ic, qn, 0, 0) 108) 108).1) i) + 0))), (4, .int (nI i)), (0, .ref m), (1, .ref b), (2, .int hh)]) d_Mm_shrunkOf_55 rfl (by decide) rfl ?_
          refine r_iinc (lv' := [(4, .int (nI (i + 1))), (3, .int (nI ((fa_cnt (scP f (flC f fl) (fdB f (flC f fl) (fa_fill (frG (flC f fl) (frM f (flC f fl) he mtt fz nx hh).1.2.2.1) (frM f (flC f fl) he mtt fz nx hh).1.2.2.1 108) (fdA f (flC f fl) (ic, qn, 0, 0) 108) 108).1) i) + 0))), (0, .ref m), (1, .ref b), (2, .int hh)]) (v := nI (i + 1)) d_Mm_shrunkOf_56 (j := 1) rfl (nI_add _ _) (by decide) rfl ?_
          refine r_goto (tgt := 11) d_Mm_shrunkOf_59 (by decide) ?_
          refine r_lvE (lv2 := [(4, .int (nI (i + 1))), (3, .int (nI (fa_cnt (scP f (flC f fl) (fdB f (flC f fl) (fa_fill (frG (flC f fl) (frM f (flC f fl) he mtt fz nx hh).1.2.2.1) (frM f (flC f fl) he mtt fz nx hh).1.2.2.1 108) (fdA f (flC f fl) (ic, qn, 0, 0) 108) 108).1) (i + 1)))), (0, .ref m), (1, .ref b), (2, .int hh)]) (by first | (rw [fa_cnt_yes (p := (scP f (flC f fl) (fdB f (flC f fl) (fa_fill (frG (flC f fl) (frM f (flC f fl) he mtt fz nx hh).1.2.2.1) (frM f (flC f fl) he mtt fz nx hh).1.2.2.1 108) (fdA f (flC f fl) (ic, qn, 0, 0) 108) 108).1)) hb] <;> rfl) | (rw [fa_cnt_no (p := (scP f (flC f fl) (fdB f (flC f fl) (fa_fill (frG (flC f fl) (frM f (flC f fl) he mtt fz nx hh).1.2.2.1) (frM f (flC f fl) he mtt fz nx hh).1.2.2.1 108) (fdA f (flC f fl) (ic, qn, 0, 0) 108) 108).1)) hb] <;> rfl)) ?_
          refine r_cs (cs2 := [(m, .inr (12, [.int th, .ref mp, .int pt, .ref mf, .ref mh, .ref mn, .ref mt, .ref mz, .ref mc_, .ref mq, .ref mgr, .int cl, .int wa, .int co_, .int fi, .int bu, .int ho, .ref ml, .ref mi, .ref mr, .int lh, .int mg, .int wd, .int fpi, .int fal, .ref mm, .ref mu, .ref mk, .ref mx, .long po, .long de])), (b, .inl (1, 108, .inl f)), (mf, .inl (0, 108, .inl (flC f fl))), (mh, .inl (0, 108, .inl ((frM f (flC f fl) he mtt fz nx hh).1.1))), (mt, .inl (0, 108, .inl ((frM f (flC f fl) he mtt fz nx hh).1.2.1))), (mz, .inl (0, 108, .inl (fa_fill (frG (flC f fl) (frM f (flC f fl) he mtt fz nx hh).1.2.2.1) (frM f (flC f fl) he mtt fz nx hh).1.2.2.1 108))), (mn, .inl (0, 108, .inl ((frM f (flC f fl) he mtt fz nx hh).2))), (mc_, .inl (2, 108, .inl ((fdB f (flC f fl) (fa_fill (frG (flC f fl) (frM f (flC f fl) he mtt fz nx hh).1.2.2.1) (frM f (flC f fl) he mtt fz nx hh).1.2.2.1 108) (fdA f (flC f fl) (ic, qn, 0, 0) 108) 108).1))), (mq, .inl (0, 108, .inl (fun k => nI ((fdB f (flC f fl) (fa_fill (frG (flC f fl) (frM f (flC f fl) he mtt fz nx hh).1.2.2.1) (frM f (flC f fl) he mtt fz nx hh).1.2.2.1 108) (fdA f (flC f fl) (ic, qn, 0, 0) 108) 108).2.1 k))))]) (rfl) ?_
          exact ih (i + 1) (by omega) (by omega)
        · refine r_aload_n d_Mm_shrunkOf_39 rfl 2 rfl ?_
          refine r_get fs_Mm_33 d_Mm_shrunkOf_40 (q0 := 0) rfl rfl ?_
          refine r_iload d_Mm_shrunkOf_43 0 rfl ?_
          refine r_zald d_Mm_shrunkOf_45 (q0 := 7) rfl (vp_in_nI (by omega) (by omega)) (v := ((fdB f (flC f fl) (fa_fill (frG (flC f fl) (frM f (flC f fl) he mtt fz nx hh).1.2.2.1) (frM f (flC f fl) he mtt fz nx hh).1.2.2.1 108) (fdA f (flC f fl) (ic, qn, 0, 0) 108) 108).1) i) (by rw [nI_clamp (by omega)]) ?_
          refine r_if_ne (tgt := 53) d_Mm_shrunkOf_46 (by decide) (fun c_46 => ?_) (fun c_46 => ?_)
          · have hb : (scP f (flC f fl) (fdB f (flC f fl) (fa_fill (frG (flC f fl) (frM f (flC f fl) he mtt fz nx hh).1.2.2.1) (frM f (flC f fl) he mtt fz nx hh).1.2.2.1 108) (fdA f (flC f fl) (ic, qn, 0, 0) 108) 108).1) i = false := decide_eq_false (fun q => c_46 q.2.2)
            refine r_iconst d_Mm_shrunkOf_53 (v := 0) (by decide) ?_
            refine r_iadd d_Mm_shrunkOf_54 (v := nI ((fa_cnt (scP f (flC f fl) (fdB f (flC f fl) (fa_fill (frG (flC f fl) (frM f (flC f fl) he mtt fz nx hh).1.2.2.1) (frM f (flC f fl) he mtt fz nx hh).1.2.2.1 108) (fdA f (flC f fl) (ic, qn, 0, 0) 108) 108).1) i) + 0)) (nI_add _ _) ?_
            refine r_istore_n (lv' := [(3, .int (nI ((fa_cnt (scP f (flC f fl) (fdB f (flC f fl) (fa_fill (frG (flC f fl) (frM f (flC f fl) he mtt fz nx hh).1.2.2.1) (frM f (flC f fl) he mtt fz nx hh).1.2.2.1 108) (fdA f (flC f fl) (ic, qn, 0, 0) 108) 108).1) i) + 0))), (4, .int (nI i)), (0, .ref m), (1, .ref b), (2, .int hh)]) d_Mm_shrunkOf_55 rfl (by decide) rfl ?_
            refine r_iinc (lv' := [(4, .int (nI (i + 1))), (3, .int (nI ((fa_cnt (scP f (flC f fl) (fdB f (flC f fl) (fa_fill (frG (flC f fl) (frM f (flC f fl) he mtt fz nx hh).1.2.2.1) (frM f (flC f fl) he mtt fz nx hh).1.2.2.1 108) (fdA f (flC f fl) (ic, qn, 0, 0) 108) 108).1) i) + 0))), (0, .ref m), (1, .ref b), (2, .int hh)]) (v := nI (i + 1)) d_Mm_shrunkOf_56 (j := 1) rfl (nI_add _ _) (by decide) rfl ?_
            refine r_goto (tgt := 11) d_Mm_shrunkOf_59 (by decide) ?_
            refine r_lvE (lv2 := [(4, .int (nI (i + 1))), (3, .int (nI (fa_cnt (scP f (flC f fl) (fdB f (flC f fl) (fa_fill (frG (flC f fl) (frM f (flC f fl) he mtt fz nx hh).1.2.2.1) (frM f (flC f fl) he mtt fz nx hh).1.2.2.1 108) (fdA f (flC f fl) (ic, qn, 0, 0) 108) 108).1) (i + 1)))), (0, .ref m), (1, .ref b), (2, .int hh)]) (by first | (rw [fa_cnt_yes (p := (scP f (flC f fl) (fdB f (flC f fl) (fa_fill (frG (flC f fl) (frM f (flC f fl) he mtt fz nx hh).1.2.2.1) (frM f (flC f fl) he mtt fz nx hh).1.2.2.1 108) (fdA f (flC f fl) (ic, qn, 0, 0) 108) 108).1)) hb] <;> rfl) | (rw [fa_cnt_no (p := (scP f (flC f fl) (fdB f (flC f fl) (fa_fill (frG (flC f fl) (frM f (flC f fl) he mtt fz nx hh).1.2.2.1) (frM f (flC f fl) he mtt fz nx hh).1.2.2.1 108) (fdA f (flC f fl) (ic, qn, 0, 0) 108) 108).1)) hb] <;> rfl)) ?_
            refine r_cs (cs2 := [(m, .inr (12, [.int th, .ref mp, .int pt, .ref mf, .ref mh, .ref mn, .ref mt, .ref mz, .ref mc_, .ref mq, .ref mgr, .int cl, .int wa, .int co_, .int fi, .int bu, .int ho, .ref ml, .ref mi, .ref mr, .int lh, .int mg, .int wd, .int fpi, .int fal, .ref mm, .ref mu, .ref mk, .ref mx, .long po, .long de])), (b, .inl (1, 108, .inl f)), (mf, .inl (0, 108, .inl (flC f fl))), (mh, .inl (0, 108, .inl ((frM f (flC f fl) he mtt fz nx hh).1.1))), (mt, .inl (0, 108, .inl ((frM f (flC f fl) he mtt fz nx hh).1.2.1))), (mz, .inl (0, 108, .inl (fa_fill (frG (flC f fl) (frM f (flC f fl) he mtt fz nx hh).1.2.2.1) (frM f (flC f fl) he mtt fz nx hh).1.2.2.1 108))), (mn, .inl (0, 108, .inl ((frM f (flC f fl) he mtt fz nx hh).2))), (mc_, .inl (2, 108, .inl ((fdB f (flC f fl) (fa_fill (frG (flC f fl) (frM f (flC f fl) he mtt fz nx hh).1.2.2.1) (frM f (flC f fl) he mtt fz nx hh).1.2.2.1 108) (fdA f (flC f fl) (ic, qn, 0, 0) 108) 108).1))), (mq, .inl (0, 108, .inl (fun k => nI ((fdB f (flC f fl) (fa_fill (frG (flC f fl) (frM f (flC f fl) he mtt fz nx hh).1.2.2.1) (frM f (flC f fl) he mtt fz nx hh).1.2.2.1 108) (fdA f (flC f fl) (ic, qn, 0, 0) 108) 108).2.1 k))))]) (rfl) ?_
            exact ih (i + 1) (by omega) (by omega)
          · have hb : (scP f (flC f fl) (fdB f (flC f fl) (fa_fill (frG (flC f fl) (frM f (flC f fl) he mtt fz nx hh).1.2.2.1) (frM f (flC f fl) he mtt fz nx hh).1.2.2.1 108) (fdA f (flC f fl) (ic, qn, 0, 0) 108) 108).1) i = true := decide_eq_true ⟨c_25, (vl_ng (vl_C f fl) hn).mpr c_36, c_46⟩
            refine r_iconst d_Mm_shrunkOf_49 (v := 1) (by decide) ?_
            refine r_goto (tgt := 54) d_Mm_shrunkOf_50 (by decide) ?_
            refine r_iadd d_Mm_shrunkOf_54 (v := nI ((fa_cnt (scP f (flC f fl) (fdB f (flC f fl) (fa_fill (frG (flC f fl) (frM f (flC f fl) he mtt fz nx hh).1.2.2.1) (frM f (flC f fl) he mtt fz nx hh).1.2.2.1 108) (fdA f (flC f fl) (ic, qn, 0, 0) 108) 108).1) i) + 1)) (nI_add _ _) ?_
            refine r_istore_n (lv' := [(3, .int (nI ((fa_cnt (scP f (flC f fl) (fdB f (flC f fl) (fa_fill (frG (flC f fl) (frM f (flC f fl) he mtt fz nx hh).1.2.2.1) (frM f (flC f fl) he mtt fz nx hh).1.2.2.1 108) (fdA f (flC f fl) (ic, qn, 0, 0) 108) 108).1) i) + 1))), (4, .int (nI i)), (0, .ref m), (1, .ref b), (2, .int hh)]) d_Mm_shrunkOf_55 rfl (by decide) rfl ?_
            refine r_iinc (lv' := [(4, .int (nI (i + 1))), (3, .int (nI ((fa_cnt (scP f (flC f fl) (fdB f (flC f fl) (fa_fill (frG (flC f fl) (frM f (flC f fl) he mtt fz nx hh).1.2.2.1) (frM f (flC f fl) he mtt fz nx hh).1.2.2.1 108) (fdA f (flC f fl) (ic, qn, 0, 0) 108) 108).1) i) + 1))), (0, .ref m), (1, .ref b), (2, .int hh)]) (v := nI (i + 1)) d_Mm_shrunkOf_56 (j := 1) rfl (nI_add _ _) (by decide) rfl ?_
            refine r_goto (tgt := 11) d_Mm_shrunkOf_59 (by decide) ?_
            refine r_lvE (lv2 := [(4, .int (nI (i + 1))), (3, .int (nI (fa_cnt (scP f (flC f fl) (fdB f (flC f fl) (fa_fill (frG (flC f fl) (frM f (flC f fl) he mtt fz nx hh).1.2.2.1) (frM f (flC f fl) he mtt fz nx hh).1.2.2.1 108) (fdA f (flC f fl) (ic, qn, 0, 0) 108) 108).1) (i + 1)))), (0, .ref m), (1, .ref b), (2, .int hh)]) (by first | (rw [fa_cnt_yes (p := (scP f (flC f fl) (fdB f (flC f fl) (fa_fill (frG (flC f fl) (frM f (flC f fl) he mtt fz nx hh).1.2.2.1) (frM f (flC f fl) he mtt fz nx hh).1.2.2.1 108) (fdA f (flC f fl) (ic, qn, 0, 0) 108) 108).1)) hb] <;> rfl) | (rw [fa_cnt_no (p := (scP f (flC f fl) (fdB f (flC f fl) (fa_fill (frG (flC f fl) (frM f (flC f fl) he mtt fz nx hh).1.2.2.1) (frM f (flC f fl) he mtt fz nx hh).1.2.2.1 108) (fdA f (flC f fl) (ic, qn, 0, 0) 108) 108).1)) hb] <;> rfl)) ?_
            refine r_cs (cs2 := [(m, .inr (12, [.int th, .ref mp, .int pt, .ref mf, .ref mh, .ref mn, .ref mt, .ref mz, .ref mc_, .ref mq, .ref mgr, .int cl, .int wa, .int co_, .int fi, .int bu, .int ho, .ref ml, .ref mi, .ref mr, .int lh, .int mg, .int wd, .int fpi, .int fal, .ref mm, .ref mu, .ref mk, .ref mx, .long po, .long de])), (b, .inl (1, 108, .inl f)), (mf, .inl (0, 108, .inl (flC f fl))), (mh, .inl (0, 108, .inl ((frM f (flC f fl) he mtt fz nx hh).1.1))), (mt, .inl (0, 108, .inl ((frM f (flC f fl) he mtt fz nx hh).1.2.1))), (mz, .inl (0, 108, .inl (fa_fill (frG (flC f fl) (frM f (flC f fl) he mtt fz nx hh).1.2.2.1) (frM f (flC f fl) he mtt fz nx hh).1.2.2.1 108))), (mn, .inl (0, 108, .inl ((frM f (flC f fl) he mtt fz nx hh).2))), (mc_, .inl (2, 108, .inl ((fdB f (flC f fl) (fa_fill (frG (flC f fl) (frM f (flC f fl) he mtt fz nx hh).1.2.2.1) (frM f (flC f fl) he mtt fz nx hh).1.2.2.1 108) (fdA f (flC f fl) (ic, qn, 0, 0) 108) 108).1))), (mq, .inl (0, 108, .inl (fun k => nI ((fdB f (flC f fl) (fa_fill (frG (flC f fl) (frM f (flC f fl) he mtt fz nx hh).1.2.2.1) (frM f (flC f fl) he mtt fz nx hh).1.2.2.1 108) (fdA f (flC f fl) (ic, qn, 0, 0) 108) 108).2.1 k))))]) (rfl) ?_
            exact ih (i + 1) (by omega) (by omega)
set_option maxHeartbeats 4000000 in
set_option maxRecDepth 100000 in
theorem C_Mm_shrunkOf9 (g : zG) (m mp mf mh mn mt mz mc_ mq mgr ml mi mr mm mu mk mx : Nat) (th pt cl wa co_ fi bu ho lh mg wd fpi fal : Int32) (po de : Int64) (b : Nat) (f : Nat → Int32) (fl : Nat → Int32) (he nx mtt fz ic : Nat → Int32) (qn : Nat → Nat) (hh : Int32) : CT g M_Mm_shrunkOf [.ref m, .ref b, .int hh] [(m, .inr (12, [.int th, .ref mp, .int pt, .ref mf, .ref mh, .ref mn, .ref mt, .ref mz, .ref mc_, .ref mq, .ref mgr, .int cl, .int wa, .int co_, .int fi, .int bu, .int ho, .ref ml, .ref mi, .ref mr, .int lh, .int mg, .int wd, .int fpi, .int fal, .ref mm, .ref mu, .ref mk, .ref mx, .long po, .long de])), (b, .inl (1, 108, .inl f)), (mf, .inl (0, 108, .inl fl)), (mh, .inl (0, 108, .inl he)), (mt, .inl (0, 108, .inl mtt)), (mz, .inl (0, 108, .inl fz)), (mn, .inl (0, 108, .inl nx)), (mc_, .inl (2, 108, .inl ic)), (mq, .inl (0, 108, .inl (fun k => nI (qn k))))] (fun o cs1 => o = .inl (some (.int (nI (fa_cnt (scP f (flC f fl) (fdB f (flC f fl) (fa_fill (frG (flC f fl) (frM f (flC f fl) he mtt fz nx hh).1.2.2.1) (frM f (flC f fl) he mtt fz nx hh).1.2.2.1 108) (fdA f (flC f fl) (ic, qn, 0, 0) 108) 108).1) 108)))) ∧ cs1 = [(m, .inr (12, [.int th, .ref mp, .int pt, .ref mf, .ref mh, .ref mn, .ref mt, .ref mz, .ref mc_, .ref mq, .ref mgr, .int cl, .int wa, .int co_, .int fi, .int bu, .int ho, .ref ml, .ref mi, .ref mr, .int lh, .int mg, .int wd, .int fpi, .int fal, .ref mm, .ref mu, .ref mk, .ref mx, .long po, .long de])), (b, .inl (1, 108, .inl f)), (mf, .inl (0, 108, .inl (flC f fl))), (mh, .inl (0, 108, .inl ((frM f (flC f fl) he mtt fz nx hh).1.1))), (mt, .inl (0, 108, .inl ((frM f (flC f fl) he mtt fz nx hh).1.2.1))), (mz, .inl (0, 108, .inl (fa_fill (frG (flC f fl) (frM f (flC f fl) he mtt fz nx hh).1.2.2.1) (frM f (flC f fl) he mtt fz nx hh).1.2.2.1 108))), (mn, .inl (0, 108, .inl ((frM f (flC f fl) he mtt fz nx hh).2))), (mc_, .inl (2, 108, .inl ((fdB f (flC f fl) (fa_fill (frG (flC f fl) (frM f (flC f fl) he mtt fz nx hh).1.2.2.1) (frM f (flC f fl) he mtt fz nx hh).1.2.2.1 108) (fdA f (flC f fl) (ic, qn, 0, 0) 108) 108).1))), (mq, .inl (0, 108, .inl (fun k => nI ((fdB f (flC f fl) (fa_fill (frG (flC f fl) (frM f (flC f fl) he mtt fz nx hh).1.2.2.1) (frM f (flC f fl) he mtt fz nx hh).1.2.2.1 108) (fdA f (flC f fl) (ic, qn, 0, 0) 108) 108).2.1 k))))]) 0 0 := by
  refine z_of (by decide) rfl (Nat.le_of_ble_eq_true rfl) (fun w0 => ?_)
  refine r_lvE (lv2 := [(0, .ref m), (1, .ref b), (2, .int hh)]) rfl ?_
  refine r_aload_n d_Mm_shrunkOf_0 rfl 0 rfl ?_
  refine r_aload_n d_Mm_shrunkOf_1 rfl 1 rfl ?_
  refine r_iload_n d_Mm_shrunkOf_2 rfl 2 rfl ?_
  refine r_callV (As := [.ref b, .int hh]) (rest := []) (csC := [(m, .inr (12, [.int th, .ref mp, .int pt, .ref mf, .ref mh, .ref mn, .ref mt, .ref mz, .ref mc_, .ref mq, .ref mgr, .int cl, .int wa, .int co_, .int fi, .int bu, .int ho, .ref ml, .ref mi, .ref mr, .int lh, .int mg, .int wd, .int fpi, .int fal, .ref mm, .ref mu, .ref mk, .ref mx, .long po, .long de])), (b, .inl (1, 108, .inl f)), (mf, .inl (0, 108, .inl fl)), (mh, .inl (0, 108, .inl he)), (mt, .inl (0, 108, .inl mtt)), (mz, .inl (0, 108, .inl fz)), (mn, .inl (0, 108, .inl nx)), (mc_, .inl (2, 108, .inl ic)), (mq, .inl (0, 108, .inl (fun k => nI (qn k))))]) (is := [0, 1, 2, 3, 4, 5, 6, 7, 8]) (q0 := 0) rfl rfl ln_Mm_170 w_im_Mm_feed w_se_Mm_feed ok_Mm_shrunkOf_Mm_feed d_Mm_shrunkOf_3 (C_Mm_feed9 g m mp mf mh mn mt mz mc_ mq mgr ml mi mr mm mu mk mx th pt cl wa co_ fi bu ho lh mg wd fpi fal po de b f fl he nx mtt fz ic qn hh) rfl rfl (Nat.le_of_ble_eq_true rfl) rfl (by decide) (by omega) (by omega) (fun E cs1 hx => ?_) (fun v cs1 hx => ?_)
  · exact absurd hx.1 (by simp)
  · obtain ⟨e1, rfl⟩ := hx
    cases e1
    refine ⟨rfl, ?_⟩
    refine r_st (st2 := []) rfl ?_
    refine r_cs (cs2 := [(m, .inr (12, [.int th, .ref mp, .int pt, .ref mf, .ref mh, .ref mn, .ref mt, .ref mz, .ref mc_, .ref mq, .ref mgr, .int cl, .int wa, .int co_, .int fi, .int bu, .int ho, .ref ml, .ref mi, .ref mr, .int lh, .int mg, .int wd, .int fpi, .int fal, .ref mm, .ref mu, .ref mk, .ref mx, .long po, .long de])), (b, .inl (1, 108, .inl f)), (mf, .inl (0, 108, .inl (flC f fl))), (mh, .inl (0, 108, .inl ((frM f (flC f fl) he mtt fz nx hh).1.1))), (mt, .inl (0, 108, .inl ((frM f (flC f fl) he mtt fz nx hh).1.2.1))), (mz, .inl (0, 108, .inl (fa_fill (frG (flC f fl) (frM f (flC f fl) he mtt fz nx hh).1.2.2.1) (frM f (flC f fl) he mtt fz nx hh).1.2.2.1 108))), (mn, .inl (0, 108, .inl ((frM f (flC f fl) he mtt fz nx hh).2))), (mc_, .inl (2, 108, .inl ((fdB f (flC f fl) (fa_fill (frG (flC f fl) (frM f (flC f fl) he mtt fz nx hh).1.2.2.1) (frM f (flC f fl) he mtt fz nx hh).1.2.2.1 108) (fdA f (flC f fl) (ic, qn, 0, 0) 108) 108).1))), (mq, .inl (0, 108, .inl (fun k => nI ((fdB f (flC f fl) (fa_fill (frG (flC f fl) (frM f (flC f fl) he mtt fz nx hh).1.2.2.1) (frM f (flC f fl) he mtt fz nx hh).1.2.2.1 108) (fdA f (flC f fl) (ic, qn, 0, 0) 108) 108).2.1 k))))]) rfl ?_
    refine r_iconst d_Mm_shrunkOf_6 (v := 0) (by decide) ?_
    refine r_istore_n (lv' := [(3, .int 0), (0, .ref m), (1, .ref b), (2, .int hh)]) d_Mm_shrunkOf_7 rfl (by decide) rfl ?_
    refine r_iconst d_Mm_shrunkOf_8 (v := 0) (by decide) ?_
    refine r_istore (lv' := [(4, .int 0), (3, .int 0), (0, .ref m), (1, .ref b), (2, .int hh)]) d_Mm_shrunkOf_9 (by decide) rfl ?_
    refine r_lvE (lv2 := [(4, .int (nI 0)), (3, .int (nI (fa_cnt (scP f (flC f fl) (fdB f (flC f fl) (fa_fill (frG (flC f fl) (frM f (flC f fl) he mtt fz nx hh).1.2.2.1) (frM f (flC f fl) he mtt fz nx hh).1.2.2.1 108) (fdA f (flC f fl) (ic, qn, 0, 0) 108) 108).1) 0))), (0, .ref m), (1, .ref b), (2, .int hh)]) (rfl) ?_
    refine r_cs (cs2 := [(m, .inr (12, [.int th, .ref mp, .int pt, .ref mf, .ref mh, .ref mn, .ref mt, .ref mz, .ref mc_, .ref mq, .ref mgr, .int cl, .int wa, .int co_, .int fi, .int bu, .int ho, .ref ml, .ref mi, .ref mr, .int lh, .int mg, .int wd, .int fpi, .int fal, .ref mm, .ref mu, .ref mk, .ref mx, .long po, .long de])), (b, .inl (1, 108, .inl f)), (mf, .inl (0, 108, .inl (flC f fl))), (mh, .inl (0, 108, .inl ((frM f (flC f fl) he mtt fz nx hh).1.1))), (mt, .inl (0, 108, .inl ((frM f (flC f fl) he mtt fz nx hh).1.2.1))), (mz, .inl (0, 108, .inl (fa_fill (frG (flC f fl) (frM f (flC f fl) he mtt fz nx hh).1.2.2.1) (frM f (flC f fl) he mtt fz nx hh).1.2.2.1 108))), (mn, .inl (0, 108, .inl ((frM f (flC f fl) he mtt fz nx hh).2))), (mc_, .inl (2, 108, .inl ((fdB f (flC f fl) (fa_fill (frG (flC f fl) (frM f (flC f fl) he mtt fz nx hh).1.2.2.1) (frM f (flC f fl) he mtt fz nx hh).1.2.2.1 108) (fdA f (flC f fl) (ic, qn, 0, 0) 108) 108).1))), (mq, .inl (0, 108, .inl (fun k => nI ((fdB f (flC f fl) (fa_fill (frG (flC f fl) (frM f (flC f fl) he mtt fz nx hh).1.2.2.1) (frM f (flC f fl) he mtt fz nx hh).1.2.2.1 108) (fdA f (flC f fl) (ic, qn, 0, 0) 108) 108).2.1 k))))]) (rfl) ?_
    exact L_Mm_shrunkOf9_11 g m mp mf mh mn mt mz mc_ mq mgr ml mi mr mm mu mk mx th pt cl wa co_ fi bu ho lh mg wd fpi fal po de b f fl he nx mtt fz ic qn hh w0 _  (108 + 1) 0 (Nat.zero_le _) (by omega)
abbrev M_Mm_isCold : zM := (⟨"IronpourModel", "isCold", "([CZ)Z"⟩, prog_14_method_76_code, 6, (Option.some FieldType.boolean), 2, 40, [])
theorem d_Mm_isCold_5 : decode prog_14_method_76_code 5 = .ok (.iload 4, 2) := zo_21 (d := 4) (zd_b zq_prog_14_method_76_code_0 5 rfl rfl rfl) (zd_b zq_prog_14_method_76_code_0 6 rfl rfl rfl)
theorem d_Mm_isCold_7 : decode prog_14_method_76_code 7 = .ok (.bipush 108, 2) := zo_16 (d := 108) (zd_b zq_prog_14_method_76_code_0 7 rfl rfl rfl) (zd_b zq_prog_14_method_76_code_0 8 rfl rfl rfl) (by decide +kernel)
theorem d_Mm_isCold_9 : decode prog_14_method_76_code 9 = .ok (.if_icmp .ge 72, 3) := zo_162 (d := 0) (e := 72) (zd_b zq_prog_14_method_76_code_0 9 rfl rfl rfl) (zd_b zq_prog_14_method_76_code_0 10 rfl rfl rfl) (zd_b zq_prog_14_method_76_code_0 11 rfl rfl rfl) (by decide +kernel)
theorem d_Mm_isCold_81 : decode prog_14_method_76_code 81 = .ok (.iload_n 3, 1) := zo_29 (zd_b zq_prog_14_method_76_code_2 17 rfl rfl rfl)
theorem d_Mm_isCold_82 : decode prog_14_method_76_code 82 = .ok (.ireturn, 1) := zo_172 (zd_b zq_prog_14_method_76_code_2 18 rfl rfl rfl)
theorem d_Mm_isCold_12 : decode prog_14_method_76_code 12 = .ok (.aload_n 0, 1) := zo_42 (zd_b zq_prog_14_method_76_code_0 12 rfl rfl rfl)
theorem d_Mm_isCold_13 : decode prog_14_method_76_code 13 = .ok (.getfield 17, 3) := zo_180 (d := 0) (e := 17) (zd_b zq_prog_14_method_76_code_0 13 rfl rfl rfl) (zd_b zq_prog_14_method_76_code_0 14 rfl rfl rfl) (zd_b zq_prog_14_method_76_code_0 15 rfl rfl rfl)
theorem d_Mm_isCold_16 : decode prog_14_method_76_code 16 = .ok (.iload 4, 2) := zo_21 (d := 4) (zd_b zq_prog_14_method_76_code_0 16 rfl rfl rfl) (zd_b zq_prog_14_method_76_code_0 17 rfl rfl rfl)
theorem d_Mm_isCold_18 : decode prog_14_method_76_code 18 = .ok (.iaload, 1) := zo_46 (zd_b zq_prog_14_method_76_code_0 18 rfl rfl rfl)
theorem d_Mm_isCold_19 : decode prog_14_method_76_code 19 = .ok (.iconst (-1), 1) := zo_2 (zd_b zq_prog_14_method_76_code_0 19 rfl rfl rfl)
theorem d_Mm_isCold_20 : decode prog_14_method_76_code 20 = .ok (.if_icmp .eq 23, 3) := zo_159 (d := 0) (e := 23) (zd_b zq_prog_14_method_76_code_0 20 rfl rfl rfl) (zd_b zq_prog_14_method_76_code_0 21 rfl rfl rfl) (zd_b zq_prog_14_method_76_code_0 22 rfl rfl rfl) (by decide +kernel)
theorem d_Mm_isCold_43 : decode prog_14_method_76_code 43 = .ok (.iconst 1, 1) := zo_4 (zd_b zq_prog_14_method_76_code_1 11 rfl rfl rfl)
theorem d_Mm_isCold_44 : decode prog_14_method_76_code 44 = .ok (.goto 4, 3) := zo_167 (d := 0) (e := 4) (zd_b zq_prog_14_method_76_code_1 12 rfl rfl rfl) (zd_b zq_prog_14_method_76_code_1 13 rfl rfl rfl) (zd_b zq_prog_14_method_76_code_1 14 rfl rfl rfl) (by decide +kernel)
theorem d_Mm_isCold_48 : decode prog_14_method_76_code 48 = .ok (.istore 5, 2) := zo_54 (d := 5) (zd_b zq_prog_14_method_76_code_1 16 rfl rfl rfl) (zd_b zq_prog_14_method_76_code_1 17 rfl rfl rfl)
theorem d_Mm_isCold_50 : decode prog_14_method_76_code 50 = .ok (.iload_n 3, 1) := zo_29 (zd_b zq_prog_14_method_76_code_1 18 rfl rfl rfl)
theorem d_Mm_isCold_51 : decode prog_14_method_76_code 51 = .ok (.ifCond .ne 18, 3) := zo_154 (d := 0) (e := 18) (zd_b zq_prog_14_method_76_code_1 19 rfl rfl rfl) (zd_b zq_prog_14_method_76_code_1 20 rfl rfl rfl) (zd_b zq_prog_14_method_76_code_1 21 rfl rfl rfl) (by decide +kernel)
theorem d_Mm_isCold_69 : decode prog_14_method_76_code 69 = .ok (.iconst 1, 1) := zo_4 (zd_b zq_prog_14_method_76_code_2 5 rfl rfl rfl)
theorem d_Mm_isCold_70 : decode prog_14_method_76_code 70 = .ok (.goto 4, 3) := zo_167 (d := 0) (e := 4) (zd_b zq_prog_14_method_76_code_2 6 rfl rfl rfl) (zd_b zq_prog_14_method_76_code_2 7 rfl rfl rfl) (zd_b zq_prog_14_method_76_code_2 8 rfl rfl rfl) (by decide +kernel)
theorem d_Mm_isCold_74 : decode prog_14_method_76_code 74 = .ok (.istore_n 3, 1) := zo_62 (zd_b zq_prog_14_method_76_code_2 10 rfl rfl rfl)
theorem d_Mm_isCold_75 : decode prog_14_method_76_code 75 = .ok (.iinc 4 1, 3) := by decide +kernel
theorem d_Mm_isCold_78 : decode prog_14_method_76_code 78 = .ok (.goto (-73), 3) := zo_167 (d := 255) (e := 183) (zd_b zq_prog_14_method_76_code_2 14 rfl rfl rfl) (zd_b zq_prog_14_method_76_code_2 15 rfl rfl rfl) (zd_b zq_prog_14_method_76_code_2 16 rfl rfl rfl) (by decide +kernel)
theorem d_Mm_isCold_54 : decode prog_14_method_76_code 54 = .ok (.aload_n 1, 1) := zo_43 (zd_b zq_prog_14_method_76_code_1 22 rfl rfl rfl)
theorem d_Mm_isCold_55 : decode prog_14_method_76_code 55 = .ok (.iload 4, 2) := zo_21 (d := 4) (zd_b zq_prog_14_method_76_code_1 23 rfl rfl rfl) (zd_b zq_prog_14_method_76_code_1 24 rfl rfl rfl)
theorem d_Mm_isCold_57 : decode prog_14_method_76_code 57 = .ok (.caload, 1) := zo_52 (zd_b zq_prog_14_method_76_code_1 25 rfl rfl rfl)
theorem d_Mm_isCold_58 : decode prog_14_method_76_code 58 = .ok (.invokestatic 107, 3) := zo_184 (d := 0) (e := 107) (zd_b zq_prog_14_method_76_code_1 26 rfl rfl rfl) (zd_b zq_prog_14_method_76_code_1 27 rfl rfl rfl) (zd_b zq_prog_14_method_76_code_1 28 rfl rfl rfl)
theorem ok_Mm_isCold_Mm_isMetal : z_ok M_Mm_isCold M_Mm_isMetal 1 := ⟨z_mj7 (i := 214) rfl (by decide +kernel), rfl, ⟨by decide +kernel, by decide +kernel, by decide +kernel⟩, ⟨by decide, by decide⟩, z_mj1 (i := 14) rfl (by decide +kernel), rfl⟩
theorem d_Mm_isCold_61 : decode prog_14_method_76_code 61 = .ok (.ifCond .eq 12, 3) := zo_153 (d := 0) (e := 12) (zd_b zq_prog_14_method_76_code_1 29 rfl rfl rfl) (zd_b zq_prog_14_method_76_code_1 30 rfl rfl rfl) (zd_b zq_prog_14_method_76_code_1 31 rfl rfl rfl) (by decide +kernel)
theorem d_Mm_isCold_73 : decode prog_14_method_76_code 73 = .ok (.iconst 0, 1) := zo_3 (zd_b zq_prog_14_method_76_code_2 9 rfl rfl rfl)
theorem d_Mm_isCold_64 : decode prog_14_method_76_code 64 = .ok (.iload 5, 2) := zo_21 (d := 5) (zd_b zq_prog_14_method_76_code_2 0 rfl rfl rfl) (zd_b zq_prog_14_method_76_code_2 1 rfl rfl rfl)
theorem d_Mm_isCold_66 : decode prog_14_method_76_code 66 = .ok (.ifCond .eq 7, 3) := zo_153 (d := 0) (e := 7) (zd_b zq_prog_14_method_76_code_2 2 rfl rfl rfl) (zd_b zq_prog_14_method_76_code_2 3 rfl rfl rfl) (zd_b zq_prog_14_method_76_code_2 4 rfl rfl rfl) (by decide +kernel)
theorem d_Mm_isCold_23 : decode prog_14_method_76_code 23 = .ok (.aload_n 0, 1) := zo_42 (zd_b zq_prog_14_method_76_code_0 23 rfl rfl rfl)
theorem d_Mm_isCold_24 : decode prog_14_method_76_code 24 = .ok (.getfield 257, 3) := zo_180 (d := 1) (e := 1) (zd_b zq_prog_14_method_76_code_0 24 rfl rfl rfl) (zd_b zq_prog_14_method_76_code_0 25 rfl rfl rfl) (zd_b zq_prog_14_method_76_code_0 26 rfl rfl rfl)
theorem d_Mm_isCold_27 : decode prog_14_method_76_code 27 = .ok (.iconst 2, 1) := zo_5 (zd_b zq_prog_14_method_76_code_0 27 rfl rfl rfl)
theorem d_Mm_isCold_28 : decode prog_14_method_76_code 28 = .ok (.aload_n 0, 1) := zo_42 (zd_b zq_prog_14_method_76_code_0 28 rfl rfl rfl)
theorem d_Mm_isCold_29 : decode prog_14_method_76_code 29 = .ok (.getfield 17, 3) := zo_180 (d := 0) (e := 17) (zd_b zq_prog_14_method_76_code_0 29 rfl rfl rfl) (zd_b zq_prog_14_method_76_code_0 30 rfl rfl rfl) (zd_b zq_prog_14_method_76_code_0 31 rfl rfl rfl)
theorem d_Mm_isCold_32 : decode prog_14_method_76_code 32 = .ok (.iload 4, 2) := zo_21 (d := 4) (zd_b zq_prog_14_method_76_code_1 0 rfl rfl rfl) (zd_b zq_prog_14_method_76_code_1 1 rfl rfl rfl)
theorem d_Mm_isCold_34 : decode prog_14_method_76_code 34 = .ok (.iaload, 1) := zo_46 (zd_b zq_prog_14_method_76_code_1 2 rfl rfl rfl)
theorem d_Mm_isCold_35 : decode prog_14_method_76_code 35 = .ok (.imul, 1) := zo_104 (zd_b zq_prog_14_method_76_code_1 3 rfl rfl rfl)
theorem d_Mm_isCold_36 : decode prog_14_method_76_code 36 = .ok (.isub, 1) := zo_100 (zd_b zq_prog_14_method_76_code_1 4 rfl rfl rfl)
theorem d_Mm_isCold_37 : decode prog_14_method_76_code 37 = .ok (.sipush 1200, 3) := zo_17 (d := 4) (e := 176) (zd_b zq_prog_14_method_76_code_1 5 rfl rfl rfl) (zd_b zq_prog_14_method_76_code_1 6 rfl rfl rfl) (zd_b zq_prog_14_method_76_code_1 7 rfl rfl rfl) (by decide +kernel)
theorem d_Mm_isCold_40 : decode prog_14_method_76_code 40 = .ok (.if_icmp .ge 7, 3) := zo_162 (d := 0) (e := 7) (zd_b zq_prog_14_method_76_code_1 8 rfl rfl rfl) (zd_b zq_prog_14_method_76_code_1 9 rfl rfl rfl) (zd_b zq_prog_14_method_76_code_1 10 rfl rfl rfl) (by decide +kernel)
theorem d_Mm_isCold_47 : decode prog_14_method_76_code 47 = .ok (.iconst 0, 1) := zo_3 (zd_b zq_prog_14_method_76_code_1 15 rfl rfl rfl)
theorem d_Mm_isCold_0 : decode prog_14_method_76_code 0 = .ok (.iload_n 2, 1) := zo_28 (zd_b zq_prog_14_method_76_code_0 0 rfl rfl rfl)
theorem d_Mm_isCold_1 : decode prog_14_method_76_code 1 = .ok (.istore_n 3, 1) := zo_62 (zd_b zq_prog_14_method_76_code_0 1 rfl rfl rfl)
theorem d_Mm_isCold_2 : decode prog_14_method_76_code 2 = .ok (.iconst 0, 1) := zo_3 (zd_b zq_prog_14_method_76_code_0 2 rfl rfl rfl)
theorem d_Mm_isCold_3 : decode prog_14_method_76_code 3 = .ok (.istore 4, 2) := zo_54 (d := 4) (zd_b zq_prog_14_method_76_code_0 3 rfl rfl rfl) (zd_b zq_prog_14_method_76_code_0 4 rfl rfl rfl)
set_option maxHeartbeats 4000000 in
set_option maxRecDepth 100000 in
theorem L_Mm_isCold9_5 (g : zG) (m mp mf mh mn mt mz mc_ mq mgr ml mi mr mm mu mk mx : Nat) (th pt cl wa co_ fi bu ho lh mg wd fpi fal : Int32) (po de : Int64) (b : Nat) (f : Nat → Int32) (fl : Nat → Int32) (s9 : Bool) (hv : vlA f fl) (w0 : zW) (n : Nat) : ∀ (d i : Nat), i ≤ 108 → 108 < i + d → DV g M_Mm_isCold (fun o cs1 => o = .inl (some (.int (z_bi (icQ f fl lh s9 108)))) ∧ cs1 = [(m, .inr (12, [.int th, .ref mp, .int pt, .ref mf, .ref mh, .ref mn, .ref mt, .ref mz, .ref mc_, .ref mq, .ref mgr, .int cl, .int wa, .int co_, .int fi, .int bu, .int ho, .ref ml, .ref mi, .ref mr, .int lh, .int mg, .int wd, .int fpi, .int fal, .ref mm, .ref mu, .ref mk, .ref mx, .long po, .long de])), (b, .inl (1, 108, .inl f)), (mf, .inl (0, 108, .inl fl))]) w0 n 5 [(4, .int (nI i)), (3, .int (z_bi (icQ f fl lh s9 i))), (0, .ref m), (1, .ref b), (2, .int (z_bi s9))] [] [(m, .inr (12, [.int th, .ref mp, .int pt, .ref mf, .ref mh, .ref mn, .ref mt, .ref mz, .ref mc_, .ref mq, .ref mgr, .int cl, .int wa, .int co_, .int fi, .int bu, .int ho, .ref ml, .ref mi, .ref mr, .int lh, .int mg, .int wd, .int fpi, .int fal, .ref mm, .ref mu, .ref mk, .ref mx, .long po, .long de])), (b, .inl (1, 108, .inl f)), (mf, .inl (0, 108, .inl fl))] 0 0 := by
  intro d
  induction d with
  | zero => intro i h1 h2 ; exact absurd h2 (by omega)
  | succ d ih =>
    intro i h1 h2 
    refine r_iload d_Mm_isCold_5 0 rfl ?_
    refine r_bipush d_Mm_isCold_7 (v := 108) (by decide) ?_
    refine r_icmp_ge (tgt := 81) d_Mm_isCold_9 (by decide) (fun c_9 => ?_) (fun c_9 => ?_)
    · have hn := z_le (a := 108) (by omega) (by decide) c_9
      obtain rfl : i = 108 := by omega
      refine r_iload_n d_Mm_isCold_81 rfl 1 rfl ?_
      refine r_iret d_Mm_isCold_82 rfl (z_narB9 _) ?_
      exact ⟨rfl, rfl⟩
    · have hn := z_nle (a := 108) (by omega) (by decide) c_9
      refine r_aload_n d_Mm_isCold_12 rfl 2 rfl ?_
      refine r_get fs_Mm_17 d_Mm_isCold_13 (q0 := 0) rfl rfl ?_
      refine r_iload d_Mm_isCold_16 0 rfl ?_
      refine r_iald d_Mm_isCold_18 (q0 := 2) rfl (vp_in_nI (by omega) (by omega)) (v := fl i) (by rw [nI_clamp (by omega)]) ?_
      refine r_iconst d_Mm_isCold_19 (v := (-1)) (by decide) ?_
      refine r_icmp_eq (tgt := 43) d_Mm_isCold_20 (by decide) (fun c_20 => ?_) (fun c_20 => ?_)
      · have hm : (decide (fl i < 0) || decide (z_hwf lh (fl i) < 1200)) = true := by rw [decide_eq_true ((vl_neg hv hn).mpr c_20)]; rfl
        refine r_iconst d_Mm_isCold_43 (v := 1) (by decide) ?_
        refine r_goto (tgt := 48) d_Mm_isCold_44 (by decide) ?_
        refine r_istore (lv' := [(5, .int 1), (4, .int (nI i)), (3, .int (z_bi (icQ f fl lh s9 i))), (0, .ref m), (1, .ref b), (2, .int (z_bi s9))]) d_Mm_isCold_48 (by decide) rfl ?_
        refine r_iload_n d_Mm_isCold_50 rfl 2 rfl ?_
        refine r_if_ne (tgt := 69) d_Mm_isCold_51 (by decide) (fun c_51 => ?_) (fun c_51 => ?_)
        · have hk : (icQ f fl lh s9 (i + 1)) = true := icQ_t (z_bi1 c_51)
          refine r_iconst d_Mm_isCold_69 (v := 1) (by decide) ?_
          refine r_goto (tgt := 74) d_Mm_isCold_70 (by decide) ?_
          refine r_istore_n (lv' := [(3, .int 1), (5, .int 1), (4, .int (nI i)), (0, .ref m), (1, .ref b), (2, .int (z_bi s9))]) d_Mm_isCold_74 rfl (by decide) rfl ?_
          refine r_iinc (lv' := [(4, .int (nI (i + 1))), (3, .int 1), (5, .int 1), (0, .ref m), (1, .ref b), (2, .int (z_bi s9))]) (v := nI (i + 1)) d_Mm_isCold_75 (j := 2) rfl (nI_add _ _) (by decide) rfl ?_
          refine r_goto (tgt := 5) d_Mm_isCold_78 (by decide) ?_
          refine r_lv (lv' := [(4, .int (nI (i + 1))), (3, .int 1), (0, .ref m), (1, .ref b), (2, .int (z_bi s9))]) [0, 1, 3, 4, 5] rfl ?_
          refine r_lvE (lv2 := [(4, .int (nI (i + 1))), (3, .int (z_bi (icQ f fl lh s9 (i + 1)))), (0, .ref m), (1, .ref b), (2, .int (z_bi s9))]) (by rw [hk] <;> rfl) ?_
          refine r_cs (cs2 := [(m, .inr (12, [.int th, .ref mp, .int pt, .ref mf, .ref mh, .ref mn, .ref mt, .ref mz, .ref mc_, .ref mq, .ref mgr, .int cl, .int wa, .int co_, .int fi, .int bu, .int ho, .ref ml, .ref mi, .ref mr, .int lh, .int mg, .int wd, .int fpi, .int fal, .ref mm, .ref mu, .ref mk, .ref mx, .long po, .long de])), (b, .inl (1, 108, .inl f)), (mf, .inl (0, 108, .inl fl))]) (rfl) ?_
          exact ih (i + 1) (by omega) (by omega)
        · refine r_aload_n d_Mm_isCold_54 rfl 4 rfl ?_
          refine r_iload d_Mm_isCold_55 1 rfl ?_
          refine r_cald d_Mm_isCold_57 (q0 := 1) rfl (vp_in_nI (by omega) (by omega)) (v := f i) (by rw [nI_clamp (by omega)]) ?_
          refine r_callS (As := [.int (f i)]) (rest := []) (csC := []) (is := []) ln_Mm_107 w_st_Mm_isMetal ok_Mm_isCold_Mm_isMetal d_Mm_isCold_58 (C_Mm_isMetal g (f i)) rfl rfl (Nat.le_of_ble_eq_true rfl) rfl (by decide) (by omega) (by omega) (fun E cs1 hx => ?_) (fun v cs1 hx => ?_)
          · exact absurd hx.1 (by simp)
          · obtain ⟨e1, rfl⟩ := hx
            cases e1
            refine ⟨rfl, ?_⟩
            refine r_st (st2 := [.int (z_bi (tmB (f i)))]) rfl ?_
            refine r_cs (cs2 := [(m, .inr (12, [.int th, .ref mp, .int pt, .ref mf, .ref mh, .ref mn, .ref mt, .ref mz, .ref mc_, .ref mq, .ref mgr, .int cl, .int wa, .int co_, .int fi, .int bu, .int ho, .ref ml, .ref mi, .ref mr, .int lh, .int mg, .int wd, .int fpi, .int fal, .ref mm, .ref mu, .ref mk, .ref mx, .long po, .long de])), (b, .inl (1, 108, .inl f)), (mf, .inl (0, 108, .inl fl))]) rfl ?_
            refine r_if_eq (tgt := 73) d_Mm_isCold_61 (by decide) (fun c_61 => ?_) (fun c_61 => ?_)
            · have hk : (icQ f fl lh s9 (i + 1)) = false := icQ_f (z_bi0 c_51) (by unfold icP; rw [z_bi0 c_61]; rfl)
              refine r_iconst d_Mm_isCold_73 (v := 0) (by decide) ?_
              refine r_istore_n (lv' := [(3, .int 0), (5, .int 1), (4, .int (nI i)), (0, .ref m), (1, .ref b), (2, .int (z_bi s9))]) d_Mm_isCold_74 rfl (by decide) rfl ?_
              refine r_iinc (lv' := [(4, .int (nI (i + 1))), (3, .int 0), (5, .int 1), (0, .ref m), (1, .ref b), (2, .int (z_bi s9))]) (v := nI (i + 1)) d_Mm_isCold_75 (j := 2) rfl (nI_add _ _) (by decide) rfl ?_
              refine r_goto (tgt := 5) d_Mm_isCold_78 (by decide) ?_
              refine r_lv (lv' := [(4, .int (nI (i + 1))), (3, .int 0), (0, .ref m), (1, .ref b), (2, .int (z_bi s9))]) [0, 1, 3, 4, 5] rfl ?_
              refine r_lvE (lv2 := [(4, .int (nI (i + 1))), (3, .int (z_bi (icQ f fl lh s9 (i + 1)))), (0, .ref m), (1, .ref b), (2, .int (z_bi s9))]) (by rw [hk] <;> rfl) ?_
              refine r_cs (cs2 := [(m, .inr (12, [.int th, .ref mp, .int pt, .ref mf, .ref mh, .ref mn, .ref mt, .ref mz, .ref mc_, .ref mq, .ref mgr, .int cl, .int wa, .int co_, .int fi, .int bu, .int ho, .ref ml, .ref mi, .ref mr, .int lh, .int mg, .int wd, .int fpi, .int fal, .ref mm, .ref mu, .ref mk, .ref mx, .long po, .long de])), (b, .inl (1, 108, .inl f)), (mf, .inl (0, 108, .inl fl))]) (rfl) ?_
              exact ih (i + 1) (by omega) (by omega)
            · refine r_iload d_Mm_isCold_64 0 rfl ?_
              refine r_if_eq (tgt := 73) d_Mm_isCold_66 (by decide) (fun c_66 => ?_) (fun c_66 => ?_)
              · exact absurd c_66 (by decide)
              · have hk : (icQ f fl lh s9 (i + 1)) = true := icQ_h (by unfold icP; rw [hm, z_bi1 c_61]; rfl)
                refine r_iconst d_Mm_isCold_69 (v := 1) (by decide) ?_
                refine r_goto (tgt := 74) d_Mm_isCold_70 (by decide) ?_
                refine r_istore_n (lv' := [(3, .int 1), (5, .int 1), (4, .int (nI i)), (0, .ref m), (1, .ref b), (2, .int (z_bi s9))]) d_Mm_isCold_74 rfl (by decide) rfl ?_
                refine r_iinc (lv' := [(4, .int (nI (i + 1))), (3, .int 1), (5, .int 1), (0, .ref m), (1, .ref b), (2, .int (z_bi s9))]) (v := nI (i + 1)) d_Mm_isCold_75 (j := 2) rfl (nI_add _ _) (by decide) rfl ?_
                refine r_goto (tgt := 5) d_Mm_isCold_78 (by decide) ?_
                refine r_lv (lv' := [(4, .int (nI (i + 1))), (3, .int 1), (0, .ref m), (1, .ref b), (2, .int (z_bi s9))]) [0, 1, 3, 4, 5] rfl ?_
                refine r_lvE (lv2 := [(4, .int (nI (i + 1))), (3, .int (z_bi (icQ f fl lh s9 (i + 1)))), (0, .ref m), (1, .ref b), (2, .int (z_bi s9))]) (by rw [hk] <;> rfl) ?_
                refine r_cs (cs2 := [(m, .inr (12, [.int th, .ref mp, .int pt, .ref mf, .ref mh, .ref mn, .ref mt, .ref mz, .ref mc_, .ref mq, .ref mgr, .int cl, .int wa, .int co_, .int fi, .int bu, .int ho, .ref ml, .ref mi, .ref mr, .int lh, .int mg, .int wd, .int fpi, .int fal, .ref mm, .ref mu, .ref mk, .ref mx, .long po, .long de])), (b, .inl (1, 108, .inl f)), (mf, .inl (0, 108, .inl fl))]) (rfl) ?_
                exact ih (i + 1) (by omega) (by omega)
      · refine r_aload_n d_Mm_isCold_23 rfl 2 rfl ?_
        refine r_get fs_Mm_257 d_Mm_isCold_24 (q0 := 0) rfl rfl ?_
        refine r_iconst d_Mm_isCold_27 (v := 2) (by decide) ?_
        refine r_aload_n d_Mm_isCold_28 rfl 2 rfl ?_
        refine r_get fs_Mm_17 d_Mm_isCold_29 (q0 := 0) rfl rfl ?_
        refine r_iload d_Mm_isCold_32 0 rfl ?_
        refine r_iald d_Mm_isCold_34 (q0 := 2) rfl (vp_in_nI (by omega) (by omega)) (v := fl i) (by rw [nI_clamp (by omega)]) ?_
        refine r_imul d_Mm_isCold_35 (v := 2 * (fl i)) rfl ?_
        refine r_isub d_Mm_isCold_36 (v := lh - (2 * (fl i))) rfl ?_
        refine r_sipush d_Mm_isCold_37 (v := 1200) (by decide) ?_
        refine r_icmp_ge (tgt := 47) d_Mm_isCold_40 (by decide) (fun c_40 => ?_) (fun c_40 => ?_)
        · have hm : (decide (fl i < 0) || decide (z_hwf lh (fl i) < 1200)) = false := by rw [decide_eq_false ((vl_ng hv hn).mpr c_20), decide_eq_false (show ¬ z_hwf lh (fl i) < 1200 from Int32.not_lt.mpr c_40)]; rfl
          refine r_iconst d_Mm_isCold_47 (v := 0) (by decide) ?_
          refine r_istore (lv' := [(5, .int 0), (4, .int (nI i)), (3, .int (z_bi (icQ f fl lh s9 i))), (0, .ref m), (1, .ref b), (2, .int (z_bi s9))]) d_Mm_isCold_48 (by decide) rfl ?_
          refine r_iload_n d_Mm_isCold_50 rfl 2 rfl ?_
          refine r_if_ne (tgt := 69) d_Mm_isCold_51 (by decide) (fun c_51 => ?_) (fun c_51 => ?_)
          · have hk : (icQ f fl lh s9 (i + 1)) = true := icQ_t (z_bi1 c_51)
            refine r_iconst d_Mm_isCold_69 (v := 1) (by decide) ?_
            refine r_goto (tgt := 74) d_Mm_isCold_70 (by decide) ?_
            refine r_istore_n (lv' := [(3, .int 1), (5, .int 0), (4, .int (nI i)), (0, .ref m), (1, .ref b), (2, .int (z_bi s9))]) d_Mm_isCold_74 rfl (by decide) rfl ?_
            refine r_iinc (lv' := [(4, .int (nI (i + 1))), (3, .int 1), (5, .int 0), (0, .ref m), (1, .ref b), (2, .int (z_bi s9))]) (v := nI (i + 1)) d_Mm_isCold_75 (j := 2) rfl (nI_add _ _) (by decide) rfl ?_
            refine r_goto (tgt := 5) d_Mm_isCold_78 (by decide) ?_
            refine r_lv (lv' := [(4, .int (nI (i + 1))), (3, .int 1), (0, .ref m), (1, .ref b), (2, .int (z_bi s9))]) [0, 1, 3, 4, 5] rfl ?_
            refine r_lvE (lv2 := [(4, .int (nI (i + 1))), (3, .int (z_bi (icQ f fl lh s9 (i + 1)))), (0, .ref m), (1, .ref b), (2, .int (z_bi s9))]) (by rw [hk] <;> rfl) ?_
            refine r_cs (cs2 := [(m, .inr (12, [.int th, .ref mp, .int pt, .ref mf, .ref mh, .ref mn, .ref mt, .ref mz, .ref mc_, .ref mq, .ref mgr, .int cl, .int wa, .int co_, .int fi, .int bu, .int ho, .ref ml, .ref mi, .ref mr, .int lh, .int mg, .int wd, .int fpi, .int fal, .ref mm, .ref mu, .ref mk, .ref mx, .long po, .long de])), (b, .inl (1, 108, .inl f)), (mf, .inl (0, 108, .inl fl))]) (rfl) ?_
            exact ih (i + 1) (by omega) (by omega)
          · refine r_aload_n d_Mm_isCold_54 rfl 4 rfl ?_
            refine r_iload d_Mm_isCold_55 1 rfl ?_
            refine r_cald d_Mm_isCold_57 (q0 := 1) rfl (vp_in_nI (by omega) (by omega)) (v := f i) (by rw [nI_clamp (by omega)]) ?_
            refine r_callS (As := [.int (f i)]) (rest := []) (csC := []) (is := []) ln_Mm_107 w_st_Mm_isMetal ok_Mm_isCold_Mm_isMetal d_Mm_isCold_58 (C_Mm_isMetal g (f i)) rfl rfl (Nat.le_of_ble_eq_true rfl) rfl (by decide) (by omega) (by omega) (fun E cs1 hx => ?_) (fun v cs1 hx => ?_)
            · exact absurd hx.1 (by simp)
            · obtain ⟨e1, rfl⟩ := hx
              cases e1
              refine ⟨rfl, ?_⟩
              refine r_st (st2 := [.int (z_bi (tmB (f i)))]) rfl ?_
              refine r_cs (cs2 := [(m, .inr (12, [.int th, .ref mp, .int pt, .ref mf, .ref mh, .ref mn, .ref mt, .ref mz, .ref mc_, .ref mq, .ref mgr, .int cl, .int wa, .int co_, .int fi, .int bu, .int ho, .ref ml, .ref mi, .ref mr, .int lh, .int mg, .int wd, .int fpi, .int fal, .ref mm, .ref mu, .ref mk, .ref mx, .long po, .long de])), (b, .inl (1, 108, .inl f)), (mf, .inl (0, 108, .inl fl))]) rfl ?_
              refine r_if_eq (tgt := 73) d_Mm_isCold_61 (by decide) (fun c_61 => ?_) (fun c_61 => ?_)
              · have hk : (icQ f fl lh s9 (i + 1)) = false := icQ_f (z_bi0 c_51) (by unfold icP; rw [z_bi0 c_61]; rfl)
                refine r_iconst d_Mm_isCold_73 (v := 0) (by decide) ?_
                refine r_istore_n (lv' := [(3, .int 0), (5, .int 0), (4, .int (nI i)), (0, .ref m), (1, .ref b), (2, .int (z_bi s9))]) d_Mm_isCold_74 rfl (by decide) rfl ?_
                refine r_iinc (lv' := [(4, .int (nI (i + 1))), (3, .int 0), (5, .int 0), (0, .ref m), (1, .ref b), (2, .int (z_bi s9))]) (v := nI (i + 1)) d_Mm_isCold_75 (j := 2) rfl (nI_add _ _) (by decide) rfl ?_
                refine r_goto (tgt := 5) d_Mm_isCold_78 (by decide) ?_
                refine r_lv (lv' := [(4, .int (nI (i + 1))), (3, .int 0), (0, .ref m), (1, .ref b), (2, .int (z_bi s9))]) [0, 1, 3, 4, 5] rfl ?_
                refine r_lvE (lv2 := [(4, .int (nI (i + 1))), (3, .int (z_bi (icQ f fl lh s9 (i + 1)))), (0, .ref m), (1, .ref b), (2, .int (z_bi s9))]) (by rw [hk] <;> rfl) ?_
                refine r_cs (cs2 := [(m, .inr (12, [.int th, .ref mp, .int pt, .ref mf, .ref mh, .ref mn, .ref mt, .ref mz, .ref mc_, .ref mq, .ref mgr, .int cl, .int wa, .int co_, .int fi, .int bu, .int ho, .ref ml, .ref mi, .ref mr, .int lh, .int mg, .int wd, .int fpi, .int fal, .ref mm, .ref mu, .ref mk, .ref mx, .long po, .long de])), (b, .inl (1, 108, .inl f)), (mf, .inl (0, 108, .inl fl))]) (rfl) ?_
                exact ih (i + 1) (by omega) (by omega)
              · refine r_iload d_Mm_isCold_64 0 rfl ?_
                refine r_if_eq (tgt := 73) d_Mm_isCold_66 (by decide) (fun c_66 => ?_) (fun c_66 => ?_)
                · have hk : (icQ f fl lh s9 (i + 1)) = false := icQ_f (z_bi0 c_51) (by unfold icP; rw [hm, Bool.and_false])
                  refine r_iconst d_Mm_isCold_73 (v := 0) (by decide) ?_
                  refine r_istore_n (lv' := [(3, .int 0), (5, .int 0), (4, .int (nI i)), (0, .ref m), (1, .ref b), (2, .int (z_bi s9))]) d_Mm_isCold_74 rfl (by decide) rfl ?_
                  refine r_iinc (lv' := [(4, .int (nI (i + 1))), (3, .int 0), (5, .int 0), (0, .ref m), (1, .ref b), (2, .int (z_bi s9))]) (v := nI (i + 1)) d_Mm_isCold_75 (j := 2) rfl (nI_add _ _) (by decide) rfl ?_
                  refine r_goto (tgt := 5) d_Mm_isCold_78 (by decide) ?_
                  refine r_lv (lv' := [(4, .int (nI (i + 1))), (3, .int 0), (0, .ref m), (1, .ref b), (2, .int (z_bi s9))]) [0, 1, 3, 4, 5] rfl ?_
                  refine r_lvE (lv2 := [(4, .int (nI (i + 1))), (3, .int (z_bi (icQ f fl lh s9 (i + 1)))), (0, .ref m), (1, .ref b), (2, .int (z_bi s9))]) (by rw [hk] <;> rfl) ?_
                  refine r_cs (cs2 := [(m, .inr (12, [.int th, .ref mp, .int pt, .ref mf, .ref mh, .ref mn, .ref mt, .ref mz, .ref mc_, .ref mq, .ref mgr, .int cl, .int wa, .int co_, .int fi, .int bu, .int ho, .ref ml, .ref mi, .ref mr, .int lh, .int mg, .int wd, .int fpi, .int fal, .ref mm, .ref mu, .ref mk, .ref mx, .long po, .long de])), (b, .inl (1, 108, .inl f)), (mf, .inl (0, 108, .inl fl))]) (rfl) ?_
                  exact ih (i + 1) (by omega) (by omega)
                · exact absurd c_66 (by decide)
        · have hm : (decide (fl i < 0) || decide (z_hwf lh (fl i) < 1200)) = true := by rw [decide_eq_true (show z_hwf lh (fl i) < 1200 from Int32.not_le.mp c_40), Bool.or_true]
          refine r_iconst d_Mm_isCold_43 (v := 1) (by decide) ?_
          refine r_goto (tgt := 48) d_Mm_isCold_44 (by decide) ?_
          refine r_istore (lv' := [(5, .int 1), (4, .int (nI i)), (3, .int (z_bi (icQ f fl lh s9 i))), (0, .ref m), (1, .ref b), (2, .int (z_bi s9))]) d_Mm_isCold_48 (by decide) rfl ?_
          refine r_iload_n d_Mm_isCold_50 rfl 2 rfl ?_
          refine r_if_ne (tgt := 69) d_Mm_isCold_51 (by decide) (fun c_51 => ?_) (fun c_51 => ?_)
          · have hk : (icQ f fl lh s9 (i + 1)) = true := icQ_t (z_bi1 c_51)
            refine r_iconst d_Mm_isCold_69 (v := 1) (by decide) ?_
            refine r_goto (tgt := 74) d_Mm_isCold_70 (by decide) ?_
            refine r_istore_n (lv' := [(3, .int 1), (5, .int 1), (4, .int (nI i)), (0, .ref m), (1, .ref b), (2, .int (z_bi s9))]) d_Mm_isCold_74 rfl (by decide) rfl ?_
            refine r_iinc (lv' := [(4, .int (nI (i + 1))), (3, .int 1), (5, .int 1), (0, .ref m), (1, .ref b), (2, .int (z_bi s9))]) (v := nI (i + 1)) d_Mm_isCold_75 (j := 2) rfl (nI_add _ _) (by decide) rfl ?_
            refine r_goto (tgt := 5) d_Mm_isCold_78 (by decide) ?_
            refine r_lv (lv' := [(4, .int (nI (i + 1))), (3, .int 1), (0, .ref m), (1, .ref b), (2, .int (z_bi s9))]) [0, 1, 3, 4, 5] rfl ?_
            refine r_lvE (lv2 := [(4, .int (nI (i + 1))), (3, .int (z_bi (icQ f fl lh s9 (i + 1)))), (0, .ref m), (1, .ref b), (2, .int (z_bi s9))]) (by rw [hk] <;> rfl) ?_
            refine r_cs (cs2 := [(m, .inr (12, [.int th, .ref mp, .int pt, .ref mf, .ref mh, .ref mn, .ref mt, .ref mz, .ref mc_, .ref mq, .ref mgr, .int cl, .int wa, .int co_, .int fi, .int bu, .int ho, .ref ml, .ref mi, .ref mr, .int lh, .int mg, .int wd, .int fpi, .int fal, .ref mm, .ref mu, .ref mk, .ref mx, .long po, .long de])), (b, .inl (1, 108, .inl f)), (mf, .inl (0, 108, .inl fl))]) (rfl) ?_
            exact ih (i + 1) (by omega) (by omega)
          · refine r_aload_n d_Mm_isCold_54 rfl 4 rfl ?_
            refine r_iload d_Mm_isCold_55 1 rfl ?_
            refine r_cald d_Mm_isCold_57 (q0 := 1) rfl (vp_in_nI (by omega) (by omega)) (v := f i) (by rw [nI_clamp (by omega)]) ?_
            refine r_callS (As := [.int (f i)]) (rest := []) (csC := []) (is := []) ln_Mm_107 w_st_Mm_isMetal ok_Mm_isCold_Mm_isMetal d_Mm_isCold_58 (C_Mm_isMetal g (f i)) rfl rfl (Nat.le_of_ble_eq_true rfl) rfl (by decide) (by omega) (by omega) (fun E cs1 hx => ?_) (fun v cs1 hx => ?_)
            · exact absurd hx.1 (by simp)
            · obtain ⟨e1, rfl⟩ := hx
              cases e1
              refine ⟨rfl, ?_⟩
              refine r_st (st2 := [.int (z_bi (tmB (f i)))]) rfl ?_
              refine r_cs (cs2 := [(m, .inr (12, [.int th, .ref mp, .int pt, .ref mf, .ref mh, .ref mn, .ref mt, .ref mz, .ref mc_, .ref mq, .ref mgr, .int cl, .int wa, .int co_, .int fi, .int bu, .int ho, .ref ml, .ref mi, .ref mr, .int lh, .int mg, .int wd, .int fpi, .int fal, .ref mm, .ref mu, .ref mk, .ref mx, .long po, .long de])), (b, .inl (1, 108, .inl f)), (mf, .inl (0, 108, .inl fl))]) rfl ?_
              refine r_if_eq (tgt := 73) d_Mm_isCold_61 (by decide) (fun c_61 => ?_) (fun c_61 => ?_)
              · have hk : (icQ f fl lh s9 (i + 1)) = false := icQ_f (z_bi0 c_51) (by unfold icP; rw [z_bi0 c_61]; rfl)
                refine r_iconst d_Mm_isCold_73 (v := 0) (by decide) ?_
                refine r_istore_n (lv' := [(3, .int 0), (5, .int 1), (4, .int (nI i)), (0, .ref m), (1, .ref b), (2, .int (z_bi s9))]) d_Mm_isCold_74 rfl (by decide) rfl ?_
                refine r_iinc (lv' := [(4, .int (nI (i + 1))), (3, .int 0), (5, .int 1), (0, .ref m), (1, .ref b), (2, .int (z_bi s9))]) (v := nI (i + 1)) d_Mm_isCold_75 (j := 2) rfl (nI_add _ _) (by decide) rfl ?_
                refine r_goto (tgt := 5) d_Mm_isCold_78 (by decide) ?_
                refine r_lv (lv' := [(4, .int (nI (i + 1))), (3, .int 0), (0, .ref m), (1, .ref b), (2, .int (z_bi s9))]) [0, 1, 3, 4, 5] rfl ?_
                refine r_lvE (lv2 := [(4, .int (nI (i + 1))), (3, .int (z_bi (icQ f fl lh s9 (i + 1)))), (0, .ref m), (1, .ref b), (2, .int (z_bi s9))]) (by rw [hk] <;> rfl) ?_
                refine r_cs (cs2 := [(m, .inr (12, [.int th, .ref mp, .int pt, .ref mf, .ref mh, .ref mn, .ref mt, .ref mz, .ref mc_, .ref mq, .ref mgr, .int cl, .int wa, .int co_, .int fi, .int bu, .int ho, .ref ml, .ref mi, .ref mr, .int lh, .int mg, .int wd, .int fpi, .int fal, .ref mm, .ref mu, .ref mk, .ref mx, .long po, .long de])), (b, .inl (1, 108, .inl f)), (mf, .inl (0, 108, .inl fl))]) (rfl) ?_
                exact ih (i + 1) (by omega) (by omega)
              · refine r_iload d_Mm_isCold_64 0 rfl ?_
                refine r_if_eq (tgt := 73) d_Mm_isCold_66 (by decide) (fun c_66 => ?_) (fun c_66 => ?_)
                · exact absurd c_66 (by decide)
                · have hk : (icQ f fl lh s9 (i + 1)) = true := icQ_h (by unfold icP; rw [hm, z_bi1 c_61]; rfl)
                  refine r_iconst d_Mm_isCold_69 (v := 1) (by decide) ?_
                  refine r_goto (tgt := 74) d_Mm_isCold_70 (by decide) ?_
                  refine r_istore_n (lv' := [(3, .int 1), (5, .int 1), (4, .int (nI i)), (0, .ref m), (1, .ref b), (2, .int (z_bi s9))]) d_Mm_isCold_74 rfl (by decide) rfl ?_
                  refine r_iinc (lv' := [(4, .int (nI (i + 1))), (3, .int 1), (5, .int 1), (0, .ref m), (1, .ref b), (2, .int (z_bi s9))]) (v := nI (i + 1)) d_Mm_isCold_75 (j := 2) rfl (nI_add _ _) (by decide) rfl ?_
                  refine r_goto (tgt := 5) d_Mm_isCold_78 (by decide) ?_
                  refine r_lv (lv' := [(4, .int (nI (i + 1))), (3, .int 1), (0, .ref m), (1, .ref b), (2, .int (z_bi s9))]) [0, 1, 3, 4, 5] rfl ?_
                  refine r_lvE (lv2 := [(4, .int (nI (i + 1))), (3, .int (z_bi (icQ f fl lh s9 (i + 1)))), (0, .ref m), (1, .ref b), (2, .int (z_bi s9))]) (by rw [hk] <;> rfl) ?_
                  refine r_cs (cs2 := [(m, .inr (12, [.int th, .ref mp, .int pt, .ref mf, .ref mh, .ref mn, .ref mt, .ref mz, .ref mc_, .ref mq, .ref mgr, .int cl, .int wa, .int co_, .int fi, .int bu, .int ho, .ref ml, .ref mi, .ref mr, .int lh, .int mg, .int wd, .int fpi, .int fal, .ref mm, .ref mu, .ref mk, .ref mx, .long po, .long de])), (b, .inl (1, 108, .inl f)), (mf, .inl (0, 108, .inl fl))]) (rfl) ?_
                  exact ih (i + 1) (by omega) (by omega)
set_option maxHeartbeats 4000000 in
set_option maxRecDepth 100000 in
theorem C_Mm_isCold9 (g : zG) (m mp mf mh mn mt mz mc_ mq mgr ml mi mr mm mu mk mx : Nat) (th pt cl wa co_ fi bu ho lh mg wd fpi fal : Int32) (po de : Int64) (b : Nat) (f : Nat → Int32) (fl : Nat → Int32) (s9 : Bool) (hv : vlA f fl) : CT g M_Mm_isCold [.ref m, .ref b, .int (z_bi s9)] [(m, .inr (12, [.int th, .ref mp, .int pt, .ref mf, .ref mh, .ref mn, .ref mt, .ref mz, .ref mc_, .ref mq, .ref mgr, .int cl, .int wa, .int co_, .int fi, .int bu, .int ho, .ref ml, .ref mi, .ref mr, .int lh, .int mg, .int wd, .int fpi, .int fal, .ref mm, .ref mu, .ref mk, .ref mx, .long po, .long de])), (b, .inl (1, 108, .inl f)), (mf, .inl (0, 108, .inl fl))] (fun o cs1 => o = .inl (some (.int (z_bi (icQ f fl lh s9 108)))) ∧ cs1 = [(m, .inr (12, [.int th, .ref mp, .int pt, .ref mf, .ref mh, .ref mn, .ref mt, .ref mz, .ref mc_, .ref mq, .ref mgr, .int cl, .int wa, .int co_, .int fi, .int bu, .int ho, .ref ml, .ref mi, .ref mr, .int lh, .int mg, .int wd, .int fpi, .int fal, .ref mm, .ref mu, .ref mk, .ref mx, .long po, .long de])), (b, .inl (1, 108, .inl f)), (mf, .inl (0, 108, .inl fl))]) 0 0 := by
  refine z_of (by decide) rfl (Nat.le_of_ble_eq_true rfl) (fun w0 => ?_)
  refine r_lvE (lv2 := [(0, .ref m), (1, .ref b), (2, .int (z_bi s9))]) rfl ?_
  refine r_iload_n d_Mm_isCold_0 rfl 2 rfl ?_
  refine r_istore_n (lv' := [(3, .int (z_bi s9)), (0, .ref m), (1, .ref b), (2, .int (z_bi s9))]) d_Mm_isCold_1 rfl (by decide) rfl ?_
  refine r_iconst d_Mm_isCold_2 (v := 0) (by decide) ?_
  refine r_istore (lv' := [(4, .int 0), (3, .int (z_bi s9)), (0, .ref m), (1, .ref b), (2, .int (z_bi s9))]) d_Mm_isCold_3 (by decide) rfl ?_
  refine r_lvE (lv2 := [(4, .int (nI 0)), (3, .int (z_bi (icQ f fl lh s9 0))), (0, .ref m), (1, .ref b), (2, .int (z_bi s9))]) (by rw [show (icQ f fl lh s9 0) = s9 from Bool.or_false s9] <;> rfl) ?_
  refine r_cs (cs2 := [(m, .inr (12, [.int th, .ref mp, .int pt, .ref mf, .ref mh, .ref mn, .ref mt, .ref mz, .ref mc_, .ref mq, .ref mgr, .int cl, .int wa, .int co_, .int fi, .int bu, .int ho, .ref ml, .ref mi, .ref mr, .int lh, .int mg, .int wd, .int fpi, .int fal, .ref mm, .ref mu, .ref mk, .ref mx, .long po, .long de])), (b, .inl (1, 108, .inl f)), (mf, .inl (0, 108, .inl fl))]) (rfl) ?_
  exact L_Mm_isCold9_5 g m mp mf mh mn mt mz mc_ mq mgr ml mi mr mm mu mk mx th pt cl wa co_ fi bu ho lh mg wd fpi fal po de b f fl s9 hv w0 _  (108 + 1) 0 (Nat.zero_le _) (by omega)
end
section
theorem bm32 {x : Int} (h1 : -2147483648 ≤ x) (h2 : x < 2147483648) : x.bmod (2 ^ 32) = x := by
  rw [Int.bmod_def]
  split <;> omega
theorem td64 (a : Int) : (0 ≤ a → 0 ≤ a.tdiv 64 ∧ 64 * a.tdiv 64 ≤ a) ∧ (a ≤ 0 → a.tdiv 64 ≤ 0 ∧ a ≤ 64 * a.tdiv 64) := by
  have p : ∀ b : Int, 0 ≤ b → 0 ≤ b.tdiv 64 ∧ 64 * b.tdiv 64 ≤ b := fun b h => by
    rw [Int.tdiv_eq_ediv_of_nonneg h]
    omega
  refine ⟨p a, fun h => ?_⟩
  have h1 := p (-a) (by omega)
  rw [Int.neg_tdiv] at h1
  omega
theorem dv64n {x : Int32} (h : -2147483648 < x.toInt) : (-x) / 64 = -(x / 64) := Int32.toInt_inj.mp (by
  have hl := x.toInt_lt
  have e64 : (64 : Int32).toInt = 64 := by decide
  have h1 : (-x).toInt = -x.toInt := by rw [Int32.toInt_neg]; exact bm32 (by omega) (by omega)
  have t := td64 x.toInt
  rw [Int32.toInt_div_of_ne_right _ _ (by decide), h1, Int32.toInt_neg, Int32.toInt_div_of_ne_right _ _ (by decide), e64, Int.neg_tdiv]
  obtain ⟨v, hv⟩ : ∃ v, v = x.toInt.tdiv 64 := ⟨_, rfl⟩
  rw [← hv] at t ⊢
  refine (bm32 ?_ ?_).symm
  · rcases Int.le_total 0 x.toInt with q | q
    · have := t.1 q; omega
    · have := t.2 q; omega
  · rcases Int.le_total 0 x.toInt with q | q
    · have := t.1 q; omega
    · have := t.2 q; omega)
def nS (n : Int32) : Prop := n = 3 ∨ n = 4 ∨ n = 12 ∨ n = 14
def bd1 (x : Int32) : Prop := 20 ≤ x.toInt ∧ x.toInt ≤ 1500
theorem fw_3 {a b : Int32} (ha : bd1 a) (hb : bd1 b) : 64 * ((b - a) * 3 / 64).toInt ≤ 14 * (1500 - a.toInt) ∧ 14 * (20 - a.toInt) ≤ 64 * ((b - a) * 3 / 64).toInt ∧ -((a - b) * 3 / 64) = (b - a) * 3 / 64 := by
  obtain ⟨ha1, ha2⟩ := ha
  obtain ⟨hb1, hb2⟩ := hb
  have en : (3 : Int32).toInt = 3 := by decide
  have e64 : (64 : Int32).toInt = 64 := by decide
  have e1 : (b - a).toInt = b.toInt - a.toInt := by rw [Int32.toInt_sub]; exact bm32 (by omega) (by omega)
  have e2 : ((b - a) * 3).toInt = (b.toInt - a.toInt) * 3 := by rw [Int32.toInt_mul, e1, en]; exact bm32 (by omega) (by omega)
  have e3 : ((b - a) * 3 / 64).toInt = ((b.toInt - a.toInt) * 3).tdiv 64 := by rw [Int32.toInt_div_of_ne_right _ _ (by decide), e2, e64]
  have t := td64 ((b.toInt - a.toInt) * 3)
  obtain ⟨v, hv⟩ : ∃ v, v = ((b.toInt - a.toInt) * 3).tdiv 64 := ⟨_, rfl⟩
  rw [← hv] at t e3
  rw [e3]
  have t1 : 64 * v ≤ 14 * (1500 - a.toInt) ∧ 14 * (20 - a.toInt) ≤ 64 * v := by
    rcases Int.le_total 0 ((b.toInt - a.toInt) * 3) with q | q
    · have := t.1 q; omega
    · have := t.2 q; omega
  refine ⟨t1.1, t1.2, ?_⟩
  rw [show a - b = -(b - a) from Int32.neg_sub.symm, Int32.neg_mul, dv64n (by rw [e2]; omega), Int32.neg_neg]
theorem fw_4 {a b : Int32} (ha : bd1 a) (hb : bd1 b) : 64 * ((b - a) * 4 / 64).toInt ≤ 14 * (1500 - a.toInt) ∧ 14 * (20 - a.toInt) ≤ 64 * ((b - a) * 4 / 64).toInt ∧ -((a - b) * 4 / 64) = (b - a) * 4 / 64 := by
  obtain ⟨ha1, ha2⟩ := ha
  obtain ⟨hb1, hb2⟩ := hb
  have en : (4 : Int32).toInt = 4 := by decide
  have e64 : (64 : Int32).toInt = 64 := by decide
  have e1 : (b - a).toInt = b.toInt - a.toInt := by rw [Int32.toInt_sub]; exact bm32 (by omega) (by omega)
  have e2 : ((b - a) * 4).toInt = (b.toInt - a.toInt) * 4 := by rw [Int32.toInt_mul, e1, en]; exact bm32 (by omega) (by omega)
  have e3 : ((b - a) * 4 / 64).toInt = ((b.toInt - a.toInt) * 4).tdiv 64 := by rw [Int32.toInt_div_of_ne_right _ _ (by decide), e2, e64]
  have t := td64 ((b.toInt - a.toInt) * 4)
  obtain ⟨v, hv⟩ : ∃ v, v = ((b.toInt - a.toInt) * 4).tdiv 64 := ⟨_, rfl⟩
  rw [← hv] at t e3
  rw [e3]
  have t1 : 64 * v ≤ 14 * (1500 - a.toInt) ∧ 14 * (20 - a.toInt) ≤ 64 * v := by
    rcases Int.le_total 0 ((b.toInt - a.toInt) * 4) with q | q
    · have := t.1 q; omega
    · have := t.2 q; omega
  refine ⟨t1.1, t1.2, ?_⟩
  rw [show a - b = -(b - a) from Int32.neg_sub.symm, Int32.neg_mul, dv64n (by rw [e2]; omega), Int32.neg_neg]
theorem fw_12 {a b : Int32} (ha : bd1 a) (hb : bd1 b) : 64 * ((b - a) * 12 / 64).toInt ≤ 14 * (1500 - a.toInt) ∧ 14 * (20 - a.toInt) ≤ 64 * ((b - a) * 12 / 64).toInt ∧ -((a - b) * 12 / 64) = (b - a) * 12 / 64 := by
  obtain ⟨ha1, ha2⟩ := ha
  obtain ⟨hb1, hb2⟩ := hb
  have en : (12 : Int32).toInt = 12 := by decide
  have e64 : (64 : Int32).toInt = 64 := by decide
  have e1 : (b - a).toInt = b.toInt - a.toInt := by rw [Int32.toInt_sub]; exact bm32 (by omega) (by omega)
  have e2 : ((b - a) * 12).toInt = (b.toInt - a.toInt) * 12 := by rw [Int32.toInt_mul, e1, en]; exact bm32 (by omega) (by omega)
  have e3 : ((b - a) * 12 / 64).toInt = ((b.toInt - a.toInt) * 12).tdiv 64 := by rw [Int32.toInt_div_of_ne_right _ _ (by decide), e2, e64]
  have t := td64 ((b.toInt - a.toInt) * 12)
  obtain ⟨v, hv⟩ : ∃ v, v = ((b.toInt - a.toInt) * 12).tdiv 64 := ⟨_, rfl⟩
  rw [← hv] at t e3
  rw [e3]
  have t1 : 64 * v ≤ 14 * (1500 - a.toInt) ∧ 14 * (20 - a.toInt) ≤ 64 * v := by
    rcases Int.le_total 0 ((b.toInt - a.toInt) * 12) with q | q
    · have := t.1 q; omega
    · have := t.2 q; omega
  refine ⟨t1.1, t1.2, ?_⟩
  rw [show a - b = -(b - a) from Int32.neg_sub.symm, Int32.neg_mul, dv64n (by rw [e2]; omega), Int32.neg_neg]
theorem fw_14 {a b : Int32} (ha : bd1 a) (hb : bd1 b) : 64 * ((b - a) * 14 / 64).toInt ≤ 14 * (1500 - a.toInt) ∧ 14 * (20 - a.toInt) ≤ 64 * ((b - a) * 14 / 64).toInt ∧ -((a - b) * 14 / 64) = (b - a) * 14 / 64 := by
  obtain ⟨ha1, ha2⟩ := ha
  obtain ⟨hb1, hb2⟩ := hb
  have en : (14 : Int32).toInt = 14 := by decide
  have e64 : (64 : Int32).toInt = 64 := by decide
  have e1 : (b - a).toInt = b.toInt - a.toInt := by rw [Int32.toInt_sub]; exact bm32 (by omega) (by omega)
  have e2 : ((b - a) * 14).toInt = (b.toInt - a.toInt) * 14 := by rw [Int32.toInt_mul, e1, en]; exact bm32 (by omega) (by omega)
  have e3 : ((b - a) * 14 / 64).toInt = ((b.toInt - a.toInt) * 14).tdiv 64 := by rw [Int32.toInt_div_of_ne_right _ _ (by decide), e2, e64]
  have t := td64 ((b.toInt - a.toInt) * 14)
  obtain ⟨v, hv⟩ : ∃ v, v = ((b.toInt - a.toInt) * 14).tdiv 64 := ⟨_, rfl⟩
  rw [← hv] at t e3
  rw [e3]
  have t1 : 64 * v ≤ 14 * (1500 - a.toInt) ∧ 14 * (20 - a.toInt) ≤ 64 * v := by
    rcases Int.le_total 0 ((b.toInt - a.toInt) * 14) with q | q
    · have := t.1 q; omega
    · have := t.2 q; omega
  refine ⟨t1.1, t1.2, ?_⟩
  rw [show a - b = -(b - a) from Int32.neg_sub.symm, Int32.neg_mul, dv64n (by rw [e2]; omega), Int32.neg_neg]
theorem fw_b {a b n : Int32} (ha : bd1 a) (hb : bd1 b) (hn : nS n) : 64 * ((b - a) * n / 64).toInt ≤ 14 * (1500 - a.toInt) ∧ 14 * (20 - a.toInt) ≤ 64 * ((b - a) * n / 64).toInt ∧ -((a - b) * n / 64) = (b - a) * n / 64 := by
  rcases hn with rfl | rfl | rfl | rfl
  · exact fw_3 ha hb
  · exact fw_4 ha hb
  · exact fw_12 ha hb
  · exact fw_14 ha hb
theorem bd_20 : bd1 20 := ⟨by decide, by decide⟩
theorem numM_S {f fl : Nat → Int32} {c o : Nat} : nS (numM f fl c o) := by
  unfold numM
  split
  · exact Or.inr (Or.inr (Or.inr rfl))
  · split
    · exact Or.inr (Or.inr (Or.inl rfl))
    · split
      · exact Or.inl rfl
      · exact Or.inr (Or.inl rfl)
theorem z_ifc {α : Type} {p q : Prop} [Decidable p] [Decidable q] {a b c d : α} (h : p ↔ q) (h1 : a = c) (h2 : b = d) : (if p then a else b) = (if q then c else d) := by
  subst h1; subst h2
  by_cases k : p
  · rw [if_pos k, if_pos (h.mp k)]
  · rw [if_neg k, if_neg (fun z => k (h.mpr z))]
theorem numM_c {f fl : Nat → Int32} {c o : Nat} : numM f fl c o = numM f fl o c := by
  unfold numM
  exact z_ifc Or.comm rfl (z_ifc And.comm rfl (z_ifc Or.comm rfl rfl))
def vM (f fl he : Nat → Int32) (c s : Nat) : Int32 := (bs c s).elim ((20 - he c) * 4 / 64) (fun o => (he o - he c) * numM f fl c o / 64)
theorem vM_n {f fl he : Nat → Int32} {c s : Nat} (h : bs c s = none) : vM f fl he c s = (20 - he c) * 4 / 64 := by rw [vM, h]; rfl
theorem vM_s {f fl he : Nat → Int32} {c s o : Nat} (h : bs c s = some o) : vM f fl he c s = (he o - he c) * numM f fl c o / 64 := by rw [vM, h]; rfl
def bdA (he : Nat → Int32) : Prop := ∀ k, k < 108 → bd1 (he k)
theorem vM_b {f fl he : Nat → Int32} {c s : Nat} (hb : bdA he) (hc : c < 108) : 64 * (vM f fl he c s).toInt ≤ 14 * (1500 - (he c).toInt) ∧ 14 * (20 - (he c).toInt) ≤ 64 * (vM f fl he c s).toInt := by
  cases e : bs c s with
  | none => rw [vM_n e]; have := fw_b (hb c hc) bd_20 (n := 4) (Or.inr (Or.inl rfl)); exact ⟨this.1, this.2.1⟩
  | some o => rw [vM_s e]; have := fw_b (hb c hc) (hb o (bs_lt hc e)) (numM_S (f := f) (fl := fl) (c := c) (o := o)); exact ⟨this.1, this.2.1⟩
theorem gaM_v {f fl he : Nat → Int32} {c : Nat} : gaM f fl he c 4 = 0 + vM f fl he c 0 + vM f fl he c 1 + vM f fl he c 2 + vM f fl he c 3 := rfl
theorem ga_bd {f fl he : Nat → Int32} {c : Nat} (hb : bdA he) (hc : c < 108) : bd1 (he c + gaM f fl he c 4) := by
  have b0 := vM_b (f := f) (fl := fl) (s := 0) hb hc
  have b1 := vM_b (f := f) (fl := fl) (s := 1) hb hc
  have b2 := vM_b (f := f) (fl := fl) (s := 2) hb hc
  have b3 := vM_b (f := f) (fl := fl) (s := 3) hb hc
  obtain ⟨h1, h2⟩ := hb c hc
  rw [gaM_v, Int32.zero_add]
  have e1 : (vM f fl he c 0 + vM f fl he c 1).toInt = (vM f fl he c 0).toInt + (vM f fl he c 1).toInt := by rw [Int32.toInt_add]; exact bm32 (by omega) (by omega)
  have e2 : (vM f fl he c 0 + vM f fl he c 1 + vM f fl he c 2).toInt = (vM f fl he c 0).toInt + (vM f fl he c 1).toInt + (vM f fl he c 2).toInt := by rw [Int32.toInt_add, e1]; exact bm32 (by omega) (by omega)
  have e3 : (vM f fl he c 0 + vM f fl he c 1 + vM f fl he c 2 + vM f fl he c 3).toInt = (vM f fl he c 0).toInt + (vM f fl he c 1).toInt + (vM f fl he c 2).toInt + (vM f fl he c 3).toInt := by rw [Int32.toInt_add, e2]; exact bm32 (by omega) (by omega)
  have e4 : (he c + (vM f fl he c 0 + vM f fl he c 1 + vM f fl he c 2 + vM f fl he c 3)).toInt = (he c).toInt + ((vM f fl he c 0).toInt + (vM f fl he c 1).toInt + (vM f fl he c 2).toInt + (vM f fl he c 3).toInt) := by rw [Int32.toInt_add, e3]; exact bm32 (by omega) (by omega)
  unfold bd1
  rw [e4]
  exact ⟨by omega, by omega⟩
theorem pb_num {f fl ce fi : Nat → Int32} {a b : Nat} (hc : eqA ce f) (hf : eqA fl fi) (hv : vlA f fl) (ha : a < 108) (hb : b < 108) : pbS ce fi a b = numM f fl a b := by
  have p : ∀ k, k < 108 → (0 ≤ fi k ↔ ¬ fl k = -1) := fun k hk => by
    rw [← hf k hk, ← Int32.not_lt]
    exact vl_ng hv hk
  have m : ∀ k, k < 108 → ¬ fl k = -1 → ¬ f k = 107 ∧ ¬ f k = 111 := fun k hk q => by
    rcases hv k hk with e | ⟨e, -⟩
    · exact absurd e q
    · refine ⟨fun z => ?_, fun z => ?_⟩
      · rw [z] at e; exact absurd e (by decide)
      · rw [z] at e; exact absurd e (by decide)
  unfold pbS numM
  rw [hc a ha, hc b hb]
  by_cases qa : fl a = -1
  · by_cases qb : fl b = -1
    · rw [if_neg (fun z => (p a ha).mp z qa), if_neg (fun z => (p b hb).mp z qb), if_neg (fun z => z.elim (fun y => y.2 qb) (fun y => y.2 qa)), if_neg (fun z => z.1 qa), if_neg (fun z => z.elim (fun y => y.1 qa) (fun y => y.1 qb))]
    · have mb := m b hb qb
      rw [if_neg (fun z => (p a ha).mp z qa), if_pos ((p b hb).mpr qb)]
      by_cases k1 : f a = 107
      · rw [if_pos k1, if_pos (Or.inl ⟨k1, qb⟩)]
      · rw [if_neg k1, if_neg (show ¬ ((f a = 107 ∧ ¬ fl b = -1) ∨ (f b = 107 ∧ ¬ fl a = -1)) from fun z => z.elim (fun y => k1 y.1) (fun y => y.2 qa)), if_neg (show ¬ (¬ fl a = -1 ∧ ¬ fl b = -1) from fun z => z.1 qa)]
        by_cases k2 : f a = 111
        · rw [if_pos k2, if_pos (Or.inr ⟨qb, k2⟩)]
        · rw [if_neg k2, if_neg (fun z => z.elim (fun y => y.1 qa) (fun y => k2 y.2))]
  · have ma := m a ha qa
    rw [if_pos ((p a ha).mpr qa)]
    by_cases qb : fl b = -1
    · rw [if_neg (fun z => (p b hb).mp z qb)]
      by_cases k1 : f b = 107
      · rw [if_pos k1, if_pos (Or.inr ⟨k1, qa⟩)]
      · rw [if_neg k1, if_neg (show ¬ ((f a = 107 ∧ ¬ fl b = -1) ∨ (f b = 107 ∧ ¬ fl a = -1)) from fun z => z.elim (fun y => y.2 qb) (fun y => k1 y.1)), if_neg (show ¬ (¬ fl a = -1 ∧ ¬ fl b = -1) from fun z => z.2 qb)]
        by_cases k2 : f b = 111
        · rw [if_pos k2, if_pos (Or.inl ⟨qa, k2⟩)]
        · rw [if_neg k2, if_neg (fun z => z.elim (fun y => k2 y.2) (fun y => y.1 qb))]
    · have mb := m b hb qb
      rw [if_pos ((p b hb).mpr qb), if_neg (fun z => z.elim (fun y => ma.1 y.1) (fun y => mb.1 y.1)), if_pos ⟨qa, qb⟩]
def dlt (h r b : Nat → Int32) (i k : Nat) : Int32 :=
  (if i % 12 < 11 then (if k = i + 1 then -((h (i + 1) - h i) * r i / 64) else if k = i then (h (i + 1) - h i) * r i / 64 else 0) else 0) +
  ((if i < 96 then (if k = i + 12 then -((h (i + 12) - h i) * b i / 64) else if k = i then (h (i + 12) - h i) * b i / 64 else 0) else 0) +
  ((if (i % 12 = 0 ∨ i % 12 = 11) ∧ k = i then flS h i else 0) + (if (i < 12 ∨ 96 ≤ i) ∧ k = i then flS h i else 0)))
theorem exS_k {h g : Nat → Int32} {a c k : Nat} {n : Int32} (hac : ¬ c = a) : exS h a c n g k = g k + (if k = c then -((h c - h a) * n / 64) else if k = a then (h c - h a) * n / 64 else 0) := by
  unfold exS
  by_cases q : k = c
  · subst q
    rw [upd_eq, upd_ne hac, if_pos rfl, Int32.sub_eq_add_neg]
  · rw [upd_ne q, if_neg q]
    by_cases q2 : k = a
    · subst q2; rw [upd_eq, if_pos rfl]
    · rw [upd_ne q2, if_neg q2, Int32.add_zero]
theorem psA_k {h r g : Nat → Int32} {i k : Nat} : psA h r i g k = g k + (if i % 12 < 11 then (if k = i + 1 then -((h (i + 1) - h i) * r i / 64) else if k = i then (h (i + 1) - h i) * r i / 64 else 0) else 0) := by
  unfold psA
  by_cases q : i % 12 < 11
  · rw [if_pos q, if_pos q]; exact exS_k (by omega)
  · rw [if_neg q, if_neg q, Int32.add_zero]
theorem psB_k {h b g : Nat → Int32} {i k : Nat} : psB h b i g k = g k + (if i < 96 then (if k = i + 12 then -((h (i + 12) - h i) * b i / 64) else if k = i then (h (i + 12) - h i) * b i / 64 else 0) else 0) := by
  unfold psB
  by_cases q : i < 96
  · rw [if_pos q, if_pos q]; exact exS_k (by omega)
  · rw [if_neg q, if_neg q, Int32.add_zero]
theorem psC_k {h g : Nat → Int32} {i k : Nat} : psC h i g k = g k + (if (i % 12 = 0 ∨ i % 12 = 11) ∧ k = i then flS h i else 0) := by
  unfold psC
  by_cases q : i % 12 = 0 ∨ i % 12 = 11
  · rw [if_pos q]
    by_cases q2 : k = i
    · subst q2; rw [upd_eq, if_pos ⟨q, rfl⟩]
    · rw [upd_ne q2, if_neg (fun z => q2 z.2), Int32.add_zero]
  · rw [if_neg q, if_neg (fun z => q z.1), Int32.add_zero]
theorem psD_k {h g : Nat → Int32} {i k : Nat} : psD h i g k = g k + (if (i < 12 ∨ 96 ≤ i) ∧ k = i then flS h i else 0) := by
  unfold psD
  by_cases q : i < 12 ∨ 96 ≤ i
  · rw [if_pos q]
    by_cases q2 : k = i
    · subst q2; rw [upd_eq, if_pos ⟨q, rfl⟩]
    · rw [upd_ne q2, if_neg (fun z => q2 z.2), Int32.add_zero]
  · rw [if_neg q, if_neg (fun z => q z.1), Int32.add_zero]
theorem gnS_k {h r b g0 : Nat → Int32} {i k : Nat} : gnS h r b g0 (i + 1) k = gnS h r b g0 i k + dlt h r b i k := by
  rw [gnS, psD_k, psC_k, psB_k, psA_k]
  unfold dlt
  ac_rfl
theorem gn_0 {h r b g0 : Nat → Int32} {k a : Nat} : ∀ d, (∀ i, a ≤ i → i < a + d → dlt h r b i k = 0) → gnS h r b g0 (a + d) k = gnS h r b g0 a k
  | 0, _ => rfl
  | d + 1, hz => by
    rw [show a + (d + 1) = (a + d) + 1 by omega, gnS_k, gn_0 d (fun i h1 h2 => hz i h1 (by omega)), hz (a + d) (by omega) (by omega), Int32.add_zero]
theorem dlt_0 {h r b : Nat → Int32} {i k : Nat} (h1 : ¬ k = i) (h2 : ¬ (k = i + 1 ∧ i % 12 < 11)) (h3 : ¬ (k = i + 12 ∧ i < 96)) : dlt h r b i k = 0 := by
  unfold dlt
  have e1 : (if i % 12 < 11 then (if k = i + 1 then -((h (i + 1) - h i) * r i / 64) else if k = i then (h (i + 1) - h i) * r i / 64 else 0) else 0) = 0 := by
    by_cases q : i % 12 < 11
    · rw [if_pos q, if_neg (fun z => h2 ⟨z, q⟩), if_neg h1]
    · rw [if_neg q]
  have e2 : (if i < 96 then (if k = i + 12 then -((h (i + 12) - h i) * b i / 64) else if k = i then (h (i + 12) - h i) * b i / 64 else 0) else 0) = 0 := by
    by_cases q : i < 96
    · rw [if_pos q, if_neg (fun z => h3 ⟨z, q⟩), if_neg h1]
    · rw [if_neg q]
  rw [e1, e2, if_neg (fun z => h1 z.2), if_neg (fun z => h1 z.2)]
  decide
theorem dlt_l {h r b : Nat → Int32} {i : Nat} (q : i % 12 < 11) : dlt h r b i (i + 1) = -((h (i + 1) - h i) * r i / 64) := by
  unfold dlt
  have e2 : (if i < 96 then (if i + 1 = i + 12 then -((h (i + 12) - h i) * b i / 64) else if i + 1 = i then (h (i + 12) - h i) * b i / 64 else 0) else 0) = 0 := by
    by_cases q : i < 96
    · rw [if_pos q, if_neg (by omega), if_neg (by omega)]
    · rw [if_neg q]
  rw [if_pos q, if_pos rfl, e2, if_neg (fun z => absurd z.2 (by omega)), if_neg (fun z => absurd z.2 (by omega)), Int32.add_zero, Int32.add_zero, Int32.add_zero]
theorem dlt_u {h r b : Nat → Int32} {i : Nat} (q : i < 96) : dlt h r b i (i + 12) = -((h (i + 12) - h i) * b i / 64) := by
  unfold dlt
  have e1 : (if i % 12 < 11 then (if i + 12 = i + 1 then -((h (i + 1) - h i) * r i / 64) else if i + 12 = i then (h (i + 1) - h i) * r i / 64 else 0) else 0) = 0 := by
    by_cases q : i % 12 < 11
    · rw [if_pos q, if_neg (by omega), if_neg (by omega)]
    · rw [if_neg q]
  rw [e1, if_pos q, if_pos rfl, if_neg (fun z => absurd z.2 (by omega)), if_neg (fun z => absurd z.2 (by omega)), Int32.add_zero, Int32.add_zero, Int32.zero_add]
theorem dlt_o {h r b : Nat → Int32} {i : Nat} : dlt h r b i i = (if i % 12 < 11 then (h (i + 1) - h i) * r i / 64 else 0) + ((if i < 96 then (h (i + 12) - h i) * b i / 64 else 0) + ((if i % 12 = 0 ∨ i % 12 = 11 then flS h i else 0) + (if i < 12 ∨ 96 ≤ i then flS h i else 0))) := by
  unfold dlt
  rw [if_neg (show ¬ i = i + 1 by omega), if_pos (rfl : i = i), if_neg (show ¬ i = i + 12 by omega), if_pos (rfl : i = i)]
  have e1 : (if (i % 12 = 0 ∨ i % 12 = 11) ∧ i = i then flS h i else 0) = (if i % 12 = 0 ∨ i % 12 = 11 then flS h i else 0) := z_ifc ⟨fun z => z.1, fun z => ⟨z, rfl⟩⟩ rfl rfl
  have e2 : (if (i < 12 ∨ 96 ≤ i) ∧ i = i then flS h i else 0) = (if i < 12 ∨ 96 ≤ i then flS h i else 0) := z_ifc ⟨fun z => z.1, fun z => ⟨z, rfl⟩⟩ rfl rfl
  rw [e1, e2]
theorem gn_up {h r b g0 : Nat → Int32} {k : Nat} (hk : k < 108) : gnS h r b g0 108 k = g0 k + (if 12 ≤ k then -((h k - h (k - 12)) * b (k - 12) / 64) else 0) + (if 0 < k % 12 then -((h k - h (k - 1)) * r (k - 1) / 64) else 0) + dlt h r b k k := by
  have c1 : gnS h r b g0 (k - 11) k = g0 k + (if 12 ≤ k then -((h k - h (k - 12)) * b (k - 12) / 64) else 0) := by
    by_cases q : 12 ≤ k
    · rw [if_pos q, show k - 11 = (k - 12) + 1 by omega, gnS_k]
      have e := gn_0 (h := h) (r := r) (b := b) (g0 := g0) (k := k) (a := 0) (k - 12) (fun i h1 h2 => dlt_0 (by omega) (by omega) (by omega))
      rw [Nat.zero_add] at e
      rw [e]
      have e2 := dlt_u (h := h) (r := r) (b := b) (i := k - 12) (by omega)
      rw [show k - 12 + 12 = k by omega] at e2
      rw [e2]
      rfl
    · rw [if_neg q, show k - 11 = 0 by omega, Int32.add_zero]
      rfl
  have c2 : gnS h r b g0 k k = g0 k + (if 12 ≤ k then -((h k - h (k - 12)) * b (k - 12) / 64) else 0) + (if 0 < k % 12 then -((h k - h (k - 1)) * r (k - 1) / 64) else 0) := by
    by_cases q : 0 < k % 12
    · rw [if_pos q, ← c1]
      have e := gn_0 (h := h) (r := r) (b := b) (g0 := g0) (k := k) (a := k - 11) (k - 1 - (k - 11)) (fun i h1 h2 => dlt_0 (by omega) (by omega) (by omega))
      rw [show k - 11 + (k - 1 - (k - 11)) = k - 1 by omega] at e
      have e3 := gnS_k (h := h) (r := r) (b := b) (g0 := g0) (i := k - 1) (k := k)
      rw [show k - 1 + 1 = k by omega] at e3
      have e2 := dlt_l (h := h) (r := r) (b := b) (i := k - 1) (by omega)
      rw [show k - 1 + 1 = k by omega] at e2
      rw [e3, e, e2]
    · rw [if_neg q, ← c1, Int32.add_zero]
      have e := gn_0 (h := h) (r := r) (b := b) (g0 := g0) (k := k) (a := k - 11) (k - (k - 11)) (fun i h1 h2 => dlt_0 (by omega) (by omega) (by omega))
      rw [show k - 11 + (k - (k - 11)) = k by omega] at e
      exact e
  have e := gn_0 (h := h) (r := r) (b := b) (g0 := g0) (k := k) (a := k + 1) (108 - (k + 1)) (fun i h1 h2 => dlt_0 (by omega) (by omega) (by omega))
  rw [show k + 1 + (108 - (k + 1)) = 108 by omega] at e
  rw [e, gnS_k, c2]
theorem to_k {ce fi f0 : Nat → Int32} {sd k : Nat} : ∀ n, (k < n → toS ce fi sd f0 n k = (bs k sd).elim 0 (fun j => pbS ce fi k j)) 
  | 0 => fun q => absurd q (Nat.not_lt_zero k)
  | n + 1 => fun q => by
    rw [toS]
    by_cases z : k = n
    · subst z; rw [upd_eq]
    · rw [upd_ne z]; exact to_k n (by omega)
theorem bs0 {k : Nat} : bs k 0 = if 12 ≤ k then some (k - 12) else none := rfl
theorem bs1 {k : Nat} : bs k 1 = if 0 < k % 12 then some (k - 1) else none := rfl
theorem bs2 {k : Nat} : bs k 2 = if k % 12 < 11 then some (k + 1) else none := rfl
theorem bs3 {k : Nat} : bs k 3 = if k < 96 then some (k + 12) else none := rfl
theorem gn_ga {f fl ce fi H he f5 f6 g0 : Nat → Int32} (hc : eqA ce f) (hf : eqA fl fi) (hv : vlA f fl) (hH : eqA H he) (hb : bdA he) {k : Nat} (hk : k < 108) : gnS H (toS ce fi 2 f5 108) (toS ce fi 3 f6 108) (fa_fill (fun _ => 0) g0 108) 108 k = gaM f fl he k 4 := by
  have tr : ∀ i, i < 108 → i % 12 < 11 → toS ce fi 2 f5 108 i = numM f fl i (i + 1) := fun i hi q => by
    rw [to_k 108 hi, bs2, if_pos q]
    exact pb_num hc hf hv hi (by omega)
  have tb : ∀ i, i < 96 → toS ce fi 3 f6 108 i = numM f fl i (i + 12) := fun i q => by
    rw [to_k 108 (by omega), bs3, if_pos q]
    exact pb_num hc hf hv (by omega) (by omega)
  rw [gn_up hk, dlt_o, fa_fill_in hk, Int32.zero_add, gaM_v, Int32.zero_add]
  have u0 : vM f fl he k 0 = if 12 ≤ k then -((H k - H (k - 12)) * toS ce fi 3 f6 108 (k - 12) / 64) else flS H k := by
    by_cases q : 12 ≤ k
    · rw [if_pos q, tb (k - 12) (by omega), show k - 12 + 12 = k by omega, hH k hk, hH (k - 12) (by omega), vM_s (show bs k 0 = some (k - 12) by rw [bs0, if_pos q]), numM_c (c := k) (o := k - 12)]
      exact ((fw_b (hb k hk) (hb (k - 12) (by omega)) numM_S).2.2).symm
    · rw [if_neg q, vM_n (show bs k 0 = none by rw [bs0, if_neg q])]
      unfold flS
      rw [hH k hk]
  have u1 : vM f fl he k 1 = if 0 < k % 12 then -((H k - H (k - 1)) * toS ce fi 2 f5 108 (k - 1) / 64) else flS H k := by
    by_cases q : 0 < k % 12
    · rw [if_pos q, tr (k - 1) (by omega) (by omega), show k - 1 + 1 = k by omega, hH k hk, hH (k - 1) (by omega), vM_s (show bs k 1 = some (k - 1) by rw [bs1, if_pos q]), numM_c (c := k) (o := k - 1)]
      exact ((fw_b (hb k hk) (hb (k - 1) (by omega)) numM_S).2.2).symm
    · rw [if_neg q, vM_n (show bs k 1 = none by rw [bs1, if_neg q])]
      unfold flS
      rw [hH k hk]
  have u2 : vM f fl he k 2 = if k % 12 < 11 then (H (k + 1) - H k) * toS ce fi 2 f5 108 k / 64 else flS H k := by
    by_cases q : k % 12 < 11
    · rw [if_pos q, tr k hk q, hH k hk, hH (k + 1) (by omega), vM_s (show bs k 2 = some (k + 1) by rw [bs2, if_pos q])]
    · rw [if_neg q, vM_n (show bs k 2 = none by rw [bs2, if_neg q])]
      unfold flS
      rw [hH k hk]
  have u3 : vM f fl he k 3 = if k < 96 then (H (k + 12) - H k) * toS ce fi 3 f6 108 k / 64 else flS H k := by
    by_cases q : k < 96
    · rw [if_pos q, tb k q, hH k hk, hH (k + 12) (by omega), vM_s (show bs k 3 = some (k + 12) by rw [bs3, if_pos q])]
    · rw [if_neg q, vM_n (show bs k 3 = none by rw [bs3, if_neg q])]
      unfold flS
      rw [hH k hk]
  rw [u0, u1, u2, u3]
  obtain ⟨a0, ha0⟩ : ∃ x, x = -((H k - H (k - 12)) * toS ce fi 3 f6 108 (k - 12) / 64) := ⟨_, rfl⟩
  obtain ⟨a1, ha1⟩ : ∃ x, x = -((H k - H (k - 1)) * toS ce fi 2 f5 108 (k - 1) / 64) := ⟨_, rfl⟩
  obtain ⟨a2, ha2⟩ : ∃ x, x = (H (k + 1) - H k) * toS ce fi 2 f5 108 k / 64 := ⟨_, rfl⟩
  obtain ⟨a3, ha3⟩ : ∃ x, x = (H (k + 12) - H k) * toS ce fi 3 f6 108 k / 64 := ⟨_, rfl⟩
  obtain ⟨w, hw⟩ : ∃ x, x = flS H k := ⟨_, rfl⟩
  rw [← ha0, ← ha1, ← ha2, ← ha3, ← hw]
  by_cases q0 : 12 ≤ k
  · rw [if_pos q0, if_pos q0]
    by_cases q3 : k < 96
    · rw [if_pos q3, if_pos q3, if_neg (show ¬ (k < 12 ∨ 96 ≤ k) by omega)]
      by_cases q1 : 0 < k % 12
      · rw [if_pos q1, if_pos q1]
        by_cases q2 : k % 12 < 11
        · rw [if_pos q2, if_pos q2, if_neg (by omega), Int32.add_zero, Int32.add_zero]; ac_rfl
        · rw [if_neg q2, if_neg q2, if_pos (by omega), Int32.add_zero, Int32.zero_add]; ac_rfl
      · rw [if_neg q1, if_neg q1, if_pos (show k % 12 < 11 by omega), if_pos (show k % 12 < 11 by omega), if_pos (by omega), Int32.add_zero, Int32.add_zero]; ac_rfl
    · rw [if_neg q3, if_neg q3, if_pos (show k < 12 ∨ 96 ≤ k by omega)]
      by_cases q1 : 0 < k % 12
      · rw [if_pos q1, if_pos q1]
        by_cases q2 : k % 12 < 11
        · rw [if_pos q2, if_pos q2, if_neg (by omega), Int32.zero_add, Int32.zero_add]; ac_rfl
        · rw [if_neg q2, if_neg q2, if_pos (by omega), Int32.zero_add, Int32.zero_add]; ac_rfl
      · rw [if_neg q1, if_neg q1, if_pos (show k % 12 < 11 by omega), if_pos (show k % 12 < 11 by omega), if_pos (by omega), Int32.add_zero, Int32.zero_add]; ac_rfl
  · rw [if_neg q0, if_neg q0, if_pos (show k < 96 by omega), if_pos (show k < 96 by omega), if_pos (show k < 12 ∨ 96 ≤ k by omega), Int32.zero_add]
    by_cases q1 : 0 < k % 12
    · rw [if_pos q1, if_pos q1]
      by_cases q2 : k % 12 < 11
      · rw [if_pos q2, if_pos q2, if_neg (by omega), Int32.zero_add]; ac_rfl
      · rw [if_neg q2, if_neg q2, if_pos (by omega), Int32.zero_add]; ac_rfl
    · rw [if_neg q1, if_neg q1, if_pos (show k % 12 < 11 by omega), if_pos (show k % 12 < 11 by omega), if_pos (by omega), Int32.zero_add]; ac_rfl
end
section
def lqN (fl fz : Nat → Int32) : Nat := fa_cnt (fun k => decide (¬ fl k = -1 ∧ fz k = 0)) 108
def fzV (fz : Nat → Int32) : Prop := ∀ k, k < 108 → ∃ t : Nat, t ≤ 400 ∧ fz k = nI t
theorem fzV_up {fz : Nat → Int32} {i t : Nat} (h : fzV fz) (ht : t ≤ 400) : fzV (upd fz i (nI t)) := fun k hk => by
  by_cases q : k = i
  · subst q; exact ⟨t, ht, upd_eq⟩
  · rw [upd_ne q]; exact h k hk
theorem frG_401 {fl fz : Nat → Int32} {k : Nat} (hz : fzV fz) (hk : k < 108) : frG fl fz k = 401 ↔ ¬ fl k = -1 ∧ fz k = 0 := by
  unfold frG
  by_cases q : fl k = -1
  · rw [if_pos q]; exact ⟨fun e => absurd e (by decide), fun e => absurd q e.1⟩
  · rw [if_neg q]
    by_cases q2 : fz k = 0
    · rw [if_pos q2]; exact ⟨fun _ => ⟨q, q2⟩, fun _ => rfl⟩
    · rw [if_neg q2]
      obtain ⟨t, ht, e⟩ := hz k hk
      refine ⟨fun e2 => ?_, fun e2 => absurd e2.2 q2⟩
      rw [e] at e2
      exact absurd (z_eqn (b := 401) (by omega) (by decide) e2) (by omega)
theorem lq_up {fl fz : Nat → Int32} {i t : Nat} (hi : i < 108) (h1 : ¬ fl i = -1) (h2 : fz i = 0) (ht : 1 ≤ t) (ht2 : t ≤ 400) : lqN fl (upd fz i (nI t)) + 1 = lqN fl fz := by
  have e := (cnt_at (p' := fun k => decide (¬ fl k = -1 ∧ fz k = 0)) (p := fun k => decide (¬ fl k = -1 ∧ upd fz i (nI t) k = 0)) (o := i) (fun k hk => by rw [upd_ne hk]) (decide_eq_false (fun q => by rw [upd_eq] at q; exact absurd (nI_z (by omega) q.2) (by omega))) 108).2 hi
  have e2 : (decide (¬ fl i = -1 ∧ fz i = 0)).toNat = 1 := by rw [decide_eq_true ⟨h1, h2⟩]; rfl
  unfold lqN
  rw [e, e2]
theorem lq_same {fl fz : Nat → Int32} {i : Nat} (h2 : fz i = 0) : upd fz i 0 = fz := funext fun k => by
  by_cases q : k = i
  · subst q; rw [upd_eq, h2]
  · rw [upd_ne q]
theorem upd_upd {f : Nat → Int32} {i : Nat} {v w : Int32} : upd (upd f i v) i w = upd f i w := funext fun k => by
  by_cases q : k = i
  · subst q; rw [upd_eq, upd_eq]
  · rw [upd_ne q, upd_ne q, upd_ne q]
def rfI (fl he0 : Nat → Int32) (S : zS4) (R : zMs) (i : Nat) : Prop :=
  (∀ k, k < 108 → S.1 k = R.1 k) ∧ (∀ k, k < 108 → S.2.1 k = R.2.1 k) ∧ (∀ k, k < 108 → S.2.2.1 k = frG fl R.2.2.1 k) ∧ S.2.2.2 = nI (lqN fl R.2.2.1) ∧ fzV R.2.2.1 ∧ (∀ k, i ≤ k → R.1 k = he0 k) ∧ (R.2.2.2 = 0 ↔ ∀ k, k < i → ¬ (¬ fl k = -1 ∧ R.2.2.1 k = 0)) ∧ bdA R.1
theorem lfM_i {fl fz : Nat → Int32} {i : Nat} {z lf : Int32} (hz : fz i = z) (h : lf = 0 ↔ ∀ k, k < i → ¬ (¬ fl k = -1 ∧ fz k = 0)) : lfM fl i z lf = 0 ↔ ∀ k, k < i + 1 → ¬ (¬ fl k = -1 ∧ fz k = 0) := by
  unfold lfM
  by_cases q : lf = 0
  · rw [if_neg (fun y => y q)]
    by_cases q2 : ¬ fl i = -1 ∧ z = 0
    · rw [if_pos q2]
      exact ⟨fun y => absurd y (by decide), fun y => absurd ⟨q2.1, hz.trans q2.2⟩ (y i (Nat.lt_succ_self i))⟩
    · rw [if_neg q2]
      refine ⟨fun _ k hk => ?_, fun _ => rfl⟩
      rcases Nat.lt_or_ge k i with y | y
      · exact h.mp q k y
      · rw [show k = i by omega, hz]; exact q2
  · rw [if_pos q]
    exact ⟨fun y => absurd y (by decide), fun y => absurd (h.mpr (fun k hk => y k (by omega))) q⟩
theorem fz_other {fl fz : Nat → Int32} {i n : Nat} {v : Int32} (hn : n ≤ i) : (∀ k, k < n → ¬ (¬ fl k = -1 ∧ upd fz i v k = 0)) ↔ ∀ k, k < n → ¬ (¬ fl k = -1 ∧ fz k = 0) := by
  constructor
  · intro h k hk; have := h k hk; rw [upd_ne (by omega)] at this; exact this
  · intro h k hk; rw [upd_ne (by omega)]; exact h k hk
theorem rf_step {fl he0 nx gn : Nat → Int32} {t i : Nat} {S : zS4} {R : zMs} (hi : i < 108) (ht : 1 ≤ t) (ht2 : t ≤ 400) (h : rfI fl he0 S R i) (hn : nx i = he0 i + gn i) (hb : bd1 (nx i)) : rfI fl he0 (bhS i (S.1 i + gn i) (nI t) S) (fsM1 fl nx (nI t) i R) (i + 1) := by
  obtain ⟨r1, r2, r3, r4, r5, r6, r7, r8⟩ := h
  have e0 : S.1 i + gn i = nx i := by rw [r1 i hi, r6 i (Nat.le_refl _), hn]
  rw [e0]
  have eA : (¬ S.2.2.1 i = 401 ∨ ¬ nx i < 1150) ↔ ¬ (¬ fl i = -1 ∧ R.2.2.1 i = 0 ∧ nx i < 1150) := by
    rw [r3 i hi, frG_401 r5 hi]
    constructor
    · intro y z; exact y.elim (fun y => y ⟨z.1, z.2.1⟩) (fun y => y z.2.2)
    · intro y
      by_cases q : nx i < 1150
      · exact Or.inl (fun z => y ⟨z.1, z.2, q⟩)
      · exact Or.inr q
  have b1150 : bd1 1150 := ⟨by decide, by decide⟩
  have hbu : ∀ v, bd1 v → bdA (upd R.1 i v) := fun v hv k hk => by
    by_cases q : k = i
    · subst q; rw [upd_eq]; exact hv
    · rw [upd_ne q]; exact r8 k hk
  have hh : ∀ v k, k < 108 → upd S.1 i v k = upd R.1 i v k := fun v => eq_up r1
  have hk6 : ∀ v k, i + 1 ≤ k → upd R.1 i v k = he0 k := fun v k hk => by rw [upd_ne (by omega)]; exact r6 k (by omega)
  unfold bhS fsM1
  by_cases qA : ¬ fl i = -1 ∧ R.2.2.1 i = 0 ∧ nx i < 1150
  · rw [if_neg (fun z => eA.mp z qA), if_pos qA, upd_upd, ← r2 i hi]
    by_cases qB : 0 < S.2.1 i - (1150 - nx i)
    · rw [if_pos qB, if_pos qB, lq_same (fl := fl) qA.2.1]
      exact ⟨hh 1150, fun k hk => by rw [r2 i hi]; exact eq_up r2 k hk, r3, r4, r5, hk6 1150, lfM_i qA.2.1 r7, hbu _ b1150⟩
    · rw [if_neg qB, if_neg qB]
      refine ⟨hh 1150, fun k hk => by rw [r2 i hi]; exact eq_up r2 k hk, fun k hk => ?_, ?_, fzV_up r5 ht2, hk6 1150, lfM_i upd_eq (r7.trans (fz_other (Nat.le_refl _)).symm), hbu _ b1150⟩
      · show upd S.2.2.1 i (nI t) k = frG fl (upd R.2.2.1 i (nI t)) k
        by_cases q : k = i
        · subst q
          unfold frG
          rw [upd_eq, if_neg qA.1, upd_eq, if_neg (fun z => absurd (nI_z (by omega) z) (by omega))]
        · rw [upd_ne q, r3 k hk]
          unfold frG
          rw [upd_ne q]
      · show S.2.2.2 - 1 = nI (lqN fl (upd R.2.2.1 i (nI t)))
        have := lq_up hi qA.1 qA.2.1 ht ht2
        rw [r4, ← this]
        exact nI_sub1 (p := lqN fl (upd R.2.2.1 i (nI t)) + 1) (Nat.succ_le_succ (Nat.zero_le _))
  · rw [if_pos (eA.mpr qA), if_neg qA]
    exact ⟨hh _, r2, r3, r4, r5, hk6 _, lfM_i rfl r7, hbu _ hb⟩
theorem rf_loop {fl he0 nx gn : Nat → Int32} {t : Nat} {S : zS4} {R : zMs} (ht : 1 ≤ t) (ht2 : t ≤ 400) (h : rfI fl he0 S R 0) (hn : ∀ k, k < 108 → nx k = he0 k + gn k ∧ bd1 (nx k)) : ∀ i, i ≤ 108 → rfI fl he0 (stS gn (nI t) S i) (fsM fl nx (nI t) R i) i
  | 0, _ => h
  | i + 1, hi => rf_step (by omega) ht ht2 (rf_loop ht ht2 h hn i (by omega)) (hn i (by omega)).1 (hn i (by omega)).2
def rfQ (fl : Nat → Int32) (S : zS4) (R : zMs) : Prop := (∀ k, k < 108 → S.1 k = R.1 k) ∧ (∀ k, k < 108 → S.2.1 k = R.2.1 k) ∧ (∀ k, k < 108 → S.2.2.1 k = frG fl R.2.2.1 k) ∧ S.2.2.2 = nI (lqN fl R.2.2.1) ∧ fzV R.2.2.1 ∧ bdA R.1 ∧ (R.2.2.2 = 0 ↔ lqN fl R.2.2.1 = 0)
theorem lq_0 {fl fz : Nat → Int32} : (∀ k, k < 108 → ¬ (¬ fl k = -1 ∧ fz k = 0)) ↔ lqN fl fz = 0 := by
  constructor
  · intro h
    have key : ∀ n, n ≤ 108 → fa_cnt (fun k => decide (¬ fl k = -1 ∧ fz k = 0)) n = 0 := fun n => by
      induction n with
      | zero => exact fun _ => rfl
      | succ n ih => exact fun hn => by rw [fa_cnt_no (p := fun k => decide (¬ fl k = -1 ∧ fz k = 0)) (decide_eq_false (h n (by omega)))]; exact ih (by omega)
    exact key 108 (Nat.le_refl _)
  · intro h k hk
    exact of_decide_eq_false (cnt_0 (p := fun k => decide (¬ fl k = -1 ∧ fz k = 0)) 108 h k hk)
theorem rf_pass {f fl ce fi f5 f6 : Nat → Int32} {Q : zS5} {R : zFz} {t : Nat} (hc : eqA ce f) (hf : eqA fl fi) (hv : vlA f fl) (ht : 1 ≤ t) (ht2 : t ≤ 400) (h : rfQ fl Q.1 R.1) : rfQ fl (psT (toS ce fi 2 f5 108) (toS ce fi 3 f6 108) (nI t) Q).1 (fzP f fl (nI t) R).1 := by
  obtain ⟨r1, r2, r3, r4, r5, r6, r7⟩ := h
  have h0 : rfI fl R.1.1 Q.1 (R.1.1, R.1.2.1, R.1.2.2.1, 0) 0 := ⟨r1, r2, r3, r4, r5, fun _ _ => rfl, ⟨fun _ k hk => absurd hk (Nat.not_lt_zero k), fun _ => rfl⟩, r6⟩
  have hn : ∀ k, k < 108 → fnM f fl R k = R.1.1 k + psG (toS ce fi 2 f5 108) (toS ce fi 3 f6 108) Q k ∧ bd1 (fnM f fl R k) := fun k hk => by
    have e1 : fnM f fl R k = R.1.1 k + gaM f fl R.1.1 k 4 := fa_fill_in hk
    have e2 : psG (toS ce fi 2 f5 108) (toS ce fi 3 f6 108) Q k = gaM f fl R.1.1 k 4 := gn_ga hc hf hv r1 r6 hk
    rw [e1, e2]
    exact ⟨rfl, ga_bd r6 hk⟩
  obtain ⟨s1, s2, s3, s4, s5, -, s7, s8⟩ := rf_loop ht ht2 h0 hn 108 (Nat.le_refl _)
  have eP : (psT (toS ce fi 2 f5 108) (toS ce fi 3 f6 108) (nI t) Q).1 = stS (psG (toS ce fi 2 f5 108) (toS ce fi 3 f6 108) Q) (nI t) Q.1 108 := by
    unfold psT
    dsimp only
  rw [fzP_1, eP]
  exact ⟨s1, s2, s3, s4, s5, s8, s7.trans lq_0⟩
theorem rf_run {f fl ce fi f5 f6 : Nat → Int32} {Q : zS5} {R : zFz} (hc : eqA ce f) (hf : eqA fl fi) (hv : vlA f fl) (h : rfQ fl Q.1 R.1) : ∀ t, t ≤ 400 → rfQ fl (pzS (toS ce fi 2 f5 108) (toS ce fi 3 f6 108) Q t).1 (fzR f fl R t).1
  | 0, _ => h
  | t + 1, ht => by
    have ih := rf_run (f5 := f5) (f6 := f6) hc hf hv h t (by omega)
    have hl : lqN fl (fzR f fl R t).1.2.2.1 ≤ 108 := fa_cnt_le _ 108
    by_cases q : (fzR f fl R t).1.2.2.2 = 0
    · have e : ¬ 0 < (pzS (toS ce fi 2 f5 108) (toS ce fi 3 f6 108) Q t).1.2.2.2 := by
        rw [ih.2.2.2.1, ih.2.2.2.2.2.2.mp q]; decide
      rw [show fzR f fl R (t + 1) = fzR f fl R t from if_pos q, show pzS (toS ce fi 2 f5 108) (toS ce fi 3 f6 108) Q (t + 1) = pzS (toS ce fi 2 f5 108) (toS ce fi 3 f6 108) Q t from if_neg e]
      exact ih
    · have e : 0 < (pzS (toS ce fi 2 f5 108) (toS ce fi 3 f6 108) Q t).1.2.2.2 := by
        rw [ih.2.2.2.1]
        exact (nI_ltI (a := 0) (by decide) (by omega)).mpr (by have : ¬ lqN fl (fzR f fl R t).1.2.2.1 = 0 := fun z => q (ih.2.2.2.2.2.2.mpr z); omega)
      rw [fzR_n q, pz_n e]
      exact rf_pass hc hf hv (by omega) ht ih
theorem bg_k {ce fi : Nat → Int32} {h : Int32} {s0 : zS4} (hh : ∀ k, k < 108 → ¬ fi k < 0 → ¬ z_hwf h (fi k) < 1150) : ∀ i, i ≤ 108 → (∀ k, k < i → (bgS ce fi h s0 i).1 k = (if fi k < 0 then 20 else z_hwf h (fi k)) ∧ (bgS ce fi h s0 i).2.1 k = 300 ∧ (bgS ce fi h s0 i).2.2.1 k = (if fi k < 0 then -1 else 401)) ∧ (bgS ce fi h s0 i).2.2.2 = nI (fa_cnt (fun k => decide (¬ fi k < 0)) i)
  | 0, _ => ⟨fun k hk => absurd hk (Nat.not_lt_zero k), rfl⟩
  | i + 1, hi => by
    have ih := bg_k (ce := ce) (s0 := s0) hh i (by omega)
    by_cases q : fi i < 0
    · rw [bgS_t q, fa_cnt_no (p := fun k => decide (¬ fi k < 0)) (decide_eq_false (fun y => y q))]
      refine ⟨fun k hk => ?_, ih.2⟩
      by_cases z : k = i
      · subst z
        exact ⟨by rw [if_pos q]; exact upd_eq, upd_eq, by rw [if_pos q]; exact upd_eq⟩
      · have := ih.1 k (by omega)
        exact ⟨(upd_ne z).trans this.1, (upd_ne z).trans this.2.1, (upd_ne z).trans this.2.2⟩
    · have e : bhS i (z_hwf h (fi i)) 0 ((bgS ce fi h s0 i).1, upd (bgS ce fi h s0 i).2.1 i 300, upd (bgS ce fi h s0 i).2.2.1 i 401, (bgS ce fi h s0 i).2.2.2 + 1) = (upd (bgS ce fi h s0 i).1 i (z_hwf h (fi i)), upd (bgS ce fi h s0 i).2.1 i 300, upd (bgS ce fi h s0 i).2.2.1 i 401, (bgS ce fi h s0 i).2.2.2 + 1) := by
        unfold bhS
        exact if_pos (Or.inr (hh i (by omega) q))
      rw [bgS_f q, e, fa_cnt_yes (p := fun k => decide (¬ fi k < 0)) (decide_eq_true q)]
      refine ⟨fun k hk => ?_, ?_⟩
      · by_cases z : k = i
        · subst z
          exact ⟨by rw [if_neg q]; exact upd_eq, upd_eq, by rw [if_neg q]; exact upd_eq⟩
        · have := ih.1 k (by omega)
          exact ⟨(upd_ne z).trans this.1, (upd_ne z).trans this.2.1, (upd_ne z).trans this.2.2⟩
      · show (bgS ce fi h s0 i).2.2.2 + 1 = _
        rw [ih.2]
        exact nI_add _ _
theorem rf_begin {f fl ce fi he mt fz nx F1 F2 F3 F4 : Nat → Int32} {h lf liq : Int32} (hf : eqA fl fi) (hv : vlA f fl) (hh : ∀ k, k < 108 → ¬ fi k < 0 → ¬ z_hwf h (fi k) < 1150) (h15 : h.toInt ≤ 1500) (h0 : 1000 ≤ h.toInt) (hne : ¬ fa_cnt (fun k => decide (¬ fi k < 0)) 108 = 0) (hlf : lf = 1) : rfQ fl (bgQ ce fi h F1 F2 F3 F4 liq).1 (begM fl he mt fz nx h lf).1 := by
  have b := bg_k (ce := ce) (s0 := (F1, F3, F4, liq)) hh 108 (Nat.le_refl _)
  have p : ∀ k, k < 108 → (fi k < 0 ↔ fl k = -1) := fun k hk => by rw [← hf k hk]; exact vl_neg hv hk
  have e1 : ∀ k, k < 108 → (begM fl he mt fz nx h lf).1.1 k = if fl k = -1 then 20 else h - 2 * fl k := fun k hk => fa_fill_in hk
  have e2 : ∀ k, k < 108 → (begM fl he mt fz nx h lf).1.2.1 k = 300 := fun k hk => fa_fill_in (f := fun _ => 300) hk
  have e3 : ∀ k, k < 108 → (begM fl he mt fz nx h lf).1.2.2.1 k = 0 := fun k hk => fa_fill_in (f := fun _ => 0) hk
  have el : lqN fl (begM fl he mt fz nx h lf).1.2.2.1 = fa_cnt (fun k => decide (¬ fi k < 0)) 108 := fa_cnt_cong (fun k hk => decide_eq_decide.mpr (by rw [e3 k hk, p k hk]; exact ⟨fun y => y.1, fun y => ⟨y, rfl⟩⟩))
  refine ⟨fun k hk => ?_, fun k hk => ?_, fun k hk => ?_, ?_, fun k hk => ⟨0, by omega, e3 k hk⟩, fun k hk => ?_, ?_⟩
  · rw [e1 k hk]
    refine ((b.1 k hk).1).trans ?_
    unfold z_hwf
    rw [hf k hk]
    exact z_ifc (by rw [← hf k hk]; exact vl_neg hv hk) rfl rfl
  · rw [e2 k hk]; exact (b.1 k hk).2.1
  · refine ((b.1 k hk).2.2).trans ?_
    unfold frG
    rw [e3 k hk, if_pos (rfl : (0 : Int32) = 0)]
    exact z_ifc (p k hk) rfl rfl
  · rw [el]; exact b.2
  · rw [e1 k hk]
    by_cases q : fl k = -1
    · rw [if_pos q]; exact bd_20
    · rw [if_neg q]
      have hk2 := hh k hk (fun z => q ((p k hk).mp z))
      unfold z_hwf at hk2
      rw [← hf k hk, Int32.not_lt, fa_le] at hk2
      rcases hv k hk with e | ⟨-, t, ht, e⟩
      · exact absurd e q
      · have e5 : (1150 : Int32).toInt = 1150 := by decide
        rw [e5] at hk2
        refine ⟨by omega, ?_⟩
        have en : (nI t).toInt = (t : Int) := nI_toInt (by omega)
        have e6 : (2 * fl k).toInt = 2 * (t : Int) := by
          rw [e, Int32.toInt_mul, en, show (2 : Int32).toInt = 2 by decide]
          exact bm32 (by omega) (by omega)
        rw [Int32.toInt_sub, e6, bm32 (by omega) (by omega)]
        omega
  · rw [el, hlf]
    exact ⟨fun y => absurd y (show ¬ (1 : Int32) = 0 by decide), fun y => absurd y hne⟩
end
section
def dE (S R : zD) : Prop := (∀ k, k < 108 → S.1 k = R.1 k) ∧ (∀ j, j < S.2.2.1 → S.2.1 j = R.2.1 j) ∧ S.2.2.1 = R.2.2.1 ∧ S.2.2.2 = R.2.2.2
theorem dA_E {ce f fi fl a b : Nat → Int32} {qa qb : Nat → Nat} (hce : eqA ce f) (hf : eqA fi fl) : ∀ i, i ≤ 108 → (∀ k, k < i → (fdA ce fi (a, qa, 0, 0) i).1 k = (fdA f fl (b, qb, 0, 0) i).1 k) ∧ (∀ j, j < (fdA ce fi (a, qa, 0, 0) i).2.2.1 → (fdA ce fi (a, qa, 0, 0) i).2.1 j = (fdA f fl (b, qb, 0, 0) i).2.1 j) ∧ (fdA ce fi (a, qa, 0, 0) i).2.2.1 = (fdA f fl (b, qb, 0, 0) i).2.2.1 ∧ (fdA ce fi (a, qa, 0, 0) i).2.2.2 = (fdA f fl (b, qb, 0, 0) i).2.2.2
  | 0, _ => ⟨fun k hk => absurd hk (Nat.not_lt_zero k), fun j hj => absurd hj (Nat.not_lt_zero j), rfl, rfl⟩
  | i + 1, hi => by
    obtain ⟨h1, h2, h3, h4⟩ := dA_E (a := a) (b := b) (qa := qa) (qb := qb) hce hf i (by omega)
    by_cases q : ce i = 114 ∧ ¬ fi i < 0
    · have q' : f i = 114 ∧ ¬ fl i < 0 := by rw [← hce i (by omega), ← hf i (by omega)]; exact q
      rw [fdA_t q, fdA_t q']
      refine ⟨fun k hk => ?_, fun j hj => ?_, congrArg (· + 1) h3, congrArg (· + 10) h4⟩
      · show upd _ i 1 k = upd _ i 1 k
        by_cases z : k = i
        · rw [z, upd_eq, upd_eq]
        · rw [upd_ne z, upd_ne z]; exact h1 k (by omega)
      · show updN _ _ i j = updN _ _ i j
        rw [← h3]
        by_cases z : j = (fdA ce fi (a, qa, 0, 0) i).2.2.1
        · rw [z, updN_eq, updN_eq]
        · rw [updN_ne z, updN_ne z]; exact h2 j (by have : j < (fdA ce fi (a, qa, 0, 0) i).2.2.1 + 1 := hj; omega)
    · have q' : ¬ (f i = 114 ∧ ¬ fl i < 0) := by rw [← hce i (by omega), ← hf i (by omega)]; exact q
      rw [fdA_f q, fdA_f q']
      refine ⟨fun k hk => ?_, h2, h3, h4⟩
      show upd _ i 0 k = upd _ i 0 k
      by_cases z : k = i
      · rw [z, upd_eq, upd_eq]
      · rw [upd_ne z, upd_ne z]; exact h1 k (by omega)
theorem cf_E {fed fed2 fi fl fr fq : Nat → Int32} {here o : Nat} (hh : here < 108) (ho : o < 108) (h1 : fed o = fed2 o) (hf : eqA fi fl) (hr : eqA fr fq) : cfB fed fi fr here o = cfB fed2 fl fq here o := by
  unfold cfB
  rw [h1, hf o ho, hr here hh, hr o ho]
theorem dE_put {S R : zD} {o : Nat} {l l2 : Int32} (h : dE S R) (hl : l = l2) : dE (upd S.1 o 1, updN S.2.1 S.2.2.1 o, S.2.2.1 + 1, l) (upd R.1 o 1, updN R.2.1 R.2.2.1 o, R.2.2.1 + 1, l2) := by
  obtain ⟨h1, h2, h3, h4⟩ := h
  refine ⟨eq_up h1, fun j hj => ?_, congrArg (· + 1) h3, hl⟩
  show updN S.2.1 S.2.2.1 o j = updN R.2.1 R.2.2.1 o j
  rw [← h3]
  by_cases z : j = S.2.2.1
  · rw [z, updN_eq, updN_eq]
  · rw [updN_ne z, updN_ne z]; exact h2 j (by have : j < S.2.2.1 + 1 := hj; omega)
theorem dI_E {ce f fi fl fr fq : Nat → Int32} {here s : Nat} {S R : zD} (hce : eqA ce f) (hf : eqA fi fl) (hr : eqA fr fq) (hh : here < 108) (h : dE S R) : dE (fdI ce fi fr here s S) (fdI f fl fq here s R) := by
  cases e : bs here s with
  | none => rw [fdI_n e, fdI_n e]; exact h
  | some o =>
    have ho := bs_lt hh e
    have ec := cf_E (here := here) hh ho (h.1 o ho) hf hr
    rw [fdI_s e, fdI_s e]
    by_cases q : cfB S.1 fi fr here o = true ∧ S.2.2.1 < 108
    · have q' : cfB R.1 fl fq here o = true ∧ R.2.2.1 < 108 := by rw [← ec, ← h.2.2.1]; exact q
      by_cases q2 : ce o = 99
      · have q2' : f o = 99 := by rw [← hce o ho]; exact q2
        by_cases q3 : S.2.2.2 = 0
        · rw [fdJ_1 q q2 q3, fdJ_1 q' q2' (by rw [← h.2.2.2]; exact q3)]; exact h
        · rw [fdJ_2 q q2 q3, fdJ_2 q' q2' (by rw [← h.2.2.2]; exact q3)]; exact dE_put h (by rw [h.2.2.2])
      · rw [fdJ_3 q q2, fdJ_3 q' (by rw [← hce o ho]; exact q2)]; exact dE_put h h.2.2.2
    · rw [fdJ_0 q, fdJ_0 (by rw [← ec, ← h.2.2.1]; exact q)]; exact h
theorem dH_E {ce f fi fl fr fq : Nat → Int32} {here : Nat} {S R : zD} (hce : eqA ce f) (hf : eqA fi fl) (hr : eqA fr fq) (hh : here < 108) (h : dE S R) : ∀ s, dE (fdH ce fi fr here S s) (fdH f fl fq here R s)
  | 0 => h
  | s + 1 => dI_E hce hf hr hh (dH_E hce hf hr hh h s)
theorem dB_E {ce f fi fl fr fq : Nat → Int32} {S R : zD} (hce : eqA ce f) (hf : eqA fi fl) (hr : eqA fr fq) (hk : Dok S 108) (h : dE S R) : ∀ n, dE (fdB ce fi fr S n) (fdB f fl fq R n)
  | 0 => h
  | n + 1 => by
    have ih := dB_E hce hf hr hk h n
    by_cases q : n < (fdB ce fi fr S n).2.2.1
    · rw [fdB_t q, fdB_t (by rw [← ih.2.2.1]; exact q), ← ih.2.1 n q]
      exact dH_E hce hf hr ((fdB_ok hk n).2 n q) ih 4
    · rw [fdB, if_neg q, fdB, if_neg (by rw [← ih.2.2.1]; exact q)]; exact ih
theorem sc_E {ce f fi fl a b : Nat → Int32} (hce : eqA ce f) (hf : eqA fi fl) (h : ∀ k, k < 108 → a k = b k) : fa_cnt (scP ce fi a) 108 = fa_cnt (scP f fl b) 108 := fa_cnt_cong (fun k hk => by unfold scP; rw [hce k hk, hf k hk, h k hk])
theorem an_E {p q : Nat → Bool} : ∀ n, (∀ k, k < n → p k = q k) → anB p n = anB q n
  | 0, _ => rfl
  | n + 1, h => by rw [anB, anB, an_E n (fun k hk => h k (by omega)), h n (Nat.lt_succ_self n)]
theorem an_all {p : Nat → Bool} {n : Nat} (h : anB p n = false) : ∀ k, k < n → p k = false := fun k hk => Bool.eq_false_iff.mpr (fun e => by rw [anB_hit hk e] at h; cases h)
theorem ic_E {ce f fi fl : Nat → Int32} {h : Int32} (hce : eqA ce f) (hf : eqA fi fl) : anB (icP ce fi h) 108 = anB (icP f fl h) 108 := an_E 108 (fun k hk => by unfold icP; rw [hce k hk, hf k hk])
def rFR (f fl he mt fz nx : Nat → Int32) (h : Int32) : Nat → Int32 := fa_fill (frG (flC f fl) (frM f (flC f fl) he mt fz nx h).1.2.2.1) (frM f (flC f fl) he mt fz nx h).1.2.2.1 108
def rFD (f fl he mt fz nx ic : Nat → Int32) (qn : Nat → Nat) (h : Int32) : zD := fdB f (flC f fl) (rFR f fl he mt fz nx h) (fdA f (flC f fl) (ic, qn, 0, 0) 108) 108
theorem shr_E {f fl he mt fz nx ic : Nat → Int32} {qn : Nat → Nat} {h : Int32} {X : zTr} (hce : eqA X.1.1 f) (hrun : X.1.2.2.1 = 0) (hgt : ¬ fa_cnt (fun k => decide (f k = 103)) 12 = 0) (h15 : h.toInt ≤ 1500) (h0 : 1000 ≤ h.toInt) (hcold : anB (icP X.1.1 (flP X.1.1 X.1.2.1 X.1.2.2.1) h) 108 = false) : shN (frN h X) = fa_cnt (scP f (flC f fl) (rFD f fl he mt fz nx ic qn h).1) 108 := by
  have hfr := fill_rel hce fl X.1.2.1
  have eK : flP X.1.1 X.1.2.1 X.1.2.2.1 = flK X.1.1 X.1.2.1 := by rw [hrun]; rfl
  rw [eK] at hcold
  have hf : eqA (flK X.1.1 X.1.2.1) (flC f fl) := fun k hk => (hfr.1 k hk).symm
  have hvF : vlA f (flC f fl) := vl_C f fl
  have hw : ∀ k, k < 108 → tmB (f k) = true → ¬ flK X.1.1 X.1.2.1 k < 0 ∧ ¬ z_hwf h (flK X.1.1 X.1.2.1 k) < 1200 := fun k hk hm => by
    have e := an_all hcold k hk
    unfold icP at e
    rw [hce k hk, hm, Bool.true_and] at e
    rcases (Bool.or_eq_false_iff).mp e with ⟨e1, e2⟩
    exact ⟨of_decide_eq_false e1, of_decide_eq_false e2⟩
  have hh : ∀ k, k < 108 → ¬ flK X.1.1 X.1.2.1 k < 0 → ¬ z_hwf h (flK X.1.1 X.1.2.1 k) < 1150 := fun k hk hn hlt => by
    rcases hfr.2 k hk with e | ⟨e, -⟩
    · exact hn (by rw [e]; decide)
    · exact (hw k hk e).2 (Int32.lt_of_lt_of_le hlt (by decide))
  have hne : ¬ fa_cnt (fun k => decide (¬ flK X.1.1 X.1.2.1 k < 0)) 108 = 0 := fun z => hgt (by
    have key : ∀ n, n ≤ 12 → fa_cnt (fun k => decide (f k = 103)) n = 0 := fun n => by
      induction n with
      | zero => exact fun _ => rfl
      | succ n ih =>
        intro hn
        rw [fa_cnt_no (p := fun k => decide (f k = 103)) (decide_eq_false (fun e => ?_))]
        · exact ih (by omega)
        · have := cnt_0 (p := fun k => decide (¬ flK X.1.1 X.1.2.1 k < 0)) 108 z n (by omega)
          exact of_decide_eq_false this ((hw n (by omega) (by rw [e]; decide)).1)
    exact key 12 (Nat.le_refl _))
  have hb := rf_begin (f := f) (fl := flC f fl) (ce := X.1.1) (fi := flK X.1.1 X.1.2.1) (he := he) (mt := mt) (fz := fz) (nx := nx) (F1 := X.2.1.1.1.1) (F2 := X.2.1.1.2) (F3 := X.2.1.1.1.2.1) (F4 := X.2.1.1.1.2.2.1) (liq := X.2.1.1.1.2.2.2) (lf := 1) hfr.1 hvF hh h15 h0 hne rfl
  have hr := rf_run (f5 := X.2.1.2.1) (f6 := X.2.1.2.2) hce hfr.1 hvF hb 400 (Nat.le_refl _)
  have hfz : eqA (pzS (toS X.1.1 (flK X.1.1 X.1.2.1) 2 X.2.1.2.1 108) (toS X.1.1 (flK X.1.1 X.1.2.1) 3 X.2.1.2.2 108) (bgQ X.1.1 (flK X.1.1 X.1.2.1) h X.2.1.1.1.1 X.2.1.1.2 X.2.1.1.1.2.1 X.2.1.1.1.2.2.1 X.2.1.1.1.2.2.2) 400).1.2.2.1 (rFR f fl he mt fz nx h) := fun k hk => by
    unfold rFR frM
    rw [fa_fill_in hk]
    exact hr.2.2.1 k hk
  have hA := dA_E (a := X.2.2.1) (b := ic) (qa := X.2.2.2.2) (qb := qn) hce hf 108 (Nat.le_refl _)
  have hB := dB_E hce hf hfz (fdA_ok (ce := X.1.1) (fi := flK X.1.1 X.1.2.1) (S0 := (X.2.2.1, X.2.2.2.2, 0, 0)) rfl 108 (Nat.le_refl _)) hA 108
  unfold shN frN rFD
  dsimp only
  rw [eK]
  exact sc_E hce hf hB.1
end
