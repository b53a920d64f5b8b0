def eqA (a b : Nat → Int32) : Prop := ∀ k, k < 108 → a k = b k
def vlA (f a : Nat → Int32) : Prop := ∀ k, k < 108 → a k = -1 ∨ (tmB (f k) = true ∧ ∃ t : Nat, t ≤ 109 ∧ a k = nI t)
theorem vl_neg {f a : Nat → Int32} {k : Nat} (h : vlA f a) (hk : k < 108) : a k < 0 ↔ a k = -1 := by
  rcases h k hk with e | ⟨-, t, ht, e⟩
  · rw [e]; exact ⟨fun _ => rfl, fun _ => by decide⟩
  · rw [e]; exact ⟨fun q => absurd q (nI_nneg (by omega)), fun q => absurd q (nI_nm1 (by omega))⟩
theorem eq_up {a b : Nat → Int32} {c : Nat} {v : Int32} (h : eqA a b) : eqA (upd a c v) (upd b c v) := fun k hk => by
  by_cases q : k = c
  · subst q; rw [show upd a k v k = v from if_pos rfl, show upd b k v k = v from if_pos rfl]
  · rw [show upd a c v k = a k from if_neg q, show upd b c v k = b k from if_neg q]; exact h k hk
theorem vl_up {f a : Nat → Int32} {c t : Nat} (h : vlA f a) (hm : tmB (f c) = true) (ht : t ≤ 109) : vlA f (upd a c (nI t)) := fun k hk => by
  by_cases q : k = c
  · subst q; exact Or.inr ⟨hm, t, ht, if_pos rfl⟩
  · rw [show upd a c (nI t) k = a k from if_neg q]; exact h k hk
theorem bf_can {f a b : Nat → Int32} {c : Nat} {st : Int32} (he : eqA a b) (hv : vlA f b) (hc : c < 108) : ∀ s, canS a c st s = bfB b c st s
  | 0 => rfl
  | s + 1 => by
    have ih := bf_can (st := st) he hv hc s
    rw [canS, bfB, ih]
    cases e : bs c s with
    | none => rw [chkM_n e, chkF_n e]
    | some o =>
      have ho := bs_lt hc e
      rw [chkM_s e, chkF_s e, he o ho, decide_eq_decide.mpr (show (¬ b o = -1 ∧ b o < st) ↔ (¬ b o < 0 ∧ b o < st) from and_congr_left' (not_congr (vl_neg hv ho).symm))]
theorem nf_fc {f ce a b : Nat → Int32} {c : Nat} {st : Int32} (hce : eqA ce f) (he : eqA a b) (hv : vlA f b) (hc : c < 108) : nfB f a st c = true ↔ (b c < 0 ∧ tmB (ce c) = true ∧ bfB b c st 4 = true) := by
  rw [hce c hc]
  constructor
  · intro h
    obtain ⟨h1, h2, h3⟩ := nfB_p h
    exact ⟨(vl_neg hv hc).mpr ((he c hc).symm.trans h2), h1, by rw [← bf_can he hv hc]; exact h3⟩
  · intro ⟨h1, h2, h3⟩
    rw [nfB_y h2 ((he c hc).trans ((vl_neg hv hc).mp h1)), bf_can he hv hc]; exact h3
noncomputable def lsS (f : Nat → Int32) (st : Int32) (mo : Nat) (s : zF) : Nat → zF
  | 0 => s
  | n + 1 => fcS f st mo (scC n) (lsS f st mo s n)
theorem ls_r {f : Nat → Int32} {st : Int32} {mo : Nat} {s : zF} {r : Nat} : ∀ x, x ≤ 12 → frS f st mo (8 - r) (lsS f st mo s (12 * r)) x = lsS f st mo s (12 * r + x)
  | 0, _ => rfl
  | x + 1, hx => by
    rw [frS, ls_r x (by omega), show 12 * r + (x + 1) = (12 * r + x) + 1 by omega, lsS, scC_e (by omega)]
theorem ls_s {f : Nat → Int32} {st : Int32} {mo : Nat} {s : zF} : ∀ r, fsS f st mo s r = lsS f st mo s (12 * r)
  | 0 => rfl
  | r + 1 => by rw [fsS, ls_s r, ls_r 12 (Nat.le_refl _), show 12 * (r + 1) = 12 * r + 12 by omega]
theorem chkF_up {b : Nat → Int32} {c c2 : Nat} {st : Int32} {s : Nat} (hs : 0 ≤ st) (h : chkF (upd b c st) c2 st s = true) : chkF b c2 st s = true := by
  cases e : bs c2 s with
  | none => rw [chkF_n e] at h; cases h
  | some o =>
    rw [chkF_s e] at h ⊢
    have h2 := of_decide_eq_true h
    by_cases q : o = c
    · subst q
      rw [show upd b o st o = st from if_pos rfl] at h2
      exact absurd h2.2 Int32.lt_irrefl
    · rw [show upd b c st o = b o from if_neg q] at h2
      exact decide_eq_true h2
theorem bfB_up {b : Nat → Int32} {c c2 : Nat} {st : Int32} (hs : 0 ≤ st) : ∀ s, bfB (upd b c st) c2 st s = true → bfB b c2 st s = true
  | 0, h => h
  | s + 1, h => by
    rw [bfB, Bool.or_eq_true] at h ⊢
    exact h.imp (bfB_up hs s) (chkF_up hs)
theorem fl_step {f ce a b : Nat → Int32} {mo t : Nat} (hce : eqA ce f) (he : eqA a b) (hv : vlA f b) (ht : t ≤ 109) : ∀ n, n ≤ 108 → (lsS ce (nI t) mo (b, 0) n).2 ≤ mo ∧ eqA (rfS f (nI t) a (lsS ce (nI t) mo (b, 0) n).2).1 (lsS ce (nI t) mo (b, 0) n).1 ∧ vlA f (lsS ce (nI t) mo (b, 0) n).1 ∧ (rfS f (nI t) a (lsS ce (nI t) mo (b, 0) n).2).2 = (if (lsS ce (nI t) mo (b, 0) n).2 = 0 then 0 else 1) ∧ ((lsS ce (nI t) mo (b, 0) n).2 < mo → ∀ j, j < n → ¬ ((lsS ce (nI t) mo (b, 0) n).1 (scC j) < 0 ∧ tmB (ce (scC j)) = true ∧ bfB (lsS ce (nI t) mo (b, 0) n).1 (scC j) (nI t) 4 = true))
  | 0, _ => ⟨Nat.zero_le _, he, hv, rfl, fun _ j hj => absurd hj (Nat.not_lt_zero j)⟩
  | n + 1, hn => by
    have ih := fl_step (mo := mo) hce he hv ht n (by omega)
    have hst : (0 : Int32) ≤ nI t := Int32.not_lt.mp (nI_nneg (by omega))
    obtain ⟨S, hS⟩ : ∃ S, S = lsS ce (nI t) mo (b, 0) n := ⟨_, rfl⟩
    rw [← hS] at ih
    obtain ⟨i1, i2, i3, i4, i5⟩ := ih
    have hsc := scC_lt (k := n) (by omega)
    rw [lsS, ← hS]
    by_cases q : fcP ce (nI t) mo (scC n) S
    · rw [fcS_t q]
      have hin : ∀ k, k < n → nfB f (rfS f (nI t) a S.2).1 (nI t) (scC k) = false := fun k hk => Bool.eq_false_iff.mpr (fun e => i5 q.1 k hk ((nf_fc hce i2 i3 (scC_lt (by omega))).mp e))
      have hy : nfB f (rfS f (nI t) a S.2).1 (nI t) (scC n) = true := (nf_fc hce i2 i3 hsc).mpr q.2
      have hr := rfS_s (z := S.2) (a := a) (ntF_hit (by omega) hin hy)
      refine ⟨q.1, ?_, vl_up i3 (by rw [← hce _ hsc]; exact q.2.2.1) ht, ?_, fun _ j hj e => ?_⟩
      · show eqA (rfS f (nI t) a (S.2 + 1)).1 (upd S.1 (scC n) (nI t))
        rw [hr]
        exact eq_up i2
      · show (rfS f (nI t) a (S.2 + 1)).2 = if S.2 + 1 = 0 then 0 else 1
        rw [hr, if_neg (Nat.succ_ne_zero _)]
      · have e1 : upd S.1 (scC n) (nI t) (scC j) < 0 := e.1
        have e2 : bfB (upd S.1 (scC n) (nI t)) (scC j) (nI t) 4 = true := e.2.2
        by_cases z : scC j = scC n
        · rw [z, show upd S.1 (scC n) (nI t) (scC n) = nI t from if_pos rfl] at e1
          exact absurd e1 (Int32.not_lt.mpr hst)
        · rw [show upd S.1 (scC n) (nI t) (scC j) = S.1 (scC j) from if_neg z] at e1
          have hj2 : j < n := by
            rcases Nat.lt_or_ge j n with y | y
            · exact y
            · exact absurd (congrArg scC (show j = n by omega)) z
          exact i5 q.1 j hj2 ⟨e1, e.2.1, bfB_up hst 4 e2⟩
    · rw [fcS_f q]
      refine ⟨i1, i2, i3, i4, fun h j hj => ?_⟩
      rcases Nat.lt_or_ge j n with y | y
      · exact i5 h j y
      · rw [show j = n by omega]
        exact fun e => q ⟨h, e⟩
theorem fl_full {f ce a b : Nat → Int32} {mo t : Nat} (hce : eqA ce f) (he : eqA a b) (hv : vlA f b) (ht : t ≤ 109) : eqA (rfS f (nI t) a mo).1 (fsS ce (nI t) mo (b, 0) 9).1 ∧ vlA f (fsS ce (nI t) mo (b, 0) 9).1 ∧ ((rfS f (nI t) a mo).2 = 0 ↔ (fsS ce (nI t) mo (b, 0) 9).2 = 0) := by
  rw [ls_s 9]
  obtain ⟨i1, i2, i3, i4, i5⟩ := fl_step (mo := mo) hce he hv ht 108 (Nat.le_refl _)
  show eqA _ (lsS ce (nI t) mo (b, 0) 108).1 ∧ vlA f (lsS ce (nI t) mo (b, 0) 108).1 ∧ (_ ↔ (lsS ce (nI t) mo (b, 0) 108).2 = 0)
  have e : rfS f (nI t) a mo = rfS f (nI t) a (lsS ce (nI t) mo (b, 0) 108).2 := by
    by_cases q : (lsS ce (nI t) mo (b, 0) 108).2 < mo
    · have hn : ntF f (rfS f (nI t) a (lsS ce (nI t) mo (b, 0) 108).2).1 (nI t) 108 = none := ntF_n 108 (fun k hk => Bool.eq_false_iff.mpr (fun e => i5 q k hk ((nf_fc hce i2 i3 (scC_lt hk)).mp e)))
      have := rfS_stop hn (mo - (lsS ce (nI t) mo (b, 0) 108).2)
      rwa [show (lsS ce (nI t) mo (b, 0) 108).2 + (mo - (lsS ce (nI t) mo (b, 0) 108).2) = mo by omega] at this
    · rw [show (lsS ce (nI t) mo (b, 0) 108).2 = mo by omega]
  rw [e]
  refine ⟨i2, i3, ?_⟩
  rw [i4]
  by_cases q : (lsS ce (nI t) mo (b, 0) 108).2 = 0
  · rw [if_pos q]; exact ⟨fun _ => q, fun _ => rfl⟩
  · rw [if_neg q]; exact ⟨fun y => absurd y (by decide), fun y => absurd y q⟩
theorem fl_T {f ce a b : Nat → Int32} {mo : Nat} {g0 : Int32} (hce : eqA ce f) (he : eqA a b) (hv : vlA f b) (hg : g0 = 0 ↔ mo = 0) : ∀ T, T ≤ 109 → eqA (rfT f mo a g0 T).1 (fiS ce mo b T).1 ∧ vlA f (fiS ce mo b T).1 ∧ ((rfT f mo a g0 T).2 = 0 ↔ (fiS ce mo b T).2 = 0)
  | 0, _ => ⟨he, hv, hg⟩
  | T + 1, hT => by
    have ih := fl_T hce he hv hg T (by omega)
    by_cases q : (rfT f mo a g0 T).2 = 0
    · rw [rfT_z q, show fiS ce mo b (T + 1) = fiS ce mo b T from if_pos (ih.2.2.mp q)]; exact ih
    · rw [rfT_n q, fiS_n (fun y => q (ih.2.2.mpr y))]
      exact fl_full hce ih.1 ih.2.1 (by omega)
theorem rfS_0 {f a : Nat → Int32} {st : Int32} (h : ntF f a st 108 = none) (d : Nat) : rfS f st a d = (a, 0) := by
  have := rfS_stop (f := f) (st := st) (a := a) (z := 0) h d
  rw [Nat.zero_add] at this
  exact this
theorem cn_0 {a : Nat → Int32} (h : cnM a = 0) {k : Nat} (hk : k < 108) : ¬ a k = -1 := of_decide_eq_false (cnt_0 (p := fun k => decide (a k = -1)) 108 h k hk)
noncomputable def flK (f : Nat → Int32) (fi : Nat → Int32) : Nat → Int32 := flP f fi 0
theorem og_vl {f ce F : Nat → Int32} (hce : eqA ce f) (hF : ∀ k, k < 108 → F k = -1) : ∀ i, i ≤ 12 → vlA f (ogS ce F i).1
  | 0, _ => fun k hk => Or.inl (hF k hk)
  | i + 1, hi => by
    have ih := og_vl hce hF i (by omega)
    by_cases q : ce i = 103
    · rw [ogS, if_pos q]
      by_cases z : (ogS ce F i).2 = 0
      · show vlA f (if (ogS ce F i).2 = 0 then upd (ogS ce F i).1 i 0 else (ogS ce F i).1)
        rw [if_pos z]
        exact vl_up (t := 0) ih (by rw [← hce i (by omega), q]; decide) (Nat.zero_le _)
      · show vlA f (if (ogS ce F i).2 = 0 then upd (ogS ce F i).1 i 0 else (ogS ce F i).1)
        rw [if_neg z]; exact ih
    · rw [ogS, if_neg q]; exact ih
theorem gt_eq {f ce : Nat → Int32} (hce : eqA ce f) : ∀ i, i ≤ 12 → fa_cnt (fun k => decide (f k = 103)) i = fa_cnt (fun k => decide (ce k = 103)) i := fun i hi => fa_cnt_cong (fun k hk => by rw [hce k (by omega)])
theorem og_eq {f ce F G : Nat → Int32} (hce : eqA ce f) (h : eqA F G) : ∀ i, i ≤ 12 → eqA (ogS f F i).1 (ogS ce G i).1
  | 0, _ => h
  | i + 1, hi => by
    have ih := og_eq hce h i (by omega)
    have e2 : (ogS f F i).2 = (ogS ce G i).2 := (ogS_c f F i).trans ((gt_eq hce i (by omega)).trans (ogS_c ce G i).symm)
    have e3 := hce i (by omega)
    by_cases q : f i = 103
    · rw [ogS, if_pos q, ogS, if_pos (show ce i = 103 from e3.trans q)]
      show eqA (if (ogS f F i).2 = 0 then upd (ogS f F i).1 i 0 else (ogS f F i).1) (if (ogS ce G i).2 = 0 then upd (ogS ce G i).1 i 0 else (ogS ce G i).1)
      rw [e2]
      by_cases z : (ogS ce G i).2 = 0
      · rw [if_pos z, if_pos z]; exact eq_up ih
      · rw [if_neg z, if_neg z]; exact ih
    · rw [ogS, if_neg q, ogS, if_neg (show ¬ ce i = 103 from fun z => q (e3.symm.trans z))]; exact ih
theorem fill_rel {f ce : Nat → Int32} (hce : eqA ce f) (fl fi : Nat → Int32) : eqA (flC f fl) (flK ce fi) ∧ vlA f (flK ce fi) := by
  have hA : eqA (fa_fill (fun _ => -1) fl 108) (fa_fill (fun _ => -1) fi 108) := fun k hk => by rw [fa_fill_in hk, fa_fill_in hk]
  have hv := og_vl hce (F := fa_fill (fun _ => -1) fi 108) (fun k hk => fa_fill_in hk) 12 (Nat.le_refl _)
  have hg : (if 0 < fa_cnt (fun k => decide (f k = 103)) 12 then (1 : Int32) else 0) = 0 ↔ fa_cnt (fun k => decide (f k = 103)) 12 = 0 := by
    by_cases q : 0 < fa_cnt (fun k => decide (f k = 103)) 12
    · rw [if_pos q]; exact ⟨fun e => absurd e (by decide), fun e => absurd e (by omega)⟩
    · rw [if_neg q]; exact ⟨fun _ => by omega, fun _ => rfl⟩
  have key := fl_T hce (og_eq hce hA 12 (Nat.le_refl _)) hv hg
  have k7 := key 107 (by omega)
  have eK : flK ce fi = (fiS ce (fa_cnt (fun k => decide (f k = 103)) 12) (ogS ce (fa_fill (fun _ => -1) fi 108) 12).1 107).1 := by
    unfold flK flP
    rw [if_pos rfl, ogS_c, gt_eq hce 12 (Nat.le_refl _)]
  rw [eK]
  refine ⟨fun k hk => ?_, k7.2.1⟩
  rw [← k7.1 k hk]
  unfold flC
  by_cases q : (rfT f (fa_cnt (fun k => decide (f k = 103)) 12) (ogS f (fa_fill (fun _ => -1) fl 108) 12).1 (if 0 < fa_cnt (fun k => decide (f k = 103)) 12 then 1 else 0) 107).2 = 0
  · rw [show 109 = 107 + 2 from rfl, rfT_stop q 2]
  · have hm := flC_m (f := f) (fl := fl) (T := 107) (by omega) q
    have hno : ntF f (rfT f (fa_cnt (fun k => decide (f k = 103)) 12) (ogS f (fa_fill (fun _ => -1) fl 108) 12).1 (if 0 < fa_cnt (fun k => decide (f k = 103)) 12 then 1 else 0) 107).1 (nI (107 + 1)) 108 = none := ntF_n 108 (fun j hj => nfB_x (cn_0 (by omega) (scC_lt hj)))
    have h8 : rfT f (fa_cnt (fun k => decide (f k = 103)) 12) (ogS f (fa_fill (fun _ => -1) fl 108) 12).1 (if 0 < fa_cnt (fun k => decide (f k = 103)) 12 then 1 else 0) (107 + 1) = ((rfT f (fa_cnt (fun k => decide (f k = 103)) 12) (ogS f (fa_fill (fun _ => -1) fl 108) 12).1 (if 0 < fa_cnt (fun k => decide (f k = 103)) 12 then 1 else 0) 107).1, 0) := by
      rw [rfT_n q]
      exact rfS_0 hno _
    rw [show 109 = (107 + 1) + 1 from rfl, rfT_stop (by rw [h8]) 1, h8]
