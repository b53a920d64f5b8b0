section
def chkM (fl : Nat → Int32) (c : Nat) (st : Int32) (s : Nat) : Bool := (bs c s).elim false (fun o => decide (¬ fl o = -1 ∧ fl o < st))
theorem chkM_n {fl : Nat → Int32} {c : Nat} {st : Int32} {s : Nat} (h : bs c s = none) : chkM fl c st s = false := by rw [chkM, h]; rfl
theorem chkM_s {fl : Nat → Int32} {c : Nat} {st : Int32} {s o : Nat} (h : bs c s = some o) : chkM fl c st s = decide (¬ fl o = -1 ∧ fl o < st) := by rw [chkM, h]; rfl
def canS (fl : Nat → Int32) (c : Nat) (st : Int32) : Nat → Bool
  | 0 => false
  | s + 1 => canS fl c st s || chkM fl c st s
theorem canS_t {fl : Nat → Int32} {c : Nat} {st : Int32} {s : Nat} (h : canS fl c st s = true) : canS fl c st (s + 1) = true := by rw [canS, h]; rfl
theorem canS_h {fl : Nat → Int32} {c : Nat} {st : Int32} {s : Nat} (h : chkM fl c st s = true) : canS fl c st (s + 1) = true := by rw [canS, h, Bool.or_true]
theorem canS_f {fl : Nat → Int32} {c : Nat} {st : Int32} {s : Nat} (h : canS fl c st s = false) (h2 : chkM fl c st s = false) : canS fl c st (s + 1) = false := by rw [canS, h, h2]; rfl
def nfB (f fl : Nat → Int32) (st : Int32) (c : Nat) : Bool := tmB (f c) && (decide (fl c = -1) && canS fl c st 4)
theorem nfB_y {f fl : Nat → Int32} {st : Int32} {c : Nat} (h1 : tmB (f c) = true) (h2 : fl c = -1) : nfB f fl st c = canS fl c st 4 := by rw [nfB, h1, decide_eq_true h2]; rfl
theorem nfB_m {f fl : Nat → Int32} {st : Int32} {c : Nat} (h1 : tmB (f c) = false) : nfB f fl st c = false := by rw [nfB, h1]; rfl
theorem nfB_x {f fl : Nat → Int32} {st : Int32} {c : Nat} (h2 : ¬ fl c = -1) : nfB f fl st c = false := by rw [nfB, decide_eq_false h2, Bool.false_and, Bool.and_false]
theorem nfB_p {f fl : Nat → Int32} {st : Int32} {c : Nat} (h : nfB f fl st c = true) : tmB (f c) = true ∧ fl c = -1 ∧ canS fl c st 4 = true := by
  unfold nfB at h
  rw [Bool.and_eq_true, Bool.and_eq_true] at h
  exact ⟨h.1, of_decide_eq_true h.2.1, h.2.2⟩
def scC (k : Nat) : Nat := 12 * (8 - k / 12) + k % 12
theorem scC_e {r x : Nat} (hx : x < 12) : scC (12 * r + x) = 12 * (8 - r) + x := by
  unfold scC
  rw [show (12 * r + x) / 12 = r by omega, show (12 * r + x) % 12 = x by omega]
theorem scC_lt {k : Nat} (h : k < 108) : scC k < 108 := by unfold scC; omega
def ntF (f fl : Nat → Int32) (st : Int32) : Nat → Option Nat
  | 0 => none
  | n + 1 => match ntF f fl st n with
    | some c => some c
    | none => if nfB f fl st (scC n) = true then some (scC n) else none
theorem ntF_n {f fl : Nat → Int32} {st : Int32} : ∀ n, (∀ k, k < n → nfB f fl st (scC k) = false) → ntF f fl st n = none
  | 0, _ => rfl
  | n + 1, h => by
    rw [ntF, ntF_n n (fun k hk => h k (by omega))]
    show (if nfB f fl st (scC n) = true then some (scC n) else none) = none
    rw [h n (Nat.lt_succ_self n), if_neg (by decide)]
theorem ntF_y {f fl : Nat → Int32} {st : Int32} {n : Nat} (h : ∀ k, k < n → nfB f fl st (scC k) = false) (h1 : nfB f fl st (scC n) = true) : ∀ d, ntF f fl st (n + 1 + d) = some (scC n)
  | 0 => by
    rw [Nat.add_zero, ntF, ntF_n n h]
    exact if_pos h1
  | d + 1 => by
    have ih := ntF_y h h1 d
    rw [show n + 1 + (d + 1) = (n + 1 + d) + 1 by omega, ntF, ih]
theorem ntF_hit {f fl : Nat → Int32} {st : Int32} {n : Nat} (hn : n < 108) (h : ∀ k, k < n → nfB f fl st (scC k) = false) (h1 : nfB f fl st (scC n) = true) : ntF f fl st 108 = some (scC n) := by
  have := ntF_y h h1 (108 - (n + 1))
  rwa [show n + 1 + (108 - (n + 1)) = 108 by omega] at this
theorem ntF_s {f fl : Nat → Int32} {st : Int32} {c : Nat} : ∀ n, n ≤ 108 → ntF f fl st n = some c → c < 108 ∧ nfB f fl st c = true
  | 0, _, h => by cases h
  | n + 1, hn, h => by
    rw [ntF] at h
    cases e : ntF f fl st n with
    | some c2 =>
      rw [e] at h
      cases h
      exact ntF_s n (by omega) e
    | none =>
      rw [e] at h
      by_cases q : nfB f fl st (scC n) = true
      · have h2 : (if nfB f fl st (scC n) = true then some (scC n) else none) = some c := h
        rw [if_pos q] at h2
        cases h2
        exact ⟨scC_lt (by omega), q⟩
      · have h2 : (if nfB f fl st (scC n) = true then some (scC n) else none) = some c := h
        rw [if_neg q] at h2
        cases h2
abbrev zRf : Type := (Nat → Int32) × Int32
def rfS (f : Nat → Int32) (st : Int32) (a : Nat → Int32) : Nat → zRf
  | 0 => (a, 0)
  | z + 1 => (ntF f (rfS f st a z).1 st 108).elim (rfS f st a z) (fun c => (upd (rfS f st a z).1 c st, 1))
theorem rfS_n {f : Nat → Int32} {st : Int32} {a : Nat → Int32} {z : Nat} (h : ntF f (rfS f st a z).1 st 108 = none) : rfS f st a (z + 1) = rfS f st a z := by rw [rfS, h]; rfl
theorem rfS_s {f : Nat → Int32} {st : Int32} {a : Nat → Int32} {z c : Nat} (h : ntF f (rfS f st a z).1 st 108 = some c) : rfS f st a (z + 1) = (upd (rfS f st a z).1 c st, 1) := by rw [rfS, h]; rfl
theorem rfS_stop {f : Nat → Int32} {st : Int32} {a : Nat → Int32} {z : Nat} (h : ntF f (rfS f st a z).1 st 108 = none) : ∀ d, rfS f st a (z + d) = rfS f st a z
  | 0 => rfl
  | d + 1 => by
    have ih := rfS_stop h d
    rw [show z + (d + 1) = (z + d) + 1 by omega, rfS_n (by rw [ih]; exact h), ih]
def rfT (f : Nat → Int32) (mo : Nat) (a : Nat → Int32) (g0 : Int32) : Nat → zRf
  | 0 => (a, g0)
  | T + 1 => if (rfT f mo a g0 T).2 = 0 then rfT f mo a g0 T else rfS f (nI (T + 1)) (rfT f mo a g0 T).1 mo
theorem rfT_n {f : Nat → Int32} {mo : Nat} {a : Nat → Int32} {g0 : Int32} {T : Nat} (h : ¬ (rfT f mo a g0 T).2 = 0) : rfT f mo a g0 (T + 1) = rfS f (nI (T + 1)) (rfT f mo a g0 T).1 mo := if_neg h
theorem rfT_z {f : Nat → Int32} {mo : Nat} {a : Nat → Int32} {g0 : Int32} {T : Nat} (h : (rfT f mo a g0 T).2 = 0) : rfT f mo a g0 (T + 1) = rfT f mo a g0 T := if_pos h
theorem rfT_stop {f : Nat → Int32} {mo : Nat} {a : Nat → Int32} {g0 : Int32} {T : Nat} (h : (rfT f mo a g0 T).2 = 0) : ∀ d, rfT f mo a g0 (T + d) = rfT f mo a g0 T
  | 0 => rfl
  | d + 1 => by
    have ih := rfT_stop h d
    rw [show T + (d + 1) = (T + d) + 1 by omega, rfT_z (by rw [ih]; exact h), ih]
theorem rfS_m {f : Nat → Int32} {st : Int32} {a : Nat → Int32} (hst : ¬ st = -1) : ∀ z, cnM (rfS f st a z).1 ≤ cnM a ∧ ((rfS f st a z).2 = 0 ∨ (rfS f st a z).2 = 1) ∧ (¬ (rfS f st a z).2 = 0 → cnM (rfS f st a z).1 < cnM a)
  | 0 => ⟨Nat.le_refl _, Or.inl rfl, fun h => absurd rfl h⟩
  | z + 1 => by
    have ih := rfS_m (f := f) (a := a) hst z
    cases e : ntF f (rfS f st a z).1 st 108 with
    | none => rw [rfS_n e]; exact ih
    | some c =>
      have h1 := ntF_s 108 (Nat.le_refl _) e
      have h2 := cn_up h1.1 (nfB_p h1.2).2.1 hst
      rw [rfS_s e]
      exact ⟨by show cnM (upd _ c st) ≤ _; omega, Or.inr rfl, fun _ => by show cnM (upd _ c st) < _; omega⟩
theorem rfT_m {f : Nat → Int32} {mo : Nat} {a : Nat → Int32} {g0 : Int32} (h0 : ¬ g0 = 0 → cnM a ≤ 107) : ∀ T, T ≤ 109 → ¬ (rfT f mo a g0 T).2 = 0 → T + cnM (rfT f mo a g0 T).1 ≤ 107
  | 0, _, h => by have := h0 h; show 0 + cnM a ≤ 107; omega
  | T + 1, hT, h => by
    by_cases q : (rfT f mo a g0 T).2 = 0
    · rw [rfT_z q] at h; exact absurd q h
    · have ih := rfT_m (f := f) (mo := mo) h0 T (by omega) q
      rw [rfT_n q] at h ⊢
      have := (rfS_m (f := f) (a := (rfT f mo a g0 T).1) (nI_nm1 (a := T + 1) (by omega)) mo).2.2 h
      omega
theorem ogS_c (f a : Nat → Int32) : ∀ i, (ogS f a i).2 = fa_cnt (fun k => decide (f k = 103)) i
  | 0 => rfl
  | i + 1 => by
    have ih := ogS_c f a i
    by_cases q : f i = 103
    · rw [ogS, if_pos q, fa_cnt_yes (p := fun k => decide (f k = 103)) (decide_eq_true q), ← ih]
    · rw [ogS, if_neg q, fa_cnt_no (p := fun k => decide (f k = 103)) (decide_eq_false q), ← ih]
theorem ogS_no {f a : Nat → Int32} : ∀ i, (∀ k, k < i → ¬ f k = 103) → ogS f a i = (a, 0)
  | 0, _ => rfl
  | i + 1, h => by rw [ogS, if_neg (h i (Nat.lt_succ_self i)), ogS_no i (fun k hk => h k (by omega))]
theorem ogS_hit {f a : Nat → Int32} {x : Nat} (h : ∀ k, k < x → ¬ f k = 103) (h1 : f x = 103) : ∀ d, (ogS f a (x + 1 + d)).1 = upd a x 0 ∧ ¬ (ogS f a (x + 1 + d)).2 = 0
  | 0 => by
    rw [Nat.add_zero, ogS, if_pos h1, ogS_no x h]
    exact ⟨by show (if (0 : Nat) = 0 then upd a x 0 else a) = upd a x 0; rw [if_pos rfl], show ¬ (0 + 1 = 0) from Nat.succ_ne_zero 0⟩
  | d + 1 => by
    have ih := ogS_hit (a := a) h h1 d
    rw [show x + 1 + (d + 1) = (x + 1 + d) + 1 by omega, ogS]
    by_cases q : f (x + 1 + d) = 103
    · rw [if_pos q, if_neg ih.2]; exact ⟨ih.1, Nat.succ_ne_zero _⟩
    · rw [if_neg q]; exact ih
theorem ogS_h12 {f a : Nat → Int32} {x : Nat} (hx : x < 12) (h : ∀ k, k < x → ¬ f k = 103) (h1 : f x = 103) : (ogS f a 12).1 = upd a x 0 := by
  have := (ogS_hit (a := a) h h1 (12 - (x + 1))).1
  rwa [show x + 1 + (12 - (x + 1)) = 12 by omega] at this
theorem cnt_0 {p : Nat → Bool} : ∀ n, fa_cnt p n = 0 → ∀ k, k < n → p k = false
  | 0, _, k, hk => absurd hk (Nat.not_lt_zero k)
  | n + 1, h, k, hk => by
    rw [fa_cnt] at h
    cases e : p n with
    | true => rw [e, if_pos rfl] at h; omega
    | false =>
      by_cases q : k = n
      · rw [q]; exact e
      · exact cnt_0 n (by omega) k (by omega)
def flC (f : Nat → Int32) (fl : Nat → Int32) : Nat → Int32 := (rfT f (fa_cnt (fun k => decide (f k = 103)) 12) (ogS f (fa_fill (fun _ => -1) fl 108) 12).1 (if 0 < fa_cnt (fun k => decide (f k = 103)) 12 then 1 else 0) 109).1
theorem og_cn {f fl : Nat → Int32} (h : 0 < fa_cnt (fun k => decide (f k = 103)) 12) : cnM (ogS f (fa_fill (fun _ => -1) fl 108) 12).1 ≤ 107 := by
  have key : ∀ n, n ≤ 12 → ∃ x, x < n ∧ f x = 103 ∧ (∀ k, k < x → ¬ f k = 103) ∨ ∀ k, k < n → ¬ f k = 103 := by
    intro n
    induction n with
    | zero => exact fun _ => ⟨0, Or.inr (fun k hk => absurd hk (Nat.not_lt_zero k))⟩
    | succ n ih =>
      intro hn
      obtain ⟨x, hx⟩ := ih (by omega)
      rcases hx with ⟨h1, h2, h3⟩ | hx
      · exact ⟨x, Or.inl ⟨by omega, h2, h3⟩⟩
      · by_cases q : f n = 103
        · exact ⟨n, Or.inl ⟨by omega, q, hx⟩⟩
        · refine ⟨0, Or.inr (fun k hk => ?_)⟩
          by_cases e : k = n
          · rw [e]; exact q
          · exact hx k (by omega)
  obtain ⟨x, hx⟩ := key 12 (Nat.le_refl _)
  rcases hx with ⟨h1, h2, h3⟩ | hx
  · rw [ogS_h12 h1 h3 h2]
    have := cn_up (fl := fa_fill (fun _ => -1) fl 108) (c := x) (v := 0) (by omega) (fa_fill_in (by omega)) (by decide)
    have := cn_le (fa_fill (fun _ => -1) fl 108)
    omega
  · have e := (ogS_c f f 12).symm.trans (congrArg Prod.snd (ogS_no (a := f) 12 hx))
    have e2 : fa_cnt (fun k => decide (f k = 103)) 12 = 0 := e
    omega
theorem flC_m {f fl : Nat → Int32} {T : Nat} (hT : T ≤ 109) (h : ¬ (rfT f (fa_cnt (fun k => decide (f k = 103)) 12) (ogS f (fa_fill (fun _ => -1) fl 108) 12).1 (if 0 < fa_cnt (fun k => decide (f k = 103)) 12 then 1 else 0) T).2 = 0) : T + cnM (rfT f (fa_cnt (fun k => decide (f k = 103)) 12) (ogS f (fa_fill (fun _ => -1) fl 108) 12).1 (if 0 < fa_cnt (fun k => decide (f k = 103)) 12 then 1 else 0) T).1 ≤ 107 := by
  refine rfT_m (fun q => ?_) T hT h
  by_cases q2 : 0 < fa_cnt (fun k => decide (f k = 103)) 12
  · exact og_cn q2
  · rw [if_neg q2] at q; exact absurd rfl q
theorem oI_nnF {c s : Nat} (hc : c < 108) (h : oI (bs c s) = -1) : bs c s = none := by
  cases e : bs c s with
  | none => rfl
  | some o =>
    rw [e] at h
    exact absurd h (nI_nm1 (a := o) (by have := bs_lt hc e; omega))
theorem ntF_nm {f fl : Nat → Int32} {st : Int32} (h : ¬ oI (ntF f fl st 108) = -1) : ∃ c, ntF f fl st 108 = some c := by
  cases e : ntF f fl st 108 with
  | none => rw [e] at h; exact absurd rfl h
  | some c => exact ⟨c, rfl⟩
set_option maxHeartbeats 4000000 in
set_option maxRecDepth 100000 in
theorem L_Mm_nextToFill9_32 (g : zG) (m mp mf mh mn mt mz mc_ mq mgr ml mi mr mm mu mk mx : Nat) (th pt cl wa co_ fi bu ho lh mg wd fpi fal : Int32) (po de : Int64) (b : Nat) (f : Nat → Int32) (fl : Nat → Int32) (st : Int32) (w0 : zW) (n : Nat) (y x : Nat) (hy : y < 9) (hx : x < 12) (K : DV g M_Mm_nextToFill (fun o cs1 => o = .inl (some (.int (oI (ntF f fl st 108)))) ∧ cs1 = [(m, .inr (12, [.int th, .ref mp, .int pt, .ref mf, .ref mh, .ref mn, .ref mt, .ref mz, .ref mc_, .ref mq, .ref mgr, .int cl, .int wa, .int co_, .int fi, .int bu, .int ho, .ref ml, .ref mi, .ref mr, .int lh, .int mg, .int wd, .int fpi, .int fal, .ref mm, .ref mu, .ref mk, .ref mx, .long po, .long de])), (b, .inl (1, 108, .inl f)), (mf, .inl (0, 108, .inl fl))]) w0 n 114 [(6, .int (z_bi (nfB f fl st (12 * y + x)))), (5, .int (nI (12 * y + x))), (4, .int (nI x)), (3, .int (nI y)), (0, .ref m), (1, .ref b), (2, .int st)] [] [(m, .inr (12, [.int th, .ref mp, .int pt, .ref mf, .ref mh, .ref mn, .ref mt, .ref mz, .ref mc_, .ref mq, .ref mgr, .int cl, .int wa, .int co_, .int fi, .int bu, .int ho, .ref ml, .ref mi, .ref mr, .int lh, .int mg, .int wd, .int fpi, .int fal, .ref mm, .ref mu, .ref mk, .ref mx, .long po, .long de])), (b, .inl (1, 108, .inl f)), (mf, .inl (0, 108, .inl fl))] 0 0) : ∀ (d i : Nat), i ≤ 4 → 4 < i + d → i = 0 ∨ (tmB (f (12 * y + x)) = true ∧ fl (12 * y + x) = -1) → DV g M_Mm_nextToFill (fun o cs1 => o = .inl (some (.int (oI (ntF f fl st 108)))) ∧ cs1 = [(m, .inr (12, [.int th, .ref mp, .int pt, .ref mf, .ref mh, .ref mn, .ref mt, .ref mz, .ref mc_, .ref mq, .ref mgr, .int cl, .int wa, .int co_, .int fi, .int bu, .int ho, .ref ml, .ref mi, .ref mr, .int lh, .int mg, .int wd, .int fpi, .int fal, .ref mm, .ref mu, .ref mk, .ref mx, .long po, .long de])), (b, .inl (1, 108, .inl f)), (mf, .inl (0, 108, .inl fl))]) w0 n 32 [(7, .int (nI i)), (6, .int (z_bi (canS fl (12 * y + x) st i))), (5, .int (nI (12 * y + x))), (4, .int (nI x)), (3, .int (nI y)), (0, .ref m), (1, .ref b), (2, .int st)] [] [(m, .inr (12, [.int th, .ref mp, .int pt, .ref mf, .ref mh, .ref mn, .ref mt, .ref mz, .ref mc_, .ref mq, .ref mgr, .int cl, .int wa, .int co_, .int fi, .int bu, .int ho, .ref ml, .ref mi, .ref mr, .int lh, .int mg, .int wd, .int fpi, .int fal, .ref mm, .ref mu, .ref mk, .ref mx, .long po, .long de])), (b, .inl (1, 108, .inl f)), (mf, .inl (0, 108, .inl fl))] 0 0 := by
  intro d
  induction d with
  | zero => intro i h1 h2 h3; exact absurd h2 (by omega)
  | succ d ih =>
    intro i h1 h2 h3
    refine r_iload d_Mm_nextToFill_32 0 rfl ?_
    refine r_iconst d_Mm_nextToFill_34 (v := 4) (by decide) ?_
    refine r_icmp_ge (tgt := 114) d_Mm_nextToFill_35 (by decide) (fun c_35 => ?_) (fun c_35 => ?_)
    · have hn := z_le (a := 4) (by omega) (by decide) c_35
      obtain rfl : i = 4 := by omega
      have hg := h3.resolve_left (by decide)
      have hk : nfB f fl st (12 * y + x) = canS fl (12 * y + x) st 4 := nfB_y hg.1 hg.2
      refine r_lv (lv' := [(6, .int (z_bi (canS fl (12 * y + x) st 4))), (5, .int (nI (12 * y + x))), (4, .int (nI x)), (3, .int (nI y)), (0, .ref m), (1, .ref b), (2, .int st)]) [1, 2, 3, 4, 5, 6, 7] rfl ?_
      refine r_lvE (lv2 := [(6, .int (z_bi (nfB f fl st (12 * y + x)))), (5, .int (nI (12 * y + x))), (4, .int (nI x)), (3, .int (nI y)), (0, .ref m), (1, .ref b), (2, .int st)]) (by rw [hk]) ?_
      exact K
    · have hn := z_nle (a := 4) (by omega) (by decide) c_35
      refine r_aload_n d_Mm_nextToFill_38 rfl 6 rfl ?_
      refine r_iload d_Mm_nextToFill_39 2 rfl ?_
      refine r_cald d_Mm_nextToFill_41 (q0 := 1) rfl (vp_in_nI (by omega) (by omega)) (v := f (12 * y + x)) (by rw [nI_clamp (by omega)]) ?_
      refine r_callS (As := [.int (f (12 * y + x))]) (rest := []) (csC := []) (is := []) ln_Mm_107 w_st_Mm_isMetal ok_Mm_nextToFill_Mm_isMetal d_Mm_nextToFill_42 (C_Mm_isMetal g (f (12 * y + x))) rfl rfl (Nat.le_of_ble_eq_true rfl) rfl (by decide) (by omega) (by omega) (fun E cs1 hx => ?_) (fun v cs1 hx => ?_)
      · exact absurd hx.1 (by simp)
      · obtain ⟨e1, rfl⟩ := hx
        cases e1
        refine ⟨rfl, ?_⟩
        refine r_st (st2 := [.int (z_bi (tmB (f (12 * y + x))))]) rfl ?_
        refine r_cs (cs2 := [(m, .inr (12, [.int th, .ref mp, .int pt, .ref mf, .ref mh, .ref mn, .ref mt, .ref mz, .ref mc_, .ref mq, .ref mgr, .int cl, .int wa, .int co_, .int fi, .int bu, .int ho, .ref ml, .ref mi, .ref mr, .int lh, .int mg, .int wd, .int fpi, .int fal, .ref mm, .ref mu, .ref mk, .ref mx, .long po, .long de])), (b, .inl (1, 108, .inl f)), (mf, .inl (0, 108, .inl fl))]) rfl ?_
        refine r_if_eq (tgt := 114) d_Mm_nextToFill_45 (by decide) (fun c_45 => ?_) (fun c_45 => ?_)
        · obtain rfl : i = 0 := h3.resolve_right (fun q => by have := z_bi0 c_45; rw [q.1] at this; cases this)
          have hk : nfB f fl st (12 * y + x) = canS fl (12 * y + x) st 0 := nfB_m (z_bi0 c_45)
          refine r_lv (lv' := [(6, .int (z_bi (canS fl (12 * y + x) st 0))), (5, .int (nI (12 * y + x))), (4, .int (nI x)), (3, .int (nI y)), (0, .ref m), (1, .ref b), (2, .int st)]) [1, 2, 3, 4, 5, 6, 7] rfl ?_
          refine r_lvE (lv2 := [(6, .int (z_bi (nfB f fl st (12 * y + x)))), (5, .int (nI (12 * y + x))), (4, .int (nI x)), (3, .int (nI y)), (0, .ref m), (1, .ref b), (2, .int st)]) (by rw [hk]) ?_
          exact K
        · refine r_aload_n d_Mm_nextToFill_48 rfl 5 rfl ?_
          refine r_get fs_Mm_17 d_Mm_nextToFill_49 (q0 := 0) rfl rfl ?_
          refine r_iload d_Mm_nextToFill_52 2 rfl ?_
          refine r_iald d_Mm_nextToFill_54 (q0 := 2) rfl (vp_in_nI (by omega) (by omega)) (v := fl (12 * y + x)) (by rw [nI_clamp (by omega)]) ?_
          refine r_iconst d_Mm_nextToFill_55 (v := (-1)) (by decide) ?_
          refine r_icmp_ne (tgt := 114) d_Mm_nextToFill_56 (by decide) (fun c_56 => ?_) (fun c_56 => ?_)
          · obtain rfl : i = 0 := h3.resolve_right (fun q => c_56 q.2)
            have hk : nfB f fl st (12 * y + x) = canS fl (12 * y + x) st 0 := nfB_x c_56
            refine r_lv (lv' := [(6, .int (z_bi (canS fl (12 * y + x) st 0))), (5, .int (nI (12 * y + x))), (4, .int (nI x)), (3, .int (nI y)), (0, .ref m), (1, .ref b), (2, .int st)]) [1, 2, 3, 4, 5, 6, 7] rfl ?_
            refine r_lvE (lv2 := [(6, .int (z_bi (nfB f fl st (12 * y + x)))), (5, .int (nI (12 * y + x))), (4, .int (nI x)), (3, .int (nI y)), (0, .ref m), (1, .ref b), (2, .int st)]) (by rw [hk]) ?_
            exact K
          · refine r_iload d_Mm_nextToFill_59 2 rfl ?_
            refine r_iload d_Mm_nextToFill_61 0 rfl ?_
            refine r_callS (As := [.int (nI (12 * y + x)), .int (nI i)]) (rest := []) (csC := []) (is := []) ln_Mm_119 w_st_Mm_beside ok_Mm_nextToFill_Mm_beside d_Mm_nextToFill_63 (C_Mm_beside g (12 * y + x) i (by omega) (by omega)) rfl rfl (Nat.le_of_ble_eq_true rfl) rfl (by decide) (by omega) (by omega) (fun E cs1 hx => ?_) (fun v cs1 hx => ?_)
            · exact absurd hx.1 (by simp)
            · obtain ⟨e1, rfl⟩ := hx
              cases e1
              refine ⟨rfl, ?_⟩
              refine r_st (st2 := [.int (oI (bs (12 * y + x) i))]) rfl ?_
              refine r_cs (cs2 := [(m, .inr (12, [.int th, .ref mp, .int pt, .ref mf, .ref mh, .ref mn, .ref mt, .ref mz, .ref mc_, .ref mq, .ref mgr, .int cl, .int wa, .int co_, .int fi, .int bu, .int ho, .ref ml, .ref mi, .ref mr, .int lh, .int mg, .int wd, .int fpi, .int fal, .ref mm, .ref mu, .ref mk, .ref mx, .long po, .long de])), (b, .inl (1, 108, .inl f)), (mf, .inl (0, 108, .inl fl))]) rfl ?_
              refine r_istore (lv' := [(8, .int (oI (bs (12 * y + x) i))), (7, .int (nI i)), (6, .int (z_bi (canS fl (12 * y + x) st i))), (5, .int (nI (12 * y + x))), (4, .int (nI x)), (3, .int (nI y)), (0, .ref m), (1, .ref b), (2, .int st)]) d_Mm_nextToFill_66 (by decide) rfl ?_
              refine r_iload d_Mm_nextToFill_68 2 rfl ?_
              refine r_if_ne (tgt := 101) d_Mm_nextToFill_70 (by decide) (fun c_70 => ?_) (fun c_70 => ?_)
              · have hs : canS fl (12 * y + x) st (i + 1) = true := canS_t (z_bi1 c_70)
                refine r_iconst d_Mm_nextToFill_101 (v := 1) (by decide) ?_
                refine r_goto (tgt := 106) d_Mm_nextToFill_102 (by decide) ?_
                refine r_istore (lv' := [(6, .int 1), (8, .int (oI (bs (12 * y + x) i))), (7, .int (nI i)), (5, .int (nI (12 * y + x))), (4, .int (nI x)), (3, .int (nI y)), (0, .ref m), (1, .ref b), (2, .int st)]) d_Mm_nextToFill_106 (by decide) rfl ?_
                refine r_iinc (lv' := [(7, .int (nI (i + 1))), (6, .int 1), (8, .int (oI (bs (12 * y + x) i))), (5, .int (nI (12 * y + x))), (4, .int (nI x)), (3, .int (nI y)), (0, .ref m), (1, .ref b), (2, .int st)]) (v := nI (i + 1)) d_Mm_nextToFill_108 (j := 2) rfl (nI_add _ _) (by decide) rfl ?_
                refine r_goto (tgt := 32) d_Mm_nextToFill_111 (by decide) ?_
                refine r_lv (lv' := [(7, .int (nI (i + 1))), (6, .int 1), (5, .int (nI (12 * y + x))), (4, .int (nI x)), (3, .int (nI y)), (0, .ref m), (1, .ref b), (2, .int st)]) [0, 1, 3, 4, 5, 6, 7, 8] rfl ?_
                refine r_lvE (lv2 := [(7, .int (nI (i + 1))), (6, .int (z_bi (canS fl (12 * y + x) st (i + 1)))), (5, .int (nI (12 * y + x))), (4, .int (nI x)), (3, .int (nI y)), (0, .ref m), (1, .ref b), (2, .int st)]) (by rw [hs] <;> rfl) ?_
                refine r_cs (cs2 := [(m, .inr (12, [.int th, .ref mp, .int pt, .ref mf, .ref mh, .ref mn, .ref mt, .ref mz, .ref mc_, .ref mq, .ref mgr, .int cl, .int wa, .int co_, .int fi, .int bu, .int ho, .ref ml, .ref mi, .ref mr, .int lh, .int mg, .int wd, .int fpi, .int fal, .ref mm, .ref mu, .ref mk, .ref mx, .long po, .long de])), (b, .inl (1, 108, .inl f)), (mf, .inl (0, 108, .inl fl))]) (rfl) ?_
                exact ih (i + 1) (by omega) (by omega) (Or.inr ⟨z_bi1 c_45, c_56⟩)
              · refine r_iload d_Mm_nextToFill_73 0 rfl ?_
                refine r_iconst d_Mm_nextToFill_75 (v := (-1)) (by decide) ?_
                refine r_icmp_eq (tgt := 105) d_Mm_nextToFill_76 (by decide) (fun c_76 => ?_) (fun c_76 => ?_)
                · have hs : canS fl (12 * y + x) st (i + 1) = false := canS_f (z_bi0 c_70) (chkM_n (oI_nnF (show (12 * y + x) < 108 by omega) c_76))
                  refine r_iconst d_Mm_nextToFill_105 (v := 0) (by decide) ?_
                  refine r_istore (lv' := [(6, .int 0), (8, .int (oI (bs (12 * y + x) i))), (7, .int (nI i)), (5, .int (nI (12 * y + x))), (4, .int (nI x)), (3, .int (nI y)), (0, .ref m), (1, .ref b), (2, .int st)]) d_Mm_nextToFill_106 (by decide) rfl ?_
                  refine r_iinc (lv' := [(7, .int (nI (i + 1))), (6, .int 0), (8, .int (oI (bs (12 * y + x) i))), (5, .int (nI (12 * y + x))), (4, .int (nI x)), (3, .int (nI y)), (0, .ref m), (1, .ref b), (2, .int st)]) (v := nI (i + 1)) d_Mm_nextToFill_108 (j := 2) rfl (nI_add _ _) (by decide) rfl ?_
                  refine r_goto (tgt := 32) d_Mm_nextToFill_111 (by decide) ?_
                  refine r_lv (lv' := [(7, .int (nI (i + 1))), (6, .int 0), (5, .int (nI (12 * y + x))), (4, .int (nI x)), (3, .int (nI y)), (0, .ref m), (1, .ref b), (2, .int st)]) [0, 1, 3, 4, 5, 6, 7, 8] rfl ?_
                  refine r_lvE (lv2 := [(7, .int (nI (i + 1))), (6, .int (z_bi (canS fl (12 * y + x) st (i + 1)))), (5, .int (nI (12 * y + x))), (4, .int (nI x)), (3, .int (nI y)), (0, .ref m), (1, .ref b), (2, .int st)]) (by rw [hs] <;> rfl) ?_
                  refine r_cs (cs2 := [(m, .inr (12, [.int th, .ref mp, .int pt, .ref mf, .ref mh, .ref mn, .ref mt, .ref mz, .ref mc_, .ref mq, .ref mgr, .int cl, .int wa, .int co_, .int fi, .int bu, .int ho, .ref ml, .ref mi, .ref mr, .int lh, .int mg, .int wd, .int fpi, .int fal, .ref mm, .ref mu, .ref mk, .ref mx, .long po, .long de])), (b, .inl (1, 108, .inl f)), (mf, .inl (0, 108, .inl fl))]) (rfl) ?_
                  exact ih (i + 1) (by omega) (by omega) (Or.inr ⟨z_bi1 c_45, c_56⟩)
                · obtain ⟨oo, ho9⟩ := oI_nm c_76
                  have hol := bs_lt (show (12 * y + x) < 108 by omega) ho9
                  rw [ho9, show oI (some oo) = nI oo from rfl]
                  refine r_aload_n d_Mm_nextToFill_79 rfl 6 rfl ?_
                  refine r_get fs_Mm_17 d_Mm_nextToFill_80 (q0 := 0) rfl rfl ?_
                  refine r_iload d_Mm_nextToFill_83 0 rfl ?_
                  refine r_iald d_Mm_nextToFill_85 (q0 := 2) rfl (vp_in_nI (by omega) (by omega)) (v := fl oo) (by rw [nI_clamp (by omega)]) ?_
                  refine r_iconst d_Mm_nextToFill_86 (v := (-1)) (by decide) ?_
                  refine r_icmp_eq (tgt := 105) d_Mm_nextToFill_87 (by decide) (fun c_87 => ?_) (fun c_87 => ?_)
                  · have hs : canS fl (12 * y + x) st (i + 1) = false := canS_f (z_bi0 c_70) ((chkM_s ho9).trans (decide_eq_false (fun q => q.1 c_87)))
                    refine r_iconst d_Mm_nextToFill_105 (v := 0) (by decide) ?_
                    refine r_istore (lv' := [(6, .int 0), (8, .int (nI oo)), (7, .int (nI i)), (5, .int (nI (12 * y + x))), (4, .int (nI x)), (3, .int (nI y)), (0, .ref m), (1, .ref b), (2, .int st)]) d_Mm_nextToFill_106 (by decide) rfl ?_
                    refine r_iinc (lv' := [(7, .int (nI (i + 1))), (6, .int 0), (8, .int (nI oo)), (5, .int (nI (12 * y + x))), (4, .int (nI x)), (3, .int (nI y)), (0, .ref m), (1, .ref b), (2, .int st)]) (v := nI (i + 1)) d_Mm_nextToFill_108 (j := 2) rfl (nI_add _ _) (by decide) rfl ?_
                    refine r_goto (tgt := 32) d_Mm_nextToFill_111 (by decide) ?_
                    refine r_lv (lv' := [(7, .int (nI (i + 1))), (6, .int 0), (5, .int (nI (12 * y + x))), (4, .int (nI x)), (3, .int (nI y)), (0, .ref m), (1, .ref b), (2, .int st)]) [0, 1, 3, 4, 5, 6, 7, 8] rfl ?_
                    refine r_lvE (lv2 := [(7, .int (nI (i + 1))), (6, .int (z_bi (canS fl (12 * y + x) st (i + 1)))), (5, .int (nI (12 * y + x))), (4, .int (nI x)), (3, .int (nI y)), (0, .ref m), (1, .ref b), (2, .int st)]) (by rw [hs] <;> rfl) ?_
                    refine r_cs (cs2 := [(m, .inr (12, [.int th, .ref mp, .int pt, .ref mf, .ref mh, .ref mn, .ref mt, .ref mz, .ref mc_, .ref mq, .ref mgr, .int cl, .int wa, .int co_, .int fi, .int bu, .int ho, .ref ml, .ref mi, .ref mr, .int lh, .int mg, .int wd, .int fpi, .int fal, .ref mm, .ref mu, .ref mk, .ref mx, .long po, .long de])), (b, .inl (1, 108, .inl f)), (mf, .inl (0, 108, .inl fl))]) (rfl) ?_
                    exact ih (i + 1) (by omega) (by omega) (Or.inr ⟨z_bi1 c_45, c_56⟩)
                  · refine r_aload_n d_Mm_nextToFill_90 rfl 6 rfl ?_
                    refine r_get fs_Mm_17 d_Mm_nextToFill_91 (q0 := 0) rfl rfl ?_
                    refine r_iload d_Mm_nextToFill_94 0 rfl ?_
                    refine r_iald d_Mm_nextToFill_96 (q0 := 2) rfl (vp_in_nI (by omega) (by omega)) (v := fl oo) (by rw [nI_clamp (by omega)]) ?_
                    refine r_iload_n d_Mm_nextToFill_97 rfl 8 rfl ?_
                    refine r_icmp_ge (tgt := 105) d_Mm_nextToFill_98 (by decide) (fun c_98 => ?_) (fun c_98 => ?_)
                    · have hs : canS fl (12 * y + x) st (i + 1) = false := canS_f (z_bi0 c_70) ((chkM_s ho9).trans (decide_eq_false (fun q => Int32.not_lt.mpr c_98 q.2)))
                      refine r_iconst d_Mm_nextToFill_105 (v := 0) (by decide) ?_
                      refine r_istore (lv' := [(6, .int 0), (8, .int (nI oo)), (7, .int (nI i)), (5, .int (nI (12 * y + x))), (4, .int (nI x)), (3, .int (nI y)), (0, .ref m), (1, .ref b), (2, .int st)]) d_Mm_nextToFill_106 (by decide) rfl ?_
                      refine r_iinc (lv' := [(7, .int (nI (i + 1))), (6, .int 0), (8, .int (nI oo)), (5, .int (nI (12 * y + x))), (4, .int (nI x)), (3, .int (nI y)), (0, .ref m), (1, .ref b), (2, .int st)]) (v := nI (i + 1)) d_Mm_nextToFill_108 (j := 2) rfl (nI_add _ _) (by decide) rfl ?_
                      refine r_goto (tgt := 32) d_Mm_nextToFill_111 (by decide) ?_
                      refine r_lv (lv' := [(7, .int (nI (i + 1))), (6, .int 0), (5, .int (nI (12 * y + x))), (4, .int (nI x)), (3, .int (nI y)), (0, .ref m), (1, .ref b), (2, .int st)]) [0, 1, 3, 4, 5, 6, 7, 8] rfl ?_
                      refine r_lvE (lv2 := [(7, .int (nI (i + 1))), (6, .int (z_bi (canS fl (12 * y + x) st (i + 1)))), (5, .int (nI (12 * y + x))), (4, .int (nI x)), (3, .int (nI y)), (0, .ref m), (1, .ref b), (2, .int st)]) (by rw [hs] <;> rfl) ?_
                      refine r_cs (cs2 := [(m, .inr (12, [.int th, .ref mp, .int pt, .ref mf, .ref mh, .ref mn, .ref mt, .ref mz, .ref mc_, .ref mq, .ref mgr, .int cl, .int wa, .int co_, .int fi, .int bu, .int ho, .ref ml, .ref mi, .ref mr, .int lh, .int mg, .int wd, .int fpi, .int fal, .ref mm, .ref mu, .ref mk, .ref mx, .long po, .long de])), (b, .inl (1, 108, .inl f)), (mf, .inl (0, 108, .inl fl))]) (rfl) ?_
                      exact ih (i + 1) (by omega) (by omega) (Or.inr ⟨z_bi1 c_45, c_56⟩)
                    · have hs : canS fl (12 * y + x) st (i + 1) = true := canS_h ((chkM_s ho9).trans (decide_eq_true ⟨c_87, Int32.not_le.mp c_98⟩))
                      refine r_iconst d_Mm_nextToFill_101 (v := 1) (by decide) ?_
                      refine r_goto (tgt := 106) d_Mm_nextToFill_102 (by decide) ?_
                      refine r_istore (lv' := [(6, .int 1), (8, .int (nI oo)), (7, .int (nI i)), (5, .int (nI (12 * y + x))), (4, .int (nI x)), (3, .int (nI y)), (0, .ref m), (1, .ref b), (2, .int st)]) d_Mm_nextToFill_106 (by decide) rfl ?_
                      refine r_iinc (lv' := [(7, .int (nI (i + 1))), (6, .int 1), (8, .int (nI oo)), (5, .int (nI (12 * y + x))), (4, .int (nI x)), (3, .int (nI y)), (0, .ref m), (1, .ref b), (2, .int st)]) (v := nI (i + 1)) d_Mm_nextToFill_108 (j := 2) rfl (nI_add _ _) (by decide) rfl ?_
                      refine r_goto (tgt := 32) d_Mm_nextToFill_111 (by decide) ?_
                      refine r_lv (lv' := [(7, .int (nI (i + 1))), (6, .int 1), (5, .int (nI (12 * y + x))), (4, .int (nI x)), (3, .int (nI y)), (0, .ref m), (1, .ref b), (2, .int st)]) [0, 1, 3, 4, 5, 6, 7, 8] rfl ?_
                      refine r_lvE (lv2 := [(7, .int (nI (i + 1))), (6, .int (z_bi (canS fl (12 * y + x) st (i + 1)))), (5, .int (nI (12 * y + x))), (4, .int (nI x)), (3, .int (nI y)), (0, .ref m), (1, .ref b), (2, .int st)]) (by rw [hs] <;> rfl) ?_
                      refine r_cs (cs2 := [(m, .inr (12, [.int th, .ref mp, .int pt, .ref mf, .ref mh, .ref mn, .ref mt, .ref mz, .ref mc_, .ref mq, .ref mgr, .int cl, .int wa, .int co_, .int fi, .int bu, .int ho, .ref ml, .ref mi, .ref mr, .int lh, .int mg, .int wd, .int fpi, .int fal, .ref mm, .ref mu, .ref mk, .ref mx, .long po, .long de])), (b, .inl (1, 108, .inl f)), (mf, .inl (0, 108, .inl fl))]) (rfl) ?_
                      exact ih (i + 1) (by omega) (by omega) (Or.inr ⟨z_bi1 c_45, c_56⟩)
set_option maxHeartbeats 4000000 in
set_option maxRecDepth 100000 in
theorem L_Mm_nextToFill9_10 (g : zG) (m mp mf mh mn mt mz mc_ mq mgr ml mi mr mm mu mk mx : Nat) (th pt cl wa co_ fi bu ho lh mg wd fpi fal : Int32) (po de : Int64) (b : Nat) (f : Nat → Int32) (fl : Nat → Int32) (st : Int32) (w0 : zW) (n : Nat) (y : Nat) (hy : y < 9) (K : (∀ k, k < 12 * (8 - y) + 12 → nfB f fl st (scC k) = false) → DV g M_Mm_nextToFill (fun o cs1 => o = .inl (some (.int (oI (ntF f fl st 108)))) ∧ cs1 = [(m, .inr (12, [.int th, .ref mp, .int pt, .ref mf, .ref mh, .ref mn, .ref mt, .ref mz, .ref mc_, .ref mq, .ref mgr, .int cl, .int wa, .int co_, .int fi, .int bu, .int ho, .ref ml, .ref mi, .ref mr, .int lh, .int mg, .int wd, .int fpi, .int fal, .ref mm, .ref mu, .ref mk, .ref mx, .long po, .long de])), (b, .inl (1, 108, .inl f)), (mf, .inl (0, 108, .inl fl))]) w0 n 128 [(3, .int (nI y)), (0, .ref m), (1, .ref b), (2, .int st)] [] [(m, .inr (12, [.int th, .ref mp, .int pt, .ref mf, .ref mh, .ref mn, .ref mt, .ref mz, .ref mc_, .ref mq, .ref mgr, .int cl, .int wa, .int co_, .int fi, .int bu, .int ho, .ref ml, .ref mi, .ref mr, .int lh, .int mg, .int wd, .int fpi, .int fal, .ref mm, .ref mu, .ref mk, .ref mx, .long po, .long de])), (b, .inl (1, 108, .inl f)), (mf, .inl (0, 108, .inl fl))] 0 0) : ∀ (d x : Nat), x ≤ 12 → 12 < x + d → (∀ k, k < 12 * (8 - y) + x → nfB f fl st (scC k) = false) → DV g M_Mm_nextToFill (fun o cs1 => o = .inl (some (.int (oI (ntF f fl st 108)))) ∧ cs1 = [(m, .inr (12, [.int th, .ref mp, .int pt, .ref mf, .ref mh, .ref mn, .ref mt, .ref mz, .ref mc_, .ref mq, .ref mgr, .int cl, .int wa, .int co_, .int fi, .int bu, .int ho, .ref ml, .ref mi, .ref mr, .int lh, .int mg, .int wd, .int fpi, .int fal, .ref mm, .ref mu, .ref mk, .ref mx, .long po, .long de])), (b, .inl (1, 108, .inl f)), (mf, .inl (0, 108, .inl fl))]) w0 n 10 [(4, .int (nI x)), (3, .int (nI y)), (0, .ref m), (1, .ref b), (2, .int st)] [] [(m, .inr (12, [.int th, .ref mp, .int pt, .ref mf, .ref mh, .ref mn, .ref mt, .ref mz, .ref mc_, .ref mq, .ref mgr, .int cl, .int wa, .int co_, .int fi, .int bu, .int ho, .ref ml, .ref mi, .ref mr, .int lh, .int mg, .int wd, .int fpi, .int fal, .ref mm, .ref mu, .ref mk, .ref mx, .long po, .long de])), (b, .inl (1, 108, .inl f)), (mf, .inl (0, 108, .inl fl))] 0 0 := by
  intro d
  induction d with
  | zero => intro x h1 h2 h3; exact absurd h2 (by omega)
  | succ d ih =>
    intro x h1 h2 h3
    refine r_iload d_Mm_nextToFill_10 0 rfl ?_
    refine r_bipush d_Mm_nextToFill_12 (v := 12) (by decide) ?_
    refine r_icmp_ge (tgt := 128) d_Mm_nextToFill_14 (by decide) (fun c_14 => ?_) (fun c_14 => ?_)
    · have hn := z_le (a := 12) (by omega) (by decide) c_14
      obtain rfl : x = 12 := by omega
      refine r_lv (lv' := [(3, .int (nI y)), (0, .ref m), (1, .ref b), (2, .int st)]) [1, 2, 3, 4] rfl ?_
      exact K h3
    · have hn := z_nle (a := 12) (by omega) (by decide) c_14
      refine r_bipush d_Mm_nextToFill_17 (v := 12) (by decide) ?_
      refine r_iload_n d_Mm_nextToFill_19 rfl 1 rfl ?_
      refine r_imul d_Mm_nextToFill_20 (v := nI (12 * y)) (pk_mul _ _) ?_
      refine r_iload d_Mm_nextToFill_21 0 rfl ?_
      refine r_iadd d_Mm_nextToFill_23 (v := nI (12 * y + x)) (nI_add _ _) ?_
      refine r_istore (lv' := [(5, .int (nI (12 * y + x))), (4, .int (nI x)), (3, .int (nI y)), (0, .ref m), (1, .ref b), (2, .int st)]) d_Mm_nextToFill_24 (by decide) rfl ?_
      refine r_iconst d_Mm_nextToFill_26 (v := 0) (by decide) ?_
      refine r_istore (lv' := [(6, .int 0), (5, .int (nI (12 * y + x))), (4, .int (nI x)), (3, .int (nI y)), (0, .ref m), (1, .ref b), (2, .int st)]) d_Mm_nextToFill_27 (by decide) rfl ?_
      refine r_iconst d_Mm_nextToFill_29 (v := 0) (by decide) ?_
      refine r_istore (lv' := [(7, .int 0), (6, .int 0), (5, .int (nI (12 * y + x))), (4, .int (nI x)), (3, .int (nI y)), (0, .ref m), (1, .ref b), (2, .int st)]) d_Mm_nextToFill_30 (by decide) rfl ?_
      refine r_lvE (lv2 := [(7, .int (nI 0)), (6, .int (z_bi (canS fl (12 * y + x) st 0))), (5, .int (nI (12 * y + x))), (4, .int (nI x)), (3, .int (nI y)), (0, .ref m), (1, .ref b), (2, .int st)]) (rfl) ?_
      refine r_cs (cs2 := [(m, .inr (12, [.int th, .ref mp, .int pt, .ref mf, .ref mh, .ref mn, .ref mt, .ref mz, .ref mc_, .ref mq, .ref mgr, .int cl, .int wa, .int co_, .int fi, .int bu, .int ho, .ref ml, .ref mi, .ref mr, .int lh, .int mg, .int wd, .int fpi, .int fal, .ref mm, .ref mu, .ref mk, .ref mx, .long po, .long de])), (b, .inl (1, 108, .inl f)), (mf, .inl (0, 108, .inl fl))]) (rfl) ?_
      refine L_Mm_nextToFill9_32 g m mp mf mh mn mt mz mc_ mq mgr ml mi mr mm mu mk mx th pt cl wa co_ fi bu ho lh mg wd fpi fal po de b f fl st w0 _ y x hy (by omega) (?_) (4 + 1) 0 (Nat.zero_le _) (by omega) (Or.inl rfl)
      refine r_iload d_Mm_nextToFill_114 0 rfl ?_
      refine r_if_eq (tgt := 122) d_Mm_nextToFill_116 (by decide) (fun c_116 => ?_) (fun c_116 => ?_)
      · have hx9 : (∀ k, k < 12 * (8 - y) + x + 1 → nfB f fl st (scC k) = false) := fun k hk => (Nat.lt_or_ge k (12 * (8 - y) + x)).elim (h3 k) (fun q => by rw [show k = 12 * (8 - y) + x by omega, scC_e (by omega), show 8 - (8 - y) = y by omega]; exact z_bi0 c_116)
        refine r_iinc (lv' := [(4, .int (nI (x + 1))), (6, .int (z_bi (nfB f fl st (12 * y + x)))), (5, .int (nI (12 * y + x))), (3, .int (nI y)), (0, .ref m), (1, .ref b), (2, .int st)]) (v := nI (x + 1)) d_Mm_nextToFill_122 (j := 2) rfl (nI_add _ _) (by decide) rfl ?_
        refine r_goto (tgt := 10) d_Mm_nextToFill_125 (by decide) ?_
        refine r_lv (lv' := [(4, .int (nI (x + 1))), (3, .int (nI y)), (0, .ref m), (1, .ref b), (2, .int st)]) [0, 3, 4, 5, 6] rfl ?_
        refine r_lvE (lv2 := [(4, .int (nI (x + 1))), (3, .int (nI y)), (0, .ref m), (1, .ref b), (2, .int st)]) (rfl) ?_
        refine r_cs (cs2 := [(m, .inr (12, [.int th, .ref mp, .int pt, .ref mf, .ref mh, .ref mn, .ref mt, .ref mz, .ref mc_, .ref mq, .ref mgr, .int cl, .int wa, .int co_, .int fi, .int bu, .int ho, .ref ml, .ref mi, .ref mr, .int lh, .int mg, .int wd, .int fpi, .int fal, .ref mm, .ref mu, .ref mk, .ref mx, .long po, .long de])), (b, .inl (1, 108, .inl f)), (mf, .inl (0, 108, .inl fl))]) (rfl) ?_
        exact ih (x + 1) (by omega) (by omega) hx9
      · refine r_iload d_Mm_nextToFill_119 1 rfl ?_
        refine r_iret d_Mm_nextToFill_121 rfl rfl ?_
        exact ⟨by rw [ntF_hit (f := f) (fl := fl) (st := st) (n := 12 * (8 - y) + x) (by omega) h3 (by rw [scC_e (by omega), show 8 - (8 - y) = y by omega]; exact z_bi1 c_116), scC_e (by omega), show 8 - (8 - y) = y by omega] <;> rfl, rfl⟩
set_option maxHeartbeats 4000000 in
set_option maxRecDepth 100000 in
theorem L_Mm_nextToFill9_3 (g : zG) (m mp mf mh mn mt mz mc_ mq mgr ml mi mr mm mu mk mx : Nat) (th pt cl wa co_ fi bu ho lh mg wd fpi fal : Int32) (po de : Int64) (b : Nat) (f : Nat → Int32) (fl : Nat → Int32) (st : Int32) (w0 : zW) (n : Nat) : ∀ (d j : Nat), j ≤ 9 → 9 < j + d → (∀ k, k < 12 * j → nfB f fl st (scC k) = false) → DV g M_Mm_nextToFill (fun o cs1 => o = .inl (some (.int (oI (ntF f fl st 108)))) ∧ cs1 = [(m, .inr (12, [.int th, .ref mp, .int pt, .ref mf, .ref mh, .ref mn, .ref mt, .ref mz, .ref mc_, .ref mq, .ref mgr, .int cl, .int wa, .int co_, .int fi, .int bu, .int ho, .ref ml, .ref mi, .ref mr, .int lh, .int mg, .int wd, .int fpi, .int fal, .ref mm, .ref mu, .ref mk, .ref mx, .long po, .long de])), (b, .inl (1, 108, .inl f)), (mf, .inl (0, 108, .inl fl))]) w0 n 3 [(3, .int (dyI j)), (0, .ref m), (1, .ref b), (2, .int st)] [] [(m, .inr (12, [.int th, .ref mp, .int pt, .ref mf, .ref mh, .ref mn, .ref mt, .ref mz, .ref mc_, .ref mq, .ref mgr, .int cl, .int wa, .int co_, .int fi, .int bu, .int ho, .ref ml, .ref mi, .ref mr, .int lh, .int mg, .int wd, .int fpi, .int fal, .ref mm, .ref mu, .ref mk, .ref mx, .long po, .long de])), (b, .inl (1, 108, .inl f)), (mf, .inl (0, 108, .inl fl))] 0 0 := by
  intro d
  induction d with
  | zero => intro j h1 h2 h3; exact absurd h2 (by omega)
  | succ d ih =>
    intro j h1 h2 h3
    refine r_iload_n d_Mm_nextToFill_3 rfl 0 rfl ?_
    refine r_if_lt (tgt := 134) d_Mm_nextToFill_4 (by decide) (fun c_4 => ?_) (fun c_4 => ?_)
    · have hj9 := (dyF j (by omega)).1 c_4
      subst hj9
      refine r_iconst d_Mm_nextToFill_134 (v := (-1)) (by decide) ?_
      refine r_iret d_Mm_nextToFill_135 rfl rfl ?_
      exact ⟨by rw [ntF_n 108 h3] <;> rfl, rfl⟩
    · obtain ⟨hj9, hj8⟩ := (dyF j (by omega)).2 c_4
      rw [hj8]
      refine r_iconst d_Mm_nextToFill_7 (v := 0) (by decide) ?_
      refine r_istore (lv' := [(4, .int 0), (3, .int (nI (8 - j))), (0, .ref m), (1, .ref b), (2, .int st)]) d_Mm_nextToFill_8 (by decide) rfl ?_
      refine r_lvE (lv2 := [(4, .int (nI 0)), (3, .int (nI (8 - j))), (0, .ref m), (1, .ref b), (2, .int st)]) (rfl) ?_
      refine r_cs (cs2 := [(m, .inr (12, [.int th, .ref mp, .int pt, .ref mf, .ref mh, .ref mn, .ref mt, .ref mz, .ref mc_, .ref mq, .ref mgr, .int cl, .int wa, .int co_, .int fi, .int bu, .int ho, .ref ml, .ref mi, .ref mr, .int lh, .int mg, .int wd, .int fpi, .int fal, .ref mm, .ref mu, .ref mk, .ref mx, .long po, .long de])), (b, .inl (1, 108, .inl f)), (mf, .inl (0, 108, .inl fl))]) (rfl) ?_
      refine L_Mm_nextToFill9_10 g m mp mf mh mn mt mz mc_ mq mgr ml mi mr mm mu mk mx th pt cl wa co_ fi bu ho lh mg wd fpi fal po de b f fl st w0 _ (8 - j) (by omega) (fun h128 => ?_) (12 + 1) 0 (Nat.zero_le _) (by omega) (fun k hk => h3 k (by omega))
      refine r_iinc (lv' := [(3, .int (dyI (j + 1))), (0, .ref m), (1, .ref b), (2, .int st)]) (v := dyI (j + 1)) d_Mm_nextToFill_128 (j := 0) rfl (dyS j hj9) (by decide) rfl ?_
      refine r_goto (tgt := 3) d_Mm_nextToFill_131 (by decide) ?_
      refine r_lvE (lv2 := [(3, .int (dyI (j + 1))), (0, .ref m), (1, .ref b), (2, .int st)]) (rfl) ?_
      refine r_cs (cs2 := [(m, .inr (12, [.int th, .ref mp, .int pt, .ref mf, .ref mh, .ref mn, .ref mt, .ref mz, .ref mc_, .ref mq, .ref mgr, .int cl, .int wa, .int co_, .int fi, .int bu, .int ho, .ref ml, .ref mi, .ref mr, .int lh, .int mg, .int wd, .int fpi, .int fal, .ref mm, .ref mu, .ref mk, .ref mx, .long po, .long de])), (b, .inl (1, 108, .inl f)), (mf, .inl (0, 108, .inl fl))]) (rfl) ?_
      exact ih (j + 1) (by omega) (by omega) (fun k hk => h128 k (by omega))
set_option maxHeartbeats 4000000 in
set_option maxRecDepth 100000 in
theorem C_Mm_nextToFill9 (g : zG) (m mp mf mh mn mt mz mc_ mq mgr ml mi mr mm mu mk mx : Nat) (th pt cl wa co_ fi bu ho lh mg wd fpi fal : Int32) (po de : Int64) (b : Nat) (f : Nat → Int32) (fl : Nat → Int32) (st : Int32) : CT g M_Mm_nextToFill [.ref m, .ref b, .int st] [(m, .inr (12, [.int th, .ref mp, .int pt, .ref mf, .ref mh, .ref mn, .ref mt, .ref mz, .ref mc_, .ref mq, .ref mgr, .int cl, .int wa, .int co_, .int fi, .int bu, .int ho, .ref ml, .ref mi, .ref mr, .int lh, .int mg, .int wd, .int fpi, .int fal, .ref mm, .ref mu, .ref mk, .ref mx, .long po, .long de])), (b, .inl (1, 108, .inl f)), (mf, .inl (0, 108, .inl fl))] (fun o cs1 => o = .inl (some (.int (oI (ntF f fl st 108)))) ∧ cs1 = [(m, .inr (12, [.int th, .ref mp, .int pt, .ref mf, .ref mh, .ref mn, .ref mt, .ref mz, .ref mc_, .ref mq, .ref mgr, .int cl, .int wa, .int co_, .int fi, .int bu, .int ho, .ref ml, .ref mi, .ref mr, .int lh, .int mg, .int wd, .int fpi, .int fal, .ref mm, .ref mu, .ref mk, .ref mx, .long po, .long de])), (b, .inl (1, 108, .inl f)), (mf, .inl (0, 108, .inl fl))]) 0 0 := by
  refine z_of (by decide) rfl (Nat.le_of_ble_eq_true rfl) (fun w0 => ?_)
  refine r_lvE (lv2 := [(0, .ref m), (1, .ref b), (2, .int st)]) rfl ?_
  refine r_bipush d_Mm_nextToFill_0 (v := 8) (by decide) ?_
  refine r_istore_n (lv' := [(3, .int 8), (0, .ref m), (1, .ref b), (2, .int st)]) d_Mm_nextToFill_2 rfl (by decide) rfl ?_
  refine r_lvE (lv2 := [(3, .int (dyI 0)), (0, .ref m), (1, .ref b), (2, .int st)]) (rfl) ?_
  refine r_cs (cs2 := [(m, .inr (12, [.int th, .ref mp, .int pt, .ref mf, .ref mh, .ref mn, .ref mt, .ref mz, .ref mc_, .ref mq, .ref mgr, .int cl, .int wa, .int co_, .int fi, .int bu, .int ho, .ref ml, .ref mi, .ref mr, .int lh, .int mg, .int wd, .int fpi, .int fal, .ref mm, .ref mu, .ref mk, .ref mx, .long po, .long de])), (b, .inl (1, 108, .inl f)), (mf, .inl (0, 108, .inl fl))]) (rfl) ?_
  exact L_Mm_nextToFill9_3 g m mp mf mh mn mt mz mc_ mq mgr ml mi mr mm mu mk mx th pt cl wa co_ fi bu ho lh mg wd fpi fal po de b f fl st w0 _  (9 + 1) 0 (Nat.zero_le _) (by omega) (fun k hk => absurd hk (Nat.not_lt_zero k))
set_option maxHeartbeats 4000000 in
set_option maxRecDepth 100000 in
theorem L_Mm_fill9_84 (g : zG) (m mp mf mh mn mt mz mc_ mq mgr ml mi mr mm mu mk mx : Nat) (th pt cl wa co_ fi bu ho lh mg wd fpi fal : Int32) (po de : Int64) (b : Nat) (f : Nat → Int32) (fl : Nat → Int32) (w0 : zW) (n : Nat) (t : Nat) (ht : t < 109) (K : DV g M_Mm_fill (fun o cs1 => o = .inl none ∧ cs1 = [(m, .inr (12, [.int th, .ref mp, .int pt, .ref mf, .ref mh, .ref mn, .ref mt, .ref mz, .ref mc_, .ref mq, .ref mgr, .int cl, .int wa, .int co_, .int fi, .int bu, .int ho, .ref ml, .ref mi, .ref mr, .int lh, .int mg, .int wd, .int fpi, .int fal, .ref mm, .ref mu, .ref mk, .ref mx, .long po, .long de])), (b, .inl (1, 108, .inl f)), (mf, .inl (0, 108, .inl (flC f fl)))]) w0 n 122 [(3, .int ((rfS f (nI (t + 1)) (rfT f (fa_cnt (fun k => decide (f k = 103)) 12) (ogS f (fa_fill (fun _ => -1) fl 108) 12).1 (if 0 < fa_cnt (fun k => decide (f k = 103)) 12 then 1 else 0) t).1 (fa_cnt (fun k => decide (f k = 103)) 12)).2)), (4, .int (nI (t + 1))), (2, .int (nI (fa_cnt (fun k => decide (f k = 103)) 12))), (0, .ref m), (1, .ref b)] [] [(m, .inr (12, [.int th, .ref mp, .int pt, .ref mf, .ref mh, .ref mn, .ref mt, .ref mz, .ref mc_, .ref mq, .ref mgr, .int cl, .int wa, .int co_, .int fi, .int bu, .int ho, .ref ml, .ref mi, .ref mr, .int lh, .int mg, .int wd, .int fpi, .int fal, .ref mm, .ref mu, .ref mk, .ref mx, .long po, .long de])), (b, .inl (1, 108, .inl f)), (mf, .inl (0, 108, .inl ((rfS f (nI (t + 1)) (rfT f (fa_cnt (fun k => decide (f k = 103)) 12) (ogS f (fa_fill (fun _ => -1) fl 108) 12).1 (if 0 < fa_cnt (fun k => decide (f k = 103)) 12 then 1 else 0) t).1 (fa_cnt (fun k => decide (f k = 103)) 12)).1)))] 0 0) : ∀ (d z : Nat), z ≤ fa_cnt (fun k => decide (f k = 103)) 12 → fa_cnt (fun k => decide (f k = 103)) 12 < z + d → DV g M_Mm_fill (fun o cs1 => o = .inl none ∧ cs1 = [(m, .inr (12, [.int th, .ref mp, .int pt, .ref mf, .ref mh, .ref mn, .ref mt, .ref mz, .ref mc_, .ref mq, .ref mgr, .int cl, .int wa, .int co_, .int fi, .int bu, .int ho, .ref ml, .ref mi, .ref mr, .int lh, .int mg, .int wd, .int fpi, .int fal, .ref mm, .ref mu, .ref mk, .ref mx, .long po, .long de])), (b, .inl (1, 108, .inl f)), (mf, .inl (0, 108, .inl (flC f fl)))]) w0 n 84 [(5, .int (nI z)), (3, .int ((rfS f (nI (t + 1)) (rfT f (fa_cnt (fun k => decide (f k = 103)) 12) (ogS f (fa_fill (fun _ => -1) fl 108) 12).1 (if 0 < fa_cnt (fun k => decide (f k = 103)) 12 then 1 else 0) t).1 z).2)), (4, .int (nI (t + 1))), (2, .int (nI (fa_cnt (fun k => decide (f k = 103)) 12))), (0, .ref m), (1, .ref b)] [] [(m, .inr (12, [.int th, .ref mp, .int pt, .ref mf, .ref mh, .ref mn, .ref mt, .ref mz, .ref mc_, .ref mq, .ref mgr, .int cl, .int wa, .int co_, .int fi, .int bu, .int ho, .ref ml, .ref mi, .ref mr, .int lh, .int mg, .int wd, .int fpi, .int fal, .ref mm, .ref mu, .ref mk, .ref mx, .long po, .long de])), (b, .inl (1, 108, .inl f)), (mf, .inl (0, 108, .inl ((rfS f (nI (t + 1)) (rfT f (fa_cnt (fun k => decide (f k = 103)) 12) (ogS f (fa_fill (fun _ => -1) fl 108) 12).1 (if 0 < fa_cnt (fun k => decide (f k = 103)) 12 then 1 else 0) t).1 z).1)))] 0 0 := by
  intro d
  induction d with
  | zero => intro z h1 h2 ; exact absurd h2 (by omega)
  | succ d ih =>
    intro z h1 h2 
    refine r_iload d_Mm_fill_84 0 rfl ?_
    refine r_iload_n d_Mm_fill_86 rfl 3 rfl ?_
    refine r_icmp_ge (tgt := 122) d_Mm_fill_87 (by decide) (fun c_87 => ?_) (fun c_87 => ?_)
    · have hgl := fa_cnt_le (fun k => decide (f k = 103)) 12
      have hn := z_le (a := fa_cnt (fun k => decide (f k = 103)) 12) (by omega) (by omega) c_87
      obtain hz9 : z = fa_cnt (fun k => decide (f k = 103)) 12 := by omega
      rw [hz9]
      refine r_lv (lv' := [(3, .int ((rfS f (nI (t + 1)) (rfT f (fa_cnt (fun k => decide (f k = 103)) 12) (ogS f (fa_fill (fun _ => -1) fl 108) 12).1 (if 0 < fa_cnt (fun k => decide (f k = 103)) 12 then 1 else 0) t).1 (fa_cnt (fun k => decide (f k = 103)) 12)).2)), (4, .int (nI (t + 1))), (2, .int (nI (fa_cnt (fun k => decide (f k = 103)) 12))), (0, .ref m), (1, .ref b)]) [1, 2, 3, 4, 5] rfl ?_
      exact K
    · have hgl := fa_cnt_le (fun k => decide (f k = 103)) 12
      have hn := z_nle (a := fa_cnt (fun k => decide (f k = 103)) 12) (by omega) (by omega) c_87
      refine r_aload_n d_Mm_fill_90 rfl 4 rfl ?_
      refine r_aload_n d_Mm_fill_91 rfl 5 rfl ?_
      refine r_iload d_Mm_fill_92 2 rfl ?_
      refine r_callV (As := [.ref b, .int (nI (t + 1))]) (rest := []) (csC := [(m, .inr (12, [.int th, .ref mp, .int pt, .ref mf, .ref mh, .ref mn, .ref mt, .ref mz, .ref mc_, .ref mq, .ref mgr, .int cl, .int wa, .int co_, .int fi, .int bu, .int ho, .ref ml, .ref mi, .ref mr, .int lh, .int mg, .int wd, .int fpi, .int fal, .ref mm, .ref mu, .ref mk, .ref mx, .long po, .long de])), (b, .inl (1, 108, .inl f)), (mf, .inl (0, 108, .inl ((rfS f (nI (t + 1)) (rfT f (fa_cnt (fun k => decide (f k = 103)) 12) (ogS f (fa_fill (fun _ => -1) fl 108) 12).1 (if 0 < fa_cnt (fun k => decide (f k = 103)) 12 then 1 else 0) t).1 z).1)))]) (is := [0, 1, 2]) (q0 := 0) rfl rfl ln_Mm_140 w_im_Mm_nextToFill w_se_Mm_nextToFill ok_Mm_fill_Mm_nextToFill d_Mm_fill_94 (C_Mm_nextToFill9 g m mp mf mh mn mt mz mc_ mq mgr ml mi mr mm mu mk mx th pt cl wa co_ fi bu ho lh mg wd fpi fal po de b f (rfS f (nI (t + 1)) (rfT f (fa_cnt (fun k => decide (f k = 103)) 12) (ogS f (fa_fill (fun _ => -1) fl 108) 12).1 (if 0 < fa_cnt (fun k => decide (f k = 103)) 12 then 1 else 0) t).1 z).1 (nI (t + 1))) rfl rfl (Nat.le_of_ble_eq_true rfl) rfl (by decide) (by omega) (by omega) (fun E cs1 hx => ?_) (fun v cs1 hx => ?_)
      · exact absurd hx.1 (by simp)
      · obtain ⟨e1, rfl⟩ := hx
        cases e1
        refine ⟨rfl, ?_⟩
        refine r_st (st2 := [.int (oI (ntF f (rfS f (nI (t + 1)) (rfT f (fa_cnt (fun k => decide (f k = 103)) 12) (ogS f (fa_fill (fun _ => -1) fl 108) 12).1 (if 0 < fa_cnt (fun k => decide (f k = 103)) 12 then 1 else 0) t).1 z).1 (nI (t + 1)) 108))]) rfl ?_
        refine r_cs (cs2 := [(m, .inr (12, [.int th, .ref mp, .int pt, .ref mf, .ref mh, .ref mn, .ref mt, .ref mz, .ref mc_, .ref mq, .ref mgr, .int cl, .int wa, .int co_, .int fi, .int bu, .int ho, .ref ml, .ref mi, .ref mr, .int lh, .int mg, .int wd, .int fpi, .int fal, .ref mm, .ref mu, .ref mk, .ref mx, .long po, .long de])), (b, .inl (1, 108, .inl f)), (mf, .inl (0, 108, .inl ((rfS f (nI (t + 1)) (rfT f (fa_cnt (fun k => decide (f k = 103)) 12) (ogS f (fa_fill (fun _ => -1) fl 108) 12).1 (if 0 < fa_cnt (fun k => decide (f k = 103)) 12 then 1 else 0) t).1 z).1)))]) rfl ?_
        refine r_istore (lv' := [(6, .int (oI (ntF f (rfS f (nI (t + 1)) (rfT f (fa_cnt (fun k => decide (f k = 103)) 12) (ogS f (fa_fill (fun _ => -1) fl 108) 12).1 (if 0 < fa_cnt (fun k => decide (f k = 103)) 12 then 1 else 0) t).1 z).1 (nI (t + 1)) 108))), (5, .int (nI z)), (3, .int ((rfS f (nI (t + 1)) (rfT f (fa_cnt (fun k => decide (f k = 103)) 12) (ogS f (fa_fill (fun _ => -1) fl 108) 12).1 (if 0 < fa_cnt (fun k => decide (f k = 103)) 12 then 1 else 0) t).1 z).2)), (4, .int (nI (t + 1))), (2, .int (nI (fa_cnt (fun k => decide (f k = 103)) 12))), (0, .ref m), (1, .ref b)]) d_Mm_fill_97 (by decide) rfl ?_
        refine r_iload d_Mm_fill_99 0 rfl ?_
        refine r_iconst d_Mm_fill_101 (v := (-1)) (by decide) ?_
        refine r_icmp_eq (tgt := 116) d_Mm_fill_102 (by decide) (fun c_102 => ?_) (fun c_102 => ?_)
        · have hk := rfS_n (f := f) (st := nI (t + 1)) (a := (rfT f (fa_cnt (fun k => decide (f k = 103)) 12) (ogS f (fa_fill (fun _ => -1) fl 108) 12).1 (if 0 < fa_cnt (fun k => decide (f k = 103)) 12 then 1 else 0) t).1) (z := z) (by cases e9 : ntF f (rfS f (nI (t + 1)) (rfT f (fa_cnt (fun k => decide (f k = 103)) 12) (ogS f (fa_fill (fun _ => -1) fl 108) 12).1 (if 0 < fa_cnt (fun k => decide (f k = 103)) 12 then 1 else 0) t).1 z).1 (nI (t + 1)) 108 with | none => rfl | some c9 => rw [e9] at c_102; exact absurd c_102 (nI_nm1 (a := c9) (by have := (ntF_s 108 (Nat.le_refl _) e9).1; omega)))
          refine r_iinc (lv' := [(5, .int (nI (z + 1))), (6, .int (oI (ntF f (rfS f (nI (t + 1)) (rfT f (fa_cnt (fun k => decide (f k = 103)) 12) (ogS f (fa_fill (fun _ => -1) fl 108) 12).1 (if 0 < fa_cnt (fun k => decide (f k = 103)) 12 then 1 else 0) t).1 z).1 (nI (t + 1)) 108))), (3, .int ((rfS f (nI (t + 1)) (rfT f (fa_cnt (fun k => decide (f k = 103)) 12) (ogS f (fa_fill (fun _ => -1) fl 108) 12).1 (if 0 < fa_cnt (fun k => decide (f k = 103)) 12 then 1 else 0) t).1 z).2)), (4, .int (nI (t + 1))), (2, .int (nI (fa_cnt (fun k => decide (f k = 103)) 12))), (0, .ref m), (1, .ref b)]) (v := nI (z + 1)) d_Mm_fill_116 (j := 1) rfl (nI_add _ _) (by decide) rfl ?_
          refine r_goto (tgt := 84) d_Mm_fill_119 (by decide) ?_
          refine r_lv (lv' := [(5, .int (nI (z + 1))), (3, .int ((rfS f (nI (t + 1)) (rfT f (fa_cnt (fun k => decide (f k = 103)) 12) (ogS f (fa_fill (fun _ => -1) fl 108) 12).1 (if 0 < fa_cnt (fun k => decide (f k = 103)) 12 then 1 else 0) t).1 z).2)), (4, .int (nI (t + 1))), (2, .int (nI (fa_cnt (fun k => decide (f k = 103)) 12))), (0, .ref m), (1, .ref b)]) [0, 2, 3, 4, 5, 6] rfl ?_
          refine r_lvE (lv2 := [(5, .int (nI (z + 1))), (3, .int ((rfS f (nI (t + 1)) (rfT f (fa_cnt (fun k => decide (f k = 103)) 12) (ogS f (fa_fill (fun _ => -1) fl 108) 12).1 (if 0 < fa_cnt (fun k => decide (f k = 103)) 12 then 1 else 0) t).1 (z + 1)).2)), (4, .int (nI (t + 1))), (2, .int (nI (fa_cnt (fun k => decide (f k = 103)) 12))), (0, .ref m), (1, .ref b)]) (by rw [hk] <;> rfl) ?_
          refine r_cs (cs2 := [(m, .inr (12, [.int th, .ref mp, .int pt, .ref mf, .ref mh, .ref mn, .ref mt, .ref mz, .ref mc_, .ref mq, .ref mgr, .int cl, .int wa, .int co_, .int fi, .int bu, .int ho, .ref ml, .ref mi, .ref mr, .int lh, .int mg, .int wd, .int fpi, .int fal, .ref mm, .ref mu, .ref mk, .ref mx, .long po, .long de])), (b, .inl (1, 108, .inl f)), (mf, .inl (0, 108, .inl ((rfS f (nI (t + 1)) (rfT f (fa_cnt (fun k => decide (f k = 103)) 12) (ogS f (fa_fill (fun _ => -1) fl 108) 12).1 (if 0 < fa_cnt (fun k => decide (f k = 103)) 12 then 1 else 0) t).1 (z + 1)).1)))]) (by rw [hk] <;> rfl) ?_
          exact ih (z + 1) (by omega) (by omega)
        · obtain ⟨c9, he9⟩ := ntF_nm c_102
          have hc9 := (ntF_s 108 (Nat.le_refl _) he9).1
          have hk := rfS_s (f := f) (st := nI (t + 1)) (a := (rfT f (fa_cnt (fun k => decide (f k = 103)) 12) (ogS f (fa_fill (fun _ => -1) fl 108) 12).1 (if 0 < fa_cnt (fun k => decide (f k = 103)) 12 then 1 else 0) t).1) (z := z) he9
          rw [he9, show oI (some c9) = nI c9 from rfl]
          refine r_aload_n d_Mm_fill_105 rfl 5 rfl ?_
          refine r_get fs_Mm_17 d_Mm_fill_106 (q0 := 0) rfl rfl ?_
          refine r_iload d_Mm_fill_109 0 rfl ?_
          refine r_iload d_Mm_fill_111 3 rfl ?_
          refine r_iast d_Mm_fill_113 (q0 := 2) rfl (vp_in_nI (by omega) (by omega)) (f' := upd (rfS f (nI (t + 1)) (rfT f (fa_cnt (fun k => decide (f k = 103)) 12) (ogS f (fa_fill (fun _ => -1) fl 108) 12).1 (if 0 < fa_cnt (fun k => decide (f k = 103)) 12 then 1 else 0) t).1 z).1 c9 (nI (t + 1))) (by rw [nI_clamp (by omega)] <;> rfl) (cs' := [(m, .inr (12, [.int th, .ref mp, .int pt, .ref mf, .ref mh, .ref mn, .ref mt, .ref mz, .ref mc_, .ref mq, .ref mgr, .int cl, .int wa, .int co_, .int fi, .int bu, .int ho, .ref ml, .ref mi, .ref mr, .int lh, .int mg, .int wd, .int fpi, .int fal, .ref mm, .ref mu, .ref mk, .ref mx, .long po, .long de])), (b, .inl (1, 108, .inl f)), (mf, .inl (0, 108, .inl (upd (rfS f (nI (t + 1)) (rfT f (fa_cnt (fun k => decide (f k = 103)) 12) (ogS f (fa_fill (fun _ => -1) fl 108) 12).1 (if 0 < fa_cnt (fun k => decide (f k = 103)) 12 then 1 else 0) t).1 z).1 c9 (nI (t + 1)))))]) rfl ?_
          refine r_iconst d_Mm_fill_114 (v := 1) (by decide) ?_
          refine r_istore_n (lv' := [(3, .int 1), (6, .int (nI c9)), (5, .int (nI z)), (4, .int (nI (t + 1))), (2, .int (nI (fa_cnt (fun k => decide (f k = 103)) 12))), (0, .ref m), (1, .ref b)]) d_Mm_fill_115 rfl (by decide) rfl ?_
          refine r_iinc (lv' := [(5, .int (nI (z + 1))), (3, .int 1), (6, .int (nI c9)), (4, .int (nI (t + 1))), (2, .int (nI (fa_cnt (fun k => decide (f k = 103)) 12))), (0, .ref m), (1, .ref b)]) (v := nI (z + 1)) d_Mm_fill_116 (j := 2) rfl (nI_add _ _) (by decide) rfl ?_
          refine r_goto (tgt := 84) d_Mm_fill_119 (by decide) ?_
          refine r_lv (lv' := [(5, .int (nI (z + 1))), (3, .int 1), (4, .int (nI (t + 1))), (2, .int (nI (fa_cnt (fun k => decide (f k = 103)) 12))), (0, .ref m), (1, .ref b)]) [0, 1, 3, 4, 5, 6] rfl ?_
          refine r_lvE (lv2 := [(5, .int (nI (z + 1))), (3, .int ((rfS f (nI (t + 1)) (rfT f (fa_cnt (fun k => decide (f k = 103)) 12) (ogS f (fa_fill (fun _ => -1) fl 108) 12).1 (if 0 < fa_cnt (fun k => decide (f k = 103)) 12 then 1 else 0) t).1 (z + 1)).2)), (4, .int (nI (t + 1))), (2, .int (nI (fa_cnt (fun k => decide (f k = 103)) 12))), (0, .ref m), (1, .ref b)]) (by rw [hk] <;> rfl) ?_
          refine r_cs (cs2 := [(m, .inr (12, [.int th, .ref mp, .int pt, .ref mf, .ref mh, .ref mn, .ref mt, .ref mz, .ref mc_, .ref mq, .ref mgr, .int cl, .int wa, .int co_, .int fi, .int bu, .int ho, .ref ml, .ref mi, .ref mr, .int lh, .int mg, .int wd, .int fpi, .int fal, .ref mm, .ref mu, .ref mk, .ref mx, .long po, .long de])), (b, .inl (1, 108, .inl f)), (mf, .inl (0, 108, .inl ((rfS f (nI (t + 1)) (rfT f (fa_cnt (fun k => decide (f k = 103)) 12) (ogS f (fa_fill (fun _ => -1) fl 108) 12).1 (if 0 < fa_cnt (fun k => decide (f k = 103)) 12 then 1 else 0) t).1 (z + 1)).1)))]) (by rw [hk] <;> rfl) ?_
          exact ih (z + 1) (by omega) (by omega)
set_option maxHeartbeats 4000000 in
set_option maxRecDepth 100000 in
theorem L_Mm_fill9_75 (g : zG) (m mp mf mh mn mt mz mc_ mq mgr ml mi mr mm mu mk mx : Nat) (th pt cl wa co_ fi bu ho lh mg wd fpi fal : Int32) (po de : Int64) (b : Nat) (f : Nat → Int32) (fl : Nat → Int32) (w0 : zW) (n : Nat) : ∀ (d t : Nat), t ≤ 109 → 109 < t + d → DV g M_Mm_fill (fun o cs1 => o = .inl none ∧ cs1 = [(m, .inr (12, [.int th, .ref mp, .int pt, .ref mf, .ref mh, .ref mn, .ref mt, .ref mz, .ref mc_, .ref mq, .ref mgr, .int cl, .int wa, .int co_, .int fi, .int bu, .int ho, .ref ml, .ref mi, .ref mr, .int lh, .int mg, .int wd, .int fpi, .int fal, .ref mm, .ref mu, .ref mk, .ref mx, .long po, .long de])), (b, .inl (1, 108, .inl f)), (mf, .inl (0, 108, .inl (flC f fl)))]) w0 n 75 [(3, .int ((rfT f (fa_cnt (fun k => decide (f k = 103)) 12) (ogS f (fa_fill (fun _ => -1) fl 108) 12).1 (if 0 < fa_cnt (fun k => decide (f k = 103)) 12 then 1 else 0) t).2)), (4, .int (nI (t + 1))), (2, .int (nI (fa_cnt (fun k => decide (f k = 103)) 12))), (0, .ref m), (1, .ref b)] [] [(m, .inr (12, [.int th, .ref mp, .int pt, .ref mf, .ref mh, .ref mn, .ref mt, .ref mz, .ref mc_, .ref mq, .ref mgr, .int cl, .int wa, .int co_, .int fi, .int bu, .int ho, .ref ml, .ref mi, .ref mr, .int lh, .int mg, .int wd, .int fpi, .int fal, .ref mm, .ref mu, .ref mk, .ref mx, .long po, .long de])), (b, .inl (1, 108, .inl f)), (mf, .inl (0, 108, .inl ((rfT f (fa_cnt (fun k => decide (f k = 103)) 12) (ogS f (fa_fill (fun _ => -1) fl 108) 12).1 (if 0 < fa_cnt (fun k => decide (f k = 103)) 12 then 1 else 0) t).1)))] 0 0 := by
  intro d
  induction d with
  | zero => intro t h1 h2 ; exact absurd h2 (by omega)
  | succ d ih =>
    intro t h1 h2 
    refine r_iload_n d_Mm_fill_75 rfl 0 rfl ?_
    refine r_if_eq (tgt := 128) d_Mm_fill_76 (by decide) (fun c_76 => ?_) (fun c_76 => ?_)
    · have hx : flC f fl = (rfT f (fa_cnt (fun k => decide (f k = 103)) 12) (ogS f (fa_fill (fun _ => -1) fl 108) 12).1 (if 0 < fa_cnt (fun k => decide (f k = 103)) 12 then 1 else 0) t).1 := by unfold flC; have := rfT_stop c_76 (109 - t); rw [show t + (109 - t) = 109 by omega] at this; rw [this]
      refine r_vret d_Mm_fill_128 rfl ?_
      exact ⟨rfl, by rw [hx]⟩
    · have hm9 := flC_m (f := f) (fl := fl) (T := t) h1 c_76
      refine r_iconst d_Mm_fill_79 (v := 0) (by decide) ?_
      refine r_istore_n (lv' := [(3, .int 0), (4, .int (nI (t + 1))), (2, .int (nI (fa_cnt (fun k => decide (f k = 103)) 12))), (0, .ref m), (1, .ref b)]) d_Mm_fill_80 rfl (by decide) rfl ?_
      refine r_iconst d_Mm_fill_81 (v := 0) (by decide) ?_
      refine r_istore (lv' := [(5, .int 0), (3, .int 0), (4, .int (nI (t + 1))), (2, .int (nI (fa_cnt (fun k => decide (f k = 103)) 12))), (0, .ref m), (1, .ref b)]) d_Mm_fill_82 (by decide) rfl ?_
      refine r_lvE (lv2 := [(5, .int (nI 0)), (3, .int ((rfS f (nI (t + 1)) (rfT f (fa_cnt (fun k => decide (f k = 103)) 12) (ogS f (fa_fill (fun _ => -1) fl 108) 12).1 (if 0 < fa_cnt (fun k => decide (f k = 103)) 12 then 1 else 0) t).1 0).2)), (4, .int (nI (t + 1))), (2, .int (nI (fa_cnt (fun k => decide (f k = 103)) 12))), (0, .ref m), (1, .ref b)]) (rfl) ?_
      refine r_cs (cs2 := [(m, .inr (12, [.int th, .ref mp, .int pt, .ref mf, .ref mh, .ref mn, .ref mt, .ref mz, .ref mc_, .ref mq, .ref mgr, .int cl, .int wa, .int co_, .int fi, .int bu, .int ho, .ref ml, .ref mi, .ref mr, .int lh, .int mg, .int wd, .int fpi, .int fal, .ref mm, .ref mu, .ref mk, .ref mx, .long po, .long de])), (b, .inl (1, 108, .inl f)), (mf, .inl (0, 108, .inl ((rfS f (nI (t + 1)) (rfT f (fa_cnt (fun k => decide (f k = 103)) 12) (ogS f (fa_fill (fun _ => -1) fl 108) 12).1 (if 0 < fa_cnt (fun k => decide (f k = 103)) 12 then 1 else 0) t).1 0).1)))]) (rfl) ?_
      refine L_Mm_fill9_84 g m mp mf mh mn mt mz mc_ mq mgr ml mi mr mm mu mk mx th pt cl wa co_ fi bu ho lh mg wd fpi fal po de b f fl w0 _ t (by omega) (?_) (fa_cnt (fun k => decide (f k = 103)) 12 + 1) 0 (Nat.zero_le _) (by omega)
      refine r_iinc (lv' := [(4, .int (nI ((t + 1) + 1))), (3, .int ((rfS f (nI (t + 1)) (rfT f (fa_cnt (fun k => decide (f k = 103)) 12) (ogS f (fa_fill (fun _ => -1) fl 108) 12).1 (if 0 < fa_cnt (fun k => decide (f k = 103)) 12 then 1 else 0) t).1 (fa_cnt (fun k => decide (f k = 103)) 12)).2)), (2, .int (nI (fa_cnt (fun k => decide (f k = 103)) 12))), (0, .ref m), (1, .ref b)]) (v := nI ((t + 1) + 1)) d_Mm_fill_122 (j := 1) rfl (nI_add _ _) (by decide) rfl ?_
      refine r_goto (tgt := 75) d_Mm_fill_125 (by decide) ?_
      refine r_lv (lv' := [(3, .int ((rfS f (nI (t + 1)) (rfT f (fa_cnt (fun k => decide (f k = 103)) 12) (ogS f (fa_fill (fun _ => -1) fl 108) 12).1 (if 0 < fa_cnt (fun k => decide (f k = 103)) 12 then 1 else 0) t).1 (fa_cnt (fun k => decide (f k = 103)) 12)).2)), (4, .int (nI ((t + 1) + 1))), (2, .int (nI (fa_cnt (fun k => decide (f k = 103)) 12))), (0, .ref m), (1, .ref b)]) [1, 0, 2, 3, 4] rfl ?_
      refine r_lvE (lv2 := [(3, .int ((rfT f (fa_cnt (fun k => decide (f k = 103)) 12) (ogS f (fa_fill (fun _ => -1) fl 108) 12).1 (if 0 < fa_cnt (fun k => decide (f k = 103)) 12 then 1 else 0) (t + 1)).2)), (4, .int (nI ((t + 1) + 1))), (2, .int (nI (fa_cnt (fun k => decide (f k = 103)) 12))), (0, .ref m), (1, .ref b)]) (by rw [rfT_n c_76] <;> rfl) ?_
      refine r_cs (cs2 := [(m, .inr (12, [.int th, .ref mp, .int pt, .ref mf, .ref mh, .ref mn, .ref mt, .ref mz, .ref mc_, .ref mq, .ref mgr, .int cl, .int wa, .int co_, .int fi, .int bu, .int ho, .ref ml, .ref mi, .ref mr, .int lh, .int mg, .int wd, .int fpi, .int fal, .ref mm, .ref mu, .ref mk, .ref mx, .long po, .long de])), (b, .inl (1, 108, .inl f)), (mf, .inl (0, 108, .inl ((rfT f (fa_cnt (fun k => decide (f k = 103)) 12) (ogS f (fa_fill (fun _ => -1) fl 108) 12).1 (if 0 < fa_cnt (fun k => decide (f k = 103)) 12 then 1 else 0) (t + 1)).1)))]) (by rw [rfT_n c_76] <;> rfl) ?_
      exact ih (t + 1) (by omega) (by omega)
set_option maxHeartbeats 4000000 in
set_option maxRecDepth 100000 in
theorem L_Mm_fill9_28 (g : zG) (m mp mf mh mn mt mz mc_ mq mgr ml mi mr mm mu mk mx : Nat) (th pt cl wa co_ fi bu ho lh mg wd fpi fal : Int32) (po de : Int64) (b : Nat) (f : Nat → Int32) (fl : Nat → Int32) (w0 : zW) (n : Nat) (K : DV g M_Mm_fill (fun o cs1 => o = .inl none ∧ cs1 = [(m, .inr (12, [.int th, .ref mp, .int pt, .ref mf, .ref mh, .ref mn, .ref mt, .ref mz, .ref mc_, .ref mq, .ref mgr, .int cl, .int wa, .int co_, .int fi, .int bu, .int ho, .ref ml, .ref mi, .ref mr, .int lh, .int mg, .int wd, .int fpi, .int fal, .ref mm, .ref mu, .ref mk, .ref mx, .long po, .long de])), (b, .inl (1, 108, .inl f)), (mf, .inl (0, 108, .inl (flC f fl)))]) w0 n 62 [(2, .int (nI (fa_cnt (fun k => decide (f k = 103)) 12))), (0, .ref m), (1, .ref b)] [] [(m, .inr (12, [.int th, .ref mp, .int pt, .ref mf, .ref mh, .ref mn, .ref mt, .ref mz, .ref mc_, .ref mq, .ref mgr, .int cl, .int wa, .int co_, .int fi, .int bu, .int ho, .ref ml, .ref mi, .ref mr, .int lh, .int mg, .int wd, .int fpi, .int fal, .ref mm, .ref mu, .ref mk, .ref mx, .long po, .long de])), (b, .inl (1, 108, .inl f)), (mf, .inl (0, 108, .inl ((ogS f (fa_fill (fun _ => -1) fl 108) 12).1)))] 0 0) : ∀ (d x : Nat), x ≤ 12 → 12 < x + d → (∀ k, k < x → ¬ f k = 103) → DV g M_Mm_fill (fun o cs1 => o = .inl none ∧ cs1 = [(m, .inr (12, [.int th, .ref mp, .int pt, .ref mf, .ref mh, .ref mn, .ref mt, .ref mz, .ref mc_, .ref mq, .ref mgr, .int cl, .int wa, .int co_, .int fi, .int bu, .int ho, .ref ml, .ref mi, .ref mr, .int lh, .int mg, .int wd, .int fpi, .int fal, .ref mm, .ref mu, .ref mk, .ref mx, .long po, .long de])), (b, .inl (1, 108, .inl f)), (mf, .inl (0, 108, .inl (flC f fl)))]) w0 n 28 [(3, .int (nI x)), (2, .int (nI (fa_cnt (fun k => decide (f k = 103)) 12))), (0, .ref m), (1, .ref b)] [] [(m, .inr (12, [.int th, .ref mp, .int pt, .ref mf, .ref mh, .ref mn, .ref mt, .ref mz, .ref mc_, .ref mq, .ref mgr, .int cl, .int wa, .int co_, .int fi, .int bu, .int ho, .ref ml, .ref mi, .ref mr, .int lh, .int mg, .int wd, .int fpi, .int fal, .ref mm, .ref mu, .ref mk, .ref mx, .long po, .long de])), (b, .inl (1, 108, .inl f)), (mf, .inl (0, 108, .inl (fa_fill (fun _ => -1) fl 108)))] 0 0 := by
  intro d
  induction d with
  | zero => intro x h1 h2 h3; exact absurd h2 (by omega)
  | succ d ih =>
    intro x h1 h2 h3
    refine r_iload_n d_Mm_fill_28 rfl 0 rfl ?_
    refine r_bipush d_Mm_fill_29 (v := 12) (by decide) ?_
    refine r_icmp_ge (tgt := 62) d_Mm_fill_31 (by decide) (fun c_31 => ?_) (fun c_31 => ?_)
    · have hn := z_le (a := 12) (by omega) (by decide) c_31
      obtain rfl : x = 12 := by omega
      have hog : (ogS f (fa_fill (fun _ => -1) fl 108) 12).1 = (fa_fill (fun _ => -1) fl 108) := by rw [ogS_no 12 h3]
      refine r_lv (lv' := [(2, .int (nI (fa_cnt (fun k => decide (f k = 103)) 12))), (0, .ref m), (1, .ref b)]) [1, 2, 3] rfl ?_
      refine r_cs (cs2 := [(m, .inr (12, [.int th, .ref mp, .int pt, .ref mf, .ref mh, .ref mn, .ref mt, .ref mz, .ref mc_, .ref mq, .ref mgr, .int cl, .int wa, .int co_, .int fi, .int bu, .int ho, .ref ml, .ref mi, .ref mr, .int lh, .int mg, .int wd, .int fpi, .int fal, .ref mm, .ref mu, .ref mk, .ref mx, .long po, .long de])), (b, .inl (1, 108, .inl f)), (mf, .inl (0, 108, .inl ((ogS f (fa_fill (fun _ => -1) fl 108) 12).1)))]) (by rw [hog]) ?_
      exact K
    · have hn := z_nle (a := 12) (by omega) (by decide) c_31
      refine r_iload_n d_Mm_fill_34 rfl 1 rfl ?_
      refine r_if_le (tgt := 62) d_Mm_fill_35 (by decide) (fun c_35 => ?_) (fun c_35 => ?_)
      · have hgl := fa_cnt_le (fun k => decide (f k = 103)) 12
        have hz9 := z_le (b := 0) (by decide) (by omega) c_35
        have hog : (ogS f (fa_fill (fun _ => -1) fl 108) 12).1 = (fa_fill (fun _ => -1) fl 108) := by rw [ogS_no 12 (fun k hk => of_decide_eq_false (cnt_0 (p := fun k => decide (f k = 103)) 12 (by omega) k hk))]
        refine r_lv (lv' := [(2, .int (nI (fa_cnt (fun k => decide (f k = 103)) 12))), (0, .ref m), (1, .ref b)]) [1, 2, 3] rfl ?_
        refine r_cs (cs2 := [(m, .inr (12, [.int th, .ref mp, .int pt, .ref mf, .ref mh, .ref mn, .ref mt, .ref mz, .ref mc_, .ref mq, .ref mgr, .int cl, .int wa, .int co_, .int fi, .int bu, .int ho, .ref ml, .ref mi, .ref mr, .int lh, .int mg, .int wd, .int fpi, .int fal, .ref mm, .ref mu, .ref mk, .ref mx, .long po, .long de])), (b, .inl (1, 108, .inl f)), (mf, .inl (0, 108, .inl ((ogS f (fa_fill (fun _ => -1) fl 108) 12).1)))]) (by rw [hog]) ?_
        exact K
      · refine r_aload_n d_Mm_fill_38 rfl 3 rfl ?_
        refine r_iload_n d_Mm_fill_39 rfl 0 rfl ?_
        refine r_cald d_Mm_fill_40 (q0 := 1) rfl (vp_in_nI (by omega) (by omega)) (v := f x) (by rw [nI_clamp (by omega)]) ?_
        refine r_bipush d_Mm_fill_41 (v := 103) (by decide) ?_
        refine r_icmp_ne (tgt := 56) d_Mm_fill_43 (by decide) (fun c_43 => ?_) (fun c_43 => ?_)
        · refine r_iinc (lv' := [(3, .int (nI (x + 1))), (2, .int (nI (fa_cnt (fun k => decide (f k = 103)) 12))), (0, .ref m), (1, .ref b)]) (v := nI (x + 1)) d_Mm_fill_56 (j := 0) rfl (nI_add _ _) (by decide) rfl ?_
          refine r_goto (tgt := 28) d_Mm_fill_59 (by decide) ?_
          refine r_lvE (lv2 := [(3, .int (nI (x + 1))), (2, .int (nI (fa_cnt (fun k => decide (f k = 103)) 12))), (0, .ref m), (1, .ref b)]) (rfl) ?_
          refine r_cs (cs2 := [(m, .inr (12, [.int th, .ref mp, .int pt, .ref mf, .ref mh, .ref mn, .ref mt, .ref mz, .ref mc_, .ref mq, .ref mgr, .int cl, .int wa, .int co_, .int fi, .int bu, .int ho, .ref ml, .ref mi, .ref mr, .int lh, .int mg, .int wd, .int fpi, .int fal, .ref mm, .ref mu, .ref mk, .ref mx, .long po, .long de])), (b, .inl (1, 108, .inl f)), (mf, .inl (0, 108, .inl (fa_fill (fun _ => -1) fl 108)))]) (rfl) ?_
          exact ih (x + 1) (by omega) (by omega) (fun k hk => (Nat.lt_or_ge k x).elim (h3 k) (fun q => by rw [show k = x by omega]; exact c_43))
        · have hog : (ogS f (fa_fill (fun _ => -1) fl 108) 12).1 = upd (fa_fill (fun _ => -1) fl 108) x 0 := ogS_h12 hn h3 c_43
          refine r_aload_n d_Mm_fill_46 rfl 2 rfl ?_
          refine r_get fs_Mm_17 d_Mm_fill_47 (q0 := 0) rfl rfl ?_
          refine r_iload_n d_Mm_fill_50 rfl 0 rfl ?_
          refine r_iconst d_Mm_fill_51 (v := 0) (by decide) ?_
          refine r_iast d_Mm_fill_52 (q0 := 2) rfl (vp_in_nI (by omega) (by omega)) (f' := upd (fa_fill (fun _ => -1) fl 108) x 0) (by rw [nI_clamp (by omega)] <;> rfl) (cs' := [(m, .inr (12, [.int th, .ref mp, .int pt, .ref mf, .ref mh, .ref mn, .ref mt, .ref mz, .ref mc_, .ref mq, .ref mgr, .int cl, .int wa, .int co_, .int fi, .int bu, .int ho, .ref ml, .ref mi, .ref mr, .int lh, .int mg, .int wd, .int fpi, .int fal, .ref mm, .ref mu, .ref mk, .ref mx, .long po, .long de])), (b, .inl (1, 108, .inl f)), (mf, .inl (0, 108, .inl (upd (fa_fill (fun _ => -1) fl 108) x 0)))]) rfl ?_
          refine r_goto (tgt := 62) d_Mm_fill_53 (by decide) ?_
          refine r_lv (lv' := [(2, .int (nI (fa_cnt (fun k => decide (f k = 103)) 12))), (0, .ref m), (1, .ref b)]) [1, 2, 3] rfl ?_
          refine r_cs (cs2 := [(m, .inr (12, [.int th, .ref mp, .int pt, .ref mf, .ref mh, .ref mn, .ref mt, .ref mz, .ref mc_, .ref mq, .ref mgr, .int cl, .int wa, .int co_, .int fi, .int bu, .int ho, .ref ml, .ref mi, .ref mr, .int lh, .int mg, .int wd, .int fpi, .int fal, .ref mm, .ref mu, .ref mk, .ref mx, .long po, .long de])), (b, .inl (1, 108, .inl f)), (mf, .inl (0, 108, .inl ((ogS f (fa_fill (fun _ => -1) fl 108) 12).1)))]) (by rw [hog]) ?_
          exact K
set_option maxHeartbeats 4000000 in
set_option maxRecDepth 100000 in
theorem L_Mm_fill9_2 (g : zG) (m mp mf mh mn mt mz mc_ mq mgr ml mi mr mm mu mk mx : Nat) (th pt cl wa co_ fi bu ho lh mg wd fpi fal : Int32) (po de : Int64) (b : Nat) (f : Nat → Int32) (fl : Nat → Int32) (w0 : zW) (n : Nat) : ∀ (d i : Nat), i ≤ 108 → 108 < i + d → DV g M_Mm_fill (fun o cs1 => o = .inl none ∧ cs1 = [(m, .inr (12, [.int th, .ref mp, .int pt, .ref mf, .ref mh, .ref mn, .ref mt, .ref mz, .ref mc_, .ref mq, .ref mgr, .int cl, .int wa, .int co_, .int fi, .int bu, .int ho, .ref ml, .ref mi, .ref mr, .int lh, .int mg, .int wd, .int fpi, .int fal, .ref mm, .ref mu, .ref mk, .ref mx, .long po, .long de])), (b, .inl (1, 108, .inl f)), (mf, .inl (0, 108, .inl (flC f fl)))]) w0 n 2 [(2, .int (nI i)), (0, .ref m), (1, .ref b)] [] [(m, .inr (12, [.int th, .ref mp, .int pt, .ref mf, .ref mh, .ref mn, .ref mt, .ref mz, .ref mc_, .ref mq, .ref mgr, .int cl, .int wa, .int co_, .int fi, .int bu, .int ho, .ref ml, .ref mi, .ref mr, .int lh, .int mg, .int wd, .int fpi, .int fal, .ref mm, .ref mu, .ref mk, .ref mx, .long po, .long de])), (b, .inl (1, 108, .inl f)), (mf, .inl (0, 108, .inl (fa_fill (fun _ => -1) fl i)))] 0 0 := by
  intro d
  induction d with
  | zero => intro i h1 h2 ; exact absurd h2 (by omega)
  | succ d ih =>
    intro i h1 h2 
    refine r_iload_n d_Mm_fill_2 rfl 0 rfl ?_
    refine r_bipush d_Mm_fill_3 (v := 108) (by decide) ?_
    refine r_icmp_ge (tgt := 21) d_Mm_fill_5 (by decide) (fun c_5 => ?_) (fun c_5 => ?_)
    · have hn := z_le (a := 108) (by omega) (by decide) c_5
      obtain rfl : i = 108 := by omega
      refine r_aload_n d_Mm_fill_21 rfl 2 rfl ?_
      refine r_callS (As := [.ref b]) (rest := []) (csC := [(b, .inl (1, 108, .inl f))]) (is := [1]) ln_Mm_137 w_st_Mm_gates ok_Mm_fill_Mm_gates d_Mm_fill_22 (C_Mm_gates g b f) rfl rfl (Nat.le_of_ble_eq_true rfl) rfl (by decide) (by omega) (by omega) (fun E cs1 hx => ?_) (fun v cs1 hx => ?_)
      · exact absurd hx.1 (by simp)
      · obtain ⟨e1, rfl⟩ := hx
        cases e1
        refine ⟨rfl, ?_⟩
        refine r_st (st2 := [.int (nI (fa_cnt (fun k => decide (f k = 103)) 12))]) rfl ?_
        refine r_cs (cs2 := [(m, .inr (12, [.int th, .ref mp, .int pt, .ref mf, .ref mh, .ref mn, .ref mt, .ref mz, .ref mc_, .ref mq, .ref mgr, .int cl, .int wa, .int co_, .int fi, .int bu, .int ho, .ref ml, .ref mi, .ref mr, .int lh, .int mg, .int wd, .int fpi, .int fal, .ref mm, .ref mu, .ref mk, .ref mx, .long po, .long de])), (b, .inl (1, 108, .inl f)), (mf, .inl (0, 108, .inl (fa_fill (fun _ => -1) fl 108)))]) rfl ?_
        refine r_istore_n (lv' := [(2, .int (nI (fa_cnt (fun k => decide (f k = 103)) 12))), (0, .ref m), (1, .ref b)]) d_Mm_fill_25 rfl (by decide) rfl ?_
        refine r_iconst d_Mm_fill_26 (v := 0) (by decide) ?_
        refine r_istore_n (lv' := [(3, .int 0), (2, .int (nI (fa_cnt (fun k => decide (f k = 103)) 12))), (0, .ref m), (1, .ref b)]) d_Mm_fill_27 rfl (by decide) rfl ?_
        refine r_lvE (lv2 := [(3, .int (nI 0)), (2, .int (nI (fa_cnt (fun k => decide (f k = 103)) 12))), (0, .ref m), (1, .ref b)]) (rfl) ?_
        refine r_cs (cs2 := [(m, .inr (12, [.int th, .ref mp, .int pt, .ref mf, .ref mh, .ref mn, .ref mt, .ref mz, .ref mc_, .ref mq, .ref mgr, .int cl, .int wa, .int co_, .int fi, .int bu, .int ho, .ref ml, .ref mi, .ref mr, .int lh, .int mg, .int wd, .int fpi, .int fal, .ref mm, .ref mu, .ref mk, .ref mx, .long po, .long de])), (b, .inl (1, 108, .inl f)), (mf, .inl (0, 108, .inl (fa_fill (fun _ => -1) fl 108)))]) (rfl) ?_
        refine L_Mm_fill9_28 g m mp mf mh mn mt mz mc_ mq mgr ml mi mr mm mu mk mx th pt cl wa co_ fi bu ho lh mg wd fpi fal po de b f fl w0 _   (?_) (12 + 1) 0 (Nat.zero_le _) (by omega) (fun k hk => absurd hk (Nat.not_lt_zero k))
        refine r_iload_n d_Mm_fill_62 rfl 0 rfl ?_
        refine r_if_le (tgt := 70) d_Mm_fill_63 (by decide) (fun c_63 => ?_) (fun c_63 => ?_)
        · have hgl := fa_cnt_le (fun k => decide (f k = 103)) 12
          have hz9 := z_le (b := 0) (by decide) (by omega) c_63
          have hg0 : (if 0 < fa_cnt (fun k => decide (f k = 103)) 12 then 1 else 0) = (0 : Int32) := if_neg (by omega)
          refine r_iconst d_Mm_fill_70 (v := 0) (by decide) ?_
          refine r_istore_n (lv' := [(3, .int 0), (2, .int (nI (fa_cnt (fun k => decide (f k = 103)) 12))), (0, .ref m), (1, .ref b)]) d_Mm_fill_71 rfl (by decide) rfl ?_
          refine r_iconst d_Mm_fill_72 (v := 1) (by decide) ?_
          refine r_istore (lv' := [(4, .int 1), (3, .int 0), (2, .int (nI (fa_cnt (fun k => decide (f k = 103)) 12))), (0, .ref m), (1, .ref b)]) d_Mm_fill_73 (by decide) rfl ?_
          refine r_lv (lv' := [(3, .int 0), (4, .int 1), (2, .int (nI (fa_cnt (fun k => decide (f k = 103)) 12))), (0, .ref m), (1, .ref b)]) [1, 0, 2, 3, 4] rfl ?_
          refine r_lvE (lv2 := [(3, .int ((rfT f (fa_cnt (fun k => decide (f k = 103)) 12) (ogS f (fa_fill (fun _ => -1) fl 108) 12).1 (if 0 < fa_cnt (fun k => decide (f k = 103)) 12 then 1 else 0) 0).2)), (4, .int (nI (0 + 1))), (2, .int (nI (fa_cnt (fun k => decide (f k = 103)) 12))), (0, .ref m), (1, .ref b)]) (by rw [show (rfT f (fa_cnt (fun k => decide (f k = 103)) 12) (ogS f (fa_fill (fun _ => -1) fl 108) 12).1 (if 0 < fa_cnt (fun k => decide (f k = 103)) 12 then 1 else 0) 0) = ((ogS f (fa_fill (fun _ => -1) fl 108) 12).1, (if 0 < fa_cnt (fun k => decide (f k = 103)) 12 then 1 else 0)) from rfl, hg0] <;> rfl) ?_
          refine r_cs (cs2 := [(m, .inr (12, [.int th, .ref mp, .int pt, .ref mf, .ref mh, .ref mn, .ref mt, .ref mz, .ref mc_, .ref mq, .ref mgr, .int cl, .int wa, .int co_, .int fi, .int bu, .int ho, .ref ml, .ref mi, .ref mr, .int lh, .int mg, .int wd, .int fpi, .int fal, .ref mm, .ref mu, .ref mk, .ref mx, .long po, .long de])), (b, .inl (1, 108, .inl f)), (mf, .inl (0, 108, .inl ((rfT f (fa_cnt (fun k => decide (f k = 103)) 12) (ogS f (fa_fill (fun _ => -1) fl 108) 12).1 (if 0 < fa_cnt (fun k => decide (f k = 103)) 12 then 1 else 0) 0).1)))]) (rfl) ?_
          exact L_Mm_fill9_75 g m mp mf mh mn mt mz mc_ mq mgr ml mi mr mm mu mk mx th pt cl wa co_ fi bu ho lh mg wd fpi fal po de b f fl w0 _  (109 + 1) 0 (Nat.zero_le _) (by omega)
        · have hgl := fa_cnt_le (fun k => decide (f k = 103)) 12
          have hz9 := z_nle (b := 0) (by decide) (by omega) c_63
          have hg0 : (if 0 < fa_cnt (fun k => decide (f k = 103)) 12 then 1 else 0) = (1 : Int32) := if_pos (by omega)
          refine r_iconst d_Mm_fill_66 (v := 1) (by decide) ?_
          refine r_goto (tgt := 71) d_Mm_fill_67 (by decide) ?_
          refine r_istore_n (lv' := [(3, .int 1), (2, .int (nI (fa_cnt (fun k => decide (f k = 103)) 12))), (0, .ref m), (1, .ref b)]) d_Mm_fill_71 rfl (by decide) rfl ?_
          refine r_iconst d_Mm_fill_72 (v := 1) (by decide) ?_
          refine r_istore (lv' := [(4, .int 1), (3, .int 1), (2, .int (nI (fa_cnt (fun k => decide (f k = 103)) 12))), (0, .ref m), (1, .ref b)]) d_Mm_fill_73 (by decide) rfl ?_
          refine r_lv (lv' := [(3, .int 1), (4, .int 1), (2, .int (nI (fa_cnt (fun k => decide (f k = 103)) 12))), (0, .ref m), (1, .ref b)]) [1, 0, 2, 3, 4] rfl ?_
          refine r_lvE (lv2 := [(3, .int ((rfT f (fa_cnt (fun k => decide (f k = 103)) 12) (ogS f (fa_fill (fun _ => -1) fl 108) 12).1 (if 0 < fa_cnt (fun k => decide (f k = 103)) 12 then 1 else 0) 0).2)), (4, .int (nI (0 + 1))), (2, .int (nI (fa_cnt (fun k => decide (f k = 103)) 12))), (0, .ref m), (1, .ref b)]) (by rw [show (rfT f (fa_cnt (fun k => decide (f k = 103)) 12) (ogS f (fa_fill (fun _ => -1) fl 108) 12).1 (if 0 < fa_cnt (fun k => decide (f k = 103)) 12 then 1 else 0) 0) = ((ogS f (fa_fill (fun _ => -1) fl 108) 12).1, (if 0 < fa_cnt (fun k => decide (f k = 103)) 12 then 1 else 0)) from rfl, hg0] <;> rfl) ?_
          refine r_cs (cs2 := [(m, .inr (12, [.int th, .ref mp, .int pt, .ref mf, .ref mh, .ref mn, .ref mt, .ref mz, .ref mc_, .ref mq, .ref mgr, .int cl, .int wa, .int co_, .int fi, .int bu, .int ho, .ref ml, .ref mi, .ref mr, .int lh, .int mg, .int wd, .int fpi, .int fal, .ref mm, .ref mu, .ref mk, .ref mx, .long po, .long de])), (b, .inl (1, 108, .inl f)), (mf, .inl (0, 108, .inl ((rfT f (fa_cnt (fun k => decide (f k = 103)) 12) (ogS f (fa_fill (fun _ => -1) fl 108) 12).1 (if 0 < fa_cnt (fun k => decide (f k = 103)) 12 then 1 else 0) 0).1)))]) (rfl) ?_
          exact L_Mm_fill9_75 g m mp mf mh mn mt mz mc_ mq mgr ml mi mr mm mu mk mx th pt cl wa co_ fi bu ho lh mg wd fpi fal po de b f fl w0 _  (109 + 1) 0 (Nat.zero_le _) (by omega)
    · have hn := z_nle (a := 108) (by omega) (by decide) c_5
      refine r_aload_n d_Mm_fill_8 rfl 1 rfl ?_
      refine r_get fs_Mm_17 d_Mm_fill_9 (q0 := 0) rfl rfl ?_
      refine r_iload_n d_Mm_fill_12 rfl 0 rfl ?_
      refine r_iconst d_Mm_fill_13 (v := (-1)) (by decide) ?_
      refine r_iast d_Mm_fill_14 (q0 := 2) rfl (vp_in_nI (by omega) (by omega)) (f' := fa_fill (fun _ => -1) fl (i + 1)) (by rw [nI_clamp (by omega)]; exact fill_nI (-1) fl i) (cs' := [(m, .inr (12, [.int th, .ref mp, .int pt, .ref mf, .ref mh, .ref mn, .ref mt, .ref mz, .ref mc_, .ref mq, .ref mgr, .int cl, .int wa, .int co_, .int fi, .int bu, .int ho, .ref ml, .ref mi, .ref mr, .int lh, .int mg, .int wd, .int fpi, .int fal, .ref mm, .ref mu, .ref mk, .ref mx, .long po, .long de])), (b, .inl (1, 108, .inl f)), (mf, .inl (0, 108, .inl (fa_fill (fun _ => -1) fl (i + 1))))]) rfl ?_
      refine r_iinc (lv' := [(2, .int (nI (i + 1))), (0, .ref m), (1, .ref b)]) (v := nI (i + 1)) d_Mm_fill_15 (j := 0) rfl (nI_add _ _) (by decide) rfl ?_
      refine r_goto (tgt := 2) d_Mm_fill_18 (by decide) ?_
      refine r_lvE (lv2 := [(2, .int (nI (i + 1))), (0, .ref m), (1, .ref b)]) (rfl) ?_
      refine r_cs (cs2 := [(m, .inr (12, [.int th, .ref mp, .int pt, .ref mf, .ref mh, .ref mn, .ref mt, .ref mz, .ref mc_, .ref mq, .ref mgr, .int cl, .int wa, .int co_, .int fi, .int bu, .int ho, .ref ml, .ref mi, .ref mr, .int lh, .int mg, .int wd, .int fpi, .int fal, .ref mm, .ref mu, .ref mk, .ref mx, .long po, .long de])), (b, .inl (1, 108, .inl f)), (mf, .inl (0, 108, .inl (fa_fill (fun _ => -1) fl (i + 1))))]) (rfl) ?_
      exact ih (i + 1) (by omega) (by omega)
set_option maxHeartbeats 4000000 in
set_option maxRecDepth 100000 in
theorem C_Mm_fill9 (g : zG) (m mp mf mh mn mt mz mc_ mq mgr ml mi mr mm mu mk mx : Nat) (th pt cl wa co_ fi bu ho lh mg wd fpi fal : Int32) (po de : Int64) (b : Nat) (f : Nat → Int32) (fl : Nat → Int32) : CT g M_Mm_fill [.ref m, .ref b] [(m, .inr (12, [.int th, .ref mp, .int pt, .ref mf, .ref mh, .ref mn, .ref mt, .ref mz, .ref mc_, .ref mq, .ref mgr, .int cl, .int wa, .int co_, .int fi, .int bu, .int ho, .ref ml, .ref mi, .ref mr, .int lh, .int mg, .int wd, .int fpi, .int fal, .ref mm, .ref mu, .ref mk, .ref mx, .long po, .long de])), (b, .inl (1, 108, .inl f)), (mf, .inl (0, 108, .inl fl))] (fun o cs1 => o = .inl none ∧ cs1 = [(m, .inr (12, [.int th, .ref mp, .int pt, .ref mf, .ref mh, .ref mn, .ref mt, .ref mz, .ref mc_, .ref mq, .ref mgr, .int cl, .int wa, .int co_, .int fi, .int bu, .int ho, .ref ml, .ref mi, .ref mr, .int lh, .int mg, .int wd, .int fpi, .int fal, .ref mm, .ref mu, .ref mk, .ref mx, .long po, .long de])), (b, .inl (1, 108, .inl f)), (mf, .inl (0, 108, .inl (flC f fl)))]) 0 0 := by
  refine z_of (by decide) rfl (Nat.le_of_ble_eq_true rfl) (fun w0 => ?_)
  refine r_lvE (lv2 := [(0, .ref m), (1, .ref b)]) rfl ?_
  refine r_iconst d_Mm_fill_0 (v := 0) (by decide) ?_
  refine r_istore_n (lv' := [(2, .int 0), (0, .ref m), (1, .ref b)]) d_Mm_fill_1 rfl (by decide) rfl ?_
  refine r_lvE (lv2 := [(2, .int (nI 0)), (0, .ref m), (1, .ref b)]) (rfl) ?_
  refine r_cs (cs2 := [(m, .inr (12, [.int th, .ref mp, .int pt, .ref mf, .ref mh, .ref mn, .ref mt, .ref mz, .ref mc_, .ref mq, .ref mgr, .int cl, .int wa, .int co_, .int fi, .int bu, .int ho, .ref ml, .ref mi, .ref mr, .int lh, .int mg, .int wd, .int fpi, .int fal, .ref mm, .ref mu, .ref mk, .ref mx, .long po, .long de])), (b, .inl (1, 108, .inl f)), (mf, .inl (0, 108, .inl (fa_fill (fun _ => -1) fl 0)))]) (rfl) ?_
  exact L_Mm_fill9_2 g m mp mf mh mn mt mz mc_ mq mgr ml mi mr mm mu mk mx th pt cl wa co_ fi bu ho lh mg wd fpi fal po de b f fl w0 _  (108 + 1) 0 (Nat.zero_le _) (by omega)
end
section
def eqA (a b : Nat → Int32) : Prop := ∀ k, k < 108 → a k = b k
def vlA (f a : Nat → Int32) : Prop := ∀ k, k < 108 → a k = -1 ∨ (tmB (f k) = true ∧ ∃ t : Nat, t ≤ 109 ∧ a k = nI t)
theorem vl_neg {f a : Nat → Int32} {k : Nat} (h : vlA f a) (hk : k < 108) : a k < 0 ↔ a k = -1 := by
  rcases h k hk with e | ⟨-, t, ht, e⟩
  · rw [e]; exact ⟨fun _ => rfl, fun _ => by decide⟩
  · rw [e]; exact ⟨fun q => absurd q (nI_nneg (by omega)), fun q => absurd q (nI_nm1 (by omega))⟩
theorem eq_up {a b : Nat → Int32} {c : Nat} {v : Int32} (h : eqA a b) : eqA (upd a c v) (upd b c v) := fun k hk => by
  by_cases q : k = c
  · subst q; rw [show upd a k v k = v from if_pos rfl, show upd b k v k = v from if_pos rfl]
  · rw [show upd a c v k = a k from if_neg q, show upd b c v k = b k from if_neg q]; exact h k hk
theorem vl_up {f a : Nat → Int32} {c t : Nat} (h : vlA f a) (hm : tmB (f c) = true) (ht : t ≤ 109) : vlA f (upd a c (nI t)) := fun k hk => by
  by_cases q : k = c
  · subst q; exact Or.inr ⟨hm, t, ht, if_pos rfl⟩
  · rw [show upd a c (nI t) k = a k from if_neg q]; exact h k hk
theorem bf_can {f a b : Nat → Int32} {c : Nat} {st : Int32} (he : eqA a b) (hv : vlA f b) (hc : c < 108) : ∀ s, canS a c st s = bfB b c st s
  | 0 => rfl
  | s + 1 => by
    have ih := bf_can (st := st) he hv hc s
    rw [canS, bfB, ih]
    cases e : bs c s with
    | none => rw [chkM_n e, chkF_n e]
    | some o =>
      have ho := bs_lt hc e
      rw [chkM_s e, chkF_s e, he o ho, decide_eq_decide.mpr (show (¬ b o = -1 ∧ b o < st) ↔ (¬ b o < 0 ∧ b o < st) from and_congr_left' (not_congr (vl_neg hv ho).symm))]
theorem nf_fc {f ce a b : Nat → Int32} {c : Nat} {st : Int32} (hce : eqA ce f) (he : eqA a b) (hv : vlA f b) (hc : c < 108) : nfB f a st c = true ↔ (b c < 0 ∧ tmB (ce c) = true ∧ bfB b c st 4 = true) := by
  rw [hce c hc]
  constructor
  · intro h
    obtain ⟨h1, h2, h3⟩ := nfB_p h
    exact ⟨(vl_neg hv hc).mpr ((he c hc).symm.trans h2), h1, by rw [← bf_can he hv hc]; exact h3⟩
  · intro ⟨h1, h2, h3⟩
    rw [nfB_y h2 ((he c hc).trans ((vl_neg hv hc).mp h1)), bf_can he hv hc]; exact h3
noncomputable def lsS (f : Nat → Int32) (st : Int32) (mo : Nat) (s : zF) : Nat → zF
  | 0 => s
  | n + 1 => fcS f st mo (scC n) (lsS f st mo s n)
theorem ls_r {f : Nat → Int32} {st : Int32} {mo : Nat} {s : zF} {r : Nat} : ∀ x, x ≤ 12 → frS f st mo (8 - r) (lsS f st mo s (12 * r)) x = lsS f st mo s (12 * r + x)
  | 0, _ => rfl
  | x + 1, hx => by
    rw [frS, ls_r x (by omega), show 12 * r + (x + 1) = (12 * r + x) + 1 by omega, lsS, scC_e (by omega)]
theorem ls_s {f : Nat → Int32} {st : Int32} {mo : Nat} {s : zF} : ∀ r, fsS f st mo s r = lsS f st mo s (12 * r)
  | 0 => rfl
  | r + 1 => by rw [fsS, ls_s r, ls_r 12 (Nat.le_refl _), show 12 * (r + 1) = 12 * r + 12 by omega]
theorem chkF_up {b : Nat → Int32} {c c2 : Nat} {st : Int32} {s : Nat} (hs : 0 ≤ st) (h : chkF (upd b c st) c2 st s = true) : chkF b c2 st s = true := by
  cases e : bs c2 s with
  | none => rw [chkF_n e] at h; cases h
  | some o =>
    rw [chkF_s e] at h ⊢
    have h2 := of_decide_eq_true h
    by_cases q : o = c
    · subst q
      rw [show upd b o st o = st from if_pos rfl] at h2
      exact absurd h2.2 Int32.lt_irrefl
    · rw [show upd b c st o = b o from if_neg q] at h2
      exact decide_eq_true h2
theorem bfB_up {b : Nat → Int32} {c c2 : Nat} {st : Int32} (hs : 0 ≤ st) : ∀ s, bfB (upd b c st) c2 st s = true → bfB b c2 st s = true
  | 0, h => h
  | s + 1, h => by
    rw [bfB, Bool.or_eq_true] at h ⊢
    exact h.imp (bfB_up hs s) (chkF_up hs)
theorem fl_step {f ce a b : Nat → Int32} {mo t : Nat} (hce : eqA ce f) (he : eqA a b) (hv : vlA f b) (ht : t ≤ 109) : ∀ n, n ≤ 108 → (lsS ce (nI t) mo (b, 0) n).2 ≤ mo ∧ eqA (rfS f (nI t) a (lsS ce (nI t) mo (b, 0) n).2).1 (lsS ce (nI t) mo (b, 0) n).1 ∧ vlA f (lsS ce (nI t) mo (b, 0) n).1 ∧ (rfS f (nI t) a (lsS ce (nI t) mo (b, 0) n).2).2 = (if (lsS ce (nI t) mo (b, 0) n).2 = 0 then 0 else 1) ∧ ((lsS ce (nI t) mo (b, 0) n).2 < mo → ∀ j, j < n → ¬ ((lsS ce (nI t) mo (b, 0) n).1 (scC j) < 0 ∧ tmB (ce (scC j)) = true ∧ bfB (lsS ce (nI t) mo (b, 0) n).1 (scC j) (nI t) 4 = true))
  | 0, _ => ⟨Nat.zero_le _, he, hv, rfl, fun _ j hj => absurd hj (Nat.not_lt_zero j)⟩
  | n + 1, hn => by
    have ih := fl_step (mo := mo) hce he hv ht n (by omega)
    have hst : (0 : Int32) ≤ nI t := Int32.not_lt.mp (nI_nneg (by omega))
    obtain ⟨S, hS⟩ : ∃ S, S = lsS ce (nI t) mo (b, 0) n := ⟨_, rfl⟩
    rw [← hS] at ih
    obtain ⟨i1, i2, i3, i4, i5⟩ := ih
    have hsc := scC_lt (k := n) (by omega)
    rw [lsS, ← hS]
    by_cases q : fcP ce (nI t) mo (scC n) S
    · rw [fcS_t q]
      have hin : ∀ k, k < n → nfB f (rfS f (nI t) a S.2).1 (nI t) (scC k) = false := fun k hk => Bool.eq_false_iff.mpr (fun e => i5 q.1 k hk ((nf_fc hce i2 i3 (scC_lt (by omega))).mp e))
      have hy : nfB f (rfS f (nI t) a S.2).1 (nI t) (scC n) = true := (nf_fc hce i2 i3 hsc).mpr q.2
      have hr := rfS_s (z := S.2) (a := a) (ntF_hit (by omega) hin hy)
      refine ⟨q.1, ?_, vl_up i3 (by rw [← hce _ hsc]; exact q.2.2.1) ht, ?_, fun _ j hj e => ?_⟩
      · show eqA (rfS f (nI t) a (S.2 + 1)).1 (upd S.1 (scC n) (nI t))
        rw [hr]
        exact eq_up i2
      · show (rfS f (nI t) a (S.2 + 1)).2 = if S.2 + 1 = 0 then 0 else 1
        rw [hr, if_neg (Nat.succ_ne_zero _)]
      · have e1 : upd S.1 (scC n) (nI t) (scC j) < 0 := e.1
        have e2 : bfB (upd S.1 (scC n) (nI t)) (scC j) (nI t) 4 = true := e.2.2
        by_cases z : scC j = scC n
        · rw [z, show upd S.1 (scC n) (nI t) (scC n) = nI t from if_pos rfl] at e1
          exact absurd e1 (Int32.not_lt.mpr hst)
        · rw [show upd S.1 (scC n) (nI t) (scC j) = S.1 (scC j) from if_neg z] at e1
          have hj2 : j < n := by
            rcases Nat.lt_or_ge j n with y | y
            · exact y
            · exact absurd (congrArg scC (show j = n by omega)) z
          exact i5 q.1 j hj2 ⟨e1, e.2.1, bfB_up hst 4 e2⟩
    · rw [fcS_f q]
      refine ⟨i1, i2, i3, i4, fun h j hj => ?_⟩
      rcases Nat.lt_or_ge j n with y | y
      · exact i5 h j y
      · rw [show j = n by omega]
        exact fun e => q ⟨h, e⟩
theorem fl_full {f ce a b : Nat → Int32} {mo t : Nat} (hce : eqA ce f) (he : eqA a b) (hv : vlA f b) (ht : t ≤ 109) : eqA (rfS f (nI t) a mo).1 (fsS ce (nI t) mo (b, 0) 9).1 ∧ vlA f (fsS ce (nI t) mo (b, 0) 9).1 ∧ ((rfS f (nI t) a mo).2 = 0 ↔ (fsS ce (nI t) mo (b, 0) 9).2 = 0) := by
  rw [ls_s 9]
  obtain ⟨i1, i2, i3, i4, i5⟩ := fl_step (mo := mo) hce he hv ht 108 (Nat.le_refl _)
  show eqA _ (lsS ce (nI t) mo (b, 0) 108).1 ∧ vlA f (lsS ce (nI t) mo (b, 0) 108).1 ∧ (_ ↔ (lsS ce (nI t) mo (b, 0) 108).2 = 0)
  have e : rfS f (nI t) a mo = rfS f (nI t) a (lsS ce (nI t) mo (b, 0) 108).2 := by
    by_cases q : (lsS ce (nI t) mo (b, 0) 108).2 < mo
    · have hn : ntF f (rfS f (nI t) a (lsS ce (nI t) mo (b, 0) 108).2).1 (nI t) 108 = none := ntF_n 108 (fun k hk => Bool.eq_false_iff.mpr (fun e => i5 q k hk ((nf_fc hce i2 i3 (scC_lt hk)).mp e)))
      have := rfS_stop hn (mo - (lsS ce (nI t) mo (b, 0) 108).2)
      rwa [show (lsS ce (nI t) mo (b, 0) 108).2 + (mo - (lsS ce (nI t) mo (b, 0) 108).2) = mo by omega] at this
    · rw [show (lsS ce (nI t) mo (b, 0) 108).2 = mo by omega]
  rw [e]
  refine ⟨i2, i3, ?_⟩
  rw [i4]
  by_cases q : (lsS ce (nI t) mo (b, 0) 108).2 = 0
  · rw [if_pos q]; exact ⟨fun _ => q, fun _ => rfl⟩
  · rw [if_neg q]; exact ⟨fun y => absurd y (by decide), fun y => absurd y q⟩
theorem fl_T {f ce a b : Nat → Int32} {mo : Nat} {g0 : Int32} (hce : eqA ce f) (he : eqA a b) (hv : vlA f b) (hg : g0 = 0 ↔ mo = 0) : ∀ T, T ≤ 109 → eqA (rfT f mo a g0 T).1 (fiS ce mo b T).1 ∧ vlA f (fiS ce mo b T).1 ∧ ((rfT f mo a g0 T).2 = 0 ↔ (fiS ce mo b T).2 = 0)
  | 0, _ => ⟨he, hv, hg⟩
  | T + 1, hT => by
    have ih := fl_T hce he hv hg T (by omega)
    by_cases q : (rfT f mo a g0 T).2 = 0
    · rw [rfT_z q, show fiS ce mo b (T + 1) = fiS ce mo b T from if_pos (ih.2.2.mp q)]; exact ih
    · rw [rfT_n q, fiS_n (fun y => q (ih.2.2.mpr y))]
      exact fl_full hce ih.1 ih.2.1 (by omega)
theorem rfS_0 {f a : Nat → Int32} {st : Int32} (h : ntF f a st 108 = none) (d : Nat) : rfS f st a d = (a, 0) := by
  have := rfS_stop (f := f) (st := st) (a := a) (z := 0) h d
  rw [Nat.zero_add] at this
  exact this
theorem cn_0 {a : Nat → Int32} (h : cnM a = 0) {k : Nat} (hk : k < 108) : ¬ a k = -1 := of_decide_eq_false (cnt_0 (p := fun k => decide (a k = -1)) 108 h k hk)
noncomputable def flK (f : Nat → Int32) (fi : Nat → Int32) : Nat → Int32 := flP f fi 0
theorem og_vl {f ce F : Nat → Int32} (hce : eqA ce f) (hF : ∀ k, k < 108 → F k = -1) : ∀ i, i ≤ 12 → vlA f (ogS ce F i).1
  | 0, _ => fun k hk => Or.inl (hF k hk)
  | i + 1, hi => by
    have ih := og_vl hce hF i (by omega)
    by_cases q : ce i = 103
    · rw [ogS, if_pos q]
      by_cases z : (ogS ce F i).2 = 0
      · show vlA f (if (ogS ce F i).2 = 0 then upd (ogS ce F i).1 i 0 else (ogS ce F i).1)
        rw [if_pos z]
        exact vl_up (t := 0) ih (by rw [← hce i (by omega), q]; decide) (Nat.zero_le _)
      · show vlA f (if (ogS ce F i).2 = 0 then upd (ogS ce F i).1 i 0 else (ogS ce F i).1)
        rw [if_neg z]; exact ih
    · rw [ogS, if_neg q]; exact ih
theorem gt_eq {f ce : Nat → Int32} (hce : eqA ce f) : ∀ i, i ≤ 12 → fa_cnt (fun k => decide (f k = 103)) i = fa_cnt (fun k => decide (ce k = 103)) i := fun i hi => fa_cnt_cong (fun k hk => by rw [hce k (by omega)])
theorem og_eq {f ce F G : Nat → Int32} (hce : eqA ce f) (h : eqA F G) : ∀ i, i ≤ 12 → eqA (ogS f F i).1 (ogS ce G i).1
  | 0, _ => h
  | i + 1, hi => by
    have ih := og_eq hce h i (by omega)
    have e2 : (ogS f F i).2 = (ogS ce G i).2 := (ogS_c f F i).trans ((gt_eq hce i (by omega)).trans (ogS_c ce G i).symm)
    have e3 := hce i (by omega)
    by_cases q : f i = 103
    · rw [ogS, if_pos q, ogS, if_pos (show ce i = 103 from e3.trans q)]
      show eqA (if (ogS f F i).2 = 0 then upd (ogS f F i).1 i 0 else (ogS f F i).1) (if (ogS ce G i).2 = 0 then upd (ogS ce G i).1 i 0 else (ogS ce G i).1)
      rw [e2]
      by_cases z : (ogS ce G i).2 = 0
      · rw [if_pos z, if_pos z]; exact eq_up ih
      · rw [if_neg z, if_neg z]; exact ih
    · rw [ogS, if_neg q, ogS, if_neg (show ¬ ce i = 103 from fun z => q (e3.symm.trans z))]; exact ih
theorem fill_rel {f ce : Nat → Int32} (hce : eqA ce f) (fl fi : Nat → Int32) : eqA (flC f fl) (flK ce fi) ∧ vlA f (flK ce fi) := by
  have hA : eqA (fa_fill (fun _ => -1) fl 108) (fa_fill (fun _ => -1) fi 108) := fun k hk => by rw [fa_fill_in hk, fa_fill_in hk]
  have hv := og_vl hce (F := fa_fill (fun _ => -1) fi 108) (fun k hk => fa_fill_in hk) 12 (Nat.le_refl _)
  have hg : (if 0 < fa_cnt (fun k => decide (f k = 103)) 12 then (1 : Int32) else 0) = 0 ↔ fa_cnt (fun k => decide (f k = 103)) 12 = 0 := by
    by_cases q : 0 < fa_cnt (fun k => decide (f k = 103)) 12
    · rw [if_pos q]; exact ⟨fun e => absurd e (by decide), fun e => absurd e (by omega)⟩
    · rw [if_neg q]; exact ⟨fun _ => by omega, fun _ => rfl⟩
  have key := fl_T hce (og_eq hce hA 12 (Nat.le_refl _)) hv hg
  have k7 := key 107 (by omega)
  have eK : flK ce fi = (fiS ce (fa_cnt (fun k => decide (f k = 103)) 12) (ogS ce (fa_fill (fun _ => -1) fi 108) 12).1 107).1 := by
    unfold flK flP
    rw [if_pos rfl, ogS_c, gt_eq hce 12 (Nat.le_refl _)]
  rw [eK]
  refine ⟨fun k hk => ?_, k7.2.1⟩
  rw [← k7.1 k hk]
  unfold flC
  by_cases q : (rfT f (fa_cnt (fun k => decide (f k = 103)) 12) (ogS f (fa_fill (fun _ => -1) fl 108) 12).1 (if 0 < fa_cnt (fun k => decide (f k = 103)) 12 then 1 else 0) 107).2 = 0
  · rw [show 109 = 107 + 2 from rfl, rfT_stop q 2]
  · have hm := flC_m (f := f) (fl := fl) (T := 107) (by omega) q
    have hno : ntF f (rfT f (fa_cnt (fun k => decide (f k = 103)) 12) (ogS f (fa_fill (fun _ => -1) fl 108) 12).1 (if 0 < fa_cnt (fun k => decide (f k = 103)) 12 then 1 else 0) 107).1 (nI (107 + 1)) 108 = none := ntF_n 108 (fun j hj => nfB_x (cn_0 (by omega) (scC_lt hj)))
    have h8 : rfT f (fa_cnt (fun k => decide (f k = 103)) 12) (ogS f (fa_fill (fun _ => -1) fl 108) 12).1 (if 0 < fa_cnt (fun k => decide (f k = 103)) 12 then 1 else 0) (107 + 1) = ((rfT f (fa_cnt (fun k => decide (f k = 103)) 12) (ogS f (fa_fill (fun _ => -1) fl 108) 12).1 (if 0 < fa_cnt (fun k => decide (f k = 103)) 12 then 1 else 0) 107).1, 0) := by
      rw [rfT_n q]
      exact rfS_0 hno _
    rw [show 109 = (107 + 1) + 1 from rfl, rfT_stop (by rw [h8]) 1, h8]
end
