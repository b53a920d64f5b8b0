theorem u9_eq {f : Nat → Int32} {o : Nat} {v : Int32} : upd f o v o = v := if_pos rfl
theorem u9_ne {f : Nat → Int32} {o k : Nat} {v : Int32} (h : ¬ k = o) : upd f o v k = f k := if_neg h
theorem uN9_eq {q : Nat → Nat} {t v : Nat} : updN q t v t = v := if_pos rfl
theorem uN9_ne {q : Nat → Nat} {t v k : Nat} (h : ¬ k = t) : updN q t v k = q k := if_neg h
theorem bs_symD : ∀ c, c < 108 → ∀ s, s < 4 → (bs c s).elim true (fun o => decide (bs o (3 - s) = some c)) = true := by decide +kernel
theorem bs_sym {c s o : Nat} (hc : c < 108) (hs : s < 4) (h : bs c s = some o) : bs o (3 - s) = some c := by
  have k := bs_symD c hc s hs
  rw [h] at k
  exact of_decide_eq_true k
def IO (a : Nat → Int32) : Prop := ∀ k, k < 108 → 0 < a k → bfB a k (a k) 4 = true
theorem bfB_ex {fi : Nat → Int32} {c : Nat} {st : Int32} : ∀ n, bfB fi c st n = true → ∃ s, s < n ∧ chkF fi c st s = true
  | 0, h => by cases h
  | n + 1, h => by
    have h2 : (bfB fi c st n || chkF fi c st n) = true := h
    cases e : bfB fi c st n with
    | true =>
      obtain ⟨s, h3, h4⟩ := bfB_ex n e
      exact ⟨s, by omega, h4⟩
    | false =>
      rw [e, Bool.false_or] at h2
      exact ⟨n, by omega, h2⟩
theorem chkF_keep {a : Nat → Int32} {k c s : Nat} {v st : Int32} (hc : a c < 0) (h : chkF a k v s = true) : chkF (upd a c st) k v s = true := by
  cases e : bs k s with
  | none =>
    rw [chkF_n e] at h
    cases h
  | some o =>
    rw [chkF_s e] at h ⊢
    have h2 := of_decide_eq_true h
    have ho : ¬ o = c := fun q => h2.1 (by rw [q]; exact hc)
    rw [u9_ne ho]
    exact decide_eq_true h2
theorem bfB_keep {a : Nat → Int32} {k c : Nat} {v st : Int32} (hc : a c < 0) (h : bfB a k v 4 = true) : bfB (upd a c st) k v 4 = true := by
  obtain ⟨s, h1, h2⟩ := bfB_ex 4 h
  exact bfB_hit h1 (chkF_keep hc h2)
theorem IO_up {a : Nat → Int32} {c : Nat} {st : Int32} (h : IO a) (hc : a c < 0) (hb : bfB a c st 4 = true) : IO (upd a c st) := fun k hk h0 => by
  by_cases q : k = c
  · subst q
    rw [u9_eq]
    exact bfB_keep hc hb
  · rw [u9_ne q] at h0 ⊢
    exact bfB_keep hc (h k hk h0)
theorem IO_fc {ce : Nat → Int32} {st : Int32} {mo c : Nat} {s : zF} (h : IO s.1) : IO (fcS ce st mo c s).1 := by
  by_cases q : fcP ce st mo c s
  · rw [fcS_t q]
    exact IO_up h q.2.1 q.2.2.2
  · rw [fcS_f q]
    exact h
theorem IO_fr {ce : Nat → Int32} {st : Int32} {mo row : Nat} {s : zF} (h : IO s.1) : ∀ x, IO (frS ce st mo row s x).1
  | 0 => h
  | x + 1 => IO_fc (IO_fr h x)
theorem IO_fs {ce : Nat → Int32} {st : Int32} {mo : Nat} {s : zF} (h : IO s.1) : ∀ r, IO (fsS ce st mo s r).1
  | 0 => h
  | r + 1 => IO_fr (IO_fs h r) 12
theorem IO_fi {ce : Nat → Int32} {mo : Nat} {f1 : Nat → Int32} (h : IO f1) : ∀ T, IO (fiS ce mo f1 T).1
  | 0 => h
  | T + 1 => by
    have ih := IO_fi (ce := ce) (mo := mo) h T
    by_cases q : (fiS ce mo f1 T).2 = 0
    · rw [fiS, if_pos q]
      exact ih
    · rw [fiS_n q]
      exact IO_fs (s := ((fiS ce mo f1 T).1, 0)) ih 9
theorem og_np {ce F : Nat → Int32} (hF : ∀ k, k < 108 → ¬ 0 < F k) : ∀ i, ∀ k, k < 108 → ¬ 0 < (ogS ce F i).1 k
  | 0 => hF
  | i + 1 => fun k hk => by
    have ih := og_np (ce := ce) hF i k hk
    by_cases q : ce i = 103
    · rw [ogS, if_pos q]
      show ¬ 0 < (if (ogS ce F i).2 = 0 then upd (ogS ce F i).1 i 0 else (ogS ce F i).1) k
      by_cases z : (ogS ce F i).2 = 0
      · rw [if_pos z]
        by_cases e : k = i
        · rw [e, u9_eq]
          decide
        · rw [u9_ne e]
          exact ih
      · rw [if_neg z]
        exact ih
    · rw [ogS, if_neg q]
      exact ih
theorem IO_flP {ce fi : Nat → Int32} {run : Int32} (h : ¬ run = 0 → IO fi) : IO (flP ce fi run) := by
  unfold flP
  by_cases q : run = 0
  · rw [if_pos q]
    refine IO_fi (fun k hk h0 => absurd h0 (og_np (fun j hj => ?_) 12 k hk)) 107
    rw [show fa_fill (fun _ => -1) fi 108 j = -1 from if_pos hj]
    decide
  · rw [if_neg q]
    exact h q
def CLs (fi fr : Nat → Int32) (V : Nat → Prop) : Prop := ∀ x, x < 108 → V x → ∀ s, s < 4 → ∀ o, bs x s = some o → ¬ fi o < 0 → ¬ fr o < fr x → V o
def RPs (ce fi fr : Nat → Int32) (k : Nat) : Prop := ∀ V : Nat → Prop, CLs fi fr V → V k → ∃ x, x < 108 ∧ V x ∧ ce x = 114
def FAi (ce fi : Nat → Int32) (S : zD) (i : Nat) : Prop := (∀ k, k < i → ¬ S.1 k = 0 → ¬ fi k < 0 ∧ ce k = 114) ∧ ∀ j, j < S.2.2.1 → S.2.1 j < i ∧ ¬ S.1 (S.2.1 j) = 0
theorem FAi_s {ce fi : Nat → Int32} {S0 : zD} (h0 : S0.2.2.1 = 0) : ∀ i, FAi ce fi (fdA ce fi S0 i) i
  | 0 => ⟨fun k hk => absurd hk (Nat.not_lt_zero k), fun j hj => absurd hj (by show ¬ j < S0.2.2.1; omega)⟩
  | i + 1 => by
    have ih := FAi_s (ce := ce) (fi := fi) h0 i
    by_cases q : ce i = 114 ∧ ¬ fi i < 0
    · rw [fdA_t q]
      refine ⟨fun k hk h1 => ?_, fun j hj => ?_⟩
      · by_cases e : k = i
        · rw [e]
          exact ⟨q.2, q.1⟩
        · exact ih.1 k (by omega) (by have h1 : ¬ upd (fdA ce fi S0 i).1 i 1 k = 0 := h1; rw [u9_ne e] at h1; exact h1)
      · have hj : j < (fdA ce fi S0 i).2.2.1 + 1 := hj
        show updN (fdA ce fi S0 i).2.1 (fdA ce fi S0 i).2.2.1 i j < i + 1 ∧ ¬ upd (fdA ce fi S0 i).1 i 1 (updN (fdA ce fi S0 i).2.1 (fdA ce fi S0 i).2.2.1 i j) = 0
        by_cases e : j = (fdA ce fi S0 i).2.2.1
        · rw [e, uN9_eq, u9_eq]
          exact ⟨by omega, by decide⟩
        · rw [uN9_ne e]
          have h2 := ih.2 j (by omega)
          rw [u9_ne (by omega)]
          exact ⟨by omega, h2.2⟩
    · rw [fdA_f q]
      refine ⟨fun k hk h1 => ?_, fun j hj => ?_⟩
      · have h1 : ¬ upd (fdA ce fi S0 i).1 i 0 k = 0 := h1
        by_cases e : k = i
        · rw [e, u9_eq] at h1
          exact absurd rfl h1
        · rw [u9_ne e] at h1
          exact ih.1 k (by omega) h1
      · have hj : j < (fdA ce fi S0 i).2.2.1 := hj
        have h2 := ih.2 j hj
        show (fdA ce fi S0 i).2.1 j < i + 1 ∧ ¬ upd (fdA ce fi S0 i).1 i 0 ((fdA ce fi S0 i).2.1 j) = 0
        rw [u9_ne (by omega)]
        exact ⟨by omega, h2.2⟩
def FIs (ce fi fr : Nat → Int32) (S : zD) : Prop := (∀ k, k < 108 → ¬ S.1 k = 0 → ¬ fi k < 0 ∧ RPs ce fi fr k) ∧ ∀ j, j < S.2.2.1 → S.2.1 j < 108 ∧ ¬ S.1 (S.2.1 j) = 0
theorem FIs.of {ce fi fr : Nat → Int32} {S : zD} (h : FAi ce fi S 108) : FIs ce fi fr S := ⟨fun k hk h1 => ⟨(h.1 k hk h1).1, fun V _ hV => ⟨k, hk, hV, (h.1 k hk h1).2⟩⟩, h.2⟩
theorem FIs.put {ce fi fr : Nat → Int32} {S : zD} {o : Nat} {l : Int32} (h : FIs ce fi fr S) (ho : o < 108) (hf : ¬ fi o < 0) (hr : RPs ce fi fr o) : FIs ce fi fr (upd S.1 o 1, updN S.2.1 S.2.2.1 o, S.2.2.1 + 1, l) := by
  refine ⟨fun k hk h1 => ?_, fun j hj => ?_⟩
  · have h1 : ¬ upd S.1 o 1 k = 0 := h1
    by_cases e : k = o
    · rw [e]
      exact ⟨hf, hr⟩
    · rw [u9_ne e] at h1
      exact h.1 k hk h1
  · have hj : j < S.2.2.1 + 1 := hj
    show updN S.2.1 S.2.2.1 o j < 108 ∧ ¬ upd S.1 o 1 (updN S.2.1 S.2.2.1 o j) = 0
    by_cases e : j = S.2.2.1
    · rw [e, uN9_eq, u9_eq]
      exact ⟨ho, by decide⟩
    · rw [uN9_ne e]
      have h2 := h.2 j (by omega)
      by_cases z : S.2.1 j = o
      · rw [z, u9_eq]
        exact ⟨ho, by decide⟩
      · rw [u9_ne z]
        exact h2
theorem fd_put {S : zD} {o here : Nat} {l : Int32} (h : ¬ S.1 here = 0) : ¬ (upd S.1 o 1, updN S.2.1 S.2.2.1 o, S.2.2.1 + 1, l).1 here = 0 := by
  show ¬ upd S.1 o 1 here = 0
  by_cases z : here = o
  · rw [z, u9_eq]
    decide
  · rw [u9_ne z]
    exact h
theorem FIs.J {ce fi fr : Nat → Int32} {S : zD} {here o s : Nat} (h : FIs ce fi fr S) (hh : here < 108) (hf : ¬ S.1 here = 0) (hs : s < 4) (hb : bs here s = some o) : FIs ce fi fr (fdJ ce fi fr here o S) ∧ ¬ (fdJ ce fi fr here o S).1 here = 0 := by
  have ho := bs_lt hh hb
  by_cases c : cfB S.1 fi fr here o = true ∧ S.2.2.1 < 108
  · have c1 := of_decide_eq_true c.1
    have hr : RPs ce fi fr o := fun V hV hVo => (h.1 here hh hf).2 V hV (hV o ho hVo (3 - s) (by omega) here (bs_sym hh hs hb) (h.1 here hh hf).1 c1.2.2)
    by_cases c2 : ce o = 99
    · by_cases c3 : S.2.2.2 = 0
      · rw [fdJ_1 c c2 c3]
        exact ⟨h, hf⟩
      · rw [fdJ_2 c c2 c3]
        exact ⟨h.put ho c1.2.1 hr, fd_put hf⟩
    · rw [fdJ_3 c c2]
      exact ⟨h.put ho c1.2.1 hr, fd_put hf⟩
  · rw [fdJ_0 c]
    exact ⟨h, hf⟩
theorem FIs.H {ce fi fr : Nat → Int32} {S : zD} {here : Nat} (h : FIs ce fi fr S) (hh : here < 108) (hf : ¬ S.1 here = 0) : ∀ n, n ≤ 4 → FIs ce fi fr (fdH ce fi fr here S n) ∧ ¬ (fdH ce fi fr here S n).1 here = 0
  | 0, _ => ⟨h, hf⟩
  | n + 1, hn => by
    obtain ⟨a, b⟩ := FIs.H h hh hf n (by omega)
    show FIs ce fi fr (fdI ce fi fr here n (fdH ce fi fr here S n)) ∧ ¬ (fdI ce fi fr here n (fdH ce fi fr here S n)).1 here = 0
    cases e : bs here n with
    | none =>
      rw [fdI_n e]
      exact ⟨a, b⟩
    | some o =>
      rw [fdI_s e]
      exact a.J hh b (by omega) e
theorem FIs.B {ce fi fr : Nat → Int32} {S : zD} (h : FIs ce fi fr S) : ∀ n, FIs ce fi fr (fdB ce fi fr S n)
  | 0 => h
  | n + 1 => by
    have ih := FIs.B h n
    by_cases q : n < (fdB ce fi fr S n).2.2.1
    · rw [fdB, if_pos q]
      have h2 := ih.2 n q
      exact (ih.H h2.1 h2.2 4 (Nat.le_refl _)).1
    · rw [fdB, if_neg q]
      exact ih
def ctQ9 (a : Nat → Int32) : Nat := fa_cnt (fun k => decide (¬ a k = 0)) 108
theorem cnt_set {p q : Nat → Bool} {o : Nat} (hp : p o = false) (hq : q o = true) (hn : ∀ k, ¬ k = o → p k = q k) : ∀ n, (n ≤ o → fa_cnt q n = fa_cnt p n) ∧ (o < n → fa_cnt q n = fa_cnt p n + 1)
  | 0 => ⟨fun _ => rfl, fun h => absurd h (Nat.not_lt_zero o)⟩
  | n + 1 => by
    obtain ⟨a, b⟩ := cnt_set hp hq hn n
    by_cases e : n = o
    · refine ⟨fun h => absurd h (by omega), fun _ => ?_⟩
      rw [fa_cnt_yes (by rw [e]; exact hq), fa_cnt_no (p := p) (by rw [e]; exact hp), a (by omega)]
    · refine ⟨fun h => ?_, fun h => ?_⟩
      · cases z : p n with
        | true => rw [fa_cnt_yes z, fa_cnt_yes (by rw [← hn n e]; exact z), a (by omega)]
        | false => rw [fa_cnt_no z, fa_cnt_no (by rw [← hn n e]; exact z), a (by omega)]
      · cases z : p n with
        | true => rw [fa_cnt_yes z, fa_cnt_yes (by rw [← hn n e]; exact z), b (by omega)]
        | false => rw [fa_cnt_no z, fa_cnt_no (by rw [← hn n e]; exact z), b (by omega)]
theorem cnt_lt9 {p : Nat → Bool} {o : Nat} (hp : p o = false) : ∀ n, o < n → fa_cnt p n + 1 ≤ n
  | 0, h => absurd h (Nat.not_lt_zero o)
  | n + 1, h => by
    by_cases e : n = o
    · rw [fa_cnt_no (by rw [e]; exact hp)]
      have := fa_cnt_le p n
      omega
    · have ih := cnt_lt9 hp n (by omega)
      cases z : p n with
      | true => rw [fa_cnt_yes z]; omega
      | false => rw [fa_cnt_no z]; omega
theorem cnt_ps {p : Nat → Bool} {o : Nat} (hp : p o = true) : ∀ n, o < n → 1 ≤ fa_cnt p n
  | 0, h => absurd h (Nat.not_lt_zero o)
  | n + 1, h => by
    by_cases e : n = o
    · rw [fa_cnt_yes (by rw [e]; exact hp)]
      omega
    · have ih := cnt_ps hp n (by omega)
      cases z : p n with
      | true => rw [fa_cnt_yes z]; omega
      | false => rw [fa_cnt_no z]; exact ih
theorem ctQ9_up {a : Nat → Int32} {o : Nat} (ho : o < 108) (h : a o = 0) : ctQ9 (upd a o 1) = ctQ9 a + 1 := (cnt_set (p := fun k => decide (¬ a k = 0)) (q := fun k => decide (¬ upd a o 1 k = 0)) (o := o) (decide_eq_false (fun q => q h)) (by show decide (¬ upd a o 1 o = 0) = true; rw [u9_eq]; decide) (fun k hk => by show decide (¬ a k = 0) = decide (¬ upd a o 1 k = 0); rw [u9_ne hk]) 108).2 ho
def W3 (Q : zQ) : Prop := Q.1 ≤ ctQ9 Q.2.1 ∧ (∀ j, j < Q.1 → Q.2.2 j < 108 ∧ ¬ Q.2.1 (Q.2.2 j) = 0) ∧ ∀ x, x < 108 → ¬ Q.2.1 x = 0 → ∃ j, j < Q.1 ∧ Q.2.2 j = x
def WM (Q R : zQ) : Prop := Q.1 ≤ R.1 ∧ (∀ j, j < Q.1 → R.2.2 j = Q.2.2 j) ∧ ∀ x, ¬ Q.2.1 x = 0 → ¬ R.2.1 x = 0
theorem WM.refl (Q : zQ) : WM Q Q := ⟨Nat.le_refl _, fun _ _ => rfl, fun _ h => h⟩
theorem WM.trans {Q R T : zQ} (h : WM Q R) (k : WM R T) : WM Q T := ⟨Nat.le_trans h.1 k.1, fun j hj => (k.2.1 j (by have := h.1; omega)).trans (h.2.1 j hj), fun x hx => k.2.2 x (h.2.2 x hx)⟩
theorem W3.J {fi fr : Nat → Int32} {here o : Nat} {Q : zQ} (h : W3 Q) (ho : o < 108) : W3 (wyJ fi fr here o Q) ∧ WM Q (wyJ fi fr here o Q) ∧ (¬ fi o < 0 → ¬ fr o < fr here → ¬ (wyJ fi fr here o Q).2.1 o = 0) := by
  by_cases c : cbB Q.2.1 fi fr o here = true ∧ Q.1 < 108
  · rw [wyJ_t c]
    have c1 := of_decide_eq_true c.1
    refine ⟨⟨?_, fun j hj => ?_, fun x hx h1 => ?_⟩, ⟨by show Q.1 ≤ Q.1 + 1; omega, fun j hj => ?_, fun x hx => ?_⟩, fun _ _ => ?_⟩
    · show Q.1 + 1 ≤ ctQ9 (upd Q.2.1 o 1)
      rw [ctQ9_up ho c1.1]
      have := h.1
      omega
    · have hj : j < Q.1 + 1 := hj
      show updN Q.2.2 Q.1 o j < 108 ∧ ¬ upd Q.2.1 o 1 (updN Q.2.2 Q.1 o j) = 0
      by_cases e : j = Q.1
      · rw [e, uN9_eq, u9_eq]
        exact ⟨ho, by decide⟩
      · rw [uN9_ne e]
        have h2 := h.2.1 j (by omega)
        by_cases z : Q.2.2 j = o
        · rw [z, u9_eq]
          exact ⟨ho, by decide⟩
        · rw [u9_ne z]
          exact h2
    · have h1 : ¬ upd Q.2.1 o 1 x = 0 := h1
      show ∃ j, j < Q.1 + 1 ∧ updN Q.2.2 Q.1 o j = x
      by_cases e : x = o
      · exact ⟨Q.1, by omega, by rw [uN9_eq, e]⟩
      · rw [u9_ne e] at h1
        obtain ⟨j, h3, h4⟩ := h.2.2 x hx h1
        exact ⟨j, by omega, by rw [uN9_ne (by omega)]; exact h4⟩
    · show updN Q.2.2 Q.1 o j = Q.2.2 j
      exact uN9_ne (by omega)
    · show ¬ upd Q.2.1 o 1 x = 0
      by_cases e : x = o
      · rw [e, u9_eq]
        decide
      · rw [u9_ne e]
        exact hx
    · show ¬ upd Q.2.1 o 1 o = 0
      rw [u9_eq]
      decide
  · rw [wyJ_f c]
    refine ⟨h, WM.refl Q, fun a b z => c ⟨decide_eq_true ⟨z, a, b⟩, ?_⟩⟩
    have h2 := cnt_lt9 (p := fun k => decide (¬ Q.2.1 k = 0)) (o := o) (decide_eq_false (fun q => q z)) 108 ho
    have h3 : Q.1 ≤ fa_cnt (fun k => decide (¬ Q.2.1 k = 0)) 108 := h.1
    omega
theorem W3.H {fi fr : Nat → Int32} {here : Nat} {Q : zQ} (h : W3 Q) (hh : here < 108) : ∀ n, n ≤ 4 → W3 (wyH fi fr here Q n) ∧ WM Q (wyH fi fr here Q n) ∧ ∀ s, s < n → ∀ o, bs here s = some o → ¬ fi o < 0 → ¬ fr o < fr here → ¬ (wyH fi fr here Q n).2.1 o = 0
  | 0, _ => ⟨h, WM.refl Q, fun s hs => absurd hs (Nat.not_lt_zero s)⟩
  | n + 1, hn => by
    obtain ⟨a, b, c⟩ := W3.H (fi := fi) (fr := fr) h hh n (by omega)
    show W3 (wyI fi fr here n (wyH fi fr here Q n)) ∧ WM Q (wyI fi fr here n (wyH fi fr here Q n)) ∧ ∀ s, s < n + 1 → ∀ o, bs here s = some o → ¬ fi o < 0 → ¬ fr o < fr here → ¬ (wyI fi fr here n (wyH fi fr here Q n)).2.1 o = 0
    cases e : bs here n with
    | none =>
      rw [wyI_n e]
      refine ⟨a, b, fun s hs o h1 h2 h3 => ?_⟩
      by_cases z : s = n
      · rw [z, e] at h1
        cases h1
      · exact c s (by omega) o h1 h2 h3
    | some o9 =>
      rw [wyI_s e]
      obtain ⟨a2, b2, c2⟩ := a.J (fi := fi) (fr := fr) (here := here) (bs_lt hh e)
      refine ⟨a2, b.trans b2, fun s hs o h1 h2 h3 => ?_⟩
      by_cases z : s = n
      · rw [z, e] at h1
        obtain rfl := Option.some.inj h1
        exact c2 h2 h3
      · exact b2.2.2 o (c s (by omega) o h1 h2 h3)
theorem W3.B {ce fi fr : Nat → Int32} {Q0 : zQ} (h : W3 Q0) : ∀ n, (wyB ce fi fr Q0 n).1 = false → W3 (wyB ce fi fr Q0 n).2 ∧ WM Q0 (wyB ce fi fr Q0 n).2 ∧ ∀ j, j < n → j < (wyB ce fi fr Q0 n).2.1 → ¬ ce ((wyB ce fi fr Q0 n).2.2.2 j) = 114 ∧ ∀ s, s < 4 → ∀ o, bs ((wyB ce fi fr Q0 n).2.2.2 j) s = some o → ¬ fi o < 0 → ¬ fr o < fr ((wyB ce fi fr Q0 n).2.2.2 j) → ¬ (wyB ce fi fr Q0 n).2.2.1 o = 0
  | 0, _ => ⟨h, WM.refl Q0, fun j hj => absurd hj (Nat.not_lt_zero j)⟩
  | n + 1, hf => by
    have ih := W3.B (ce := ce) (fi := fi) (fr := fr) h n
    by_cases q : (wyB ce fi fr Q0 n).1 = true ∨ ¬ n < (wyB ce fi fr Q0 n).2.1
    · have es : wyB ce fi fr Q0 (n + 1) = wyB ce fi fr Q0 n := by rw [wyB, if_pos q]
      rw [es] at hf ⊢
      obtain ⟨a, b, c⟩ := ih hf
      refine ⟨a, b, fun j hj h1 => c j ?_ h1⟩
      rcases q with q | q
      · rw [hf] at q
        cases q
      · omega
    · by_cases q2 : ce ((wyB ce fi fr Q0 n).2.2.2 n) = 114
      · rw [wyB_r q q2] at hf
        cases hf
      · have hn : n < (wyB ce fi fr Q0 n).2.1 := Classical.byContradiction (fun z => q (Or.inr z))
        have hF : (wyB ce fi fr Q0 n).1 = false := by
          cases z : (wyB ce fi fr Q0 n).1 with
          | true => exact absurd (Or.inl z) q
          | false => rfl
        obtain ⟨a, b, c⟩ := ih hF
        have h2 := a.2.1 n hn
        obtain ⟨a2, b2, c2⟩ := a.H (fi := fi) (fr := fr) h2.1 4 (Nat.le_refl _)
        rw [wyB_n q q2]
        refine ⟨a2, b.trans b2, fun j hj h1 => ?_⟩
        by_cases z : j = n
        · rw [z]
          show ¬ ce ((wyH fi fr ((wyB ce fi fr Q0 n).2.2.2 n) (wyB ce fi fr Q0 n).2 4).2.2 n) = 114 ∧ ∀ s, s < 4 → ∀ o, bs ((wyH fi fr ((wyB ce fi fr Q0 n).2.2.2 n) (wyB ce fi fr Q0 n).2 4).2.2 n) s = some o → ¬ fi o < 0 → ¬ fr o < fr ((wyH fi fr ((wyB ce fi fr Q0 n).2.2.2 n) (wyB ce fi fr Q0 n).2 4).2.2 n) → ¬ (wyH fi fr ((wyB ce fi fr Q0 n).2.2.2 n) (wyB ce fi fr Q0 n).2 4).2.1 o = 0
          rw [b2.2.1 n hn]
          exact ⟨q2, c2⟩
        · have hj2 : j < (wyB ce fi fr Q0 n).2.1 := by omega
          obtain ⟨d1, d2⟩ := c j (by omega) hj2
          show ¬ ce ((wyH fi fr ((wyB ce fi fr Q0 n).2.2.2 n) (wyB ce fi fr Q0 n).2 4).2.2 j) = 114 ∧ ∀ s, s < 4 → ∀ o, bs ((wyH fi fr ((wyB ce fi fr Q0 n).2.2.2 n) (wyB ce fi fr Q0 n).2 4).2.2 j) s = some o → ¬ fi o < 0 → ¬ fr o < fr ((wyH fi fr ((wyB ce fi fr Q0 n).2.2.2 n) (wyB ce fi fr Q0 n).2 4).2.2 j) → ¬ (wyH fi fr ((wyB ce fi fr Q0 n).2.2.2 n) (wyB ce fi fr Q0 n).2 4).2.1 o = 0
          rw [b2.2.1 j hj2]
          exact ⟨d1, fun s hs o k1 k2 k3 => b2.2.2 o (d2 s hs o k1 k2 k3)⟩
theorem hw_way {ce fi fr : Nat → Int32} {k : Nat} (hk : k < 108) (hr : RPs ce fi fr k) (seen : Nat → Int32) (qn : Nat → Nat) : (hwB ce fi fr seen qn k).1 = true := by
  cases e : (hwB ce fi fr seen qn k).1 with
  | true => rfl
  | false =>
    exfalso
    have hz : ∀ x, x < 108 → fa_fill (fun _ => (0 : Int32)) seen 108 x = 0 := fun x hx => if_pos hx
    have h0 : W3 (1, upd (fa_fill (fun _ => 0) seen 108) k 1, updN qn 0 k) := by
      refine ⟨?_, fun j hj => ?_, fun x hx h1 => ⟨0, Nat.zero_lt_one, ?_⟩⟩
      · exact cnt_ps (p := fun x => decide (¬ upd (fa_fill (fun _ => (0 : Int32)) seen 108) k 1 x = 0)) (o := k) (by show decide (¬ upd (fa_fill (fun _ => (0 : Int32)) seen 108) k 1 k = 0) = true; rw [u9_eq]; decide) 108 hk
      · have hj : j < 1 := hj
        obtain rfl : j = 0 := by omega
        show updN qn 0 k 0 < 108 ∧ ¬ upd (fa_fill (fun _ => (0 : Int32)) seen 108) k 1 (updN qn 0 k 0) = 0
        rw [uN9_eq, u9_eq]
        exact ⟨hk, by decide⟩
      · have h1 : ¬ upd (fa_fill (fun _ => (0 : Int32)) seen 108) k 1 x = 0 := h1
        show updN qn 0 k 0 = x
        rw [uN9_eq]
        by_cases z : x = k
        · exact z.symm
        · rw [u9_ne z] at h1
          exact absurd (hz x hx) h1
    have e2 : (wyB ce fi fr (1, upd (fa_fill (fun _ => 0) seen 108) k 1, updN qn 0 k) 108).1 = false := e
    obtain ⟨a, b, c⟩ := W3.B (ce := ce) (fi := fi) (fr := fr) h0 108 e2
    have hl : (wyB ce fi fr (1, upd (fa_fill (fun _ => 0) seen 108) k 1, updN qn 0 k) 108).2.1 ≤ 108 := Nat.le_trans a.1 (fa_cnt_le _ 108)
    obtain ⟨x, h1, h2, h3⟩ := hr (fun x => x < 108 ∧ ¬ (wyB ce fi fr (1, upd (fa_fill (fun _ => 0) seen 108) k 1, updN qn 0 k) 108).2.2.1 x = 0) (fun x hx hv s hs o k1 k2 k3 => by
      obtain ⟨j, j1, j2⟩ := a.2.2 x hx hv.2
      have := (c j (by omega) j1).2 s hs o (by rw [j2]; exact k1) k2 (by rw [j2]; exact k3)
      exact ⟨bs_lt hx k1, this⟩) ⟨hk, b.2.2 k (by show ¬ upd (fa_fill (fun _ => (0 : Int32)) seen 108) k 1 k = 0; rw [u9_eq]; decide)⟩
    obtain ⟨j, j1, j2⟩ := a.2.2 x h1 h2.2
    exact (c j (by omega) j1).1 (by rw [j2]; exact h3)
def TIX (X : zTr) (P : Nat → Int32) : Prop := (∀ k, k < 108 → X.1.1 k = P k) ∧ (¬ X.1.2.2.1 = 0 → IO X.1.2.1 ∧ ∃ fi0 : Nat → Int32, ∀ k, k < 108 → X.1.2.1 k = flP X.1.1 fi0 0 k) ∧ (¬ X.1.2.2.2 = 0 → ¬ X.1.2.2.1 = 0 ∧ ∀ k, k < 108 → ¬ X.2.2.1 k = 0 → ∀ seen qn, (hwB X.1.1 X.1.2.1 X.2.1.1.1.2.2.1 seen qn k).1 = true)
theorem flR_n {r : Int32} : ¬ flR r = 0 := by
  unfold flR
  by_cases q : r = 0
  · rw [if_pos q]
    decide
  · rw [if_neg q]
    exact q
theorem flP_0 {ce fi : Nat → Int32} {r : Int32} (h : ¬ r = 0) : flP ce fi r = fi := if_neg h
theorem TIX_f2 {X : zTr} {P : Nat → Int32} (h : TIX X P) : IO (flP X.1.1 X.1.2.1 X.1.2.2.1) ∧ ∃ fi0 : Nat → Int32, ∀ k, k < 108 → flP X.1.1 X.1.2.1 X.1.2.2.1 k = flP X.1.1 fi0 0 k := by
  refine ⟨IO_flP (fun q => (h.2.1 q).1), ?_⟩
  by_cases q : X.1.2.2.1 = 0
  · exact ⟨X.1.2.1, fun k hk => by rw [q]⟩
  · rw [flP_0 q]
    exact (h.2.1 q).2
theorem TIX_fl {X : zTr} {P : Nat → Int32} (h : TIX X P) : TIX (flT X) P := by
  refine ⟨h.1, fun _ => TIX_f2 h, fun q => ⟨flR_n, fun k hk h1 seen qn => ?_⟩⟩
  obtain ⟨a, b⟩ := h.2.2 q
  show (hwB X.1.1 (flP X.1.1 X.1.2.1 X.1.2.2.1) X.2.1.1.1.2.2.1 seen qn k).1 = true
  rw [flP_0 a]
  exact b k hk h1 seen qn
theorem TIX_mk {c f A6 A7 fed B1 : Nat → Int32} {r h : Int32} {Z : zS5} {B2 : Nat → Nat} {P : Nat → Int32} (h1 : ∀ k, k < 108 → c k = P k) (h2 : IO f ∧ ∃ fi0 : Nat → Int32, ∀ k, k < 108 → f k = flP c fi0 0 k) (h3 : ¬ r = 0) (h4 : ∀ k, k < 108 → ¬ fed k = 0 → ∀ seen qn, (hwB c f Z.1.2.2.1 seen qn k).1 = true) : TIX ((c, f, r, h), (Z, A6, A7), (fed, B1, B2)) P := ⟨h1, fun _ => h2, fun _ => ⟨h3, h4⟩⟩
theorem fr_way {ce fi fr a : Nat → Int32} {q : Nat → Nat} (k : Nat) (hk : k < 108) (h1 : ¬ (fdB ce fi fr (fdA ce fi (a, q, 0, 0) 108) 108).1 k = 0) (seen : Nat → Int32) (qn : Nat → Nat) : (hwB ce fi fr seen qn k).1 = true := hw_way hk (((FIs.of (FAi_s (S0 := (a, q, 0, 0)) rfl 108)).B 108).1 k hk h1).2 seen qn
theorem TIX_frN {X : zTr} {P : Nat → Int32} (hh : Int32) (h : TIX X P) : TIX (frN hh X) P := by
  unfold frN
  exact TIX_mk h.1 (TIX_f2 h) flR_n (fun k hk h1 seen qn => fr_way k hk h1 seen qn)
theorem TIX_fr {X : zTr} {P : Nat → Int32} (hh : Int32) (h : TIX X P) : TIX (frT hh X) P := by
  unfold frT
  by_cases q : X.1.2.2.2 = hh
  · rw [if_pos q]
    exact h
  · rw [if_neg q]
    exact TIX_frN hh h
theorem TIX_tk {X : zTr} {f P : Nat → Int32} (h : ∀ k, k < 108 → f k = P k) : TIX (tkT f X) P := ⟨fun k hk => (show fa_fill f X.1.1 108 k = f k from if_pos hk).trans (h k hk), fun q => absurd rfl q, fun q => absurd rfl q⟩
theorem prow_z9 {k : Int32} {b : Nat} {s : (Nat → Int32) × Nat} : ∀ j, s.2 ≤ (prow k b s j).2 ∧ ((prow k b s j).2 = s.2 → (prow k b s j).1 = s.1)
  | 0 => ⟨Nat.le_refl _, fun _ => rfl⟩
  | j + 1 => by
    obtain ⟨a, c⟩ := prow_z9 (k := k) (b := b) (s := s) j
    by_cases q : (prow k b s j).1 (b + j) = k
    · rw [prow_t q]
      exact ⟨a, c⟩
    · rw [prow_f q]
      refine ⟨by show s.2 ≤ (prow k b s j).2 + 1; omega, fun h => ?_⟩
      have h : (prow k b s j).2 + 1 = s.2 := h
      omega
theorem prect_z9 {k : Int32} {a b u : Nat} {s : (Nat → Int32) × Nat} : ∀ v, s.2 ≤ (prect k a b u s v).2 ∧ ((prect k a b u s v).2 = s.2 → (prect k a b u s v).1 = s.1)
  | 0 => ⟨Nat.le_refl _, fun _ => rfl⟩
  | v + 1 => by
    obtain ⟨c, d⟩ := prect_z9 (k := k) (a := a) (b := b) (u := u) (s := s) v
    obtain ⟨e, f⟩ := prow_z9 (k := k) (b := 12 * (b + v) + a) (s := prect k a b u s v) u
    show s.2 ≤ (prow k (12 * (b + v) + a) (prect k a b u s v) u).2 ∧ ((prow k (12 * (b + v) + a) (prect k a b u s v) u).2 = s.2 → (prow k (12 * (b + v) + a) (prect k a b u s v) u).1 = s.1)
    exact ⟨by omega, fun h => by rw [f (by omega), d (by omega)]⟩
theorem TIX_cg {X : zTr} {P Q : Nat → Int32} (h : TIX X P) (e : P = Q) : TIX X Q := by
  subst e
  exact h
theorem prect_0 {k : Int32} {a b u v : Nat} {f : Nat → Int32} (h : (prect k a b u (f, 0) v).2 = 0) : f = (prect k a b u (f, 0) v).1 := ((prect_z9 (k := k) (a := a) (b := b) (u := u) (s := (f, 0)) v).2 h).symm
