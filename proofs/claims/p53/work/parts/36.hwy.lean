def AQ (Q R : zQ) : Prop := Q.1 = R.1 ∧ Ag 108 Q.2.1 R.2.1 ∧ ∀ j, j < Q.1 → Q.2.2 j = R.2.2 j
theorem wyJ_ag {fi gi fr gr : Nat → Int32} {here o : Nat} {Q R : zQ} (hh : here < 108) (ho : o < 108) (hf : Ag 108 fi gi) (hr : Ag 108 fr gr) (h : AQ Q R) : AQ (wyJ fi fr here o Q) (wyJ gi gr here o R) := by
  obtain ⟨a, b, c⟩ := h
  have e : cbB Q.2.1 fi fr o here = cbB R.2.1 gi gr o here := by
    unfold cbB
    rw [b o ho, hf o ho, hr o ho, hr here hh]
  by_cases q : cbB Q.2.1 fi fr o here = true ∧ Q.1 < 108
  · have q2 : cbB R.2.1 gi gr o here = true ∧ R.1 < 108 := by rw [← e, ← a]; exact q
    rw [wyJ_t q, wyJ_t q2]
    exact ⟨by show Q.1 + 1 = R.1 + 1; rw [a], b.up rfl, aq_ps c a⟩
  · have q2 : ¬ (cbB R.2.1 gi gr o here = true ∧ R.1 < 108) := by rw [← e, ← a]; exact q
    rw [wyJ_f q, wyJ_f q2]
    exact ⟨a, b, c⟩
theorem wyH_ag {fi gi fr gr : Nat → Int32} {here : Nat} {Q R : zQ} (hh : here < 108) (hf : Ag 108 fi gi) (hr : Ag 108 fr gr) (h : AQ Q R) : ∀ n, AQ (wyH fi fr here Q n) (wyH gi gr here R n)
  | 0 => h
  | n + 1 => by
    have ih := wyH_ag hh hf hr h n
    show AQ (wyI fi fr here n (wyH fi fr here Q n)) (wyI gi gr here n (wyH gi gr here R n))
    cases e : bs here n with
    | none =>
      rw [wyI_n e, wyI_n e]
      exact ih
    | some o =>
      rw [wyI_s e, wyI_s e]
      exact wyJ_ag hh (bs_lt hh e) hf hr ih
theorem wyB_ag {ce de fi gi fr gr : Nat → Int32} {Q R : zQ} (hd : Ag 108 ce de) (hf : Ag 108 fi gi) (hr : Ag 108 fr gr) (h : AQ Q R) (hk : Qok Q) : ∀ n, (wyB ce fi fr Q n).1 = (wyB de gi gr R n).1 ∧ AQ (wyB ce fi fr Q n).2 (wyB de gi gr R n).2
  | 0 => ⟨rfl, h⟩
  | n + 1 => by
    obtain ⟨e, a⟩ := wyB_ag hd hf hr h hk n
    by_cases q : (wyB ce fi fr Q n).1 = true ∨ ¬ n < (wyB ce fi fr Q n).2.1
    · have q2 : (wyB de gi gr R n).1 = true ∨ ¬ n < (wyB de gi gr R n).2.1 := by rw [← e, ← a.1]; exact q
      rw [wyB_stop q 1, wyB_stop q2 1]
      exact ⟨e, a⟩
    · have q2 : ¬ ((wyB de gi gr R n).1 = true ∨ ¬ n < (wyB de gi gr R n).2.1) := by rw [← e, ← a.1]; exact q
      have hn : n < (wyB ce fi fr Q n).2.1 := Classical.byContradiction (fun z => q (Or.inr z))
      have e9 := a.2.2 n hn
      have hl := (wyB_ok (ce := ce) (fi := fi) (fr := fr) hk n).2 n hn
      by_cases z : ce ((wyB ce fi fr Q n).2.2.2 n) = 114
      · have z2 : de ((wyB de gi gr R n).2.2.2 n) = 114 := by rw [← e9, ← hd _ hl]; exact z
        rw [wyB_r q z, wyB_r q2 z2]
        exact ⟨rfl, a⟩
      · have z2 : ¬ de ((wyB de gi gr R n).2.2.2 n) = 114 := by rw [← e9, ← hd _ hl]; exact z
        rw [wyB_n q z, wyB_n q2 z2, ← e9]
        exact ⟨rfl, wyH_ag hl hf hr a 4⟩
theorem hwB_ag {ce de fi gi fr gr : Nat → Int32} (hd : Ag 108 ce de) (hf : Ag 108 fi gi) (hr : Ag 108 fr gr) {k : Nat} (hk : k < 108) (s1 s2 : Nat → Int32) (q1 q2 : Nat → Nat) : (hwB ce fi fr s1 q1 k).1 = (hwB de gi gr s2 q2 k).1 := by
  have h0 : Ag 108 (fa_fill (fun _ => (0 : Int32)) s1 108) (fa_fill (fun _ => (0 : Int32)) s2 108) := fun x hx => by rw [fa_fill_in hx, fa_fill_in hx]
  have hq : AQ (1, upd (fa_fill (fun _ => (0 : Int32)) s1 108) k 1, updN q1 0 k) (1, upd (fa_fill (fun _ => (0 : Int32)) s2 108) k 1, updN q2 0 k) := ⟨rfl, h0.up rfl, fun j hj => by
    have hj : j < 1 := hj
    obtain rfl : j = 0 := by omega
    show updN q1 0 k 0 = updN q2 0 k 0
    rw [uNx_eq, uNx_eq]⟩
  have hok : Qok (1, upd (fa_fill (fun _ => (0 : Int32)) s1 108) k 1, updN q1 0 k) := ⟨by show 1 ≤ 108; omega, fun j hj => by
    have hj : j < 1 := hj
    obtain rfl : j = 0 := by omega
    show updN q1 0 k 0 < 108
    rw [uNx_eq]
    exact hk⟩
  unfold hwB
  exact (wyB_ag hd hf hr hq hok 108).1
def WN (fi fed : Nat → Int32) (Q : zQ) : Prop := (∀ x, x < 108 → ¬ Q.2.1 x = 0 → fed x = 0 ∧ ¬ fi x < 0) ∧ ∀ j, j < Q.1 → Q.2.2 j < 108 ∧ ¬ Q.2.1 (Q.2.2 j) = 0
def CL9 (fi fr fed : Nat → Int32) : Prop := ∀ k, k < 108 → ¬ fed k = 0 → ∀ s, s < 4 → ∀ o, bs k s = some o → ¬ fi o < 0 → ¬ fr k < fr o → ¬ fed o = 0
theorem WN.J {fi fr fed : Nat → Int32} {here o s : Nat} {Q : zQ} (hc : CL9 fi fr fed) (h : WN fi fed Q) (hh : here < 108) (h1 : ¬ Q.2.1 here = 0) (hs : s < 4) (hb : bs here s = some o) : WN fi fed (wyJ fi fr here o Q) ∧ ¬ (wyJ fi fr here o Q).2.1 here = 0 := by
  have ho := bs_lt hh hb
  by_cases c : cbB Q.2.1 fi fr o here = true ∧ Q.1 < 108
  · have c1 := of_decide_eq_true c.1
    rw [wyJ_t c]
    refine ⟨⟨fun x hx h2 => ?_, fun j hj => ?_⟩, upd1_nz h1⟩
    · have h2 : ¬ upd Q.2.1 o 1 x = 0 := h2
      by_cases z : x = o
      · rw [z]
        exact ⟨Classical.byContradiction (fun y => hc o ho y (3 - s) (by omega) here (bs_sym hh hs hb) (h.1 here hh h1).2 c1.2.2 (h.1 here hh h1).1), c1.2.1⟩
      · rw [ux_ne z] at h2
        exact h.1 x hx h2
    · have hj : j < Q.1 + 1 := hj
      show updN Q.2.2 Q.1 o j < 108 ∧ ¬ upd Q.2.1 o 1 (updN Q.2.2 Q.1 o j) = 0
      by_cases z : j = Q.1
      · rw [z, uNx_eq, ux_eq]
        exact ⟨ho, by decide⟩
      · rw [uNx_ne z]
        have h2 := h.2 j (by omega)
        exact ⟨h2.1, upd1_nz h2.2⟩
  · rw [wyJ_f c]
    exact ⟨h, h1⟩
theorem WN.H {fi fr fed : Nat → Int32} {here : Nat} {Q : zQ} (hc : CL9 fi fr fed) (h : WN fi fed Q) (hh : here < 108) (h1 : ¬ Q.2.1 here = 0) : ∀ n, n ≤ 4 → WN fi fed (wyH fi fr here Q n) ∧ ¬ (wyH fi fr here Q n).2.1 here = 0
  | 0, _ => ⟨h, h1⟩
  | n + 1, hn => by
    obtain ⟨a, b⟩ := WN.H hc h hh h1 n (by omega)
    show WN fi fed (wyI fi fr here n (wyH fi fr here Q n)) ∧ ¬ (wyI fi fr here n (wyH fi fr here Q n)).2.1 here = 0
    cases e : bs here n with
    | none =>
      rw [wyI_n e]
      exact ⟨a, b⟩
    | some o =>
      rw [wyI_s e]
      exact a.J hc hh b (by omega) e
theorem WN.B {ce fi fr fed : Nat → Int32} {Q : zQ} (hc : CL9 fi fr fed) (h3 : ∀ k, k < 108 → ce k = 114 → ¬ fi k < 0 → ¬ fed k = 0) (h : WN fi fed Q) : ∀ n, (wyB ce fi fr Q n).1 = false ∧ WN fi fed (wyB ce fi fr Q n).2
  | 0 => ⟨rfl, h⟩
  | n + 1 => by
    obtain ⟨a, b⟩ := WN.B (fr := fr) hc h3 h n
    by_cases q : (wyB ce fi fr Q n).1 = true ∨ ¬ n < (wyB ce fi fr Q n).2.1
    · rw [wyB_stop q 1]
      exact ⟨a, b⟩
    · have hn : n < (wyB ce fi fr Q n).2.1 := Classical.byContradiction (fun z => q (Or.inr z))
      have h4 := b.2 n hn
      have h5 := b.1 _ h4.1 h4.2
      by_cases z : ce ((wyB ce fi fr Q n).2.2.2 n) = 114
      · exact absurd h5.1 (h3 _ h4.1 z h5.2)
      · rw [wyB_n q z]
        exact ⟨rfl, (b.H hc h4.1 h4.2 4 (Nat.le_refl _)).1⟩
theorem hw_no {ce fi fr fed : Nat → Int32} (h3 : ∀ k, k < 108 → ce k = 114 → ¬ fi k < 0 → ¬ fed k = 0) (hc : CL9 fi fr fed) {k : Nat} (hk : k < 108) (hf : ¬ fi k < 0) (h0 : fed k = 0) (seen : Nat → Int32) (qn : Nat → Nat) : (hwB ce fi fr seen qn k).1 = false := by
  have hw : WN fi fed (1, upd (fa_fill (fun _ => (0 : Int32)) seen 108) k 1, updN qn 0 k) := by
    refine ⟨fun x hx h1 => ?_, fun j hj => ?_⟩
    · have h1 : ¬ upd (fa_fill (fun _ => (0 : Int32)) seen 108) k 1 x = 0 := h1
      by_cases z : x = k
      · rw [z]
        exact ⟨h0, hf⟩
      · rw [ux_ne z] at h1
        exact absurd (fa_fill_in hx) h1
    · have hj : j < 1 := hj
      obtain rfl : j = 0 := by omega
      show updN qn 0 k 0 < 108 ∧ ¬ upd (fa_fill (fun _ => (0 : Int32)) seen 108) k 1 (updN qn 0 k 0) = 0
      rw [uNx_eq, ux_eq]
      exact ⟨hk, by decide⟩
  unfold hwB
  exact (WN.B hc h3 hw 108).1
set_option maxRecDepth 100000 in
theorem fdO_way {P : Nat → Int32} {h : Int32} {k : Nat} (hk : k < 108) (h1 : ¬ fdO P h k = 0) (seen : Nat → Int32) (qn : Nat → Nat) : (hwB P (fiO P) (frO P h) seen qn k).1 = true := by
  rw [fdO] at h1
  exact hw_way hk (((FIs.of (FAi_s (S0 := (fun _ => 0, fun _ => 0, 0, 0)) rfl 108)).B 108).1 k hk h1).2 seen qn
theorem cw_cnt {ce fi fr : Nat → Int32} {p : Nat → Bool} {S0 : zT} (hp : ∀ k, k < 108 → ∀ (seen : Nat → Int32) (qn : Nat → Nat), (hwB ce fi fr seen qn k).1 = p k) : ∀ i, i ≤ 108 → (cwY ce fi fr S0 i).2.2 = S0.2.2 + fa_cnt (fun k => decide (ce k = 99 ∧ ¬ fi k < 0) && !p k) i
  | 0, _ => rfl
  | i + 1, hi => by
    have ih := cw_cnt (S0 := S0) hp i (by omega)
    by_cases q : ce i = 99 ∧ ¬ fi i < 0
    · have e1 := hp i (by omega) (cwY ce fi fr S0 i).1 (cwY ce fi fr S0 i).2.1
      cases e : p i with
      | true =>
        rw [cwY_t q (by rw [e1, e]), fa_cnt_no (p := fun k => decide (ce k = 99 ∧ ¬ fi k < 0) && !p k) (by show (decide (ce i = 99 ∧ ¬ fi i < 0) && !p i) = false; rw [e]; exact Bool.and_false _)]
        exact ih
      | false =>
        rw [cwY_n q (by rw [e1, e]; decide), fa_cnt_yes (p := fun k => decide (ce k = 99 ∧ ¬ fi k < 0) && !p k) (by show (decide (ce i = 99 ∧ ¬ fi i < 0) && !p i) = true; rw [e, decide_eq_true q]; rfl)]
        show (cwY ce fi fr S0 i).2.2 + 1 = _
        rw [ih, Nat.add_assoc]
    · rw [cwY_f q, fa_cnt_no (p := fun k => decide (ce k = 99 ∧ ¬ fi k < 0) && !p k) (by show (decide (ce i = 99 ∧ ¬ fi i < 0) && !p i) = false; rw [decide_eq_false q]; rfl)]
      exact ih
noncomputable def wyO (P : Nat → Int32) (h : Int32) (k : Nat) : Bool := (hwB P (fiO P) (frO P h) (fun _ => 0) (fun _ => 0) k).1
noncomputable def anO (P : Nat → Int32) (h : Int32) : Nat := fa_cnt (fun k => decide (P k = 99 ∧ ¬ fiO P k < 0) && !wyO P h k) 108
noncomputable def shO (P : Nat → Int32) (h : Int32) : Nat := fa_cnt (scP P (fiO P) (fdO P h)) 108
theorem cw_an {ce fi fr P : Nat → Int32} {h : Int32} {S0 : zT} (hd : Ag 108 ce P) (hf : Ag 108 fi (fiO P)) (hr : Ag 108 fr (frO P h)) (h0 : S0.2.2 = 0) : (cwY ce fi fr S0 108).2.2 = anO P h := by
  rw [cw_cnt (p := wyO P h) (fun k hk seen qn => hwB_ag hd hf hr hk _ _ _ _) 108 (Nat.le_refl _), h0, Nat.zero_add]
  exact fa_cnt_cong (fun k hk => by rw [hd k hk, hf k hk])
theorem sc_sh {ce fi fed P : Nat → Int32} {h : Int32} (hd : Ag 108 ce P) (hf : Ag 108 fi (fiO P)) (hr : Ag 108 fed (fdO P h)) : fa_cnt (scP ce fi fed) 108 = shO P h := fa_cnt_cong (fun k hk => by
  unfold scP
  rw [hd k hk, hf k hk, hr k hk])
theorem an_le (P : Nat → Int32) (h : Int32) : anO P h ≤ shO P h := cnt_mono 108 (fun k hk z => by
  have z : (decide (P k = 99 ∧ ¬ fiO P k < 0) && !wyO P h k) = true := z
  rw [Bool.and_eq_true] at z
  have z1 := of_decide_eq_true z.1
  refine decide_eq_true ⟨z1.1, z1.2, Classical.byContradiction (fun y => ?_)⟩
  have e : wyO P h k = true := fdO_way hk y _ _
  rw [e] at z
  cases z.2)
theorem an_eq {P : Nat → Int32} {h : Int32} (hl : fdF P (fiO P) ≤ 10 * fdR P (fiO P) 108) : anO P h = shO P h := fa_cnt_cong (fun k hk => by
  have ok := fdO_ok P h
  show (decide (P k = 99 ∧ ¬ fiO P k < 0) && !wyO P h k) = decide (P k = 99 ∧ ¬ fiO P k < 0 ∧ fdO P h k = 0)
  by_cases q : P k = 99 ∧ ¬ fiO P k < 0
  · rw [decide_eq_true q]
    by_cases z : fdO P h k = 0
    · have e : wyO P h k = false := hw_no ok.2.2.1 (ok.2.2.2.2.2 hl) hk q.2 z _ _
      rw [e, decide_eq_true ⟨q.1, q.2, z⟩]
      rfl
    · have e : wyO P h k = true := fdO_way hk z _ _
      rw [e, decide_eq_false (fun y => z y.2.2)]
      rfl
  · rw [decide_eq_false q, decide_eq_false (fun y => q ⟨y.1, y.2.1⟩)]
    rfl)
theorem cnt_sum {p q r : Nat → Bool} : ∀ n, (∀ k, k < n → (p k = true ∧ q k = false ∧ r k = true) ∨ (p k = false ∧ q k = true ∧ r k = true) ∨ (p k = false ∧ q k = false ∧ r k = false)) → fa_cnt p n + fa_cnt q n = fa_cnt r n
  | 0, _ => rfl
  | n + 1, h => by
    have ih := cnt_sum n (fun k hk => h k (by omega))
    rcases h n (by omega) with ⟨a, b, c⟩ | ⟨a, b, c⟩ | ⟨a, b, c⟩
    · rw [fa_cnt_yes a, fa_cnt_no b, fa_cnt_yes c]; omega
    · rw [fa_cnt_no a, fa_cnt_yes b, fa_cnt_yes c]; omega
    · rw [fa_cnt_no a, fa_cnt_no b, fa_cnt_no c]; exact ih
theorem sh_sum (P : Nat → Int32) (h : Int32) : shO P h + fdC P (fdO P h) = fdF P (fiO P) := cnt_sum 108 (fun k hk => by
  have ok := fdO_ok P h
  show (decide (P k = 99 ∧ ¬ fiO P k < 0 ∧ fdO P h k = 0) = true ∧ decide (P k = 99 ∧ ¬ fdO P h k = 0) = false ∧ decide (P k = 99 ∧ ¬ fiO P k < 0) = true) ∨ (decide (P k = 99 ∧ ¬ fiO P k < 0 ∧ fdO P h k = 0) = false ∧ decide (P k = 99 ∧ ¬ fdO P h k = 0) = true ∧ decide (P k = 99 ∧ ¬ fiO P k < 0) = true) ∨ (decide (P k = 99 ∧ ¬ fiO P k < 0 ∧ fdO P h k = 0) = false ∧ decide (P k = 99 ∧ ¬ fdO P h k = 0) = false ∧ decide (P k = 99 ∧ ¬ fiO P k < 0) = false)
  by_cases q : P k = 99 ∧ ¬ fiO P k < 0
  · by_cases z : fdO P h k = 0
    · exact Or.inl ⟨decide_eq_true ⟨q.1, q.2, z⟩, decide_eq_false (fun y => y.2 z), decide_eq_true q⟩
    · exact Or.inr (Or.inl ⟨decide_eq_false (fun y => z y.2.2), decide_eq_true ⟨q.1, z⟩, decide_eq_true q⟩)
  · exact Or.inr (Or.inr ⟨decide_eq_false (fun y => q ⟨y.1, y.2.1⟩), decide_eq_false (fun y => q ⟨y.1, ok.2.1 k hk y.2⟩), decide_eq_false q⟩))
