theorem lo_co (f : Nat → Int32) : loN f ≤ coN f := fa_cnt_le _ _
def drB (k : Int32) : Bool := decide (¬ k = 46 ∧ ¬ k = 107)
def frB (ks : Nat → Int32) : Nat → Bool
  | 0 => true
  | i + 1 => frB ks i && drB (ks i)
theorem frB_s (ks : Nat → Int32) (i : Nat) : frB ks (i + 1) = (frB ks i && drB (ks i)) := rfl
theorem uc_fl {ks : Nat → Int32} {n : Nat} (hz : ∀ k, k < n → z_kind (ks k)) : ∀ i, i ≤ n → (ucS ks i).1 = (if frB ks i = true then 1 else 0) ∧ (ucS ks i).2 = fa_cnt (fun j => tmB (ks j) && !frB ks j) i
  | 0, _ => ⟨rfl, rfl⟩
  | i + 1, hi => by
    obtain ⟨a, b⟩ := uc_fl hz i (by omega)
    have no : tmB (ks i) = false → fa_cnt (fun j => tmB (ks j) && !frB ks j) (i + 1) = fa_cnt (fun j => tmB (ks j) && !frB ks j) i := fun e => fa_cnt_no (p := fun j => tmB (ks j) && !frB ks j) (by show (tmB (ks i) && !frB ks i) = false; rw [e]; rfl)
    have A : tmB (ks i) = false → ¬ ks i = 111 → drB (ks i) = false → (ucS ks (i + 1)).1 = (if frB ks (i + 1) = true then 1 else 0) ∧ (ucS ks (i + 1)).2 = fa_cnt (fun j => tmB (ks j) && !frB ks j) (i + 1) := fun e1 e2 e3 => by
      rw [ucS_a ⟨e1, e2⟩, frB_s, e3, Bool.and_false, no e1]
      exact ⟨rfl, b⟩
    have B : tmB (ks i) = true → ¬ ks i = 111 → drB (ks i) = true → (ucS ks (i + 1)).1 = (if frB ks (i + 1) = true then 1 else 0) ∧ (ucS ks (i + 1)).2 = fa_cnt (fun j => tmB (ks j) && !frB ks j) (i + 1) := fun e1 e2 e3 => by
      have na : ¬ (tmB (ks i) = false ∧ ¬ ks i = 111) := fun z => by
        rw [e1] at z
        cases z.1
      rw [frB_s, e3, Bool.and_true]
      cases e : frB ks i with
      | true =>
        rw [e] at a
        rw [ucS_c na (fun z => by rw [a] at z; exact absurd z.1 (by decide)), fa_cnt_no (p := fun j => tmB (ks j) && !frB ks j) (by show (tmB (ks i) && !frB ks i) = false; rw [e]; exact Bool.and_false _)]
        exact ⟨a, b⟩
      | false =>
        rw [e] at a
        rw [ucS_b na ⟨a, e2⟩, fa_cnt_yes (p := fun j => tmB (ks j) && !frB ks j) (by show (tmB (ks i) && !frB ks i) = true; rw [e, e1]; rfl)]
        exact ⟨a, by show (ucS ks i).2 + 1 = _; rw [b]⟩
    rcases hz i (by omega) with h | h | h | h | h | h
    · exact A (by rw [h]; decide) (by rw [h]; decide) (by rw [h]; decide)
    · exact B (by rw [h]; decide) (by rw [h]; decide) (by rw [h]; decide)
    · exact B (by rw [h]; decide) (by rw [h]; decide) (by rw [h]; decide)
    · exact B (by rw [h]; decide) (by rw [h]; decide) (by rw [h]; decide)
    · rw [ucS_c (fun z => z.2 h) (fun z => z.2 h), frB_s, show drB (ks i) = true by rw [h]; decide, Bool.and_true, no (by rw [h]; decide)]
      exact ⟨a, b⟩
    · exact A (by rw [h]; decide) (by rw [h]; decide) (by rw [h]; decide)
theorem cnt_split {q : Nat → Bool} (m : Nat) : ∀ n, fa_cnt q (m + n) = fa_cnt q m + fa_cnt (fun k => q (m + k)) n
  | 0 => rfl
  | n + 1 => by
    have ih := cnt_split (q := q) m n
    cases e : q (m + n) with
    | true => rw [← Nat.add_assoc, fa_cnt_yes e, fa_cnt_yes (p := fun k => q (m + k)) e, ih, Nat.add_assoc]
    | false => rw [← Nat.add_assoc, fa_cnt_no e, fa_cnt_no (p := fun k => q (m + k)) e, ih]
theorem cnt_rev {q : Nat → Bool} : ∀ n, fa_cnt (fun j => q (n - 1 - j)) n = fa_cnt q n
  | 0 => rfl
  | n + 1 => by
    have ih := cnt_rev (q := q) n
    have e1 : fa_cnt (fun j => q (n + 1 - 1 - j)) (n + 1) = fa_cnt (fun j => q (n + 1 - 1 - j)) 1 + fa_cnt (fun k => q (n + 1 - 1 - (1 + k))) n := by
      have := cnt_split (q := fun j => q (n + 1 - 1 - j)) 1 n
      rw [Nat.add_comm 1 n] at this
      exact this
    have e2 : fa_cnt (fun k => q (n + 1 - 1 - (1 + k))) n = fa_cnt (fun j => q (n - 1 - j)) n := fa_cnt_cong (fun k hk => by
      show q (n + 1 - 1 - (1 + k)) = q (n - 1 - k)
      rw [show n + 1 - 1 - (1 + k) = n - 1 - k by omega])
    rw [e1, e2, ih]
    cases e : q n with
    | true =>
      rw [fa_cnt_yes e, show fa_cnt (fun j => q (n + 1 - 1 - j)) 1 = 1 from fa_cnt_yes (p := fun j => q (n + 1 - 1 - j)) (n := 0) e]
      omega
    | false =>
      rw [fa_cnt_no e, show fa_cnt (fun j => q (n + 1 - 1 - j)) 1 = 0 from fa_cnt_no (p := fun j => q (n + 1 - 1 - j)) (n := 0) e]
      omega
def lwU (f : Nat → Int32) (p x y : Nat) : Bool := tmB (f (12 * y + x)) && !(if y < p then frB (fun k => f ((p - 1 - k) * 12 + x)) (p - 1 - y) else frB (fun k => f ((p + k) * 12 + x)) (y - p))
def lwT (f : Nat → Int32) (p : Nat) : Nat → Nat
  | 0 => 0
  | x + 1 => lwT f p x + fa_cnt (lwU f p x) 9
theorem lw_col {f : Nat → Int32} {p x : Nat} (hf : z_ch f) (hp : p < 9) (hx : x < 12) : fa_cnt (lwU f p x) 9 = ucX f p x := by
  have k1 := uc_fl (ks := fun k => f ((p - 1 - k) * 12 + x)) (n := p) (fun k hk => hf _ (by omega)) p (Nat.le_refl _)
  have k2 := uc_fl (ks := fun k => f ((p + k) * 12 + x)) (n := 9 - p) (fun k hk => hf _ (by omega)) (9 - p) (Nat.le_refl _)
  have e0 := cnt_split (q := lwU f p x) p (9 - p)
  rw [show p + (9 - p) = 9 by omega] at e0
  have e1 : fa_cnt (lwU f p x) p = fa_cnt (fun j => tmB (f ((p - 1 - j) * 12 + x)) && !frB (fun k => f ((p - 1 - k) * 12 + x)) j) p := by
    rw [← cnt_rev]
    refine fa_cnt_cong (fun j hj => ?_)
    show lwU f p x (p - 1 - j) = _
    unfold lwU
    rw [if_pos (by omega), show p - 1 - (p - 1 - j) = j by omega, Nat.mul_comm 12]
  have e2 : fa_cnt (fun k => lwU f p x (p + k)) (9 - p) = fa_cnt (fun j => tmB (f ((p + j) * 12 + x)) && !frB (fun k => f ((p + k) * 12 + x)) j) (9 - p) := fa_cnt_cong (fun j hj => by
    show lwU f p x (p + j) = _
    unfold lwU
    rw [if_neg (by omega), show p + j - p = j by omega, Nat.mul_comm 12])
  rw [e0, e1, e2]
  unfold ucX
  rw [k1.2, k2.2]
theorem lw_und {f : Nat → Int32} {p : Nat} (hf : z_ch f) (hp : p < 9) : ∀ x, x ≤ 12 → lwT f p x = ucT f p x
  | 0, _ => rfl
  | x + 1, hx => by
    show lwT f p x + fa_cnt (lwU f p x) 9 = ucT f p x + ucX f p x
    rw [lw_und hf hp x (by omega), lw_col hf hp (by omega)]
