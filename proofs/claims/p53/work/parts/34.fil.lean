theorem nI_ij {a b : Nat} (ha : a < 2 ^ 31) (hb : b < 2 ^ 31) (h : nI a = nI b) : a = b := (nI_eq ha hb).mp h
theorem cnt_none {p : Nat → Bool} : ∀ n, (∀ k, k < n → p k = false) → fa_cnt p n = 0
  | 0, _ => rfl
  | n + 1, h => by rw [fa_cnt_no (h n (by omega)), cnt_none n (fun k hk => h k (by omega))]
theorem cnt_ex {p : Nat → Bool} : ∀ n, 1 ≤ fa_cnt p n → ∃ k, k < n ∧ p k = true
  | 0, h => absurd h (by show ¬ 1 ≤ 0; omega)
  | n + 1, h => by
    cases e : p n with
    | true => exact ⟨n, by omega, e⟩
    | false =>
      rw [fa_cnt_no e] at h
      obtain ⟨k, h1, h2⟩ := cnt_ex n h
      exact ⟨k, by omega, h2⟩
theorem cnt_one {p : Nat → Bool} {x n : Nat} (hx : x < n) (h : p x = true) (ho : ∀ k, k < n → ¬ k = x → p k = false) : fa_cnt p n = 1 := by
  have e1 : fa_cnt p n = fa_cnt (fun k => decide (k = x)) n := fa_cnt_cong (fun k hk => by
    by_cases q : k = x
    · rw [q, h]
      exact (decide_eq_true rfl).symm
    · rw [ho k hk q]
      exact (decide_eq_false q).symm)
  have e2 := (cnt_set (p := fun _ => false) (q := fun k => decide (k = x)) (o := x) rfl (decide_eq_true rfl) (fun k hk => (decide_eq_false hk).symm) n).2 hx
  rw [e1, e2, cnt_none n (fun _ _ => rfl)]
def gP (P : Nat → Int32) : Nat := fa_cnt (fun k => decide (P k = 103)) 12
theorem og_cnt {ce f0 : Nat → Int32} : ∀ i, (ogS ce f0 i).2 = fa_cnt (fun k => decide (ce k = 103)) i
  | 0 => rfl
  | i + 1 => by
    by_cases q : ce i = 103
    · rw [ogS_t q]
      show (ogS ce f0 i).2 + 1 = _
      rw [fa_cnt_yes (p := fun k => decide (ce k = 103)) (decide_eq_true q), og_cnt i]
    · rw [ogS_f q, fa_cnt_no (p := fun k => decide (ce k = 103)) (decide_eq_false q), og_cnt i]
def OGi (ce f : Nat → Int32) (n i : Nat) : Prop := (n = 0 → ∀ k, k < 108 → f k = -1) ∧ (¬ n = 0 → ∃ x, x < i ∧ ce x = 103 ∧ f x = 0 ∧ ∀ k, k < 108 → ¬ k = x → f k = -1)
theorem og_inv {ce F : Nat → Int32} (hF : ∀ k, k < 108 → F k = -1) : ∀ i, OGi ce (ogS ce F i).1 (ogS ce F i).2 i
  | 0 => ⟨fun _ => hF, fun h => absurd rfl h⟩
  | i + 1 => by
    obtain ⟨a, b⟩ := og_inv (ce := ce) hF i
    by_cases q : ce i = 103
    · rw [ogS_t q]
      refine ⟨fun h => absurd h (Nat.succ_ne_zero _), fun _ => ?_⟩
      show ∃ x, x < i + 1 ∧ ce x = 103 ∧ (if (ogS ce F i).2 = 0 then upd (ogS ce F i).1 i 0 else (ogS ce F i).1) x = 0 ∧ ∀ k, k < 108 → ¬ k = x → (if (ogS ce F i).2 = 0 then upd (ogS ce F i).1 i 0 else (ogS ce F i).1) k = -1
      by_cases z : (ogS ce F i).2 = 0
      · rw [if_pos z]
        exact ⟨i, by omega, q, ux_eq, fun k hk hn => by rw [ux_ne hn]; exact a z k hk⟩
      · rw [if_neg z]
        obtain ⟨x, h1, h2, h3, h4⟩ := b z
        exact ⟨x, by omega, h2, h3, h4⟩
    · rw [ogS_f q]
      refine ⟨a, fun h => ?_⟩
      obtain ⟨x, h1, h2, h3, h4⟩ := b h
      exact ⟨x, by omega, h2, h3, h4⟩
def FSv (ce a : Nat → Int32) (st : Int32) (s : zF) : Prop := (∀ k, k < 108 → s.1 k = a k ∨ (a k < 0 ∧ s.1 k = st ∧ tmB (ce k) = true)) ∧ fa_cnt (fun k => decide (a k < 0 ∧ s.1 k = st)) 108 = s.2
theorem FSv.c {ce a : Nat → Int32} {st : Int32} {mo c : Nat} {s : zF} (hst : ¬ st < 0) (hc : c < 108) (h : FSv ce a st s) : FSv ce a st (fcS ce st mo c s) := by
  by_cases q : fcP ce st mo c s
  · rw [fcS_t q]
    have h1 : s.1 c = a c := (h.1 c hc).elim id (fun z => absurd q.2.1 (by rw [z.2.1]; exact hst))
    have h2 : a c < 0 := by rw [← h1]; exact q.2.1
    refine ⟨fun k hk => ?_, ?_⟩
    · show upd s.1 c st k = a k ∨ (a k < 0 ∧ upd s.1 c st k = st ∧ tmB (ce k) = true)
      by_cases e : k = c
      · rw [e, ux_eq]
        exact Or.inr ⟨h2, rfl, q.2.2.1⟩
      · rw [ux_ne e]
        exact h.1 k hk
    · show fa_cnt (fun k => decide (a k < 0 ∧ upd s.1 c st k = st)) 108 = s.2 + 1
      rw [← h.2]
      refine (cnt_set (p := fun k => decide (a k < 0 ∧ s.1 k = st)) (q := fun k => decide (a k < 0 ∧ upd s.1 c st k = st)) (o := c) (decide_eq_false (fun z => hst (by rw [← z.2]; exact q.2.1))) (decide_eq_true ⟨h2, ux_eq⟩) (fun k hk => ?_) 108).2 hc
      show decide (a k < 0 ∧ s.1 k = st) = decide (a k < 0 ∧ upd s.1 c st k = st)
      rw [ux_ne hk]
  · rw [fcS_f q]
    exact h
theorem FSv.r {ce a : Nat → Int32} {st : Int32} {mo row : Nat} {s : zF} (hst : ¬ st < 0) (hr : row < 9) (h : FSv ce a st s) : ∀ x, x ≤ 12 → FSv ce a st (frS ce st mo row s x)
  | 0, _ => h
  | x + 1, hx => FSv.c (c := 12 * row + x) hst (by omega) (FSv.r hst hr h x (by omega))
theorem FSv.s {ce a : Nat → Int32} {st : Int32} {mo : Nat} {s : zF} (hst : ¬ st < 0) (h : FSv ce a st s) : ∀ r, FSv ce a st (fsS ce st mo s r)
  | 0 => h
  | r + 1 => FSv.r (row := 8 - r) hst (by omega) (FSv.s hst h r) 12 (Nat.le_refl _)
theorem fc_m {ce : Nat → Int32} {st : Int32} {mo c : Nat} {s : zF} : s.2 ≤ (fcS ce st mo c s).2 ∧ ((fcS ce st mo c s).2 = s.2 → fcS ce st mo c s = s ∧ ¬ fcP ce st mo c s) := by
  by_cases q : fcP ce st mo c s
  · rw [fcS_t q]
    refine ⟨by show s.2 ≤ s.2 + 1; omega, fun h => ?_⟩
    have h : s.2 + 1 = s.2 := h
    omega
  · rw [fcS_f q]
    exact ⟨Nat.le_refl _, fun _ => ⟨rfl, q⟩⟩
theorem fr_m {ce : Nat → Int32} {st : Int32} {mo row : Nat} {s : zF} : ∀ x, s.2 ≤ (frS ce st mo row s x).2 ∧ ((frS ce st mo row s x).2 = s.2 → frS ce st mo row s x = s ∧ ∀ y, y < x → ¬ fcP ce st mo (12 * row + y) s)
  | 0 => ⟨Nat.le_refl _, fun _ => ⟨rfl, fun y hy => absurd hy (Nat.not_lt_zero y)⟩⟩
  | x + 1 => by
    obtain ⟨a, b⟩ := fr_m (ce := ce) (st := st) (mo := mo) (row := row) (s := s) x
    obtain ⟨c, d⟩ := fc_m (ce := ce) (st := st) (mo := mo) (c := 12 * row + x) (s := frS ce st mo row s x)
    show s.2 ≤ (fcS ce st mo (12 * row + x) (frS ce st mo row s x)).2 ∧ ((fcS ce st mo (12 * row + x) (frS ce st mo row s x)).2 = s.2 → fcS ce st mo (12 * row + x) (frS ce st mo row s x) = s ∧ ∀ y, y < x + 1 → ¬ fcP ce st mo (12 * row + y) s)
    refine ⟨by omega, fun h => ?_⟩
    obtain ⟨e1, e2⟩ := b (by omega)
    obtain ⟨e3, e4⟩ := d (by omega)
    rw [e1] at e3 e4
    rw [e1]
    refine ⟨e3, fun y hy => ?_⟩
    by_cases q : y = x
    · rw [q]
      exact e4
    · exact e2 y (by omega)
theorem fs_m {ce : Nat → Int32} {st : Int32} {mo : Nat} {s : zF} : ∀ r, s.2 ≤ (fsS ce st mo s r).2 ∧ ((fsS ce st mo s r).2 = s.2 → fsS ce st mo s r = s ∧ ∀ q, q < r → ∀ y, y < 12 → ¬ fcP ce st mo (12 * (8 - q) + y) s)
  | 0 => ⟨Nat.le_refl _, fun _ => ⟨rfl, fun y hy => absurd hy (Nat.not_lt_zero y)⟩⟩
  | r + 1 => by
    obtain ⟨a, b⟩ := fs_m (ce := ce) (st := st) (mo := mo) (s := s) r
    obtain ⟨c, d⟩ := fr_m (ce := ce) (st := st) (mo := mo) (row := 8 - r) (s := fsS ce st mo s r) 12
    show s.2 ≤ (frS ce st mo (8 - r) (fsS ce st mo s r) 12).2 ∧ ((frS ce st mo (8 - r) (fsS ce st mo s r) 12).2 = s.2 → frS ce st mo (8 - r) (fsS ce st mo s r) 12 = s ∧ ∀ q, q < r + 1 → ∀ y, y < 12 → ¬ fcP ce st mo (12 * (8 - q) + y) s)
    refine ⟨by omega, fun h => ?_⟩
    obtain ⟨e1, e2⟩ := b (by omega)
    obtain ⟨e3, e4⟩ := d (by omega)
    rw [e1] at e3 e4
    rw [e1]
    refine ⟨e3, fun q hq y hy => ?_⟩
    by_cases z : q = r
    · rw [z]
      exact e4 y hy
    · exact e2 q (by omega) y hy
theorem fs_0 {ce : Nat → Int32} {st : Int32} {mo : Nat} {s : zF} (h : (fsS ce st mo s 9).2 = s.2) : fsS ce st mo s 9 = s ∧ ∀ c, c < 108 → ¬ fcP ce st mo c s := by
  obtain ⟨a, b⟩ := (fs_m (ce := ce) (st := st) (mo := mo) (s := s) 9).2 h
  refine ⟨a, fun c hc => ?_⟩
  have k := b (8 - c / 12) (by omega) (c % 12) (by omega)
  rw [show 12 * (8 - (8 - c / 12)) + c % 12 = c by omega] at k
  exact k
def cnJ (a : Nat → Int32) (j : Nat) : Nat := fa_cnt (fun k => decide (a k = nI j)) 108
def FIv (ce a : Nat → Int32) (G L : Nat) : Prop := (∀ k, k < 108 → a k < 0 → a k = -1) ∧ (∀ k, k < 108 → ¬ a k < 0 → tmB (ce k) = true ∧ ∃ j, j ≤ L ∧ a k = nI j) ∧ cnJ a 0 = 1 ∧ ∀ j, 1 ≤ j → j ≤ L → 1 ≤ cnJ a j ∧ cnJ a j ≤ G
def FNo (ce a : Nat → Int32) : Prop := ∀ k, k < 108 → a k < 0 → tmB (ce k) = true → ∀ s, s < 4 → ∀ o, bs k s = some o → a o < 0
theorem FIv.start {ce f : Nat → Int32} {n G : Nat} (hn : ¬ n = 0) (h : OGi ce f n 12) : FIv ce f G 0 := by
  obtain ⟨x, h1, h2, h3, h4⟩ := h.2 hn
  refine ⟨fun k hk h0 => ?_, fun k hk h0 => ?_, cnt_one (x := x) (by omega) (decide_eq_true h3) (fun k hk hne => decide_eq_false (fun e => ?_)), fun j h5 h6 => absurd h6 (by omega)⟩
  · by_cases q : k = x
    · rw [q, h3] at h0
      exact absurd h0 (by decide)
    · exact h4 k hk q
  · by_cases q : k = x
    · rw [q, h2, h3]
      exact ⟨by decide, 0, Nat.le_refl _, rfl⟩
    · rw [h4 k hk q] at h0
      exact absurd (by decide) h0
  · rw [h4 k hk hne] at e
    exact absurd e (by decide)
theorem FIv.st0 {ce a : Nat → Int32} {G T : Nat} (hG : ¬ G = 0) (hT : T < 1000) (h : FIv ce a G T) (hz : (fsS ce (nI (T + 1)) G (a, 0) 9).2 = 0) : (fsS ce (nI (T + 1)) G (a, 0) 9).1 = a ∧ FNo ce a := by
  obtain ⟨e, hno⟩ := fs_0 (s := (a, 0)) hz
  refine ⟨by rw [e], fun k hk ak tm s hs o ho => Classical.byContradiction (fun z => hno k hk ⟨Nat.pos_of_ne_zero hG, ak, tm, bfB_hit hs ?_⟩)⟩
  obtain ⟨-, j, hj, ej⟩ := h.2.1 o (bs_lt hk ho) z
  rw [chkF_s ho]
  refine decide_eq_true ⟨z, ?_⟩
  show a o < nI (T + 1)
  rw [ej]
  exact (nI_ltI (by omega) (by omega)).mpr (by omega)
theorem FIv.st1 {ce a : Nat → Int32} {G T : Nat} (hT : T < 1000) (h : FIv ce a G T) (hz : ¬ (fsS ce (nI (T + 1)) G (a, 0) 9).2 = 0) : FIv ce (fsS ce (nI (T + 1)) G (a, 0) 9).1 G (T + 1) := by
  have hst : ¬ nI (T + 1) < 0 := nI_nneg (by omega)
  obtain ⟨h1, h2, h3, h4⟩ := h
  have F0 : FSv ce a (nI (T + 1)) (a, 0) := ⟨fun k _ => Or.inl rfl, cnt_none 108 (fun k hk => decide_eq_false (fun z => hst (by rw [← z.2]; exact z.1)))⟩
  obtain ⟨f1, f2⟩ := FSv.s (mo := G) hst F0 9
  have hle := fsS_le (ce := ce) (st := nI (T + 1)) (mo := G) (s := (a, 0)) (Nat.zero_le _) 9
  have hne : ∀ k, k < 108 → ¬ a k = nI (T + 1) := fun k hk e => by
    obtain ⟨-, j, hj, ej⟩ := h2 k hk (by rw [e]; exact hst)
    have := nI_ij (by omega) (by omega) (ej.symm.trans e)
    omega
  have hcj : ∀ j, j ≤ T → cnJ (fsS ce (nI (T + 1)) G (a, 0) 9).1 j = cnJ a j := fun j hj => fa_cnt_cong (fun k hk => by
    rcases f1 k hk with e | ⟨e1, e2, -⟩
    · rw [e]
    · rw [e2, h1 k hk e1]
      rw [decide_eq_false (fun e => by have := nI_ij (by omega) (by omega) e; omega : ¬ nI (T + 1) = nI j)]
      exact (decide_eq_false (fun e => absurd (show nI j < 0 by rw [← e]; decide) (nI_nneg (by omega)))).symm)
  refine ⟨fun k hk h0 => ?_, fun k hk h0 => ?_, ?_, fun j h5 h6 => ?_⟩
  · rcases f1 k hk with e | ⟨e1, e2, -⟩
    · rw [e] at h0 ⊢
      exact h1 k hk h0
    · rw [e2] at h0
      exact absurd h0 hst
  · rcases f1 k hk with e | ⟨e1, e2, e3⟩
    · rw [e] at h0 ⊢
      obtain ⟨g1, j, g2, g3⟩ := h2 k hk h0
      exact ⟨g1, j, by omega, g3⟩
    · exact ⟨e3, T + 1, Nat.le_refl _, e2⟩
  · rw [hcj 0 (Nat.zero_le _)]
    exact h3
  · by_cases q : j = T + 1
    · have e9 : cnJ (fsS ce (nI (T + 1)) G (a, 0) 9).1 j = (fsS ce (nI (T + 1)) G (a, 0) 9).2 := by
        rw [q, ← f2]
        refine fa_cnt_cong (fun k hk => ?_)
        rcases f1 k hk with e | ⟨e1, e2, -⟩
        · rw [e, decide_eq_false (hne k hk)]
          exact (decide_eq_false (fun z => hne k hk z.2)).symm
        · rw [decide_eq_true e2]
          exact (decide_eq_true ⟨e1, e2⟩).symm
      rw [e9]
      exact ⟨by omega, hle⟩
    · rw [hcj j (by omega)]
      exact h4 j h5 (by omega)
theorem fi_inv {ce f1 : Nat → Int32} {G : Nat} (hG : ¬ G = 0) (h : FIv ce f1 G 0) : ∀ T, T ≤ 107 → ∃ L, L ≤ T ∧ FIv ce (fiS ce G f1 T).1 G L ∧ (¬ (fiS ce G f1 T).2 = 0 → L = T) ∧ ((fiS ce G f1 T).2 = 0 → FNo ce (fiS ce G f1 T).1)
  | 0, _ => ⟨0, Nat.le_refl _, h, fun _ => rfl, fun z => absurd z hG⟩
  | T + 1, hT => by
    obtain ⟨L, h1, h2, h3, h4⟩ := fi_inv hG h T (by omega)
    by_cases q : (fiS ce G f1 T).2 = 0
    · rw [fiS_stop q 1]
      exact ⟨L, by omega, h2, fun z => absurd q z, h4⟩
    · obtain rfl := h3 q
      rw [fiS_n q]
      by_cases z : (fsS ce (nI (L + 1)) G ((fiS ce G f1 L).1, 0) 9).2 = 0
      · obtain ⟨e1, e2⟩ := h2.st0 hG (by omega) z
        refine ⟨L, by omega, ?_, fun y => absurd z y, fun _ => ?_⟩
        · rw [e1]
          exact h2
        · rw [e1]
          exact e2
      · exact ⟨L + 1, Nat.le_refl _, h2.st1 (by omega) z, fun _ => rfl, fun y => absurd y z⟩
theorem FIv.full {ce a : Nat → Int32} {G : Nat} (h : FIv ce a G 107) : ∀ k, k < 108 → ¬ a k < 0 := fun k hk => by
  have hx : ∀ j, ∃ c, j < 108 → c < 108 ∧ a c = nI j := fun j => by
    by_cases hj : j < 108
    · have h1 : 1 ≤ cnJ a j := by
        by_cases q : j = 0
        · rw [q, h.2.2.1]
          exact Nat.le_refl _
        · exact (h.2.2.2 j (by omega) (by omega)).1
      obtain ⟨c, h2, h3⟩ := cnt_ex 108 h1
      exact ⟨c, fun _ => ⟨h2, of_decide_eq_true h3⟩⟩
    · exact ⟨0, fun z => absurd z hj⟩
  obtain ⟨f, hf⟩ := Classical.axiomOfChoice hx
  obtain ⟨i, h1, h2⟩ := fb_onto (n := 108) (f := f) (fun i hi => (hf i hi).1) (fun i j hij hj e => by
    have e1 := (hf i (by omega)).2
    have e2 := (hf j hj).2
    rw [e] at e1
    have := nI_ij (by omega) (by omega) (e1.symm.trans e2)
    omega) hk
  have e3 := (hf i h1).2
  rw [h2] at e3
  rw [e3]
  exact nI_nneg (by omega)
theorem fiO_e (P : Nat → Int32) : fiO P = (fiS P (ogS P (fa_fill (fun _ => (-1 : Int32)) (fun _ => 0) 108) 12).2 (ogS P (fa_fill (fun _ => (-1 : Int32)) (fun _ => 0) 108) 12).1 107).1 := by
  unfold fiO flP
  exact if_pos rfl
theorem fiO_0 {P : Nat → Int32} (h : gP P = 0) : ∀ k, k < 108 → fiO P k = -1 := by
  have e := og_cnt (ce := P) (f0 := fa_fill (fun _ => (-1 : Int32)) (fun _ => 0) 108) 12
  have k := og_inv (ce := P) (F := fa_fill (fun _ => (-1 : Int32)) (fun _ => 0) 108) (fun k hk => fa_fill_in hk) 12
  have e0 : (ogS P (fa_fill (fun _ => (-1 : Int32)) (fun _ => 0) 108) 12).2 = 0 := e.trans h
  have e2 := fiS_stop (ce := P) (mo := (ogS P (fa_fill (fun _ => (-1 : Int32)) (fun _ => 0) 108) 12).2) (f1 := (ogS P (fa_fill (fun _ => (-1 : Int32)) (fun _ => 0) 108) 12).1) (T := 0) e0 107
  rw [Nat.zero_add] at e2
  rw [fiO_e, e2]
  exact k.1 e0
theorem fiO_1 {P : Nat → Int32} (h : ¬ gP P = 0) : ∃ L, L ≤ 107 ∧ FIv P (fiO P) (gP P) L ∧ FNo P (fiO P) := by
  have e := og_cnt (ce := P) (f0 := fa_fill (fun _ => (-1 : Int32)) (fun _ => 0) 108) 12
  have k := og_inv (ce := P) (F := fa_fill (fun _ => (-1 : Int32)) (fun _ => 0) 108) (fun k hk => fa_fill_in hk) 12
  have e0 : (ogS P (fa_fill (fun _ => (-1 : Int32)) (fun _ => 0) 108) 12).2 = gP P := e
  have h0 : ¬ (ogS P (fa_fill (fun _ => (-1 : Int32)) (fun _ => 0) 108) 12).2 = 0 := by rw [e0]; exact h
  obtain ⟨L, h1, h2, h3, h4⟩ := fi_inv h0 (FIv.start h0 k) 107 (Nat.le_refl _)
  rw [← fiO_e] at h2 h4
  refine ⟨L, h1, by rw [← e0]; exact h2, ?_⟩
  by_cases q : (fiS P (ogS P (fa_fill (fun _ => (-1 : Int32)) (fun _ => 0) 108) 12).2 (ogS P (fa_fill (fun _ => (-1 : Int32)) (fun _ => 0) 108) 12).1 107).2 = 0
  · exact h4 q
  · have eL := h3 q
    rw [eL] at h2
    exact fun c hc h5 => absurd h5 (h2.full c hc)
theorem fiO_io (P : Nat → Int32) : IO (fiO P) := IO_flP (fun z => absurd rfl z)
theorem fiO_nb {P : Nat → Int32} {k : Nat} (hk : k < 108) (h : 0 < fiO P k) : ∃ s, s < 4 ∧ ∃ o, bs k s = some o ∧ ¬ fiO P o < 0 ∧ fiO P o < fiO P k := by
  obtain ⟨s, h1, h2⟩ := bfB_ex 4 (fiO_io P k hk h)
  cases e : bs k s with
  | none =>
    rw [chkF_n e] at h2
    cases h2
  | some o =>
    rw [chkF_s e] at h2
    have h3 := of_decide_eq_true h2
    exact ⟨s, h1, o, e, h3.1, h3.2⟩
