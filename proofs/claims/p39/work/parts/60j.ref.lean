theorem bm32 {x : Int} (h1 : -2147483648 ≤ x) (h2 : x < 2147483648) : x.bmod (2 ^ 32) = x := by
  rw [Int.bmod_def]
  split <;> omega
theorem td64 (a : Int) : (0 ≤ a → 0 ≤ a.tdiv 64 ∧ 64 * a.tdiv 64 ≤ a) ∧ (a ≤ 0 → a.tdiv 64 ≤ 0 ∧ a ≤ 64 * a.tdiv 64) := by
  have p : ∀ b : Int, 0 ≤ b → 0 ≤ b.tdiv 64 ∧ 64 * b.tdiv 64 ≤ b := fun b h => by
    rw [Int.tdiv_eq_ediv_of_nonneg h]
    omega
  refine ⟨p a, fun h => ?_⟩
  have h1 := p (-a) (by omega)
  rw [Int.neg_tdiv] at h1
  omega
theorem dv64n {x : Int32} (h : -2147483648 < x.toInt) : (-x) / 64 = -(x / 64) := Int32.toInt_inj.mp (by
  have hl := x.toInt_lt
  have e64 : (64 : Int32).toInt = 64 := by decide
  have h1 : (-x).toInt = -x.toInt := by rw [Int32.toInt_neg]; exact bm32 (by omega) (by omega)
  have t := td64 x.toInt
  rw [Int32.toInt_div_of_ne_right _ _ (by decide), h1, Int32.toInt_neg, Int32.toInt_div_of_ne_right _ _ (by decide), e64, Int.neg_tdiv]
  obtain ⟨v, hv⟩ : ∃ v, v = x.toInt.tdiv 64 := ⟨_, rfl⟩
  rw [← hv] at t ⊢
  refine (bm32 ?_ ?_).symm
  · rcases Int.le_total 0 x.toInt with q | q
    · have := t.1 q; omega
    · have := t.2 q; omega
  · rcases Int.le_total 0 x.toInt with q | q
    · have := t.1 q; omega
    · have := t.2 q; omega)
def nS (n : Int32) : Prop := n = 3 ∨ n = 4 ∨ n = 12 ∨ n = 14
def bd1 (x : Int32) : Prop := 20 ≤ x.toInt ∧ x.toInt ≤ 1500
theorem fw_3 {a b : Int32} (ha : bd1 a) (hb : bd1 b) : 64 * ((b - a) * 3 / 64).toInt ≤ 14 * (1500 - a.toInt) ∧ 14 * (20 - a.toInt) ≤ 64 * ((b - a) * 3 / 64).toInt ∧ -((a - b) * 3 / 64) = (b - a) * 3 / 64 := by
  obtain ⟨ha1, ha2⟩ := ha
  obtain ⟨hb1, hb2⟩ := hb
  have en : (3 : Int32).toInt = 3 := by decide
  have e64 : (64 : Int32).toInt = 64 := by decide
  have e1 : (b - a).toInt = b.toInt - a.toInt := by rw [Int32.toInt_sub]; exact bm32 (by omega) (by omega)
  have e2 : ((b - a) * 3).toInt = (b.toInt - a.toInt) * 3 := by rw [Int32.toInt_mul, e1, en]; exact bm32 (by omega) (by omega)
  have e3 : ((b - a) * 3 / 64).toInt = ((b.toInt - a.toInt) * 3).tdiv 64 := by rw [Int32.toInt_div_of_ne_right _ _ (by decide), e2, e64]
  have t := td64 ((b.toInt - a.toInt) * 3)
  obtain ⟨v, hv⟩ : ∃ v, v = ((b.toInt - a.toInt) * 3).tdiv 64 := ⟨_, rfl⟩
  rw [← hv] at t e3
  rw [e3]
  have t1 : 64 * v ≤ 14 * (1500 - a.toInt) ∧ 14 * (20 - a.toInt) ≤ 64 * v := by
    rcases Int.le_total 0 ((b.toInt - a.toInt) * 3) with q | q
    · have := t.1 q; omega
    · have := t.2 q; omega
  refine ⟨t1.1, t1.2, ?_⟩
  rw [show a - b = -(b - a) from Int32.neg_sub.symm, Int32.neg_mul, dv64n (by rw [e2]; omega), Int32.neg_neg]
theorem fw_4 {a b : Int32} (ha : bd1 a) (hb : bd1 b) : 64 * ((b - a) * 4 / 64).toInt ≤ 14 * (1500 - a.toInt) ∧ 14 * (20 - a.toInt) ≤ 64 * ((b - a) * 4 / 64).toInt ∧ -((a - b) * 4 / 64) = (b - a) * 4 / 64 := by
  obtain ⟨ha1, ha2⟩ := ha
  obtain ⟨hb1, hb2⟩ := hb
  have en : (4 : Int32).toInt = 4 := by decide
  have e64 : (64 : Int32).toInt = 64 := by decide
  have e1 : (b - a).toInt = b.toInt - a.toInt := by rw [Int32.toInt_sub]; exact bm32 (by omega) (by omega)
  have e2 : ((b - a) * 4).toInt = (b.toInt - a.toInt) * 4 := by rw [Int32.toInt_mul, e1, en]; exact bm32 (by omega) (by omega)
  have e3 : ((b - a) * 4 / 64).toInt = ((b.toInt - a.toInt) * 4).tdiv 64 := by rw [Int32.toInt_div_of_ne_right _ _ (by decide), e2, e64]
  have t := td64 ((b.toInt - a.toInt) * 4)
  obtain ⟨v, hv⟩ : ∃ v, v = ((b.toInt - a.toInt) * 4).tdiv 64 := ⟨_, rfl⟩
  rw [← hv] at t e3
  rw [e3]
  have t1 : 64 * v ≤ 14 * (1500 - a.toInt) ∧ 14 * (20 - a.toInt) ≤ 64 * v := by
    rcases Int.le_total 0 ((b.toInt - a.toInt) * 4) with q | q
    · have := t.1 q; omega
    · have := t.2 q; omega
  refine ⟨t1.1, t1.2, ?_⟩
  rw [show a - b = -(b - a) from Int32.neg_sub.symm, Int32.neg_mul, dv64n (by rw [e2]; omega), Int32.neg_neg]
theorem fw_12 {a b : Int32} (ha : bd1 a) (hb : bd1 b) : 64 * ((b - a) * 12 / 64).toInt ≤ 14 * (1500 - a.toInt) ∧ 14 * (20 - a.toInt) ≤ 64 * ((b - a) * 12 / 64).toInt ∧ -((a - b) * 12 / 64) = (b - a) * 12 / 64 := by
  obtain ⟨ha1, ha2⟩ := ha
  obtain ⟨hb1, hb2⟩ := hb
  have en : (12 : Int32).toInt = 12 := by decide
  have e64 : (64 : Int32).toInt = 64 := by decide
  have e1 : (b - a).toInt = b.toInt - a.toInt := by rw [Int32.toInt_sub]; exact bm32 (by omega) (by omega)
  have e2 : ((b - a) * 12).toInt = (b.toInt - a.toInt) * 12 := by rw [Int32.toInt_mul, e1, en]; exact bm32 (by omega) (by omega)
  have e3 : ((b - a) * 12 / 64).toInt = ((b.toInt - a.toInt) * 12).tdiv 64 := by rw [Int32.toInt_div_of_ne_right _ _ (by decide), e2, e64]
  have t := td64 ((b.toInt - a.toInt) * 12)
  obtain ⟨v, hv⟩ : ∃ v, v = ((b.toInt - a.toInt) * 12).tdiv 64 := ⟨_, rfl⟩
  rw [← hv] at t e3
  rw [e3]
  have t1 : 64 * v ≤ 14 * (1500 - a.toInt) ∧ 14 * (20 - a.toInt) ≤ 64 * v := by
    rcases Int.le_total 0 ((b.toInt - a.toInt) * 12) with q | q
    · have := t.1 q; omega
    · have := t.2 q; omega
  refine ⟨t1.1, t1.2, ?_⟩
  rw [show a - b = -(b - a) from Int32.neg_sub.symm, Int32.neg_mul, dv64n (by rw [e2]; omega), Int32.neg_neg]
theorem fw_14 {a b : Int32} (ha : bd1 a) (hb : bd1 b) : 64 * ((b - a) * 14 / 64).toInt ≤ 14 * (1500 - a.toInt) ∧ 14 * (20 - a.toInt) ≤ 64 * ((b - a) * 14 / 64).toInt ∧ -((a - b) * 14 / 64) = (b - a) * 14 / 64 := by
  obtain ⟨ha1, ha2⟩ := ha
  obtain ⟨hb1, hb2⟩ := hb
  have en : (14 : Int32).toInt = 14 := by decide
  have e64 : (64 : Int32).toInt = 64 := by decide
  have e1 : (b - a).toInt = b.toInt - a.toInt := by rw [Int32.toInt_sub]; exact bm32 (by omega) (by omega)
  have e2 : ((b - a) * 14).toInt = (b.toInt - a.toInt) * 14 := by rw [Int32.toInt_mul, e1, en]; exact bm32 (by omega) (by omega)
  have e3 : ((b - a) * 14 / 64).toInt = ((b.toInt - a.toInt) * 14).tdiv 64 := by rw [Int32.toInt_div_of_ne_right _ _ (by decide), e2, e64]
  have t := td64 ((b.toInt - a.toInt) * 14)
  obtain ⟨v, hv⟩ : ∃ v, v = ((b.toInt - a.toInt) * 14).tdiv 64 := ⟨_, rfl⟩
  rw [← hv] at t e3
  rw [e3]
  have t1 : 64 * v ≤ 14 * (1500 - a.toInt) ∧ 14 * (20 - a.toInt) ≤ 64 * v := by
    rcases Int.le_total 0 ((b.toInt - a.toInt) * 14) with q | q
    · have := t.1 q; omega
    · have := t.2 q; omega
  refine ⟨t1.1, t1.2, ?_⟩
  rw [show a - b = -(b - a) from Int32.neg_sub.symm, Int32.neg_mul, dv64n (by rw [e2]; omega), Int32.neg_neg]
theorem fw_b {a b n : Int32} (ha : bd1 a) (hb : bd1 b) (hn : nS n) : 64 * ((b - a) * n / 64).toInt ≤ 14 * (1500 - a.toInt) ∧ 14 * (20 - a.toInt) ≤ 64 * ((b - a) * n / 64).toInt ∧ -((a - b) * n / 64) = (b - a) * n / 64 := by
  rcases hn with rfl | rfl | rfl | rfl
  · exact fw_3 ha hb
  · exact fw_4 ha hb
  · exact fw_12 ha hb
  · exact fw_14 ha hb
theorem bd_20 : bd1 20 := ⟨by decide, by decide⟩
theorem numM_S {f fl : Nat → Int32} {c o : Nat} : nS (numM f fl c o) := by
  unfold numM
  split
  · exact Or.inr (Or.inr (Or.inr rfl))
  · split
    · exact Or.inr (Or.inr (Or.inl rfl))
    · split
      · exact Or.inl rfl
      · exact Or.inr (Or.inl rfl)
theorem z_ifc {α : Type} {p q : Prop} [Decidable p] [Decidable q] {a b c d : α} (h : p ↔ q) (h1 : a = c) (h2 : b = d) : (if p then a else b) = (if q then c else d) := by
  subst h1; subst h2
  by_cases k : p
  · rw [if_pos k, if_pos (h.mp k)]
  · rw [if_neg k, if_neg (fun z => k (h.mpr z))]
theorem numM_c {f fl : Nat → Int32} {c o : Nat} : numM f fl c o = numM f fl o c := by
  unfold numM
  exact z_ifc Or.comm rfl (z_ifc And.comm rfl (z_ifc Or.comm rfl rfl))
def vM (f fl he : Nat → Int32) (c s : Nat) : Int32 := (bs c s).elim ((20 - he c) * 4 / 64) (fun o => (he o - he c) * numM f fl c o / 64)
theorem vM_n {f fl he : Nat → Int32} {c s : Nat} (h : bs c s = none) : vM f fl he c s = (20 - he c) * 4 / 64 := by rw [vM, h]; rfl
theorem vM_s {f fl he : Nat → Int32} {c s o : Nat} (h : bs c s = some o) : vM f fl he c s = (he o - he c) * numM f fl c o / 64 := by rw [vM, h]; rfl
def bdA (he : Nat → Int32) : Prop := ∀ k, k < 108 → bd1 (he k)
theorem vM_b {f fl he : Nat → Int32} {c s : Nat} (hb : bdA he) (hc : c < 108) : 64 * (vM f fl he c s).toInt ≤ 14 * (1500 - (he c).toInt) ∧ 14 * (20 - (he c).toInt) ≤ 64 * (vM f fl he c s).toInt := by
  cases e : bs c s with
  | none => rw [vM_n e]; have := fw_b (hb c hc) bd_20 (n := 4) (Or.inr (Or.inl rfl)); exact ⟨this.1, this.2.1⟩
  | some o => rw [vM_s e]; have := fw_b (hb c hc) (hb o (bs_lt hc e)) (numM_S (f := f) (fl := fl) (c := c) (o := o)); exact ⟨this.1, this.2.1⟩
theorem gaM_v {f fl he : Nat → Int32} {c : Nat} : gaM f fl he c 4 = 0 + vM f fl he c 0 + vM f fl he c 1 + vM f fl he c 2 + vM f fl he c 3 := rfl
theorem ga_bd {f fl he : Nat → Int32} {c : Nat} (hb : bdA he) (hc : c < 108) : bd1 (he c + gaM f fl he c 4) := by
  have b0 := vM_b (f := f) (fl := fl) (s := 0) hb hc
  have b1 := vM_b (f := f) (fl := fl) (s := 1) hb hc
  have b2 := vM_b (f := f) (fl := fl) (s := 2) hb hc
  have b3 := vM_b (f := f) (fl := fl) (s := 3) hb hc
  obtain ⟨h1, h2⟩ := hb c hc
  rw [gaM_v, Int32.zero_add]
  have e1 : (vM f fl he c 0 + vM f fl he c 1).toInt = (vM f fl he c 0).toInt + (vM f fl he c 1).toInt := by rw [Int32.toInt_add]; exact bm32 (by omega) (by omega)
  have e2 : (vM f fl he c 0 + vM f fl he c 1 + vM f fl he c 2).toInt = (vM f fl he c 0).toInt + (vM f fl he c 1).toInt + (vM f fl he c 2).toInt := by rw [Int32.toInt_add, e1]; exact bm32 (by omega) (by omega)
  have e3 : (vM f fl he c 0 + vM f fl he c 1 + vM f fl he c 2 + vM f fl he c 3).toInt = (vM f fl he c 0).toInt + (vM f fl he c 1).toInt + (vM f fl he c 2).toInt + (vM f fl he c 3).toInt := by rw [Int32.toInt_add, e2]; exact bm32 (by omega) (by omega)
  have e4 : (he c + (vM f fl he c 0 + vM f fl he c 1 + vM f fl he c 2 + vM f fl he c 3)).toInt = (he c).toInt + ((vM f fl he c 0).toInt + (vM f fl he c 1).toInt + (vM f fl he c 2).toInt + (vM f fl he c 3).toInt) := by rw [Int32.toInt_add, e3]; exact bm32 (by omega) (by omega)
  unfold bd1
  rw [e4]
  exact ⟨by omega, by omega⟩
theorem pb_num {f fl ce fi : Nat → Int32} {a b : Nat} (hc : eqA ce f) (hf : eqA fl fi) (hv : vlA f fl) (ha : a < 108) (hb : b < 108) : pbS ce fi a b = numM f fl a b := by
  have p : ∀ k, k < 108 → (0 ≤ fi k ↔ ¬ fl k = -1) := fun k hk => by
    rw [← hf k hk, ← Int32.not_lt]
    exact vl_ng hv hk
  have m : ∀ k, k < 108 → ¬ fl k = -1 → ¬ f k = 107 ∧ ¬ f k = 111 := fun k hk q => by
    rcases hv k hk with e | ⟨e, -⟩
    · exact absurd e q
    · refine ⟨fun z => ?_, fun z => ?_⟩
      · rw [z] at e; exact absurd e (by decide)
      · rw [z] at e; exact absurd e (by decide)
  unfold pbS numM
  rw [hc a ha, hc b hb]
  by_cases qa : fl a = -1
  · by_cases qb : fl b = -1
    · rw [if_neg (fun z => (p a ha).mp z qa), if_neg (fun z => (p b hb).mp z qb), if_neg (fun z => z.elim (fun y => y.2 qb) (fun y => y.2 qa)), if_neg (fun z => z.1 qa), if_neg (fun z => z.elim (fun y => y.1 qa) (fun y => y.1 qb))]
    · have mb := m b hb qb
      rw [if_neg (fun z => (p a ha).mp z qa), if_pos ((p b hb).mpr qb)]
      by_cases k1 : f a = 107
      · rw [if_pos k1, if_pos (Or.inl ⟨k1, qb⟩)]
      · rw [if_neg k1, if_neg (show ¬ ((f a = 107 ∧ ¬ fl b = -1) ∨ (f b = 107 ∧ ¬ fl a = -1)) from fun z => z.elim (fun y => k1 y.1) (fun y => y.2 qa)), if_neg (show ¬ (¬ fl a = -1 ∧ ¬ fl b = -1) from fun z => z.1 qa)]
        by_cases k2 : f a = 111
        · rw [if_pos k2, if_pos (Or.inr ⟨qb, k2⟩)]
        · rw [if_neg k2, if_neg (fun z => z.elim (fun y => y.1 qa) (fun y => k2 y.2))]
  · have ma := m a ha qa
    rw [if_pos ((p a ha).mpr qa)]
    by_cases qb : fl b = -1
    · rw [if_neg (fun z => (p b hb).mp z qb)]
      by_cases k1 : f b = 107
      · rw [if_pos k1, if_pos (Or.inr ⟨k1, qa⟩)]
      · rw [if_neg k1, if_neg (show ¬ ((f a = 107 ∧ ¬ fl b = -1) ∨ (f b = 107 ∧ ¬ fl a = -1)) from fun z => z.elim (fun y => y.2 qb) (fun y => k1 y.1)), if_neg (show ¬ (¬ fl a = -1 ∧ ¬ fl b = -1) from fun z => z.2 qb)]
        by_cases k2 : f b = 111
        · rw [if_pos k2, if_pos (Or.inl ⟨qa, k2⟩)]
        · rw [if_neg k2, if_neg (fun z => z.elim (fun y => k2 y.2) (fun y => y.1 qb))]
    · have mb := m b hb qb
      rw [if_pos ((p b hb).mpr qb), if_neg (fun z => z.elim (fun y => ma.1 y.1) (fun y => mb.1 y.1)), if_pos ⟨qa, qb⟩]
def dlt (h r b : Nat → Int32) (i k : Nat) : Int32 :=
  (if i % 12 < 11 then (if k = i + 1 then -((h (i + 1) - h i) * r i / 64) else if k = i then (h (i + 1) - h i) * r i / 64 else 0) else 0) +
  ((if i < 96 then (if k = i + 12 then -((h (i + 12) - h i) * b i / 64) else if k = i then (h (i + 12) - h i) * b i / 64 else 0) else 0) +
  ((if (i % 12 = 0 ∨ i % 12 = 11) ∧ k = i then flS h i else 0) + (if (i < 12 ∨ 96 ≤ i) ∧ k = i then flS h i else 0)))
theorem exS_k {h g : Nat → Int32} {a c k : Nat} {n : Int32} (hac : ¬ c = a) : exS h a c n g k = g k + (if k = c then -((h c - h a) * n / 64) else if k = a then (h c - h a) * n / 64 else 0) := by
  unfold exS
  by_cases q : k = c
  · subst q
    rw [upd_eq, upd_ne hac, if_pos rfl, Int32.sub_eq_add_neg]
  · rw [upd_ne q, if_neg q]
    by_cases q2 : k = a
    · subst q2; rw [upd_eq, if_pos rfl]
    · rw [upd_ne q2, if_neg q2, Int32.add_zero]
theorem psA_k {h r g : Nat → Int32} {i k : Nat} : psA h r i g k = g k + (if i % 12 < 11 then (if k = i + 1 then -((h (i + 1) - h i) * r i / 64) else if k = i then (h (i + 1) - h i) * r i / 64 else 0) else 0) := by
  unfold psA
  by_cases q : i % 12 < 11
  · rw [if_pos q, if_pos q]; exact exS_k (by omega)
  · rw [if_neg q, if_neg q, Int32.add_zero]
theorem psB_k {h b g : Nat → Int32} {i k : Nat} : psB h b i g k = g k + (if i < 96 then (if k = i + 12 then -((h (i + 12) - h i) * b i / 64) else if k = i then (h (i + 12) - h i) * b i / 64 else 0) else 0) := by
  unfold psB
  by_cases q : i < 96
  · rw [if_pos q, if_pos q]; exact exS_k (by omega)
  · rw [if_neg q, if_neg q, Int32.add_zero]
theorem psC_k {h g : Nat → Int32} {i k : Nat} : psC h i g k = g k + (if (i % 12 = 0 ∨ i % 12 = 11) ∧ k = i then flS h i else 0) := by
  unfold psC
  by_cases q : i % 12 = 0 ∨ i % 12 = 11
  · rw [if_pos q]
    by_cases q2 : k = i
    · subst q2; rw [upd_eq, if_pos ⟨q, rfl⟩]
    · rw [upd_ne q2, if_neg (fun z => q2 z.2), Int32.add_zero]
  · rw [if_neg q, if_neg (fun z => q z.1), Int32.add_zero]
theorem psD_k {h g : Nat → Int32} {i k : Nat} : psD h i g k = g k + (if (i < 12 ∨ 96 ≤ i) ∧ k = i then flS h i else 0) := by
  unfold psD
  by_cases q : i < 12 ∨ 96 ≤ i
  · rw [if_pos q]
    by_cases q2 : k = i
    · subst q2; rw [upd_eq, if_pos ⟨q, rfl⟩]
    · rw [upd_ne q2, if_neg (fun z => q2 z.2), Int32.add_zero]
  · rw [if_neg q, if_neg (fun z => q z.1), Int32.add_zero]
theorem gnS_k {h r b g0 : Nat → Int32} {i k : Nat} : gnS h r b g0 (i + 1) k = gnS h r b g0 i k + dlt h r b i k := by
  rw [gnS, psD_k, psC_k, psB_k, psA_k]
  unfold dlt
  ac_rfl
theorem gn_0 {h r b g0 : Nat → Int32} {k a : Nat} : ∀ d, (∀ i, a ≤ i → i < a + d → dlt h r b i k = 0) → gnS h r b g0 (a + d) k = gnS h r b g0 a k
  | 0, _ => rfl
  | d + 1, hz => by
    rw [show a + (d + 1) = (a + d) + 1 by omega, gnS_k, gn_0 d (fun i h1 h2 => hz i h1 (by omega)), hz (a + d) (by omega) (by omega), Int32.add_zero]
theorem dlt_0 {h r b : Nat → Int32} {i k : Nat} (h1 : ¬ k = i) (h2 : ¬ (k = i + 1 ∧ i % 12 < 11)) (h3 : ¬ (k = i + 12 ∧ i < 96)) : dlt h r b i k = 0 := by
  unfold dlt
  have e1 : (if i % 12 < 11 then (if k = i + 1 then -((h (i + 1) - h i) * r i / 64) else if k = i then (h (i + 1) - h i) * r i / 64 else 0) else 0) = 0 := by
    by_cases q : i % 12 < 11
    · rw [if_pos q, if_neg (fun z => h2 ⟨z, q⟩), if_neg h1]
    · rw [if_neg q]
  have e2 : (if i < 96 then (if k = i + 12 then -((h (i + 12) - h i) * b i / 64) else if k = i then (h (i + 12) - h i) * b i / 64 else 0) else 0) = 0 := by
    by_cases q : i < 96
    · rw [if_pos q, if_neg (fun z => h3 ⟨z, q⟩), if_neg h1]
    · rw [if_neg q]
  rw [e1, e2, if_neg (fun z => h1 z.2), if_neg (fun z => h1 z.2)]
  decide
theorem dlt_l {h r b : Nat → Int32} {i : Nat} (q : i % 12 < 11) : dlt h r b i (i + 1) = -((h (i + 1) - h i) * r i / 64) := by
  unfold dlt
  have e2 : (if i < 96 then (if i + 1 = i + 12 then -((h (i + 12) - h i) * b i / 64) else if i + 1 = i then (h (i + 12) - h i) * b i / 64 else 0) else 0) = 0 := by
    by_cases q : i < 96
    · rw [if_pos q, if_neg (by omega), if_neg (by omega)]
    · rw [if_neg q]
  rw [if_pos q, if_pos rfl, e2, if_neg (fun z => absurd z.2 (by omega)), if_neg (fun z => absurd z.2 (by omega)), Int32.add_zero, Int32.add_zero, Int32.add_zero]
theorem dlt_u {h r b : Nat → Int32} {i : Nat} (q : i < 96) : dlt h r b i (i + 12) = -((h (i + 12) - h i) * b i / 64) := by
  unfold dlt
  have e1 : (if i % 12 < 11 then (if i + 12 = i + 1 then -((h (i + 1) - h i) * r i / 64) else if i + 12 = i then (h (i + 1) - h i) * r i / 64 else 0) else 0) = 0 := by
    by_cases q : i % 12 < 11
    · rw [if_pos q, if_neg (by omega), if_neg (by omega)]
    · rw [if_neg q]
  rw [e1, if_pos q, if_pos rfl, if_neg (fun z => absurd z.2 (by omega)), if_neg (fun z => absurd z.2 (by omega)), Int32.add_zero, Int32.add_zero, Int32.zero_add]
theorem dlt_o {h r b : Nat → Int32} {i : Nat} : dlt h r b i i = (if i % 12 < 11 then (h (i + 1) - h i) * r i / 64 else 0) + ((if i < 96 then (h (i + 12) - h i) * b i / 64 else 0) + ((if i % 12 = 0 ∨ i % 12 = 11 then flS h i else 0) + (if i < 12 ∨ 96 ≤ i then flS h i else 0))) := by
  unfold dlt
  rw [if_neg (show ¬ i = i + 1 by omega), if_pos (rfl : i = i), if_neg (show ¬ i = i + 12 by omega), if_pos (rfl : i = i)]
  have e1 : (if (i % 12 = 0 ∨ i % 12 = 11) ∧ i = i then flS h i else 0) = (if i % 12 = 0 ∨ i % 12 = 11 then flS h i else 0) := z_ifc ⟨fun z => z.1, fun z => ⟨z, rfl⟩⟩ rfl rfl
  have e2 : (if (i < 12 ∨ 96 ≤ i) ∧ i = i then flS h i else 0) = (if i < 12 ∨ 96 ≤ i then flS h i else 0) := z_ifc ⟨fun z => z.1, fun z => ⟨z, rfl⟩⟩ rfl rfl
  rw [e1, e2]
theorem gn_up {h r b g0 : Nat → Int32} {k : Nat} (hk : k < 108) : gnS h r b g0 108 k = g0 k + (if 12 ≤ k then -((h k - h (k - 12)) * b (k - 12) / 64) else 0) + (if 0 < k % 12 then -((h k - h (k - 1)) * r (k - 1) / 64) else 0) + dlt h r b k k := by
  have c1 : gnS h r b g0 (k - 11) k = g0 k + (if 12 ≤ k then -((h k - h (k - 12)) * b (k - 12) / 64) else 0) := by
    by_cases q : 12 ≤ k
    · rw [if_pos q, show k - 11 = (k - 12) + 1 by omega, gnS_k]
      have e := gn_0 (h := h) (r := r) (b := b) (g0 := g0) (k := k) (a := 0) (k - 12) (fun i h1 h2 => dlt_0 (by omega) (by omega) (by omega))
      rw [Nat.zero_add] at e
      rw [e]
      have e2 := dlt_u (h := h) (r := r) (b := b) (i := k - 12) (by omega)
      rw [show k - 12 + 12 = k by omega] at e2
      rw [e2]
      rfl
    · rw [if_neg q, show k - 11 = 0 by omega, Int32.add_zero]
      rfl
  have c2 : gnS h r b g0 k k = g0 k + (if 12 ≤ k then -((h k - h (k - 12)) * b (k - 12) / 64) else 0) + (if 0 < k % 12 then -((h k - h (k - 1)) * r (k - 1) / 64) else 0) := by
    by_cases q : 0 < k % 12
    · rw [if_pos q, ← c1]
      have e := gn_0 (h := h) (r := r) (b := b) (g0 := g0) (k := k) (a := k - 11) (k - 1 - (k - 11)) (fun i h1 h2 => dlt_0 (by omega) (by omega) (by omega))
      rw [show k - 11 + (k - 1 - (k - 11)) = k - 1 by omega] at e
      have e3 := gnS_k (h := h) (r := r) (b := b) (g0 := g0) (i := k - 1) (k := k)
      rw [show k - 1 + 1 = k by omega] at e3
      have e2 := dlt_l (h := h) (r := r) (b := b) (i := k - 1) (by omega)
      rw [show k - 1 + 1 = k by omega] at e2
      rw [e3, e, e2]
    · rw [if_neg q, ← c1, Int32.add_zero]
      have e := gn_0 (h := h) (r := r) (b := b) (g0 := g0) (k := k) (a := k - 11) (k - (k - 11)) (fun i h1 h2 => dlt_0 (by omega) (by omega) (by omega))
      rw [show k - 11 + (k - (k - 11)) = k by omega] at e
      exact e
  have e := gn_0 (h := h) (r := r) (b := b) (g0 := g0) (k := k) (a := k + 1) (108 - (k + 1)) (fun i h1 h2 => dlt_0 (by omega) (by omega) (by omega))
  rw [show k + 1 + (108 - (k + 1)) = 108 by omega] at e
  rw [e, gnS_k, c2]
theorem to_k {ce fi f0 : Nat → Int32} {sd k : Nat} : ∀ n, (k < n → toS ce fi sd f0 n k = (bs k sd).elim 0 (fun j => pbS ce fi k j)) 
  | 0 => fun q => absurd q (Nat.not_lt_zero k)
  | n + 1 => fun q => by
    rw [toS]
    by_cases z : k = n
    · subst z; rw [upd_eq]
    · rw [upd_ne z]; exact to_k n (by omega)
theorem bs0 {k : Nat} : bs k 0 = if 12 ≤ k then some (k - 12) else none := rfl
theorem bs1 {k : Nat} : bs k 1 = if 0 < k % 12 then some (k - 1) else none := rfl
theorem bs2 {k : Nat} : bs k 2 = if k % 12 < 11 then some (k + 1) else none := rfl
theorem bs3 {k : Nat} : bs k 3 = if k < 96 then some (k + 12) else none := rfl
theorem gn_ga {f fl ce fi H he f5 f6 g0 : Nat → Int32} (hc : eqA ce f) (hf : eqA fl fi) (hv : vlA f fl) (hH : eqA H he) (hb : bdA he) {k : Nat} (hk : k < 108) : gnS H (toS ce fi 2 f5 108) (toS ce fi 3 f6 108) (fa_fill (fun _ => 0) g0 108) 108 k = gaM f fl he k 4 := by
  have tr : ∀ i, i < 108 → i % 12 < 11 → toS ce fi 2 f5 108 i = numM f fl i (i + 1) := fun i hi q => by
    rw [to_k 108 hi, bs2, if_pos q]
    exact pb_num hc hf hv hi (by omega)
  have tb : ∀ i, i < 96 → toS ce fi 3 f6 108 i = numM f fl i (i + 12) := fun i q => by
    rw [to_k 108 (by omega), bs3, if_pos q]
    exact pb_num hc hf hv (by omega) (by omega)
  rw [gn_up hk, dlt_o, fa_fill_in hk, Int32.zero_add, gaM_v, Int32.zero_add]
  have u0 : vM f fl he k 0 = if 12 ≤ k then -((H k - H (k - 12)) * toS ce fi 3 f6 108 (k - 12) / 64) else flS H k := by
    by_cases q : 12 ≤ k
    · rw [if_pos q, tb (k - 12) (by omega), show k - 12 + 12 = k by omega, hH k hk, hH (k - 12) (by omega), vM_s (show bs k 0 = some (k - 12) by rw [bs0, if_pos q]), numM_c (c := k) (o := k - 12)]
      exact ((fw_b (hb k hk) (hb (k - 12) (by omega)) numM_S).2.2).symm
    · rw [if_neg q, vM_n (show bs k 0 = none by rw [bs0, if_neg q])]
      unfold flS
      rw [hH k hk]
  have u1 : vM f fl he k 1 = if 0 < k % 12 then -((H k - H (k - 1)) * toS ce fi 2 f5 108 (k - 1) / 64) else flS H k := by
    by_cases q : 0 < k % 12
    · rw [if_pos q, tr (k - 1) (by omega) (by omega), show k - 1 + 1 = k by omega, hH k hk, hH (k - 1) (by omega), vM_s (show bs k 1 = some (k - 1) by rw [bs1, if_pos q]), numM_c (c := k) (o := k - 1)]
      exact ((fw_b (hb k hk) (hb (k - 1) (by omega)) numM_S).2.2).symm
    · rw [if_neg q, vM_n (show bs k 1 = none by rw [bs1, if_neg q])]
      unfold flS
      rw [hH k hk]
  have u2 : vM f fl he k 2 = if k % 12 < 11 then (H (k + 1) - H k) * toS ce fi 2 f5 108 k / 64 else flS H k := by
    by_cases q : k % 12 < 11
    · rw [if_pos q, tr k hk q, hH k hk, hH (k + 1) (by omega), vM_s (show bs k 2 = some (k + 1) by rw [bs2, if_pos q])]
    · rw [if_neg q, vM_n (show bs k 2 = none by rw [bs2, if_neg q])]
      unfold flS
      rw [hH k hk]
  have u3 : vM f fl he k 3 = if k < 96 then (H (k + 12) - H k) * toS ce fi 3 f6 108 k / 64 else flS H k := by
    by_cases q : k < 96
    · rw [if_pos q, tb k q, hH k hk, hH (k + 12) (by omega), vM_s (show bs k 3 = some (k + 12) by rw [bs3, if_pos q])]
    · rw [if_neg q, vM_n (show bs k 3 = none by rw [bs3, if_neg q])]
      unfold flS
      rw [hH k hk]
  rw [u0, u1, u2, u3]
  obtain ⟨a0, ha0⟩ : ∃ x, x = -((H k - H (k - 12)) * toS ce fi 3 f6 108 (k - 12) / 64) := ⟨_, rfl⟩
  obtain ⟨a1, ha1⟩ : ∃ x, x = -((H k - H (k - 1)) * toS ce fi 2 f5 108 (k - 1) / 64) := ⟨_, rfl⟩
  obtain ⟨a2, ha2⟩ : ∃ x, x = (H (k + 1) - H k) * toS ce fi 2 f5 108 k / 64 := ⟨_, rfl⟩
  obtain ⟨a3, ha3⟩ : ∃ x, x = (H (k + 12) - H k) * toS ce fi 3 f6 108 k / 64 := ⟨_, rfl⟩
  obtain ⟨w, hw⟩ : ∃ x, x = flS H k := ⟨_, rfl⟩
  rw [← ha0, ← ha1, ← ha2, ← ha3, ← hw]
  by_cases q0 : 12 ≤ k
  · rw [if_pos q0, if_pos q0]
    by_cases q3 : k < 96
    · rw [if_pos q3, if_pos q3, if_neg (show ¬ (k < 12 ∨ 96 ≤ k) by omega)]
      by_cases q1 : 0 < k % 12
      · rw [if_pos q1, if_pos q1]
        by_cases q2 : k % 12 < 11
        · rw [if_pos q2, if_pos q2, if_neg (by omega), Int32.add_zero, Int32.add_zero]; ac_rfl
        · rw [if_neg q2, if_neg q2, if_pos (by omega), Int32.add_zero, Int32.zero_add]; ac_rfl
      · rw [if_neg q1, if_neg q1, if_pos (show k % 12 < 11 by omega), if_pos (show k % 12 < 11 by omega), if_pos (by omega), Int32.add_zero, Int32.add_zero]; ac_rfl
    · rw [if_neg q3, if_neg q3, if_pos (show k < 12 ∨ 96 ≤ k by omega)]
      by_cases q1 : 0 < k % 12
      · rw [if_pos q1, if_pos q1]
        by_cases q2 : k % 12 < 11
        · rw [if_pos q2, if_pos q2, if_neg (by omega), Int32.zero_add, Int32.zero_add]; ac_rfl
        · rw [if_neg q2, if_neg q2, if_pos (by omega), Int32.zero_add, Int32.zero_add]; ac_rfl
      · rw [if_neg q1, if_neg q1, if_pos (show k % 12 < 11 by omega), if_pos (show k % 12 < 11 by omega), if_pos (by omega), Int32.add_zero, Int32.zero_add]; ac_rfl
  · rw [if_neg q0, if_neg q0, if_pos (show k < 96 by omega), if_pos (show k < 96 by omega), if_pos (show k < 12 ∨ 96 ≤ k by omega), Int32.zero_add]
    by_cases q1 : 0 < k % 12
    · rw [if_pos q1, if_pos q1]
      by_cases q2 : k % 12 < 11
      · rw [if_pos q2, if_pos q2, if_neg (by omega), Int32.zero_add]; ac_rfl
      · rw [if_neg q2, if_neg q2, if_pos (by omega), Int32.zero_add]; ac_rfl
    · rw [if_neg q1, if_neg q1, if_pos (show k % 12 < 11 by omega), if_pos (show k % 12 < 11 by omega), if_pos (by omega), Int32.zero_add]; ac_rfl
