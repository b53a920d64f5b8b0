section
theorem bm32 {x : Int} (h1 : -2147483648 ≤ x) (h2 : x < 2147483648) : x.bmod (2 ^ 32) = x := by
  rw [Int.bmod_def]
  split <;> omega
theorem td64 (a : Int) : (0 ≤ a → 0 ≤ a.tdiv 64 ∧ 64 * a.tdiv 64 ≤ a) ∧ (a ≤ 0 → a.tdiv 64 ≤ 0 ∧ a ≤ 64 * a.tdiv 64) := by
  have p : ∀ b : Int, 0 ≤ b → 0 ≤ b.tdiv 64 ∧ 64 * b.tdiv 64 ≤ b := fun b h => by
    rw [Int.tdiv_eq_ediv_of_nonneg h]
    omega
  refine ⟨p a, fun h => ?_⟩
  have h1 := p (-a) (by omega)
  rw [Int.neg_tdiv] at h1
  omega
theorem dv64n {x : Int32} (h : -2147483648 < x.toInt) : (-x) / 64 = -(x / 64) := Int32.toInt_inj.mp (by
  have hl := x.toInt_lt
  have e64 : (64 : Int32).toInt = 64 := by decide
  have h1 : (-x).toInt = -x.toInt := by rw [Int32.toInt_neg]; exact bm32 (by omega) (by omega)
  have t := td64 x.toInt
  rw [Int32.toInt_div_of_ne_right _ _ (by decide), h1, Int32.toInt_neg, Int32.toInt_div_of_ne_right _ _ (by decide), e64, Int.neg_tdiv]
  obtain ⟨v, hv⟩ : ∃ v, v = x.toInt.tdiv 64 := ⟨_, rfl⟩
  rw [← hv] at t ⊢
  refine (bm32 ?_ ?_).symm
  · rcases Int.le_total 0 x.toInt with q | q
    · have := t.1 q; omega
    · have := t.2 q; omega
  · rcases Int.le_total 0 x.toInt with q | q
    · have := t.1 q; omega
    · have := t.2 q; omega)
def nS (n : Int32) : Prop := n = 3 ∨ n = 4 ∨ n = 12 ∨ n = 14
def bd1 (x : Int32) : Prop := 20 ≤ x.toInt ∧ x.toInt ≤ 1500
theorem fw_3 {a b : Int32} (ha : bd1 a) (hb : bd1 b) : 64 * ((b - a) * 3 / 64).toInt ≤ 14 * (1500 - a.toInt) ∧ 14 * (20 - a.toInt) ≤ 64 * ((b - a) * 3 / 64).toInt ∧ -((a - b) * 3 / 64) = (b - a) * 3 / 64 := by
  obtain ⟨ha1, ha2⟩ := ha
  obtain ⟨hb1, hb2⟩ := hb
  have en : (3 : Int32).toInt = 3 := by decide
  have e64 : (64 : Int32).toInt = 64 := by decide
  have e1 : (b - a).toInt = b.toInt - a.toInt := by rw [Int32.toInt_sub]; exact bm32 (by omega) (by omega)
  have e2 : ((b - a) * 3).toInt = (b.toInt - a.toInt) * 3 := by rw [Int32.toInt_mul, e1, en]; exact bm32 (by omega) (by omega)
  have e3 : ((b - a) * 3 / 64).toInt = ((b.toInt - a.toInt) * 3).tdiv 64 := by rw [Int32.toInt_div_of_ne_right _ _ (by decide), e2, e64]
  have t := td64 ((b.toInt - a.toInt) * 3)
  obtain ⟨v, hv⟩ : ∃ v, v = ((b.toInt - a.toInt) * 3).tdiv 64 := ⟨_, rfl⟩
  rw [← hv] at t e3
  rw [e3]
  have t1 : 64 * v ≤ 14 * (1500 - a.toInt) ∧ 14 * (20 - a.toInt) ≤ 64 * v := by
    rcases Int.le_total 0 ((b.toInt - a.toInt) * 3) with q | q
    · have := t.1 q; omega
    · have := t.2 q; omega
  refine ⟨t1.1, t1.2, ?_⟩
  rw [show a - b = -(b - a) from Int32.neg_sub.symm, Int32.neg_mul, dv64n (by rw [e2]; omega), Int32.neg_neg]
theorem fw_4 {a b : Int32} (ha : bd1 a) (hb : bd1 b) : 64 * ((b - a) * 4 / 64).toInt ≤ 14 * (1500 - a.toInt) ∧ 14 * (20 - a.toInt) ≤ 64 * ((b - a) * 4 / 64).toInt ∧ -((a - b) * 4 / 64) = (b - a) * 4 / 64 := by
  obtain ⟨ha1, ha2⟩ := ha
  obtain ⟨hb1, hb2⟩ := hb
  have en : (4 : Int32).toInt = 4 := by decide
  have e64 : (64 : Int32).toInt = 64 := by decide
  have e1 : (b - a).toInt = b.toInt - a.toInt := by rw [Int32.toInt_sub]; exact bm32 (by omega) (by omega)
  have e2 : ((b - a) * 4).toInt = (b.toInt - a.toInt) * 4 := by rw [Int32.toInt_mul, e1, en]; exact bm32 (by omega) (by omega)
  have e3 : ((b - a) * 4 / 64).toInt = ((b.toInt - a.toInt) * 4).tdiv 64 := by rw [Int32.toInt_div_of_ne_right _ _ (by decide), e2, e64]
  have t := td64 ((b.toInt - a.toInt) * 4)
  obtain ⟨v, hv⟩ : ∃ v, v = ((b.toInt - a.toInt) * 4).tdiv 64 := ⟨_, rfl⟩
  rw [← hv] at t e3
  rw [e3]
  have t1 : 64 * v ≤ 14 * (1500 - a.toInt) ∧ 14 * (20 - a.toInt) ≤ 64 * v := by
    rcases Int.le_total 0 ((b.toInt - a.toInt) * 4) with q | q
    · have := t.1 q; omega
    · have := t.2 q; omega
  refine ⟨t1.1, t1.2, ?_⟩
  rw [show a - b = -(b - a) from Int32.neg_sub.symm, Int32.neg_mul, dv64n (by rw [e2]; omega), Int32.neg_neg]
theorem fw_12 {a b : Int32} (ha : bd1 a) (hb : bd1 b) : 64 * ((b - a) * 12 / 64).toInt ≤ 14 * (1500 - a.toInt) ∧ 14 * (20 - a.toInt) ≤ 64 * ((b - a) * 12 / 64).toInt ∧ -((a - b) * 12 / 64) = (b - a) * 12 / 64 := by
  obtain ⟨ha1, ha2⟩ := ha
  obtain ⟨hb1, hb2⟩ := hb
  have en : (12 : Int32).toInt = 12 := by decide
  have e64 : (64 : Int32).toInt = 64 := by decide
  have e1 : (b - a).toInt = b.toInt - a.toInt := by rw [Int32.toInt_sub]; exact bm32 (by omega) (by omega)
  have e2 : ((b - a) * 12).toInt = (b.toInt - a.toInt) * 12 := by rw [Int32.toInt_mul, e1, en]; exact bm32 (by omega) (by omega)
  have e3 : ((b - a) * 12 / 64).toInt = ((b.toInt - a.toInt) * 12).tdiv 64 := by rw [Int32.toInt_div_of_ne_right _ _ (by decide), e2, e64]
  have t := td64 ((b.toInt - a.toInt) * 12)
  obtain ⟨v, hv⟩ : ∃ v, v = ((b.toInt - a.toInt) * 12).tdiv 64 := ⟨_, rfl⟩
  rw [← hv] at t e3
  rw [e3]
  have t1 : 64 * v ≤ 14 * (1500 - a.toInt) ∧ 14 * (20 - a.toInt) ≤ 64 * v := by
    rcases Int.le_total 0 ((b.toInt - a.toInt) * 12) with q | q
    · have := t.1 q; omega
    · have := t.2 q; omega
  refine ⟨t1.1, t1.2, ?_⟩
  rw [show a - b = -(b - a) from Int32.neg_sub.symm, Int32.neg_mul, dv64n (by rw [e2]; omega), Int32.neg_neg]
theorem fw_14 {a b : Int32} (ha : bd1 a) (hb : bd1 b) : 64 * ((b - a) * 14 / 64).toInt ≤ 14 * (1500 - a.toInt) ∧ 14 * (20 - a.toInt) ≤ 64 * ((b - a) * 14 / 64).toInt ∧ -((a - b) * 14 / 64) = (b - a) * 14 / 64 := by
  obtain ⟨ha1, ha2⟩ := ha
  obtain ⟨hb1, hb2⟩ := hb
  have en : (14 : Int32).toInt = 14 := by decide
  have e64 : (64 : Int32).toInt = 64 := by decide
  have e1 : (b - a).toInt = b.toInt - a.toInt := by rw [Int32.toInt_sub]; exact bm32 (by omega) (by omega)
  have e2 : ((b - a) * 14).toInt = (b.toInt - a.toInt) * 14 := by rw [Int32.toInt_mul, e1, en]; exact bm32 (by omega) (by omega)
  have e3 : ((b - a) * 14 / 64).toInt = ((b.toInt - a.toInt) * 14).tdiv 64 := by rw [Int32.toInt_div_of_ne_right _ _ (by decide), e2, e64]
  have t := td64 ((b.toInt - a.toInt) * 14)
  obtain ⟨v, hv⟩ : ∃ v, v = ((b.toInt - a.toInt) * 14).tdiv 64 := ⟨_, rfl⟩
  rw [← hv] at t e3
  rw [e3]
  have t1 : 64 * v ≤ 14 * (1500 - a.toInt) ∧ 14 * (20 - a.toInt) ≤ 64 * v := by
    rcases Int.le_total 0 ((b.toInt - a.toInt) * 14) with q | q
    · have := t.1 q; omega
    · have := t.2 q; omega
  refine ⟨t1.1, t1.2, ?_⟩
  rw [show a - b = -(b - a) from Int32.neg_sub.symm, Int32.neg_mul, dv64n (by rw [e2]; omega), Int32.neg_neg]
theorem fw_b {a b n : Int32} (ha : bd1 a) (hb : bd1 b) (hn : nS n) : 64 * ((b - a) * n / 64).toInt ≤ 14 * (1500 - a.toInt) ∧ 14 * (20 - a.toInt) ≤ 64 * ((b - a) * n / 64).toInt ∧ -((a - b) * n / 64) = (b - a) * n / 64 := by
  rcases hn with rfl | rfl | rfl | rfl
  · exact fw_3 ha hb
  · exact fw_4 ha hb
  · exact fw_12 ha hb
  · exact fw_14 ha hb
theorem bd_20 : bd1 20 := ⟨by decide, by decide⟩
theorem numM_S {f fl : Nat → Int32} {c o : Nat} : nS (numM f fl c o) := by
  unfold numM
  split
  · exact Or.inr (Or.inr (Or.inr rfl))
  · split
    · exact Or.inr (Or.inr (Or.inl rfl))
    · split
      · exact Or.inl rfl
      · exact Or.inr (Or.inl rfl)
theorem z_ifc {α : Type} {p q : Prop} [Decidable p] [Decidable q] {a b c d : α} (h : p ↔ q) (h1 : a = c) (h2 : b = d) : (if p then a else b) = (if q then c else d) := by
  subst h1; subst h2
  by_cases k : p
  · rw [if_pos k, if_pos (h.mp k)]
  · rw [if_neg k, if_neg (fun z => k (h.mpr z))]
theorem numM_c {f fl : Nat → Int32} {c o : Nat} : numM f fl c o = numM f fl o c := by
  unfold numM
  exact z_ifc Or.comm rfl (z_ifc And.comm rfl (z_ifc Or.comm rfl rfl))
def vM (f fl he : Nat → Int32) (c s : Nat) : Int32 := (bs c s).elim ((20 - he c) * 4 / 64) (fun o => (he o - he c) * numM f fl c o / 64)
theorem vM_n {f fl he : Nat → Int32} {c s : Nat} (h : bs c s = none) : vM f fl he c s = (20 - he c) * 4 / 64 := by rw [vM, h]; rfl
theorem vM_s {f fl he : Nat → Int32} {c s o : Nat} (h : bs c s = some o) : vM f fl he c s = (he o - he c) * numM f fl c o / 64 := by rw [vM, h]; rfl
def bdA (he : Nat → Int32) : Prop := ∀ k, k < 108 → bd1 (he k)
theorem vM_b {f fl he : Nat → Int32} {c s : Nat} (hb : bdA he) (hc : c < 108) : 64 * (vM f fl he c s).toInt ≤ 14 * (1500 - (he c).toInt) ∧ 14 * (20 - (he c).toInt) ≤ 64 * (vM f fl he c s).toInt := by
  cases e : bs c s with
  | none => rw [vM_n e]; have := fw_b (hb c hc) bd_20 (n := 4) (Or.inr (Or.inl rfl)); exact ⟨this.1, this.2.1⟩
  | some o => rw [vM_s e]; have := fw_b (hb c hc) (hb o (bs_lt hc e)) (numM_S (f := f) (fl := fl) (c := c) (o := o)); exact ⟨this.1, this.2.1⟩
theorem gaM_v {f fl he : Nat → Int32} {c : Nat} : gaM f fl he c 4 = 0 + vM f fl he c 0 + vM f fl he c 1 + vM f fl he c 2 + vM f fl he c 3 := rfl
theorem ga_bd {f fl he : Nat → Int32} {c : Nat} (hb : bdA he) (hc : c < 108) : bd1 (he c + gaM f fl he c 4) := by
  have b0 := vM_b (f := f) (fl := fl) (s := 0) hb hc
  have b1 := vM_b (f := f) (fl := fl) (s := 1) hb hc
  have b2 := vM_b (f := f) (fl := fl) (s := 2) hb hc
  have b3 := vM_b (f := f) (fl := fl) (s := 3) hb hc
  obtain ⟨h1, h2⟩ := hb c hc
  rw [gaM_v, Int32.zero_add]
  have e1 : (vM f fl he c 0 + vM f fl he c 1).toInt = (vM f fl he c 0).toInt + (vM f fl he c 1).toInt := by rw [Int32.toInt_add]; exact bm32 (by omega) (by omega)
  have e2 : (vM f fl he c 0 + vM f fl he c 1 + vM f fl he c 2).toInt = (vM f fl he c 0).toInt + (vM f fl he c 1).toInt + (vM f fl he c 2).toInt := by rw [Int32.toInt_add, e1]; exact bm32 (by omega) (by omega)
  have e3 : (vM f fl he c 0 + vM f fl he c 1 + vM f fl he c 2 + vM f fl he c 3).toInt = (vM f fl he c 0).toInt + (vM f fl he c 1).toInt + (vM f fl he c 2).toInt + (vM f fl he c 3).toInt := by rw [Int32.toInt_add, e2]; exact bm32 (by omega) (by omega)
  have e4 : (he c + (vM f fl he c 0 + vM f fl he c 1 + vM f fl he c 2 + vM f fl he c 3)).toInt = (he c).toInt + ((vM f fl he c 0).toInt + (vM f fl he c 1).toInt + (vM f fl he c 2).toInt + (vM f fl he c 3).toInt) := by rw [Int32.toInt_add, e3]; exact bm32 (by omega) (by omega)
  unfold bd1
  rw [e4]
  exact ⟨by omega, by omega⟩
theorem pb_num {f fl ce fi : Nat → Int32} {a b : Nat} (hc : eqA ce f) (hf : eqA fl fi) (hv : vlA f fl) (ha : a < 108) (hb : b < 108) : pbS ce fi a b = numM f fl a b := by
  have p : ∀ k, k < 108 → (0 ≤ fi k ↔ ¬ fl k = -1) := fun k hk => by
    rw [← hf k hk, ← Int32.not_lt]
    exact vl_ng hv hk
  have m : ∀ k, k < 108 → ¬ fl k = -1 → ¬ f k = 107 ∧ ¬ f k = 111 := fun k hk q => by
    rcases hv k hk with e | ⟨e, -⟩
    · exact absurd e q
    · refine ⟨fun z => ?_, fun z => ?_⟩
      · rw [z] at e; exact absurd e (by decide)
      · rw [z] at e; exact absurd e (by decide)
  unfold pbS numM
  rw [hc a ha, hc b hb]
  by_cases qa : fl a = -1
  · by_cases qb : fl b = -1
    · rw [if_neg (fun z => (p a ha).mp z qa), if_neg (fun z => (p b hb).mp z qb), if_neg (fun z => z.elim (fun y => y.2 qb) (fun y => y.2 qa)), if_neg (fun z => z.1 qa), if_neg (fun z => z.elim (fun y => y.1 qa) (fun y => y.1 qb))]
    · have mb := m b hb qb
      rw [if_neg (fun z => (p a ha).mp z qa), if_pos ((p b hb).mpr qb)]
      by_cases k1 : f a = 107
      · rw [if_pos k1, if_pos (Or.inl ⟨k1, qb⟩)]
      · rw [if_neg k1, if_neg (show ¬ ((f a = 107 ∧ ¬ fl b = -1) ∨ (f b = 107 ∧ ¬ fl a = -1)) from fun z => z.elim (fun y => k1 y.1) (fun y => y.2 qa)), if_neg (show ¬ (¬ fl a = -1 ∧ ¬ fl b = -1) from fun z => z.1 qa)]
        by_cases k2 : f a = 111
        · rw [if_pos k2, if_pos (Or.inr ⟨qb, k2⟩)]
        · rw [if_neg k2, if_neg (fun z => z.elim (fun y => y.1 qa) (fun y => k2 y.2))]
  · have ma := m a ha qa
    rw [if_pos ((p a ha).mpr qa)]
    by_cases qb : fl b = -1
    · rw [if_neg (fun z => (p b hb).mp z qb)]
      by_cases k1 : f b = 107
      · rw [if_pos k1, if_pos (Or.inr ⟨k1, qa⟩)]
      · rw [if_neg k1, if_neg (show ¬ ((f a = 107 ∧ ¬ fl b = -1) ∨ (f b = 107 ∧ ¬ fl a = -1)) from fun z => z.elim (fun y => y.2 qb) (fun y => k1 y.1)), if_neg (show ¬ (¬ fl a = -1 ∧ ¬ fl b = -1) from fun z => z.2 qb)]
        by_cases k2 : f b = 111
        · rw [if_pos k2, if_pos (Or.inl ⟨qa, k2⟩)]
        · rw [if_neg k2, if_neg (fun z => z.elim (fun y => k2 y.2) (fun y => y.1 qb))]
    · have mb := m b hb qb
      rw [if_pos ((p b hb).mpr qb), if_neg (fun z => z.elim (fun y => ma.1 y.1) (fun y => mb.1 y.1)), if_pos ⟨qa, qb⟩]
def dlt (h r b : Nat → Int32) (i k : Nat) : Int32 :=
  (if i % 12 < 11 then (if k = i + 1 then -((h (i + 1) - h i) * r i / 64) else if k = i then (h (i + 1) - h i) * r i / 64 else 0) else 0) +
  ((if i < 96 then (if k = i + 12 then -((h (i + 12) - h i) * b i / 64) else if k = i then (h (i + 12) - h i) * b i / 64 else 0) else 0) +
  ((if (i % 12 = 0 ∨ i % 12 = 11) ∧ k = i then flS h i else 0) + (if (i < 12 ∨ 96 ≤ i) ∧ k = i then flS h i else 0)))
theorem exS_k {h g : Nat → Int32} {a c k : Nat} {n : Int32} (hac : ¬ c = a) : exS h a c n g k = g k + (if k = c then -((h c - h a) * n / 64) else if k = a then (h c - h a) * n / 64 else 0) := by
  unfold exS
  by_cases q : k = c
  · subst q
    rw [upd_eq, upd_ne hac, if_pos rfl, Int32.sub_eq_add_neg]
  · rw [upd_ne q, if_neg q]
    by_cases q2 : k = a
    · subst q2; rw [upd_eq, if_pos rfl]
    · rw [upd_ne q2, if_neg q2, Int32.add_zero]
theorem psA_k {h r g : Nat → Int32} {i k : Nat} : psA h r i g k = g k + (if i % 12 < 11 then (if k = i + 1 then -((h (i + 1) - h i) * r i / 64) else if k = i then (h (i + 1) - h i) * r i / 64 else 0) else 0) := by
  unfold psA
  by_cases q : i % 12 < 11
  · rw [if_pos q, if_pos q]; exact exS_k (by omega)
  · rw [if_neg q, if_neg q, Int32.add_zero]
theorem psB_k {h b g : Nat → Int32} {i k : Nat} : psB h b i g k = g k + (if i < 96 then (if k = i + 12 then -((h (i + 12) - h i) * b i / 64) else if k = i then (h (i + 12) - h i) * b i / 64 else 0) else 0) := by
  unfold psB
  by_cases q : i < 96
  · rw [if_pos q, if_pos q]; exact exS_k (by omega)
  · rw [if_neg q, if_neg q, Int32.add_zero]
theorem psC_k {h g : Nat → Int32} {i k : Nat} : psC h i g k = g k + (if (i % 12 = 0 ∨ i % 12 = 11) ∧ k = i then flS h i else 0) := by
  unfold psC
  by_cases q : i % 12 = 0 ∨ i % 12 = 11
  · rw [if_pos q]
    by_cases q2 : k = i
    · subst q2; rw [upd_eq, if_pos ⟨q, rfl⟩]
    · rw [upd_ne q2, if_neg (fun z => q2 z.2), Int32.add_zero]
  · rw [if_neg q, if_neg (fun z => q z.1), Int32.add_zero]
theorem psD_k {h g : Nat → Int32} {i k : Nat} : psD h i g k = g k + (if (i < 12 ∨ 96 ≤ i) ∧ k = i then flS h i else 0) := by
  unfold psD
  by_cases q : i < 12 ∨ 96 ≤ i
  · rw [if_pos q]
    by_cases q2 : k = i
    · subst q2; rw [upd_eq, if_pos ⟨q, rfl⟩]
    · rw [upd_ne q2, if_neg (fun z => q2 z.2), Int32.add_zero]
  · rw [if_neg q, if_neg (fun z => q z.1), Int32.add_zero]
theorem gnS_k {h r b g0 : Nat → Int32} {i k : Nat} : gnS h r b g0 (i + 1) k = gnS h r b g0 i k + dlt h r b i k := by
  rw [gnS, psD_k, psC_k, psB_k, psA_k]
  unfold dlt
  ac_rfl
theorem gn_0 {h r b g0 : Nat → Int32} {k a : Nat} : ∀ d, (∀ i, a ≤ i → i < a + d → dlt h r b i k = 0) → gnS h r b g0 (a + d) k = gnS h r b g0 a k
  | 0, _ => rfl
  | d + 1, hz => by
    rw [show a + (d + 1) = (a + d) + 1 by omega, gnS_k, gn_0 d (fun i h1 h2 => hz i h1 (by omega)), hz (a + d) (by omega) (by omega), Int32.add_zero]
theorem dlt_0 {h r b : Nat → Int32} {i k : Nat} (h1 : ¬ k = i) (h2 : ¬ (k = i + 1 ∧ i % 12 < 11)) (h3 : ¬ (k = i + 12 ∧ i < 96)) : dlt h r b i k = 0 := by
  unfold dlt
  have e1 : (if i % 12 < 11 then (if k = i + 1 then -((h (i + 1) - h i) * r i / 64) else if k = i then (h (i + 1) - h i) * r i / 64 else 0) else 0) = 0 := by
    by_cases q : i % 12 < 11
    · rw [if_pos q, if_neg (fun z => h2 ⟨z, q⟩), if_neg h1]
    · rw [if_neg q]
  have e2 : (if i < 96 then (if k = i + 12 then -((h (i + 12) - h i) * b i / 64) else if k = i then (h (i + 12) - h i) * b i / 64 else 0) else 0) = 0 := by
    by_cases q : i < 96
    · rw [if_pos q, if_neg (fun z => h3 ⟨z, q⟩), if_neg h1]
    · rw [if_neg q]
  rw [e1, e2, if_neg (fun z => h1 z.2), if_neg (fun z => h1 z.2)]
  decide
theorem dlt_l {h r b : Nat → Int32} {i : Nat} (q : i % 12 < 11) : dlt h r b i (i + 1) = -((h (i + 1) - h i) * r i / 64) := by
  unfold dlt
  have e2 : (if i < 96 then (if i + 1 = i + 12 then -((h (i + 12) - h i) * b i / 64) else if i + 1 = i then (h (i + 12) - h i) * b i / 64 else 0) else 0) = 0 := by
    by_cases q : i < 96
    · rw [if_pos q, if_neg (by omega), if_neg (by omega)]
    · rw [if_neg q]
  rw [if_pos q, if_pos rfl, e2, if_neg (fun z => absurd z.2 (by omega)), if_neg (fun z => absurd z.2 (by omega)), Int32.add_zero, Int32.add_zero, Int32.add_zero]
theorem dlt_u {h r b : Nat → Int32} {i : Nat} (q : i < 96) : dlt h r b i (i + 12) = -((h (i + 12) - h i) * b i / 64) := by
  unfold dlt
  have e1 : (if i % 12 < 11 then (if i + 12 = i + 1 then -((h (i + 1) - h i) * r i / 64) else if i + 12 = i then (h (i + 1) - h i) * r i / 64 else 0) else 0) = 0 := by
    by_cases q : i % 12 < 11
    · rw [if_pos q, if_neg (by omega), if_neg (by omega)]
    · rw [if_neg q]
  rw [e1, if_pos q, if_pos rfl, if_neg (fun z => absurd z.2 (by omega)), if_neg (fun z => absurd z.2 (by omega)), Int32.add_zero, Int32.add_zero, Int32.zero_add]
theorem dlt_o {h r b : Nat → Int32} {i : Nat} : dlt h r b i i = (if i % 12 < 11 then (h (i + 1) - h i) * r i / 64 else 0) + ((if i < 96 then (h (i + 12) - h i) * b i / 64 else 0) + ((if i % 12 = 0 ∨ i % 12 = 11 then flS h i else 0) + (if i < 12 ∨ 96 ≤ i then flS h i else 0))) := by
  unfold dlt
  rw [if_neg (show ¬ i = i + 1 by omega), if_pos (rfl : i = i), if_neg (show ¬ i = i + 12 by omega), if_pos (rfl : i = i)]
  have e1 : (if (i % 12 = 0 ∨ i % 12 = 11) ∧ i = i then flS h i else 0) = (if i % 12 = 0 ∨ i % 12 = 11 then flS h i else 0) := z_ifc ⟨fun z => z.1, fun z => ⟨z, rfl⟩⟩ rfl rfl
  have e2 : (if (i < 12 ∨ 96 ≤ i) ∧ i = i then flS h i else 0) = (if i < 12 ∨ 96 ≤ i then flS h i else 0) := z_ifc ⟨fun z => z.1, fun z => ⟨z, rfl⟩⟩ rfl rfl
  rw [e1, e2]
theorem gn_up {h r b g0 : Nat → Int32} {k : Nat} (hk : k < 108) : gnS h r b g0 108 k = g0 k + (if 12 ≤ k then -((h k - h (k - 12)) * b (k - 12) / 64) else 0) + (if 0 < k % 12 then -((h k - h (k - 1)) * r (k - 1) / 64) else 0) + dlt h r b k k := by
  have c1 : gnS h r b g0 (k - 11) k = g0 k + (if 12 ≤ k then -((h k - h (k - 12)) * b (k - 12) / 64) else 0) := by
    by_cases q : 12 ≤ k
    · rw [if_pos q, show k - 11 = (k - 12) + 1 by omega, gnS_k]
      have e := gn_0 (h := h) (r := r) (b := b) (g0 := g0) (k := k) (a := 0) (k - 12) (fun i h1 h2 => dlt_0 (by omega) (by omega) (by omega))
      rw [Nat.zero_add] at e
      rw [e]
      have e2 := dlt_u (h := h) (r := r) (b := b) (i := k - 12) (by omega)
      rw [show k - 12 + 12 = k by omega] at e2
      rw [e2]
      rfl
    · rw [if_neg q, show k - 11 = 0 by omega, Int32.add_zero]
      rfl
  have c2 : gnS h r b g0 k k = g0 k + (if 12 ≤ k then -((h k - h (k - 12)) * b (k - 12) / 64) else 0) + (if 0 < k % 12 then -((h k - h (k - 1)) * r (k - 1) / 64) else 0) := by
    by_cases q : 0 < k % 12
    · rw [if_pos q, ← c1]
      have e := gn_0 (h := h) (r := r) (b := b) (g0 := g0) (k := k) (a := k - 11) (k - 1 - (k - 11)) (fun i h1 h2 => dlt_0 (by omega) (by omega) (by omega))
      rw [show k - 11 + (k - 1 - (k - 11)) = k - 1 by omega] at e
      have e3 := gnS_k (h := h) (r := r) (b := b) (g0 := g0) (i := k - 1) (k := k)
      rw [show k - 1 + 1 = k by omega] at e3
      have e2 := dlt_l (h := h) (r := r) (b := b) (i := k - 1) (by omega)
      rw [show k - 1 + 1 = k by omega] at e2
      rw [e3, e, e2]
    · rw [if_neg q, ← c1, Int32.add_zero]
      have e := gn_0 (h := h) (r := r) (b := b) (g0 := g0) (k := k) (a := k - 11) (k - (k - 11)) (fun i h1 h2 => dlt_0 (by omega) (by omega) (by omega))
      rw [show k - 11 + (k - (k - 11)) = k by omega] at e
      exact e
  have e := gn_0 (h := h) (r := r) (b := b) (g0 := g0) (k := k) (a := k + 1) (108 - (k + 1)) (fun i h1 h2 => dlt_0 (by omega) (by omega) (by omega))
  rw [show k + 1 + (108 - (k + 1)) = 108 by omega] at e
  rw [e, gnS_k, c2]
theorem to_k {ce fi f0 : Nat → Int32} {sd k : Nat} : ∀ n, (k < n → toS ce fi sd f0 n k = (bs k sd).elim 0 (fun j => pbS ce fi k j)) 
  | 0 => fun q => absurd q (Nat.not_lt_zero k)
  | n + 1 => fun q => by
    rw [toS]
    by_cases z : k = n
    · subst z; rw [upd_eq]
    · rw [upd_ne z]; exact to_k n (by omega)
theorem bs0 {k : Nat} : bs k 0 = if 12 ≤ k then some (k - 12) else none := rfl
theorem bs1 {k : Nat} : bs k 1 = if 0 < k % 12 then some (k - 1) else none := rfl
theorem bs2 {k : Nat} : bs k 2 = if k % 12 < 11 then some (k + 1) else none := rfl
theorem bs3 {k : Nat} : bs k 3 = if k < 96 then some (k + 12) else none := rfl
theorem gn_ga {f fl ce fi H he f5 f6 g0 : Nat → Int32} (hc : eqA ce f) (hf : eqA fl fi) (hv : vlA f fl) (hH : eqA H he) (hb : bdA he) {k : Nat} (hk : k < 108) : gnS H (toS ce fi 2 f5 108) (toS ce fi 3 f6 108) (fa_fill (fun _ => 0) g0 108) 108 k = gaM f fl he k 4 := by
  have tr : ∀ i, i < 108 → i % 12 < 11 → toS ce fi 2 f5 108 i = numM f fl i (i + 1) := fun i hi q => by
    rw [to_k 108 hi, bs2, if_pos q]
    exact pb_num hc hf hv hi (by omega)
  have tb : ∀ i, i < 96 → toS ce fi 3 f6 108 i = numM f fl i (i + 12) := fun i q => by
    rw [to_k 108 (by omega), bs3, if_pos q]
    exact pb_num hc hf hv (by omega) (by omega)
  rw [gn_up hk, dlt_o, fa_fill_in hk, Int32.zero_add, gaM_v, Int32.zero_add]
  have u0 : vM f fl he k 0 = if 12 ≤ k then -((H k - H (k - 12)) * toS ce fi 3 f6 108 (k - 12) / 64) else flS H k := by
    by_cases q : 12 ≤ k
    · rw [if_pos q, tb (k - 12) (by omega), show k - 12 + 12 = k by omega, hH k hk, hH (k - 12) (by omega), vM_s (show bs k 0 = some (k - 12) by rw [bs0, if_pos q]), numM_c (c := k) (o := k - 12)]
      exact ((fw_b (hb k hk) (hb (k - 12) (by omega)) numM_S).2.2).symm
    · rw [if_neg q, vM_n (show bs k 0 = none by rw [bs0, if_neg q])]
      unfold flS
      rw [hH k hk]
  have u1 : vM f fl he k 1 = if 0 < k % 12 then -((H k - H (k - 1)) * toS ce fi 2 f5 108 (k - 1) / 64) else flS H k := by
    by_cases q : 0 < k % 12
    · rw [if_pos q, tr (k - 1) (by omega) (by omega), show k - 1 + 1 = k by omega, hH k hk, hH (k - 1) (by omega), vM_s (show bs k 1 = some (k - 1) by rw [bs1, if_pos q]), numM_c (c := k) (o := k - 1)]
      exact ((fw_b (hb k hk) (hb (k - 1) (by omega)) numM_S).2.2).symm
    · rw [if_neg q, vM_n (show bs k 1 = none by rw [bs1, if_neg q])]
      unfold flS
      rw [hH k hk]
  have u2 : vM f fl he k 2 = if k % 12 < 11 then (H (k + 1) - H k) * toS ce fi 2 f5 108 k / 64 else flS H k := by
    by_cases q : k % 12 < 11
    · rw [if_pos q, tr k hk q, hH k hk, hH (k + 1) (by omega), vM_s (show bs k 2 = some (k + 1) by rw [bs2, if_pos q])]
    · rw [if_neg q, vM_n (show bs k 2 = none by rw [bs2, if_neg q])]
      unfold flS
      rw [hH k hk]
  have u3 : vM f fl he k 3 = if k < 96 then (H (k + 12) - H k) * toS ce fi 3 f6 108 k / 64 else flS H k := by
    by_cases q : k < 96
    · rw [if_pos q, tb k q, hH k hk, hH (k + 12) (by omega), vM_s (show bs k 3 = some (k + 12) by rw [bs3, if_pos q])]
    · rw [if_neg q, vM_n (show bs k 3 = none by rw [bs3, if_neg q])]
      unfold flS
      rw [hH k hk]
  rw [u0, u1, u2, u3]
  obtain ⟨a0, ha0⟩ : ∃ x, x = -((H k - H (k - 12)) * toS ce fi 3 f6 108 (k - 12) / 64) := ⟨_, rfl⟩
  obtain ⟨a1, ha1⟩ : ∃ x, x = -((H k - H (k - 1)) * toS ce fi 2 f5 108 (k - 1) / 64) := ⟨_, rfl⟩
  obtain ⟨a2, ha2⟩ : ∃ x, x = (H (k + 1) - H k) * toS ce fi 2 f5 108 k / 64 := ⟨_, rfl⟩
  obtain ⟨a3, ha3⟩ : ∃ x, x = (H (k + 12) - H k) * toS ce fi 3 f6 108 k / 64 := ⟨_, rfl⟩
  obtain ⟨w, hw⟩ : ∃ x, x = flS H k := ⟨_, rfl⟩
  rw [← ha0, ← ha1, ← ha2, ← ha3, ← hw]
  by_cases q0 : 12 ≤ k
  · rw [if_pos q0, if_pos q0]
    by_cases q3 : k < 96
    · rw [if_pos q3, if_pos q3, if_neg (show ¬ (k < 12 ∨ 96 ≤ k) by omega)]
      by_cases q1 : 0 < k % 12
      · rw [if_pos q1, if_pos q1]
        by_cases q2 : k % 12 < 11
        · rw [if_pos q2, if_pos q2, if_neg (by omega), Int32.add_zero, Int32.add_zero]; ac_rfl
        · rw [if_neg q2, if_neg q2, if_pos (by omega), Int32.add_zero, Int32.zero_add]; ac_rfl
      · rw [if_neg q1, if_neg q1, if_pos (show k % 12 < 11 by omega), if_pos (show k % 12 < 11 by omega), if_pos (by omega), Int32.add_zero, Int32.add_zero]; ac_rfl
    · rw [if_neg q3, if_neg q3, if_pos (show k < 12 ∨ 96 ≤ k by omega)]
      by_cases q1 : 0 < k % 12
      · rw [if_pos q1, if_pos q1]
        by_cases q2 : k % 12 < 11
        · rw [if_pos q2, if_pos q2, if_neg (by omega), Int32.zero_add, Int32.zero_add]; ac_rfl
        · rw [if_neg q2, if_neg q2, if_pos (by omega), Int32.zero_add, Int32.zero_add]; ac_rfl
      · rw [if_neg q1, if_neg q1, if_pos (show k % 12 < 11 by omega), if_pos (show k % 12 < 11 by omega), if_pos (by omega), Int32.add_zero, Int32.zero_add]; ac_rfl
  · rw [if_neg q0, if_neg q0, if_pos (show k < 96 by omega), if_pos (show k < 96 by omega), if_pos (show k < 12 ∨ 96 ≤ k by omega), Int32.zero_add]
    by_cases q1 : 0 < k % 12
    · rw [if_pos q1, if_pos q1]
      by_cases q2 : k % 12 < 11
      · rw [if_pos q2, if_pos q2, if_neg (by omega), Int32.zero_add]; ac_rfl
      · rw [if_neg q2, if_neg q2, if_pos (by omega), Int32.zero_add]; ac_rfl
    · rw [if_neg q1, if_neg q1, if_pos (show k % 12 < 11 by omega), if_pos (show k % 12 < 11 by omega), if_pos (by omega), Int32.zero_add]; ac_rfl
end
section
def lqN (fl fz : Nat → Int32) : Nat := fa_cnt (fun k => decide (¬ fl k = -1 ∧ fz k = 0)) 108
def fzV (fz : Nat → Int32) : Prop := ∀ k, k < 108 → ∃ t : Nat, t ≤ 400 ∧ fz k = nI t
theorem fzV_up {fz : Nat → Int32} {i t : Nat} (h : fzV fz) (ht : t ≤ 400) : fzV (upd fz i (nI t)) := fun k hk => by
  by_cases q : k = i
  · subst q; exact ⟨t, ht, upd_eq⟩
  · rw [upd_ne q]; exact h k hk
theorem frG_401 {fl fz : Nat → Int32} {k : Nat} (hz : fzV fz) (hk : k < 108) : frG fl fz k = 401 ↔ ¬ fl k = -1 ∧ fz k = 0 := by
  unfold frG
  by_cases q : fl k = -1
  · rw [if_pos q]; exact ⟨fun e => absurd e (by decide), fun e => absurd q e.1⟩
  · rw [if_neg q]
    by_cases q2 : fz k = 0
    · rw [if_pos q2]; exact ⟨fun _ => ⟨q, q2⟩, fun _ => rfl⟩
    · rw [if_neg q2]
      obtain ⟨t, ht, e⟩ := hz k hk
      refine ⟨fun e2 => ?_, fun e2 => absurd e2.2 q2⟩
      rw [e] at e2
      exact absurd (z_eqn (b := 401) (by omega) (by decide) e2) (by omega)
theorem lq_up {fl fz : Nat → Int32} {i t : Nat} (hi : i < 108) (h1 : ¬ fl i = -1) (h2 : fz i = 0) (ht : 1 ≤ t) (ht2 : t ≤ 400) : lqN fl (upd fz i (nI t)) + 1 = lqN fl fz := by
  have e := (cnt_at (p' := fun k => decide (¬ fl k = -1 ∧ fz k = 0)) (p := fun k => decide (¬ fl k = -1 ∧ upd fz i (nI t) k = 0)) (o := i) (fun k hk => by rw [upd_ne hk]) (decide_eq_false (fun q => by rw [upd_eq] at q; exact absurd (nI_z (by omega) q.2) (by omega))) 108).2 hi
  have e2 : (decide (¬ fl i = -1 ∧ fz i = 0)).toNat = 1 := by rw [decide_eq_true ⟨h1, h2⟩]; rfl
  unfold lqN
  rw [e, e2]
theorem lq_same {fl fz : Nat → Int32} {i : Nat} (h2 : fz i = 0) : upd fz i 0 = fz := funext fun k => by
  by_cases q : k = i
  · subst q; rw [upd_eq, h2]
  · rw [upd_ne q]
theorem upd_upd {f : Nat → Int32} {i : Nat} {v w : Int32} : upd (upd f i v) i w = upd f i w := funext fun k => by
  by_cases q : k = i
  · subst q; rw [upd_eq, upd_eq]
  · rw [upd_ne q, upd_ne q, upd_ne q]
def rfI (fl he0 : Nat → Int32) (S : zS4) (R : zMs) (i : Nat) : Prop :=
  (∀ k, k < 108 → S.1 k = R.1 k) ∧ (∀ k, k < 108 → S.2.1 k = R.2.1 k) ∧ (∀ k, k < 108 → S.2.2.1 k = frG fl R.2.2.1 k) ∧ S.2.2.2 = nI (lqN fl R.2.2.1) ∧ fzV R.2.2.1 ∧ (∀ k, i ≤ k → R.1 k = he0 k) ∧ (R.2.2.2 = 0 ↔ ∀ k, k < i → ¬ (¬ fl k = -1 ∧ R.2.2.1 k = 0)) ∧ bdA R.1
theorem lfM_i {fl fz : Nat → Int32} {i : Nat} {z lf : Int32} (hz : fz i = z) (h : lf = 0 ↔ ∀ k, k < i → ¬ (¬ fl k = -1 ∧ fz k = 0)) : lfM fl i z lf = 0 ↔ ∀ k, k < i + 1 → ¬ (¬ fl k = -1 ∧ fz k = 0) := by
  unfold lfM
  by_cases q : lf = 0
  · rw [if_neg (fun y => y q)]
    by_cases q2 : ¬ fl i = -1 ∧ z = 0
    · rw [if_pos q2]
      exact ⟨fun y => absurd y (by decide), fun y => absurd ⟨q2.1, hz.trans q2.2⟩ (y i (Nat.lt_succ_self i))⟩
    · rw [if_neg q2]
      refine ⟨fun _ k hk => ?_, fun _ => rfl⟩
      rcases Nat.lt_or_ge k i with y | y
      · exact h.mp q k y
      · rw [show k = i by omega, hz]; exact q2
  · rw [if_pos q]
    exact ⟨fun y => absurd y (by decide), fun y => absurd (h.mpr (fun k hk => y k (by omega))) q⟩
theorem fz_other {fl fz : Nat → Int32} {i n : Nat} {v : Int32} (hn : n ≤ i) : (∀ k, k < n → ¬ (¬ fl k = -1 ∧ upd fz i v k = 0)) ↔ ∀ k, k < n → ¬ (¬ fl k = -1 ∧ fz k = 0) := by
  constructor
  · intro h k hk; have := h k hk; rw [upd_ne (by omega)] at this; exact this
  · intro h k hk; rw [upd_ne (by omega)]; exact h k hk
theorem rf_step {fl he0 nx gn : Nat → Int32} {t i : Nat} {S : zS4} {R : zMs} (hi : i < 108) (ht : 1 ≤ t) (ht2 : t ≤ 400) (h : rfI fl he0 S R i) (hn : nx i = he0 i + gn i) (hb : bd1 (nx i)) : rfI fl he0 (bhS i (S.1 i + gn i) (nI t) S) (fsM1 fl nx (nI t) i R) (i + 1) := by
  obtain ⟨r1, r2, r3, r4, r5, r6, r7, r8⟩ := h
  have e0 : S.1 i + gn i = nx i := by rw [r1 i hi, r6 i (Nat.le_refl _), hn]
  rw [e0]
  have eA : (¬ S.2.2.1 i = 401 ∨ ¬ nx i < 1150) ↔ ¬ (¬ fl i = -1 ∧ R.2.2.1 i = 0 ∧ nx i < 1150) := by
    rw [r3 i hi, frG_401 r5 hi]
    constructor
    · intro y z; exact y.elim (fun y => y ⟨z.1, z.2.1⟩) (fun y => y z.2.2)
    · intro y
      by_cases q : nx i < 1150
      · exact Or.inl (fun z => y ⟨z.1, z.2, q⟩)
      · exact Or.inr q
  have b1150 : bd1 1150 := ⟨by decide, by decide⟩
  have hbu : ∀ v, bd1 v → bdA (upd R.1 i v) := fun v hv k hk => by
    by_cases q : k = i
    · subst q; rw [upd_eq]; exact hv
    · rw [upd_ne q]; exact r8 k hk
  have hh : ∀ v k, k < 108 → upd S.1 i v k = upd R.1 i v k := fun v => eq_up r1
  have hk6 : ∀ v k, i + 1 ≤ k → upd R.1 i v k = he0 k := fun v k hk => by rw [upd_ne (by omega)]; exact r6 k (by omega)
  unfold bhS fsM1
  by_cases qA : ¬ fl i = -1 ∧ R.2.2.1 i = 0 ∧ nx i < 1150
  · rw [if_neg (fun z => eA.mp z qA), if_pos qA, upd_upd, ← r2 i hi]
    by_cases qB : 0 < S.2.1 i - (1150 - nx i)
    · rw [if_pos qB, if_pos qB, lq_same (fl := fl) qA.2.1]
      exact ⟨hh 1150, fun k hk => by rw [r2 i hi]; exact eq_up r2 k hk, r3, r4, r5, hk6 1150, lfM_i qA.2.1 r7, hbu _ b1150⟩
    · rw [if_neg qB, if_neg qB]
      refine ⟨hh 1150, fun k hk => by rw [r2 i hi]; exact eq_up r2 k hk, fun k hk => ?_, ?_, fzV_up r5 ht2, hk6 1150, lfM_i upd_eq (r7.trans (fz_other (Nat.le_refl _)).symm), hbu _ b1150⟩
      · show upd S.2.2.1 i (nI t) k = frG fl (upd R.2.2.1 i (nI t)) k
        by_cases q : k = i
        · subst q
          unfold frG
          rw [upd_eq, if_neg qA.1, upd_eq, if_neg (fun z => absurd (nI_z (by omega) z) (by omega))]
        · rw [upd_ne q, r3 k hk]
          unfold frG
          rw [upd_ne q]
      · show S.2.2.2 - 1 = nI (lqN fl (upd R.2.2.1 i (nI t)))
        have := lq_up hi qA.1 qA.2.1 ht ht2
        rw [r4, ← this]
        exact nI_sub1 (p := lqN fl (upd R.2.2.1 i (nI t)) + 1) (Nat.succ_le_succ (Nat.zero_le _))
  · rw [if_pos (eA.mpr qA), if_neg qA]
    exact ⟨hh _, r2, r3, r4, r5, hk6 _, lfM_i rfl r7, hbu _ hb⟩
theorem rf_loop {fl he0 nx gn : Nat → Int32} {t : Nat} {S : zS4} {R : zMs} (ht : 1 ≤ t) (ht2 : t ≤ 400) (h : rfI fl he0 S R 0) (hn : ∀ k, k < 108 → nx k = he0 k + gn k ∧ bd1 (nx k)) : ∀ i, i ≤ 108 → rfI fl he0 (stS gn (nI t) S i) (fsM fl nx (nI t) R i) i
  | 0, _ => h
  | i + 1, hi => rf_step (by omega) ht ht2 (rf_loop ht ht2 h hn i (by omega)) (hn i (by omega)).1 (hn i (by omega)).2
def rfQ (fl : Nat → Int32) (S : zS4) (R : zMs) : Prop := (∀ k, k < 108 → S.1 k = R.1 k) ∧ (∀ k, k < 108 → S.2.1 k = R.2.1 k) ∧ (∀ k, k < 108 → S.2.2.1 k = frG fl R.2.2.1 k) ∧ S.2.2.2 = nI (lqN fl R.2.2.1) ∧ fzV R.2.2.1 ∧ bdA R.1 ∧ (R.2.2.2 = 0 ↔ lqN fl R.2.2.1 = 0)
theorem lq_0 {fl fz : Nat → Int32} : (∀ k, k < 108 → ¬ (¬ fl k = -1 ∧ fz k = 0)) ↔ lqN fl fz = 0 := by
  constructor
  · intro h
    have key : ∀ n, n ≤ 108 → fa_cnt (fun k => decide (¬ fl k = -1 ∧ fz k = 0)) n = 0 := fun n => by
      induction n with
      | zero => exact fun _ => rfl
      | succ n ih => exact fun hn => by rw [fa_cnt_no (p := fun k => decide (¬ fl k = -1 ∧ fz k = 0)) (decide_eq_false (h n (by omega)))]; exact ih (by omega)
    exact key 108 (Nat.le_refl _)
  · intro h k hk
    exact of_decide_eq_false (cnt_0 (p := fun k => decide (¬ fl k = -1 ∧ fz k = 0)) 108 h k hk)
theorem rf_pass {f fl ce fi f5 f6 : Nat → Int32} {Q : zS5} {R : zFz} {t : Nat} (hc : eqA ce f) (hf : eqA fl fi) (hv : vlA f fl) (ht : 1 ≤ t) (ht2 : t ≤ 400) (h : rfQ fl Q.1 R.1) : rfQ fl (psT (toS ce fi 2 f5 108) (toS ce fi 3 f6 108) (nI t) Q).1 (fzP f fl (nI t) R).1 := by
  obtain ⟨r1, r2, r3, r4, r5, r6, r7⟩ := h
  have h0 : rfI fl R.1.1 Q.1 (R.1.1, R.1.2.1, R.1.2.2.1, 0) 0 := ⟨r1, r2, r3, r4, r5, fun _ _ => rfl, ⟨fun _ k hk => absurd hk (Nat.not_lt_zero k), fun _ => rfl⟩, r6⟩
  have hn : ∀ k, k < 108 → fnM f fl R k = R.1.1 k + psG (toS ce fi 2 f5 108) (toS ce fi 3 f6 108) Q k ∧ bd1 (fnM f fl R k) := fun k hk => by
    have e1 : fnM f fl R k = R.1.1 k + gaM f fl R.1.1 k 4 := fa_fill_in hk
    have e2 : psG (toS ce fi 2 f5 108) (toS ce fi 3 f6 108) Q k = gaM f fl R.1.1 k 4 := gn_ga hc hf hv r1 r6 hk
    rw [e1, e2]
    exact ⟨rfl, ga_bd r6 hk⟩
  obtain ⟨s1, s2, s3, s4, s5, -, s7, s8⟩ := rf_loop ht ht2 h0 hn 108 (Nat.le_refl _)
  have eP : (psT (toS ce fi 2 f5 108) (toS ce fi 3 f6 108) (nI t) Q).1 = stS (psG (toS ce fi 2 f5 108) (toS ce fi 3 f6 108) Q) (nI t) Q.1 108 := by
    unfold psT
    dsimp only
  rw [fzP_1, eP]
  exact ⟨s1, s2, s3, s4, s5, s8, s7.trans lq_0⟩
theorem rf_run {f fl ce fi f5 f6 : Nat → Int32} {Q : zS5} {R : zFz} (hc : eqA ce f) (hf : eqA fl fi) (hv : vlA f fl) (h : rfQ fl Q.1 R.1) : ∀ t, t ≤ 400 → rfQ fl (pzS (toS ce fi 2 f5 108) (toS ce fi 3 f6 108) Q t).1 (fzR f fl R t).1
  | 0, _ => h
  | t + 1, ht => by
    have ih := rf_run (f5 := f5) (f6 := f6) hc hf hv h t (by omega)
    have hl : lqN fl (fzR f fl R t).1.2.2.1 ≤ 108 := fa_cnt_le _ 108
    by_cases q : (fzR f fl R t).1.2.2.2 = 0
    · have e : ¬ 0 < (pzS (toS ce fi 2 f5 108) (toS ce fi 3 f6 108) Q t).1.2.2.2 := by
        rw [ih.2.2.2.1, ih.2.2.2.2.2.2.mp q]; decide
      rw [show fzR f fl R (t + 1) = fzR f fl R t from if_pos q, show pzS (toS ce fi 2 f5 108) (toS ce fi 3 f6 108) Q (t + 1) = pzS (toS ce fi 2 f5 108) (toS ce fi 3 f6 108) Q t from if_neg e]
      exact ih
    · have e : 0 < (pzS (toS ce fi 2 f5 108) (toS ce fi 3 f6 108) Q t).1.2.2.2 := by
        rw [ih.2.2.2.1]
        exact (nI_ltI (a := 0) (by decide) (by omega)).mpr (by have : ¬ lqN fl (fzR f fl R t).1.2.2.1 = 0 := fun z => q (ih.2.2.2.2.2.2.mpr z); omega)
      rw [fzR_n q, pz_n e]
      exact rf_pass hc hf hv (by omega) ht ih
theorem bg_k {ce fi : Nat → Int32} {h : Int32} {s0 : zS4} (hh : ∀ k, k < 108 → ¬ fi k < 0 → ¬ z_hwf h (fi k) < 1150) : ∀ i, i ≤ 108 → (∀ k, k < i → (bgS ce fi h s0 i).1 k = (if fi k < 0 then 20 else z_hwf h (fi k)) ∧ (bgS ce fi h s0 i).2.1 k = 300 ∧ (bgS ce fi h s0 i).2.2.1 k = (if fi k < 0 then -1 else 401)) ∧ (bgS ce fi h s0 i).2.2.2 = nI (fa_cnt (fun k => decide (¬ fi k < 0)) i)
  | 0, _ => ⟨fun k hk => absurd hk (Nat.not_lt_zero k), rfl⟩
  | i + 1, hi => by
    have ih := bg_k (ce := ce) (s0 := s0) hh i (by omega)
    by_cases q : fi i < 0
    · rw [bgS_t q, fa_cnt_no (p := fun k => decide (¬ fi k < 0)) (decide_eq_false (fun y => y q))]
      refine ⟨fun k hk => ?_, ih.2⟩
      by_cases z : k = i
      · subst z
        exact ⟨by rw [if_pos q]; exact upd_eq, upd_eq, by rw [if_pos q]; exact upd_eq⟩
      · have := ih.1 k (by omega)
        exact ⟨(upd_ne z).trans this.1, (upd_ne z).trans this.2.1, (upd_ne z).trans this.2.2⟩
    · have e : bhS i (z_hwf h (fi i)) 0 ((bgS ce fi h s0 i).1, upd (bgS ce fi h s0 i).2.1 i 300, upd (bgS ce fi h s0 i).2.2.1 i 401, (bgS ce fi h s0 i).2.2.2 + 1) = (upd (bgS ce fi h s0 i).1 i (z_hwf h (fi i)), upd (bgS ce fi h s0 i).2.1 i 300, upd (bgS ce fi h s0 i).2.2.1 i 401, (bgS ce fi h s0 i).2.2.2 + 1) := by
        unfold bhS
        exact if_pos (Or.inr (hh i (by omega) q))
      rw [bgS_f q, e, fa_cnt_yes (p := fun k => decide (¬ fi k < 0)) (decide_eq_true q)]
      refine ⟨fun k hk => ?_, ?_⟩
      · by_cases z : k = i
        · subst z
          exact ⟨by rw [if_neg q]; exact upd_eq, upd_eq, by rw [if_neg q]; exact upd_eq⟩
        · have := ih.1 k (by omega)
          exact ⟨(upd_ne z).trans this.1, (upd_ne z).trans this.2.1, (upd_ne z).trans this.2.2⟩
      · show (bgS ce fi h s0 i).2.2.2 + 1 = _
        rw [ih.2]
        exact nI_add _ _
theorem rf_begin {f fl ce fi he mt fz nx F1 F2 F3 F4 : Nat → Int32} {h lf liq : Int32} (hf : eqA fl fi) (hv : vlA f fl) (hh : ∀ k, k < 108 → ¬ fi k < 0 → ¬ z_hwf h (fi k) < 1150) (h15 : h.toInt ≤ 1500) (h0 : 1000 ≤ h.toInt) (hne : ¬ fa_cnt (fun k => decide (¬ fi k < 0)) 108 = 0) (hlf : lf = 1) : rfQ fl (bgQ ce fi h F1 F2 F3 F4 liq).1 (begM fl he mt fz nx h lf).1 := by
  have b := bg_k (ce := ce) (s0 := (F1, F3, F4, liq)) hh 108 (Nat.le_refl _)
  have p : ∀ k, k < 108 → (fi k < 0 ↔ fl k = -1) := fun k hk => by rw [← hf k hk]; exact vl_neg hv hk
  have e1 : ∀ k, k < 108 → (begM fl he mt fz nx h lf).1.1 k = if fl k = -1 then 20 else h - 2 * fl k := fun k hk => fa_fill_in hk
  have e2 : ∀ k, k < 108 → (begM fl he mt fz nx h lf).1.2.1 k = 300 := fun k hk => fa_fill_in (f := fun _ => 300) hk
  have e3 : ∀ k, k < 108 → (begM fl he mt fz nx h lf).1.2.2.1 k = 0 := fun k hk => fa_fill_in (f := fun _ => 0) hk
  have el : lqN fl (begM fl he mt fz nx h lf).1.2.2.1 = fa_cnt (fun k => decide (¬ fi k < 0)) 108 := fa_cnt_cong (fun k hk => decide_eq_decide.mpr (by rw [e3 k hk, p k hk]; exact ⟨fun y => y.1, fun y => ⟨y, rfl⟩⟩))
  refine ⟨fun k hk => ?_, fun k hk => ?_, fun k hk => ?_, ?_, fun k hk => ⟨0, by omega, e3 k hk⟩, fun k hk => ?_, ?_⟩
  · rw [e1 k hk]
    refine ((b.1 k hk).1).trans ?_
    unfold z_hwf
    rw [hf k hk]
    exact z_ifc (by rw [← hf k hk]; exact vl_neg hv hk) rfl rfl
  · rw [e2 k hk]; exact (b.1 k hk).2.1
  · refine ((b.1 k hk).2.2).trans ?_
    unfold frG
    rw [e3 k hk, if_pos (rfl : (0 : Int32) = 0)]
    exact z_ifc (p k hk) rfl rfl
  · rw [el]; exact b.2
  · rw [e1 k hk]
    by_cases q : fl k = -1
    · rw [if_pos q]; exact bd_20
    · rw [if_neg q]
      have hk2 := hh k hk (fun z => q ((p k hk).mp z))
      unfold z_hwf at hk2
      rw [← hf k hk, Int32.not_lt, fa_le] at hk2
      rcases hv k hk with e | ⟨-, t, ht, e⟩
      · exact absurd e q
      · have e5 : (1150 : Int32).toInt = 1150 := by decide
        rw [e5] at hk2
        refine ⟨by omega, ?_⟩
        have en : (nI t).toInt = (t : Int) := nI_toInt (by omega)
        have e6 : (2 * fl k).toInt = 2 * (t : Int) := by
          rw [e, Int32.toInt_mul, en, show (2 : Int32).toInt = 2 by decide]
          exact bm32 (by omega) (by omega)
        rw [Int32.toInt_sub, e6, bm32 (by omega) (by omega)]
        omega
  · rw [el, hlf]
    exact ⟨fun y => absurd y (show ¬ (1 : Int32) = 0 by decide), fun y => absurd y hne⟩
end
section
def dE (S R : zD) : Prop := (∀ k, k < 108 → S.1 k = R.1 k) ∧ (∀ j, j < S.2.2.1 → S.2.1 j = R.2.1 j) ∧ S.2.2.1 = R.2.2.1 ∧ S.2.2.2 = R.2.2.2
theorem dA_E {ce f fi fl a b : Nat → Int32} {qa qb : Nat → Nat} (hce : eqA ce f) (hf : eqA fi fl) : ∀ i, i ≤ 108 → (∀ k, k < i → (fdA ce fi (a, qa, 0, 0) i).1 k = (fdA f fl (b, qb, 0, 0) i).1 k) ∧ (∀ j, j < (fdA ce fi (a, qa, 0, 0) i).2.2.1 → (fdA ce fi (a, qa, 0, 0) i).2.1 j = (fdA f fl (b, qb, 0, 0) i).2.1 j) ∧ (fdA ce fi (a, qa, 0, 0) i).2.2.1 = (fdA f fl (b, qb, 0, 0) i).2.2.1 ∧ (fdA ce fi (a, qa, 0, 0) i).2.2.2 = (fdA f fl (b, qb, 0, 0) i).2.2.2
  | 0, _ => ⟨fun k hk => absurd hk (Nat.not_lt_zero k), fun j hj => absurd hj (Nat.not_lt_zero j), rfl, rfl⟩
  | i + 1, hi => by
    obtain ⟨h1, h2, h3, h4⟩ := dA_E (a := a) (b := b) (qa := qa) (qb := qb) hce hf i (by omega)
    by_cases q : ce i = 114 ∧ ¬ fi i < 0
    · have q' : f i = 114 ∧ ¬ fl i < 0 := by rw [← hce i (by omega), ← hf i (by omega)]; exact q
      rw [fdA_t q, fdA_t q']
      refine ⟨fun k hk => ?_, fun j hj => ?_, congrArg (· + 1) h3, congrArg (· + 10) h4⟩
      · show upd _ i 1 k = upd _ i 1 k
        by_cases z : k = i
        · rw [z, upd_eq, upd_eq]
        · rw [upd_ne z, upd_ne z]; exact h1 k (by omega)
      · show updN _ _ i j = updN _ _ i j
        rw [← h3]
        by_cases z : j = (fdA ce fi (a, qa, 0, 0) i).2.2.1
        · rw [z, updN_eq, updN_eq]
        · rw [updN_ne z, updN_ne z]; exact h2 j (by have : j < (fdA ce fi (a, qa, 0, 0) i).2.2.1 + 1 := hj; omega)
    · have q' : ¬ (f i = 114 ∧ ¬ fl i < 0) := by rw [← hce i (by omega), ← hf i (by omega)]; exact q
      rw [fdA_f q, fdA_f q']
      refine ⟨fun k hk => ?_, h2, h3, h4⟩
      show upd _ i 0 k = upd _ i 0 k
      by_cases z : k = i
      · rw [z, upd_eq, upd_eq]
      · rw [upd_ne z, upd_ne z]; exact h1 k (by omega)
theorem cf_E {fed fed2 fi fl fr fq : Nat → Int32} {here o : Nat} (hh : here < 108) (ho : o < 108) (h1 : fed o = fed2 o) (hf : eqA fi fl) (hr : eqA fr fq) : cfB fed fi fr here o = cfB fed2 fl fq here o := by
  unfold cfB
  rw [h1, hf o ho, hr here hh, hr o ho]
theorem dE_put {S R : zD} {o : Nat} {l l2 : Int32} (h : dE S R) (hl : l = l2) : dE (upd S.1 o 1, updN S.2.1 S.2.2.1 o, S.2.2.1 + 1, l) (upd R.1 o 1, updN R.2.1 R.2.2.1 o, R.2.2.1 + 1, l2) := by
  obtain ⟨h1, h2, h3, h4⟩ := h
  refine ⟨eq_up h1, fun j hj => ?_, congrArg (· + 1) h3, hl⟩
  show updN S.2.1 S.2.2.1 o j = updN R.2.1 R.2.2.1 o j
  rw [← h3]
  by_cases z : j = S.2.2.1
  · rw [z, updN_eq, updN_eq]
  · rw [updN_ne z, updN_ne z]; exact h2 j (by have : j < S.2.2.1 + 1 := hj; omega)
theorem dI_E {ce f fi fl fr fq : Nat → Int32} {here s : Nat} {S R : zD} (hce : eqA ce f) (hf : eqA fi fl) (hr : eqA fr fq) (hh : here < 108) (h : dE S R) : dE (fdI ce fi fr here s S) (fdI f fl fq here s R) := by
  cases e : bs here s with
  | none => rw [fdI_n e, fdI_n e]; exact h
  | some o =>
    have ho := bs_lt hh e
    have ec := cf_E (here := here) hh ho (h.1 o ho) hf hr
    rw [fdI_s e, fdI_s e]
    by_cases q : cfB S.1 fi fr here o = true ∧ S.2.2.1 < 108
    · have q' : cfB R.1 fl fq here o = true ∧ R.2.2.1 < 108 := by rw [← ec, ← h.2.2.1]; exact q
      by_cases q2 : ce o = 99
      · have q2' : f o = 99 := by rw [← hce o ho]; exact q2
        by_cases q3 : S.2.2.2 = 0
        · rw [fdJ_1 q q2 q3, fdJ_1 q' q2' (by rw [← h.2.2.2]; exact q3)]; exact h
        · rw [fdJ_2 q q2 q3, fdJ_2 q' q2' (by rw [← h.2.2.2]; exact q3)]; exact dE_put h (by rw [h.2.2.2])
      · rw [fdJ_3 q q2, fdJ_3 q' (by rw [← hce o ho]; exact q2)]; exact dE_put h h.2.2.2
    · rw [fdJ_0 q, fdJ_0 (by rw [← ec, ← h.2.2.1]; exact q)]; exact h
theorem dH_E {ce f fi fl fr fq : Nat → Int32} {here : Nat} {S R : zD} (hce : eqA ce f) (hf : eqA fi fl) (hr : eqA fr fq) (hh : here < 108) (h : dE S R) : ∀ s, dE (fdH ce fi fr here S s) (fdH f fl fq here R s)
  | 0 => h
  | s + 1 => dI_E hce hf hr hh (dH_E hce hf hr hh h s)
theorem dB_E {ce f fi fl fr fq : Nat → Int32} {S R : zD} (hce : eqA ce f) (hf : eqA fi fl) (hr : eqA fr fq) (hk : Dok S 108) (h : dE S R) : ∀ n, dE (fdB ce fi fr S n) (fdB f fl fq R n)
  | 0 => h
  | n + 1 => by
    have ih := dB_E hce hf hr hk h n
    by_cases q : n < (fdB ce fi fr S n).2.2.1
    · rw [fdB_t q, fdB_t (by rw [← ih.2.2.1]; exact q), ← ih.2.1 n q]
      exact dH_E hce hf hr ((fdB_ok hk n).2 n q) ih 4
    · rw [fdB, if_neg q, fdB, if_neg (by rw [← ih.2.2.1]; exact q)]; exact ih
theorem sc_E {ce f fi fl a b : Nat → Int32} (hce : eqA ce f) (hf : eqA fi fl) (h : ∀ k, k < 108 → a k = b k) : fa_cnt (scP ce fi a) 108 = fa_cnt (scP f fl b) 108 := fa_cnt_cong (fun k hk => by unfold scP; rw [hce k hk, hf k hk, h k hk])
theorem an_E {p q : Nat → Bool} : ∀ n, (∀ k, k < n → p k = q k) → anB p n = anB q n
  | 0, _ => rfl
  | n + 1, h => by rw [anB, anB, an_E n (fun k hk => h k (by omega)), h n (Nat.lt_succ_self n)]
theorem an_all {p : Nat → Bool} {n : Nat} (h : anB p n = false) : ∀ k, k < n → p k = false := fun k hk => Bool.eq_false_iff.mpr (fun e => by rw [anB_hit hk e] at h; cases h)
theorem ic_E {ce f fi fl : Nat → Int32} {h : Int32} (hce : eqA ce f) (hf : eqA fi fl) : anB (icP ce fi h) 108 = anB (icP f fl h) 108 := an_E 108 (fun k hk => by unfold icP; rw [hce k hk, hf k hk])
def rFR (f fl he mt fz nx : Nat → Int32) (h : Int32) : Nat → Int32 := fa_fill (frG (flC f fl) (frM f (flC f fl) he mt fz nx h).1.2.2.1) (frM f (flC f fl) he mt fz nx h).1.2.2.1 108
def rFD (f fl he mt fz nx ic : Nat → Int32) (qn : Nat → Nat) (h : Int32) : zD := fdB f (flC f fl) (rFR f fl he mt fz nx h) (fdA f (flC f fl) (ic, qn, 0, 0) 108) 108
theorem shr_E {f fl he mt fz nx ic : Nat → Int32} {qn : Nat → Nat} {h : Int32} {X : zTr} (hce : eqA X.1.1 f) (hrun : X.1.2.2.1 = 0) (hgt : ¬ fa_cnt (fun k => decide (f k = 103)) 12 = 0) (h15 : h.toInt ≤ 1500) (h0 : 1000 ≤ h.toInt) (hcold : anB (icP X.1.1 (flP X.1.1 X.1.2.1 X.1.2.2.1) h) 108 = false) : shN (frN h X) = fa_cnt (scP f (flC f fl) (rFD f fl he mt fz nx ic qn h).1) 108 := by
  have hfr := fill_rel hce fl X.1.2.1
  have eK : flP X.1.1 X.1.2.1 X.1.2.2.1 = flK X.1.1 X.1.2.1 := by rw [hrun]; rfl
  rw [eK] at hcold
  have hf : eqA (flK X.1.1 X.1.2.1) (flC f fl) := fun k hk => (hfr.1 k hk).symm
  have hvF : vlA f (flC f fl) := vl_C f fl
  have hw : ∀ k, k < 108 → tmB (f k) = true → ¬ flK X.1.1 X.1.2.1 k < 0 ∧ ¬ z_hwf h (flK X.1.1 X.1.2.1 k) < 1200 := fun k hk hm => by
    have e := an_all hcold k hk
    unfold icP at e
    rw [hce k hk, hm, Bool.true_and] at e
    rcases (Bool.or_eq_false_iff).mp e with ⟨e1, e2⟩
    exact ⟨of_decide_eq_false e1, of_decide_eq_false e2⟩
  have hh : ∀ k, k < 108 → ¬ flK X.1.1 X.1.2.1 k < 0 → ¬ z_hwf h (flK X.1.1 X.1.2.1 k) < 1150 := fun k hk hn hlt => by
    rcases hfr.2 k hk with e | ⟨e, -⟩
    · exact hn (by rw [e]; decide)
    · exact (hw k hk e).2 (Int32.lt_of_lt_of_le hlt (by decide))
  have hne : ¬ fa_cnt (fun k => decide (¬ flK X.1.1 X.1.2.1 k < 0)) 108 = 0 := fun z => hgt (by
    have key : ∀ n, n ≤ 12 → fa_cnt (fun k => decide (f k = 103)) n = 0 := fun n => by
      induction n with
      | zero => exact fun _ => rfl
      | succ n ih =>
        intro hn
        rw [fa_cnt_no (p := fun k => decide (f k = 103)) (decide_eq_false (fun e => ?_))]
        · exact ih (by omega)
        · have := cnt_0 (p := fun k => decide (¬ flK X.1.1 X.1.2.1 k < 0)) 108 z n (by omega)
          exact of_decide_eq_false this ((hw n (by omega) (by rw [e]; decide)).1)
    exact key 12 (Nat.le_refl _))
  have hb := rf_begin (f := f) (fl := flC f fl) (ce := X.1.1) (fi := flK X.1.1 X.1.2.1) (he := he) (mt := mt) (fz := fz) (nx := nx) (F1 := X.2.1.1.1.1) (F2 := X.2.1.1.2) (F3 := X.2.1.1.1.2.1) (F4 := X.2.1.1.1.2.2.1) (liq := X.2.1.1.1.2.2.2) (lf := 1) hfr.1 hvF hh h15 h0 hne rfl
  have hr := rf_run (f5 := X.2.1.2.1) (f6 := X.2.1.2.2) hce hfr.1 hvF hb 400 (Nat.le_refl _)
  have hfz : eqA (pzS (toS X.1.1 (flK X.1.1 X.1.2.1) 2 X.2.1.2.1 108) (toS X.1.1 (flK X.1.1 X.1.2.1) 3 X.2.1.2.2 108) (bgQ X.1.1 (flK X.1.1 X.1.2.1) h X.2.1.1.1.1 X.2.1.1.2 X.2.1.1.1.2.1 X.2.1.1.1.2.2.1 X.2.1.1.1.2.2.2) 400).1.2.2.1 (rFR f fl he mt fz nx h) := fun k hk => by
    unfold rFR frM
    rw [fa_fill_in hk]
    exact hr.2.2.1 k hk
  have hA := dA_E (a := X.2.2.1) (b := ic) (qa := X.2.2.2.2) (qb := qn) hce hf 108 (Nat.le_refl _)
  have hB := dB_E hce hf hfz (fdA_ok (ce := X.1.1) (fi := flK X.1.1 X.1.2.1) (S0 := (X.2.2.1, X.2.2.2.2, 0, 0)) rfl 108 (Nat.le_refl _)) hA 108
  unfold shN frN rFD
  dsimp only
  rw [eK]
  exact sc_E hce hf hB.1
end
