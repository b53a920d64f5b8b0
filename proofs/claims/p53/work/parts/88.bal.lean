theorem bm32 {x : Int} (h1 : -2147483648 ≤ x) (h2 : x < 2147483648) : x.bmod (2 ^ 32) = x := by
  rw [Int.bmod_def]
  split <;> omega
theorem updL_eq {f : Nat → Int64} {o : Nat} {v : Int64} : vp_updL f o v o = v := if_pos rfl
theorem updL_ne {f : Nat → Int64} {o k : Nat} {v : Int64} (h : ¬ k = o) : vp_updL f o v k = f k := if_neg h
theorem lfd_out {f d : Nat → Int64} : ∀ n e, n ≤ e → lfd f d n e = f e
  | 0, _, _ => rfl
  | n + 1, e, h => by
    show vp_updL _ _ _ _ = _
    rw [updL_ne (by omega)]
    exact lfd_out n e (by omega)
theorem caV_4 {t : zTT} {vm : zV} {X : zTr} {fb : Int32} : (caV t vm X fb).1 4 = 0 := rfl
theorem caV_5 {t : zTT} {vm : zV} {X : zTr} {fb : Int32} : (caV t vm X fb).1 5 = 0 + amI t vm := rfl
theorem v1_ne {f : Nat → Int32} {c : (Nat → Int32) × (Nat → Int64) × (Nat → Nat)} {i k : Nat} {v : Int32} (h : ¬ k = i) : ((upd f i v, c) : zV).1 k = f k := upd_ne h
theorem v1_eq {f : Nat → Int32} {c : (Nat → Int32) × (Nat → Int64) × (Nat → Nat)} {i : Nat} {v : Int32} : ((upd f i v, c) : zV).1 i = v := upd_eq
def set5 (C : Nat → zV) (K : Nat) (V : zV) : Nat → zV := fun j => if j = K then V else C j
theorem set5_eq {C : Nat → zV} {K : Nat} {V : zV} : set5 C K V K = V := if_pos rfl
theorem set5_ne {C : Nat → zV} {K j : Nat} {V : zV} (h : ¬ j = K) : set5 C K V j = C j := if_neg h
theorem m_rng {m : Int32} {a b : Int32} {x y : Int} (h : a ≤ m ∧ m ≤ b) (ha : a.toInt = x) (hb : b.toInt = y) : x ≤ m.toInt ∧ m.toInt ≤ y := by
  have h1 := h.1
  have h2 := h.2
  rw [Int32.le_iff_toInt_le, ha] at h1
  rw [Int32.le_iff_toInt_le, hb] at h2
  exact ⟨h1, h2⟩
theorem i64_a (a b c : Int64) : a - c + (b + c) = a + b := by rw [Int64.add_comm b c, ← Int64.add_assoc, Int64.sub_add_cancel]
theorem i64_b (s q v w : Int64) : s + q + (v + (w - q)) = s + v + w := by
  have e : w - q + q = w := Int64.sub_add_cancel w q
  calc s + q + (v + (w - q)) = s + v + (w - q + q) := by ac_rfl
    _ = s + v + w := by rw [e]
theorem bm64 {x : Int} (h1 : -9223372036854775808 ≤ x) (h2 : x < 9223372036854775808) : x.bmod (2 ^ 64) = x := by
  rw [Int.bmod_def]
  split <;> omega
theorem t64_add {x y : Int32} (h1 : -2147483648 ≤ x.toInt + y.toInt) (h2 : x.toInt + y.toInt < 2147483648) : (x + y).toInt64 = x.toInt64 + y.toInt64 := by
  refine Int64.toInt_inj.mp ?_
  rw [Int64.toInt_add, Int32.toInt_toInt64, Int32.toInt_toInt64, Int32.toInt_toInt64, Int32.toInt_add, bm32 h1 h2, bm64 (by omega) (by omega)]
theorem t64_sub {x y : Int32} (h1 : -2147483648 ≤ x.toInt - y.toInt) (h2 : x.toInt - y.toInt < 2147483648) : (x - y).toInt64 = x.toInt64 - y.toInt64 := by
  refine Int64.toInt_inj.mp ?_
  rw [Int64.toInt_sub, Int32.toInt_toInt64, Int32.toInt_toInt64, Int32.toInt_toInt64, Int32.toInt_sub, bm32 h1 h2, bm64 (by omega) (by omega)]
theorem mv_sum (f to : Nat → Int64) (am ir : Int32) : ∀ n e, mvS f am ir n e + mvT f am ir to n e = f e + to e
  | 0, e => rfl
  | n + 1, e => by
    have ih := mv_sum f to am ir n
    show vp_updL (mvS f am ir n) n (mvS f am ir n n - mvA (mvS f am ir n) am ir n) e + vp_updL (mvT f am ir to n) n (mvT f am ir to n n + mvA (mvS f am ir n) am ir n) e = f e + to e
    by_cases q : e = n
    · rw [q, updL_eq, updL_eq, ← ih n]
      exact i64_a _ _ _
    · rw [updL_ne q, updL_ne q]
      exact ih e
theorem lo_sum (e : Nat) (d : Int64) (s : (Nat → Int64) × (Nat → Int64)) (k : Nat) : (loS e d s).1 k + (loS e d s).2 k = s.1 k + s.2 k := by
  show vp_updL s.1 e (s.1 e - s.1 e / d) k + vp_updL s.2 e (s.2 e + s.1 e / d) k = s.1 k + s.2 k
  by_cases q : k = e
  · rw [q, updL_eq, updL_eq]
    exact i64_a _ _ _
  · rw [updL_ne q, updL_ne q]
theorem lm_sum (s : (Nat → Int64) × (Nat → Int64)) : ∀ n k, (lmS s n).1 k + (lmS s n).2 k = s.1 k + s.2 k
  | 0, k => rfl
  | n + 1, k => by
    show (loS 2 4000 (loS 1 4000 (loS 0 2000 (lmS s n)))).1 k + (loS 2 4000 (loS 1 4000 (loS 0 2000 (lmS s n)))).2 k = s.1 k + s.2 k
    rw [lo_sum, lo_sum, lo_sum, lm_sum s n k]
theorem lfd_in {f d : Nat → Int64} : ∀ n e, e < n → lfd f d n e = f e + d e
  | 0, e, h => absurd h (Nat.not_lt_zero e)
  | n + 1, e, h => by
    show vp_updL (lfd f d n) n (lfd f d n n + d n) e = f e + d e
    by_cases q : e = n
    · rw [q, updL_eq, lfd_out n n (Nat.le_refl _)]
    · rw [updL_ne q]
      exact lfd_in n e (by omega)
def ciS (C : Nat → zV) : Nat → Int64
  | 0 => 0
  | i + 1 => if (C i).1 4 = 0 then ciS C i + ((C i).1 5).toInt64 else ciS C i
def cgS (C : Nat → zV) (e : Nat) : Nat → Int64
  | 0 => 0
  | i + 1 => if (C i).1 4 = 0 then cgS C e i + (C i).2.2.1 e else cgS C e i
def hbS (b : Int64) (C : Nat → zV) : Nat → Int64
  | 0 => b
  | i + 1 => if (C i).1 4 = 0 then hbS b C i + ((C i).1 5).toInt64 else hbS b C i
def hgS (b : Int64) (C : Nat → zV) (e : Nat) : Nat → Int64
  | 0 => b
  | i + 1 => if (C i).1 4 = 0 then hgS b C e i + (C i).2.2.1 e else hgS b C e i
theorem hb_ci (b : Int64) (C : Nat → zV) : ∀ n, hbS b C n = b + ciS C n
  | 0 => (Int64.add_zero b).symm
  | n + 1 => by
    show (if (C n).1 4 = 0 then hbS b C n + ((C n).1 5).toInt64 else hbS b C n) = b + (if (C n).1 4 = 0 then ciS C n + ((C n).1 5).toInt64 else ciS C n)
    by_cases q : (C n).1 4 = 0
    · rw [if_pos q, if_pos q, hb_ci b C n, Int64.add_assoc]
    · rw [if_neg q, if_neg q, hb_ci b C n]
theorem hg_cg (b : Int64) (C : Nat → zV) (e : Nat) : ∀ n, hgS b C e n = b + cgS C e n
  | 0 => (Int64.add_zero b).symm
  | n + 1 => by
    show (if (C n).1 4 = 0 then hgS b C e n + (C n).2.2.1 e else hgS b C e n) = b + (if (C n).1 4 = 0 then cgS C e n + (C n).2.2.1 e else cgS C e n)
    by_cases q : (C n).1 4 = 0
    · rw [if_pos q, if_pos q, hg_cg b C e n, Int64.add_assoc]
    · rw [if_neg q, if_neg q, hg_cg b C e n]
theorem ci_cg {C D : Nat → zV} : ∀ n, (∀ j, j < n → (C j).1 4 = (D j).1 4 ∧ (C j).1 5 = (D j).1 5) → ciS C n = ciS D n
  | 0, _ => rfl
  | n + 1, h => by
    have e := h n (by omega)
    show (if (C n).1 4 = 0 then ciS C n + ((C n).1 5).toInt64 else ciS C n) = (if (D n).1 4 = 0 then ciS D n + ((D n).1 5).toInt64 else ciS D n)
    rw [ci_cg n (fun j hj => h j (by omega)), e.1, e.2]
theorem cg_cg {C D : Nat → zV} {e : Nat} : ∀ n, (∀ j, j < n → (C j).1 4 = (D j).1 4 ∧ (C j).2.2.1 e = (D j).2.2.1 e) → cgS C e n = cgS D e n
  | 0, _ => rfl
  | n + 1, h => by
    have k := h n (by omega)
    show (if (C n).1 4 = 0 then cgS C e n + (C n).2.2.1 e else cgS C e n) = (if (D n).1 4 = 0 then cgS D e n + (D n).2.2.1 e else cgS D e n)
    rw [cg_cg n (fun j hj => h j (by omega)), k.1, k.2]
theorem ci_set {C D : Nat → zV} {k : Nat} (hC : (C k).1 4 = 0) (hD : ¬ (D k).1 4 = 0) (ho : ∀ j, ¬ j = k → D j = C j) : ∀ n, (n ≤ k → ciS C n = ciS D n) ∧ (k < n → ciS C n = ciS D n + ((C k).1 5).toInt64)
  | 0 => ⟨fun _ => rfl, fun h => absurd h (Nat.not_lt_zero k)⟩
  | n + 1 => by
    obtain ⟨a, b⟩ := ci_set hC hD ho n
    refine ⟨fun h => ?_, fun h => ?_⟩
    · show (if (C n).1 4 = 0 then ciS C n + ((C n).1 5).toInt64 else ciS C n) = (if (D n).1 4 = 0 then ciS D n + ((D n).1 5).toInt64 else ciS D n)
      rw [ho n (by omega), a (by omega)]
    · show (if (C n).1 4 = 0 then ciS C n + ((C n).1 5).toInt64 else ciS C n) = (if (D n).1 4 = 0 then ciS D n + ((D n).1 5).toInt64 else ciS D n) + ((C k).1 5).toInt64
      by_cases q : n = k
      · rw [if_pos (show (C n).1 4 = 0 by rw [q]; exact hC), if_neg (show ¬ (D n).1 4 = 0 by rw [q]; exact hD), a (by omega), q]
      · rw [ho n q]
        by_cases z : (C n).1 4 = 0
        · rw [if_pos z, if_pos z, b (by omega), Int64.add_assoc, Int64.add_comm ((C k).1 5).toInt64, ← Int64.add_assoc]
        · rw [if_neg z, if_neg z, b (by omega)]
theorem cg_set {C D : Nat → zV} {k e : Nat} (hC : (C k).1 4 = 0) (hD : ¬ (D k).1 4 = 0) (ho : ∀ j, ¬ j = k → D j = C j) : ∀ n, (n ≤ k → cgS C e n = cgS D e n) ∧ (k < n → cgS C e n = cgS D e n + (C k).2.2.1 e)
  | 0 => ⟨fun _ => rfl, fun h => absurd h (Nat.not_lt_zero k)⟩
  | n + 1 => by
    obtain ⟨a, b⟩ := cg_set (e := e) hC hD ho n
    refine ⟨fun h => ?_, fun h => ?_⟩
    · show (if (C n).1 4 = 0 then cgS C e n + (C n).2.2.1 e else cgS C e n) = (if (D n).1 4 = 0 then cgS D e n + (D n).2.2.1 e else cgS D e n)
      rw [ho n (by omega), a (by omega)]
    · show (if (C n).1 4 = 0 then cgS C e n + (C n).2.2.1 e else cgS C e n) = (if (D n).1 4 = 0 then cgS D e n + (D n).2.2.1 e else cgS D e n) + (C k).2.2.1 e
      by_cases q : n = k
      · rw [if_pos (show (C n).1 4 = 0 by rw [q]; exact hC), if_neg (show ¬ (D n).1 4 = 0 by rw [q]; exact hD), a (by omega), q]
      · rw [ho n q]
        by_cases z : (C n).1 4 = 0
        · rw [if_pos z, if_pos z, b (by omega), Int64.add_assoc, Int64.add_comm ((C k).2.2.1 e), ← Int64.add_assoc]
        · rw [if_neg z, if_neg z, b (by omega)]
theorem vup_1 {F : Nat → Nat → zV} {K : Nat} {V : zV} : (vup F 1 K V) 1 = set5 (F 1) K V := funext fun j => by
  show (if 1 = 1 ∧ j = K then V else F 1 j) = (if j = K then V else F 1 j)
  by_cases q : j = K
  · rw [if_pos ⟨rfl, q⟩, if_pos q]
  · rw [if_neg (fun z => q z.2), if_neg q]
def BAL (a b c d : Int32) (io : Int64) (A B C D L U V : Nat → Int64) (K : Nat → zV) (n : Nat) : Prop := a.toInt64 + b.toInt64 + c.toInt64 + d.toInt64 + ciS K n = io ∧ ∀ e, e < 4 → (A e + B e + C e + D e + L e + cgS K e n) * 10 + V e = U e
def BALt (t : zTT) (n : Nat → Nat) : Prop := BAL ((t.1 37).1 0) ((t.1 43).1 0) ((t.1 45).1 0) ((t.1 47).1 0) ((t.1 36).2.1 0) (t.1 38).2.1 (t.1 44).2.1 (t.1 46).2.1 (t.1 48).2.1 (t.1 41).2.1 (t.1 39).2.1 (t.1 40).2.1 (t.2 1) (n 1)
theorem BAL.inn {a b c d : Int32} {io : Int64} {A B C D L U V : Nat → Int64} {K : Nat → zV} {n : Nat} {m : Int32} {w : Nat → Int64} (h : BAL a b c d io A B C D L U V K n) (o1 : -2147483648 ≤ a.toInt + m.toInt ∧ a.toInt + m.toInt < 2147483648) : BAL (a + m) b c d (io + m.toInt64) (lfd A (fun e => w e / 10) 4) B C D L (lfd U w 4) (lfd V (fun e => w e - w e / 10 * 10) 4) K n := by
  refine ⟨?_, fun e he => ?_⟩
  · rw [t64_add o1.1 o1.2, ← h.1]
    ac_rfl
  · rw [lfd_in 4 e he, lfd_in 4 e he, lfd_in 4 e he, ← h.2 e he]
    have e1 : A e + w e / 10 + B e + C e + D e + L e + cgS K e n = (A e + B e + C e + D e + L e + cgS K e n) + w e / 10 := by ac_rfl
    rw [e1, Int64.add_mul]
    exact i64_b _ _ _ _
theorem BAL.ab {a b c d : Int32} {io : Int64} {A B C D L U V : Nat → Int64} {K : Nat → zV} {n : Nat} {m : Int32} (h : BAL a b c d io A B C D L U V K n) (o1 : -2147483648 ≤ a.toInt - m.toInt ∧ a.toInt - m.toInt < 2147483648) (o2 : -2147483648 ≤ b.toInt + m.toInt ∧ b.toInt + m.toInt < 2147483648) : BAL (a - m) (b + m) c d io (mvS A m a 4) (mvT A m a B 4) C D L U V K n := by
  refine ⟨?_, fun e he => ?_⟩
  · rw [t64_sub o1.1 o1.2, t64_add o2.1 o2.2, ← h.1]
    have e1 := i64_a a.toInt64 b.toInt64 m.toInt64
    calc (a.toInt64 - m.toInt64) + (b.toInt64 + m.toInt64) + c.toInt64 + d.toInt64 + ciS K n = ((a.toInt64 - m.toInt64) + (b.toInt64 + m.toInt64)) + (c.toInt64 + d.toInt64 + ciS K n) := by ac_rfl
      _ = (a.toInt64 + b.toInt64) + (c.toInt64 + d.toInt64 + ciS K n) := by rw [e1]
      _ = a.toInt64 + b.toInt64 + c.toInt64 + d.toInt64 + ciS K n := by ac_rfl
  · rw [← h.2 e he]
    have e1 := mv_sum A B m a 4 e
    have e2 : mvS A m a 4 e + mvT A m a B 4 e + C e + D e + L e + cgS K e n = A e + B e + C e + D e + L e + cgS K e n := by
      calc mvS A m a 4 e + mvT A m a B 4 e + C e + D e + L e + cgS K e n = (mvS A m a 4 e + mvT A m a B 4 e) + (C e + D e + L e + cgS K e n) := by ac_rfl
        _ = (A e + B e) + (C e + D e + L e + cgS K e n) := by rw [e1]
        _ = A e + B e + C e + D e + L e + cgS K e n := by ac_rfl
    rw [e2]
theorem BAL.bc {a b c d : Int32} {io : Int64} {A B C D L U V : Nat → Int64} {K : Nat → zV} {n : Nat} {m : Int32} (h : BAL a b c d io A B C D L U V K n) (o1 : -2147483648 ≤ b.toInt - m.toInt ∧ b.toInt - m.toInt < 2147483648) (o2 : -2147483648 ≤ c.toInt + m.toInt ∧ c.toInt + m.toInt < 2147483648) : BAL a (b - m) (c + m) d io A (mvS B m b 4) (mvT B m b C 4) D L U V K n := by
  refine ⟨?_, fun e he => ?_⟩
  · rw [t64_sub o1.1 o1.2, t64_add o2.1 o2.2, ← h.1]
    have e1 := i64_a b.toInt64 c.toInt64 m.toInt64
    calc a.toInt64 + (b.toInt64 - m.toInt64) + (c.toInt64 + m.toInt64) + d.toInt64 + ciS K n = ((b.toInt64 - m.toInt64) + (c.toInt64 + m.toInt64)) + (a.toInt64 + d.toInt64 + ciS K n) := by ac_rfl
      _ = (b.toInt64 + c.toInt64) + (a.toInt64 + d.toInt64 + ciS K n) := by rw [e1]
      _ = a.toInt64 + b.toInt64 + c.toInt64 + d.toInt64 + ciS K n := by ac_rfl
  · rw [← h.2 e he]
    have e1 := mv_sum B C m b 4 e
    have e2 : A e + mvS B m b 4 e + mvT B m b C 4 e + D e + L e + cgS K e n = A e + B e + C e + D e + L e + cgS K e n := by
      calc A e + mvS B m b 4 e + mvT B m b C 4 e + D e + L e + cgS K e n = (mvS B m b 4 e + mvT B m b C 4 e) + (A e + D e + L e + cgS K e n) := by ac_rfl
        _ = (B e + C e) + (A e + D e + L e + cgS K e n) := by rw [e1]
        _ = A e + B e + C e + D e + L e + cgS K e n := by ac_rfl
    rw [e2]
theorem BAL.bd {a b c d : Int32} {io : Int64} {A B C D L U V : Nat → Int64} {K : Nat → zV} {n : Nat} {m : Int32} (h : BAL a b c d io A B C D L U V K n) (o1 : -2147483648 ≤ b.toInt - m.toInt ∧ b.toInt - m.toInt < 2147483648) (o2 : -2147483648 ≤ d.toInt + m.toInt ∧ d.toInt + m.toInt < 2147483648) : BAL a (b - m) c (d + m) io A (mvS B m b 4) C (mvT B m b D 4) L U V K n := by
  refine ⟨?_, fun e he => ?_⟩
  · rw [t64_sub o1.1 o1.2, t64_add o2.1 o2.2, ← h.1]
    have e1 := i64_a b.toInt64 d.toInt64 m.toInt64
    calc a.toInt64 + (b.toInt64 - m.toInt64) + c.toInt64 + (d.toInt64 + m.toInt64) + ciS K n = ((b.toInt64 - m.toInt64) + (d.toInt64 + m.toInt64)) + (a.toInt64 + c.toInt64 + ciS K n) := by ac_rfl
      _ = (b.toInt64 + d.toInt64) + (a.toInt64 + c.toInt64 + ciS K n) := by rw [e1]
      _ = a.toInt64 + b.toInt64 + c.toInt64 + d.toInt64 + ciS K n := by ac_rfl
  · rw [← h.2 e he]
    have e1 := mv_sum B D m b 4 e
    have e2 : A e + mvS B m b 4 e + C e + mvT B m b D 4 e + L e + cgS K e n = A e + B e + C e + D e + L e + cgS K e n := by
      calc A e + mvS B m b 4 e + C e + mvT B m b D 4 e + L e + cgS K e n = (mvS B m b 4 e + mvT B m b D 4 e) + (A e + C e + L e + cgS K e n) := by ac_rfl
        _ = (B e + D e) + (A e + C e + L e + cgS K e n) := by rw [e1]
        _ = A e + B e + C e + D e + L e + cgS K e n := by ac_rfl
    rw [e2]
theorem BAL.ca {a b c d : Int32} {io : Int64} {A B C D L U V : Nat → Int64} {K : Nat → zV} {n : Nat} {m : Int32} (h : BAL a b c d io A B C D L U V K n) (o1 : -2147483648 ≤ c.toInt - m.toInt ∧ c.toInt - m.toInt < 2147483648) (o2 : -2147483648 ≤ a.toInt + m.toInt ∧ a.toInt + m.toInt < 2147483648) : BAL (a + m) b (c - m) d io (mvT C m c A 4) B (mvS C m c 4) D L U V K n := by
  refine ⟨?_, fun e he => ?_⟩
  · rw [t64_sub o1.1 o1.2, t64_add o2.1 o2.2, ← h.1]
    have e1 := i64_a c.toInt64 a.toInt64 m.toInt64
    calc (a.toInt64 + m.toInt64) + b.toInt64 + (c.toInt64 - m.toInt64) + d.toInt64 + ciS K n = ((c.toInt64 - m.toInt64) + (a.toInt64 + m.toInt64)) + (b.toInt64 + d.toInt64 + ciS K n) := by ac_rfl
      _ = (c.toInt64 + a.toInt64) + (b.toInt64 + d.toInt64 + ciS K n) := by rw [e1]
      _ = a.toInt64 + b.toInt64 + c.toInt64 + d.toInt64 + ciS K n := by ac_rfl
  · rw [← h.2 e he]
    have e1 := mv_sum C A m c 4 e
    have e2 : mvT C m c A 4 e + B e + mvS C m c 4 e + D e + L e + cgS K e n = A e + B e + C e + D e + L e + cgS K e n := by
      calc mvT C m c A 4 e + B e + mvS C m c 4 e + D e + L e + cgS K e n = (mvS C m c 4 e + mvT C m c A 4 e) + (B e + D e + L e + cgS K e n) := by ac_rfl
        _ = (C e + A e) + (B e + D e + L e + cgS K e n) := by rw [e1]
        _ = A e + B e + C e + D e + L e + cgS K e n := by ac_rfl
    rw [e2]
theorem BAL.da {a b c d : Int32} {io : Int64} {A B C D L U V : Nat → Int64} {K : Nat → zV} {n : Nat} {m : Int32} (h : BAL a b c d io A B C D L U V K n) (o1 : -2147483648 ≤ d.toInt - m.toInt ∧ d.toInt - m.toInt < 2147483648) (o2 : -2147483648 ≤ a.toInt + m.toInt ∧ a.toInt + m.toInt < 2147483648) : BAL (a + m) b c (d - m) io (mvT D m d A 4) B C (mvS D m d 4) L U V K n := by
  refine ⟨?_, fun e he => ?_⟩
  · rw [t64_sub o1.1 o1.2, t64_add o2.1 o2.2, ← h.1]
    have e1 := i64_a d.toInt64 a.toInt64 m.toInt64
    calc (a.toInt64 + m.toInt64) + b.toInt64 + c.toInt64 + (d.toInt64 - m.toInt64) + ciS K n = ((d.toInt64 - m.toInt64) + (a.toInt64 + m.toInt64)) + (b.toInt64 + c.toInt64 + ciS K n) := by ac_rfl
      _ = (d.toInt64 + a.toInt64) + (b.toInt64 + c.toInt64 + ciS K n) := by rw [e1]
      _ = a.toInt64 + b.toInt64 + c.toInt64 + d.toInt64 + ciS K n := by ac_rfl
  · rw [← h.2 e he]
    have e1 := mv_sum D A m d 4 e
    have e2 : mvT D m d A 4 e + B e + C e + mvS D m d 4 e + L e + cgS K e n = A e + B e + C e + D e + L e + cgS K e n := by
      calc mvT D m d A 4 e + B e + C e + mvS D m d 4 e + L e + cgS K e n = (mvS D m d 4 e + mvT D m d A 4 e) + (B e + C e + L e + cgS K e n) := by ac_rfl
        _ = (D e + A e) + (B e + C e + L e + cgS K e n) := by rw [e1]
        _ = A e + B e + C e + D e + L e + cgS K e n := by ac_rfl
    rw [e2]
theorem BAL.hold {a b c d : Int32} {io : Int64} {A B C D L U V : Nat → Int64} {K : Nat → zV} {n : Nat} (h : BAL a b c d io A B C D L U V K n) (k : Nat) : BAL a b c d io (lmS (A, L) k).1 B C D (lmS (A, L) k).2 U V K n := by
  refine ⟨h.1, fun e he => ?_⟩
  rw [← h.2 e he]
  have e1 := lm_sum (A, L) k e
  have e2 : (lmS (A, L) k).1 e + B e + C e + D e + (lmS (A, L) k).2 e + cgS K e n = A e + B e + C e + D e + L e + cgS K e n := by
    calc (lmS (A, L) k).1 e + B e + C e + D e + (lmS (A, L) k).2 e + cgS K e n = ((lmS (A, L) k).1 e + (lmS (A, L) k).2 e) + (B e + C e + D e + cgS K e n) := by ac_rfl
      _ = (A e + L e) + (B e + C e + D e + cgS K e n) := by rw [e1]
      _ = A e + B e + C e + D e + L e + cgS K e n := by ac_rfl
  rw [e2]
theorem BAL.po {a b c d : Int32} {io : Int64} {A B C D L U V : Nat → Int64} {K : Nat → zV} {n : Nat} {m : Int32} {W : zV} (h : BAL a b c d io A B C D L U V K n) (o1 : -2147483648 ≤ b.toInt - m.toInt ∧ b.toInt - m.toInt < 2147483648) (h4 : W.1 4 = 0) (h5 : W.1 5 = m) (hW : ∀ e, W.2.2.1 e = mvT B m b (fun _ => 0) 4 e) : BAL a (b - m) c d io A (mvS B m b 4) C D L U V (z_apV K n W) (n + 1) := by
  have hn : z_apV K n W n = W := if_pos rfl
  have ho : ∀ j, j < n → z_apV K n W j = K j := fun j hj => if_neg (by omega)
  have hi : ciS (z_apV K n W) (n + 1) = ciS K n + m.toInt64 := by
    show (if (z_apV K n W n).1 4 = 0 then ciS (z_apV K n W) n + ((z_apV K n W n).1 5).toInt64 else ciS (z_apV K n W) n) = _
    rw [hn, if_pos h4, h5, ci_cg (D := K) n (fun j hj => by rw [ho j hj]; exact ⟨rfl, rfl⟩)]
  have hg : ∀ e, cgS (z_apV K n W) e (n + 1) = cgS K e n + mvT B m b (fun _ => 0) 4 e := fun e => by
    show (if (z_apV K n W n).1 4 = 0 then cgS (z_apV K n W) e n + (z_apV K n W n).2.2.1 e else cgS (z_apV K n W) e n) = _
    rw [hn, if_pos h4, hW e, cg_cg (D := K) n (fun j hj => by rw [ho j hj]; exact ⟨rfl, rfl⟩)]
  refine ⟨?_, fun e he => ?_⟩
  · rw [t64_sub o1.1 o1.2, hi, ← h.1]
    have e1 : b.toInt64 - m.toInt64 + m.toInt64 = b.toInt64 := Int64.sub_add_cancel _ _
    calc a.toInt64 + (b.toInt64 - m.toInt64) + c.toInt64 + d.toInt64 + (ciS K n + m.toInt64) = (b.toInt64 - m.toInt64 + m.toInt64) + (a.toInt64 + c.toInt64 + d.toInt64 + ciS K n) := by ac_rfl
      _ = b.toInt64 + (a.toInt64 + c.toInt64 + d.toInt64 + ciS K n) := by rw [e1]
      _ = a.toInt64 + b.toInt64 + c.toInt64 + d.toInt64 + ciS K n := by ac_rfl
  · rw [hg e, ← h.2 e he]
    have e1 := mv_sum B (fun _ => 0) m b 4 e
    have e0 : B e + (fun _ => (0 : Int64)) e = B e := Int64.add_zero _
    rw [e0] at e1
    have e2 : A e + mvS B m b 4 e + C e + D e + L e + (cgS K e n + mvT B m b (fun _ => 0) 4 e) = A e + B e + C e + D e + L e + cgS K e n := by
      calc A e + mvS B m b 4 e + C e + D e + L e + (cgS K e n + mvT B m b (fun _ => 0) 4 e) = (mvS B m b 4 e + mvT B m b (fun _ => 0) 4 e) + (A e + C e + D e + L e + cgS K e n) := by ac_rfl
        _ = B e + (A e + C e + D e + L e + cgS K e n) := by rw [e1]
        _ = A e + B e + C e + D e + L e + cgS K e n := by ac_rfl
    rw [e2]
theorem BAL.st {a b c d : Int32} {io : Int64} {A B C D L U V : Nat → Int64} {K : Nat → zV} {n : Nat} {k : Nat} {W : zV} (h : BAL a b c d io A B C D L U V K n) (h4 : W.1 4 = (K k).1 4) (h5 : W.1 5 = (K k).1 5) (hW : W.2.2.1 = (K k).2.2.1) : BAL a b c d io A B C D L U V (set5 K k W) n := by
  have k4 : ∀ j, (set5 K k W j).1 4 = (K j).1 4 ∧ (set5 K k W j).1 5 = (K j).1 5 ∧ (set5 K k W j).2.2.1 = (K j).2.2.1 := fun j => by
    by_cases q : j = k
    · rw [q, set5_eq]
      exact ⟨h4, h5, hW⟩
    · rw [set5_ne q]
      exact ⟨rfl, rfl, rfl⟩
  refine ⟨?_, fun e he => ?_⟩
  · rw [ci_cg (D := K) n (fun j _ => ⟨(k4 j).1, (k4 j).2.1⟩)]
    exact h.1
  · rw [cg_cg (D := K) n (fun j _ => ⟨(k4 j).1, congrFun (k4 j).2.2 e⟩)]
    exact h.2 e he
theorem BAL.buc {a b c d : Int32} {io : Int64} {A B C D L U V : Nat → Int64} {K : Nat → zV} {n : Nat} {k : Nat} {W : zV} (h : BAL a b c d io A B C D L U V K n) (hk : k < n) (hK : (K k).1 4 = 0) (h4 : ¬ W.1 4 = 0) (o1 : -2147483648 ≤ c.toInt + ((K k).1 5).toInt ∧ c.toInt + ((K k).1 5).toInt < 2147483648) : BAL a b (c + (K k).1 5) d io A B (lfd C (K k).2.2.1 4) D L U V (set5 K k W) n := by
  have hD : ¬ (set5 K k W k).1 4 = 0 := by rw [set5_eq]; exact h4
  have hi := (ci_set (C := K) (D := set5 K k W) (k := k) hK hD (fun j hj => set5_ne hj) n).2 hk
  have hg := fun e => (cg_set (C := K) (D := set5 K k W) (k := k) (e := e) hK hD (fun j hj => set5_ne hj) n).2 hk
  refine ⟨?_, fun e he => ?_⟩
  · rw [t64_add o1.1 o1.2, ← h.1, hi]
    ac_rfl
  · rw [lfd_in 4 e he, ← h.2 e he, hg e]
    have e2 : A e + B e + (C e + (K k).2.2.1 e) + D e + L e + cgS (set5 K k W) e n = A e + B e + C e + D e + L e + (cgS (set5 K k W) e n + (K k).2.2.1 e) := by ac_rfl
    rw [e2]
theorem BAL.bud {a b c d : Int32} {io : Int64} {A B C D L U V : Nat → Int64} {K : Nat → zV} {n : Nat} {k : Nat} {W : zV} (h : BAL a b c d io A B C D L U V K n) (hk : k < n) (hK : (K k).1 4 = 0) (h4 : ¬ W.1 4 = 0) (o1 : -2147483648 ≤ d.toInt + ((K k).1 5).toInt ∧ d.toInt + ((K k).1 5).toInt < 2147483648) : BAL a b c (d + (K k).1 5) io A B C (lfd D (K k).2.2.1 4) L U V (set5 K k W) n := by
  have hD : ¬ (set5 K k W k).1 4 = 0 := by rw [set5_eq]; exact h4
  have hi := (ci_set (C := K) (D := set5 K k W) (k := k) hK hD (fun j hj => set5_ne hj) n).2 hk
  have hg := fun e => (cg_set (C := K) (D := set5 K k W) (k := k) (e := e) hK hD (fun j hj => set5_ne hj) n).2 hk
  refine ⟨?_, fun e he => ?_⟩
  · rw [t64_add o1.1 o1.2, ← h.1, hi]
    ac_rfl
  · rw [lfd_in 4 e he, ← h.2 e he, hg e]
    have e2 : A e + B e + C e + (D e + (K k).2.2.1 e) + L e + cgS (set5 K k W) e n = A e + B e + C e + D e + L e + (cgS (set5 K k W) e n + (K k).2.2.1 e) := by ac_rfl
    rw [e2]
def NEB (t T : zTT) : Prop := (T.1 36).2.1 = (t.1 36).2.1 ∧ T.1 37 = t.1 37 ∧ T.1 38 = t.1 38 ∧ T.1 39 = t.1 39 ∧ T.1 40 = t.1 40 ∧ T.1 41 = t.1 41 ∧ T.1 43 = t.1 43 ∧ T.1 44 = t.1 44 ∧ T.1 45 = t.1 45 ∧ T.1 46 = t.1 46 ∧ T.1 47 = t.1 47 ∧ T.1 48 = t.1 48 ∧ T.2 1 = t.2 1
theorem BALt.c {t T : zTT} {n n1 : Nat → Nat} (h : BALt t n) (k : NEB t T) (e : n1 1 = n 1) : BALt T n1 := by
  unfold BALt at h ⊢
  obtain ⟨k1, k2, k3, k4, k5, k6, k7, k8, k9, ka, kb, kc, kd⟩ := k
  rw [k1, k2, k3, k4, k5, k6, k7, k8, k9, ka, kb, kc, kd, e]
  exact h
theorem dX_b : dX "java/lang/IndexOutOfBoundsException" := by
  unfold dX
  simp
theorem dY_b : ∀ z : Int32, dR (.inr "java/lang/IndexOutOfBoundsException") z → z = -200001 := fun z h => by
  rcases h with h | ⟨h, e⟩ | ⟨h, e⟩ | ⟨h, e⟩ | ⟨h, e⟩ | ⟨h, e⟩
  · cases h
  · exact e
  · exact absurd (Sum.inr.inj h) (by decide)
  · exact absurd (Sum.inr.inj h) (by decide)
  · exact absurd (Sum.inr.inj h) (by decide)
  · exact absurd (Sum.inr.inj h) (by decide)
theorem dX_a : dX "java/lang/IllegalArgumentException" := by
  unfold dX
  simp
theorem dY_a : ∀ z : Int32, dR (.inr "java/lang/IllegalArgumentException") z → z = -200002 := fun z h => by
  rcases h with h | ⟨h, e⟩ | ⟨h, e⟩ | ⟨h, e⟩ | ⟨h, e⟩ | ⟨h, e⟩
  · cases h
  · exact absurd (Sum.inr.inj h) (by decide)
  · exact e
  · exact absurd (Sum.inr.inj h) (by decide)
  · exact absurd (Sum.inr.inj h) (by decide)
  · exact absurd (Sum.inr.inj h) (by decide)
theorem dX_u : dX "java/lang/UnsupportedOperationException" := by
  unfold dX
  simp
theorem dY_u : ∀ z : Int32, dR (.inr "java/lang/UnsupportedOperationException") z → z = -200004 := fun z h => by
  rcases h with h | ⟨h, e⟩ | ⟨h, e⟩ | ⟨h, e⟩ | ⟨h, e⟩ | ⟨h, e⟩
  · cases h
  · exact absurd (Sum.inr.inj h) (by decide)
  · exact absurd (Sum.inr.inj h) (by decide)
  · exact e
  · exact absurd (Sum.inr.inj h) (by decide)
  · exact absurd (Sum.inr.inj h) (by decide)
theorem dX_n : dX "java/util/NoSuchElementException" := by
  unfold dX
  simp
theorem dY_n : ∀ z : Int32, dR (.inr "java/util/NoSuchElementException") z → z = -200005 := fun z h => by
  rcases h with h | ⟨h, e⟩ | ⟨h, e⟩ | ⟨h, e⟩ | ⟨h, e⟩ | ⟨h, e⟩
  · cases h
  · exact absurd (Sum.inr.inj h) (by decide)
  · exact absurd (Sum.inr.inj h) (by decide)
  · exact absurd (Sum.inr.inj h) (by decide)
  · exact e
  · exact absurd (Sum.inr.inj h) (by decide)
theorem dX_s : dX "java/lang/IllegalStateException" := by
  unfold dX
  simp
theorem dY_s : ∀ z : Int32, dR (.inr "java/lang/IllegalStateException") z → z = -200003 := fun z h => by
  rcases h with h | ⟨h, e⟩ | ⟨h, e⟩ | ⟨h, e⟩ | ⟨h, e⟩ | ⟨h, e⟩
  · cases h
  · exact absurd (Sum.inr.inj h) (by decide)
  · exact absurd (Sum.inr.inj h) (by decide)
  · exact absurd (Sum.inr.inj h) (by decide)
  · exact absurd (Sum.inr.inj h) (by decide)
  · exact e
def cnM (f : Nat → Int32) : Nat := fa_cnt (fun k => tmB (f k)) 108
def BO (t : zTT) (n : Nat → Nat) (f : Nat → Int32) (k : Nat) : Prop := (t.1 2).1 = f ∧ (0 ≤ ((t.1 37).1 0).toInt ∧ ((t.1 37).1 0).toInt ≤ 3000) ∧ (0 ≤ ((t.1 43).1 0).toInt ∧ ((t.1 43).1 0).toInt ≤ 400) ∧ (0 ≤ ((t.1 45).1 0).toInt ∧ ((t.1 45).1 0).toInt ≤ 400 * (k : Int)) ∧ (0 ≤ ((t.1 47).1 0).toInt ∧ ((t.1 47).1 0).toInt ≤ 400 * (k : Int)) ∧ (∀ i, i < n 1 → (0 ≤ ((t.2 1 i).1 5).toInt ∧ ((t.2 1 i).1 5).toInt ≤ 400) ∧ 0 ≤ (t.2 1 i).1 2) ∧ (∀ i, i < n 0 → (t.2 0 i).2.2.2 0 = cnM f) ∧ BALt t n
section
variable {t T : zTT} {n n1 : Nat → Nat} {f : Nat → Int32} {k : Nat}
theorem BO.pf (h : BO t n f k) : (t.1 2).1 = f := h.1
theorem BO.fu (h : BO t n f k) : 0 ≤ ((t.1 37).1 0).toInt ∧ ((t.1 37).1 0).toInt ≤ 3000 := h.2.1
theorem BO.la (h : BO t n f k) : 0 ≤ ((t.1 43).1 0).toInt ∧ ((t.1 43).1 0).toInt ≤ 400 := h.2.2.1
theorem BO.gy (h : BO t n f k) : 0 ≤ ((t.1 45).1 0).toInt ∧ ((t.1 45).1 0).toInt ≤ 400 * (k : Int) := h.2.2.2.1
theorem BO.du (h : BO t n f k) : 0 ≤ ((t.1 47).1 0).toInt ∧ ((t.1 47).1 0).toInt ≤ 400 * (k : Int) := h.2.2.2.2.1
theorem BO.ca (h : BO t n f k) : ∀ i, i < n 1 → (0 ≤ ((t.2 1 i).1 5).toInt ∧ ((t.2 1 i).1 5).toInt ≤ 400) ∧ 0 ≤ (t.2 1 i).1 2 := h.2.2.2.2.2.1
theorem BO.mo (h : BO t n f k) : ∀ i, i < n 0 → (t.2 0 i).2.2.2 0 = cnM f := h.2.2.2.2.2.2.1
theorem BO.bal (h : BO t n f k) : BALt t n := h.2.2.2.2.2.2.2
theorem BO.up (h : BO t n f k) {k2 : Nat} (e : k ≤ k2) : BO t n f k2 := ⟨h.pf, h.fu, h.la, ⟨h.gy.1, by have := h.gy.2; omega⟩, ⟨h.du.1, by have := h.du.2; omega⟩, h.ca, h.mo, h.bal⟩
theorem BO.c (h : BO t n f k) (h2 : (T.1 2).1 = (t.1 2).1) (hN : NEB t T) (e : n1 1 = n 1) (hM : ∀ i, i < n1 0 → (T.2 0 i).2.2.2 0 = cnM f) : BO T n1 f k := by
  have hb := h.bal.c hN e
  obtain ⟨-, k2, -, -, -, -, k7, -, k9, -, kb, -, kd⟩ := hN
  refine ⟨h2.trans h.pf, by rw [k2]; exact h.fu, by rw [k7]; exact h.la, by rw [k9]; exact h.gy, by rw [kb]; exact h.du, ?_, hM, hb⟩
  rw [kd, e]
  exact h.ca
end
theorem ad32 {x m : Int32} {a b c d : Int} (h1 : a ≤ x.toInt ∧ x.toInt ≤ b) (h2 : c ≤ m.toInt ∧ m.toInt ≤ d) (h3 : -2147483648 ≤ a + c) (h4 : b + d < 2147483648) : (x + m).toInt = x.toInt + m.toInt := by
  rw [Int32.toInt_add, bm32 (by omega) (by omega)]
theorem sb32 {x m : Int32} {a b c d : Int} (h1 : a ≤ x.toInt ∧ x.toInt ≤ b) (h2 : c ≤ m.toInt ∧ m.toInt ≤ d) (h3 : -2147483648 ≤ a - d) (h4 : b - c < 2147483648) : (x - m).toInt = x.toInt - m.toInt := by
  rw [Int32.toInt_sub, bm32 (by omega) (by omega)]
theorem fu_b {x m : Int32} (h1 : 0 ≤ x.toInt ∧ x.toInt ≤ 3000) (h2 : 1 ≤ m.toInt ∧ m.toInt ≤ 600) (hg : ¬ 3000 < x + m) : 0 ≤ (x + m).toInt ∧ (x + m).toInt ≤ 3000 := by
  have e := ad32 h1 h2 (by decide) (by decide)
  rw [Int32.lt_iff_toInt_lt, e] at hg
  have e3 : (3000 : Int32).toInt = 3000 := rfl
  rw [e]
  omega
theorem nn_i {x : Int32} (h : 0 ≤ x.toInt) : 0 ≤ x := Int32.le_iff_toInt_le.mpr h
def Wq (g : zG) (ad : Nat → Nat) (f : Nat → Int32) (k : Nat) (fu la gy du : Int32) (w : zW) : Prop := ∃ t u, IV g ad t u w ∧ BO t u.1 f k ∧ (t.1 37).1 0 = fu ∧ (t.1 43).1 0 = la ∧ (t.1 45).1 0 = gy ∧ (t.1 47).1 0 = du
section
variable {g : zG} {ad : Nat → Nat} {f : Nat → Int32} {k : Nat} {fu la gy du : Int32} {w w1 : zW}
theorem IV.ra2 {t : zTT} {u : zNN} (hI : IV g ad t u w) : ∃ fs : List Value, w (ad 0) = some (.inr (11, fs)) := by
  obtain ⟨e, h1, k⟩ := hI.1.2 0 (by decide)
  obtain rfl := kd_0.mp k
  exact ⟨_, h1⟩
theorem Wq.ra (h : Wq g ad f k fu la gy du w) : ∃ fs : List Value, w (ad 0) = some (.inr (11, fs)) := by
  obtain ⟨t, u, hI, -⟩ := h
  exact hI.ra2
theorem Wq.e (h : Wq g ad f k fu la gy du w) (e : w1 = w) : Wq g ad f k fu la gy du w1 := e ▸ h
theorem Wq.up (h : Wq g ad f k fu la gy du w) {k2 : Nat} (e : k ≤ k2) : Wq g ad f k2 fu la gy du w := by
  obtain ⟨t, u, hI, hB, h1⟩ := h
  exact ⟨t, u, hI, hB.up e, h1⟩
theorem Wq.bd (h : Wq g ad f k fu la gy du w) : (0 ≤ fu.toInt ∧ fu.toInt ≤ 3000) ∧ (0 ≤ la.toInt ∧ la.toInt ≤ 400) ∧ (0 ≤ gy.toInt ∧ gy.toInt ≤ 400 * (k : Int)) ∧ (0 ≤ du.toInt ∧ du.toInt ≤ 400 * (k : Int)) := by
  obtain ⟨t, u, hI, hB, rfl, rfl, rfl, rfl⟩ := h
  exact ⟨hB.fu, hB.la, hB.gy, hB.du⟩
end
section
variable {g : zG} {a : Nat} {w : zW} {R : zW → Prop} {mc9 ms9 : Nat}
theorem K_askd {v : Int32} (hr : ∃ fs : List Value, w a = some (.inr (11, fs))) (wh x y : Int32) (hw : ¬ 20 ≤ wh) (hM : zMB g M_Lw_done [.ref a, .int wh, .int x, .int y, .int 0, .int 0, .int 0] w (fun o w1 => o = .inl (some (.int v)) ∧ R w1) mc9 ms9) : zMB g M_Lw_ask [.ref a, .int wh, .int x, .int y] w (fun o w1 => o = .inl (some (.int v)) ∧ R w1) mc9 ms9 :=
  D_ask hr wh x y (K_done hr wh x y 0 0 0 hw hM) (fun v9 w1 h => ⟨v, Sum.inl.inj h.1⟩)
theorem K_askx {E : String} {v : Int32} (hE : dX E) (hd : ∀ z, dR (.inr E) z → z = v) (hr : ∃ fs : List Value, w a = some (.inr (11, fs))) (wh x y : Int32) (hw : ¬ 20 ≤ wh) (hM : zMB g M_Lw_done [.ref a, .int wh, .int x, .int y, .int 0, .int 0, .int 0] w (fun o w1 => o = .inr E ∧ R w1) mc9 ms9) : zMB g M_Lw_ask [.ref a, .int wh, .int x, .int y] w (fun o w1 => o = .inl (some (.int v)) ∧ R w1) mc9 ms9 :=
  D_ask hr wh x y ((D_done hr wh x y 0 0 0 hw hM (fun v9 w1 h => nomatch h.1) (fun E2 w1 h => by
    have e := Sum.inr.inj h.1
    subst e
    exact hE)).mono (Nat.le_refl _) (Nat.le_refl _) (fun o w1 h => by
    obtain ⟨o2, v2, ⟨rfl, hR⟩, hd2, rfl⟩ := h
    exact ⟨by rw [hd _ hd2], hR⟩)) (fun v9 w1 h => ⟨v, Sum.inl.inj h.1⟩)
end
section
variable {g : zG} {ad : Nat → Nat} {f : Nat → Int32} {k : Nat} {fu la gy du : Int32} {w : zW}
theorem B_ladle (hW : Wq g ad f k fu la gy du w) : zMB g M_Lw_ask [.ref (ad 0), .int 32, .int 119, .int 0] w (fun o w1 => o = .inl (some (.int la)) ∧ w1 = w) 1 6 := by
  have hr := hW.ra
  obtain ⟨t, u, hI, hB, rfl, rfl, rfl, rfl⟩ := hW
  refine K_ask hr 32 119 0 (by decide) (A_32 hr 119 0 0 0 (by decide) ?_ (fun v9 w1 h => ⟨_, Sum.inl.inj h.1⟩))
  by_cases he : (t.1 43).1 0 = 0
  · rw [he]
    exact Qx_Ip_ladle0 hI 119 (by decide) he
  · exact Qx_Ip_ladle119 hI he
theorem B_pool103 (hW : Wq g ad f k fu la gy du w) : zMB g M_Lw_ask [.ref (ad 0), .int 33, .int 103, .int 0] w (fun o w1 => o = .inl (some (.int gy)) ∧ w1 = w) 1 6 := by
  have hr := hW.ra
  obtain ⟨t, u, hI, hB, rfl, rfl, rfl, rfl⟩ := hW
  exact K_ask hr 33 103 0 (by decide) (A_33 hr 103 0 0 0 (by decide) (Qx_Ip_pool103 hI) (fun v9 w1 h => ⟨_, Sum.inl.inj h.1⟩))
theorem B_pool100 (hW : Wq g ad f k fu la gy du w) : zMB g M_Lw_ask [.ref (ad 0), .int 33, .int 100, .int 0] w (fun o w1 => o = .inl (some (.int du)) ∧ w1 = w) 1 6 := by
  have hr := hW.ra
  obtain ⟨t, u, hI, hB, rfl, rfl, rfl, rfl⟩ := hW
  exact K_ask hr 33 100 0 (by decide) (A_33 hr 100 0 0 0 (by decide) (Qx_Ip_pool100 hI) (fun v9 w1 h => ⟨_, Sum.inl.inj h.1⟩))
theorem B_weight (hW : Wq g ad f k fu la gy du w) : zMB g M_Ip_weight [.ref (ad 0)] w (fun o w1 => o = .inl (some (.int (2 * nI (cnM f)))) ∧ w1 = w) 0 0 := by
  obtain ⟨t, u, hI, hB, rfl, rfl, rfl, rfl⟩ := hW
  obtain rfl := hB.pf
  exact Qx_Ip_weight hI
theorem B_ch112 {m : Int32} (hW : Wq g ad f k fu la gy du w) (hm : 1 ≤ m ∧ m ≤ 600) : zMB g M_Lw_ask [.ref (ad 0), .int 5, .int 112, .int m] w (fun o w1 => ∃ v : Int32, o = .inl (some (.int v)) ∧ ((3000 < fu + m ∧ v = -200003 ∧ Wq g ad f k fu la gy du w1) ∨ (¬ 3000 < fu + m ∧ v = fu + m ∧ Wq g ad f k (fu + m) la gy du w1))) 1 6 := by
  have hr := hW.ra
  obtain ⟨t, u, hI, hB, rfl, rfl, rfl, rfl⟩ := hW
  have hw : 1 ≤ m ∧ m ≤ 1000 := ⟨hm.1, Int32.le_trans hm.2 (by decide)⟩
  have hi := m_rng (x := 1) (y := 600) hm rfl rfl
  have hf := hB.fu
  by_cases hg : 3000 < (t.1 37).1 0 + m
  · exact (K_askx dX_s dY_s hr 5 112 m (by decide) (A_5 hr 112 m 0 0 0 (by decide) (Qx_Ip_charge112G hI m hw hg) (fun v9 w1 h => nomatch h.1))).mono (by decide) (by decide) (fun o w1 h => ⟨_, h.1, Or.inl ⟨hg, rfl, ⟨t, u, (by rw [h.2]; exact hI), hB, rfl, rfl, rfl, rfl⟩⟩⟩)
  · exact (K_askd hr 5 112 m (by decide) (A_5 hr 112 m 0 0 0 (by decide) (Qx_Ip_charge112N hI m hw hg) (fun v9 w1 h => ⟨_, Sum.inl.inj h.1⟩))).mono (by decide) (by decide) (fun o w1 h => ⟨_, h.1, Or.inr ⟨hg, rfl, _, u, h.2.1, ⟨hB.pf, fu_b hf hi hg, hB.la, hB.gy, hB.du, hB.ca, hB.mo, BAL.inn (m := m) (w := chS m 0) hB.bal (by omega)⟩, rfl, rfl, rfl, rfl⟩⟩)
theorem B_ch115 {m : Int32} (hW : Wq g ad f k fu la gy du w) (hm : 1 ≤ m ∧ m ≤ 600) : zMB g M_Lw_ask [.ref (ad 0), .int 5, .int 115, .int m] w (fun o w1 => ∃ v : Int32, o = .inl (some (.int v)) ∧ ((3000 < fu + m ∧ v = -200003 ∧ Wq g ad f k fu la gy du w1) ∨ (¬ 3000 < fu + m ∧ v = fu + m ∧ Wq g ad f k (fu + m) la gy du w1))) 1 6 := by
  have hr := hW.ra
  obtain ⟨t, u, hI, hB, rfl, rfl, rfl, rfl⟩ := hW
  have hw : 1 ≤ m ∧ m ≤ 1000 := ⟨hm.1, Int32.le_trans hm.2 (by decide)⟩
  have hi := m_rng (x := 1) (y := 600) hm rfl rfl
  have hf := hB.fu
  by_cases hg : 3000 < (t.1 37).1 0 + m
  · exact (K_askx dX_s dY_s hr 5 115 m (by decide) (A_5 hr 115 m 0 0 0 (by decide) (Qx_Ip_charge115G hI m hw hg) (fun v9 w1 h => nomatch h.1))).mono (by decide) (by decide) (fun o w1 h => ⟨_, h.1, Or.inl ⟨hg, rfl, ⟨t, u, (by rw [h.2]; exact hI), hB, rfl, rfl, rfl, rfl⟩⟩⟩)
  · exact (K_askd hr 5 115 m (by decide) (A_5 hr 115 m 0 0 0 (by decide) (Qx_Ip_charge115N hI m hw hg) (fun v9 w1 h => ⟨_, Sum.inl.inj h.1⟩))).mono (by decide) (by decide) (fun o w1 h => ⟨_, h.1, Or.inr ⟨hg, rfl, _, u, h.2.1, ⟨hB.pf, fu_b hf hi hg, hB.la, hB.gy, hB.du, hB.ca, hB.mo, BAL.inn (m := m) (w := chS m 1) hB.bal (by omega)⟩, rfl, rfl, rfl, rfl⟩⟩)
theorem B_ch102 {m : Int32} (hW : Wq g ad f k fu la gy du w) (hm : 1 ≤ m ∧ m ≤ 600) : zMB g M_Lw_ask [.ref (ad 0), .int 5, .int 102, .int m] w (fun o w1 => ∃ v : Int32, o = .inl (some (.int v)) ∧ ((3000 < fu + m ∧ v = -200003 ∧ Wq g ad f k fu la gy du w1) ∨ (¬ 3000 < fu + m ∧ v = fu + m ∧ Wq g ad f k (fu + m) la gy du w1))) 1 6 := by
  have hr := hW.ra
  obtain ⟨t, u, hI, hB, rfl, rfl, rfl, rfl⟩ := hW
  have hw : 1 ≤ m ∧ m ≤ 1000 := ⟨hm.1, Int32.le_trans hm.2 (by decide)⟩
  have hi := m_rng (x := 1) (y := 600) hm rfl rfl
  have hf := hB.fu
  by_cases hg : 3000 < (t.1 37).1 0 + m
  · exact (K_askx dX_s dY_s hr 5 102 m (by decide) (A_5 hr 102 m 0 0 0 (by decide) (Qx_Ip_charge102G hI m hw hg) (fun v9 w1 h => nomatch h.1))).mono (by decide) (by decide) (fun o w1 h => ⟨_, h.1, Or.inl ⟨hg, rfl, ⟨t, u, (by rw [h.2]; exact hI), hB, rfl, rfl, rfl, rfl⟩⟩⟩)
  · exact (K_askd hr 5 102 m (by decide) (A_5 hr 102 m 0 0 0 (by decide) (Qx_Ip_charge102N hI m hw hg) (fun v9 w1 h => ⟨_, Sum.inl.inj h.1⟩))).mono (by decide) (by decide) (fun o w1 h => ⟨_, h.1, Or.inr ⟨hg, rfl, _, u, h.2.1, ⟨hB.pf, fu_b hf hi hg, hB.la, hB.gy, hB.du, hB.ca, hB.mo, BAL.inn (m := m) (w := chS m 2) hB.bal (by omega)⟩, rfl, rfl, rfl, rfl⟩⟩)
theorem B_ch103 {m : Int32} (hk : k ≤ 14) (hW : Wq g ad f k fu la gy du w) (hm : 1 ≤ m ∧ m ≤ 200) : zMB g M_Lw_ask [.ref (ad 0), .int 5, .int 103, .int m] w (fun o w1 => ∃ v : Int32, o = .inl (some (.int v)) ∧ ((gy < m ∧ v = -200004 ∧ Wq g ad f k fu la gy du w1) ∨ (¬ gy < m ∧ v = -200003 ∧ Wq g ad f k fu la gy du w1) ∨ (¬ gy < m ∧ ¬ 3000 < fu + m ∧ v = fu + m ∧ Wq g ad f k (fu + m) la (gy - m) du w1))) 1 6 := by
  have hr := hW.ra
  obtain ⟨t, u, hI, hB, rfl, rfl, rfl, rfl⟩ := hW
  have hw : 1 ≤ m ∧ m ≤ 1000 := ⟨hm.1, Int32.le_trans hm.2 (by decide)⟩
  have hi := m_rng (x := 1) (y := 200) hm rfl rfl
  have hf := hB.fu
  have h3 := hB.gy
  by_cases hl : (t.1 45).1 0 < m
  · exact (K_askx dX_u dY_u hr 5 103 m (by decide) (A_5 hr 103 m 0 0 0 (by decide) (Qx_Ip_charge103F hI m hw hl) (fun v9 w1 h => nomatch h.1))).mono (by decide) (by decide) (fun o w1 h => ⟨_, h.1, Or.inl ⟨hl, rfl, ⟨t, u, (by rw [h.2]; exact hI), hB, rfl, rfl, rfl, rfl⟩⟩⟩)
  · by_cases hg : 3000 < (t.1 37).1 0 + m
    · exact (K_askx dX_s dY_s hr 5 103 m (by decide) (A_5 hr 103 m 0 0 0 (by decide) (Qx_Ip_charge103G hI m hw hl hg) (fun v9 w1 h => nomatch h.1))).mono (by decide) (by decide) (fun o w1 h => ⟨_, h.1, Or.inr (Or.inl ⟨hl, rfl, ⟨t, u, (by rw [h.2]; exact hI), hB, rfl, rfl, rfl, rfl⟩⟩)⟩)
    · have e : ((t.1 45).1 0 - m).toInt = ((t.1 45).1 0).toInt - m.toInt := sb32 h3 hi (by omega) (by omega)
      have hl2 := hl
      rw [Int32.lt_iff_toInt_lt] at hl2
      exact (K_askd hr 5 103 m (by decide) (A_5 hr 103 m 0 0 0 (by decide) (Qx_Ip_charge103N hI m hw hl hg) (fun v9 w1 h => ⟨_, Sum.inl.inj h.1⟩))).mono (by decide) (by decide) (fun o w1 h => ⟨_, h.1, Or.inr (Or.inr ⟨hl, hg, rfl, _, u, h.2.1, ⟨hB.pf, fu_b hf ⟨hi.1, by omega⟩ hg, hB.la, (show 0 ≤ ((t.1 45).1 0 - m).toInt ∧ ((t.1 45).1 0 - m).toInt ≤ 400 * (k : Int) by rw [e]; omega), hB.du, hB.ca, hB.mo, BAL.ca (m := m) hB.bal (by omega) (by omega)⟩, rfl, rfl, rfl, rfl⟩)⟩)
theorem B_tap {m : Int32} (hW : Wq g ad f k fu la gy du w) (hm : 1 ≤ m ∧ m ≤ 400) : zMB g M_Lw_ask [.ref (ad 0), .int 7, .int m, .int 0] w (fun o w1 => ∃ v : Int32, o = .inl (some (.int v)) ∧ ((¬ la = 0 ∧ v = -200003 ∧ Wq g ad f k fu la gy du w1) ∨ (la = 0 ∧ fu < m ∧ v = -200004 ∧ Wq g ad f k fu la gy du w1) ∨ (la = 0 ∧ ¬ fu < m ∧ v = fu - m ∧ 0 ≤ v ∧ Wq g ad f k (fu - m) (la + m) gy du w1))) 1 6 := by
  have hr := hW.ra
  obtain ⟨t, u, hI, hB, rfl, rfl, rfl, rfl⟩ := hW
  have hw : 1 ≤ m ∧ m ≤ 500 := ⟨hm.1, Int32.le_trans hm.2 (by decide)⟩
  have hi := m_rng (x := 1) (y := 400) hm rfl rfl
  have hf := hB.fu
  by_cases he : (t.1 43).1 0 = 0
  · by_cases hl : (t.1 37).1 0 < m
    · exact (K_askx dX_u dY_u hr 7 m 0 (by decide) (A_7 hr m 0 0 0 0 (Qx_Ip_tapG hI m hw he hl) (fun v9 w1 h => nomatch h.1))).mono (by decide) (by decide) (fun o w1 h => ⟨_, h.1, Or.inr (Or.inl ⟨he, hl, rfl, ⟨t, u, (by rw [h.2]; exact hI), hB, rfl, rfl, rfl, rfl⟩⟩)⟩)
    · have e : ((t.1 37).1 0 - m).toInt = ((t.1 37).1 0).toInt - m.toInt := sb32 hf hi (by decide) (by decide)
      have hl2 := hl
      rw [Int32.lt_iff_toInt_lt] at hl2
      have h0 : ((t.1 43).1 0).toInt = 0 := by rw [he]; rfl
      have e2 : ((t.1 43).1 0 + m).toInt = m.toInt := by rw [he, Int32.zero_add]
      exact (K_askd hr 7 m 0 (by decide) (A_7 hr m 0 0 0 0 (Qx_Ip_tapN hI m hw he hl) (fun v9 w1 h => ⟨_, Sum.inl.inj h.1⟩))).mono (by decide) (by decide) (fun o w1 h => ⟨_, h.1, Or.inr (Or.inr ⟨he, hl, rfl, nn_i (by rw [e]; omega), _, u, h.2.1, ⟨hB.pf, (show 0 ≤ ((t.1 37).1 0 - m).toInt ∧ ((t.1 37).1 0 - m).toInt ≤ 3000 by rw [e]; omega), (show 0 ≤ ((t.1 43).1 0 + m).toInt ∧ ((t.1 43).1 0 + m).toInt ≤ 400 by rw [e2]; omega), hB.gy, hB.du, hB.ca, hB.mo, BAL.ab (m := m) hB.bal (by omega) (by omega)⟩, rfl, rfl, rfl, rfl⟩)⟩)
  · exact (K_askx dX_s dY_s hr 7 m 0 (by decide) (A_7 hr m 0 0 0 0 (Qx_Ip_tapF hI m hw he) (fun v9 w1 h => nomatch h.1))).mono (by decide) (by decide) (fun o w1 h => ⟨_, h.1, Or.inl ⟨he, rfl, ⟨t, u, (by rw [h.2]; exact hI), hB, rfl, rfl, rfl, rfl⟩⟩⟩)
theorem B_treat {m : Int32} (hW : Wq g ad f k fu la gy du w) (hm : 1 ≤ m ∧ m ≤ 40) : zMB g M_Lw_ask [.ref (ad 0), .int 8, .int m, .int 0] w (fun o w1 => ∃ v : Int32, o = .inl (some (.int v)) ∧ Wq g ad f k fu la gy du w1) 1 6 := by
  have hr := hW.ra
  obtain ⟨t, u, hI, hB, rfl, rfl, rfl, rfl⟩ := hW
  have hw : 1 ≤ m ∧ m ≤ 100 := ⟨hm.1, Int32.le_trans hm.2 (by decide)⟩
  by_cases he : (t.1 43).1 0 = 0
  · exact (K_askx dX_s dY_s hr 8 m 0 (by decide) (A_8 hr m 0 0 0 0 (Qx_Ip_treatF hI m hw he) (fun v9 w1 h => nomatch h.1))).mono (by decide) (by decide) (fun o w1 h => ⟨_, h.1, ⟨t, u, (by rw [h.2]; exact hI), hB, rfl, rfl, rfl, rfl⟩⟩)
  · by_cases hg : ((t.1 42).1 1) + m ≤ 100
    · exact (K_askd hr 8 m 0 (by decide) (A_8 hr m 0 0 0 0 (Qx_Ip_treatN hI m hw he hg) (fun v9 w1 h => ⟨_, Sum.inl.inj h.1⟩))).mono (by decide) (by decide) (fun o w1 h => ⟨_, h.1, _, u, h.2.1, hB.c rfl ⟨rfl, rfl, rfl, rfl, rfl, rfl, rfl, rfl, rfl, rfl, rfl, rfl, rfl⟩ rfl hB.mo, rfl, rfl, rfl, rfl⟩)
    · exact (K_askx dX_u dY_u hr 8 m 0 (by decide) (A_8 hr m 0 0 0 0 (Qx_Ip_treatG hI m hw he hg) (fun v9 w1 h => nomatch h.1))).mono (by decide) (by decide) (fun o w1 h => ⟨_, h.1, ⟨t, u, (by rw [h.2]; exact hI), hB, rfl, rfl, rfl, rfl⟩⟩)
theorem B_minutes {m : Nat} (hW : Wq g ad f k fu la gy du w) (h1 : 1 ≤ m) (h2 : m ≤ 10) : zMB g M_Lw_ask [.ref (ad 0), .int 9, .int (nI m), .int 0] w (fun o w1 => ∃ v : Int32, o = .inl (some (.int v)) ∧ Wq g ad f k fu la gy du w1) 1 6 := by
  have hr := hW.ra
  obtain ⟨t, u, hI, hB, rfl, rfl, rfl, rfl⟩ := hW
  exact (K_askd hr 9 (nI m) 0 (by decide) (A_9 hr (nI m) 0 0 0 0 (Qx_Ip_minutesN hI m (by omega) ⟨(nI_leI (a := 1) (by decide) (by omega)).mpr h1, (nI_leI (b := 60) (by omega) (by decide)).mpr (by omega)⟩) (fun v9 w1 h => ⟨_, Sum.inl.inj h.1⟩))).mono (by decide) (by decide) (fun o w1 h => ⟨_, h.1, _, u, h.2, hB.c rfl ⟨rfl, rfl, rfl, rfl, rfl, rfl, rfl, rfl, rfl, rfl, rfl, rfl, rfl⟩ rfl (fun i hi => by
    show (if 0 = 0 ∧ i < u.1 0 then wtV9 (nI m) (t.2 0 i) else t.2 0 i).2.2.2 0 = cnM f
    rw [if_pos ⟨rfl, hi⟩]
    exact hB.mo i hi), rfl, rfl, rfl, rfl⟩)
theorem B_pig (hk : k < 14) (hW : Wq g ad f k fu la gy du w) : zMB g M_Lw_ask [.ref (ad 0), .int 10, .int 0, .int 0] w (fun o w1 => ∃ v : Int32, o = .inl (some (.int v)) ∧ ((la = 0 ∧ v = -200003 ∧ Wq g ad f k fu la gy du w1) ∨ (¬ la = 0 ∧ v = la ∧ (Wq g ad f (k + 1) fu (la - la) (gy + la) du w1 ∨ Wq g ad f (k + 1) fu (la - la) gy (du + la) w1)))) 1 6 := by
  have hr := hW.ra
  obtain ⟨t, u, hI, hB, rfl, rfl, rfl, rfl⟩ := hW
  have hl := hB.la
  have h3 := hB.gy
  have h4 := hB.du
  have hU := hB.up (Nat.le_succ k)
  by_cases he : (t.1 43).1 0 = 0
  · exact (K_askx dX_s dY_s hr 10 0 0 (by decide) (A_10 hr 0 0 0 0 0 (Qx_Ip_pigE hI he) (fun v9 w1 h => nomatch h.1))).mono (by decide) (by decide) (fun o w1 h => ⟨_, h.1, Or.inl ⟨he, rfl, ⟨t, u, (by rw [h.2]; exact hI), hB, rfl, rfl, rfl, rfl⟩⟩⟩)
  · by_cases hw : (t.1 42).1 2 = 0
    · have e : ((t.1 45).1 0 + (t.1 43).1 0).toInt = ((t.1 45).1 0).toInt + ((t.1 43).1 0).toInt := ad32 h3 hl (by decide) (by omega)
      exact (K_askd hr 10 0 0 (by decide) (A_10 hr 0 0 0 0 0 (Qx_Ip_pigN hI he hw) (fun v9 w1 h => ⟨_, Sum.inl.inj h.1⟩))).mono (by decide) (by decide) (fun o w1 h => ⟨_, h.1, Or.inr ⟨he, rfl, Or.inl ⟨_, u, h.2.1, ⟨hB.pf, hB.fu, (show 0 ≤ ((t.1 43).1 0 - (t.1 43).1 0).toInt ∧ ((t.1 43).1 0 - (t.1 43).1 0).toInt ≤ 400 by rw [Int32.sub_self]; decide), (show 0 ≤ ((t.1 45).1 0 + (t.1 43).1 0).toInt ∧ ((t.1 45).1 0 + (t.1 43).1 0).toInt ≤ 400 * ((k + 1 : Nat) : Int) by rw [e]; omega), hU.du, hB.ca, hB.mo, BAL.bc (m := (t.1 43).1 0) hB.bal (by omega) (by omega)⟩, rfl, rfl, rfl, rfl⟩⟩⟩)
    · have e : ((t.1 47).1 0 + (t.1 43).1 0).toInt = ((t.1 47).1 0).toInt + ((t.1 43).1 0).toInt := ad32 h4 hl (by decide) (by omega)
      exact (K_askd hr 10 0 0 (by decide) (A_10 hr 0 0 0 0 0 (Qx_Ip_pigD hI he hw) (fun v9 w1 h => ⟨_, Sum.inl.inj h.1⟩))).mono (by decide) (by decide) (fun o w1 h => ⟨_, h.1, Or.inr ⟨he, rfl, Or.inr ⟨_, u, h.2.1, ⟨hB.pf, hB.fu, (show 0 ≤ ((t.1 43).1 0 - (t.1 43).1 0).toInt ∧ ((t.1 43).1 0 - (t.1 43).1 0).toInt ≤ 400 by rw [Int32.sub_self]; decide), hU.gy, (show 0 ≤ ((t.1 47).1 0 + (t.1 43).1 0).toInt ∧ ((t.1 47).1 0 + (t.1 43).1 0).toInt ≤ 400 * ((k + 1 : Nat) : Int) by rw [e]; omega), hB.ca, hB.mo, BAL.bd (m := (t.1 43).1 0) hB.bal (by omega) (by omega)⟩, rfl, rfl, rfl, rfl⟩⟩⟩)
end
