def ixs (C : Nat → zV) : Nat → Int64
  | 0 => 0
  | i + 1 => ixs C i + ((C i).2.1 0).toInt64
def ixd (C : Nat → zV) : Nat → Int64
  | 0 => 0
  | i + 1 => if (C i).2.1 5 = 1 then ixd C i + ((C i).2.1 0).toInt64 else ixd C i
theorem ixs_cg {C D : Nat → zV} : ∀ i, (∀ j, j < i → (C j).2.1 0 = (D j).2.1 0) → ixs C i = ixs D i
  | 0, _ => rfl
  | i + 1, h => by
    show ixs C i + ((C i).2.1 0).toInt64 = ixs D i + ((D i).2.1 0).toInt64
    rw [ixs_cg i (fun j hj => h j (by omega)), h i (by omega)]
theorem ixd_cg {C D : Nat → zV} : ∀ i, (∀ j, j < i → (C j).2.1 0 = (D j).2.1 0 ∧ ((C j).2.1 5 = 1 ↔ (D j).2.1 5 = 1)) → ixd C i = ixd D i
  | 0, _ => rfl
  | i + 1, h => by
    have e := h i (by omega)
    show (if (C i).2.1 5 = 1 then ixd C i + ((C i).2.1 0).toInt64 else ixd C i) = (if (D i).2.1 5 = 1 then ixd D i + ((D i).2.1 0).toInt64 else ixd D i)
    rw [ixd_cg i (fun j hj => h j (by omega)), e.1]
    by_cases q : (C i).2.1 5 = 1
    · rw [if_pos q, if_pos (e.2.mp q)]
    · rw [if_neg q, if_neg (fun z => q (e.2.mpr z))]
theorem ixd_set {C D : Nat → zV} {k : Nat} (hC : ¬ (C k).2.1 5 = 1) (hD : (D k).2.1 5 = 1) (h0 : (D k).2.1 0 = (C k).2.1 0) (ho : ∀ j, ¬ j = k → D j = C j) : ∀ i, (i ≤ k → ixd D i = ixd C i) ∧ (k < i → ixd D i = ixd C i + ((C k).2.1 0).toInt64)
  | 0 => ⟨fun _ => rfl, fun h => absurd h (Nat.not_lt_zero k)⟩
  | i + 1 => by
    obtain ⟨a, b⟩ := ixd_set hC hD h0 ho i
    refine ⟨fun h => ?_, fun h => ?_⟩
    · show (if (D i).2.1 5 = 1 then ixd D i + ((D i).2.1 0).toInt64 else ixd D i) = (if (C i).2.1 5 = 1 then ixd C i + ((C i).2.1 0).toInt64 else ixd C i)
      rw [ho i (by omega), a (by omega)]
    · show (if (D i).2.1 5 = 1 then ixd D i + ((D i).2.1 0).toInt64 else ixd D i) = (if (C i).2.1 5 = 1 then ixd C i + ((C i).2.1 0).toInt64 else ixd C i) + ((C k).2.1 0).toInt64
      by_cases q : i = k
      · rw [if_pos (show (D i).2.1 5 = 1 by rw [q]; exact hD), if_neg (show ¬ (C i).2.1 5 = 1 by rw [q]; exact hC), a (by omega), q, h0]
      · rw [ho i q]
        by_cases z : (C i).2.1 5 = 1
        · rw [if_pos z, if_pos z, b (by omega), Int64.add_assoc, Int64.add_comm ((C k).2.1 0).toInt64, ← Int64.add_assoc]
        · rw [if_neg z, if_neg z, b (by omega)]
theorem v2_ne {a f : Nat → Int32} {c : (Nat → Int64) × (Nat → Nat)} {i k : Nat} {v : Int32} (h : ¬ k = i) : ((a, upd f i v, c) : zV).2.1 k = f k := upd_ne h
theorem v2_eq {a f : Nat → Int32} {c : (Nat → Int64) × (Nat → Nat)} {i : Nat} {v : Int32} : ((a, upd f i v, c) : zV).2.1 i = v := upd_eq
theorem v1_ne {f : Nat → Int32} {c : (Nat → Int32) × (Nat → Int64) × (Nat → Nat)} {i k : Nat} {v : Int32} (h : ¬ k = i) : ((upd f i v, c) : zV).1 k = f k := upd_ne h
theorem v1_eq {f : Nat → Int32} {c : (Nat → Int32) × (Nat → Int64) × (Nat → Nat)} {i : Nat} {v : Int32} : ((upd f i v, c) : zV).1 i = v := upd_eq
def set5 (C : Nat → zV) (K : Nat) (V : zV) : Nat → zV := fun j => if j = K then V else C j
theorem set5_eq {C : Nat → zV} {K : Nat} {V : zV} : set5 C K V K = V := if_pos rfl
theorem set5_ne {C : Nat → zV} {K j : Nat} {V : zV} (h : ¬ j = K) : set5 C K V j = C j := if_neg h
theorem vup_5 {F : Nat → Nat → zV} {K : Nat} {V : zV} : (vup F 5 K V) 5 = set5 (F 5) K V := funext fun j => by
  show (if 5 = 5 ∧ j = K then V else F 5 j) = (if j = K then V else F 5 j)
  by_cases q : j = K
  · rw [if_pos ⟨rfl, q⟩, if_pos q]
  · rw [if_neg (fun z => q z.2), if_neg q]
def RX (mi : Nat → Int32) (d : Nat → Int64) (C : Nat → zV) (n5 b : Nat) : Prop := (mi 1).toInt ≤ 500 ∧ (0 ≤ (mi 2).toInt ∧ (mi 2).toInt ≤ ((11 * b : Nat) : Int)) ∧ (0 ≤ (mi 3).toInt ∧ (mi 3).toInt ≤ ((11 * b : Nat) : Int)) ∧ (∀ i, i < n5 → 1 ≤ ((C i).2.1 0).toInt ∧ ((C i).2.1 0).toInt ≤ 500) ∧ d 0 = ixs C n5 ∧ d 1 = ixd C n5
def REX (t : zTT) (n : Nat → Nat) (b : Nat) : Prop := RX (t.1 63).1 (t.1 52).2.1 (t.2 5) (n 5) b
def REY (t : zTT) (n : Nat → Nat) (b : Nat) : Prop := REL t n b ∧ REX t n b
theorem RX.up {mi : Nat → Int32} {d : Nat → Int64} {C : Nat → zV} {n5 b c : Nat} (h : RX mi d C n5 b) (e : b ≤ c) : RX mi d C n5 c := ⟨h.1, ⟨h.2.1.1, by have := h.2.1.2; omega⟩, ⟨h.2.2.1.1, by have := h.2.2.1.2; omega⟩, h.2.2.2⟩
theorem REX.up {t : zTT} {n : Nat → Nat} {b c : Nat} (h : REX t n b) (e : b ≤ c) : REX t n c := RX.up h e
theorem REY.up {t : zTT} {n : Nat → Nat} {b c : Nat} (h : REY t n b) (e : b ≤ c) : REY t n c := ⟨h.1.up e, h.2.up e⟩
theorem REY.n {t : zTT} {n m : Nat → Nat} {b : Nat} (h : REY t n b) (e : m = n) : REY t m b := by
  subst e
  exact h
def NEC (t T : zTT) : Prop := T.1 52 = t.1 52 ∧ T.1 63 = t.1 63 ∧ T.2 5 = t.2 5
def NEM (t T : zTT) : Prop := (T.1 52).2.1 = (t.1 52).2.1 ∧ (T.1 63).1 = (t.1 63).1 ∧ T.2 5 = t.2 5
theorem REX.c {t T : zTT} {n n1 : Nat → Nat} {b : Nat} (h : REX t n b) (k : NEC t T) (e : n1 5 = n 5) : REX T n1 b := by
  unfold REX at h ⊢
  rw [k.1, k.2.1, k.2.2, e]
  exact h
theorem REX.m {t T : zTT} {n n1 : Nat → Nat} {b : Nat} (h : REX t n b) (k : NEM t T) (e : n1 5 = n 5) : REX T n1 b := by
  unfold REX at h ⊢
  rw [k.1, k.2.1, k.2.2, e]
  exact h
theorem RX.u0 {mi : Nat → Int32} {d : Nat → Int64} {C : Nat → zV} {n5 b : Nat} {x : Int32} (h : RX mi d C n5 b) : RX (upd mi 0 x) d C n5 b := by
  unfold RX
  rw [upd_ne (by decide), upd_ne (by decide), upd_ne (by decide)]
  exact h
theorem RX.dn2 {mi : Nat → Int32} {d : Nat → Int64} {C : Nat → zV} {n5 b : Nat} {m : Int32} (h : RX mi d C n5 b) (hm : 1 ≤ m.toInt) (hf : ¬ mi 2 < m) : RX (mvN mi 2 0 m) d C n5 b := by
  have g := h.2.1
  rw [Int32.lt_iff_toInt_lt] at hf
  have e : (mi 2 - m).toInt = (mi 2).toInt - m.toInt := by
    have h9 := Int32.toInt_lt (mi 2)
    rw [Int32.toInt_sub]
    exact bm32 (by omega) (by omega)
  unfold RX
  rw [mvN_ot (p := 1) (by decide) (by decide), mvN_fr (show ¬ 2 = 0 by decide), mvN_ot (p := 3) (by decide) (by decide), e]
  exact ⟨h.1, ⟨by omega, by omega⟩, h.2.2.1, h.2.2.2⟩
theorem RX.pl2 {mi : Nat → Int32} {d : Nat → Int64} {C : Nat → zV} {n5 b : Nat} {x : Int32} (hb : b ≤ 100000) (h : RX mi d C n5 b) (hx : 1 ≤ x.toInt ∧ x.toInt ≤ 500) : RX (upd mi 2 (mi 2 + x)) d C n5 (b + 48) := by
  have g := h.2.1
  have e : (mi 2 + x).toInt = (mi 2).toInt + x.toInt := by rw [Int32.toInt_add]; exact bm32 (by omega) (by omega)
  have h' := h.up (show b ≤ b + 48 by omega)
  unfold RX
  rw [upd_eq, upd_ne (show ¬ 1 = 2 by decide), upd_ne (show ¬ 3 = 2 by decide), e]
  exact ⟨h'.1, ⟨by omega, by omega⟩, h'.2.2.1, h'.2.2.2⟩
theorem RX.pg2 {mi : Nat → Int32} {d : Nat → Int64} {C : Nat → zV} {n5 b : Nat} (hb : b ≤ 100000) (h : RX mi d C n5 b) (h0 : 0 ≤ (mi 1).toInt) : RX (mvN mi 1 2 (mi 1)) d C n5 (b + 48) := by
  have g := h.2.1
  have g1 := h.1
  have e : (mi 2 + mi 1).toInt = (mi 2).toInt + (mi 1).toInt := by rw [Int32.toInt_add]; exact bm32 (by omega) (by omega)
  have h' := h.up (show b ≤ b + 48 by omega)
  unfold RX
  rw [mvN_fr (show ¬ 1 = 2 by decide), mvN_to (show ¬ 1 = 2 by decide), mvN_ot (p := 3) (by decide) (by decide), e, Int32.sub_self]
  exact ⟨by decide, ⟨by omega, by omega⟩, h'.2.2.1, h'.2.2.2⟩
theorem RX.dn3 {mi : Nat → Int32} {d : Nat → Int64} {C : Nat → zV} {n5 b : Nat} {m : Int32} (h : RX mi d C n5 b) (hm : 1 ≤ m.toInt) (hf : ¬ mi 3 < m) : RX (mvN mi 3 0 m) d C n5 b := by
  have g := h.2.2.1
  rw [Int32.lt_iff_toInt_lt] at hf
  have e : (mi 3 - m).toInt = (mi 3).toInt - m.toInt := by
    have h9 := Int32.toInt_lt (mi 3)
    rw [Int32.toInt_sub]
    exact bm32 (by omega) (by omega)
  unfold RX
  rw [mvN_ot (p := 1) (by decide) (by decide), mvN_fr (show ¬ 3 = 0 by decide), mvN_ot (p := 2) (by decide) (by decide), e]
  exact ⟨h.1, h.2.1, ⟨by omega, by omega⟩, h.2.2.2⟩
theorem RX.pl3 {mi : Nat → Int32} {d : Nat → Int64} {C : Nat → zV} {n5 b : Nat} {x : Int32} (hb : b ≤ 100000) (h : RX mi d C n5 b) (hx : 1 ≤ x.toInt ∧ x.toInt ≤ 500) : RX (upd mi 3 (mi 3 + x)) d C n5 (b + 48) := by
  have g := h.2.2.1
  have e : (mi 3 + x).toInt = (mi 3).toInt + x.toInt := by rw [Int32.toInt_add]; exact bm32 (by omega) (by omega)
  have h' := h.up (show b ≤ b + 48 by omega)
  unfold RX
  rw [upd_eq, upd_ne (show ¬ 1 = 3 by decide), upd_ne (show ¬ 2 = 3 by decide), e]
  exact ⟨h'.1, h'.2.1, ⟨by omega, by omega⟩, h'.2.2.2⟩
theorem RX.pg3 {mi : Nat → Int32} {d : Nat → Int64} {C : Nat → zV} {n5 b : Nat} (hb : b ≤ 100000) (h : RX mi d C n5 b) (h0 : 0 ≤ (mi 1).toInt) : RX (mvN mi 1 3 (mi 1)) d C n5 (b + 48) := by
  have g := h.2.2.1
  have g1 := h.1
  have e : (mi 3 + mi 1).toInt = (mi 3).toInt + (mi 1).toInt := by rw [Int32.toInt_add]; exact bm32 (by omega) (by omega)
  have h' := h.up (show b ≤ b + 48 by omega)
  unfold RX
  rw [mvN_fr (show ¬ 1 = 3 by decide), mvN_to (show ¬ 1 = 3 by decide), mvN_ot (p := 2) (by decide) (by decide), e, Int32.sub_self]
  exact ⟨by decide, h'.2.1, ⟨by omega, by omega⟩, h'.2.2.2⟩
theorem RX.tp {mi : Nat → Int32} {d : Nat → Int64} {C : Nat → zV} {n5 b : Nat} {m : Int32} (h : RX mi d C n5 b) (hm : 1 ≤ m ∧ m ≤ 500) (h1 : mi 1 ≤ 0) (h0 : 0 ≤ (mi 1).toInt) : RX (mvN mi 0 1 m) d C n5 b := by
  have m1 := hm.1
  have m2 := hm.2
  rw [Int32.le_iff_toInt_le, show (1 : Int32).toInt = 1 from rfl] at m1
  rw [Int32.le_iff_toInt_le, show (500 : Int32).toInt = 500 from rfl] at m2
  rw [Int32.le_iff_toInt_le, show (0 : Int32).toInt = 0 from rfl] at h1
  have e : (mi 1 + m).toInt = (mi 1).toInt + m.toInt := by rw [Int32.toInt_add]; exact bm32 (by omega) (by omega)
  unfold RX
  rw [mvN_to (show ¬ 0 = 1 by decide), mvN_ot (p := 2) (by decide) (by decide), mvN_ot (p := 3) (by decide) (by decide), e]
  exact ⟨by omega, h.2⟩
theorem RX.st {mi : Nat → Int32} {d : Nat → Int64} {C : Nat → zV} {n5 b : Nat} {K : Nat} {V : zV} (h : RX mi d C n5 b) (h0 : V.2.1 0 = (C K).2.1 0) (h5 : V.2.1 5 = 1 ↔ (C K).2.1 5 = 1) : RX mi d (set5 C K V) n5 b := by
  have k0 : ∀ j, (set5 C K V j).2.1 0 = (C j).2.1 0 := fun j => by
    by_cases q : j = K
    · rw [q, set5_eq, h0]
    · rw [set5_ne q]
  have k5 : ∀ j, (set5 C K V j).2.1 5 = 1 ↔ (C j).2.1 5 = 1 := fun j => by
    by_cases q : j = K
    · rw [q, set5_eq]; exact h5
    · rw [set5_ne q]
  refine ⟨h.1, h.2.1, h.2.2.1, fun i hi => ?_, ?_, ?_⟩
  · rw [k0]
    exact h.2.2.2.1 i hi
  · rw [ixs_cg (D := C) n5 (fun j _ => k0 j)]
    exact h.2.2.2.2.1
  · rw [ixd_cg (D := C) n5 (fun j _ => ⟨k0 j, k5 j⟩)]
    exact h.2.2.2.2.2
theorem RX.dl {mi : Nat → Int32} {d : Nat → Int64} {C : Nat → zV} {n5 b : Nat} {K : Nat} {V : zV} (h : RX mi d C n5 b) (hK : K < n5) (h0 : V.2.1 0 = (C K).2.1 0) (h5 : V.2.1 5 = 1) (hC : ¬ (C K).2.1 5 = 1) : RX mi (vp_updL d 1 (d 1 + ((C K).2.1 0).toInt64)) (set5 C K V) n5 b := by
  have k0 : ∀ j, (set5 C K V j).2.1 0 = (C j).2.1 0 := fun j => by
    by_cases q : j = K
    · rw [q, set5_eq, h0]
    · rw [set5_ne q]
  refine ⟨h.1, h.2.1, h.2.2.1, fun i hi => ?_, ?_, ?_⟩
  · rw [k0]
    exact h.2.2.2.1 i hi
  · rw [updL_ne (by decide), ixs_cg (D := C) n5 (fun j _ => k0 j)]
    exact h.2.2.2.2.1
  · rw [updL_eq, (ixd_set (C := C) (D := set5 C K V) (k := K) hC (by rw [set5_eq]; exact h5) (by rw [set5_eq]; exact h0) (fun j hj => set5_ne hj) n5).2 hK, h.2.2.2.2.2]
theorem RX.po {mi : Nat → Int32} {d : Nat → Int64} {C : Nat → zV} {n5 b : Nat} {k : Int32} {V : zV} (h : RX mi d C n5 b) (hk : 1 ≤ k.toInt ∧ k.toInt ≤ (mi 1).toInt) (h0 : V.2.1 0 = k) (h5 : V.2.1 5 = 0) : RX (upd mi 1 (mi 1 - k)) (vp_updL d 0 (d 0 + k.toInt64)) (z_apV C n5 V) (n5 + 1) b := by
  have g := h.1
  have e : (mi 1 - k).toInt = (mi 1).toInt - k.toInt := by rw [Int32.toInt_sub]; exact bm32 (by omega) (by omega)
  have hn : z_apV C n5 V n5 = V := if_pos rfl
  have ho : ∀ j, j < n5 → z_apV C n5 V j = C j := fun j hj => if_neg (by omega)
  refine ⟨by rw [upd_eq, e]; omega, by rw [upd_ne (by decide)]; exact h.2.1, by rw [upd_ne (by decide)]; exact h.2.2.1, fun i hi => ?_, ?_, ?_⟩
  · by_cases q : i = n5
    · rw [q, hn, h0]
      omega
    · rw [ho i (by omega)]
      exact h.2.2.2.1 i (by omega)
  · show vp_updL d 0 (d 0 + k.toInt64) 0 = ixs (z_apV C n5 V) n5 + ((z_apV C n5 V n5).2.1 0).toInt64
    rw [updL_eq, hn, h0, ixs_cg (D := C) n5 (fun j hj => by rw [ho j hj]), h.2.2.2.2.1]
  · show vp_updL d 0 (d 0 + k.toInt64) 1 = (if (z_apV C n5 V n5).2.1 5 = 1 then ixd (z_apV C n5 V) n5 + ((z_apV C n5 V n5).2.1 0).toInt64 else ixd (z_apV C n5 V) n5)
    rw [updL_ne (by decide), hn, if_neg (by rw [h5]; decide), ixd_cg (D := C) n5 (fun j hj => by rw [ho j hj]; exact ⟨rfl, Iff.rfl⟩), h.2.2.2.2.2]
set_option maxHeartbeats 4000000 in
theorem NEC_draw {t : zTT} (k x y p q : Int32) : NEC t (tK_Ip_draw k x y p q t) := by
  unfold tK_Ip_draw
  repeat' split
  all_goals exact ⟨rfl, rfl, rfl⟩
set_option maxHeartbeats 4000000 in
theorem NEC_part {t : zTT} (r : Int32) : NEC t (tK_Ip_part r t) := by
  unfold tK_Ip_part
  repeat' split
  all_goals exact ⟨rfl, rfl, rfl⟩
set_option maxHeartbeats 4000000 in
theorem NEC_mill {t : zTT} (m1 m2 m3 m4 : Int32) : NEC t (tK_Ip_mill m1 m2 m3 m4 t) := by
  unfold tK_Ip_mill
  repeat' split
  all_goals exact ⟨rfl, rfl, rfl⟩
set_option maxHeartbeats 4000000 in
theorem NEC_makeCores {t : zTT} (c k : Int32) : NEC t (tK_Ip_makeCores c k t) := by
  unfold tK_Ip_makeCores
  repeat' split
  all_goals exact ⟨rfl, rfl, rfl⟩
set_option maxHeartbeats 4000000 in
theorem NEC_hours {t : zTT} (x : Int32) : NEC t (tK_Ip_hours x t) := by
  unfold tK_Ip_hours
  repeat' split
  all_goals exact ⟨rfl, rfl, rfl⟩
set_option maxHeartbeats 4000000 in
theorem NEC_charge {t : zTT} (k m : Int32) : NEC t (tK_Ip_charge k m t) := by
  unfold tK_Ip_charge
  repeat' split
  all_goals exact ⟨rfl, rfl, rfl⟩
set_option maxHeartbeats 4000000 in
theorem NEC_hold {t : zTT} (x : Int32) : NEC t (tK_Ip_hold x t) := by
  unfold tK_Ip_hold
  repeat' split
  all_goals exact ⟨rfl, rfl, rfl⟩
set_option maxHeartbeats 4000000 in
theorem NEC_tap {t : zTT} (m : Int32) : NEC t (tK_Ip_tap m t) := by
  unfold tK_Ip_tap
  repeat' split
  all_goals exact ⟨rfl, rfl, rfl⟩
set_option maxHeartbeats 4000000 in
theorem NEC_treat {t : zTT} (m : Int32) : NEC t (tK_Ip_treat m t) := by
  unfold tK_Ip_treat
  repeat' split
  all_goals exact ⟨rfl, rfl, rfl⟩
set_option maxHeartbeats 4000000 in
theorem NEC_pig {t : zTT} : NEC t (tK_Ip_pig t) := by
  unfold tK_Ip_pig
  repeat' split
  all_goals exact ⟨rfl, rfl, rfl⟩
set_option maxHeartbeats 4000000 in
theorem NEC_leastCost {t : zTT} (x1 x2 x3 x4 x5 x6 : Int32) : NEC t (tK_Ip_leastCost x1 x2 x3 x4 x5 x6 t) := by
  unfold tK_Ip_leastCost
  repeat' split
  all_goals exact ⟨rfl, rfl, rfl⟩
set_option maxHeartbeats 4000000 in
theorem NEC_minutes {t : zTT} {n : Nat → Nat} (x : Int32) : NEC t (tK_Ip_minutes x t n) := by
  unfold tK_Ip_minutes
  repeat' split
  all_goals exact ⟨rfl, rfl, rfl⟩
set_option maxHeartbeats 4000000 in
theorem NEC_mould {t : zTT} {n : Nat → Nat} : NEC t (tK_Ip_mould t n) := by
  unfold tK_Ip_mould
  repeat' split
  all_goals exact ⟨rfl, rfl, rfl⟩
set_option maxHeartbeats 4000000 in
theorem NEC_pour {t : zTT} {n : Nat → Nat} {X9 : zTr} : NEC t (tK_Ip_pour X9 t n) := by
  unfold tK_Ip_pour
  repeat' split
  all_goals exact ⟨rfl, rfl, rfl⟩
set_option maxHeartbeats 4000000 in
theorem NEC_weld {t : zTT} {n : Nat → Nat} (x : Int32) : NEC t (tK_Ip_weld x t n) := by
  unfold tK_Ip_weld
  repeat' split
  all_goals exact ⟨rfl, rfl, rfl⟩
set_option maxHeartbeats 4000000 in
theorem NEC_deliver {t : zTT} {n : Nat → Nat} (x : Int32) : NEC t (tK_Ip_deliver x t n) := by
  unfold tK_Ip_deliver
  repeat' split
  all_goals exact ⟨rfl, rfl, rfl⟩
set_option maxHeartbeats 4000000 in
theorem NEC_breakUp {t : zTT} {n : Nat → Nat} (x : Int32) : NEC t (tK_Ip_breakUp x t n) := by
  unfold tK_Ip_breakUp
  repeat' split
  all_goals exact ⟨rfl, rfl, rfl⟩
set_option maxHeartbeats 4000000 in
theorem NEM_draw {t : zTT} (k x y p q : Int32) : NEM t (tK_Mm_draw k x y p q t) := by
  unfold tK_Mm_draw
  repeat' split
  all_goals exact ⟨rfl, rfl, rfl⟩
set_option maxHeartbeats 4000000 in
theorem NEM_part {t : zTT} (r : Int32) : NEM t (tK_Mm_part r t) := by
  unfold tK_Mm_part
  repeat' split
  all_goals exact ⟨rfl, rfl, rfl⟩
set_option maxHeartbeats 4000000 in
theorem NEM_mill {t : zTT} (m1 m2 m3 m4 : Int32) : NEM t (tK_Mm_mill m1 m2 m3 m4 t) := by
  unfold tK_Mm_mill
  repeat' split
  all_goals exact ⟨rfl, rfl, rfl⟩
set_option maxHeartbeats 4000000 in
theorem NEM_makeCores {t : zTT} {n : Nat → Nat} (c k : Int32) : NEM t (tK_Mm_makeCores c k t n) := by
  unfold tK_Mm_makeCores
  repeat' split
  all_goals exact ⟨rfl, rfl, rfl⟩
set_option maxHeartbeats 4000000 in
theorem NEM_hours {t : zTT} {n : Nat → Nat} (x : Int32) : NEM t (tK_Mm_hours x t n) := by
  unfold tK_Mm_hours
  repeat' split
  all_goals exact ⟨rfl, rfl, rfl⟩
set_option maxHeartbeats 4000000 in
theorem NEM_hold {t : zTT} (x : Int32) : NEM t (tK_Mm_hold x t) := by
  unfold tK_Mm_hold
  repeat' split
  all_goals exact ⟨rfl, rfl, rfl⟩
set_option maxHeartbeats 4000000 in
theorem NEM_treat {t : zTT} (m : Int32) : NEM t (tK_Mm_treat m t) := by
  unfold tK_Mm_treat
  repeat' split
  all_goals exact ⟨rfl, rfl, rfl⟩
set_option maxHeartbeats 4000000 in
theorem NEM_leastCost {t : zTT} (x1 x2 x3 x4 x5 x6 : Int32) : NEM t (tK_Mm_leastCost x1 x2 x3 x4 x5 x6 t) := by
  unfold tK_Mm_leastCost
  repeat' split
  all_goals exact ⟨rfl, rfl, rfl⟩
set_option maxHeartbeats 4000000 in
theorem NEM_minutes {t : zTT} {n : Nat → Nat} (x : Int32) : NEM t (tK_Mm_minutes x t n) := by
  unfold tK_Mm_minutes
  repeat' split
  all_goals exact ⟨rfl, rfl, rfl⟩
set_option maxHeartbeats 4000000 in
theorem NEM_mould {t : zTT} {n : Nat → Nat} : NEM t (tK_Mm_mould t n) := by
  unfold tK_Mm_mould
  repeat' split
  all_goals exact ⟨rfl, rfl, rfl⟩
theorem n5_Mm_makeCores {t : zTT} {n : Nat → Nat} (c k : Int32) : nK_Mm_makeCores c k t n 5 = n 5 := by
  unfold nK_Mm_makeCores
  repeat' split
  all_goals rfl
theorem n5_Mm_hours {t : zTT} {n : Nat → Nat} (x : Int32) : nK_Mm_hours x t n 5 = n 5 := by
  unfold nK_Mm_hours
  repeat' split
  all_goals rfl
theorem n5_Ip_mould {t : zTT} {n : Nat → Nat} : nK_Ip_mould t n 5 = n 5 := by
  unfold nK_Ip_mould
  repeat' split
  all_goals rfl
theorem n5_Mm_mould {t : zTT} {n : Nat → Nat} : nK_Mm_mould t n 5 = n 5 := by
  unfold nK_Mm_mould
  repeat' split
  all_goals rfl
theorem n5_Ip_pour {t : zTT} {n : Nat → Nat} : nK_Ip_pour t n 5 = n 5 := by
  unfold nK_Ip_pour
  repeat' split
  all_goals rfl
theorem RXM_charge {T : zTT} {n : Nat → Nat} {b : Nat} (k m : Int32) (h : REX T n b) : REX (tK_Mm_charge k m T) n b := by
  unfold tK_Mm_charge
  by_cases hw : 0 ≤ z_ix 1 k ∧ (1 ≤ m ∧ m ≤ 1000)
  · rw [if_pos hw]
    have hm1 := hw.2.1
    rw [Int32.le_iff_toInt_le, show (1 : Int32).toInt = 1 from rfl] at hm1
    have hu : ∀ x, RX (upd (T.1 63).1 0 x) (T.1 52).2.1 (T.2 5) (n 5) b := fun x => RX.u0 h
    by_cases a1 : k = 112
    · rw [if_pos a1]
      by_cases g : 3000 < (T.1 63).1 0 + m
      · rw [if_pos g]; exact h
      · rw [if_neg g]; exact hu _
    · rw [if_neg a1]
      by_cases a2 : k = 115
      · rw [if_pos a2]
        by_cases g : 3000 < (T.1 63).1 0 + m
        · rw [if_pos g]; exact h
        · rw [if_neg g]; exact hu _
      · rw [if_neg a2]
        by_cases a3 : k = 102
        · rw [if_pos a3]
          by_cases g : 3000 < (T.1 63).1 0 + m
          · rw [if_pos g]; exact h
          · rw [if_neg g]; exact hu _
        · rw [if_neg a3]
          by_cases a4 : k = 107
          · rw [if_pos a4]; exact hu _
          · rw [if_neg a4]
            by_cases a5 : k = 103
            · rw [if_pos a5]
              by_cases hf : (T.1 63).1 2 < m
              · rw [if_pos hf]; exact h
              · rw [if_neg hf]
                by_cases g : 3000 < (T.1 63).1 0 + m
                · rw [if_pos g]; exact h
                · rw [if_neg g]
                  exact (RX.dn2 h hm1 hf : RX (mvN (T.1 63).1 2 0 m) (T.1 52).2.1 (T.2 5) (n 5) b)
            · rw [if_neg a5]
              by_cases hf : (T.1 63).1 3 < m
              · rw [if_pos hf]; exact h
              · rw [if_neg hf]
                by_cases g : 3000 < (T.1 63).1 0 + m
                · rw [if_pos g]; exact h
                · rw [if_neg g]
                  exact (RX.dn3 h hm1 hf : RX (mvN (T.1 63).1 3 0 m) (T.1 52).2.1 (T.2 5) (n 5) b)
  · rw [if_neg hw]; exact h
theorem RXM_tap {T : zTT} {n : Nat → Nat} {b : Nat} (m : Int32) (h0 : 0 ≤ ((T.1 63).1 1).toInt) (h : REX T n b) : REX (tK_Mm_tap m T) n b := by
  unfold tK_Mm_tap
  by_cases hw : 1 ≤ m ∧ m ≤ 500
  · rw [if_pos hw]
    by_cases h1 : (T.1 63).1 1 ≤ 0
    · rw [if_pos h1]
      by_cases g : (T.1 63).1 0 < m
      · rw [if_pos g]; exact h
      · rw [if_neg g]
        exact (RX.tp h hw h1 h0 : RX (mvN (T.1 63).1 0 1 m) (T.1 52).2.1 (T.2 5) (n 5) b)
    · rw [if_neg h1]; exact h
  · rw [if_neg hw]; exact h
theorem RXM_pig {T : zTT} {n : Nat → Nat} {b : Nat} (hb : b ≤ 100000) (h0 : 0 ≤ ((T.1 63).1 1).toInt) (h : REX T n b) : REX (tK_Mm_pig T) n (b + 48) := by
  unfold tK_Mm_pig
  by_cases h1 : (T.1 63).1 1 = 0
  · rw [if_pos h1]; exact h.up (by omega)
  · rw [if_neg h1]
    by_cases hw : (T.1 52).1 8 = 0
    · rw [if_pos hw]
      exact (RX.pg2 hb h h0 : RX (mvN (T.1 63).1 1 2 ((T.1 63).1 1)) (T.1 52).2.1 (T.2 5) (n 5) (b + 48))
    · rw [if_neg hw]
      exact (RX.pg3 hb h h0 : RX (mvN (T.1 63).1 1 3 ((T.1 63).1 1)) (T.1 52).2.1 (T.2 5) (n 5) (b + 48))
theorem RXM_weld {T : zTT} {n : Nat → Nat} {b : Nat} (x : Int32) (h : REX T n b) : REX (tK_Mm_weld x T n) n b := by
  unfold tK_Mm_weld
  by_cases hx : x.toNatClampNeg < n 5 ∧ x = nI x.toNatClampNeg
  · rw [if_pos hx]
    by_cases h12 : ¬ (T.2 5 x.toNatClampNeg).2.1 4 = 1 ∧ (T.2 5 x.toNatClampNeg).2.1 2 &&& 32 = 0
    · rw [if_pos h12]
      by_cases h3 : (T.2 5 x.toNatClampNeg).2.1 5 = 0
      · rw [if_pos h3]
        show RX (T.1 63).1 (T.1 52).2.1 ((vup T.2 5 x.toNatClampNeg ((T.2 5 x.toNatClampNeg).1, upd ((T.2 5 x.toNatClampNeg).2.1) 2 ((T.2 5 x.toNatClampNeg).2.1 2 &&& (-5)), (T.2 5 x.toNatClampNeg).2.2)) 5) (n 5) b
        rw [vup_5]
        exact RX.st h (v2_ne (by decide)) (by rw [v2_ne (show ¬ (5 : Nat) = 2 by decide)])
      · rw [if_neg h3]; exact h
    · rw [if_neg h12]; exact h
  · rw [if_neg hx]; exact h
theorem RXM_deliver {T : zTT} {n : Nat → Nat} {b : Nat} (x : Int32) (h : REX T n b) : REX (tK_Mm_deliver x T n) n b := by
  unfold tK_Mm_deliver
  by_cases hx : x.toNatClampNeg < n 5 ∧ x = nI x.toNatClampNeg
  · rw [if_pos hx]
    by_cases h3 : (T.2 5 x.toNatClampNeg).2.1 5 = 0
    · rw [if_pos h3]
      by_cases h2 : (T.2 5 x.toNatClampNeg).2.1 2 = 0
      · rw [if_pos h2]
        show RX (T.1 63).1 (vp_updL (T.1 52).2.1 1 ((T.1 52).2.1 1 + ((T.2 5 x.toNatClampNeg).2.1 0).toInt64)) ((vup T.2 5 x.toNatClampNeg ((T.2 5 x.toNatClampNeg).1, upd ((T.2 5 x.toNatClampNeg).2.1) 5 1, (T.2 5 x.toNatClampNeg).2.2)) 5) (n 5) b
        rw [vup_5]
        exact RX.dl h hx.1 (v2_ne (by decide)) v2_eq (by rw [h3]; decide)
      · rw [if_neg h2]; exact h
    · rw [if_neg h3]; exact h
  · rw [if_neg hx]; exact h
theorem RXM_bu {T : zTT} {n : Nat → Nat} {b k to : Nat} (hb : b ≤ 100000) (hk : k < n 5) (ht : to = 2 ∨ to = 3) (h3 : (T.2 5 k).2.1 5 = 0) (h : REX T n b) : REX (buT T k to 4) n (b + 48) := by
  show RX (upd (T.1 63).1 to ((T.1 63).1 to + (T.2 5 k).2.1 0)) (T.1 52).2.1 ((vup T.2 5 k ((T.2 5 k).1, upd ((T.2 5 k).2.1) 5 2, (T.2 5 k).2.2)) 5) (n 5) (b + 48)
  rw [vup_5]
  have hs : RX (T.1 63).1 (T.1 52).2.1 (set5 (T.2 5) k ((T.2 5 k).1, upd ((T.2 5 k).2.1) 5 2, (T.2 5 k).2.2)) (n 5) b := RX.st h (v2_ne (by decide)) (by rw [v2_eq, h3]; decide)
  have hi := h.2.2.2.1 k hk
  rcases ht with rfl | rfl
  · exact RX.pl2 hb hs hi
  · exact RX.pl3 hb hs hi
theorem RXM_breakUp {T : zTT} {n : Nat → Nat} {b : Nat} (hb : b ≤ 100000) (x : Int32) (h : REX T n b) : REX (tK_Mm_breakUp x T n) n (b + 48) := by
  unfold tK_Mm_breakUp
  by_cases hx : x.toNatClampNeg < n 5 ∧ x = nI x.toNatClampNeg
  · rw [if_pos hx]
    by_cases h3 : (T.2 5 x.toNatClampNeg).2.1 5 = 0
    · rw [if_pos h3]
      by_cases h4 : (T.2 5 x.toNatClampNeg).2.1 4 = 1
      · rw [if_pos h4]
        exact RXM_bu hb hx.1 (Or.inr rfl) h3 h
      · rw [if_neg h4]
        exact RXM_bu hb hx.1 (Or.inl rfl) h3 h
    · rw [if_neg h3]; exact h.up (by omega)
  · rw [if_neg hx]; exact h.up (by omega)
theorem ptk_b {T : zTT} (hg : ¬ fa_cnt (fun k => decide ((T.2 3 0).2.1 k = 103)) 12 = 0) (h0 : 0 ≤ ((T.1 63).1 1).toInt) (h1 : ¬ (T.1 63).1 1 = 0) : 1 ≤ (ptk T).toInt ∧ (ptk T).toInt ≤ ((T.1 63).1 1).toInt := by
  have hc := cnt_pos hg
  have hl := fa_cnt_le (fun k => tmB ((T.2 3 0).2.1 k)) 108
  have h9 : ¬ ((T.1 63).1 1).toInt = 0 := fun q => h1 (Int32.toInt_inj.mp (by rw [show (0 : Int32).toInt = 0 from rfl]; exact q))
  have e : (nI (2 * fa_cnt (fun k => tmB ((T.2 3 0).2.1 k)) 108)).toInt = ((2 * fa_cnt (fun k => tmB ((T.2 3 0).2.1 k)) 108 : Nat) : Int) := nI_toInt (by omega)
  unfold ptk
  by_cases q : (T.1 63).1 1 < nI (2 * fa_cnt (fun k => tmB ((T.2 3 0).2.1 k)) 108)
  · rw [if_pos q]
    omega
  · rw [if_neg q]
    rw [Int32.lt_iff_toInt_lt] at q
    omega
theorem RXM_pour {T : zTT} {n : Nat → Nat} {b : Nat} {S9 : zSC} (hx : ¬ n 3 = 0 → ¬ fa_cnt (fun k => decide ((T.2 3 0).2.1 k = 103)) 12 = 0) (h0 : 0 ≤ ((T.1 63).1 1).toInt) (h : REX T n b) : REX (tK_Mm_pour S9 T n) (nK_Mm_pour T n) b := by
  unfold tK_Mm_pour nK_Mm_pour
  by_cases g0 : ¬ n 3 = 0
  · by_cases g1 : ¬ (T.1 63).1 1 = 0 ∧ 1250 ≤ (T.1 52).1 6
    · by_cases g2 : ¬ n 5 = 30
      · rw [if_pos g0, if_pos g1, if_pos g2, if_pos g0, if_pos g1, if_pos g2]
        show RX (upd (T.1 63).1 1 ((T.1 63).1 1 - ptk T)) (vp_updL (T.1 52).2.1 0 ((T.1 52).2.1 0 + (ptk T).toInt64)) (z_apV (T.2 5) (n 5) (pcv9 T (pShS T S9) (pFbS T S9))) (n 5 + 1) b
        exact RX.po h (ptk_b (hx g0) h0 g1.1) (pcv_0 _ _ _) (pcv_5 _ _ _)
      · rw [if_pos g0, if_pos g1, if_neg g2, if_pos g0, if_pos g1, if_neg g2]
        exact h
    · rw [if_pos g0, if_neg g1, if_pos g0, if_neg g1]
      exact h
  · rw [if_neg g0, if_neg g0]
    exact h
theorem RY_draw {t : zTT} {n n1 n2 : Nat → Nat} {b : Nat} (hb : b ≤ 100000) (k x y p q : Int32) (h : REY t n b) (e1 : n1 = n) (e2 : n2 = n1) : REY (tK_Mm_draw k x y p q (tK_Ip_draw k x y p q t)) n2 (b + 48) := ⟨(R_draw k x y p q h.1 e1 e2).up (by omega), ((h.2.c (n1 := n1) (NEC_draw k x y p q) (by rw [e1])).m (n1 := n2) (NEM_draw k x y p q) (by rw [e2])).up (by omega)⟩
theorem RY_part {t : zTT} {n n1 n2 : Nat → Nat} {b : Nat} (hb : b ≤ 100000) (r : Int32) (h : REY t n b) (e1 : n1 = n) (e2 : n2 = n1) : REY (tK_Mm_part r (tK_Ip_part r t)) n2 (b + 48) := ⟨(R_part r h.1 e1 e2).up (by omega), ((h.2.c (n1 := n1) (NEC_part r) (by rw [e1])).m (n1 := n2) (NEM_part r) (by rw [e2])).up (by omega)⟩
theorem RY_mill {t : zTT} {n n1 n2 : Nat → Nat} {b : Nat} (hb : b ≤ 100000) (m1 m2 m3 m4 : Int32) (h : REY t n b) (e1 : n1 = n) (e2 : n2 = n1) : REY (tK_Mm_mill m1 m2 m3 m4 (tK_Ip_mill m1 m2 m3 m4 t)) n2 (b + 48) := ⟨(R_mill m1 m2 m3 m4 h.1 e1 e2).up (by omega), ((h.2.c (n1 := n1) (NEC_mill m1 m2 m3 m4) (by rw [e1])).m (n1 := n2) (NEM_mill m1 m2 m3 m4) (by rw [e2])).up (by omega)⟩
theorem RY_makeCores {t : zTT} {n n1 n2 : Nat → Nat} {b : Nat} (hb : b ≤ 100000) (c k : Int32) (h : REY t n b) (e1 : n1 = n) (e2 : n2 = nK_Mm_makeCores c k (tK_Ip_makeCores c k t) n1) : REY (tK_Mm_makeCores c k (tK_Ip_makeCores c k t) n1) n2 (b + 48) := ⟨(R_makeCores hb c k h.1 e1 e2).up (by omega), ((h.2.c (n1 := n1) (NEC_makeCores c k) (by rw [e1])).m (n1 := n2) (NEM_makeCores (n := n1) c k) (by rw [e2]; exact n5_Mm_makeCores _ _)).up (by omega)⟩
theorem RY_hours {t : zTT} {n n1 n2 : Nat → Nat} {b : Nat} (hb : b ≤ 100000) (x : Int32) (h : REY t n b) (e1 : n1 = n) (e2 : n2 = nK_Mm_hours x (tK_Ip_hours x t) n1) : REY (tK_Mm_hours x (tK_Ip_hours x t) n1) n2 (b + 48) := ⟨(R_hours hb x h.1 e1 e2), ((h.2.c (n1 := n1) (NEC_hours x) (by rw [e1])).m (n1 := n2) (NEM_hours (n := n1) x) (by rw [e2]; exact n5_Mm_hours _)).up (by omega)⟩
theorem RY_charge {t : zTT} {n n1 n2 : Nat → Nat} {b : Nat} (hb : b ≤ 100000) (k m : Int32) (h : REY t n b) (e1 : n1 = n) (e2 : n2 = n1) : REY (tK_Mm_charge k m (tK_Ip_charge k m t)) n2 (b + 48) := by
  have hR : REL (tK_Mm_charge k m (tK_Ip_charge k m t)) n2 (b + 48) := (R_charge k m h.1 e1 e2).up (by omega)
  have hX : REX (tK_Mm_charge k m (tK_Ip_charge k m t)) n1 (b + 48) := (RXM_charge k m (h.2.c (n1 := n1) (NEC_charge k m) (by rw [e1]))).up (by omega)
  exact ⟨hR, by rw [e2]; exact hX⟩
theorem RY_hold {t : zTT} {n n1 n2 : Nat → Nat} {b : Nat} (hb : b ≤ 100000) (x : Int32) (h : REY t n b) (e1 : n1 = n) (e2 : n2 = n1) : REY (tK_Mm_hold x (tK_Ip_hold x t)) n2 (b + 48) := ⟨(R_hold x h.1 e1 e2).up (by omega), ((h.2.c (n1 := n1) (NEC_hold x) (by rw [e1])).m (n1 := n2) (NEM_hold x) (by rw [e2])).up (by omega)⟩
theorem RY_tap {t : zTT} {n n1 n2 : Nat → Nat} {b : Nat} (hb : b ≤ 100000) (m : Int32) (h : REY t n b) (e1 : n1 = n) (e2 : n2 = n1) : REY (tK_Mm_tap m (tK_Ip_tap m t)) n2 (b + 48) := by
  have hR : REL (tK_Mm_tap m (tK_Ip_tap m t)) n2 (b + 48) := (R_tap m h.1 e1 e2).up (by omega)
  have hX : REX (tK_Mm_tap m (tK_Ip_tap m t)) n1 (b + 48) := (RXM_tap m (by rw [(NEC_tap m).2.1]; exact h.1.la.1) (h.2.c (n1 := n1) (NEC_tap m) (by rw [e1]))).up (by omega)
  exact ⟨hR, by rw [e2]; exact hX⟩
theorem RY_treat {t : zTT} {n n1 n2 : Nat → Nat} {b : Nat} (hb : b ≤ 100000) (m : Int32) (h : REY t n b) (e1 : n1 = n) (e2 : n2 = n1) : REY (tK_Mm_treat m (tK_Ip_treat m t)) n2 (b + 48) := ⟨(R_treat m h.1 e1 e2).up (by omega), ((h.2.c (n1 := n1) (NEC_treat m) (by rw [e1])).m (n1 := n2) (NEM_treat m) (by rw [e2])).up (by omega)⟩
theorem RY_pig {t : zTT} {n n1 n2 : Nat → Nat} {b : Nat} (hb : b ≤ 100000) (h : REY t n b) (e1 : n1 = n) (e2 : n2 = n1) : REY (tK_Mm_pig (tK_Ip_pig t)) n2 (b + 48) := by
  have hR : REL (tK_Mm_pig (tK_Ip_pig t)) n2 (b + 48) := (R_pig h.1 e1 e2).up (by omega)
  have hX : REX (tK_Mm_pig (tK_Ip_pig t)) n1 (b + 48) := RXM_pig hb (by rw [(NEC_pig).2.1]; exact h.1.la.1) (h.2.c (n1 := n1) (NEC_pig) (by rw [e1]))
  exact ⟨hR, by rw [e2]; exact hX⟩
theorem RY_leastCost {t : zTT} {n n1 n2 : Nat → Nat} {b : Nat} (hb : b ≤ 100000) (x1 x2 x3 x4 x5 x6 : Int32) (h : REY t n b) (e1 : n1 = n) (e2 : n2 = n1) : REY (tK_Mm_leastCost x1 x2 x3 x4 x5 x6 (tK_Ip_leastCost x1 x2 x3 x4 x5 x6 t)) n2 (b + 48) := ⟨(R_leastCost x1 x2 x3 x4 x5 x6 h.1 e1 e2).up (by omega), ((h.2.c (n1 := n1) (NEC_leastCost x1 x2 x3 x4 x5 x6) (by rw [e1])).m (n1 := n2) (NEM_leastCost x1 x2 x3 x4 x5 x6) (by rw [e2])).up (by omega)⟩
theorem RY_minutes {t : zTT} {n n1 n2 : Nat → Nat} {b : Nat} (hb : b ≤ 100000) (x : Int32) (h : REY t n b) (e1 : n1 = n) (e2 : n2 = n1) : REY (tK_Mm_minutes x (tK_Ip_minutes x t n) n1) n2 (b + 48) := ⟨(R_minutes x h.1 e1 e2).up (by omega), ((h.2.c (n1 := n1) (NEC_minutes (n := n) x) (by rw [e1])).m (n1 := n2) (NEM_minutes (n := n1) x) (by rw [e2])).up (by omega)⟩
theorem RY_mould {t : zTT} {n n1 n2 : Nat → Nat} {b : Nat} (hb : b ≤ 100000) (h : REY t n b) (e1 : n1 = nK_Ip_mould t n) (e2 : n2 = nK_Mm_mould (tK_Ip_mould t n) n1) : REY (tK_Mm_mould (tK_Ip_mould t n) n1) n2 (b + 48) := ⟨(R_mould hb h.1 e1 e2).up (by omega), ((h.2.c (n1 := n1) (NEC_mould (n := n)) (by rw [e1]; exact n5_Ip_mould)).m (n1 := n2) (NEM_mould (n := n1)) (by rw [e2]; exact n5_Mm_mould)).up (by omega)⟩
theorem n5x_pour3 {t : zTT} {n : Nat → Nat} {X9 : zTr} : nK_Ip_pour t n 3 = n 3 ∧ (tK_Ip_pour X9 t n).2 3 = t.2 3 := by
  constructor
  · unfold nK_Ip_pour
    repeat' split
    all_goals rfl
  · unfold tK_Ip_pour
    repeat' split
    all_goals rfl
theorem RY_pour {t : zTT} {n n1 n2 : Nat → Nat} {b : Nat} {X9 : zTr} {S9 : zSC} (hx : ¬ n 3 = 0 → ¬ fa_cnt (fun k => decide ((t.2 3 0).2.1 k = 103)) 12 = 0 ∧ (t.2 4 0).2.2.2 0 < 9) (hb : b ≤ 100000) (h : REY t n b) (e1 : n1 = nK_Ip_pour t n) (e2 : n2 = nK_Mm_pour (tK_Ip_pour X9 t n) n1) : REY (tK_Mm_pour S9 (tK_Ip_pour X9 t n) n1) n2 (b + 48) := by
  have hR : REL (tK_Mm_pour S9 (tK_Ip_pour X9 t n) n1) n2 (b + 48) := (R_pour hx h.1 e1 e2).up (by omega)
  have hX : REX (tK_Mm_pour S9 (tK_Ip_pour X9 t n) n1) (nK_Mm_pour (tK_Ip_pour X9 t n) n1) (b + 48) := (RXM_pour (S9 := S9) (fun q => by have e3 := n5x_pour3 (X9 := X9) (t := t) (n := n); rw [e1] at q; rw [e3.1] at q; rw [(n5x_pour3 (X9 := X9) (t := t) (n := n)).2]; exact (hx q).1) (by rw [(NEC_pour (n := n)).2.1]; exact h.1.la.1) (h.2.c (n1 := n1) (NEC_pour (n := n)) (by rw [e1]; exact n5_Ip_pour))).up (by omega)
  exact ⟨hR, by rw [e2]; exact hX⟩
theorem RY_weld {t : zTT} {n n1 n2 : Nat → Nat} {b : Nat} (hb : b ≤ 100000) (x : Int32) (h : REY t n b) (e1 : n1 = n) (e2 : n2 = n1) : REY (tK_Mm_weld x (tK_Ip_weld x t n) n1) n2 (b + 48) := by
  have hR : REL (tK_Mm_weld x (tK_Ip_weld x t n) n1) n2 (b + 48) := (R_weld x h.1 e1 e2).up (by omega)
  have hX : REX (tK_Mm_weld x (tK_Ip_weld x t n) n1) n1 (b + 48) := (RXM_weld x (h.2.c (n1 := n1) (NEC_weld (n := n) x) (by rw [e1]))).up (by omega)
  exact ⟨hR, by rw [e2]; exact hX⟩
theorem RY_deliver {t : zTT} {n n1 n2 : Nat → Nat} {b : Nat} (hb : b ≤ 100000) (x : Int32) (h : REY t n b) (e1 : n1 = n) (e2 : n2 = n1) : REY (tK_Mm_deliver x (tK_Ip_deliver x t n) n1) n2 (b + 48) := by
  have hR : REL (tK_Mm_deliver x (tK_Ip_deliver x t n) n1) n2 (b + 48) := (R_deliver x h.1 e1 e2).up (by omega)
  have hX : REX (tK_Mm_deliver x (tK_Ip_deliver x t n) n1) n1 (b + 48) := (RXM_deliver x (h.2.c (n1 := n1) (NEC_deliver (n := n) x) (by rw [e1]))).up (by omega)
  exact ⟨hR, by rw [e2]; exact hX⟩
theorem RY_breakUp {t : zTT} {n n1 n2 : Nat → Nat} {b : Nat} (hb : b ≤ 100000) (x : Int32) (h : REY t n b) (e1 : n1 = n) (e2 : n2 = n1) : REY (tK_Mm_breakUp x (tK_Ip_breakUp x t n) n1) n2 (b + 48) := by
  have hR : REL (tK_Mm_breakUp x (tK_Ip_breakUp x t n) n1) n2 (b + 48) := (R_breakUp x h.1 e1 e2).up (by omega)
  have hX : REX (tK_Mm_breakUp x (tK_Ip_breakUp x t n) n1) n1 (b + 48) := RXM_breakUp hb x (h.2.c (n1 := n1) (NEC_breakUp (n := n) x) (by rw [e1]))
  exact ⟨hR, by rw [e2]; exact hX⟩
theorem i64_a (a b c : Int64) : a - c + (b + c) = a + b := by rw [Int64.add_comm b c, ← Int64.add_assoc, Int64.sub_add_cancel]
theorem i64_b (s q v w : Int64) : s + q + (v + (w - q)) = s + v + w := by
  have e : w - q + q = w := Int64.sub_add_cancel w q
  calc s + q + (v + (w - q)) = s + v + (w - q + q) := by ac_rfl
    _ = s + v + w := by rw [e]
theorem bm64 {x : Int} (h1 : -9223372036854775808 ≤ x) (h2 : x < 9223372036854775808) : x.bmod (2 ^ 64) = x := by
  rw [Int.bmod_def]
  split <;> omega
theorem t64_add {x y : Int32} (h1 : -2147483648 ≤ x.toInt + y.toInt) (h2 : x.toInt + y.toInt < 2147483648) : (x + y).toInt64 = x.toInt64 + y.toInt64 := by
  refine Int64.toInt_inj.mp ?_
  rw [Int64.toInt_add, Int32.toInt_toInt64, Int32.toInt_toInt64, Int32.toInt_toInt64, Int32.toInt_add, bm32 h1 h2, bm64 (by omega) (by omega)]
theorem t64_sub {x y : Int32} (h1 : -2147483648 ≤ x.toInt - y.toInt) (h2 : x.toInt - y.toInt < 2147483648) : (x - y).toInt64 = x.toInt64 - y.toInt64 := by
  refine Int64.toInt_inj.mp ?_
  rw [Int64.toInt_sub, Int32.toInt_toInt64, Int32.toInt_toInt64, Int32.toInt_toInt64, Int32.toInt_sub, bm32 h1 h2, bm64 (by omega) (by omega)]
theorem mv_sum (f to : Nat → Int64) (am ir : Int32) : ∀ n e, mvS f am ir n e + mvT f am ir to n e = f e + to e
  | 0, e => rfl
  | n + 1, e => by
    have ih := mv_sum f to am ir n
    show vp_updL (mvS f am ir n) n (mvS f am ir n n - mvA (mvS f am ir n) am ir n) e + vp_updL (mvT f am ir to n) n (mvT f am ir to n n + mvA (mvS f am ir n) am ir n) e = f e + to e
    by_cases q : e = n
    · rw [q, updL_eq, updL_eq, ← ih n]
      exact i64_a _ _ _
    · rw [updL_ne q, updL_ne q]
      exact ih e
theorem lo_sum (e : Nat) (d : Int64) (s : (Nat → Int64) × (Nat → Int64)) (k : Nat) : (loS e d s).1 k + (loS e d s).2 k = s.1 k + s.2 k := by
  show vp_updL s.1 e (s.1 e - s.1 e / d) k + vp_updL s.2 e (s.2 e + s.1 e / d) k = s.1 k + s.2 k
  by_cases q : k = e
  · rw [q, updL_eq, updL_eq]
    exact i64_a _ _ _
  · rw [updL_ne q, updL_ne q]
theorem lm_sum (s : (Nat → Int64) × (Nat → Int64)) : ∀ n k, (lmS s n).1 k + (lmS s n).2 k = s.1 k + s.2 k
  | 0, k => rfl
  | n + 1, k => by
    show (loS 2 4000 (loS 1 4000 (loS 0 2000 (lmS s n)))).1 k + (loS 2 4000 (loS 1 4000 (loS 0 2000 (lmS s n)))).2 k = s.1 k + s.2 k
    rw [lo_sum, lo_sum, lo_sum, lm_sum s n k]
theorem lfd_in {f d : Nat → Int64} : ∀ n e, e < n → lfd f d n e = f e + d e
  | 0, e, h => absurd h (Nat.not_lt_zero e)
  | n + 1, e, h => by
    show vp_updL (lfd f d n) n (lfd f d n n + d n) e = f e + d e
    by_cases q : e = n
    · rw [q, updL_eq, lfd_out n n (Nat.le_refl _)]
    · rw [updL_ne q]
      exact lfd_in n e (by omega)
def ciS (C : Nat → zV) : Nat → Int64
  | 0 => 0
  | i + 1 => if (C i).1 4 = 0 then ciS C i + ((C i).1 5).toInt64 else ciS C i
def cgS (C : Nat → zV) (e : Nat) : Nat → Int64
  | 0 => 0
  | i + 1 => if (C i).1 4 = 0 then cgS C e i + (C i).2.2.1 e else cgS C e i
def hbS (b : Int64) (C : Nat → zV) : Nat → Int64
  | 0 => b
  | i + 1 => if (C i).1 4 = 0 then hbS b C i + ((C i).1 5).toInt64 else hbS b C i
def hgS (b : Int64) (C : Nat → zV) (e : Nat) : Nat → Int64
  | 0 => b
  | i + 1 => if (C i).1 4 = 0 then hgS b C e i + (C i).2.2.1 e else hgS b C e i
theorem hb_ci (b : Int64) (C : Nat → zV) : ∀ n, hbS b C n = b + ciS C n
  | 0 => (Int64.add_zero b).symm
  | n + 1 => by
    show (if (C n).1 4 = 0 then hbS b C n + ((C n).1 5).toInt64 else hbS b C n) = b + (if (C n).1 4 = 0 then ciS C n + ((C n).1 5).toInt64 else ciS C n)
    by_cases q : (C n).1 4 = 0
    · rw [if_pos q, if_pos q, hb_ci b C n, Int64.add_assoc]
    · rw [if_neg q, if_neg q, hb_ci b C n]
theorem hg_cg (b : Int64) (C : Nat → zV) (e : Nat) : ∀ n, hgS b C e n = b + cgS C e n
  | 0 => (Int64.add_zero b).symm
  | n + 1 => by
    show (if (C n).1 4 = 0 then hgS b C e n + (C n).2.2.1 e else hgS b C e n) = b + (if (C n).1 4 = 0 then cgS C e n + (C n).2.2.1 e else cgS C e n)
    by_cases q : (C n).1 4 = 0
    · rw [if_pos q, if_pos q, hg_cg b C e n, Int64.add_assoc]
    · rw [if_neg q, if_neg q, hg_cg b C e n]
theorem ci_cg {C D : Nat → zV} : ∀ n, (∀ j, j < n → (C j).1 4 = (D j).1 4 ∧ (C j).1 5 = (D j).1 5) → ciS C n = ciS D n
  | 0, _ => rfl
  | n + 1, h => by
    have e := h n (by omega)
    show (if (C n).1 4 = 0 then ciS C n + ((C n).1 5).toInt64 else ciS C n) = (if (D n).1 4 = 0 then ciS D n + ((D n).1 5).toInt64 else ciS D n)
    rw [ci_cg n (fun j hj => h j (by omega)), e.1, e.2]
theorem cg_cg {C D : Nat → zV} {e : Nat} : ∀ n, (∀ j, j < n → (C j).1 4 = (D j).1 4 ∧ (C j).2.2.1 e = (D j).2.2.1 e) → cgS C e n = cgS D e n
  | 0, _ => rfl
  | n + 1, h => by
    have k := h n (by omega)
    show (if (C n).1 4 = 0 then cgS C e n + (C n).2.2.1 e else cgS C e n) = (if (D n).1 4 = 0 then cgS D e n + (D n).2.2.1 e else cgS D e n)
    rw [cg_cg n (fun j hj => h j (by omega)), k.1, k.2]
theorem ci_set {C D : Nat → zV} {k : Nat} (hC : (C k).1 4 = 0) (hD : ¬ (D k).1 4 = 0) (ho : ∀ j, ¬ j = k → D j = C j) : ∀ n, (n ≤ k → ciS C n = ciS D n) ∧ (k < n → ciS C n = ciS D n + ((C k).1 5).toInt64)
  | 0 => ⟨fun _ => rfl, fun h => absurd h (Nat.not_lt_zero k)⟩
  | n + 1 => by
    obtain ⟨a, b⟩ := ci_set hC hD ho n
    refine ⟨fun h => ?_, fun h => ?_⟩
    · show (if (C n).1 4 = 0 then ciS C n + ((C n).1 5).toInt64 else ciS C n) = (if (D n).1 4 = 0 then ciS D n + ((D n).1 5).toInt64 else ciS D n)
      rw [ho n (by omega), a (by omega)]
    · show (if (C n).1 4 = 0 then ciS C n + ((C n).1 5).toInt64 else ciS C n) = (if (D n).1 4 = 0 then ciS D n + ((D n).1 5).toInt64 else ciS D n) + ((C k).1 5).toInt64
      by_cases q : n = k
      · rw [if_pos (show (C n).1 4 = 0 by rw [q]; exact hC), if_neg (show ¬ (D n).1 4 = 0 by rw [q]; exact hD), a (by omega), q]
      · rw [ho n q]
        by_cases z : (C n).1 4 = 0
        · rw [if_pos z, if_pos z, b (by omega), Int64.add_assoc, Int64.add_comm ((C k).1 5).toInt64, ← Int64.add_assoc]
        · rw [if_neg z, if_neg z, b (by omega)]
theorem cg_set {C D : Nat → zV} {k e : Nat} (hC : (C k).1 4 = 0) (hD : ¬ (D k).1 4 = 0) (ho : ∀ j, ¬ j = k → D j = C j) : ∀ n, (n ≤ k → cgS C e n = cgS D e n) ∧ (k < n → cgS C e n = cgS D e n + (C k).2.2.1 e)
  | 0 => ⟨fun _ => rfl, fun h => absurd h (Nat.not_lt_zero k)⟩
  | n + 1 => by
    obtain ⟨a, b⟩ := cg_set (e := e) hC hD ho n
    refine ⟨fun h => ?_, fun h => ?_⟩
    · show (if (C n).1 4 = 0 then cgS C e n + (C n).2.2.1 e else cgS C e n) = (if (D n).1 4 = 0 then cgS D e n + (D n).2.2.1 e else cgS D e n)
      rw [ho n (by omega), a (by omega)]
    · show (if (C n).1 4 = 0 then cgS C e n + (C n).2.2.1 e else cgS C e n) = (if (D n).1 4 = 0 then cgS D e n + (D n).2.2.1 e else cgS D e n) + (C k).2.2.1 e
      by_cases q : n = k
      · rw [if_pos (show (C n).1 4 = 0 by rw [q]; exact hC), if_neg (show ¬ (D n).1 4 = 0 by rw [q]; exact hD), a (by omega), q]
      · rw [ho n q]
        by_cases z : (C n).1 4 = 0
        · rw [if_pos z, if_pos z, b (by omega), Int64.add_assoc, Int64.add_comm ((C k).2.2.1 e), ← Int64.add_assoc]
        · rw [if_neg z, if_neg z, b (by omega)]
theorem vup_1 {F : Nat → Nat → zV} {K : Nat} {V : zV} : (vup F 1 K V) 1 = set5 (F 1) K V := funext fun j => by
  show (if 1 = 1 ∧ j = K then V else F 1 j) = (if j = K then V else F 1 j)
  by_cases q : j = K
  · rw [if_pos ⟨rfl, q⟩, if_pos q]
  · rw [if_neg (fun z => q z.2), if_neg q]
def BAL (a b c d : Int32) (io : Int64) (A B C D L U V : Nat → Int64) (K : Nat → zV) (n : Nat) : Prop := a.toInt64 + b.toInt64 + c.toInt64 + d.toInt64 + ciS K n = io ∧ ∀ e, e < 4 → (A e + B e + C e + D e + L e + cgS K e n) * 10 + V e = U e
def BALt (t : zTT) (n : Nat → Nat) : Prop := BAL ((t.1 37).1 0) ((t.1 43).1 0) ((t.1 45).1 0) ((t.1 47).1 0) ((t.1 36).2.1 0) (t.1 38).2.1 (t.1 44).2.1 (t.1 46).2.1 (t.1 48).2.1 (t.1 41).2.1 (t.1 39).2.1 (t.1 40).2.1 (t.2 1) (n 1)
theorem BAL.inn {a b c d : Int32} {io : Int64} {A B C D L U V : Nat → Int64} {K : Nat → zV} {n : Nat} {m : Int32} {w : Nat → Int64} (h : BAL a b c d io A B C D L U V K n) (o1 : -2147483648 ≤ a.toInt + m.toInt ∧ a.toInt + m.toInt < 2147483648) : BAL (a + m) b c d (io + m.toInt64) (lfd A (fun e => w e / 10) 4) B C D L (lfd U w 4) (lfd V (fun e => w e - w e / 10 * 10) 4) K n := by
  refine ⟨?_, fun e he => ?_⟩
  · rw [t64_add o1.1 o1.2, ← h.1]
    ac_rfl
  · rw [lfd_in 4 e he, lfd_in 4 e he, lfd_in 4 e he, ← h.2 e he]
    have e1 : A e + w e / 10 + B e + C e + D e + L e + cgS K e n = (A e + B e + C e + D e + L e + cgS K e n) + w e / 10 := by ac_rfl
    rw [e1, Int64.add_mul]
    exact i64_b _ _ _ _
theorem BAL.ab {a b c d : Int32} {io : Int64} {A B C D L U V : Nat → Int64} {K : Nat → zV} {n : Nat} {m : Int32} (h : BAL a b c d io A B C D L U V K n) (o1 : -2147483648 ≤ a.toInt - m.toInt ∧ a.toInt - m.toInt < 2147483648) (o2 : -2147483648 ≤ b.toInt + m.toInt ∧ b.toInt + m.toInt < 2147483648) : BAL (a - m) (b + m) c d io (mvS A m a 4) (mvT A m a B 4) C D L U V K n := by
  refine ⟨?_, fun e he => ?_⟩
  · rw [t64_sub o1.1 o1.2, t64_add o2.1 o2.2, ← h.1]
    have e1 := i64_a a.toInt64 b.toInt64 m.toInt64
    calc (a.toInt64 - m.toInt64) + (b.toInt64 + m.toInt64) + c.toInt64 + d.toInt64 + ciS K n = ((a.toInt64 - m.toInt64) + (b.toInt64 + m.toInt64)) + (c.toInt64 + d.toInt64 + ciS K n) := by ac_rfl
      _ = (a.toInt64 + b.toInt64) + (c.toInt64 + d.toInt64 + ciS K n) := by rw [e1]
      _ = a.toInt64 + b.toInt64 + c.toInt64 + d.toInt64 + ciS K n := by ac_rfl
  · rw [← h.2 e he]
    have e1 := mv_sum A B m a 4 e
    have e2 : mvS A m a 4 e + mvT A m a B 4 e + C e + D e + L e + cgS K e n = A e + B e + C e + D e + L e + cgS K e n := by
      calc mvS A m a 4 e + mvT A m a B 4 e + C e + D e + L e + cgS K e n = (mvS A m a 4 e + mvT A m a B 4 e) + (C e + D e + L e + cgS K e n) := by ac_rfl
        _ = (A e + B e) + (C e + D e + L e + cgS K e n) := by rw [e1]
        _ = A e + B e + C e + D e + L e + cgS K e n := by ac_rfl
    rw [e2]
theorem BAL.bc {a b c d : Int32} {io : Int64} {A B C D L U V : Nat → Int64} {K : Nat → zV} {n : Nat} {m : Int32} (h : BAL a b c d io A B C D L U V K n) (o1 : -2147483648 ≤ b.toInt - m.toInt ∧ b.toInt - m.toInt < 2147483648) (o2 : -2147483648 ≤ c.toInt + m.toInt ∧ c.toInt + m.toInt < 2147483648) : BAL a (b - m) (c + m) d io A (mvS B m b 4) (mvT B m b C 4) D L U V K n := by
  refine ⟨?_, fun e he => ?_⟩
  · rw [t64_sub o1.1 o1.2, t64_add o2.1 o2.2, ← h.1]
    have e1 := i64_a b.toInt64 c.toInt64 m.toInt64
    calc a.toInt64 + (b.toInt64 - m.toInt64) + (c.toInt64 + m.toInt64) + d.toInt64 + ciS K n = ((b.toInt64 - m.toInt64) + (c.toInt64 + m.toInt64)) + (a.toInt64 + d.toInt64 + ciS K n) := by ac_rfl
      _ = (b.toInt64 + c.toInt64) + (a.toInt64 + d.toInt64 + ciS K n) := by rw [e1]
      _ = a.toInt64 + b.toInt64 + c.toInt64 + d.toInt64 + ciS K n := by ac_rfl
  · rw [← h.2 e he]
    have e1 := mv_sum B C m b 4 e
    have e2 : A e + mvS B m b 4 e + mvT B m b C 4 e + D e + L e + cgS K e n = A e + B e + C e + D e + L e + cgS K e n := by
      calc A e + mvS B m b 4 e + mvT B m b C 4 e + D e + L e + cgS K e n = (mvS B m b 4 e + mvT B m b C 4 e) + (A e + D e + L e + cgS K e n) := by ac_rfl
        _ = (B e + C e) + (A e + D e + L e + cgS K e n) := by rw [e1]
        _ = A e + B e + C e + D e + L e + cgS K e n := by ac_rfl
    rw [e2]
theorem BAL.bd {a b c d : Int32} {io : Int64} {A B C D L U V : Nat → Int64} {K : Nat → zV} {n : Nat} {m : Int32} (h : BAL a b c d io A B C D L U V K n) (o1 : -2147483648 ≤ b.toInt - m.toInt ∧ b.toInt - m.toInt < 2147483648) (o2 : -2147483648 ≤ d.toInt + m.toInt ∧ d.toInt + m.toInt < 2147483648) : BAL a (b - m) c (d + m) io A (mvS B m b 4) C (mvT B m b D 4) L U V K n := by
  refine ⟨?_, fun e he => ?_⟩
  · rw [t64_sub o1.1 o1.2, t64_add o2.1 o2.2, ← h.1]
    have e1 := i64_a b.toInt64 d.toInt64 m.toInt64
    calc a.toInt64 + (b.toInt64 - m.toInt64) + c.toInt64 + (d.toInt64 + m.toInt64) + ciS K n = ((b.toInt64 - m.toInt64) + (d.toInt64 + m.toInt64)) + (a.toInt64 + c.toInt64 + ciS K n) := by ac_rfl
      _ = (b.toInt64 + d.toInt64) + (a.toInt64 + c.toInt64 + ciS K n) := by rw [e1]
      _ = a.toInt64 + b.toInt64 + c.toInt64 + d.toInt64 + ciS K n := by ac_rfl
  · rw [← h.2 e he]
    have e1 := mv_sum B D m b 4 e
    have e2 : A e + mvS B m b 4 e + C e + mvT B m b D 4 e + L e + cgS K e n = A e + B e + C e + D e + L e + cgS K e n := by
      calc A e + mvS B m b 4 e + C e + mvT B m b D 4 e + L e + cgS K e n = (mvS B m b 4 e + mvT B m b D 4 e) + (A e + C e + L e + cgS K e n) := by ac_rfl
        _ = (B e + D e) + (A e + C e + L e + cgS K e n) := by rw [e1]
        _ = A e + B e + C e + D e + L e + cgS K e n := by ac_rfl
    rw [e2]
theorem BAL.ca {a b c d : Int32} {io : Int64} {A B C D L U V : Nat → Int64} {K : Nat → zV} {n : Nat} {m : Int32} (h : BAL a b c d io A B C D L U V K n) (o1 : -2147483648 ≤ c.toInt - m.toInt ∧ c.toInt - m.toInt < 2147483648) (o2 : -2147483648 ≤ a.toInt + m.toInt ∧ a.toInt + m.toInt < 2147483648) : BAL (a + m) b (c - m) d io (mvT C m c A 4) B (mvS C m c 4) D L U V K n := by
  refine ⟨?_, fun e he => ?_⟩
  · rw [t64_sub o1.1 o1.2, t64_add o2.1 o2.2, ← h.1]
    have e1 := i64_a c.toInt64 a.toInt64 m.toInt64
    calc (a.toInt64 + m.toInt64) + b.toInt64 + (c.toInt64 - m.toInt64) + d.toInt64 + ciS K n = ((c.toInt64 - m.toInt64) + (a.toInt64 + m.toInt64)) + (b.toInt64 + d.toInt64 + ciS K n) := by ac_rfl
      _ = (c.toInt64 + a.toInt64) + (b.toInt64 + d.toInt64 + ciS K n) := by rw [e1]
      _ = a.toInt64 + b.toInt64 + c.toInt64 + d.toInt64 + ciS K n := by ac_rfl
  · rw [← h.2 e he]
    have e1 := mv_sum C A m c 4 e
    have e2 : mvT C m c A 4 e + B e + mvS C m c 4 e + D e + L e + cgS K e n = A e + B e + C e + D e + L e + cgS K e n := by
      calc mvT C m c A 4 e + B e + mvS C m c 4 e + D e + L e + cgS K e n = (mvS C m c 4 e + mvT C m c A 4 e) + (B e + D e + L e + cgS K e n) := by ac_rfl
        _ = (C e + A e) + (B e + D e + L e + cgS K e n) := by rw [e1]
        _ = A e + B e + C e + D e + L e + cgS K e n := by ac_rfl
    rw [e2]
theorem BAL.da {a b c d : Int32} {io : Int64} {A B C D L U V : Nat → Int64} {K : Nat → zV} {n : Nat} {m : Int32} (h : BAL a b c d io A B C D L U V K n) (o1 : -2147483648 ≤ d.toInt - m.toInt ∧ d.toInt - m.toInt < 2147483648) (o2 : -2147483648 ≤ a.toInt + m.toInt ∧ a.toInt + m.toInt < 2147483648) : BAL (a + m) b c (d - m) io (mvT D m d A 4) B C (mvS D m d 4) L U V K n := by
  refine ⟨?_, fun e he => ?_⟩
  · rw [t64_sub o1.1 o1.2, t64_add o2.1 o2.2, ← h.1]
    have e1 := i64_a d.toInt64 a.toInt64 m.toInt64
    calc (a.toInt64 + m.toInt64) + b.toInt64 + c.toInt64 + (d.toInt64 - m.toInt64) + ciS K n = ((d.toInt64 - m.toInt64) + (a.toInt64 + m.toInt64)) + (b.toInt64 + c.toInt64 + ciS K n) := by ac_rfl
      _ = (d.toInt64 + a.toInt64) + (b.toInt64 + c.toInt64 + ciS K n) := by rw [e1]
      _ = a.toInt64 + b.toInt64 + c.toInt64 + d.toInt64 + ciS K n := by ac_rfl
  · rw [← h.2 e he]
    have e1 := mv_sum D A m d 4 e
    have e2 : mvT D m d A 4 e + B e + C e + mvS D m d 4 e + L e + cgS K e n = A e + B e + C e + D e + L e + cgS K e n := by
      calc mvT D m d A 4 e + B e + C e + mvS D m d 4 e + L e + cgS K e n = (mvS D m d 4 e + mvT D m d A 4 e) + (B e + C e + L e + cgS K e n) := by ac_rfl
        _ = (D e + A e) + (B e + C e + L e + cgS K e n) := by rw [e1]
        _ = A e + B e + C e + D e + L e + cgS K e n := by ac_rfl
    rw [e2]
theorem BAL.hold {a b c d : Int32} {io : Int64} {A B C D L U V : Nat → Int64} {K : Nat → zV} {n : Nat} (h : BAL a b c d io A B C D L U V K n) (k : Nat) : BAL a b c d io (lmS (A, L) k).1 B C D (lmS (A, L) k).2 U V K n := by
  refine ⟨h.1, fun e he => ?_⟩
  rw [← h.2 e he]
  have e1 := lm_sum (A, L) k e
  have e2 : (lmS (A, L) k).1 e + B e + C e + D e + (lmS (A, L) k).2 e + cgS K e n = A e + B e + C e + D e + L e + cgS K e n := by
    calc (lmS (A, L) k).1 e + B e + C e + D e + (lmS (A, L) k).2 e + cgS K e n = ((lmS (A, L) k).1 e + (lmS (A, L) k).2 e) + (B e + C e + D e + cgS K e n) := by ac_rfl
      _ = (A e + L e) + (B e + C e + D e + cgS K e n) := by rw [e1]
      _ = A e + B e + C e + D e + L e + cgS K e n := by ac_rfl
  rw [e2]
theorem BAL.po {a b c d : Int32} {io : Int64} {A B C D L U V : Nat → Int64} {K : Nat → zV} {n : Nat} {m : Int32} {W : zV} (h : BAL a b c d io A B C D L U V K n) (o1 : -2147483648 ≤ b.toInt - m.toInt ∧ b.toInt - m.toInt < 2147483648) (h4 : W.1 4 = 0) (h5 : W.1 5 = m) (hW : ∀ e, W.2.2.1 e = mvT B m b (fun _ => 0) 4 e) : BAL a (b - m) c d io A (mvS B m b 4) C D L U V (z_apV K n W) (n + 1) := by
  have hn : z_apV K n W n = W := if_pos rfl
  have ho : ∀ j, j < n → z_apV K n W j = K j := fun j hj => if_neg (by omega)
  have hi : ciS (z_apV K n W) (n + 1) = ciS K n + m.toInt64 := by
    show (if (z_apV K n W n).1 4 = 0 then ciS (z_apV K n W) n + ((z_apV K n W n).1 5).toInt64 else ciS (z_apV K n W) n) = _
    rw [hn, if_pos h4, h5, ci_cg (D := K) n (fun j hj => by rw [ho j hj]; exact ⟨rfl, rfl⟩)]
  have hg : ∀ e, cgS (z_apV K n W) e (n + 1) = cgS K e n + mvT B m b (fun _ => 0) 4 e := fun e => by
    show (if (z_apV K n W n).1 4 = 0 then cgS (z_apV K n W) e n + (z_apV K n W n).2.2.1 e else cgS (z_apV K n W) e n) = _
    rw [hn, if_pos h4, hW e, cg_cg (D := K) n (fun j hj => by rw [ho j hj]; exact ⟨rfl, rfl⟩)]
  refine ⟨?_, fun e he => ?_⟩
  · rw [t64_sub o1.1 o1.2, hi, ← h.1]
    have e1 : b.toInt64 - m.toInt64 + m.toInt64 = b.toInt64 := Int64.sub_add_cancel _ _
    calc a.toInt64 + (b.toInt64 - m.toInt64) + c.toInt64 + d.toInt64 + (ciS K n + m.toInt64) = (b.toInt64 - m.toInt64 + m.toInt64) + (a.toInt64 + c.toInt64 + d.toInt64 + ciS K n) := by ac_rfl
      _ = b.toInt64 + (a.toInt64 + c.toInt64 + d.toInt64 + ciS K n) := by rw [e1]
      _ = a.toInt64 + b.toInt64 + c.toInt64 + d.toInt64 + ciS K n := by ac_rfl
  · rw [hg e, ← h.2 e he]
    have e1 := mv_sum B (fun _ => 0) m b 4 e
    have e0 : B e + (fun _ => (0 : Int64)) e = B e := Int64.add_zero _
    rw [e0] at e1
    have e2 : A e + mvS B m b 4 e + C e + D e + L e + (cgS K e n + mvT B m b (fun _ => 0) 4 e) = A e + B e + C e + D e + L e + cgS K e n := by
      calc A e + mvS B m b 4 e + C e + D e + L e + (cgS K e n + mvT B m b (fun _ => 0) 4 e) = (mvS B m b 4 e + mvT B m b (fun _ => 0) 4 e) + (A e + C e + D e + L e + cgS K e n) := by ac_rfl
        _ = B e + (A e + C e + D e + L e + cgS K e n) := by rw [e1]
        _ = A e + B e + C e + D e + L e + cgS K e n := by ac_rfl
    rw [e2]
theorem BAL.st {a b c d : Int32} {io : Int64} {A B C D L U V : Nat → Int64} {K : Nat → zV} {n : Nat} {k : Nat} {W : zV} (h : BAL a b c d io A B C D L U V K n) (h4 : W.1 4 = (K k).1 4) (h5 : W.1 5 = (K k).1 5) (hW : W.2.2.1 = (K k).2.2.1) : BAL a b c d io A B C D L U V (set5 K k W) n := by
  have k4 : ∀ j, (set5 K k W j).1 4 = (K j).1 4 ∧ (set5 K k W j).1 5 = (K j).1 5 ∧ (set5 K k W j).2.2.1 = (K j).2.2.1 := fun j => by
    by_cases q : j = k
    · rw [q, set5_eq]
      exact ⟨h4, h5, hW⟩
    · rw [set5_ne q]
      exact ⟨rfl, rfl, rfl⟩
  refine ⟨?_, fun e he => ?_⟩
  · rw [ci_cg (D := K) n (fun j _ => ⟨(k4 j).1, (k4 j).2.1⟩)]
    exact h.1
  · rw [cg_cg (D := K) n (fun j _ => ⟨(k4 j).1, congrFun (k4 j).2.2 e⟩)]
    exact h.2 e he
theorem BAL.buc {a b c d : Int32} {io : Int64} {A B C D L U V : Nat → Int64} {K : Nat → zV} {n : Nat} {k : Nat} {W : zV} (h : BAL a b c d io A B C D L U V K n) (hk : k < n) (hK : (K k).1 4 = 0) (h4 : ¬ W.1 4 = 0) (o1 : -2147483648 ≤ c.toInt + ((K k).1 5).toInt ∧ c.toInt + ((K k).1 5).toInt < 2147483648) : BAL a b (c + (K k).1 5) d io A B (lfd C (K k).2.2.1 4) D L U V (set5 K k W) n := by
  have hD : ¬ (set5 K k W k).1 4 = 0 := by rw [set5_eq]; exact h4
  have hi := (ci_set (C := K) (D := set5 K k W) (k := k) hK hD (fun j hj => set5_ne hj) n).2 hk
  have hg := fun e => (cg_set (C := K) (D := set5 K k W) (k := k) (e := e) hK hD (fun j hj => set5_ne hj) n).2 hk
  refine ⟨?_, fun e he => ?_⟩
  · rw [t64_add o1.1 o1.2, ← h.1, hi]
    ac_rfl
  · rw [lfd_in 4 e he, ← h.2 e he, hg e]
    have e2 : A e + B e + (C e + (K k).2.2.1 e) + D e + L e + cgS (set5 K k W) e n = A e + B e + C e + D e + L e + (cgS (set5 K k W) e n + (K k).2.2.1 e) := by ac_rfl
    rw [e2]
theorem BAL.bud {a b c d : Int32} {io : Int64} {A B C D L U V : Nat → Int64} {K : Nat → zV} {n : Nat} {k : Nat} {W : zV} (h : BAL a b c d io A B C D L U V K n) (hk : k < n) (hK : (K k).1 4 = 0) (h4 : ¬ W.1 4 = 0) (o1 : -2147483648 ≤ d.toInt + ((K k).1 5).toInt ∧ d.toInt + ((K k).1 5).toInt < 2147483648) : BAL a b c (d + (K k).1 5) io A B C (lfd D (K k).2.2.1 4) L U V (set5 K k W) n := by
  have hD : ¬ (set5 K k W k).1 4 = 0 := by rw [set5_eq]; exact h4
  have hi := (ci_set (C := K) (D := set5 K k W) (k := k) hK hD (fun j hj => set5_ne hj) n).2 hk
  have hg := fun e => (cg_set (C := K) (D := set5 K k W) (k := k) (e := e) hK hD (fun j hj => set5_ne hj) n).2 hk
  refine ⟨?_, fun e he => ?_⟩
  · rw [t64_add o1.1 o1.2, ← h.1, hi]
    ac_rfl
  · rw [lfd_in 4 e he, ← h.2 e he, hg e]
    have e2 : A e + B e + C e + (D e + (K k).2.2.1 e) + L e + cgS (set5 K k W) e n = A e + B e + C e + D e + L e + (cgS (set5 K k W) e n + (K k).2.2.1 e) := by ac_rfl
    rw [e2]
def NEB (t T : zTT) : Prop := (T.1 36).2.1 = (t.1 36).2.1 ∧ T.1 37 = t.1 37 ∧ T.1 38 = t.1 38 ∧ T.1 39 = t.1 39 ∧ T.1 40 = t.1 40 ∧ T.1 41 = t.1 41 ∧ T.1 43 = t.1 43 ∧ T.1 44 = t.1 44 ∧ T.1 45 = t.1 45 ∧ T.1 46 = t.1 46 ∧ T.1 47 = t.1 47 ∧ T.1 48 = t.1 48 ∧ T.2 1 = t.2 1
theorem BALt.c {t T : zTT} {n n1 : Nat → Nat} (h : BALt t n) (k : NEB t T) (e : n1 1 = n 1) : BALt T n1 := by
  unfold BALt at h ⊢
  obtain ⟨k1, k2, k3, k4, k5, k6, k7, k8, k9, ka, kb, kc, kd⟩ := k
  rw [k1, k2, k3, k4, k5, k6, k7, k8, k9, ka, kb, kc, kd, e]
  exact h
set_option maxHeartbeats 4000000 in
theorem NEB_Ip_draw {t : zTT} (k x y p q : Int32) : NEB t (tK_Ip_draw k x y p q t) := by
  unfold tK_Ip_draw
  repeat' split
  all_goals exact ⟨rfl, rfl, rfl, rfl, rfl, rfl, rfl, rfl, rfl, rfl, rfl, rfl, rfl⟩
set_option maxHeartbeats 4000000 in
theorem NEB_Ip_part {t : zTT} (r : Int32) : NEB t (tK_Ip_part r t) := by
  unfold tK_Ip_part
  repeat' split
  all_goals exact ⟨rfl, rfl, rfl, rfl, rfl, rfl, rfl, rfl, rfl, rfl, rfl, rfl, rfl⟩
set_option maxHeartbeats 4000000 in
theorem NEB_Ip_mill {t : zTT} (m1 m2 m3 m4 : Int32) : NEB t (tK_Ip_mill m1 m2 m3 m4 t) := by
  unfold tK_Ip_mill
  repeat' split
  all_goals exact ⟨rfl, rfl, rfl, rfl, rfl, rfl, rfl, rfl, rfl, rfl, rfl, rfl, rfl⟩
set_option maxHeartbeats 4000000 in
theorem NEB_Ip_makeCores {t : zTT} (c k : Int32) : NEB t (tK_Ip_makeCores c k t) := by
  unfold tK_Ip_makeCores
  repeat' split
  all_goals exact ⟨rfl, rfl, rfl, rfl, rfl, rfl, rfl, rfl, rfl, rfl, rfl, rfl, rfl⟩
set_option maxHeartbeats 4000000 in
theorem NEB_Ip_hours {t : zTT} (x : Int32) : NEB t (tK_Ip_hours x t) := by
  unfold tK_Ip_hours
  repeat' split
  all_goals exact ⟨rfl, rfl, rfl, rfl, rfl, rfl, rfl, rfl, rfl, rfl, rfl, rfl, rfl⟩
set_option maxHeartbeats 4000000 in
theorem NEB_Ip_treat {t : zTT} (m : Int32) : NEB t (tK_Ip_treat m t) := by
  unfold tK_Ip_treat
  repeat' split
  all_goals exact ⟨rfl, rfl, rfl, rfl, rfl, rfl, rfl, rfl, rfl, rfl, rfl, rfl, rfl⟩
set_option maxHeartbeats 4000000 in
theorem NEB_Ip_leastCost {t : zTT} (x1 x2 x3 x4 x5 x6 : Int32) : NEB t (tK_Ip_leastCost x1 x2 x3 x4 x5 x6 t) := by
  unfold tK_Ip_leastCost
  repeat' split
  all_goals exact ⟨rfl, rfl, rfl, rfl, rfl, rfl, rfl, rfl, rfl, rfl, rfl, rfl, rfl⟩
set_option maxHeartbeats 4000000 in
theorem NEB_Ip_minutes {t : zTT} {n : Nat → Nat} (x : Int32) : NEB t (tK_Ip_minutes x t n) := by
  unfold tK_Ip_minutes
  repeat' split
  all_goals exact ⟨rfl, rfl, rfl, rfl, rfl, rfl, rfl, rfl, rfl, rfl, rfl, rfl, rfl⟩
set_option maxHeartbeats 4000000 in
theorem NEB_Ip_mould {t : zTT} {n : Nat → Nat} : NEB t (tK_Ip_mould t n) := by
  unfold tK_Ip_mould
  repeat' split
  all_goals exact ⟨rfl, rfl, rfl, rfl, rfl, rfl, rfl, rfl, rfl, rfl, rfl, rfl, rfl⟩
set_option maxHeartbeats 4000000 in
theorem NEB_Mm_draw {t : zTT} (k x y p q : Int32) : NEB t (tK_Mm_draw k x y p q t) := by
  unfold tK_Mm_draw
  repeat' split
  all_goals exact ⟨rfl, rfl, rfl, rfl, rfl, rfl, rfl, rfl, rfl, rfl, rfl, rfl, rfl⟩
set_option maxHeartbeats 4000000 in
theorem NEB_Mm_part {t : zTT} (r : Int32) : NEB t (tK_Mm_part r t) := by
  unfold tK_Mm_part
  repeat' split
  all_goals exact ⟨rfl, rfl, rfl, rfl, rfl, rfl, rfl, rfl, rfl, rfl, rfl, rfl, rfl⟩
set_option maxHeartbeats 4000000 in
theorem NEB_Mm_mill {t : zTT} (m1 m2 m3 m4 : Int32) : NEB t (tK_Mm_mill m1 m2 m3 m4 t) := by
  unfold tK_Mm_mill
  repeat' split
  all_goals exact ⟨rfl, rfl, rfl, rfl, rfl, rfl, rfl, rfl, rfl, rfl, rfl, rfl, rfl⟩
set_option maxHeartbeats 4000000 in
theorem NEB_Mm_makeCores {t : zTT} {n : Nat → Nat} (c k : Int32) : NEB t (tK_Mm_makeCores c k t n) := by
  unfold tK_Mm_makeCores
  repeat' split
  all_goals exact ⟨rfl, rfl, rfl, rfl, rfl, rfl, rfl, rfl, rfl, rfl, rfl, rfl, rfl⟩
set_option maxHeartbeats 4000000 in
theorem NEB_Mm_hours {t : zTT} {n : Nat → Nat} (x : Int32) : NEB t (tK_Mm_hours x t n) := by
  unfold tK_Mm_hours
  repeat' split
  all_goals exact ⟨rfl, rfl, rfl, rfl, rfl, rfl, rfl, rfl, rfl, rfl, rfl, rfl, rfl⟩
set_option maxHeartbeats 4000000 in
theorem NEB_Mm_charge {t : zTT} (k m : Int32) : NEB t (tK_Mm_charge k m t) := by
  unfold tK_Mm_charge
  repeat' split
  all_goals exact ⟨rfl, rfl, rfl, rfl, rfl, rfl, rfl, rfl, rfl, rfl, rfl, rfl, rfl⟩
set_option maxHeartbeats 4000000 in
theorem NEB_Mm_hold {t : zTT} (x : Int32) : NEB t (tK_Mm_hold x t) := by
  unfold tK_Mm_hold
  repeat' split
  all_goals exact ⟨rfl, rfl, rfl, rfl, rfl, rfl, rfl, rfl, rfl, rfl, rfl, rfl, rfl⟩
set_option maxHeartbeats 4000000 in
theorem NEB_Mm_tap {t : zTT} (m : Int32) : NEB t (tK_Mm_tap m t) := by
  unfold tK_Mm_tap
  repeat' split
  all_goals exact ⟨rfl, rfl, rfl, rfl, rfl, rfl, rfl, rfl, rfl, rfl, rfl, rfl, rfl⟩
set_option maxHeartbeats 4000000 in
theorem NEB_Mm_treat {t : zTT} (m : Int32) : NEB t (tK_Mm_treat m t) := by
  unfold tK_Mm_treat
  repeat' split
  all_goals exact ⟨rfl, rfl, rfl, rfl, rfl, rfl, rfl, rfl, rfl, rfl, rfl, rfl, rfl⟩
set_option maxHeartbeats 4000000 in
theorem NEB_Mm_pig {t : zTT} : NEB t (tK_Mm_pig t) := by
  unfold tK_Mm_pig
  repeat' split
  all_goals exact ⟨rfl, rfl, rfl, rfl, rfl, rfl, rfl, rfl, rfl, rfl, rfl, rfl, rfl⟩
set_option maxHeartbeats 4000000 in
theorem NEB_Mm_leastCost {t : zTT} (x1 x2 x3 x4 x5 x6 : Int32) : NEB t (tK_Mm_leastCost x1 x2 x3 x4 x5 x6 t) := by
  unfold tK_Mm_leastCost
  repeat' split
  all_goals exact ⟨rfl, rfl, rfl, rfl, rfl, rfl, rfl, rfl, rfl, rfl, rfl, rfl, rfl⟩
set_option maxHeartbeats 4000000 in
theorem NEB_Mm_minutes {t : zTT} {n : Nat → Nat} (x : Int32) : NEB t (tK_Mm_minutes x t n) := by
  unfold tK_Mm_minutes
  repeat' split
  all_goals exact ⟨rfl, rfl, rfl, rfl, rfl, rfl, rfl, rfl, rfl, rfl, rfl, rfl, rfl⟩
set_option maxHeartbeats 4000000 in
theorem NEB_Mm_mould {t : zTT} {n : Nat → Nat} : NEB t (tK_Mm_mould t n) := by
  unfold tK_Mm_mould
  repeat' split
  all_goals exact ⟨rfl, rfl, rfl, rfl, rfl, rfl, rfl, rfl, rfl, rfl, rfl, rfl, rfl⟩
set_option maxHeartbeats 4000000 in
theorem NEB_Mm_pour {t : zTT} {n : Nat → Nat} {S9 : zSC} : NEB t (tK_Mm_pour S9 t n) := by
  unfold tK_Mm_pour
  repeat' split
  all_goals exact ⟨rfl, rfl, rfl, rfl, rfl, rfl, rfl, rfl, rfl, rfl, rfl, rfl, rfl⟩
set_option maxHeartbeats 4000000 in
theorem NEB_Mm_weld {t : zTT} {n : Nat → Nat} (x : Int32) : NEB t (tK_Mm_weld x t n) := by
  unfold tK_Mm_weld
  repeat' split
  all_goals exact ⟨rfl, rfl, rfl, rfl, rfl, rfl, rfl, rfl, rfl, rfl, rfl, rfl, rfl⟩
set_option maxHeartbeats 4000000 in
theorem NEB_Mm_deliver {t : zTT} {n : Nat → Nat} (x : Int32) : NEB t (tK_Mm_deliver x t n) := by
  unfold tK_Mm_deliver
  repeat' split
  all_goals exact ⟨rfl, rfl, rfl, rfl, rfl, rfl, rfl, rfl, rfl, rfl, rfl, rfl, rfl⟩
set_option maxHeartbeats 4000000 in
theorem NEB_Mm_breakUp {t : zTT} {n : Nat → Nat} (x : Int32) : NEB t (tK_Mm_breakUp x t n) := by
  unfold tK_Mm_breakUp
  repeat' split
  all_goals exact ⟨rfl, rfl, rfl, rfl, rfl, rfl, rfl, rfl, rfl, rfl, rfl, rfl, rfl⟩
theorem n1_Mm_makeCores {t : zTT} {n : Nat → Nat} (c k : Int32) : nK_Mm_makeCores c k t n 1 = n 1 := by
  unfold nK_Mm_makeCores
  repeat' split
  all_goals rfl
theorem n1_Mm_hours {t : zTT} {n : Nat → Nat} (x : Int32) : nK_Mm_hours x t n 1 = n 1 := by
  unfold nK_Mm_hours
  repeat' split
  all_goals rfl
theorem n1_Mm_mould {t : zTT} {n : Nat → Nat} : nK_Mm_mould t n 1 = n 1 := by
  unfold nK_Mm_mould
  repeat' split
  all_goals rfl
theorem n1_Mm_pour {t : zTT} {n : Nat → Nat} : nK_Mm_pour t n 1 = n 1 := by
  unfold nK_Mm_pour
  repeat' split
  all_goals rfl
theorem n1_Ip_mould {t : zTT} {n : Nat → Nat} : nK_Ip_mould t n 1 = n 1 := by
  unfold nK_Ip_mould
  repeat' split
  all_goals rfl
theorem m_rng {m : Int32} {a b : Int32} {x y : Int} (h : a ≤ m ∧ m ≤ b) (ha : a.toInt = x) (hb : b.toInt = y) : x ≤ m.toInt ∧ m.toInt ≤ y := by
  have h1 := h.1
  have h2 := h.2
  rw [Int32.le_iff_toInt_le, ha] at h1
  rw [Int32.le_iff_toInt_le, hb] at h2
  exact ⟨h1, h2⟩
theorem BALt_charge {t : zTT} {n : Nat → Nat} {b : Nat} (hb : b ≤ 100000) (k m : Int32) (h : BALt t n) (r : REY t n b) : BALt (tK_Ip_charge k m t) n := by
  unfold tK_Ip_charge
  have f0 : 0 ≤ ((t.1 37).1 0).toInt ∧ ((t.1 37).1 0).toInt ≤ 3000 := by rw [r.1.ir.1.1]; exact r.1.fb
  have f2 := r.2.2.1
  rw [← r.1.ir.1.2.2.1] at f2
  have f3 := r.2.2.2.1
  rw [← r.1.ir.1.2.2.2] at f3
  by_cases hw : 0 ≤ z_ix 1 k ∧ (1 ≤ m ∧ m ≤ 1000)
  · rw [if_pos hw]
    have hm := m_rng (x := 1) (y := 1000) hw.2 rfl rfl
    by_cases a1 : k = 112
    · rw [if_pos a1]
      by_cases g : 3000 < (t.1 37).1 0 + m
      · rw [if_pos g]; exact h
      · rw [if_neg g]; exact BAL.inn (m := m) (w := chS m 0) h (by omega)
    · rw [if_neg a1]
      by_cases a2 : k = 115
      · rw [if_pos a2]
        by_cases g : 3000 < (t.1 37).1 0 + m
        · rw [if_pos g]; exact h
        · rw [if_neg g]; exact BAL.inn (m := m) (w := chS m 1) h (by omega)
      · rw [if_neg a2]
        by_cases a3 : k = 102
        · rw [if_pos a3]
          by_cases g : 3000 < (t.1 37).1 0 + m
          · rw [if_pos g]; exact h
          · rw [if_neg g]; exact BAL.inn (m := m) (w := chS m 2) h (by omega)
        · rw [if_neg a3]
          by_cases a4 : k = 107
          · rw [if_pos a4]
            by_cases g : 3000 < (t.1 37).1 0 + 0
            · rw [if_pos g]; exact h
            · rw [if_neg g]; exact BAL.inn (m := 0) (w := chS m 3) h (by rw [show (0 : Int32).toInt = 0 from rfl]; omega)
          · rw [if_neg a4]
            by_cases a5 : k = 103
            · rw [if_pos a5]
              by_cases hf : (t.1 45).1 0 < m
              · rw [if_pos hf]; exact h
              · rw [if_neg hf]
                by_cases g : 3000 < (t.1 37).1 0 + m
                · rw [if_pos g]; exact h
                · rw [if_neg g]; exact BAL.ca (m := m) h (by omega) (by omega)
            · rw [if_neg a5]
              by_cases hf : (t.1 47).1 0 < m
              · rw [if_pos hf]; exact h
              · rw [if_neg hf]
                by_cases g : 3000 < (t.1 37).1 0 + m
                · rw [if_pos g]; exact h
                · rw [if_neg g]; exact BAL.da (m := m) h (by omega) (by omega)
  · rw [if_neg hw]; exact h
theorem BALt_hold {t : zTT} {n : Nat → Nat} (x : Int32) (h : BALt t n) : BALt (tK_Ip_hold x t) n := by
  unfold tK_Ip_hold
  by_cases hw : 1 ≤ x ∧ x ≤ 120
  · rw [if_pos hw]
    exact BAL.hold h _
  · rw [if_neg hw]; exact h
theorem BALt_tap {t : zTT} {n : Nat → Nat} {b : Nat} (m : Int32) (h : BALt t n) (r : REY t n b) : BALt (tK_Ip_tap m t) n := by
  unfold tK_Ip_tap
  have f0 : 0 ≤ ((t.1 37).1 0).toInt ∧ ((t.1 37).1 0).toInt ≤ 3000 := by rw [r.1.ir.1.1]; exact r.1.fb
  have f1 := r.2.1
  rw [← r.1.ir.1.2.1] at f1
  have f9 := r.1.la.1
  rw [← r.1.ir.1.2.1] at f9
  by_cases hw : 1 ≤ m ∧ m ≤ 500
  · rw [if_pos hw]
    have hm := m_rng (x := 1) (y := 500) hw rfl rfl
    by_cases he : (t.1 43).1 0 = 0
    · rw [if_pos he]
      by_cases g : (t.1 37).1 0 < m
      · rw [if_pos g]; exact h
      · rw [if_neg g]; exact BAL.ab (m := m) h (by omega) (by omega)
    · rw [if_neg he]; exact h
  · rw [if_neg hw]; exact h
theorem BALt_pig {t : zTT} {n : Nat → Nat} {b : Nat} (hb : b ≤ 100000) (h : BALt t n) (r : REY t n b) : BALt (tK_Ip_pig t) n := by
  unfold tK_Ip_pig
  have f1 := r.2.1
  rw [← r.1.ir.1.2.1] at f1
  have f9 := r.1.la.1
  rw [← r.1.ir.1.2.1] at f9
  have f2 := r.2.2.1
  rw [← r.1.ir.1.2.2.1] at f2
  have f3 := r.2.2.2.1
  rw [← r.1.ir.1.2.2.2] at f3
  by_cases he : (t.1 43).1 0 = 0
  · rw [if_pos he]; exact h
  · rw [if_neg he]
    by_cases hw : (t.1 42).1 2 = 0
    · rw [if_pos hw]; exact BAL.bc (m := (t.1 43).1 0) h (by omega) (by omega)
    · rw [if_neg hw]; exact BAL.bd (m := (t.1 43).1 0) h (by omega) (by omega)
theorem BALt_weld {t : zTT} {n : Nat → Nat} (x : Int32) (h : BALt t n) : BALt (tK_Ip_weld x t n) n := by
  unfold tK_Ip_weld
  by_cases hx : x.toNatClampNeg < n 1 ∧ x = nI x.toNatClampNeg
  · rw [if_pos hx]
    by_cases h12 : (t.2 1 x.toNatClampNeg).1 0 < 20 ∧ (t.2 1 x.toNatClampNeg).1 2 &&& 32 = 0
    · rw [if_pos h12]
      by_cases h34 : (t.2 1 x.toNatClampNeg).1 3 = 0 ∧ (t.2 1 x.toNatClampNeg).1 4 = 0
      · rw [if_pos h34]
        unfold BALt
        rw [show ((t.1, vup t.2 1 x.toNatClampNeg (upd ((t.2 1 x.toNatClampNeg).1) 2 ((t.2 1 x.toNatClampNeg).1 2 &&& (-5)), (t.2 1 x.toNatClampNeg).2)) : zTT).2 1 = set5 (t.2 1) x.toNatClampNeg _ from vup_1]
        exact BAL.st h (v1_ne (by decide)) (v1_ne (by decide)) rfl
      · rw [if_neg h34]; exact h
    · rw [if_neg h12]; exact h
  · rw [if_neg hx]; exact h
theorem BALt_deliver {t : zTT} {n : Nat → Nat} (x : Int32) (h : BALt t n) : BALt (tK_Ip_deliver x t n) n := by
  unfold tK_Ip_deliver
  by_cases hx : x.toNatClampNeg < n 1 ∧ x = nI x.toNatClampNeg
  · rw [if_pos hx]
    by_cases h34 : (t.2 1 x.toNatClampNeg).1 3 = 0 ∧ (t.2 1 x.toNatClampNeg).1 4 = 0
    · rw [if_pos h34]
      by_cases h5 : (t.2 1 x.toNatClampNeg).1 2 = 0
      · rw [if_pos h5]
        unfold BALt
        rw [show ((t.1, vup t.2 1 x.toNatClampNeg (upd ((t.2 1 x.toNatClampNeg).1) 3 1, (t.2 1 x.toNatClampNeg).2)) : zTT).2 1 = set5 (t.2 1) x.toNatClampNeg _ from vup_1]
        exact BAL.st h (v1_ne (by decide)) (v1_ne (by decide)) rfl
      · rw [if_neg h5]
        unfold BALt
        rw [show ((t.1, vup t.2 1 x.toNatClampNeg (upd ((t.2 1 x.toNatClampNeg).1) 3 0, (t.2 1 x.toNatClampNeg).2)) : zTT).2 1 = set5 (t.2 1) x.toNatClampNeg _ from vup_1]
        exact BAL.st h (v1_ne (by decide)) (v1_ne (by decide)) rfl
    · rw [if_neg h34]; exact h
  · rw [if_neg hx]; exact h
theorem BALt_breakUp {t : zTT} {n : Nat → Nat} {b : Nat} (hb : b ≤ 100000) (x : Int32) (h : BALt t n) (r : REY t n b) : BALt (tK_Ip_breakUp x t n) n := by
  unfold tK_Ip_breakUp
  have f2 := r.2.2.1
  rw [← r.1.ir.1.2.2.1] at f2
  have f3 := r.2.2.2.1
  rw [← r.1.ir.1.2.2.2] at f3
  by_cases hx : x.toNatClampNeg < n 1 ∧ x = nI x.toNatClampNeg
  · rw [if_pos hx]
    have hi := r.2.2.2.2.1 x.toNatClampNeg (by rw [← r.1.ca.1]; exact hx.1)
    rw [← (r.1.ca.2.2 _ hx.1).2.1] at hi
    by_cases h34 : (t.2 1 x.toNatClampNeg).1 3 = 0 ∧ (t.2 1 x.toNatClampNeg).1 4 = 0
    · rw [if_pos h34]
      by_cases h5 : (t.2 1 x.toNatClampNeg).1 0 < 20
      · rw [if_pos h5]
        show BAL ((t.1 37).1 0) ((t.1 43).1 0) ((t.1 45).1 0 + (t.2 1 x.toNatClampNeg).1 5) ((t.1 47).1 0) ((t.1 36).2.1 0) (t.1 38).2.1 (t.1 44).2.1 (lfd ((t.1 46).2.1) ((t.2 1 x.toNatClampNeg).2.2.1) 4) (t.1 48).2.1 (t.1 41).2.1 (t.1 39).2.1 (t.1 40).2.1 ((vup t.2 1 x.toNatClampNeg (upd ((t.2 1 x.toNatClampNeg).1) 4 (1), (t.2 1 x.toNatClampNeg).2)) 1) (n 1)
        rw [vup_1]
        exact BAL.buc h hx.1 h34.2 (by rw [v1_eq]; decide) (by omega)
      · rw [if_neg h5]
        show BAL ((t.1 37).1 0) ((t.1 43).1 0) ((t.1 45).1 0) ((t.1 47).1 0 + (t.2 1 x.toNatClampNeg).1 5) ((t.1 36).2.1 0) (t.1 38).2.1 (t.1 44).2.1 (t.1 46).2.1 (lfd ((t.1 48).2.1) ((t.2 1 x.toNatClampNeg).2.2.1) 4) (t.1 41).2.1 (t.1 39).2.1 (t.1 40).2.1 ((vup t.2 1 x.toNatClampNeg (upd ((t.2 1 x.toNatClampNeg).1) 4 (1), (t.2 1 x.toNatClampNeg).2)) 1) (n 1)
        rw [vup_1]
        exact BAL.bud h hx.1 h34.2 (by rw [v1_eq]; decide) (by omega)
    · rw [if_neg h34]; exact h
  · rw [if_neg hx]; exact h
theorem BALt_pour {t : zTT} {n : Nat → Nat} {b : Nat} {X9 : zTr} (h : BALt t n) (r : REY t n b) : BALt (tK_Ip_pour X9 t n) (nK_Ip_pour t n) := by
  unfold tK_Ip_pour nK_Ip_pour
  have f1 := r.2.1
  rw [← r.1.ir.1.2.1] at f1
  have f9 := r.1.la.1
  rw [← r.1.ir.1.2.1] at f9
  by_cases h0 : ¬ n 0 = 0
  · rw [if_pos h0, if_pos h0]
    by_cases h12 : ¬ (t.1 43).1 0 = 0 ∧ 1250 ≤ (t.1 42).1 0
    · rw [if_pos h12, if_pos h12]
      by_cases h3 : n 1 < 30
      · rw [if_pos h3, if_pos h3]
        have hm : 0 ≤ (amI t (t.2 0 0)).toInt ∧ (amI t (t.2 0 0)).toInt ≤ ((t.1 43).1 0).toInt := by
          have hn := (r.1.mo.2.2 0 (by omega)).2.1
          have hl := fa_cnt_le (fun k => tmB ((t.2 0 0).2.1 k)) 108
          rw [← hn] at hl
          have e2 : (2 * nI ((t.2 0 0).2.2.2 0)).toInt = 2 * ((t.2 0 0).2.2.2 0 : Nat) := by rw [show (2 * nI ((t.2 0 0).2.2.2 0) : Int32) = nI (2 * (t.2 0 0).2.2.2 0) from pk_mul _ _, nI_toInt (by omega)]; omega
          unfold amI
          by_cases q : (t.1 43).1 0 < 2 * nI ((t.2 0 0).2.2.2 0)
          · rw [if_pos q]
            omega
          · rw [if_neg q]
            rw [Int32.lt_iff_toInt_lt] at q
            omega
        show BAL ((t.1 37).1 0) ((t.1 43).1 0 - amI t (t.2 0 0)) ((t.1 45).1 0) ((t.1 47).1 0) ((t.1 36).2.1 0) (t.1 38).2.1 (mvS (t.1 44).2.1 (amI t (t.2 0 0)) ((t.1 43).1 0) 4) (t.1 46).2.1 (t.1 48).2.1 (t.1 41).2.1 (t.1 39).2.1 (t.1 40).2.1 (z_apV (t.2 1) (n 1) (caV t (t.2 0 0) X9 (caF t (t.2 0 0) X9))) (n 1 + 1)
        exact BAL.po h (by omega) caV_4 (by rw [caV_5, Int32.zero_add]) (fun e => rfl)
      · rw [if_neg h3, if_neg h3]; exact h
    · rw [if_neg h12, if_neg h12]; exact h
  · rw [if_neg h0, if_neg h0]; exact h
def REZ (t : zTT) (n : Nat → Nat) (b : Nat) : Prop := REY t n b ∧ BALt t n
theorem REZ.up {t : zTT} {n : Nat → Nat} {b c : Nat} (h : REZ t n b) (e : b ≤ c) : REZ t n c := ⟨h.1.up e, h.2⟩
theorem REZ.n {t : zTT} {n m : Nat → Nat} {b : Nat} (h : REZ t n b) (e : m = n) : REZ t m b := by
  subst e
  exact h
theorem RZ_draw {t : zTT} {n n1 n2 : Nat → Nat} {b : Nat} (hb : b ≤ 100000) (k x y p q : Int32) (h : REZ t n b) (e1 : n1 = n) (e2 : n2 = n1) : REZ (tK_Mm_draw k x y p q (tK_Ip_draw k x y p q t)) n2 (b + 48) := by
  have hC : BALt (tK_Ip_draw k x y p q t) n1 := h.2.c (n1 := n1) (NEB_Ip_draw k x y p q) (by rw [e1])
  exact ⟨RY_draw hb k x y p q h.1 e1 e2, hC.c (n1 := n2) (NEB_Mm_draw k x y p q) (by rw [e2])⟩
theorem RZ_part {t : zTT} {n n1 n2 : Nat → Nat} {b : Nat} (hb : b ≤ 100000) (r : Int32) (h : REZ t n b) (e1 : n1 = n) (e2 : n2 = n1) : REZ (tK_Mm_part r (tK_Ip_part r t)) n2 (b + 48) := by
  have hC : BALt (tK_Ip_part r t) n1 := h.2.c (n1 := n1) (NEB_Ip_part r) (by rw [e1])
  exact ⟨RY_part hb r h.1 e1 e2, hC.c (n1 := n2) (NEB_Mm_part r) (by rw [e2])⟩
theorem RZ_mill {t : zTT} {n n1 n2 : Nat → Nat} {b : Nat} (hb : b ≤ 100000) (m1 m2 m3 m4 : Int32) (h : REZ t n b) (e1 : n1 = n) (e2 : n2 = n1) : REZ (tK_Mm_mill m1 m2 m3 m4 (tK_Ip_mill m1 m2 m3 m4 t)) n2 (b + 48) := by
  have hC : BALt (tK_Ip_mill m1 m2 m3 m4 t) n1 := h.2.c (n1 := n1) (NEB_Ip_mill m1 m2 m3 m4) (by rw [e1])
  exact ⟨RY_mill hb m1 m2 m3 m4 h.1 e1 e2, hC.c (n1 := n2) (NEB_Mm_mill m1 m2 m3 m4) (by rw [e2])⟩
theorem RZ_makeCores {t : zTT} {n n1 n2 : Nat → Nat} {b : Nat} (hb : b ≤ 100000) (c k : Int32) (h : REZ t n b) (e1 : n1 = n) (e2 : n2 = nK_Mm_makeCores c k (tK_Ip_makeCores c k t) n1) : REZ (tK_Mm_makeCores c k (tK_Ip_makeCores c k t) n1) n2 (b + 48) := by
  have hC : BALt (tK_Ip_makeCores c k t) n1 := h.2.c (n1 := n1) (NEB_Ip_makeCores c k) (by rw [e1])
  exact ⟨RY_makeCores hb c k h.1 e1 e2, hC.c (n1 := n2) (NEB_Mm_makeCores (n := n1) c k) (by rw [e2]; exact n1_Mm_makeCores _ _)⟩
theorem RZ_hours {t : zTT} {n n1 n2 : Nat → Nat} {b : Nat} (hb : b ≤ 100000) (x : Int32) (h : REZ t n b) (e1 : n1 = n) (e2 : n2 = nK_Mm_hours x (tK_Ip_hours x t) n1) : REZ (tK_Mm_hours x (tK_Ip_hours x t) n1) n2 (b + 48) := by
  have hC : BALt (tK_Ip_hours x t) n1 := h.2.c (n1 := n1) (NEB_Ip_hours x) (by rw [e1])
  exact ⟨RY_hours hb x h.1 e1 e2, hC.c (n1 := n2) (NEB_Mm_hours (n := n1) x) (by rw [e2]; exact n1_Mm_hours _)⟩
theorem RZ_charge {t : zTT} {n n1 n2 : Nat → Nat} {b : Nat} (hb : b ≤ 100000) (k m : Int32) (h : REZ t n b) (e1 : n1 = n) (e2 : n2 = n1) : REZ (tK_Mm_charge k m (tK_Ip_charge k m t)) n2 (b + 48) := by
  have hC : BALt (tK_Ip_charge k m t) n1 := (by rw [e1]; exact BALt_charge hb k m h.2 h.1 : BALt (tK_Ip_charge k m t) n1)
  exact ⟨RY_charge hb k m h.1 e1 e2, hC.c (n1 := n2) (NEB_Mm_charge k m) (by rw [e2])⟩
theorem RZ_hold {t : zTT} {n n1 n2 : Nat → Nat} {b : Nat} (hb : b ≤ 100000) (x : Int32) (h : REZ t n b) (e1 : n1 = n) (e2 : n2 = n1) : REZ (tK_Mm_hold x (tK_Ip_hold x t)) n2 (b + 48) := by
  have hC : BALt (tK_Ip_hold x t) n1 := (by rw [e1]; exact BALt_hold x h.2 : BALt (tK_Ip_hold x t) n1)
  exact ⟨RY_hold hb x h.1 e1 e2, hC.c (n1 := n2) (NEB_Mm_hold x) (by rw [e2])⟩
theorem RZ_tap {t : zTT} {n n1 n2 : Nat → Nat} {b : Nat} (hb : b ≤ 100000) (m : Int32) (h : REZ t n b) (e1 : n1 = n) (e2 : n2 = n1) : REZ (tK_Mm_tap m (tK_Ip_tap m t)) n2 (b + 48) := by
  have hC : BALt (tK_Ip_tap m t) n1 := (by rw [e1]; exact BALt_tap m h.2 h.1 : BALt (tK_Ip_tap m t) n1)
  exact ⟨RY_tap hb m h.1 e1 e2, hC.c (n1 := n2) (NEB_Mm_tap m) (by rw [e2])⟩
theorem RZ_treat {t : zTT} {n n1 n2 : Nat → Nat} {b : Nat} (hb : b ≤ 100000) (m : Int32) (h : REZ t n b) (e1 : n1 = n) (e2 : n2 = n1) : REZ (tK_Mm_treat m (tK_Ip_treat m t)) n2 (b + 48) := by
  have hC : BALt (tK_Ip_treat m t) n1 := h.2.c (n1 := n1) (NEB_Ip_treat m) (by rw [e1])
  exact ⟨RY_treat hb m h.1 e1 e2, hC.c (n1 := n2) (NEB_Mm_treat m) (by rw [e2])⟩
theorem RZ_pig {t : zTT} {n n1 n2 : Nat → Nat} {b : Nat} (hb : b ≤ 100000) (h : REZ t n b) (e1 : n1 = n) (e2 : n2 = n1) : REZ (tK_Mm_pig (tK_Ip_pig t)) n2 (b + 48) := by
  have hC : BALt (tK_Ip_pig t) n1 := (by rw [e1]; exact BALt_pig hb h.2 h.1 : BALt (tK_Ip_pig t) n1)
  exact ⟨RY_pig hb h.1 e1 e2, hC.c (n1 := n2) (NEB_Mm_pig) (by rw [e2])⟩
theorem RZ_leastCost {t : zTT} {n n1 n2 : Nat → Nat} {b : Nat} (hb : b ≤ 100000) (x1 x2 x3 x4 x5 x6 : Int32) (h : REZ t n b) (e1 : n1 = n) (e2 : n2 = n1) : REZ (tK_Mm_leastCost x1 x2 x3 x4 x5 x6 (tK_Ip_leastCost x1 x2 x3 x4 x5 x6 t)) n2 (b + 48) := by
  have hC : BALt (tK_Ip_leastCost x1 x2 x3 x4 x5 x6 t) n1 := h.2.c (n1 := n1) (NEB_Ip_leastCost x1 x2 x3 x4 x5 x6) (by rw [e1])
  exact ⟨RY_leastCost hb x1 x2 x3 x4 x5 x6 h.1 e1 e2, hC.c (n1 := n2) (NEB_Mm_leastCost x1 x2 x3 x4 x5 x6) (by rw [e2])⟩
theorem RZ_minutes {t : zTT} {n n1 n2 : Nat → Nat} {b : Nat} (hb : b ≤ 100000) (x : Int32) (h : REZ t n b) (e1 : n1 = n) (e2 : n2 = n1) : REZ (tK_Mm_minutes x (tK_Ip_minutes x t n) n1) n2 (b + 48) := by
  have hC : BALt (tK_Ip_minutes x t n) n1 := h.2.c (n1 := n1) (NEB_Ip_minutes (n := n) x) (by rw [e1])
  exact ⟨RY_minutes hb x h.1 e1 e2, hC.c (n1 := n2) (NEB_Mm_minutes (n := n1) x) (by rw [e2])⟩
theorem RZ_mould {t : zTT} {n n1 n2 : Nat → Nat} {b : Nat} (hb : b ≤ 100000) (h : REZ t n b) (e1 : n1 = nK_Ip_mould t n) (e2 : n2 = nK_Mm_mould (tK_Ip_mould t n) n1) : REZ (tK_Mm_mould (tK_Ip_mould t n) n1) n2 (b + 48) := by
  have hC : BALt (tK_Ip_mould t n) n1 := h.2.c (n1 := n1) (NEB_Ip_mould (n := n)) (by rw [e1]; exact n1_Ip_mould)
  exact ⟨RY_mould hb h.1 e1 e2, hC.c (n1 := n2) (NEB_Mm_mould (n := n1)) (by rw [e2]; exact n1_Mm_mould)⟩
theorem RZ_pour {t : zTT} {n n1 n2 : Nat → Nat} {b : Nat} {X9 : zTr} {S9 : zSC} (hx : ¬ n 3 = 0 → ¬ fa_cnt (fun k => decide ((t.2 3 0).2.1 k = 103)) 12 = 0 ∧ (t.2 4 0).2.2.2 0 < 9) (hb : b ≤ 100000) (h : REZ t n b) (e1 : n1 = nK_Ip_pour t n) (e2 : n2 = nK_Mm_pour (tK_Ip_pour X9 t n) n1) : REZ (tK_Mm_pour S9 (tK_Ip_pour X9 t n) n1) n2 (b + 48) := by
  have hC : BALt (tK_Ip_pour X9 t n) n1 := (by rw [e1]; exact BALt_pour h.2 h.1 : BALt (tK_Ip_pour X9 t n) n1)
  exact ⟨RY_pour hx hb h.1 e1 e2, hC.c (n1 := n2) (NEB_Mm_pour (n := n1)) (by rw [e2]; exact n1_Mm_pour)⟩
theorem RZ_weld {t : zTT} {n n1 n2 : Nat → Nat} {b : Nat} (hb : b ≤ 100000) (x : Int32) (h : REZ t n b) (e1 : n1 = n) (e2 : n2 = n1) : REZ (tK_Mm_weld x (tK_Ip_weld x t n) n1) n2 (b + 48) := by
  have hC : BALt (tK_Ip_weld x t n) n1 := (by rw [e1]; exact BALt_weld x h.2 : BALt (tK_Ip_weld x t n) n1)
  exact ⟨RY_weld hb x h.1 e1 e2, hC.c (n1 := n2) (NEB_Mm_weld (n := n1) x) (by rw [e2])⟩
theorem RZ_deliver {t : zTT} {n n1 n2 : Nat → Nat} {b : Nat} (hb : b ≤ 100000) (x : Int32) (h : REZ t n b) (e1 : n1 = n) (e2 : n2 = n1) : REZ (tK_Mm_deliver x (tK_Ip_deliver x t n) n1) n2 (b + 48) := by
  have hC : BALt (tK_Ip_deliver x t n) n1 := (by rw [e1]; exact BALt_deliver x h.2 : BALt (tK_Ip_deliver x t n) n1)
  exact ⟨RY_deliver hb x h.1 e1 e2, hC.c (n1 := n2) (NEB_Mm_deliver (n := n1) x) (by rw [e2])⟩
theorem RZ_breakUp {t : zTT} {n n1 n2 : Nat → Nat} {b : Nat} (hb : b ≤ 100000) (x : Int32) (h : REZ t n b) (e1 : n1 = n) (e2 : n2 = n1) : REZ (tK_Mm_breakUp x (tK_Ip_breakUp x t n) n1) n2 (b + 48) := by
  have hC : BALt (tK_Ip_breakUp x t n) n1 := (by rw [e1]; exact BALt_breakUp hb x h.2 h.1 : BALt (tK_Ip_breakUp x t n) n1)
  exact ⟨RY_breakUp hb x h.1 e1 e2, hC.c (n1 := n2) (NEB_Mm_breakUp (n := n1) x) (by rw [e2])⟩
