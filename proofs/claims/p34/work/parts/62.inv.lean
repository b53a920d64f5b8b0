abbrev zTT : Type := (Nat → Int32) × (Nat → Int32) × Nat × Nat × (Nat → Int32)
def KDL (ad : Nat → Nat) (t : zTT) : List (zE → Prop) := [fun e => e = .inr (11, [.ref (ad 1), .ref (ad 5), .ref (ad 18), .ref (ad 31), .ref (ad 32), .ref (ad 36), .ref (ad 42), .ref (ad 45), .ref (ad 47), .ref (ad 49), .ref (ad 50), .ref (ad 51)]), fun e => e = .inr (8, [.ref (ad 2), .ref (ad 3), .ref (ad 4), .int (nI t.2.2.1)]), fun e => e = .inl (1, 108, .inl t.1), fun e => ∃ (f : Nat → Int32), e = .inl (2, 108, .inl f), fun e => ∃ (h : Nat → Nat), e = .inl (0, 108, .inl (fun k => nI (h k))), fun e => ∃ (x : Int32) (y : Int32), e = .inr (10, [.ref (ad 6), .ref (ad 7), .ref (ad 8), .ref (ad 15), .ref (ad 16), .ref (ad 17), .int x, .int y]), fun e => ∃ (f : Nat → Int32), e = .inl (1, 108, .inl f), fun e => ∃ (f : Nat → Int32), e = .inl (0, 108, .inl f), fun e => ∃ (x : Int32), e = .inr (2, [.ref (ad 9), .ref (ad 10), .ref (ad 11), .ref (ad 12), .ref (ad 13), .ref (ad 14), .int x]), fun e => ∃ (f : Nat → Int32), e = .inl (0, 108, .inl f), fun e => ∃ (f : Nat → Int32), e = .inl (0, 108, .inl f), fun e => ∃ (f : Nat → Int32), e = .inl (0, 108, .inl f), fun e => ∃ (f : Nat → Int32), e = .inl (0, 108, .inl f), fun e => ∃ (f : Nat → Int32), e = .inl (0, 108, .inl f), fun e => ∃ (f : Nat → Int32), e = .inl (0, 108, .inl f), fun e => ∃ (f : Nat → Int32), (∀ c, c < 108 → f c = 0 ∨ f c = 1) ∧ e = .inl (2, 108, .inl f), fun e => ∃ (f : Nat → Int32), e = .inl (2, 108, .inl f), fun e => ∃ (h : Nat → Nat), e = .inl (0, 108, .inl (fun k => nI (h k))), fun e => ∃ (x : Int32) (y : Int32), e = .inr (10, [.ref (ad 19), .ref (ad 20), .ref (ad 21), .ref (ad 28), .ref (ad 29), .ref (ad 30), .int x, .int y]), fun e => ∃ (f : Nat → Int32), e = .inl (1, 108, .inl f), fun e => ∃ (f : Nat → Int32), e = .inl (0, 108, .inl f), fun e => ∃ (x : Int32), e = .inr (2, [.ref (ad 22), .ref (ad 23), .ref (ad 24), .ref (ad 25), .ref (ad 26), .ref (ad 27), .int x]), fun e => ∃ (f : Nat → Int32), e = .inl (0, 108, .inl f), fun e => ∃ (f : Nat → Int32), e = .inl (0, 108, .inl f), fun e => ∃ (f : Nat → Int32), e = .inl (0, 108, .inl f), fun e => ∃ (f : Nat → Int32), e = .inl (0, 108, .inl f), fun e => ∃ (f : Nat → Int32), e = .inl (0, 108, .inl f), fun e => ∃ (f : Nat → Int32), e = .inl (0, 108, .inl f), fun e => ∃ (f : Nat → Int32), e = .inl (2, 108, .inl f), fun e => ∃ (f : Nat → Int32), e = .inl (2, 108, .inl f), fun e => ∃ (h : Nat → Nat), e = .inl (0, 108, .inl (fun k => nI (h k))), fun e => ∃ (x1 : Int32) (x2 : Int32) (x3 : Int32) (x4 : Int32) (x5 : Int32), e = .inr (4, [.int x1, .int x2, .int x3, .int x4, .int x5]), fun e => ∃ (n : Nat), (n ≤ 20) ∧ e = .inr (1, [.ref (ad 33), .ref (ad 34), .ref (ad 35), .int (nI n)]), fun e => ∃ (f : Nat → Int32), e = .inl (0, 20, .inl f), fun e => ∃ (f : Nat → Int32), e = .inl (0, 20, .inl f), fun e => ∃ (f : Nat → Int32), e = .inl (0, 20, .inl f), fun e => ∃ (x : Int64), e = .inr (3, [.ref (ad 37), .ref (ad 39), .ref (ad 40), .ref (ad 41), .long x]), fun e => ∃ (x : Int32), e = .inr (6, [.ref (ad 38), .int x]), fun e => ∃ (f : Nat → Int64), e = .inl (3, 4, .inr (.inl f)), fun e => ∃ (f : Nat → Int64), e = .inl (3, 4, .inr (.inl f)), fun e => ∃ (f : Nat → Int64), e = .inl (3, 4, .inr (.inl f)), fun e => ∃ (f : Nat → Int64), e = .inl (3, 4, .inr (.inl f)), fun e => ∃ (x : Int32) (y : Int32) (z : Int32), (z = 0 ∨ z = 1) ∧ e = .inr (5, [.ref (ad 43), .int x, .int y, .int z]), fun e => ∃ (x : Int32), (0 ≤ x) ∧ e = .inr (6, [.ref (ad 44), .int x]), fun e => ∃ (f : Nat → Int64), e = .inl (3, 4, .inr (.inl f)), fun e => ∃ (x : Int32), e = .inr (6, [.ref (ad 46), .int x]), fun e => ∃ (f : Nat → Int64), e = .inl (3, 4, .inr (.inl f)), fun e => ∃ (x : Int32), e = .inr (6, [.ref (ad 48), .int x]), fun e => ∃ (f : Nat → Int64), e = .inl (3, 4, .inr (.inl f)), fun e => e = .inr (9, [.int (t.2.2.2.2 0), .int (t.2.2.2.2 1), .int (t.2.2.2.2 2)]), fun e => ∃ (x : Int32) (d : Nat) (y : Int32), e = .inr (13, [.int x, .ref d, .int y]), fun e => ∃ (x : Int32) (d : Nat) (y : Int32), e = .inr (13, [.int x, .ref d, .int y]), fun e => ∃ (th : Int32) (cl : Int32) (wa : Int32) (co_ : Int32) (fi : Int32) (bu : Int32) (ho : Int32) (lh : Int32) (mg : Int32) (wd : Int32) (po : Int64) (de : Int64), e = .inr (12, [.int th, .ref (ad 53), .int (nI t.2.2.2.1), .ref (ad 54), .ref (ad 55), .ref (ad 56), .ref (ad 57), .ref (ad 58), .ref (ad 59), .ref (ad 60), .ref (ad 61), .int cl, .int wa, .int co_, .int fi, .int bu, .int ho, .ref (ad 62), .ref (ad 63), .ref (ad 64), .int lh, .int mg, .int wd, .int (t.2.2.2.2 3), .int (t.2.2.2.2 4), .ref (ad 65), .ref (ad 66), .ref (ad 67), .ref (ad 68), .long po, .long de]), fun e => e = .inl (1, 108, .inl t.2.1), fun e => ∃ (f : Nat → Int32), e = .inl (0, 108, .inl f), fun e => ∃ (f : Nat → Int32), e = .inl (0, 108, .inl f), fun e => ∃ (f : Nat → Int32), e = .inl (0, 108, .inl f), fun e => ∃ (f : Nat → Int32), e = .inl (0, 108, .inl f), fun e => ∃ (f : Nat → Int32), e = .inl (0, 108, .inl f), fun e => ∃ (f : Nat → Int32), e = .inl (2, 108, .inl f), fun e => ∃ (h : Nat → Nat), e = .inl (0, 108, .inl (fun k => nI (h k))), fun e => ∃ (f : Nat → Int32), e = .inl (0, 108, .inl f), fun e => ∃ (x : Int32) (d : Nat) (y : Int32), e = .inr (13, [.int x, .ref d, .int y]), fun e => ∃ (f : Nat → Int32), e = .inl (0, 4, .inl f), fun e => ∃ (f : Nat → Int64), e = .inl (3, 16, .inr (.inl f)), fun e => ∃ (x : Int32) (d : Nat) (y : Int32), e = .inr (13, [.int x, .ref d, .int y]), fun e => ∃ (x : Int32) (d : Nat) (y : Int32), e = .inr (13, [.int x, .ref d, .int y]), fun e => ∃ (x : Int32) (d : Nat) (y : Int32), e = .inr (13, [.int x, .ref d, .int y]), fun e => ∃ (x : Int32) (d : Nat) (y : Int32), e = .inr (13, [.int x, .ref d, .int y]), fun e => ∃ (f : Nat → Int64), e = .inl (3, 1, .inr (.inl f)), fun e => ∃ (f : Nat → UInt64), e = .inl (4, 1, .inr (.inr (.inr (.inl f))))]
def KD (ad : Nat → Nat) (t : zTT) (i : Nat) (e : zE) : Prop := (KDL ad t).getD i (fun _ => True) e
theorem kd_0 {ad : Nat → Nat} {t : zTT} {e : zE} : KD ad t 0 e ↔ (e = .inr (11, [.ref (ad 1), .ref (ad 5), .ref (ad 18), .ref (ad 31), .ref (ad 32), .ref (ad 36), .ref (ad 42), .ref (ad 45), .ref (ad 47), .ref (ad 49), .ref (ad 50), .ref (ad 51)])) := Iff.rfl
theorem kd_1 {ad : Nat → Nat} {t : zTT} {e : zE} : KD ad t 1 e ↔ (e = .inr (8, [.ref (ad 2), .ref (ad 3), .ref (ad 4), .int (nI t.2.2.1)])) := Iff.rfl
theorem kd_2 {ad : Nat → Nat} {t : zTT} {e : zE} : KD ad t 2 e ↔ (e = .inl (1, 108, .inl t.1)) := Iff.rfl
theorem kd_3 {ad : Nat → Nat} {t : zTT} {e : zE} : KD ad t 3 e ↔ (∃ (f : Nat → Int32), e = .inl (2, 108, .inl f)) := Iff.rfl
theorem kd_4 {ad : Nat → Nat} {t : zTT} {e : zE} : KD ad t 4 e ↔ (∃ (h : Nat → Nat), e = .inl (0, 108, .inl (fun k => nI (h k)))) := Iff.rfl
theorem kd_5 {ad : Nat → Nat} {t : zTT} {e : zE} : KD ad t 5 e ↔ (∃ (x : Int32) (y : Int32), e = .inr (10, [.ref (ad 6), .ref (ad 7), .ref (ad 8), .ref (ad 15), .ref (ad 16), .ref (ad 17), .int x, .int y])) := Iff.rfl
theorem kd_6 {ad : Nat → Nat} {t : zTT} {e : zE} : KD ad t 6 e ↔ (∃ (f : Nat → Int32), e = .inl (1, 108, .inl f)) := Iff.rfl
theorem kd_7 {ad : Nat → Nat} {t : zTT} {e : zE} : KD ad t 7 e ↔ (∃ (f : Nat → Int32), e = .inl (0, 108, .inl f)) := Iff.rfl
theorem kd_8 {ad : Nat → Nat} {t : zTT} {e : zE} : KD ad t 8 e ↔ (∃ (x : Int32), e = .inr (2, [.ref (ad 9), .ref (ad 10), .ref (ad 11), .ref (ad 12), .ref (ad 13), .ref (ad 14), .int x])) := Iff.rfl
theorem kd_9 {ad : Nat → Nat} {t : zTT} {e : zE} : KD ad t 9 e ↔ (∃ (f : Nat → Int32), e = .inl (0, 108, .inl f)) := Iff.rfl
theorem kd_10 {ad : Nat → Nat} {t : zTT} {e : zE} : KD ad t 10 e ↔ (∃ (f : Nat → Int32), e = .inl (0, 108, .inl f)) := Iff.rfl
theorem kd_11 {ad : Nat → Nat} {t : zTT} {e : zE} : KD ad t 11 e ↔ (∃ (f : Nat → Int32), e = .inl (0, 108, .inl f)) := Iff.rfl
theorem kd_12 {ad : Nat → Nat} {t : zTT} {e : zE} : KD ad t 12 e ↔ (∃ (f : Nat → Int32), e = .inl (0, 108, .inl f)) := Iff.rfl
theorem kd_13 {ad : Nat → Nat} {t : zTT} {e : zE} : KD ad t 13 e ↔ (∃ (f : Nat → Int32), e = .inl (0, 108, .inl f)) := Iff.rfl
theorem kd_14 {ad : Nat → Nat} {t : zTT} {e : zE} : KD ad t 14 e ↔ (∃ (f : Nat → Int32), e = .inl (0, 108, .inl f)) := Iff.rfl
theorem kd_15 {ad : Nat → Nat} {t : zTT} {e : zE} : KD ad t 15 e ↔ (∃ (f : Nat → Int32), (∀ c, c < 108 → f c = 0 ∨ f c = 1) ∧ e = .inl (2, 108, .inl f)) := Iff.rfl
theorem kd_16 {ad : Nat → Nat} {t : zTT} {e : zE} : KD ad t 16 e ↔ (∃ (f : Nat → Int32), e = .inl (2, 108, .inl f)) := Iff.rfl
theorem kd_17 {ad : Nat → Nat} {t : zTT} {e : zE} : KD ad t 17 e ↔ (∃ (h : Nat → Nat), e = .inl (0, 108, .inl (fun k => nI (h k)))) := Iff.rfl
theorem kd_18 {ad : Nat → Nat} {t : zTT} {e : zE} : KD ad t 18 e ↔ (∃ (x : Int32) (y : Int32), e = .inr (10, [.ref (ad 19), .ref (ad 20), .ref (ad 21), .ref (ad 28), .ref (ad 29), .ref (ad 30), .int x, .int y])) := Iff.rfl
theorem kd_19 {ad : Nat → Nat} {t : zTT} {e : zE} : KD ad t 19 e ↔ (∃ (f : Nat → Int32), e = .inl (1, 108, .inl f)) := Iff.rfl
theorem kd_20 {ad : Nat → Nat} {t : zTT} {e : zE} : KD ad t 20 e ↔ (∃ (f : Nat → Int32), e = .inl (0, 108, .inl f)) := Iff.rfl
theorem kd_21 {ad : Nat → Nat} {t : zTT} {e : zE} : KD ad t 21 e ↔ (∃ (x : Int32), e = .inr (2, [.ref (ad 22), .ref (ad 23), .ref (ad 24), .ref (ad 25), .ref (ad 26), .ref (ad 27), .int x])) := Iff.rfl
theorem kd_22 {ad : Nat → Nat} {t : zTT} {e : zE} : KD ad t 22 e ↔ (∃ (f : Nat → Int32), e = .inl (0, 108, .inl f)) := Iff.rfl
theorem kd_23 {ad : Nat → Nat} {t : zTT} {e : zE} : KD ad t 23 e ↔ (∃ (f : Nat → Int32), e = .inl (0, 108, .inl f)) := Iff.rfl
theorem kd_24 {ad : Nat → Nat} {t : zTT} {e : zE} : KD ad t 24 e ↔ (∃ (f : Nat → Int32), e = .inl (0, 108, .inl f)) := Iff.rfl
theorem kd_25 {ad : Nat → Nat} {t : zTT} {e : zE} : KD ad t 25 e ↔ (∃ (f : Nat → Int32), e = .inl (0, 108, .inl f)) := Iff.rfl
theorem kd_26 {ad : Nat → Nat} {t : zTT} {e : zE} : KD ad t 26 e ↔ (∃ (f : Nat → Int32), e = .inl (0, 108, .inl f)) := Iff.rfl
theorem kd_27 {ad : Nat → Nat} {t : zTT} {e : zE} : KD ad t 27 e ↔ (∃ (f : Nat → Int32), e = .inl (0, 108, .inl f)) := Iff.rfl
theorem kd_28 {ad : Nat → Nat} {t : zTT} {e : zE} : KD ad t 28 e ↔ (∃ (f : Nat → Int32), e = .inl (2, 108, .inl f)) := Iff.rfl
theorem kd_29 {ad : Nat → Nat} {t : zTT} {e : zE} : KD ad t 29 e ↔ (∃ (f : Nat → Int32), e = .inl (2, 108, .inl f)) := Iff.rfl
theorem kd_30 {ad : Nat → Nat} {t : zTT} {e : zE} : KD ad t 30 e ↔ (∃ (h : Nat → Nat), e = .inl (0, 108, .inl (fun k => nI (h k)))) := Iff.rfl
theorem kd_31 {ad : Nat → Nat} {t : zTT} {e : zE} : KD ad t 31 e ↔ (∃ (x1 : Int32) (x2 : Int32) (x3 : Int32) (x4 : Int32) (x5 : Int32), e = .inr (4, [.int x1, .int x2, .int x3, .int x4, .int x5])) := Iff.rfl
theorem kd_32 {ad : Nat → Nat} {t : zTT} {e : zE} : KD ad t 32 e ↔ (∃ (n : Nat), (n ≤ 20) ∧ e = .inr (1, [.ref (ad 33), .ref (ad 34), .ref (ad 35), .int (nI n)])) := Iff.rfl
theorem kd_33 {ad : Nat → Nat} {t : zTT} {e : zE} : KD ad t 33 e ↔ (∃ (f : Nat → Int32), e = .inl (0, 20, .inl f)) := Iff.rfl
theorem kd_34 {ad : Nat → Nat} {t : zTT} {e : zE} : KD ad t 34 e ↔ (∃ (f : Nat → Int32), e = .inl (0, 20, .inl f)) := Iff.rfl
theorem kd_35 {ad : Nat → Nat} {t : zTT} {e : zE} : KD ad t 35 e ↔ (∃ (f : Nat → Int32), e = .inl (0, 20, .inl f)) := Iff.rfl
theorem kd_36 {ad : Nat → Nat} {t : zTT} {e : zE} : KD ad t 36 e ↔ (∃ (x : Int64), e = .inr (3, [.ref (ad 37), .ref (ad 39), .ref (ad 40), .ref (ad 41), .long x])) := Iff.rfl
theorem kd_37 {ad : Nat → Nat} {t : zTT} {e : zE} : KD ad t 37 e ↔ (∃ (x : Int32), e = .inr (6, [.ref (ad 38), .int x])) := Iff.rfl
theorem kd_38 {ad : Nat → Nat} {t : zTT} {e : zE} : KD ad t 38 e ↔ (∃ (f : Nat → Int64), e = .inl (3, 4, .inr (.inl f))) := Iff.rfl
theorem kd_39 {ad : Nat → Nat} {t : zTT} {e : zE} : KD ad t 39 e ↔ (∃ (f : Nat → Int64), e = .inl (3, 4, .inr (.inl f))) := Iff.rfl
theorem kd_40 {ad : Nat → Nat} {t : zTT} {e : zE} : KD ad t 40 e ↔ (∃ (f : Nat → Int64), e = .inl (3, 4, .inr (.inl f))) := Iff.rfl
theorem kd_41 {ad : Nat → Nat} {t : zTT} {e : zE} : KD ad t 41 e ↔ (∃ (f : Nat → Int64), e = .inl (3, 4, .inr (.inl f))) := Iff.rfl
theorem kd_42 {ad : Nat → Nat} {t : zTT} {e : zE} : KD ad t 42 e ↔ (∃ (x : Int32) (y : Int32) (z : Int32), (z = 0 ∨ z = 1) ∧ e = .inr (5, [.ref (ad 43), .int x, .int y, .int z])) := Iff.rfl
theorem kd_43 {ad : Nat → Nat} {t : zTT} {e : zE} : KD ad t 43 e ↔ (∃ (x : Int32), (0 ≤ x) ∧ e = .inr (6, [.ref (ad 44), .int x])) := Iff.rfl
theorem kd_44 {ad : Nat → Nat} {t : zTT} {e : zE} : KD ad t 44 e ↔ (∃ (f : Nat → Int64), e = .inl (3, 4, .inr (.inl f))) := Iff.rfl
theorem kd_45 {ad : Nat → Nat} {t : zTT} {e : zE} : KD ad t 45 e ↔ (∃ (x : Int32), e = .inr (6, [.ref (ad 46), .int x])) := Iff.rfl
theorem kd_46 {ad : Nat → Nat} {t : zTT} {e : zE} : KD ad t 46 e ↔ (∃ (f : Nat → Int64), e = .inl (3, 4, .inr (.inl f))) := Iff.rfl
theorem kd_47 {ad : Nat → Nat} {t : zTT} {e : zE} : KD ad t 47 e ↔ (∃ (x : Int32), e = .inr (6, [.ref (ad 48), .int x])) := Iff.rfl
theorem kd_48 {ad : Nat → Nat} {t : zTT} {e : zE} : KD ad t 48 e ↔ (∃ (f : Nat → Int64), e = .inl (3, 4, .inr (.inl f))) := Iff.rfl
theorem kd_49 {ad : Nat → Nat} {t : zTT} {e : zE} : KD ad t 49 e ↔ (e = .inr (9, [.int (t.2.2.2.2 0), .int (t.2.2.2.2 1), .int (t.2.2.2.2 2)])) := Iff.rfl
theorem kd_50 {ad : Nat → Nat} {t : zTT} {e : zE} : KD ad t 50 e ↔ (∃ (x : Int32) (d : Nat) (y : Int32), e = .inr (13, [.int x, .ref d, .int y])) := Iff.rfl
theorem kd_51 {ad : Nat → Nat} {t : zTT} {e : zE} : KD ad t 51 e ↔ (∃ (x : Int32) (d : Nat) (y : Int32), e = .inr (13, [.int x, .ref d, .int y])) := Iff.rfl
theorem kd_52 {ad : Nat → Nat} {t : zTT} {e : zE} : KD ad t 52 e ↔ (∃ (th : Int32) (cl : Int32) (wa : Int32) (co_ : Int32) (fi : Int32) (bu : Int32) (ho : Int32) (lh : Int32) (mg : Int32) (wd : Int32) (po : Int64) (de : Int64), e = .inr (12, [.int th, .ref (ad 53), .int (nI t.2.2.2.1), .ref (ad 54), .ref (ad 55), .ref (ad 56), .ref (ad 57), .ref (ad 58), .ref (ad 59), .ref (ad 60), .ref (ad 61), .int cl, .int wa, .int co_, .int fi, .int bu, .int ho, .ref (ad 62), .ref (ad 63), .ref (ad 64), .int lh, .int mg, .int wd, .int (t.2.2.2.2 3), .int (t.2.2.2.2 4), .ref (ad 65), .ref (ad 66), .ref (ad 67), .ref (ad 68), .long po, .long de])) := Iff.rfl
theorem kd_53 {ad : Nat → Nat} {t : zTT} {e : zE} : KD ad t 53 e ↔ (e = .inl (1, 108, .inl t.2.1)) := Iff.rfl
theorem kd_54 {ad : Nat → Nat} {t : zTT} {e : zE} : KD ad t 54 e ↔ (∃ (f : Nat → Int32), e = .inl (0, 108, .inl f)) := Iff.rfl
theorem kd_55 {ad : Nat → Nat} {t : zTT} {e : zE} : KD ad t 55 e ↔ (∃ (f : Nat → Int32), e = .inl (0, 108, .inl f)) := Iff.rfl
theorem kd_56 {ad : Nat → Nat} {t : zTT} {e : zE} : KD ad t 56 e ↔ (∃ (f : Nat → Int32), e = .inl (0, 108, .inl f)) := Iff.rfl
theorem kd_57 {ad : Nat → Nat} {t : zTT} {e : zE} : KD ad t 57 e ↔ (∃ (f : Nat → Int32), e = .inl (0, 108, .inl f)) := Iff.rfl
theorem kd_58 {ad : Nat → Nat} {t : zTT} {e : zE} : KD ad t 58 e ↔ (∃ (f : Nat → Int32), e = .inl (0, 108, .inl f)) := Iff.rfl
theorem kd_59 {ad : Nat → Nat} {t : zTT} {e : zE} : KD ad t 59 e ↔ (∃ (f : Nat → Int32), e = .inl (2, 108, .inl f)) := Iff.rfl
theorem kd_60 {ad : Nat → Nat} {t : zTT} {e : zE} : KD ad t 60 e ↔ (∃ (h : Nat → Nat), e = .inl (0, 108, .inl (fun k => nI (h k)))) := Iff.rfl
theorem kd_61 {ad : Nat → Nat} {t : zTT} {e : zE} : KD ad t 61 e ↔ (∃ (f : Nat → Int32), e = .inl (0, 108, .inl f)) := Iff.rfl
theorem kd_62 {ad : Nat → Nat} {t : zTT} {e : zE} : KD ad t 62 e ↔ (∃ (x : Int32) (d : Nat) (y : Int32), e = .inr (13, [.int x, .ref d, .int y])) := Iff.rfl
theorem kd_63 {ad : Nat → Nat} {t : zTT} {e : zE} : KD ad t 63 e ↔ (∃ (f : Nat → Int32), e = .inl (0, 4, .inl f)) := Iff.rfl
theorem kd_64 {ad : Nat → Nat} {t : zTT} {e : zE} : KD ad t 64 e ↔ (∃ (f : Nat → Int64), e = .inl (3, 16, .inr (.inl f))) := Iff.rfl
theorem kd_65 {ad : Nat → Nat} {t : zTT} {e : zE} : KD ad t 65 e ↔ (∃ (x : Int32) (d : Nat) (y : Int32), e = .inr (13, [.int x, .ref d, .int y])) := Iff.rfl
theorem kd_66 {ad : Nat → Nat} {t : zTT} {e : zE} : KD ad t 66 e ↔ (∃ (x : Int32) (d : Nat) (y : Int32), e = .inr (13, [.int x, .ref d, .int y])) := Iff.rfl
theorem kd_67 {ad : Nat → Nat} {t : zTT} {e : zE} : KD ad t 67 e ↔ (∃ (x : Int32) (d : Nat) (y : Int32), e = .inr (13, [.int x, .ref d, .int y])) := Iff.rfl
theorem kd_68 {ad : Nat → Nat} {t : zTT} {e : zE} : KD ad t 68 e ↔ (∃ (x : Int32) (d : Nat) (y : Int32), e = .inr (13, [.int x, .ref d, .int y])) := Iff.rfl
theorem kd_69 {ad : Nat → Nat} {t : zTT} {e : zE} : KD ad t 69 e ↔ (∃ (f : Nat → Int64), e = .inl (3, 1, .inr (.inl f))) := Iff.rfl
theorem kd_70 {ad : Nat → Nat} {t : zTT} {e : zE} : KD ad t 70 e ↔ (∃ (f : Nat → UInt64), e = .inl (4, 1, .inr (.inr (.inr (.inl f))))) := Iff.rfl
theorem KD.n5 {ad : Nat → Nat} {t : zTT} {e : zE} : ∀ i, i < 71 → KD ad t i e → ¬ (z_kd e).1 = 0 ∨ ¬ (z_kd e).2.1 = 5 := fun i hi => match i, hi with
  | 0, _ => fun h => by obtain rfl := kd_0.mp h; exact Or.inl (show ¬ (1 : Nat) = 0 by decide)
  | 1, _ => fun h => by obtain rfl := kd_1.mp h; exact Or.inl (show ¬ (1 : Nat) = 0 by decide)
  | 2, _ => fun h => by obtain rfl := kd_2.mp h; exact Or.inr (show ¬ (1 : Nat) = 5 by decide)
  | 3, _ => fun h => by obtain ⟨_, rfl⟩ := kd_3.mp h; exact Or.inr (show ¬ (2 : Nat) = 5 by decide)
  | 4, _ => fun h => by obtain ⟨_, rfl⟩ := kd_4.mp h; exact Or.inr (show ¬ (0 : Nat) = 5 by decide)
  | 5, _ => fun h => by obtain ⟨_, _, rfl⟩ := kd_5.mp h; exact Or.inl (show ¬ (1 : Nat) = 0 by decide)
  | 6, _ => fun h => by obtain ⟨_, rfl⟩ := kd_6.mp h; exact Or.inr (show ¬ (1 : Nat) = 5 by decide)
  | 7, _ => fun h => by obtain ⟨_, rfl⟩ := kd_7.mp h; exact Or.inr (show ¬ (0 : Nat) = 5 by decide)
  | 8, _ => fun h => by obtain ⟨_, rfl⟩ := kd_8.mp h; exact Or.inl (show ¬ (1 : Nat) = 0 by decide)
  | 9, _ => fun h => by obtain ⟨_, rfl⟩ := kd_9.mp h; exact Or.inr (show ¬ (0 : Nat) = 5 by decide)
  | 10, _ => fun h => by obtain ⟨_, rfl⟩ := kd_10.mp h; exact Or.inr (show ¬ (0 : Nat) = 5 by decide)
  | 11, _ => fun h => by obtain ⟨_, rfl⟩ := kd_11.mp h; exact Or.inr (show ¬ (0 : Nat) = 5 by decide)
  | 12, _ => fun h => by obtain ⟨_, rfl⟩ := kd_12.mp h; exact Or.inr (show ¬ (0 : Nat) = 5 by decide)
  | 13, _ => fun h => by obtain ⟨_, rfl⟩ := kd_13.mp h; exact Or.inr (show ¬ (0 : Nat) = 5 by decide)
  | 14, _ => fun h => by obtain ⟨_, rfl⟩ := kd_14.mp h; exact Or.inr (show ¬ (0 : Nat) = 5 by decide)
  | 15, _ => fun h => by obtain ⟨_, _, rfl⟩ := kd_15.mp h; exact Or.inr (show ¬ (2 : Nat) = 5 by decide)
  | 16, _ => fun h => by obtain ⟨_, rfl⟩ := kd_16.mp h; exact Or.inr (show ¬ (2 : Nat) = 5 by decide)
  | 17, _ => fun h => by obtain ⟨_, rfl⟩ := kd_17.mp h; exact Or.inr (show ¬ (0 : Nat) = 5 by decide)
  | 18, _ => fun h => by obtain ⟨_, _, rfl⟩ := kd_18.mp h; exact Or.inl (show ¬ (1 : Nat) = 0 by decide)
  | 19, _ => fun h => by obtain ⟨_, rfl⟩ := kd_19.mp h; exact Or.inr (show ¬ (1 : Nat) = 5 by decide)
  | 20, _ => fun h => by obtain ⟨_, rfl⟩ := kd_20.mp h; exact Or.inr (show ¬ (0 : Nat) = 5 by decide)
  | 21, _ => fun h => by obtain ⟨_, rfl⟩ := kd_21.mp h; exact Or.inl (show ¬ (1 : Nat) = 0 by decide)
  | 22, _ => fun h => by obtain ⟨_, rfl⟩ := kd_22.mp h; exact Or.inr (show ¬ (0 : Nat) = 5 by decide)
  | 23, _ => fun h => by obtain ⟨_, rfl⟩ := kd_23.mp h; exact Or.inr (show ¬ (0 : Nat) = 5 by decide)
  | 24, _ => fun h => by obtain ⟨_, rfl⟩ := kd_24.mp h; exact Or.inr (show ¬ (0 : Nat) = 5 by decide)
  | 25, _ => fun h => by obtain ⟨_, rfl⟩ := kd_25.mp h; exact Or.inr (show ¬ (0 : Nat) = 5 by decide)
  | 26, _ => fun h => by obtain ⟨_, rfl⟩ := kd_26.mp h; exact Or.inr (show ¬ (0 : Nat) = 5 by decide)
  | 27, _ => fun h => by obtain ⟨_, rfl⟩ := kd_27.mp h; exact Or.inr (show ¬ (0 : Nat) = 5 by decide)
  | 28, _ => fun h => by obtain ⟨_, rfl⟩ := kd_28.mp h; exact Or.inr (show ¬ (2 : Nat) = 5 by decide)
  | 29, _ => fun h => by obtain ⟨_, rfl⟩ := kd_29.mp h; exact Or.inr (show ¬ (2 : Nat) = 5 by decide)
  | 30, _ => fun h => by obtain ⟨_, rfl⟩ := kd_30.mp h; exact Or.inr (show ¬ (0 : Nat) = 5 by decide)
  | 31, _ => fun h => by obtain ⟨_, _, _, _, _, rfl⟩ := kd_31.mp h; exact Or.inl (show ¬ (1 : Nat) = 0 by decide)
  | 32, _ => fun h => by obtain ⟨_, _, rfl⟩ := kd_32.mp h; exact Or.inl (show ¬ (1 : Nat) = 0 by decide)
  | 33, _ => fun h => by obtain ⟨_, rfl⟩ := kd_33.mp h; exact Or.inr (show ¬ (0 : Nat) = 5 by decide)
  | 34, _ => fun h => by obtain ⟨_, rfl⟩ := kd_34.mp h; exact Or.inr (show ¬ (0 : Nat) = 5 by decide)
  | 35, _ => fun h => by obtain ⟨_, rfl⟩ := kd_35.mp h; exact Or.inr (show ¬ (0 : Nat) = 5 by decide)
  | 36, _ => fun h => by obtain ⟨_, rfl⟩ := kd_36.mp h; exact Or.inl (show ¬ (1 : Nat) = 0 by decide)
  | 37, _ => fun h => by obtain ⟨_, rfl⟩ := kd_37.mp h; exact Or.inl (show ¬ (1 : Nat) = 0 by decide)
  | 38, _ => fun h => by obtain ⟨_, rfl⟩ := kd_38.mp h; exact Or.inr (show ¬ (3 : Nat) = 5 by decide)
  | 39, _ => fun h => by obtain ⟨_, rfl⟩ := kd_39.mp h; exact Or.inr (show ¬ (3 : Nat) = 5 by decide)
  | 40, _ => fun h => by obtain ⟨_, rfl⟩ := kd_40.mp h; exact Or.inr (show ¬ (3 : Nat) = 5 by decide)
  | 41, _ => fun h => by obtain ⟨_, rfl⟩ := kd_41.mp h; exact Or.inr (show ¬ (3 : Nat) = 5 by decide)
  | 42, _ => fun h => by obtain ⟨_, _, _, _, rfl⟩ := kd_42.mp h; exact Or.inl (show ¬ (1 : Nat) = 0 by decide)
  | 43, _ => fun h => by obtain ⟨_, _, rfl⟩ := kd_43.mp h; exact Or.inl (show ¬ (1 : Nat) = 0 by decide)
  | 44, _ => fun h => by obtain ⟨_, rfl⟩ := kd_44.mp h; exact Or.inr (show ¬ (3 : Nat) = 5 by decide)
  | 45, _ => fun h => by obtain ⟨_, rfl⟩ := kd_45.mp h; exact Or.inl (show ¬ (1 : Nat) = 0 by decide)
  | 46, _ => fun h => by obtain ⟨_, rfl⟩ := kd_46.mp h; exact Or.inr (show ¬ (3 : Nat) = 5 by decide)
  | 47, _ => fun h => by obtain ⟨_, rfl⟩ := kd_47.mp h; exact Or.inl (show ¬ (1 : Nat) = 0 by decide)
  | 48, _ => fun h => by obtain ⟨_, rfl⟩ := kd_48.mp h; exact Or.inr (show ¬ (3 : Nat) = 5 by decide)
  | 49, _ => fun h => by obtain rfl := kd_49.mp h; exact Or.inl (show ¬ (1 : Nat) = 0 by decide)
  | 50, _ => fun h => by obtain ⟨_, _, _, rfl⟩ := kd_50.mp h; exact Or.inl (show ¬ (1 : Nat) = 0 by decide)
  | 51, _ => fun h => by obtain ⟨_, _, _, rfl⟩ := kd_51.mp h; exact Or.inl (show ¬ (1 : Nat) = 0 by decide)
  | 52, _ => fun h => by obtain ⟨_, _, _, _, _, _, _, _, _, _, _, _, rfl⟩ := kd_52.mp h; exact Or.inl (show ¬ (1 : Nat) = 0 by decide)
  | 53, _ => fun h => by obtain rfl := kd_53.mp h; exact Or.inr (show ¬ (1 : Nat) = 5 by decide)
  | 54, _ => fun h => by obtain ⟨_, rfl⟩ := kd_54.mp h; exact Or.inr (show ¬ (0 : Nat) = 5 by decide)
  | 55, _ => fun h => by obtain ⟨_, rfl⟩ := kd_55.mp h; exact Or.inr (show ¬ (0 : Nat) = 5 by decide)
  | 56, _ => fun h => by obtain ⟨_, rfl⟩ := kd_56.mp h; exact Or.inr (show ¬ (0 : Nat) = 5 by decide)
  | 57, _ => fun h => by obtain ⟨_, rfl⟩ := kd_57.mp h; exact Or.inr (show ¬ (0 : Nat) = 5 by decide)
  | 58, _ => fun h => by obtain ⟨_, rfl⟩ := kd_58.mp h; exact Or.inr (show ¬ (0 : Nat) = 5 by decide)
  | 59, _ => fun h => by obtain ⟨_, rfl⟩ := kd_59.mp h; exact Or.inr (show ¬ (2 : Nat) = 5 by decide)
  | 60, _ => fun h => by obtain ⟨_, rfl⟩ := kd_60.mp h; exact Or.inr (show ¬ (0 : Nat) = 5 by decide)
  | 61, _ => fun h => by obtain ⟨_, rfl⟩ := kd_61.mp h; exact Or.inr (show ¬ (0 : Nat) = 5 by decide)
  | 62, _ => fun h => by obtain ⟨_, _, _, rfl⟩ := kd_62.mp h; exact Or.inl (show ¬ (1 : Nat) = 0 by decide)
  | 63, _ => fun h => by obtain ⟨_, rfl⟩ := kd_63.mp h; exact Or.inr (show ¬ (0 : Nat) = 5 by decide)
  | 64, _ => fun h => by obtain ⟨_, rfl⟩ := kd_64.mp h; exact Or.inr (show ¬ (3 : Nat) = 5 by decide)
  | 65, _ => fun h => by obtain ⟨_, _, _, rfl⟩ := kd_65.mp h; exact Or.inl (show ¬ (1 : Nat) = 0 by decide)
  | 66, _ => fun h => by obtain ⟨_, _, _, rfl⟩ := kd_66.mp h; exact Or.inl (show ¬ (1 : Nat) = 0 by decide)
  | 67, _ => fun h => by obtain ⟨_, _, _, rfl⟩ := kd_67.mp h; exact Or.inl (show ¬ (1 : Nat) = 0 by decide)
  | 68, _ => fun h => by obtain ⟨_, _, _, rfl⟩ := kd_68.mp h; exact Or.inl (show ¬ (1 : Nat) = 0 by decide)
  | 69, _ => fun h => by obtain ⟨_, rfl⟩ := kd_69.mp h; exact Or.inr (show ¬ (3 : Nat) = 5 by decide)
  | 70, _ => fun h => by obtain ⟨_, rfl⟩ := kd_70.mp h; exact Or.inr (show ¬ (4 : Nat) = 5 by decide)
  | i + 71, h => absurd h (by omega)
theorem KD.cg {ad : Nat → Nat} {t t2 : zTT} : ∀ (i : Nat) (e : zE), i < 71 → (i = 1 → t2.2.2.1 = t.2.2.1) → (i = 2 → t2.1 = t.1) → (i = 49 → t2.2.2.2.2 0 = t.2.2.2.2 0 ∧ t2.2.2.2.2 1 = t.2.2.2.2 1 ∧ t2.2.2.2.2 2 = t.2.2.2.2 2) → (i = 52 → t2.2.2.2.1 = t.2.2.2.1 ∧ t2.2.2.2.2 3 = t.2.2.2.2 3 ∧ t2.2.2.2.2 4 = t.2.2.2.2 4) → (i = 53 → t2.2.1 = t.2.1) → KD ad t i e → KD ad t2 i e := fun i e hi => match i, hi with
  | 0, _ => fun h1 h2 h49 h52 h53 h => h
  | 1, _ => fun h1 h2 h49 h52 h53 h => by have q := kd_1.mp h; rw [← h1 rfl] at q; exact kd_1.mpr q
  | 2, _ => fun h1 h2 h49 h52 h53 h => by have q := kd_2.mp h; rw [← h2 rfl] at q; exact kd_2.mpr q
  | 3, _ => fun h1 h2 h49 h52 h53 h => h
  | 4, _ => fun h1 h2 h49 h52 h53 h => h
  | 5, _ => fun h1 h2 h49 h52 h53 h => h
  | 6, _ => fun h1 h2 h49 h52 h53 h => h
  | 7, _ => fun h1 h2 h49 h52 h53 h => h
  | 8, _ => fun h1 h2 h49 h52 h53 h => h
  | 9, _ => fun h1 h2 h49 h52 h53 h => h
  | 10, _ => fun h1 h2 h49 h52 h53 h => h
  | 11, _ => fun h1 h2 h49 h52 h53 h => h
  | 12, _ => fun h1 h2 h49 h52 h53 h => h
  | 13, _ => fun h1 h2 h49 h52 h53 h => h
  | 14, _ => fun h1 h2 h49 h52 h53 h => h
  | 15, _ => fun h1 h2 h49 h52 h53 h => h
  | 16, _ => fun h1 h2 h49 h52 h53 h => h
  | 17, _ => fun h1 h2 h49 h52 h53 h => h
  | 18, _ => fun h1 h2 h49 h52 h53 h => h
  | 19, _ => fun h1 h2 h49 h52 h53 h => h
  | 20, _ => fun h1 h2 h49 h52 h53 h => h
  | 21, _ => fun h1 h2 h49 h52 h53 h => h
  | 22, _ => fun h1 h2 h49 h52 h53 h => h
  | 23, _ => fun h1 h2 h49 h52 h53 h => h
  | 24, _ => fun h1 h2 h49 h52 h53 h => h
  | 25, _ => fun h1 h2 h49 h52 h53 h => h
  | 26, _ => fun h1 h2 h49 h52 h53 h => h
  | 27, _ => fun h1 h2 h49 h52 h53 h => h
  | 28, _ => fun h1 h2 h49 h52 h53 h => h
  | 29, _ => fun h1 h2 h49 h52 h53 h => h
  | 30, _ => fun h1 h2 h49 h52 h53 h => h
  | 31, _ => fun h1 h2 h49 h52 h53 h => h
  | 32, _ => fun h1 h2 h49 h52 h53 h => h
  | 33, _ => fun h1 h2 h49 h52 h53 h => h
  | 34, _ => fun h1 h2 h49 h52 h53 h => h
  | 35, _ => fun h1 h2 h49 h52 h53 h => h
  | 36, _ => fun h1 h2 h49 h52 h53 h => h
  | 37, _ => fun h1 h2 h49 h52 h53 h => h
  | 38, _ => fun h1 h2 h49 h52 h53 h => h
  | 39, _ => fun h1 h2 h49 h52 h53 h => h
  | 40, _ => fun h1 h2 h49 h52 h53 h => h
  | 41, _ => fun h1 h2 h49 h52 h53 h => h
  | 42, _ => fun h1 h2 h49 h52 h53 h => h
  | 43, _ => fun h1 h2 h49 h52 h53 h => h
  | 44, _ => fun h1 h2 h49 h52 h53 h => h
  | 45, _ => fun h1 h2 h49 h52 h53 h => h
  | 46, _ => fun h1 h2 h49 h52 h53 h => h
  | 47, _ => fun h1 h2 h49 h52 h53 h => h
  | 48, _ => fun h1 h2 h49 h52 h53 h => h
  | 49, _ => fun h1 h2 h49 h52 h53 h => by obtain ⟨q1, q2, q3⟩ := h49 rfl; have q := kd_49.mp h; rw [← q1, ← q2, ← q3] at q; exact kd_49.mpr q
  | 50, _ => fun h1 h2 h49 h52 h53 h => h
  | 51, _ => fun h1 h2 h49 h52 h53 h => h
  | 52, _ => fun h1 h2 h49 h52 h53 h => by obtain ⟨q1, q2, q3⟩ := h52 rfl; have q := kd_52.mp h; rw [← q1, ← q2, ← q3] at q; exact kd_52.mpr q
  | 53, _ => fun h1 h2 h49 h52 h53 h => by have q := kd_53.mp h; rw [← h53 rfl] at q; exact kd_53.mpr q
  | 54, _ => fun h1 h2 h49 h52 h53 h => h
  | 55, _ => fun h1 h2 h49 h52 h53 h => h
  | 56, _ => fun h1 h2 h49 h52 h53 h => h
  | 57, _ => fun h1 h2 h49 h52 h53 h => h
  | 58, _ => fun h1 h2 h49 h52 h53 h => h
  | 59, _ => fun h1 h2 h49 h52 h53 h => h
  | 60, _ => fun h1 h2 h49 h52 h53 h => h
  | 61, _ => fun h1 h2 h49 h52 h53 h => h
  | 62, _ => fun h1 h2 h49 h52 h53 h => h
  | 63, _ => fun h1 h2 h49 h52 h53 h => h
  | 64, _ => fun h1 h2 h49 h52 h53 h => h
  | 65, _ => fun h1 h2 h49 h52 h53 h => h
  | 66, _ => fun h1 h2 h49 h52 h53 h => h
  | 67, _ => fun h1 h2 h49 h52 h53 h => h
  | 68, _ => fun h1 h2 h49 h52 h53 h => h
  | 69, _ => fun h1 h2 h49 h52 h53 h => h
  | 70, _ => fun h1 h2 h49 h52 h53 h => h
  | i + 71, h => absurd h (by omega)
def z_lx : List Nat := [50, 51, 62, 65, 66, 67, 68]
def KDs (ad : Nat → Nat) (t : zTT) : List Nat → zC → Prop
  | i :: is, x :: xs => KD ad t i x.2 ∧ KDs ad t is xs
  | [], _ => True
  | _ :: _, [] => True
theorem KDs.at {ad : Nat → Nat} {t : zTT} : ∀ (is : List Nat) (xs : zC) (j i : Nat) (x : Nat × zE), KDs ad t is xs → is[j]? = some i → xs[j]? = some x → KD ad t i x.2
  | [], _, j, i, x, _, h, _ => by simp at h
  | _ :: _, [], j, i, x, _, _, h => by simp at h
  | i0 :: is, x0 :: xs, 0, i, x, h, h1, h2 => by
    simp at h1 h2
    subst h1; subst h2
    exact h.1
  | i0 :: is, x0 :: xs, j + 1, i, x, h, h1, h2 => KDs.at is xs j i x h.2 (by simpa using h1) (by simpa using h2)
def IVf (ad : Nat → Nat) (t : zTT) (w : zW) : Prop := (∀ i j, i < 71 → j < 71 → ad i = ad j → i = j) ∧ ∀ i, i < 71 → ∃ e, w (ad i) = some e ∧ KD ad t i e
theorem IVf.I {ad : Nat → Nat} {t : zTT} {w : zW} (h : IVf ad t w) (is : List Nat) (csC : zC) (ha : csC.map Prod.fst = is.map ad) (hn : is.Nodup) (hb : ∀ i ∈ is, i < 71) (hw : ∀ p ∈ csC, w p.1 = some p.2) : z_I w w csC.length csC := by
  refine ⟨hw, fun _ _ => rfl, ?_, fun p hp => ?_, Nat.le_refl _⟩
  · rw [ha]
    refine List.pairwise_map.mpr (List.Pairwise.imp_of_mem (fun {x y} hx hy hne e => hne (h.1 x y (hb x hx) (hb y hy) e)) hn)
  · rw [List.drop_of_length_le (Nat.le_refl _)] at hp
    cases hp
theorem IVf.st {ad : Nat → Nat} {t t2 : zTT} {w w1 : zW} (h : IVf ad t w) {is : List Nat} {cs1 : zC} {m : Nat} (h1 : z_I w w1 m cs1) (ha : (cs1.map Prod.fst).take m = is.map ad) (hk : KDs ad t2 is cs1) (hb : ∀ i ∈ is, i < 71) (hs : ∀ i e, i < 71 → i ∉ is → KD ad t i e → KD ad t2 i e) : IVf ad t2 w1 := by
  refine ⟨h.1, fun i hi => ?_⟩
  by_cases hm : i ∈ is
  · obtain ⟨j, hj⟩ := List.getElem?_of_mem hm
    have e1 : ((cs1.map Prod.fst).take m)[j]? = some (ad i) := by rw [ha, List.getElem?_map, hj]; rfl
    have hjm : j < m := by
      have := (List.getElem?_eq_some_iff.mp e1).1
      rw [List.length_take] at this
      omega
    rw [List.getElem?_take_of_lt hjm, List.getElem?_map] at e1
    cases hx : cs1[j]? with
    | none => rw [hx] at e1; cases e1
    | some x =>
      rw [hx] at e1
      have e2 : x.1 = ad i := Option.some.inj e1
      exact ⟨x.2, by rw [← e2]; exact h1.at hx, KDs.at is cs1 j i x hk hj hx⟩
  · obtain ⟨e, he, hd⟩ := h.2 i hi
    refine ⟨e, h1.ke ha (ad i) e (fun hq => ?_) he, hs i e hi hm hd⟩
    obtain ⟨j, hj, e9⟩ := List.mem_map.mp hq
    exact hm (h.1 j i (hb j hj) hi e9 ▸ hj)
def z_L (g : zG) (w : zW) (a n : Nat) (bk : Option Nat) (el : Nat → Nat) : Prop :=
  ∃ (md : Int32) (dd : Nat), w a = some (.inr (13, [.int md, .ref dd, .int (nI n)])) ∧ ((bk = none ∧ n = 0 ∧ dd = g.2.2 4) ∨ (bk = some dd ∧ ∃ (N : Nat) (f : Nat → Option Nat), n ≤ N ∧ (N = 10 ∨ N = 15 ∨ N = 22 ∨ N = 33) ∧ w dd = some (.inl (5, N, .inr (.inr (.inr (.inr f))))) ∧ ∀ k, k < n → f k = some (el k)))
theorem z_L.ke {g : zG} {S : Nat → Prop} {w w1 : zW} {a n : Nat} {bk : Option Nat} {el : Nat → Nat} (h : z_L g w a n bk el) (hk : z_ke S w w1) (h1 : ¬ S a) (h2 : ∀ q, bk = some q → ¬ S q) : z_L g w1 a n bk el := by
  obtain ⟨md, dd, e1, e2⟩ := h
  refine ⟨md, dd, hk _ _ h1 e1, ?_⟩
  rcases e2 with e2 | ⟨e2, N, f, e3, e4, e5, e6⟩
  · exact Or.inl e2
  · exact Or.inr ⟨e2, N, f, e3, e4, hk _ _ (h2 _ e2) e5, e6⟩
def z_nf (ad : Nat → Nat) (a : Nat) : Prop := ∀ i, i < 71 → ad i ≠ a
def EL (ad : Nat → Nat) (L : Nat) (w : zW) (a : Nat) : Prop := z_nf ad a ∧ match L with
  | 0 => ∃ (c n1 : Nat) (x2 x3 x4 x5 x6 x7 : Int32) (f : Nat → Int32), w a = some (.inr (7, [.ref c, .int (nI n1), .int x2, .int x3, .int x4, .int x5, .int x6, .int x7])) ∧ (n1 ≤ 108 ∧ (x3 = 0 ∨ x3 = 1)) ∧ z_nf ad c ∧ w c = some (.inl (1, 108, .inl f)) ∧ z_ch f
  | 1 => ∃ (me gr : Nat) (x1 x2 x3 x4 x5 y : Int32) (f : Nat → Int64), w a = some (.inr (0, [.ref me, .int x1, .int x2, .int x3, .int x4, .int x5])) ∧ z_nf ad me ∧ w me = some (.inr (6, [.ref gr, .int y])) ∧ z_nf ad gr ∧ w gr = some (.inl (3, 4, .inr (.inl f)))
  | 2 => ∃ f : Nat → Int32, w a = some (.inl (0, 2, .inl f))
  | 3 => ∃ f : Nat → Int32, w a = some (.inl (1, 108, .inl f)) ∧ z_ch f ∧ ¬ fa_cnt (fun k => decide (f k = 103)) 12 = 0
  | 4 => ∃ (f : Nat → Int32) (p : Nat), w a = some (.inl (0, 5, .inl f)) ∧ f 0 = nI p ∧ 1 ≤ p ∧ p < 9
  | 5 => ∃ f : Nat → Int32, w a = some (.inl (0, 6, .inl f)) ∧ ¬ f 0 = 0
  | _ => ∃ f : Nat → Int64, w a = some (.inl (3, 4, .inr (.inl f)))
theorem EL.ke {ad : Nat → Nat} {S : Nat → Prop} {L : Nat} {w w1 : zW} {a : Nat} (h : EL ad L w a) (hk : z_ke S w w1) (hS : ∀ q, z_nf ad q → ¬ S q) : EL ad L w1 a := by
  obtain ⟨h0, h⟩ := h
  refine ⟨h0, ?_⟩
  match L, h with
  | 0, h =>
    obtain ⟨c, x1, x2, x3, x4, x5, x6, x7, f, e1, e2, e3, e4, e5⟩ := h
    exact ⟨c, x1, x2, x3, x4, x5, x6, x7, f, hk _ _ (hS _ h0) e1, e2, e3, hk _ _ (hS _ e3) e4, e5⟩
  | 1, h =>
    obtain ⟨me, gr, x1, x2, x3, x4, x5, y, f, e1, e2, e3, e4, e5⟩ := h
    exact ⟨me, gr, x1, x2, x3, x4, x5, y, f, hk _ _ (hS _ h0) e1, e2, hk _ _ (hS _ e2) e3, e4, hk _ _ (hS _ e4) e5⟩
  | 2, h => obtain ⟨f, e1⟩ := h; exact ⟨f, hk _ _ (hS _ h0) e1⟩
  | 3, h => obtain ⟨f, e1, e2⟩ := h; exact ⟨f, hk _ _ (hS _ h0) e1, e2⟩
  | 4, h => obtain ⟨f, p, e1, e2⟩ := h; exact ⟨f, p, hk _ _ (hS _ h0) e1, e2⟩
  | 5, h => obtain ⟨f, e1, e2⟩ := h; exact ⟨f, hk _ _ (hS _ h0) e1, e2⟩
  | _ + 6, h => obtain ⟨f, e1⟩ := h; exact ⟨f, hk _ _ (hS _ h0) e1⟩
abbrev zNN : Type := (Nat → Nat) × (Nat → Option Nat) × (Nat → Nat → Nat)
def IVl (g : zG) (ad : Nat → Nat) (u : zNN) (w : zW) : Prop :=
  (∀ L, L < 7 → z_L g w (ad (z_lx.getD L 0)) (u.1 L) (u.2.1 L) (u.2.2 L)) ∧ (∀ L, L < 7 → ∀ k, k < u.1 L → EL ad L w (u.2.2 L k)) ∧ (∀ L1 L2, L1 < 7 → L2 < 7 → ∀ q, u.2.1 L1 = some q → u.2.1 L2 = some q → L1 = L2) ∧ u.1 0 ≤ 10 ∧ u.1 1 ≤ 30 ∧ u.1 2 ≤ 20 ∧ u.1 3 ≤ 10 ∧ u.1 4 = u.1 3 ∧ u.1 5 ≤ 30 ∧ u.1 6 = u.1 5
def tOK (t : zTT) : Prop := z_ch t.1 ∧ z_ch t.2.1 ∧ (1 ≤ t.2.2.1 ∧ t.2.2.1 < 9) ∧ (1 ≤ t.2.2.2.1 ∧ t.2.2.2.1 < 9)
def IV (g : zG) (ad : Nat → Nat) (t : zTT) (u : zNN) (w : zW) : Prop := IVf ad t w ∧ IVl g ad u w ∧ tOK t
theorem z_L.bk {g : zG} {w : zW} {a n q : Nat} {bk : Option Nat} {el : Nat → Nat} (h : z_L g w a n bk el) (hb : bk = some q) : ∃ (N : Nat) (f : Nat → Option Nat), w q = some (.inl (5, N, .inr (.inr (.inr (.inr f))))) := by
  obtain ⟨md, dd, e1, e2⟩ := h
  rcases e2 with ⟨e2, -⟩ | ⟨e2, N, f, -, -, e5, -⟩
  · rw [hb] at e2; cases e2
  · rw [hb] at e2; cases e2; exact ⟨N, f, e5⟩
theorem IVf.n5 {ad : Nat → Nat} {t : zTT} {w : zW} (h : IVf ad t w) {q N : Nat} {f : Nat → Option Nat} (hw : w q = some (.inl (5, N, .inr (.inr (.inr (.inr f)))))) : z_nf ad q := by
  intro i hi e
  obtain ⟨e0, he, hd⟩ := h.2 i hi
  rw [e, hw] at he
  cases he
  rcases hd.n5 i hi with h9 | h9
  · exact h9 rfl
  · exact h9 rfl
theorem IVl.ke {g : zG} {ad : Nat → Nat} {t : zTT} {u : zNN} {w w1 : zW} (hF : IVf ad t w) (h : IVl g ad u w) {is : List Nat} (hk : z_ke (fun q => q ∈ is.map ad) w w1) (hb : ∀ i ∈ is, i < 71) (hl : ∀ i ∈ is, i ∉ z_lx) : IVl g ad u w1 := by
  have hnf : ∀ q, z_nf ad q → ¬ q ∈ is.map ad := fun q hq hm => by
    obtain ⟨j, hj, e⟩ := List.mem_map.mp hm
    exact hq j (hb j hj) e
  refine ⟨fun L hL => (h.1 L hL).ke hk (fun hm => ?_) (fun q hq => ?_), fun L hL k hk9 => (h.2.1 L hL k hk9).ke hk hnf, h.2.2⟩
  · obtain ⟨j, hj, e⟩ := List.mem_map.mp hm
    have hx : z_lx.getD L 0 < 71 ∧ z_lx.getD L 0 ∈ z_lx := (show ∀ L, L < 7 → z_lx.getD L 0 < 71 ∧ z_lx.getD L 0 ∈ z_lx by decide) L hL
    have e2 := hF.1 j _ (hb j hj) hx.1 e
    exact hl j hj (e2 ▸ hx.2)
  · obtain ⟨N, f, e5⟩ := (h.1 L hL).bk hq
    exact hnf q (hF.n5 e5)
theorem IV.fix {g : zG} {ad : Nat → Nat} {t t2 : zTT} {u : zNN} {w w1 : zW} (h : IV g ad t u w) {is : List Nat} {cs1 : zC} {m : Nat} (h1 : z_I w w1 m cs1) (ha : (cs1.map Prod.fst).take m = is.map ad) (hk : KDs ad t2 is cs1) (hb : ∀ i ∈ is, i < 71) (hl : ∀ i ∈ is, i ∉ z_lx) (hs : ∀ i e, i < 71 → i ∉ is → KD ad t i e → KD ad t2 i e) (ht : tOK t → tOK t2) : IV g ad t2 u w1 :=
  ⟨h.1.st h1 ha hk hb hs, h.2.1.ke h.1 (h1.ke ha) hb hl, ht h.2.2⟩
theorem IV.same {g : zG} {ad : Nat → Nat} {t : zTT} {u : zNN} {w w1 : zW} (h : IV g ad t u w) (e : w1 = w) : IV g ad t u w1 := by rw [e]; exact h
