abbrev zP2 : Type := (Nat → Int32) × (Nat → Int64) × (Nat → Nat)
abbrev zV : Type := (Nat → Int32) × (Nat → Int32) × (Nat → Int64) × (Nat → Nat)
abbrev zTT : Type := (Nat → zP2) × (Nat → Nat → zV)
def zup (f : Nat → zP2) : List (Nat × zP2) → Nat → zP2
  | [] => f
  | x :: l => fun k => if k = x.1 then x.2 else zup f l k
theorem zup_out {f : Nat → zP2} {i : Nat} : ∀ {l : List (Nat × zP2)}, i ∉ l.map Prod.fst → zup f l i = f i
  | [], _ => rfl
  | x :: l, h => by
    have h1 : ¬ i = x.1 := fun e => h (e ▸ List.mem_cons_self)
    have h2 : i ∉ l.map Prod.fst := fun e => h (List.mem_cons_of_mem _ e)
    show (if i = x.1 then x.2 else zup f l i) = f i
    rw [if_neg h1, zup_out h2]
def KDL (ad : Nat → Nat) (t : zTT) : List (zE → Prop) := [fun e => e = .inr (11, [.ref (ad 1), .ref (ad 5), .ref (ad 18), .ref (ad 31), .ref (ad 32), .ref (ad 36), .ref (ad 42), .ref (ad 45), .ref (ad 47), .ref (ad 49), .ref (ad 50), .ref (ad 51)]), fun e => e = .inr (8, [.ref (ad 2), .ref (ad 3), .ref (ad 4), .int (nI ((t.1 1).2.2 0))]), fun e => e = .inl (1, 108, .inl ((t.1 2).1)), fun e => ∃ (f : Nat → Int32), e = .inl (2, 108, .inl f), fun e => ∃ (h : Nat → Nat), e = .inl (0, 108, .inl (fun k => nI (h k))), fun e => e = .inr (10, [.ref (ad 6), .ref (ad 7), .ref (ad 8), .ref (ad 15), .ref (ad 16), .ref (ad 17), .int ((t.1 5).1 0), .int ((t.1 5).1 1)]), fun e => e = .inl (1, 108, .inl ((t.1 6).1)), fun e => e = .inl (0, 108, .inl ((t.1 7).1)), fun e => e = .inr (2, [.ref (ad 9), .ref (ad 10), .ref (ad 11), .ref (ad 12), .ref (ad 13), .ref (ad 14), .int ((t.1 8).1 0)]), fun e => e = .inl (0, 108, .inl ((t.1 9).1)), fun e => e = .inl (0, 108, .inl ((t.1 10).1)), fun e => e = .inl (0, 108, .inl ((t.1 11).1)), fun e => e = .inl (0, 108, .inl ((t.1 12).1)), fun e => e = .inl (0, 108, .inl ((t.1 13).1)), fun e => e = .inl (0, 108, .inl ((t.1 14).1)), fun e => (∀ c, c < 108 → ((t.1 15).1) c = 0 ∨ ((t.1 15).1) c = 1) ∧ e = .inl (2, 108, .inl ((t.1 15).1)), fun e => e = .inl (2, 108, .inl ((t.1 16).1)), fun e => e = .inl (0, 108, .inl (fun k => nI (((t.1 17).2.2) k))), fun e => ∃ (x : Int32) (y : Int32), e = .inr (10, [.ref (ad 19), .ref (ad 20), .ref (ad 21), .ref (ad 28), .ref (ad 29), .ref (ad 30), .int x, .int y]), fun e => ∃ (f : Nat → Int32), e = .inl (1, 108, .inl f), fun e => ∃ (f : Nat → Int32), e = .inl (0, 108, .inl f), fun e => ∃ (x : Int32), e = .inr (2, [.ref (ad 22), .ref (ad 23), .ref (ad 24), .ref (ad 25), .ref (ad 26), .ref (ad 27), .int x]), fun e => ∃ (f : Nat → Int32), e = .inl (0, 108, .inl f), fun e => ∃ (f : Nat → Int32), e = .inl (0, 108, .inl f), fun e => ∃ (f : Nat → Int32), e = .inl (0, 108, .inl f), fun e => ∃ (f : Nat → Int32), e = .inl (0, 108, .inl f), fun e => ∃ (f : Nat → Int32), e = .inl (0, 108, .inl f), fun e => ∃ (f : Nat → Int32), e = .inl (0, 108, .inl f), fun e => ∃ (f : Nat → Int32), e = .inl (2, 108, .inl f), fun e => ∃ (f : Nat → Int32), e = .inl (2, 108, .inl f), fun e => ∃ (h : Nat → Nat), e = .inl (0, 108, .inl (fun k => nI (h k))), fun e => e = .inr (4, [.int ((t.1 31).1 0), .int ((t.1 31).1 1), .int ((t.1 31).1 2), .int ((t.1 31).1 3), .int ((t.1 31).1 4)]), fun e => (((t.1 32).2.2 0) ≤ 20) ∧ e = .inr (1, [.ref (ad 33), .ref (ad 34), .ref (ad 35), .int (nI ((t.1 32).2.2 0))]), fun e => e = .inl (0, 20, .inl ((t.1 33).1)), fun e => e = .inl (0, 20, .inl ((t.1 34).1)), fun e => e = .inl (0, 20, .inl ((t.1 35).1)), fun e => e = .inr (3, [.ref (ad 37), .ref (ad 39), .ref (ad 40), .ref (ad 41), .long ((t.1 36).2.1 0)]), fun e => e = .inr (6, [.ref (ad 38), .int ((t.1 37).1 0)]), fun e => e = .inl (3, 4, .inr (.inl ((t.1 38).2.1))), fun e => e = .inl (3, 4, .inr (.inl ((t.1 39).2.1))), fun e => e = .inl (3, 4, .inr (.inl ((t.1 40).2.1))), fun e => e = .inl (3, 4, .inr (.inl ((t.1 41).2.1))), fun e => (((t.1 42).1 2) = 0 ∨ ((t.1 42).1 2) = 1) ∧ e = .inr (5, [.ref (ad 43), .int ((t.1 42).1 0), .int ((t.1 42).1 1), .int ((t.1 42).1 2)]), fun e => (0 ≤ ((t.1 43).1 0)) ∧ e = .inr (6, [.ref (ad 44), .int ((t.1 43).1 0)]), fun e => e = .inl (3, 4, .inr (.inl ((t.1 44).2.1))), fun e => e = .inr (6, [.ref (ad 46), .int ((t.1 45).1 0)]), fun e => e = .inl (3, 4, .inr (.inl ((t.1 46).2.1))), fun e => e = .inr (6, [.ref (ad 48), .int ((t.1 47).1 0)]), fun e => e = .inl (3, 4, .inr (.inl ((t.1 48).2.1))), fun e => e = .inr (9, [.int ((t.1 49).1 0), .int ((t.1 49).1 1), .int ((t.1 49).1 2)]), fun e => ∃ (x : Int32) (d : Nat) (y : Int32), e = .inr (13, [.int x, .ref d, .int y]), fun e => ∃ (x : Int32) (d : Nat) (y : Int32), e = .inr (13, [.int x, .ref d, .int y]), fun e => ∃ (th : Int32), e = .inr (12, [.int th, .ref (ad 53), .int (nI ((t.1 52).2.2 0)), .ref (ad 54), .ref (ad 55), .ref (ad 56), .ref (ad 57), .ref (ad 58), .ref (ad 59), .ref (ad 60), .ref (ad 61), .int ((t.1 52).1 0), .int ((t.1 52).1 1), .int ((t.1 52).1 2), .int ((t.1 52).1 3), .int ((t.1 52).1 4), .int ((t.1 52).1 5), .ref (ad 62), .ref (ad 63), .ref (ad 64), .int ((t.1 52).1 6), .int ((t.1 52).1 7), .int ((t.1 52).1 8), .int ((t.1 52).1 9), .int ((t.1 52).1 10), .ref (ad 65), .ref (ad 66), .ref (ad 67), .ref (ad 68), .long ((t.1 52).2.1 0), .long ((t.1 52).2.1 1)]), fun e => e = .inl (1, 108, .inl ((t.1 53).1)), fun e => ∃ (f : Nat → Int32), e = .inl (0, 108, .inl f), fun e => ∃ (f : Nat → Int32), e = .inl (0, 108, .inl f), fun e => ∃ (f : Nat → Int32), e = .inl (0, 108, .inl f), fun e => ∃ (f : Nat → Int32), e = .inl (0, 108, .inl f), fun e => ∃ (f : Nat → Int32), e = .inl (0, 108, .inl f), fun e => ∃ (f : Nat → Int32), e = .inl (2, 108, .inl f), fun e => ∃ (h : Nat → Nat), e = .inl (0, 108, .inl (fun k => nI (h k))), fun e => ∃ (f : Nat → Int32), e = .inl (0, 108, .inl f), fun e => ∃ (x : Int32) (d : Nat) (y : Int32), e = .inr (13, [.int x, .ref d, .int y]), fun e => e = .inl (0, 4, .inl ((t.1 63).1)), fun e => e = .inl (3, 16, .inr (.inl ((t.1 64).2.1))), fun e => ∃ (x : Int32) (d : Nat) (y : Int32), e = .inr (13, [.int x, .ref d, .int y]), fun e => ∃ (x : Int32) (d : Nat) (y : Int32), e = .inr (13, [.int x, .ref d, .int y]), fun e => ∃ (x : Int32) (d : Nat) (y : Int32), e = .inr (13, [.int x, .ref d, .int y]), fun e => ∃ (x : Int32) (d : Nat) (y : Int32), e = .inr (13, [.int x, .ref d, .int y]), fun e => e = .inl (3, 1, .inr (.inl ((t.1 69).2.1))), fun e => ∃ (f : Nat → UInt64), e = .inl (4, 1, .inr (.inr (.inr (.inl f))))]
def KD (ad : Nat → Nat) (t : zTT) (i : Nat) (e : zE) : Prop := (KDL ad t).getD i (fun _ => True) e
theorem kd_0 {ad : Nat → Nat} {t : zTT} {e : zE} : KD ad t 0 e ↔ (e = .inr (11, [.ref (ad 1), .ref (ad 5), .ref (ad 18), .ref (ad 31), .ref (ad 32), .ref (ad 36), .ref (ad 42), .ref (ad 45), .ref (ad 47), .ref (ad 49), .ref (ad 50), .ref (ad 51)])) := Iff.rfl
theorem kd_1 {ad : Nat → Nat} {t : zTT} {e : zE} : KD ad t 1 e ↔ (e = .inr (8, [.ref (ad 2), .ref (ad 3), .ref (ad 4), .int (nI ((t.1 1).2.2 0))])) := Iff.rfl
theorem kd_2 {ad : Nat → Nat} {t : zTT} {e : zE} : KD ad t 2 e ↔ (e = .inl (1, 108, .inl ((t.1 2).1))) := Iff.rfl
theorem kd_3 {ad : Nat → Nat} {t : zTT} {e : zE} : KD ad t 3 e ↔ (∃ (f : Nat → Int32), e = .inl (2, 108, .inl f)) := Iff.rfl
theorem kd_4 {ad : Nat → Nat} {t : zTT} {e : zE} : KD ad t 4 e ↔ (∃ (h : Nat → Nat), e = .inl (0, 108, .inl (fun k => nI (h k)))) := Iff.rfl
theorem kd_5 {ad : Nat → Nat} {t : zTT} {e : zE} : KD ad t 5 e ↔ (e = .inr (10, [.ref (ad 6), .ref (ad 7), .ref (ad 8), .ref (ad 15), .ref (ad 16), .ref (ad 17), .int ((t.1 5).1 0), .int ((t.1 5).1 1)])) := Iff.rfl
theorem kd_6 {ad : Nat → Nat} {t : zTT} {e : zE} : KD ad t 6 e ↔ (e = .inl (1, 108, .inl ((t.1 6).1))) := Iff.rfl
theorem kd_7 {ad : Nat → Nat} {t : zTT} {e : zE} : KD ad t 7 e ↔ (e = .inl (0, 108, .inl ((t.1 7).1))) := Iff.rfl
theorem kd_8 {ad : Nat → Nat} {t : zTT} {e : zE} : KD ad t 8 e ↔ (e = .inr (2, [.ref (ad 9), .ref (ad 10), .ref (ad 11), .ref (ad 12), .ref (ad 13), .ref (ad 14), .int ((t.1 8).1 0)])) := Iff.rfl
theorem kd_9 {ad : Nat → Nat} {t : zTT} {e : zE} : KD ad t 9 e ↔ (e = .inl (0, 108, .inl ((t.1 9).1))) := Iff.rfl
theorem kd_10 {ad : Nat → Nat} {t : zTT} {e : zE} : KD ad t 10 e ↔ (e = .inl (0, 108, .inl ((t.1 10).1))) := Iff.rfl
theorem kd_11 {ad : Nat → Nat} {t : zTT} {e : zE} : KD ad t 11 e ↔ (e = .inl (0, 108, .inl ((t.1 11).1))) := Iff.rfl
theorem kd_12 {ad : Nat → Nat} {t : zTT} {e : zE} : KD ad t 12 e ↔ (e = .inl (0, 108, .inl ((t.1 12).1))) := Iff.rfl
theorem kd_13 {ad : Nat → Nat} {t : zTT} {e : zE} : KD ad t 13 e ↔ (e = .inl (0, 108, .inl ((t.1 13).1))) := Iff.rfl
theorem kd_14 {ad : Nat → Nat} {t : zTT} {e : zE} : KD ad t 14 e ↔ (e = .inl (0, 108, .inl ((t.1 14).1))) := Iff.rfl
theorem kd_15 {ad : Nat → Nat} {t : zTT} {e : zE} : KD ad t 15 e ↔ ((∀ c, c < 108 → ((t.1 15).1) c = 0 ∨ ((t.1 15).1) c = 1) ∧ e = .inl (2, 108, .inl ((t.1 15).1))) := Iff.rfl
theorem kd_16 {ad : Nat → Nat} {t : zTT} {e : zE} : KD ad t 16 e ↔ (e = .inl (2, 108, .inl ((t.1 16).1))) := Iff.rfl
theorem kd_17 {ad : Nat → Nat} {t : zTT} {e : zE} : KD ad t 17 e ↔ (e = .inl (0, 108, .inl (fun k => nI (((t.1 17).2.2) k)))) := Iff.rfl
theorem kd_18 {ad : Nat → Nat} {t : zTT} {e : zE} : KD ad t 18 e ↔ (∃ (x : Int32) (y : Int32), e = .inr (10, [.ref (ad 19), .ref (ad 20), .ref (ad 21), .ref (ad 28), .ref (ad 29), .ref (ad 30), .int x, .int y])) := Iff.rfl
theorem kd_19 {ad : Nat → Nat} {t : zTT} {e : zE} : KD ad t 19 e ↔ (∃ (f : Nat → Int32), e = .inl (1, 108, .inl f)) := Iff.rfl
theorem kd_20 {ad : Nat → Nat} {t : zTT} {e : zE} : KD ad t 20 e ↔ (∃ (f : Nat → Int32), e = .inl (0, 108, .inl f)) := Iff.rfl
theorem kd_21 {ad : Nat → Nat} {t : zTT} {e : zE} : KD ad t 21 e ↔ (∃ (x : Int32), e = .inr (2, [.ref (ad 22), .ref (ad 23), .ref (ad 24), .ref (ad 25), .ref (ad 26), .ref (ad 27), .int x])) := Iff.rfl
theorem kd_22 {ad : Nat → Nat} {t : zTT} {e : zE} : KD ad t 22 e ↔ (∃ (f : Nat → Int32), e = .inl (0, 108, .inl f)) := Iff.rfl
theorem kd_23 {ad : Nat → Nat} {t : zTT} {e : zE} : KD ad t 23 e ↔ (∃ (f : Nat → Int32), e = .inl (0, 108, .inl f)) := Iff.rfl
theorem kd_24 {ad : Nat → Nat} {t : zTT} {e : zE} : KD ad t 24 e ↔ (∃ (f : Nat → Int32), e = .inl (0, 108, .inl f)) := Iff.rfl
theorem kd_25 {ad : Nat → Nat} {t : zTT} {e : zE} : KD ad t 25 e ↔ (∃ (f : Nat → Int32), e = .inl (0, 108, .inl f)) := Iff.rfl
theorem kd_26 {ad : Nat → Nat} {t : zTT} {e : zE} : KD ad t 26 e ↔ (∃ (f : Nat → Int32), e = .inl (0, 108, .inl f)) := Iff.rfl
theorem kd_27 {ad : Nat → Nat} {t : zTT} {e : zE} : KD ad t 27 e ↔ (∃ (f : Nat → Int32), e = .inl (0, 108, .inl f)) := Iff.rfl
theorem kd_28 {ad : Nat → Nat} {t : zTT} {e : zE} : KD ad t 28 e ↔ (∃ (f : Nat → Int32), e = .inl (2, 108, .inl f)) := Iff.rfl
theorem kd_29 {ad : Nat → Nat} {t : zTT} {e : zE} : KD ad t 29 e ↔ (∃ (f : Nat → Int32), e = .inl (2, 108, .inl f)) := Iff.rfl
theorem kd_30 {ad : Nat → Nat} {t : zTT} {e : zE} : KD ad t 30 e ↔ (∃ (h : Nat → Nat), e = .inl (0, 108, .inl (fun k => nI (h k)))) := Iff.rfl
theorem kd_31 {ad : Nat → Nat} {t : zTT} {e : zE} : KD ad t 31 e ↔ (e = .inr (4, [.int ((t.1 31).1 0), .int ((t.1 31).1 1), .int ((t.1 31).1 2), .int ((t.1 31).1 3), .int ((t.1 31).1 4)])) := Iff.rfl
theorem kd_32 {ad : Nat → Nat} {t : zTT} {e : zE} : KD ad t 32 e ↔ ((((t.1 32).2.2 0) ≤ 20) ∧ e = .inr (1, [.ref (ad 33), .ref (ad 34), .ref (ad 35), .int (nI ((t.1 32).2.2 0))])) := Iff.rfl
theorem kd_33 {ad : Nat → Nat} {t : zTT} {e : zE} : KD ad t 33 e ↔ (e = .inl (0, 20, .inl ((t.1 33).1))) := Iff.rfl
theorem kd_34 {ad : Nat → Nat} {t : zTT} {e : zE} : KD ad t 34 e ↔ (e = .inl (0, 20, .inl ((t.1 34).1))) := Iff.rfl
theorem kd_35 {ad : Nat → Nat} {t : zTT} {e : zE} : KD ad t 35 e ↔ (e = .inl (0, 20, .inl ((t.1 35).1))) := Iff.rfl
theorem kd_36 {ad : Nat → Nat} {t : zTT} {e : zE} : KD ad t 36 e ↔ (e = .inr (3, [.ref (ad 37), .ref (ad 39), .ref (ad 40), .ref (ad 41), .long ((t.1 36).2.1 0)])) := Iff.rfl
theorem kd_37 {ad : Nat → Nat} {t : zTT} {e : zE} : KD ad t 37 e ↔ (e = .inr (6, [.ref (ad 38), .int ((t.1 37).1 0)])) := Iff.rfl
theorem kd_38 {ad : Nat → Nat} {t : zTT} {e : zE} : KD ad t 38 e ↔ (e = .inl (3, 4, .inr (.inl ((t.1 38).2.1)))) := Iff.rfl
theorem kd_39 {ad : Nat → Nat} {t : zTT} {e : zE} : KD ad t 39 e ↔ (e = .inl (3, 4, .inr (.inl ((t.1 39).2.1)))) := Iff.rfl
theorem kd_40 {ad : Nat → Nat} {t : zTT} {e : zE} : KD ad t 40 e ↔ (e = .inl (3, 4, .inr (.inl ((t.1 40).2.1)))) := Iff.rfl
theorem kd_41 {ad : Nat → Nat} {t : zTT} {e : zE} : KD ad t 41 e ↔ (e = .inl (3, 4, .inr (.inl ((t.1 41).2.1)))) := Iff.rfl
theorem kd_42 {ad : Nat → Nat} {t : zTT} {e : zE} : KD ad t 42 e ↔ ((((t.1 42).1 2) = 0 ∨ ((t.1 42).1 2) = 1) ∧ e = .inr (5, [.ref (ad 43), .int ((t.1 42).1 0), .int ((t.1 42).1 1), .int ((t.1 42).1 2)])) := Iff.rfl
theorem kd_43 {ad : Nat → Nat} {t : zTT} {e : zE} : KD ad t 43 e ↔ ((0 ≤ ((t.1 43).1 0)) ∧ e = .inr (6, [.ref (ad 44), .int ((t.1 43).1 0)])) := Iff.rfl
theorem kd_44 {ad : Nat → Nat} {t : zTT} {e : zE} : KD ad t 44 e ↔ (e = .inl (3, 4, .inr (.inl ((t.1 44).2.1)))) := Iff.rfl
theorem kd_45 {ad : Nat → Nat} {t : zTT} {e : zE} : KD ad t 45 e ↔ (e = .inr (6, [.ref (ad 46), .int ((t.1 45).1 0)])) := Iff.rfl
theorem kd_46 {ad : Nat → Nat} {t : zTT} {e : zE} : KD ad t 46 e ↔ (e = .inl (3, 4, .inr (.inl ((t.1 46).2.1)))) := Iff.rfl
theorem kd_47 {ad : Nat → Nat} {t : zTT} {e : zE} : KD ad t 47 e ↔ (e = .inr (6, [.ref (ad 48), .int ((t.1 47).1 0)])) := Iff.rfl
theorem kd_48 {ad : Nat → Nat} {t : zTT} {e : zE} : KD ad t 48 e ↔ (e = .inl (3, 4, .inr (.inl ((t.1 48).2.1)))) := Iff.rfl
theorem kd_49 {ad : Nat → Nat} {t : zTT} {e : zE} : KD ad t 49 e ↔ (e = .inr (9, [.int ((t.1 49).1 0), .int ((t.1 49).1 1), .int ((t.1 49).1 2)])) := Iff.rfl
theorem kd_50 {ad : Nat → Nat} {t : zTT} {e : zE} : KD ad t 50 e ↔ (∃ (x : Int32) (d : Nat) (y : Int32), e = .inr (13, [.int x, .ref d, .int y])) := Iff.rfl
theorem kd_51 {ad : Nat → Nat} {t : zTT} {e : zE} : KD ad t 51 e ↔ (∃ (x : Int32) (d : Nat) (y : Int32), e = .inr (13, [.int x, .ref d, .int y])) := Iff.rfl
theorem kd_52 {ad : Nat → Nat} {t : zTT} {e : zE} : KD ad t 52 e ↔ (∃ (th : Int32), e = .inr (12, [.int th, .ref (ad 53), .int (nI ((t.1 52).2.2 0)), .ref (ad 54), .ref (ad 55), .ref (ad 56), .ref (ad 57), .ref (ad 58), .ref (ad 59), .ref (ad 60), .ref (ad 61), .int ((t.1 52).1 0), .int ((t.1 52).1 1), .int ((t.1 52).1 2), .int ((t.1 52).1 3), .int ((t.1 52).1 4), .int ((t.1 52).1 5), .ref (ad 62), .ref (ad 63), .ref (ad 64), .int ((t.1 52).1 6), .int ((t.1 52).1 7), .int ((t.1 52).1 8), .int ((t.1 52).1 9), .int ((t.1 52).1 10), .ref (ad 65), .ref (ad 66), .ref (ad 67), .ref (ad 68), .long ((t.1 52).2.1 0), .long ((t.1 52).2.1 1)])) := Iff.rfl
theorem kd_53 {ad : Nat → Nat} {t : zTT} {e : zE} : KD ad t 53 e ↔ (e = .inl (1, 108, .inl ((t.1 53).1))) := Iff.rfl
theorem kd_54 {ad : Nat → Nat} {t : zTT} {e : zE} : KD ad t 54 e ↔ (∃ (f : Nat → Int32), e = .inl (0, 108, .inl f)) := Iff.rfl
theorem kd_55 {ad : Nat → Nat} {t : zTT} {e : zE} : KD ad t 55 e ↔ (∃ (f : Nat → Int32), e = .inl (0, 108, .inl f)) := Iff.rfl
theorem kd_56 {ad : Nat → Nat} {t : zTT} {e : zE} : KD ad t 56 e ↔ (∃ (f : Nat → Int32), e = .inl (0, 108, .inl f)) := Iff.rfl
theorem kd_57 {ad : Nat → Nat} {t : zTT} {e : zE} : KD ad t 57 e ↔ (∃ (f : Nat → Int32), e = .inl (0, 108, .inl f)) := Iff.rfl
theorem kd_58 {ad : Nat → Nat} {t : zTT} {e : zE} : KD ad t 58 e ↔ (∃ (f : Nat → Int32), e = .inl (0, 108, .inl f)) := Iff.rfl
theorem kd_59 {ad : Nat → Nat} {t : zTT} {e : zE} : KD ad t 59 e ↔ (∃ (f : Nat → Int32), e = .inl (2, 108, .inl f)) := Iff.rfl
theorem kd_60 {ad : Nat → Nat} {t : zTT} {e : zE} : KD ad t 60 e ↔ (∃ (h : Nat → Nat), e = .inl (0, 108, .inl (fun k => nI (h k)))) := Iff.rfl
theorem kd_61 {ad : Nat → Nat} {t : zTT} {e : zE} : KD ad t 61 e ↔ (∃ (f : Nat → Int32), e = .inl (0, 108, .inl f)) := Iff.rfl
theorem kd_62 {ad : Nat → Nat} {t : zTT} {e : zE} : KD ad t 62 e ↔ (∃ (x : Int32) (d : Nat) (y : Int32), e = .inr (13, [.int x, .ref d, .int y])) := Iff.rfl
theorem kd_63 {ad : Nat → Nat} {t : zTT} {e : zE} : KD ad t 63 e ↔ (e = .inl (0, 4, .inl ((t.1 63).1))) := Iff.rfl
theorem kd_64 {ad : Nat → Nat} {t : zTT} {e : zE} : KD ad t 64 e ↔ (e = .inl (3, 16, .inr (.inl ((t.1 64).2.1)))) := Iff.rfl
theorem kd_65 {ad : Nat → Nat} {t : zTT} {e : zE} : KD ad t 65 e ↔ (∃ (x : Int32) (d : Nat) (y : Int32), e = .inr (13, [.int x, .ref d, .int y])) := Iff.rfl
theorem kd_66 {ad : Nat → Nat} {t : zTT} {e : zE} : KD ad t 66 e ↔ (∃ (x : Int32) (d : Nat) (y : Int32), e = .inr (13, [.int x, .ref d, .int y])) := Iff.rfl
theorem kd_67 {ad : Nat → Nat} {t : zTT} {e : zE} : KD ad t 67 e ↔ (∃ (x : Int32) (d : Nat) (y : Int32), e = .inr (13, [.int x, .ref d, .int y])) := Iff.rfl
theorem kd_68 {ad : Nat → Nat} {t : zTT} {e : zE} : KD ad t 68 e ↔ (∃ (x : Int32) (d : Nat) (y : Int32), e = .inr (13, [.int x, .ref d, .int y])) := Iff.rfl
theorem kd_69 {ad : Nat → Nat} {t : zTT} {e : zE} : KD ad t 69 e ↔ (e = .inl (3, 1, .inr (.inl ((t.1 69).2.1)))) := Iff.rfl
theorem kd_70 {ad : Nat → Nat} {t : zTT} {e : zE} : KD ad t 70 e ↔ (∃ (f : Nat → UInt64), e = .inl (4, 1, .inr (.inr (.inr (.inl f))))) := Iff.rfl
theorem KD.n5 {ad : Nat → Nat} {t : zTT} {e : zE} : ∀ i, i < 71 → KD ad t i e → ¬ (z_kd e).1 = 0 ∨ ¬ (z_kd e).2.1 = 5 := fun i hi => match i, hi with
  | 0, _ => fun h => by obtain rfl := kd_0.mp h; exact Or.inl (show ¬ (1 : Nat) = 0 by decide)
  | 1, _ => fun h => by obtain rfl := kd_1.mp h; exact Or.inl (show ¬ (1 : Nat) = 0 by decide)
  | 2, _ => fun h => by obtain rfl := kd_2.mp h; exact Or.inr (show ¬ (1 : Nat) = 5 by decide)
  | 3, _ => fun h => by obtain ⟨_, rfl⟩ := kd_3.mp h; exact Or.inr (show ¬ (2 : Nat) = 5 by decide)
  | 4, _ => fun h => by obtain ⟨_, rfl⟩ := kd_4.mp h; exact Or.inr (show ¬ (0 : Nat) = 5 by decide)
  | 5, _ => fun h => by obtain rfl := kd_5.mp h; exact Or.inl (show ¬ (1 : Nat) = 0 by decide)
  | 6, _ => fun h => by obtain rfl := kd_6.mp h; exact Or.inr (show ¬ (1 : Nat) = 5 by decide)
  | 7, _ => fun h => by obtain rfl := kd_7.mp h; exact Or.inr (show ¬ (0 : Nat) = 5 by decide)
  | 8, _ => fun h => by obtain rfl := kd_8.mp h; exact Or.inl (show ¬ (1 : Nat) = 0 by decide)
  | 9, _ => fun h => by obtain rfl := kd_9.mp h; exact Or.inr (show ¬ (0 : Nat) = 5 by decide)
  | 10, _ => fun h => by obtain rfl := kd_10.mp h; exact Or.inr (show ¬ (0 : Nat) = 5 by decide)
  | 11, _ => fun h => by obtain rfl := kd_11.mp h; exact Or.inr (show ¬ (0 : Nat) = 5 by decide)
  | 12, _ => fun h => by obtain rfl := kd_12.mp h; exact Or.inr (show ¬ (0 : Nat) = 5 by decide)
  | 13, _ => fun h => by obtain rfl := kd_13.mp h; exact Or.inr (show ¬ (0 : Nat) = 5 by decide)
  | 14, _ => fun h => by obtain rfl := kd_14.mp h; exact Or.inr (show ¬ (0 : Nat) = 5 by decide)
  | 15, _ => fun h => by obtain ⟨_, rfl⟩ := kd_15.mp h; exact Or.inr (show ¬ (2 : Nat) = 5 by decide)
  | 16, _ => fun h => by obtain rfl := kd_16.mp h; exact Or.inr (show ¬ (2 : Nat) = 5 by decide)
  | 17, _ => fun h => by obtain rfl := kd_17.mp h; exact Or.inr (show ¬ (0 : Nat) = 5 by decide)
  | 18, _ => fun h => by obtain ⟨_, _, rfl⟩ := kd_18.mp h; exact Or.inl (show ¬ (1 : Nat) = 0 by decide)
  | 19, _ => fun h => by obtain ⟨_, rfl⟩ := kd_19.mp h; exact Or.inr (show ¬ (1 : Nat) = 5 by decide)
  | 20, _ => fun h => by obtain ⟨_, rfl⟩ := kd_20.mp h; exact Or.inr (show ¬ (0 : Nat) = 5 by decide)
  | 21, _ => fun h => by obtain ⟨_, rfl⟩ := kd_21.mp h; exact Or.inl (show ¬ (1 : Nat) = 0 by decide)
  | 22, _ => fun h => by obtain ⟨_, rfl⟩ := kd_22.mp h; exact Or.inr (show ¬ (0 : Nat) = 5 by decide)
  | 23, _ => fun h => by obtain ⟨_, rfl⟩ := kd_23.mp h; exact Or.inr (show ¬ (0 : Nat) = 5 by decide)
  | 24, _ => fun h => by obtain ⟨_, rfl⟩ := kd_24.mp h; exact Or.inr (show ¬ (0 : Nat) = 5 by decide)
  | 25, _ => fun h => by obtain ⟨_, rfl⟩ := kd_25.mp h; exact Or.inr (show ¬ (0 : Nat) = 5 by decide)
  | 26, _ => fun h => by obtain ⟨_, rfl⟩ := kd_26.mp h; exact Or.inr (show ¬ (0 : Nat) = 5 by decide)
  | 27, _ => fun h => by obtain ⟨_, rfl⟩ := kd_27.mp h; exact Or.inr (show ¬ (0 : Nat) = 5 by decide)
  | 28, _ => fun h => by obtain ⟨_, rfl⟩ := kd_28.mp h; exact Or.inr (show ¬ (2 : Nat) = 5 by decide)
  | 29, _ => fun h => by obtain ⟨_, rfl⟩ := kd_29.mp h; exact Or.inr (show ¬ (2 : Nat) = 5 by decide)
  | 30, _ => fun h => by obtain ⟨_, rfl⟩ := kd_30.mp h; exact Or.inr (show ¬ (0 : Nat) = 5 by decide)
  | 31, _ => fun h => by obtain rfl := kd_31.mp h; exact Or.inl (show ¬ (1 : Nat) = 0 by decide)
  | 32, _ => fun h => by obtain ⟨_, rfl⟩ := kd_32.mp h; exact Or.inl (show ¬ (1 : Nat) = 0 by decide)
  | 33, _ => fun h => by obtain rfl := kd_33.mp h; exact Or.inr (show ¬ (0 : Nat) = 5 by decide)
  | 34, _ => fun h => by obtain rfl := kd_34.mp h; exact Or.inr (show ¬ (0 : Nat) = 5 by decide)
  | 35, _ => fun h => by obtain rfl := kd_35.mp h; exact Or.inr (show ¬ (0 : Nat) = 5 by decide)
  | 36, _ => fun h => by obtain rfl := kd_36.mp h; exact Or.inl (show ¬ (1 : Nat) = 0 by decide)
  | 37, _ => fun h => by obtain rfl := kd_37.mp h; exact Or.inl (show ¬ (1 : Nat) = 0 by decide)
  | 38, _ => fun h => by obtain rfl := kd_38.mp h; exact Or.inr (show ¬ (3 : Nat) = 5 by decide)
  | 39, _ => fun h => by obtain rfl := kd_39.mp h; exact Or.inr (show ¬ (3 : Nat) = 5 by decide)
  | 40, _ => fun h => by obtain rfl := kd_40.mp h; exact Or.inr (show ¬ (3 : Nat) = 5 by decide)
  | 41, _ => fun h => by obtain rfl := kd_41.mp h; exact Or.inr (show ¬ (3 : Nat) = 5 by decide)
  | 42, _ => fun h => by obtain ⟨_, rfl⟩ := kd_42.mp h; exact Or.inl (show ¬ (1 : Nat) = 0 by decide)
  | 43, _ => fun h => by obtain ⟨_, rfl⟩ := kd_43.mp h; exact Or.inl (show ¬ (1 : Nat) = 0 by decide)
  | 44, _ => fun h => by obtain rfl := kd_44.mp h; exact Or.inr (show ¬ (3 : Nat) = 5 by decide)
  | 45, _ => fun h => by obtain rfl := kd_45.mp h; exact Or.inl (show ¬ (1 : Nat) = 0 by decide)
  | 46, _ => fun h => by obtain rfl := kd_46.mp h; exact Or.inr (show ¬ (3 : Nat) = 5 by decide)
  | 47, _ => fun h => by obtain rfl := kd_47.mp h; exact Or.inl (show ¬ (1 : Nat) = 0 by decide)
  | 48, _ => fun h => by obtain rfl := kd_48.mp h; exact Or.inr (show ¬ (3 : Nat) = 5 by decide)
  | 49, _ => fun h => by obtain rfl := kd_49.mp h; exact Or.inl (show ¬ (1 : Nat) = 0 by decide)
  | 50, _ => fun h => by obtain ⟨_, _, _, rfl⟩ := kd_50.mp h; exact Or.inl (show ¬ (1 : Nat) = 0 by decide)
  | 51, _ => fun h => by obtain ⟨_, _, _, rfl⟩ := kd_51.mp h; exact Or.inl (show ¬ (1 : Nat) = 0 by decide)
  | 52, _ => fun h => by obtain ⟨_, rfl⟩ := kd_52.mp h; exact Or.inl (show ¬ (1 : Nat) = 0 by decide)
  | 53, _ => fun h => by obtain rfl := kd_53.mp h; exact Or.inr (show ¬ (1 : Nat) = 5 by decide)
  | 54, _ => fun h => by obtain ⟨_, rfl⟩ := kd_54.mp h; exact Or.inr (show ¬ (0 : Nat) = 5 by decide)
  | 55, _ => fun h => by obtain ⟨_, rfl⟩ := kd_55.mp h; exact Or.inr (show ¬ (0 : Nat) = 5 by decide)
  | 56, _ => fun h => by obtain ⟨_, rfl⟩ := kd_56.mp h; exact Or.inr (show ¬ (0 : Nat) = 5 by decide)
  | 57, _ => fun h => by obtain ⟨_, rfl⟩ := kd_57.mp h; exact Or.inr (show ¬ (0 : Nat) = 5 by decide)
  | 58, _ => fun h => by obtain ⟨_, rfl⟩ := kd_58.mp h; exact Or.inr (show ¬ (0 : Nat) = 5 by decide)
  | 59, _ => fun h => by obtain ⟨_, rfl⟩ := kd_59.mp h; exact Or.inr (show ¬ (2 : Nat) = 5 by decide)
  | 60, _ => fun h => by obtain ⟨_, rfl⟩ := kd_60.mp h; exact Or.inr (show ¬ (0 : Nat) = 5 by decide)
  | 61, _ => fun h => by obtain ⟨_, rfl⟩ := kd_61.mp h; exact Or.inr (show ¬ (0 : Nat) = 5 by decide)
  | 62, _ => fun h => by obtain ⟨_, _, _, rfl⟩ := kd_62.mp h; exact Or.inl (show ¬ (1 : Nat) = 0 by decide)
  | 63, _ => fun h => by obtain rfl := kd_63.mp h; exact Or.inr (show ¬ (0 : Nat) = 5 by decide)
  | 64, _ => fun h => by obtain rfl := kd_64.mp h; exact Or.inr (show ¬ (3 : Nat) = 5 by decide)
  | 65, _ => fun h => by obtain ⟨_, _, _, rfl⟩ := kd_65.mp h; exact Or.inl (show ¬ (1 : Nat) = 0 by decide)
  | 66, _ => fun h => by obtain ⟨_, _, _, rfl⟩ := kd_66.mp h; exact Or.inl (show ¬ (1 : Nat) = 0 by decide)
  | 67, _ => fun h => by obtain ⟨_, _, _, rfl⟩ := kd_67.mp h; exact Or.inl (show ¬ (1 : Nat) = 0 by decide)
  | 68, _ => fun h => by obtain ⟨_, _, _, rfl⟩ := kd_68.mp h; exact Or.inl (show ¬ (1 : Nat) = 0 by decide)
  | 69, _ => fun h => by obtain rfl := kd_69.mp h; exact Or.inr (show ¬ (3 : Nat) = 5 by decide)
  | 70, _ => fun h => by obtain ⟨_, rfl⟩ := kd_70.mp h; exact Or.inr (show ¬ (4 : Nat) = 5 by decide)
  | i + 71, h => absurd h (by omega)
theorem KD.cg {ad : Nat → Nat} {t t2 : zTT} : ∀ (i : Nat) (e : zE), i < 71 → t2.1 i = t.1 i → KD ad t i e → KD ad t2 i e := fun i e hi => match i, hi with
  | 0, _ => fun _ h => kd_0.mpr (kd_0.mp h)
  | 1, _ => fun h1 h => by have q := kd_1.mp h; rw [← h1] at q; exact kd_1.mpr q
  | 2, _ => fun h1 h => by have q := kd_2.mp h; rw [← h1] at q; exact kd_2.mpr q
  | 3, _ => fun _ h => kd_3.mpr (kd_3.mp h)
  | 4, _ => fun _ h => kd_4.mpr (kd_4.mp h)
  | 5, _ => fun h1 h => by have q := kd_5.mp h; rw [← h1] at q; exact kd_5.mpr q
  | 6, _ => fun h1 h => by have q := kd_6.mp h; rw [← h1] at q; exact kd_6.mpr q
  | 7, _ => fun h1 h => by have q := kd_7.mp h; rw [← h1] at q; exact kd_7.mpr q
  | 8, _ => fun h1 h => by have q := kd_8.mp h; rw [← h1] at q; exact kd_8.mpr q
  | 9, _ => fun h1 h => by have q := kd_9.mp h; rw [← h1] at q; exact kd_9.mpr q
  | 10, _ => fun h1 h => by have q := kd_10.mp h; rw [← h1] at q; exact kd_10.mpr q
  | 11, _ => fun h1 h => by have q := kd_11.mp h; rw [← h1] at q; exact kd_11.mpr q
  | 12, _ => fun h1 h => by have q := kd_12.mp h; rw [← h1] at q; exact kd_12.mpr q
  | 13, _ => fun h1 h => by have q := kd_13.mp h; rw [← h1] at q; exact kd_13.mpr q
  | 14, _ => fun h1 h => by have q := kd_14.mp h; rw [← h1] at q; exact kd_14.mpr q
  | 15, _ => fun h1 h => by have q := kd_15.mp h; rw [← h1] at q; exact kd_15.mpr q
  | 16, _ => fun h1 h => by have q := kd_16.mp h; rw [← h1] at q; exact kd_16.mpr q
  | 17, _ => fun h1 h => by have q := kd_17.mp h; rw [← h1] at q; exact kd_17.mpr q
  | 18, _ => fun _ h => kd_18.mpr (kd_18.mp h)
  | 19, _ => fun _ h => kd_19.mpr (kd_19.mp h)
  | 20, _ => fun _ h => kd_20.mpr (kd_20.mp h)
  | 21, _ => fun _ h => kd_21.mpr (kd_21.mp h)
  | 22, _ => fun _ h => kd_22.mpr (kd_22.mp h)
  | 23, _ => fun _ h => kd_23.mpr (kd_23.mp h)
  | 24, _ => fun _ h => kd_24.mpr (kd_24.mp h)
  | 25, _ => fun _ h => kd_25.mpr (kd_25.mp h)
  | 26, _ => fun _ h => kd_26.mpr (kd_26.mp h)
  | 27, _ => fun _ h => kd_27.mpr (kd_27.mp h)
  | 28, _ => fun _ h => kd_28.mpr (kd_28.mp h)
  | 29, _ => fun _ h => kd_29.mpr (kd_29.mp h)
  | 30, _ => fun _ h => kd_30.mpr (kd_30.mp h)
  | 31, _ => fun h1 h => by have q := kd_31.mp h; rw [← h1] at q; exact kd_31.mpr q
  | 32, _ => fun h1 h => by have q := kd_32.mp h; rw [← h1] at q; exact kd_32.mpr q
  | 33, _ => fun h1 h => by have q := kd_33.mp h; rw [← h1] at q; exact kd_33.mpr q
  | 34, _ => fun h1 h => by have q := kd_34.mp h; rw [← h1] at q; exact kd_34.mpr q
  | 35, _ => fun h1 h => by have q := kd_35.mp h; rw [← h1] at q; exact kd_35.mpr q
  | 36, _ => fun h1 h => by have q := kd_36.mp h; rw [← h1] at q; exact kd_36.mpr q
  | 37, _ => fun h1 h => by have q := kd_37.mp h; rw [← h1] at q; exact kd_37.mpr q
  | 38, _ => fun h1 h => by have q := kd_38.mp h; rw [← h1] at q; exact kd_38.mpr q
  | 39, _ => fun h1 h => by have q := kd_39.mp h; rw [← h1] at q; exact kd_39.mpr q
  | 40, _ => fun h1 h => by have q := kd_40.mp h; rw [← h1] at q; exact kd_40.mpr q
  | 41, _ => fun h1 h => by have q := kd_41.mp h; rw [← h1] at q; exact kd_41.mpr q
  | 42, _ => fun h1 h => by have q := kd_42.mp h; rw [← h1] at q; exact kd_42.mpr q
  | 43, _ => fun h1 h => by have q := kd_43.mp h; rw [← h1] at q; exact kd_43.mpr q
  | 44, _ => fun h1 h => by have q := kd_44.mp h; rw [← h1] at q; exact kd_44.mpr q
  | 45, _ => fun h1 h => by have q := kd_45.mp h; rw [← h1] at q; exact kd_45.mpr q
  | 46, _ => fun h1 h => by have q := kd_46.mp h; rw [← h1] at q; exact kd_46.mpr q
  | 47, _ => fun h1 h => by have q := kd_47.mp h; rw [← h1] at q; exact kd_47.mpr q
  | 48, _ => fun h1 h => by have q := kd_48.mp h; rw [← h1] at q; exact kd_48.mpr q
  | 49, _ => fun h1 h => by have q := kd_49.mp h; rw [← h1] at q; exact kd_49.mpr q
  | 50, _ => fun _ h => kd_50.mpr (kd_50.mp h)
  | 51, _ => fun _ h => kd_51.mpr (kd_51.mp h)
  | 52, _ => fun h1 h => by have q := kd_52.mp h; rw [← h1] at q; exact kd_52.mpr q
  | 53, _ => fun h1 h => by have q := kd_53.mp h; rw [← h1] at q; exact kd_53.mpr q
  | 54, _ => fun _ h => kd_54.mpr (kd_54.mp h)
  | 55, _ => fun _ h => kd_55.mpr (kd_55.mp h)
  | 56, _ => fun _ h => kd_56.mpr (kd_56.mp h)
  | 57, _ => fun _ h => kd_57.mpr (kd_57.mp h)
  | 58, _ => fun _ h => kd_58.mpr (kd_58.mp h)
  | 59, _ => fun _ h => kd_59.mpr (kd_59.mp h)
  | 60, _ => fun _ h => kd_60.mpr (kd_60.mp h)
  | 61, _ => fun _ h => kd_61.mpr (kd_61.mp h)
  | 62, _ => fun _ h => kd_62.mpr (kd_62.mp h)
  | 63, _ => fun h1 h => by have q := kd_63.mp h; rw [← h1] at q; exact kd_63.mpr q
  | 64, _ => fun h1 h => by have q := kd_64.mp h; rw [← h1] at q; exact kd_64.mpr q
  | 65, _ => fun _ h => kd_65.mpr (kd_65.mp h)
  | 66, _ => fun _ h => kd_66.mpr (kd_66.mp h)
  | 67, _ => fun _ h => kd_67.mpr (kd_67.mp h)
  | 68, _ => fun _ h => kd_68.mpr (kd_68.mp h)
  | 69, _ => fun h1 h => by have q := kd_69.mp h; rw [← h1] at q; exact kd_69.mpr q
  | 70, _ => fun _ h => kd_70.mpr (kd_70.mp h)
  | i + 71, h => absurd h (by omega)
def z_lx : List Nat := [50, 51, 62, 65, 66, 67, 68]
def KDs (ad : Nat → Nat) (t : zTT) : List Nat → zC → Prop
  | i :: is, x :: xs => KD ad t i x.2 ∧ KDs ad t is xs
  | [], _ => True
  | _ :: _, [] => True
theorem KDs.at {ad : Nat → Nat} {t : zTT} : ∀ (is : List Nat) (xs : zC) (j i : Nat) (x : Nat × zE), KDs ad t is xs → is[j]? = some i → xs[j]? = some x → KD ad t i x.2
  | [], _, j, i, x, _, h, _ => by simp at h
  | _ :: _, [], j, i, x, _, _, h => by simp at h
  | i0 :: is, x0 :: xs, 0, i, x, h, h1, h2 => by
    simp at h1 h2
    subst h1; subst h2
    exact h.1
  | i0 :: is, x0 :: xs, j + 1, i, x, h, h1, h2 => KDs.at is xs j i x h.2 (by simpa using h1) (by simpa using h2)
def IVf (ad : Nat → Nat) (t : zTT) (w : zW) : Prop := (∀ i j, i < 71 → j < 71 → ad i = ad j → i = j) ∧ ∀ i, i < 71 → ∃ e, w (ad i) = some e ∧ KD ad t i e
theorem IVf.I {ad : Nat → Nat} {t : zTT} {w : zW} (h : IVf ad t w) (is : List Nat) (csC : zC) (ha : csC.map Prod.fst = is.map ad) (hn : is.Nodup) (hb : ∀ i ∈ is, i < 71) (hw : ∀ p ∈ csC, w p.1 = some p.2) : z_I w w csC.length csC := by
  refine ⟨hw, fun _ _ => rfl, ?_, fun p hp => ?_, Nat.le_refl _⟩
  · rw [ha]
    refine List.pairwise_map.mpr (List.Pairwise.imp_of_mem (fun {x y} hx hy hne e => hne (h.1 x y (hb x hx) (hb y hy) e)) hn)
  · rw [List.drop_of_length_le (Nat.le_refl _)] at hp
    cases hp
theorem IVf.st {ad : Nat → Nat} {t t2 : zTT} {w w1 : zW} (h : IVf ad t w) {is : List Nat} {cs1 : zC} {m : Nat} (h1 : z_I w w1 m cs1) (ha : (cs1.map Prod.fst).take m = is.map ad) (hk : KDs ad t2 is cs1) (hb : ∀ i ∈ is, i < 71) (hs : ∀ i, i < 71 → i ∉ is → t2.1 i = t.1 i) : IVf ad t2 w1 := by
  refine ⟨h.1, fun i hi => ?_⟩
  by_cases hm : i ∈ is
  · obtain ⟨j, hj⟩ := List.getElem?_of_mem hm
    have e1 : ((cs1.map Prod.fst).take m)[j]? = some (ad i) := by rw [ha, List.getElem?_map, hj]; rfl
    have hjm : j < m := by
      have := (List.getElem?_eq_some_iff.mp e1).1
      rw [List.length_take] at this
      omega
    rw [List.getElem?_take_of_lt hjm, List.getElem?_map] at e1
    cases hx : cs1[j]? with
    | none => rw [hx] at e1; cases e1
    | some x =>
      rw [hx] at e1
      have e2 : x.1 = ad i := Option.some.inj e1
      exact ⟨x.2, by rw [← e2]; exact h1.at hx, KDs.at is cs1 j i x hk hj hx⟩
  · obtain ⟨e, he, hd⟩ := h.2 i hi
    refine ⟨e, h1.ke ha (ad i) e (fun hq => ?_) he, hd.cg i _ hi (hs i hi hm)⟩
    obtain ⟨j, hj, e9⟩ := List.mem_map.mp hq
    exact hm (h.1 j i (hb j hj) hi e9 ▸ hj)
def z_L (g : zG) (w : zW) (a n : Nat) (bk : Option Nat) (el : Nat → Nat) : Prop :=
  ∃ (md : Int32) (dd : Nat), w a = some (.inr (13, [.int md, .ref dd, .int (nI n)])) ∧ ((bk = none ∧ n = 0 ∧ dd = g.2.2 4) ∨ (bk = some dd ∧ ∃ (N : Nat) (f : Nat → Option Nat), n ≤ N ∧ (N = 10 ∨ N = 15 ∨ N = 22 ∨ N = 33) ∧ w dd = some (.inl (5, N, .inr (.inr (.inr (.inr f))))) ∧ ∀ k, k < n → f k = some (el k)))
theorem z_L.ke {g : zG} {S : Nat → Prop} {w w1 : zW} {a n : Nat} {bk : Option Nat} {el : Nat → Nat} (h : z_L g w a n bk el) (hk : z_ke S w w1) (h1 : ¬ S a) (h2 : ∀ q, bk = some q → ¬ S q) : z_L g w1 a n bk el := by
  obtain ⟨md, dd, e1, e2⟩ := h
  refine ⟨md, dd, hk _ _ h1 e1, ?_⟩
  rcases e2 with e2 | ⟨e2, N, f, e3, e4, e5, e6⟩
  · exact Or.inl e2
  · exact Or.inr ⟨e2, N, f, e3, e4, hk _ _ (h2 _ e2) e5, e6⟩
def z_nf (ad : Nat → Nat) (a : Nat) : Prop := ∀ i, i < 71 → ad i ≠ a
def EL (ad : Nat → Nat) (L : Nat) (w : zW) (a : Nat) (v : zV) : Prop := z_nf ad a ∧ match L with
  | 0 => ∃ c : Nat, w a = some (.inr (7, [.ref c, .int (nI (v.2.2.2 0)), .int (v.1 0), .int (v.1 1), .int (v.1 2), .int (v.1 3), .int (v.1 4), .int (v.1 5)])) ∧ (v.2.2.2 0 ≤ 108 ∧ (v.1 1 = 0 ∨ v.1 1 = 1)) ∧ z_nf ad c ∧ w c = some (.inl (1, 108, .inl v.2.1)) ∧ z_ch v.2.1
  | 1 => ∃ me gr : Nat, w a = some (.inr (0, [.ref me, .int (v.1 0), .int (v.1 1), .int (v.1 2), .int (v.1 3), .int (v.1 4)])) ∧ z_nf ad me ∧ w me = some (.inr (6, [.ref gr, .int (v.1 5)])) ∧ z_nf ad gr ∧ w gr = some (.inl (3, 4, .inr (.inl v.2.2.1)))
  | 2 => w a = some (.inl (0, 2, .inl v.2.1))
  | 3 => w a = some (.inl (1, 108, .inl v.2.1)) ∧ z_ch v.2.1 ∧ ¬ fa_cnt (fun k => decide (v.2.1 k = 103)) 12 = 0
  | 4 => w a = some (.inl (0, 5, .inl v.2.1)) ∧ v.2.1 0 = nI (v.2.2.2 0) ∧ 1 ≤ v.2.2.2 0 ∧ v.2.2.2 0 < 9
  | 5 => w a = some (.inl (0, 6, .inl v.2.1)) ∧ ¬ v.2.1 0 = 0
  | _ => w a = some (.inl (3, 4, .inr (.inl v.2.2.1)))
def elk (L : Nat) : Nat × Nat × Nat := ([(1, 7, 0), (1, 0, 0), (0, 0, 2), (0, 1, 108), (0, 0, 5), (0, 0, 6)] : List (Nat × Nat × Nat)).getD L (0, 3, 4)
theorem EL.tag {ad : Nat → Nat} {L : Nat} {w : zW} {a : Nat} {v : zV} (h : EL ad L w a v) : ∃ e, w a = some e ∧ z_kd e = elk L := by
  obtain ⟨h0, h⟩ := h
  match L, h with
  | 0, h => obtain ⟨c, e1, -⟩ := h; exact ⟨_, e1, rfl⟩
  | 1, h => obtain ⟨me, gr, e1, -⟩ := h; exact ⟨_, e1, rfl⟩
  | 2, h => exact ⟨_, h, rfl⟩
  | 3, h => exact ⟨_, h.1, rfl⟩
  | 4, h => exact ⟨_, h.1, rfl⟩
  | 5, h => exact ⟨_, h.1, rfl⟩
  | _ + 6, h => exact ⟨_, h, rfl⟩
theorem EL.ke3 {ad : Nat → Nat} {L : Nat} {w w1 : zW} {a : Nat} {v : zV} (h : EL ad L w a v) (hk : ∀ q e, z_nf ad q → w q = some e → (q = a ∨ z_kd e = (0, 1, 108) ∨ z_kd e = (1, 6, 0) ∨ z_kd e = (0, 3, 4)) → w1 q = some e) : EL ad L w1 a v := by
  obtain ⟨h0, h⟩ := h
  refine ⟨h0, ?_⟩
  match L, h with
  | 0, h =>
    obtain ⟨c, e1, e2, e3, e4, e5⟩ := h
    exact ⟨c, hk _ _ h0 e1 (Or.inl rfl), e2, e3, hk _ _ e3 e4 (Or.inr (Or.inl rfl)), e5⟩
  | 1, h =>
    obtain ⟨me, gr, e1, e2, e3, e4, e5⟩ := h
    exact ⟨me, gr, hk _ _ h0 e1 (Or.inl rfl), e2, hk _ _ e2 e3 (Or.inr (Or.inr (Or.inl rfl))), e4, hk _ _ e4 e5 (Or.inr (Or.inr (Or.inr rfl)))⟩
  | 2, h => exact hk _ _ h0 h (Or.inl rfl)
  | 3, h => exact ⟨hk _ _ h0 h.1 (Or.inl rfl), h.2⟩
  | 4, h => exact ⟨hk _ _ h0 h.1 (Or.inl rfl), h.2⟩
  | 5, h => exact ⟨hk _ _ h0 h.1 (Or.inl rfl), h.2⟩
  | _ + 6, h => exact hk _ _ h0 h (Or.inl rfl)
theorem EL.ke {ad : Nat → Nat} {S : Nat → Prop} {L : Nat} {w w1 : zW} {a : Nat} {v : zV} (h : EL ad L w a v) (hk : z_ke S w w1) (hS : ∀ q, z_nf ad q → ¬ S q) : EL ad L w1 a v := h.ke3 (fun q e h0 h1 _ => hk q e (hS q h0) h1)
abbrev zNN : Type := (Nat → Nat) × (Nat → Option Nat) × (Nat → Nat → Nat)
def IVl (g : zG) (ad : Nat → Nat) (t : zTT) (u : zNN) (w : zW) : Prop :=
  (∀ L, L < 7 → z_L g w (ad (z_lx.getD L 0)) (u.1 L) (u.2.1 L) (u.2.2 L)) ∧ (∀ L, L < 7 → ∀ k, k < u.1 L → EL ad L w (u.2.2 L k) (t.2 L k)) ∧ ((∀ L1 L2, L1 < 7 → L2 < 7 → ∀ q, u.2.1 L1 = some q → u.2.1 L2 = some q → L1 = L2) ∧ ∀ L, L < 7 → ∀ j k, j < u.1 L → k < u.1 L → u.2.2 L j = u.2.2 L k → j = k) ∧ u.1 0 ≤ 10 ∧ u.1 1 ≤ 30 ∧ u.1 2 ≤ 20 ∧ u.1 3 ≤ 10 ∧ u.1 4 = u.1 3 ∧ u.1 5 ≤ 30 ∧ u.1 6 = u.1 5
def tOK (t : zTT) : Prop := z_ch (t.1 2).1 ∧ z_ch (t.1 53).1 ∧ (1 ≤ (t.1 1).2.2 0 ∧ (t.1 1).2.2 0 < 9) ∧ (1 ≤ (t.1 52).2.2 0 ∧ (t.1 52).2.2 0 < 9)
def IV (g : zG) (ad : Nat → Nat) (t : zTT) (u : zNN) (w : zW) : Prop := IVf ad t w ∧ IVl g ad t u w ∧ tOK t
theorem z_L.bk {g : zG} {w : zW} {a n q : Nat} {bk : Option Nat} {el : Nat → Nat} (h : z_L g w a n bk el) (hb : bk = some q) : ∃ (N : Nat) (f : Nat → Option Nat), w q = some (.inl (5, N, .inr (.inr (.inr (.inr f))))) := by
  obtain ⟨md, dd, e1, e2⟩ := h
  rcases e2 with ⟨e2, -⟩ | ⟨e2, N, f, -, -, e5, -⟩
  · rw [hb] at e2; cases e2
  · rw [hb] at e2; cases e2; exact ⟨N, f, e5⟩
theorem IVf.n5 {ad : Nat → Nat} {t : zTT} {w : zW} (h : IVf ad t w) {q N : Nat} {f : Nat → Option Nat} (hw : w q = some (.inl (5, N, .inr (.inr (.inr (.inr f)))))) : z_nf ad q := by
  intro i hi e
  obtain ⟨e0, he, hd⟩ := h.2 i hi
  rw [e, hw] at he
  cases he
  rcases hd.n5 i hi with h9 | h9
  · exact h9 rfl
  · exact h9 rfl
theorem IVl.ke {g : zG} {ad : Nat → Nat} {t t2 : zTT} (ht2 : t2.2 = t.2) {u : zNN} {w w1 : zW} (hF : IVf ad t w) (h : IVl g ad t u w) {is : List Nat} (hk : z_ke (fun q => q ∈ is.map ad) w w1) (hb : ∀ i ∈ is, i < 71) (hl : ∀ i ∈ is, i ∉ z_lx) : IVl g ad t2 u w1 := by
  have hnf : ∀ q, z_nf ad q → ¬ q ∈ is.map ad := fun q hq hm => by
    obtain ⟨j, hj, e⟩ := List.mem_map.mp hm
    exact hq j (hb j hj) e
  refine ⟨fun L hL => (h.1 L hL).ke hk (fun hm => ?_) (fun q hq => ?_), fun L hL k hk9 => (by rw [ht2]; exact (h.2.1 L hL k hk9).ke hk hnf), h.2.2⟩
  · obtain ⟨j, hj, e⟩ := List.mem_map.mp hm
    have hx : z_lx.getD L 0 < 71 ∧ z_lx.getD L 0 ∈ z_lx := (show ∀ L, L < 7 → z_lx.getD L 0 < 71 ∧ z_lx.getD L 0 ∈ z_lx by decide) L hL
    have e2 := hF.1 j _ (hb j hj) hx.1 e
    exact hl j hj (e2 ▸ hx.2)
  · obtain ⟨N, f, e5⟩ := (h.1 L hL).bk hq
    exact hnf q (hF.n5 e5)
theorem IV.fix {g : zG} {ad : Nat → Nat} {t t2 : zTT} {u : zNN} {w w1 : zW} (h : IV g ad t u w) {is : List Nat} {cs1 : zC} {m : Nat} (h1 : z_I w w1 m cs1) (ha : (cs1.map Prod.fst).take m = is.map ad) (hk : KDs ad t2 is cs1) (hb : ∀ i ∈ is, i < 71) (hl : ∀ i ∈ is, i ∉ z_lx) (hs : ∀ i, i < 71 → i ∉ is → t2.1 i = t.1 i) (ht : tOK t → tOK t2) (ht2 : t2.2 = t.2) : IV g ad t2 u w1 :=
  ⟨h.1.st h1 ha hk hb hs, h.2.1.ke ht2 h.1 (h1.ke ha) hb hl, ht h.2.2⟩
theorem IV.same {g : zG} {ad : Nat → Nat} {t : zTT} {u : zNN} {w w1 : zW} (h : IV g ad t u w) (e : w1 = w) : IV g ad t u w1 := by rw [e]; exact h
