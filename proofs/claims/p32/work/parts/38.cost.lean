section
theorem prS_nn {pp ps pa : Int32} (h1 : 1 ≤ pp ∧ pp ≤ 1000) (h2 : 1 ≤ ps ∧ ps ≤ 1000) (h3 : 1 ≤ pa ∧ pa ≤ 1000) {P A : Nat} (h : P + A ≤ 100) : 0 ≤ prS pp ps pa P A := by
  have key : ∀ {x : Int32}, 1 ≤ x ∧ x ≤ 1000 → ∃ a : Nat, a ≤ 1000 ∧ x = nI a := fun {x} q => by
    have h0 : 0 ≤ x := Int32.le_trans (by decide) q.1
    have e := z_nn h0
    refine ⟨x.toNatClampNeg, ?_, e⟩
    have f1 : x.toNatClampNeg < 2 ^ 31 := by have := fb_rng x; have := z_clamp h0; omega
    have := q.2
    rw [e] at this
    exact z_le (b := 1000) (by decide) f1 this
  obtain ⟨a, ha, rfl⟩ := key h1
  obtain ⟨b, hb, rfl⟩ := key h2
  obtain ⟨c, hc, rfl⟩ := key h3
  unfold prS
  rw [pk_mul, pk_mul, pk_mul, nI_add, nI_add]
  refine Int32.not_lt.mp (nI_nneg ?_)
  have q1 : P * a ≤ 100 * 1000 := Nat.mul_le_mul (by omega) ha
  have q2 : (100 - P - A) * b ≤ 100 * 1000 := Nat.mul_le_mul (by omega) hb
  have q3 : A * c ≤ 100 * 1000 := Nat.mul_le_mul (by omega) hc
  omega
def rOk (s : zR) : Prop := s.1 = -1 ∨ 0 ≤ s.1
theorem rOk_lt {s : zR} (h : rOk s) (q : s.1 < 0) : s.1 = -1 := h.elim id (fun e => absurd q (Int32.not_lt.mpr e))
theorem rOk_nlt {s : zR} (h : rOk s) (q : ¬ s.1 < 0) : ¬ s.1 = -1 := fun e => q (by rw [e]; decide)
theorem rOk_m1 {s : zR} (q : s.1 = -1) : s.1 < 0 := by rw [q]; decide
theorem rcI_ok {le mo si pp ps pa : Int32} {P A : Nat} {s : zR} (hp : 0 ≤ prS pp ps pa P A) (h : rOk s) : rOk (rcI le mo si pp ps pa P A s) := by
  unfold rcI
  split
  · exact Or.inr hp
  · exact h
theorem rcR_ok {le mo si pp ps pa : Int32} {P : Nat} {s : zR} (hp : ∀ P A, P + A ≤ 100 → 0 ≤ prS pp ps pa P A) (h : rOk s) : ∀ A, A ≤ nA P → P ≤ 100 → P ≤ 90 ∨ P = 100 → rOk (rcR le mo si pp ps pa P s A)
  | 0, _, _, _ => h
  | A + 1, h1, h2, h3 => by
    refine rcI_ok (hp P A ?_) (rcR_ok hp h A (by omega) h2 h3)
    rcases nA_c P with ⟨q1, q2⟩ | ⟨q1, q2⟩ <;> omega
theorem rcO_ok {le mo si pp ps pa : Int32} {s : zR} (hp : ∀ P A, P + A ≤ 100 → 0 ≤ prS pp ps pa P A) (h : rOk s) : ∀ k, k ≤ 11 → rOk (rcO le mo si pp ps pa s k)
  | 0, _ => h
  | k + 1, hk => rcR_ok hp (rcO_ok hp h k (by omega)) _ (Nat.le_refl _) (by omega) (by omega)
theorem ctS_0 (P S A : Nat) : nI (P * 420 + S * 20 + A * 1) / 100 = ctS 0 (nI P) (nI S) (nI A) := by
  rw [← nI_add, ← nI_add, ← pk_mul, ← pk_mul, ← pk_mul]
  unfold ctS
  rfl
theorem ctS_1 (P S A : Nat) : nI (P * 100 + S * 30 + A * 750) / 100 = ctS 1 (nI P) (nI S) (nI A) := by
  rw [← nI_add, ← nI_add, ← pk_mul, ← pk_mul, ← pk_mul]
  unfold ctS
  rfl
theorem z_arc (a b c : Int32) : a + b + c = a + c + b := by rw [Int32.add_assoc, Int32.add_comm b c, ← Int32.add_assoc]
theorem ct_le {a b c : Int32} (h : ¬ (b ≤ a ∧ a ≤ c)) : ¬ (¬ a < b ∧ ¬ c < a) := fun q => h ⟨Int32.not_lt.mp q.1, Int32.not_lt.mp q.2⟩
theorem rOk_b {s : zR} (h : rOk s) (q : ¬ s.1 = -1) : ¬ s.1 < 0 := fun e => q (rOk_lt h e)
abbrev M_Mm_has_0 : zM := (⟨"IronpourModel", "has", "(III)I"⟩, prog_14_method_70_code, 4, (Option.some FieldType.int), 2, 41, [])
theorem d_Mm_has_0_0 : decode prog_14_method_70_code 0 = .ok (.bipush 100, 2) := zo_16 (d := 100) (zd_b zq_prog_14_method_70_code_0 0 rfl rfl rfl) (zd_b zq_prog_14_method_70_code_0 1 rfl rfl rfl) (by decide +kernel)
theorem d_Mm_has_0_2 : decode prog_14_method_70_code 2 = .ok (.iload_n 0, 1) := zo_26 (zd_b zq_prog_14_method_70_code_0 2 rfl rfl rfl)
theorem d_Mm_has_0_3 : decode prog_14_method_70_code 3 = .ok (.isub, 1) := zo_100 (zd_b zq_prog_14_method_70_code_0 3 rfl rfl rfl)
theorem d_Mm_has_0_4 : decode prog_14_method_70_code 4 = .ok (.iload_n 1, 1) := zo_27 (zd_b zq_prog_14_method_70_code_0 4 rfl rfl rfl)
theorem d_Mm_has_0_5 : decode prog_14_method_70_code 5 = .ok (.isub, 1) := zo_100 (zd_b zq_prog_14_method_70_code_0 5 rfl rfl rfl)
theorem d_Mm_has_0_6 : decode prog_14_method_70_code 6 = .ok (.istore_n 3, 1) := zo_62 (zd_b zq_prog_14_method_70_code_0 6 rfl rfl rfl)
theorem d_Mm_has_0_7 : decode prog_14_method_70_code 7 = .ok (.iload_n 0, 1) := zo_26 (zd_b zq_prog_14_method_70_code_0 7 rfl rfl rfl)
theorem d_Mm_has_0_8 : decode prog_14_method_70_code 8 = .ok (.bipush 112, 2) := zo_16 (d := 112) (zd_b zq_prog_14_method_70_code_0 8 rfl rfl rfl) (zd_b zq_prog_14_method_70_code_0 9 rfl rfl rfl) (by decide +kernel)
theorem d_Mm_has_0_10 : decode prog_14_method_70_code 10 = .ok (.iload_n 2, 1) := zo_28 (zd_b zq_prog_14_method_70_code_0 10 rfl rfl rfl)
theorem d_Mm_has_0_11 : decode prog_14_method_70_code 11 = .ok (.invokestatic 240, 3) := zo_184 (d := 0) (e := 240) (zd_b zq_prog_14_method_70_code_0 11 rfl rfl rfl) (zd_b zq_prog_14_method_70_code_0 12 rfl rfl rfl) (zd_b zq_prog_14_method_70_code_0 13 rfl rfl rfl)
theorem ok_Mm_has_0_Mm_tenths : z_ok M_Mm_has_0 M_Mm_tenths 2 := ⟨z_mj8 (i := 156) rfl (by decide +kernel), rfl, ⟨by decide +kernel, by decide +kernel, by decide +kernel⟩, ⟨by decide, by decide⟩, z_mj1 (i := 14) rfl (by decide +kernel), rfl⟩
theorem d_Mm_has_0_14 : decode prog_14_method_70_code 14 = .ok (.imul, 1) := zo_104 (zd_b zq_prog_14_method_70_code_0 14 rfl rfl rfl)
theorem d_Mm_has_0_15 : decode prog_14_method_70_code 15 = .ok (.iload_n 3, 1) := zo_29 (zd_b zq_prog_14_method_70_code_0 15 rfl rfl rfl)
theorem d_Mm_has_0_16 : decode prog_14_method_70_code 16 = .ok (.bipush 115, 2) := zo_16 (d := 115) (zd_b zq_prog_14_method_70_code_0 16 rfl rfl rfl) (zd_b zq_prog_14_method_70_code_0 17 rfl rfl rfl) (by decide +kernel)
theorem d_Mm_has_0_18 : decode prog_14_method_70_code 18 = .ok (.iload_n 2, 1) := zo_28 (zd_b zq_prog_14_method_70_code_0 18 rfl rfl rfl)
theorem d_Mm_has_0_19 : decode prog_14_method_70_code 19 = .ok (.invokestatic 240, 3) := zo_184 (d := 0) (e := 240) (zd_b zq_prog_14_method_70_code_0 19 rfl rfl rfl) (zd_b zq_prog_14_method_70_code_0 20 rfl rfl rfl) (zd_b zq_prog_14_method_70_code_0 21 rfl rfl rfl)
theorem d_Mm_has_0_22 : decode prog_14_method_70_code 22 = .ok (.imul, 1) := zo_104 (zd_b zq_prog_14_method_70_code_0 22 rfl rfl rfl)
theorem d_Mm_has_0_23 : decode prog_14_method_70_code 23 = .ok (.iadd, 1) := zo_96 (zd_b zq_prog_14_method_70_code_0 23 rfl rfl rfl)
theorem d_Mm_has_0_24 : decode prog_14_method_70_code 24 = .ok (.iload_n 1, 1) := zo_27 (zd_b zq_prog_14_method_70_code_0 24 rfl rfl rfl)
theorem d_Mm_has_0_25 : decode prog_14_method_70_code 25 = .ok (.bipush 102, 2) := zo_16 (d := 102) (zd_b zq_prog_14_method_70_code_0 25 rfl rfl rfl) (zd_b zq_prog_14_method_70_code_0 26 rfl rfl rfl) (by decide +kernel)
theorem d_Mm_has_0_27 : decode prog_14_method_70_code 27 = .ok (.iload_n 2, 1) := zo_28 (zd_b zq_prog_14_method_70_code_0 27 rfl rfl rfl)
theorem d_Mm_has_0_28 : decode prog_14_method_70_code 28 = .ok (.invokestatic 240, 3) := zo_184 (d := 0) (e := 240) (zd_b zq_prog_14_method_70_code_0 28 rfl rfl rfl) (zd_b zq_prog_14_method_70_code_0 29 rfl rfl rfl) (zd_b zq_prog_14_method_70_code_0 30 rfl rfl rfl)
theorem d_Mm_has_0_31 : decode prog_14_method_70_code 31 = .ok (.imul, 1) := zo_104 (zd_b zq_prog_14_method_70_code_0 31 rfl rfl rfl)
theorem d_Mm_has_0_32 : decode prog_14_method_70_code 32 = .ok (.iadd, 1) := zo_96 (zd_b zq_prog_14_method_70_code_1 0 rfl rfl rfl)
theorem d_Mm_has_0_33 : decode prog_14_method_70_code 33 = .ok (.bipush 100, 2) := zo_16 (d := 100) (zd_b zq_prog_14_method_70_code_1 1 rfl rfl rfl) (zd_b zq_prog_14_method_70_code_1 2 rfl rfl rfl) (by decide +kernel)
theorem d_Mm_has_0_35 : decode prog_14_method_70_code 35 = .ok (.idiv, 1) := zo_108 (zd_b zq_prog_14_method_70_code_1 3 rfl rfl rfl)
theorem d_Mm_has_0_36 : decode prog_14_method_70_code 36 = .ok (.ireturn, 1) := zo_172 (zd_b zq_prog_14_method_70_code_1 4 rfl rfl rfl)
set_option maxHeartbeats 4000000 in
set_option maxRecDepth 100000 in
theorem C_Mm_hasP0 (g : zG) (P A : Nat) (hPA : P + A ≤ 100) : CT g M_Mm_has_0 [.int (nI P), .int (nI A), .int 0] [] (fun o cs1 => o = .inl (some (.int (ctS 0 (nI P) (nI (100 - P - A)) (nI A)))) ∧ cs1 = []) 0 0 := by
  refine z_of (by decide) rfl (Nat.le_of_ble_eq_true rfl) (fun w0 => ?_)
  refine r_lvE (lv2 := [(0, .int (nI P)), (1, .int (nI A)), (2, .int 0)]) rfl ?_
  refine r_bipush d_Mm_has_0_0 (v := 100) (by decide) ?_
  refine r_iload_n d_Mm_has_0_2 rfl 0 rfl ?_
  refine r_isub d_Mm_has_0_3 (v := nI (100 - P)) (pk_sub (a := 100) (by omega)) ?_
  refine r_iload_n d_Mm_has_0_4 rfl 1 rfl ?_
  refine r_isub d_Mm_has_0_5 (v := nI (100 - P - A)) (pk_sub (by omega)) ?_
  refine r_istore_n (lv' := [(3, .int (nI (100 - P - A))), (0, .int (nI P)), (1, .int (nI A)), (2, .int 0)]) d_Mm_has_0_6 rfl (by decide) rfl ?_
  refine r_iload_n d_Mm_has_0_7 rfl 1 rfl ?_
  refine r_bipush d_Mm_has_0_8 (v := 112) (by decide) ?_
  refine r_iload_n d_Mm_has_0_10 rfl 3 rfl ?_
  refine r_callS (As := [.int 112, .int 0]) (rest := [.int (nI P)]) (csC := []) (is := []) ln_Mm_240 w_st_Mm_tenths ok_Mm_has_0_Mm_tenths d_Mm_has_0_11 (C_Mm_tenths112_0 g) rfl rfl (Nat.le_of_ble_eq_true rfl) rfl (by decide) (by omega) (by omega) (fun E cs1 hx => ?_) (fun v cs1 hx => ?_)
  · exact absurd hx.1 (by simp)
  · obtain ⟨e1, rfl⟩ := hx
    cases e1
    refine ⟨rfl, ?_⟩
    refine r_st (st2 := [.int 420, .int (nI P)]) rfl ?_
    refine r_cs (cs2 := []) rfl ?_
    refine r_imul d_Mm_has_0_14 (v := nI (P * 420)) (pk_mul _ _) ?_
    refine r_iload_n d_Mm_has_0_15 rfl 0 rfl ?_
    refine r_bipush d_Mm_has_0_16 (v := 115) (by decide) ?_
    refine r_iload_n d_Mm_has_0_18 rfl 3 rfl ?_
    refine r_callS (As := [.int 115, .int 0]) (rest := [.int (nI (100 - P - A)), .int (nI (P * 420))]) (csC := []) (is := []) ln_Mm_240 w_st_Mm_tenths ok_Mm_has_0_Mm_tenths d_Mm_has_0_19 (C_Mm_tenths115_0 g) rfl rfl (Nat.le_of_ble_eq_true rfl) rfl (by decide) (by omega) (by omega) (fun E cs1 hx => ?_) (fun v cs1 hx => ?_)
    · exact absurd hx.1 (by simp)
    · obtain ⟨e1, rfl⟩ := hx
      cases e1
      refine ⟨rfl, ?_⟩
      refine r_st (st2 := [.int 20, .int (nI (100 - P - A)), .int (nI (P * 420))]) rfl ?_
      refine r_cs (cs2 := []) rfl ?_
      refine r_imul d_Mm_has_0_22 (v := nI ((100 - P - A) * 20)) (pk_mul _ _) ?_
      refine r_iadd d_Mm_has_0_23 (v := nI ((P * 420) + ((100 - P - A) * 20))) (nI_add _ _) ?_
      refine r_iload_n d_Mm_has_0_24 rfl 2 rfl ?_
      refine r_bipush d_Mm_has_0_25 (v := 102) (by decide) ?_
      refine r_iload_n d_Mm_has_0_27 rfl 3 rfl ?_
      refine r_callS (As := [.int 102, .int 0]) (rest := [.int (nI A), .int (nI ((P * 420) + ((100 - P - A) * 20)))]) (csC := []) (is := []) ln_Mm_240 w_st_Mm_tenths ok_Mm_has_0_Mm_tenths d_Mm_has_0_28 (C_Mm_tenths102_0 g) rfl rfl (Nat.le_of_ble_eq_true rfl) rfl (by decide) (by omega) (by omega) (fun E cs1 hx => ?_) (fun v cs1 hx => ?_)
      · exact absurd hx.1 (by simp)
      · obtain ⟨e1, rfl⟩ := hx
        cases e1
        refine ⟨rfl, ?_⟩
        refine r_st (st2 := [.int 1, .int (nI A), .int (nI ((P * 420) + ((100 - P - A) * 20)))]) rfl ?_
        refine r_cs (cs2 := []) rfl ?_
        refine r_imul d_Mm_has_0_31 (v := nI (A * 1)) (pk_mul _ _) ?_
        refine r_iadd d_Mm_has_0_32 (v := nI (((P * 420) + ((100 - P - A) * 20)) + (A * 1))) (nI_add _ _) ?_
        refine r_bipush d_Mm_has_0_33 (v := 100) (by decide) ?_
        refine r_idiv d_Mm_has_0_35 (v := ctS 0 (nI P) (nI (100 - P - A)) (nI A)) (by decide) (ctS_0 _ _ _) ?_
        refine r_iret d_Mm_has_0_36 rfl rfl ?_
        exact ⟨rfl, rfl⟩
set_option maxHeartbeats 4000000 in
set_option maxRecDepth 100000 in
theorem C_Mm_hasP1 (g : zG) (P A : Nat) (hPA : P + A ≤ 100) : CT g M_Mm_has_0 [.int (nI P), .int (nI A), .int 1] [] (fun o cs1 => o = .inl (some (.int (ctS 1 (nI P) (nI (100 - P - A)) (nI A)))) ∧ cs1 = []) 0 0 := by
  refine z_of (by decide) rfl (Nat.le_of_ble_eq_true rfl) (fun w0 => ?_)
  refine r_lvE (lv2 := [(0, .int (nI P)), (1, .int (nI A)), (2, .int 1)]) rfl ?_
  refine r_bipush d_Mm_has_0_0 (v := 100) (by decide) ?_
  refine r_iload_n d_Mm_has_0_2 rfl 0 rfl ?_
  refine r_isub d_Mm_has_0_3 (v := nI (100 - P)) (pk_sub (a := 100) (by omega)) ?_
  refine r_iload_n d_Mm_has_0_4 rfl 1 rfl ?_
  refine r_isub d_Mm_has_0_5 (v := nI (100 - P - A)) (pk_sub (by omega)) ?_
  refine r_istore_n (lv' := [(3, .int (nI (100 - P - A))), (0, .int (nI P)), (1, .int (nI A)), (2, .int 1)]) d_Mm_has_0_6 rfl (by decide) rfl ?_
  refine r_iload_n d_Mm_has_0_7 rfl 1 rfl ?_
  refine r_bipush d_Mm_has_0_8 (v := 112) (by decide) ?_
  refine r_iload_n d_Mm_has_0_10 rfl 3 rfl ?_
  refine r_callS (As := [.int 112, .int 1]) (rest := [.int (nI P)]) (csC := []) (is := []) ln_Mm_240 w_st_Mm_tenths ok_Mm_has_0_Mm_tenths d_Mm_has_0_11 (C_Mm_tenths112_1 g) rfl rfl (Nat.le_of_ble_eq_true rfl) rfl (by decide) (by omega) (by omega) (fun E cs1 hx => ?_) (fun v cs1 hx => ?_)
  · exact absurd hx.1 (by simp)
  · obtain ⟨e1, rfl⟩ := hx
    cases e1
    refine ⟨rfl, ?_⟩
    refine r_st (st2 := [.int 100, .int (nI P)]) rfl ?_
    refine r_cs (cs2 := []) rfl ?_
    refine r_imul d_Mm_has_0_14 (v := nI (P * 100)) (pk_mul _ _) ?_
    refine r_iload_n d_Mm_has_0_15 rfl 0 rfl ?_
    refine r_bipush d_Mm_has_0_16 (v := 115) (by decide) ?_
    refine r_iload_n d_Mm_has_0_18 rfl 3 rfl ?_
    refine r_callS (As := [.int 115, .int 1]) (rest := [.int (nI (100 - P - A)), .int (nI (P * 100))]) (csC := []) (is := []) ln_Mm_240 w_st_Mm_tenths ok_Mm_has_0_Mm_tenths d_Mm_has_0_19 (C_Mm_tenths115_1 g) rfl rfl (Nat.le_of_ble_eq_true rfl) rfl (by decide) (by omega) (by omega) (fun E cs1 hx => ?_) (fun v cs1 hx => ?_)
    · exact absurd hx.1 (by simp)
    · obtain ⟨e1, rfl⟩ := hx
      cases e1
      refine ⟨rfl, ?_⟩
      refine r_st (st2 := [.int 30, .int (nI (100 - P - A)), .int (nI (P * 100))]) rfl ?_
      refine r_cs (cs2 := []) rfl ?_
      refine r_imul d_Mm_has_0_22 (v := nI ((100 - P - A) * 30)) (pk_mul _ _) ?_
      refine r_iadd d_Mm_has_0_23 (v := nI ((P * 100) + ((100 - P - A) * 30))) (nI_add _ _) ?_
      refine r_iload_n d_Mm_has_0_24 rfl 2 rfl ?_
      refine r_bipush d_Mm_has_0_25 (v := 102) (by decide) ?_
      refine r_iload_n d_Mm_has_0_27 rfl 3 rfl ?_
      refine r_callS (As := [.int 102, .int 1]) (rest := [.int (nI A), .int (nI ((P * 100) + ((100 - P - A) * 30)))]) (csC := []) (is := []) ln_Mm_240 w_st_Mm_tenths ok_Mm_has_0_Mm_tenths d_Mm_has_0_28 (C_Mm_tenths102_1 g) rfl rfl (Nat.le_of_ble_eq_true rfl) rfl (by decide) (by omega) (by omega) (fun E cs1 hx => ?_) (fun v cs1 hx => ?_)
      · exact absurd hx.1 (by simp)
      · obtain ⟨e1, rfl⟩ := hx
        cases e1
        refine ⟨rfl, ?_⟩
        refine r_st (st2 := [.int 750, .int (nI A), .int (nI ((P * 100) + ((100 - P - A) * 30)))]) rfl ?_
        refine r_cs (cs2 := []) rfl ?_
        refine r_imul d_Mm_has_0_31 (v := nI (A * 750)) (pk_mul _ _) ?_
        refine r_iadd d_Mm_has_0_32 (v := nI (((P * 100) + ((100 - P - A) * 30)) + (A * 750))) (nI_add _ _) ?_
        refine r_bipush d_Mm_has_0_33 (v := 100) (by decide) ?_
        refine r_idiv d_Mm_has_0_35 (v := ctS 1 (nI P) (nI (100 - P - A)) (nI A)) (by decide) (ctS_1 _ _ _) ?_
        refine r_iret d_Mm_has_0_36 rfl rfl ?_
        exact ⟨rfl, rfl⟩
abbrev M_Mm_leastCost : zM := (⟨"IronpourModel", "leastCost", "(IIIIII)I"⟩, prog_14_method_71_code, 15, (Option.some FieldType.int), 3, 64, [])
theorem d_Mm_leastCost_0 : decode prog_14_method_71_code 0 = .ok (.aload_n 0, 1) := zo_42 (zd_b zq_prog_14_method_71_code_0 0 rfl rfl rfl)
theorem d_Mm_leastCost_1 : decode prog_14_method_71_code 1 = .ok (.iconst 0, 1) := zo_3 (zd_b zq_prog_14_method_71_code_0 1 rfl rfl rfl)
theorem d_Mm_leastCost_2 : decode prog_14_method_71_code 2 = .ok (.putfield 84, 3) := zo_181 (d := 0) (e := 84) (zd_b zq_prog_14_method_71_code_0 2 rfl rfl rfl) (zd_b zq_prog_14_method_71_code_0 3 rfl rfl rfl) (zd_b zq_prog_14_method_71_code_0 4 rfl rfl rfl)
theorem d_Mm_leastCost_5 : decode prog_14_method_71_code 5 = .ok (.iload_n 1, 1) := zo_27 (zd_b zq_prog_14_method_71_code_0 5 rfl rfl rfl)
theorem d_Mm_leastCost_6 : decode prog_14_method_71_code 6 = .ok (.iconst 0, 1) := zo_3 (zd_b zq_prog_14_method_71_code_0 6 rfl rfl rfl)
theorem d_Mm_leastCost_7 : decode prog_14_method_71_code 7 = .ok (.sipush 450, 3) := zo_17 (d := 1) (e := 194) (zd_b zq_prog_14_method_71_code_0 7 rfl rfl rfl) (zd_b zq_prog_14_method_71_code_0 8 rfl rfl rfl) (zd_b zq_prog_14_method_71_code_0 9 rfl rfl rfl) (by decide +kernel)
theorem d_Mm_leastCost_10 : decode prog_14_method_71_code 10 = .ok (.invokestatic 87, 3) := zo_184 (d := 0) (e := 87) (zd_b zq_prog_14_method_71_code_0 10 rfl rfl rfl) (zd_b zq_prog_14_method_71_code_0 11 rfl rfl rfl) (zd_b zq_prog_14_method_71_code_0 12 rfl rfl rfl)
theorem ok_Mm_leastCost_Mm_in : z_ok M_Mm_leastCost M_Mm_in 3 := ⟨z_mj7 (i := 190) rfl (by decide +kernel), rfl, ⟨by decide +kernel, by decide +kernel, by decide +kernel⟩, ⟨by decide, by decide⟩, z_mj1 (i := 14) rfl (by decide +kernel), rfl⟩
theorem d_Mm_leastCost_13 : decode prog_14_method_71_code 13 = .ok (.ifCond .eq 34, 3) := zo_153 (d := 0) (e := 34) (zd_b zq_prog_14_method_71_code_0 13 rfl rfl rfl) (zd_b zq_prog_14_method_71_code_0 14 rfl rfl rfl) (zd_b zq_prog_14_method_71_code_0 15 rfl rfl rfl) (by decide +kernel)
theorem d_Mm_leastCost_47 : decode prog_14_method_71_code 47 = .ok (.iconst 0, 1) := zo_3 (zd_b zq_prog_14_method_71_code_1 15 rfl rfl rfl)
theorem d_Mm_leastCost_48 : decode prog_14_method_71_code 48 = .ok (.istore 7, 2) := zo_54 (d := 7) (zd_b zq_prog_14_method_71_code_1 16 rfl rfl rfl) (zd_b zq_prog_14_method_71_code_1 17 rfl rfl rfl)
theorem d_Mm_leastCost_50 : decode prog_14_method_71_code 50 = .ok (.aload_n 0, 1) := zo_42 (zd_b zq_prog_14_method_71_code_1 18 rfl rfl rfl)
theorem d_Mm_leastCost_51 : decode prog_14_method_71_code 51 = .ok (.iload 7, 2) := zo_21 (d := 7) (zd_b zq_prog_14_method_71_code_1 19 rfl rfl rfl) (zd_b zq_prog_14_method_71_code_1 20 rfl rfl rfl)
theorem d_Mm_leastCost_53 : decode prog_14_method_71_code 53 = .ok (.ifCond .eq 39, 3) := zo_153 (d := 0) (e := 39) (zd_b zq_prog_14_method_71_code_1 21 rfl rfl rfl) (zd_b zq_prog_14_method_71_code_1 22 rfl rfl rfl) (zd_b zq_prog_14_method_71_code_1 23 rfl rfl rfl) (by decide +kernel)
theorem d_Mm_leastCost_92 : decode prog_14_method_71_code 92 = .ok (.iconst 1, 1) := zo_4 (zd_b zq_prog_14_method_71_code_2 28 rfl rfl rfl)
theorem d_Mm_leastCost_93 : decode prog_14_method_71_code 93 = .ok (.goto 4, 3) := zo_167 (d := 0) (e := 4) (zd_b zq_prog_14_method_71_code_2 29 rfl rfl rfl) (zd_b zq_prog_14_method_71_code_2 30 rfl rfl rfl) (zd_b zq_prog_14_method_71_code_2 31 rfl rfl rfl) (by decide +kernel)
theorem d_Mm_leastCost_97 : decode prog_14_method_71_code 97 = .ok (.iconst 1, 1) := zo_4 (zd_b zq_prog_14_method_71_code_3 1 rfl rfl rfl)
theorem d_Mm_leastCost_98 : decode prog_14_method_71_code 98 = .ok (.invokevirtual 103, 3) := zo_182 (d := 0) (e := 103) (zd_b zq_prog_14_method_71_code_3 2 rfl rfl rfl) (zd_b zq_prog_14_method_71_code_3 3 rfl rfl rfl) (zd_b zq_prog_14_method_71_code_3 4 rfl rfl rfl)
theorem ok_Mm_leastCost_Mm_fails : z_ok M_Mm_leastCost M_Mm_fails 2 := ⟨z_mj7 (i := 196) rfl (by decide +kernel), rfl, ⟨by decide +kernel, by decide +kernel, by decide +kernel⟩, ⟨by decide, by decide⟩, z_mj1 (i := 14) rfl (by decide +kernel), rfl⟩
theorem d_Mm_leastCost_101 : decode prog_14_method_71_code 101 = .ok (.ifCond .eq 5, 3) := zo_153 (d := 0) (e := 5) (zd_b zq_prog_14_method_71_code_3 5 rfl rfl rfl) (zd_b zq_prog_14_method_71_code_3 6 rfl rfl rfl) (zd_b zq_prog_14_method_71_code_3 7 rfl rfl rfl) (by decide +kernel)
theorem d_Mm_leastCost_104 : decode prog_14_method_71_code 104 = .ok (.iconst 0, 1) := zo_3 (zd_b zq_prog_14_method_71_code_3 8 rfl rfl rfl)
theorem d_Mm_leastCost_105 : decode prog_14_method_71_code 105 = .ok (.ireturn, 1) := zo_172 (zd_b zq_prog_14_method_71_code_3 9 rfl rfl rfl)
theorem d_Mm_leastCost_16 : decode prog_14_method_71_code 16 = .ok (.iload_n 2, 1) := zo_28 (zd_b zq_prog_14_method_71_code_0 16 rfl rfl rfl)
theorem d_Mm_leastCost_17 : decode prog_14_method_71_code 17 = .ok (.iconst 0, 1) := zo_3 (zd_b zq_prog_14_method_71_code_0 17 rfl rfl rfl)
theorem d_Mm_leastCost_18 : decode prog_14_method_71_code 18 = .ok (.sipush 450, 3) := zo_17 (d := 1) (e := 194) (zd_b zq_prog_14_method_71_code_0 18 rfl rfl rfl) (zd_b zq_prog_14_method_71_code_0 19 rfl rfl rfl) (zd_b zq_prog_14_method_71_code_0 20 rfl rfl rfl) (by decide +kernel)
theorem d_Mm_leastCost_21 : decode prog_14_method_71_code 21 = .ok (.invokestatic 87, 3) := zo_184 (d := 0) (e := 87) (zd_b zq_prog_14_method_71_code_0 21 rfl rfl rfl) (zd_b zq_prog_14_method_71_code_0 22 rfl rfl rfl) (zd_b zq_prog_14_method_71_code_0 23 rfl rfl rfl)
theorem d_Mm_leastCost_24 : decode prog_14_method_71_code 24 = .ok (.ifCond .eq 23, 3) := zo_153 (d := 0) (e := 23) (zd_b zq_prog_14_method_71_code_0 24 rfl rfl rfl) (zd_b zq_prog_14_method_71_code_0 25 rfl rfl rfl) (zd_b zq_prog_14_method_71_code_0 26 rfl rfl rfl) (by decide +kernel)
theorem d_Mm_leastCost_27 : decode prog_14_method_71_code 27 = .ok (.iload_n 3, 1) := zo_29 (zd_b zq_prog_14_method_71_code_0 27 rfl rfl rfl)
theorem d_Mm_leastCost_28 : decode prog_14_method_71_code 28 = .ok (.iconst 0, 1) := zo_3 (zd_b zq_prog_14_method_71_code_0 28 rfl rfl rfl)
theorem d_Mm_leastCost_29 : decode prog_14_method_71_code 29 = .ok (.sipush 450, 3) := zo_17 (d := 1) (e := 194) (zd_b zq_prog_14_method_71_code_0 29 rfl rfl rfl) (zd_b zq_prog_14_method_71_code_0 30 rfl rfl rfl) (zd_b zq_prog_14_method_71_code_0 31 rfl rfl rfl) (by decide +kernel)
theorem d_Mm_leastCost_32 : decode prog_14_method_71_code 32 = .ok (.invokestatic 87, 3) := zo_184 (d := 0) (e := 87) (zd_b zq_prog_14_method_71_code_1 0 rfl rfl rfl) (zd_b zq_prog_14_method_71_code_1 1 rfl rfl rfl) (zd_b zq_prog_14_method_71_code_1 2 rfl rfl rfl)
theorem d_Mm_leastCost_35 : decode prog_14_method_71_code 35 = .ok (.ifCond .eq 12, 3) := zo_153 (d := 0) (e := 12) (zd_b zq_prog_14_method_71_code_1 3 rfl rfl rfl) (zd_b zq_prog_14_method_71_code_1 4 rfl rfl rfl) (zd_b zq_prog_14_method_71_code_1 5 rfl rfl rfl) (by decide +kernel)
theorem d_Mm_leastCost_38 : decode prog_14_method_71_code 38 = .ok (.iload_n 2, 1) := zo_28 (zd_b zq_prog_14_method_71_code_1 6 rfl rfl rfl)
theorem d_Mm_leastCost_39 : decode prog_14_method_71_code 39 = .ok (.iload_n 1, 1) := zo_27 (zd_b zq_prog_14_method_71_code_1 7 rfl rfl rfl)
theorem d_Mm_leastCost_40 : decode prog_14_method_71_code 40 = .ok (.if_icmp .lt 7, 3) := zo_161 (d := 0) (e := 7) (zd_b zq_prog_14_method_71_code_1 8 rfl rfl rfl) (zd_b zq_prog_14_method_71_code_1 9 rfl rfl rfl) (zd_b zq_prog_14_method_71_code_1 10 rfl rfl rfl) (by decide +kernel)
theorem d_Mm_leastCost_43 : decode prog_14_method_71_code 43 = .ok (.iconst 1, 1) := zo_4 (zd_b zq_prog_14_method_71_code_1 11 rfl rfl rfl)
theorem d_Mm_leastCost_44 : decode prog_14_method_71_code 44 = .ok (.goto 4, 3) := zo_167 (d := 0) (e := 4) (zd_b zq_prog_14_method_71_code_1 12 rfl rfl rfl) (zd_b zq_prog_14_method_71_code_1 13 rfl rfl rfl) (zd_b zq_prog_14_method_71_code_1 14 rfl rfl rfl) (by decide +kernel)
theorem d_Mm_leastCost_56 : decode prog_14_method_71_code 56 = .ok (.iload 4, 2) := zo_21 (d := 4) (zd_b zq_prog_14_method_71_code_1 24 rfl rfl rfl) (zd_b zq_prog_14_method_71_code_1 25 rfl rfl rfl)
theorem d_Mm_leastCost_58 : decode prog_14_method_71_code 58 = .ok (.iconst 1, 1) := zo_4 (zd_b zq_prog_14_method_71_code_1 26 rfl rfl rfl)
theorem d_Mm_leastCost_59 : decode prog_14_method_71_code 59 = .ok (.sipush 1000, 3) := zo_17 (d := 3) (e := 232) (zd_b zq_prog_14_method_71_code_1 27 rfl rfl rfl) (zd_b zq_prog_14_method_71_code_1 28 rfl rfl rfl) (zd_b zq_prog_14_method_71_code_1 29 rfl rfl rfl) (by decide +kernel)
theorem d_Mm_leastCost_62 : decode prog_14_method_71_code 62 = .ok (.invokestatic 87, 3) := zo_184 (d := 0) (e := 87) (zd_b zq_prog_14_method_71_code_1 30 rfl rfl rfl) (zd_b zq_prog_14_method_71_code_1 31 rfl rfl rfl) (zd_b zq_prog_14_method_71_code_2 0 rfl rfl rfl)
theorem d_Mm_leastCost_65 : decode prog_14_method_71_code 65 = .ok (.ifCond .eq 27, 3) := zo_153 (d := 0) (e := 27) (zd_b zq_prog_14_method_71_code_2 1 rfl rfl rfl) (zd_b zq_prog_14_method_71_code_2 2 rfl rfl rfl) (zd_b zq_prog_14_method_71_code_2 3 rfl rfl rfl) (by decide +kernel)
theorem d_Mm_leastCost_68 : decode prog_14_method_71_code 68 = .ok (.iload 5, 2) := zo_21 (d := 5) (zd_b zq_prog_14_method_71_code_2 4 rfl rfl rfl) (zd_b zq_prog_14_method_71_code_2 5 rfl rfl rfl)
theorem d_Mm_leastCost_70 : decode prog_14_method_71_code 70 = .ok (.iconst 1, 1) := zo_4 (zd_b zq_prog_14_method_71_code_2 6 rfl rfl rfl)
theorem d_Mm_leastCost_71 : decode prog_14_method_71_code 71 = .ok (.sipush 1000, 3) := zo_17 (d := 3) (e := 232) (zd_b zq_prog_14_method_71_code_2 7 rfl rfl rfl) (zd_b zq_prog_14_method_71_code_2 8 rfl rfl rfl) (zd_b zq_prog_14_method_71_code_2 9 rfl rfl rfl) (by decide +kernel)
theorem d_Mm_leastCost_74 : decode prog_14_method_71_code 74 = .ok (.invokestatic 87, 3) := zo_184 (d := 0) (e := 87) (zd_b zq_prog_14_method_71_code_2 10 rfl rfl rfl) (zd_b zq_prog_14_method_71_code_2 11 rfl rfl rfl) (zd_b zq_prog_14_method_71_code_2 12 rfl rfl rfl)
theorem d_Mm_leastCost_77 : decode prog_14_method_71_code 77 = .ok (.ifCond .eq 15, 3) := zo_153 (d := 0) (e := 15) (zd_b zq_prog_14_method_71_code_2 13 rfl rfl rfl) (zd_b zq_prog_14_method_71_code_2 14 rfl rfl rfl) (zd_b zq_prog_14_method_71_code_2 15 rfl rfl rfl) (by decide +kernel)
theorem d_Mm_leastCost_80 : decode prog_14_method_71_code 80 = .ok (.iload 6, 2) := zo_21 (d := 6) (zd_b zq_prog_14_method_71_code_2 16 rfl rfl rfl) (zd_b zq_prog_14_method_71_code_2 17 rfl rfl rfl)
theorem d_Mm_leastCost_82 : decode prog_14_method_71_code 82 = .ok (.iconst 1, 1) := zo_4 (zd_b zq_prog_14_method_71_code_2 18 rfl rfl rfl)
theorem d_Mm_leastCost_83 : decode prog_14_method_71_code 83 = .ok (.sipush 1000, 3) := zo_17 (d := 3) (e := 232) (zd_b zq_prog_14_method_71_code_2 19 rfl rfl rfl) (zd_b zq_prog_14_method_71_code_2 20 rfl rfl rfl) (zd_b zq_prog_14_method_71_code_2 21 rfl rfl rfl) (by decide +kernel)
theorem d_Mm_leastCost_86 : decode prog_14_method_71_code 86 = .ok (.invokestatic 87, 3) := zo_184 (d := 0) (e := 87) (zd_b zq_prog_14_method_71_code_2 22 rfl rfl rfl) (zd_b zq_prog_14_method_71_code_2 23 rfl rfl rfl) (zd_b zq_prog_14_method_71_code_2 24 rfl rfl rfl)
theorem d_Mm_leastCost_89 : decode prog_14_method_71_code 89 = .ok (.ifCond .ne 7, 3) := zo_154 (d := 0) (e := 7) (zd_b zq_prog_14_method_71_code_2 25 rfl rfl rfl) (zd_b zq_prog_14_method_71_code_2 26 rfl rfl rfl) (zd_b zq_prog_14_method_71_code_2 27 rfl rfl rfl) (by decide +kernel)
set_option maxHeartbeats 4000000 in
set_option maxRecDepth 100000 in
theorem C_Mm_leastCostE (g : zG) (m mp mf mh mn mt mz mc_ mq mgr ml mi mr mm mu mk mx : Nat) (th pt cl wa co_ fi bu ho lh mg wd fpi fal : Int32) (po de : Int64) (le mo si pp ps pa : Int32) (hw : ¬ ((0 ≤ le ∧ le ≤ 450) ∧ (le ≤ mo ∧ mo ≤ 450) ∧ (0 ≤ si ∧ si ≤ 450) ∧ (1 ≤ pp ∧ pp ≤ 1000) ∧ (1 ≤ ps ∧ ps ≤ 1000) ∧ (1 ≤ pa ∧ pa ≤ 1000))) : CT g M_Mm_leastCost [.ref m, .int le, .int mo, .int si, .int pp, .int ps, .int pa] [(m, .inr (12, [.int th, .ref mp, .int pt, .ref mf, .ref mh, .ref mn, .ref mt, .ref mz, .ref mc_, .ref mq, .ref mgr, .int cl, .int wa, .int co_, .int fi, .int bu, .int ho, .ref ml, .ref mi, .ref mr, .int lh, .int mg, .int wd, .int fpi, .int fal, .ref mm, .ref mu, .ref mk, .ref mx, .long po, .long de]))] (fun o cs1 => o = .inl (some (.int 0)) ∧ cs1 = [(m, .inr (12, [.int 1, .ref mp, .int pt, .ref mf, .ref mh, .ref mn, .ref mt, .ref mz, .ref mc_, .ref mq, .ref mgr, .int cl, .int wa, .int co_, .int fi, .int bu, .int ho, .ref ml, .ref mi, .ref mr, .int lh, .int mg, .int wd, .int fpi, .int fal, .ref mm, .ref mu, .ref mk, .ref mx, .long po, .long de]))]) 0 0 := by
  refine z_of (by decide) rfl (Nat.le_of_ble_eq_true rfl) (fun w0 => ?_)
  refine r_lvE (lv2 := [(0, .ref m), (1, .int le), (2, .int mo), (3, .int si), (4, .int pp), (5, .int ps), (6, .int pa)]) rfl ?_
  refine r_aload_n d_Mm_leastCost_0 rfl 0 rfl ?_
  refine r_iconst d_Mm_leastCost_1 (v := 0) (by decide) ?_
  refine r_put fp_Mm_84 d_Mm_leastCost_2 (fun h => nomatch h) rfl rfl (q0 := 0) rfl (Nat.le_of_ble_eq_true rfl) (cs' := [(m, .inr (12, [.int 0, .ref mp, .int pt, .ref mf, .ref mh, .ref mn, .ref mt, .ref mz, .ref mc_, .ref mq, .ref mgr, .int cl, .int wa, .int co_, .int fi, .int bu, .int ho, .ref ml, .ref mi, .ref mr, .int lh, .int mg, .int wd, .int fpi, .int fal, .ref mm, .ref mu, .ref mk, .ref mx, .long po, .long de]))]) rfl ?_
  refine r_iload_n d_Mm_leastCost_5 rfl 1 rfl ?_
  refine r_iconst d_Mm_leastCost_6 (v := 0) (by decide) ?_
  refine r_sipush d_Mm_leastCost_7 (v := 450) (by decide) ?_
  refine r_callS (As := [.int le, .int 0, .int 450]) (rest := []) (csC := []) (is := []) ln_Mm_87 w_st_Mm_in ok_Mm_leastCost_Mm_in d_Mm_leastCost_10 (C_Mm_in g le 0 450) rfl rfl (Nat.le_of_ble_eq_true rfl) rfl (by decide) (by omega) (by omega) (fun E cs1 hx => ?_) (fun v cs1 hx => ?_)
  · exact absurd hx.1 (by simp)
  · obtain ⟨e1, rfl⟩ := hx
    cases e1
    refine ⟨rfl, ?_⟩
    refine r_st (st2 := [.int (if 0 ≤ le ∧ le ≤ 450 then 1 else 0)]) rfl ?_
    refine r_cs (cs2 := [(m, .inr (12, [.int 0, .ref mp, .int pt, .ref mf, .ref mh, .ref mn, .ref mt, .ref mz, .ref mc_, .ref mq, .ref mgr, .int cl, .int wa, .int co_, .int fi, .int bu, .int ho, .ref ml, .ref mi, .ref mr, .int lh, .int mg, .int wd, .int fpi, .int fal, .ref mm, .ref mu, .ref mk, .ref mx, .long po, .long de]))]) rfl ?_
    refine r_if_eq (tgt := 47) d_Mm_leastCost_13 (by decide) (fun c_13 => ?_) (fun c_13 => ?_)
    · refine r_iconst d_Mm_leastCost_47 (v := 0) (by decide) ?_
      refine r_istore (lv' := [(7, .int 0), (0, .ref m), (1, .int le), (2, .int mo), (3, .int si), (4, .int pp), (5, .int ps), (6, .int pa)]) d_Mm_leastCost_48 (by decide) rfl ?_
      refine r_aload_n d_Mm_leastCost_50 rfl 1 rfl ?_
      refine r_iload d_Mm_leastCost_51 0 rfl ?_
      refine r_if_eq (tgt := 92) d_Mm_leastCost_53 (by decide) (fun c_53 => ?_) (fun c_53 => ?_)
      · refine r_iconst d_Mm_leastCost_92 (v := 1) (by decide) ?_
        refine r_goto (tgt := 97) d_Mm_leastCost_93 (by decide) ?_
        refine r_iconst d_Mm_leastCost_97 (v := 1) (by decide) ?_
        refine r_callV (As := [.int 1, .int 1]) (rest := []) (csC := [(m, .inr (12, [.int 0, .ref mp, .int pt, .ref mf, .ref mh, .ref mn, .ref mt, .ref mz, .ref mc_, .ref mq, .ref mgr, .int cl, .int wa, .int co_, .int fi, .int bu, .int ho, .ref ml, .ref mi, .ref mr, .int lh, .int mg, .int wd, .int fpi, .int fal, .ref mm, .ref mu, .ref mk, .ref mx, .long po, .long de]))]) (is := [0]) (q0 := 0) rfl rfl ln_Mm_103 w_im_Mm_fails w_se_Mm_fails ok_Mm_leastCost_Mm_fails d_Mm_leastCost_98 (C_Mm_fails1 g m mp mf mh mn mt mz mc_ mq mgr ml mi mr mm mu mk mx th pt cl wa co_ fi bu ho lh mg wd fpi fal po de) rfl rfl (Nat.le_of_ble_eq_true rfl) rfl (by decide) (by omega) (by omega) (fun E cs1 hx => ?_) (fun v cs1 hx => ?_)
        · exact absurd hx.1 (by simp)
        · obtain ⟨e1, rfl⟩ := hx
          cases e1
          refine ⟨rfl, ?_⟩
          refine r_st (st2 := [.int 1]) rfl ?_
          refine r_cs (cs2 := [(m, .inr (12, [.int 1, .ref mp, .int pt, .ref mf, .ref mh, .ref mn, .ref mt, .ref mz, .ref mc_, .ref mq, .ref mgr, .int cl, .int wa, .int co_, .int fi, .int bu, .int ho, .ref ml, .ref mi, .ref mr, .int lh, .int mg, .int wd, .int fpi, .int fal, .ref mm, .ref mu, .ref mk, .ref mx, .long po, .long de]))]) rfl ?_
          refine r_if_eq (tgt := 106) d_Mm_leastCost_101 (by decide) (fun c_101 => ?_) (fun c_101 => ?_)
          · exact absurd c_101 (by decide)
          · refine r_iconst d_Mm_leastCost_104 (v := 0) (by decide) ?_
            refine r_iret d_Mm_leastCost_105 rfl rfl ?_
            exact ⟨rfl, rfl⟩
      · exact absurd c_53 (by decide)
    · refine r_iload_n d_Mm_leastCost_16 rfl 2 rfl ?_
      refine r_iconst d_Mm_leastCost_17 (v := 0) (by decide) ?_
      refine r_sipush d_Mm_leastCost_18 (v := 450) (by decide) ?_
      refine r_callS (As := [.int mo, .int 0, .int 450]) (rest := []) (csC := []) (is := []) ln_Mm_87 w_st_Mm_in ok_Mm_leastCost_Mm_in d_Mm_leastCost_21 (C_Mm_in g mo 0 450) rfl rfl (Nat.le_of_ble_eq_true rfl) rfl (by decide) (by omega) (by omega) (fun E cs1 hx => ?_) (fun v cs1 hx => ?_)
      · exact absurd hx.1 (by simp)
      · obtain ⟨e1, rfl⟩ := hx
        cases e1
        refine ⟨rfl, ?_⟩
        refine r_st (st2 := [.int (if 0 ≤ mo ∧ mo ≤ 450 then 1 else 0)]) rfl ?_
        refine r_cs (cs2 := [(m, .inr (12, [.int 0, .ref mp, .int pt, .ref mf, .ref mh, .ref mn, .ref mt, .ref mz, .ref mc_, .ref mq, .ref mgr, .int cl, .int wa, .int co_, .int fi, .int bu, .int ho, .ref ml, .ref mi, .ref mr, .int lh, .int mg, .int wd, .int fpi, .int fal, .ref mm, .ref mu, .ref mk, .ref mx, .long po, .long de]))]) rfl ?_
        refine r_if_eq (tgt := 47) d_Mm_leastCost_24 (by decide) (fun c_24 => ?_) (fun c_24 => ?_)
        · refine r_iconst d_Mm_leastCost_47 (v := 0) (by decide) ?_
          refine r_istore (lv' := [(7, .int 0), (0, .ref m), (1, .int le), (2, .int mo), (3, .int si), (4, .int pp), (5, .int ps), (6, .int pa)]) d_Mm_leastCost_48 (by decide) rfl ?_
          refine r_aload_n d_Mm_leastCost_50 rfl 1 rfl ?_
          refine r_iload d_Mm_leastCost_51 0 rfl ?_
          refine r_if_eq (tgt := 92) d_Mm_leastCost_53 (by decide) (fun c_53 => ?_) (fun c_53 => ?_)
          · refine r_iconst d_Mm_leastCost_92 (v := 1) (by decide) ?_
            refine r_goto (tgt := 97) d_Mm_leastCost_93 (by decide) ?_
            refine r_iconst d_Mm_leastCost_97 (v := 1) (by decide) ?_
            refine r_callV (As := [.int 1, .int 1]) (rest := []) (csC := [(m, .inr (12, [.int 0, .ref mp, .int pt, .ref mf, .ref mh, .ref mn, .ref mt, .ref mz, .ref mc_, .ref mq, .ref mgr, .int cl, .int wa, .int co_, .int fi, .int bu, .int ho, .ref ml, .ref mi, .ref mr, .int lh, .int mg, .int wd, .int fpi, .int fal, .ref mm, .ref mu, .ref mk, .ref mx, .long po, .long de]))]) (is := [0]) (q0 := 0) rfl rfl ln_Mm_103 w_im_Mm_fails w_se_Mm_fails ok_Mm_leastCost_Mm_fails d_Mm_leastCost_98 (C_Mm_fails1 g m mp mf mh mn mt mz mc_ mq mgr ml mi mr mm mu mk mx th pt cl wa co_ fi bu ho lh mg wd fpi fal po de) rfl rfl (Nat.le_of_ble_eq_true rfl) rfl (by decide) (by omega) (by omega) (fun E cs1 hx => ?_) (fun v cs1 hx => ?_)
            · exact absurd hx.1 (by simp)
            · obtain ⟨e1, rfl⟩ := hx
              cases e1
              refine ⟨rfl, ?_⟩
              refine r_st (st2 := [.int 1]) rfl ?_
              refine r_cs (cs2 := [(m, .inr (12, [.int 1, .ref mp, .int pt, .ref mf, .ref mh, .ref mn, .ref mt, .ref mz, .ref mc_, .ref mq, .ref mgr, .int cl, .int wa, .int co_, .int fi, .int bu, .int ho, .ref ml, .ref mi, .ref mr, .int lh, .int mg, .int wd, .int fpi, .int fal, .ref mm, .ref mu, .ref mk, .ref mx, .long po, .long de]))]) rfl ?_
              refine r_if_eq (tgt := 106) d_Mm_leastCost_101 (by decide) (fun c_101 => ?_) (fun c_101 => ?_)
              · exact absurd c_101 (by decide)
              · refine r_iconst d_Mm_leastCost_104 (v := 0) (by decide) ?_
                refine r_iret d_Mm_leastCost_105 rfl rfl ?_
                exact ⟨rfl, rfl⟩
          · exact absurd c_53 (by decide)
        · refine r_iload_n d_Mm_leastCost_27 rfl 3 rfl ?_
          refine r_iconst d_Mm_leastCost_28 (v := 0) (by decide) ?_
          refine r_sipush d_Mm_leastCost_29 (v := 450) (by decide) ?_
          refine r_callS (As := [.int si, .int 0, .int 450]) (rest := []) (csC := []) (is := []) ln_Mm_87 w_st_Mm_in ok_Mm_leastCost_Mm_in d_Mm_leastCost_32 (C_Mm_in g si 0 450) rfl rfl (Nat.le_of_ble_eq_true rfl) rfl (by decide) (by omega) (by omega) (fun E cs1 hx => ?_) (fun v cs1 hx => ?_)
          · exact absurd hx.1 (by simp)
          · obtain ⟨e1, rfl⟩ := hx
            cases e1
            refine ⟨rfl, ?_⟩
            refine r_st (st2 := [.int (if 0 ≤ si ∧ si ≤ 450 then 1 else 0)]) rfl ?_
            refine r_cs (cs2 := [(m, .inr (12, [.int 0, .ref mp, .int pt, .ref mf, .ref mh, .ref mn, .ref mt, .ref mz, .ref mc_, .ref mq, .ref mgr, .int cl, .int wa, .int co_, .int fi, .int bu, .int ho, .ref ml, .ref mi, .ref mr, .int lh, .int mg, .int wd, .int fpi, .int fal, .ref mm, .ref mu, .ref mk, .ref mx, .long po, .long de]))]) rfl ?_
            refine r_if_eq (tgt := 47) d_Mm_leastCost_35 (by decide) (fun c_35 => ?_) (fun c_35 => ?_)
            · refine r_iconst d_Mm_leastCost_47 (v := 0) (by decide) ?_
              refine r_istore (lv' := [(7, .int 0), (0, .ref m), (1, .int le), (2, .int mo), (3, .int si), (4, .int pp), (5, .int ps), (6, .int pa)]) d_Mm_leastCost_48 (by decide) rfl ?_
              refine r_aload_n d_Mm_leastCost_50 rfl 1 rfl ?_
              refine r_iload d_Mm_leastCost_51 0 rfl ?_
              refine r_if_eq (tgt := 92) d_Mm_leastCost_53 (by decide) (fun c_53 => ?_) (fun c_53 => ?_)
              · refine r_iconst d_Mm_leastCost_92 (v := 1) (by decide) ?_
                refine r_goto (tgt := 97) d_Mm_leastCost_93 (by decide) ?_
                refine r_iconst d_Mm_leastCost_97 (v := 1) (by decide) ?_
                refine r_callV (As := [.int 1, .int 1]) (rest := []) (csC := [(m, .inr (12, [.int 0, .ref mp, .int pt, .ref mf, .ref mh, .ref mn, .ref mt, .ref mz, .ref mc_, .ref mq, .ref mgr, .int cl, .int wa, .int co_, .int fi, .int bu, .int ho, .ref ml, .ref mi, .ref mr, .int lh, .int mg, .int wd, .int fpi, .int fal, .ref mm, .ref mu, .ref mk, .ref mx, .long po, .long de]))]) (is := [0]) (q0 := 0) rfl rfl ln_Mm_103 w_im_Mm_fails w_se_Mm_fails ok_Mm_leastCost_Mm_fails d_Mm_leastCost_98 (C_Mm_fails1 g m mp mf mh mn mt mz mc_ mq mgr ml mi mr mm mu mk mx th pt cl wa co_ fi bu ho lh mg wd fpi fal po de) rfl rfl (Nat.le_of_ble_eq_true rfl) rfl (by decide) (by omega) (by omega) (fun E cs1 hx => ?_) (fun v cs1 hx => ?_)
                · exact absurd hx.1 (by simp)
                · obtain ⟨e1, rfl⟩ := hx
                  cases e1
                  refine ⟨rfl, ?_⟩
                  refine r_st (st2 := [.int 1]) rfl ?_
                  refine r_cs (cs2 := [(m, .inr (12, [.int 1, .ref mp, .int pt, .ref mf, .ref mh, .ref mn, .ref mt, .ref mz, .ref mc_, .ref mq, .ref mgr, .int cl, .int wa, .int co_, .int fi, .int bu, .int ho, .ref ml, .ref mi, .ref mr, .int lh, .int mg, .int wd, .int fpi, .int fal, .ref mm, .ref mu, .ref mk, .ref mx, .long po, .long de]))]) rfl ?_
                  refine r_if_eq (tgt := 106) d_Mm_leastCost_101 (by decide) (fun c_101 => ?_) (fun c_101 => ?_)
                  · exact absurd c_101 (by decide)
                  · refine r_iconst d_Mm_leastCost_104 (v := 0) (by decide) ?_
                    refine r_iret d_Mm_leastCost_105 rfl rfl ?_
                    exact ⟨rfl, rfl⟩
              · exact absurd c_53 (by decide)
            · refine r_iload_n d_Mm_leastCost_38 rfl 2 rfl ?_
              refine r_iload_n d_Mm_leastCost_39 rfl 1 rfl ?_
              refine r_icmp_lt (tgt := 47) d_Mm_leastCost_40 (by decide) (fun c_40 => ?_) (fun c_40 => ?_)
              · refine r_iconst d_Mm_leastCost_47 (v := 0) (by decide) ?_
                refine r_istore (lv' := [(7, .int 0), (0, .ref m), (1, .int le), (2, .int mo), (3, .int si), (4, .int pp), (5, .int ps), (6, .int pa)]) d_Mm_leastCost_48 (by decide) rfl ?_
                refine r_aload_n d_Mm_leastCost_50 rfl 1 rfl ?_
                refine r_iload d_Mm_leastCost_51 0 rfl ?_
                refine r_if_eq (tgt := 92) d_Mm_leastCost_53 (by decide) (fun c_53 => ?_) (fun c_53 => ?_)
                · refine r_iconst d_Mm_leastCost_92 (v := 1) (by decide) ?_
                  refine r_goto (tgt := 97) d_Mm_leastCost_93 (by decide) ?_
                  refine r_iconst d_Mm_leastCost_97 (v := 1) (by decide) ?_
                  refine r_callV (As := [.int 1, .int 1]) (rest := []) (csC := [(m, .inr (12, [.int 0, .ref mp, .int pt, .ref mf, .ref mh, .ref mn, .ref mt, .ref mz, .ref mc_, .ref mq, .ref mgr, .int cl, .int wa, .int co_, .int fi, .int bu, .int ho, .ref ml, .ref mi, .ref mr, .int lh, .int mg, .int wd, .int fpi, .int fal, .ref mm, .ref mu, .ref mk, .ref mx, .long po, .long de]))]) (is := [0]) (q0 := 0) rfl rfl ln_Mm_103 w_im_Mm_fails w_se_Mm_fails ok_Mm_leastCost_Mm_fails d_Mm_leastCost_98 (C_Mm_fails1 g m mp mf mh mn mt mz mc_ mq mgr ml mi mr mm mu mk mx th pt cl wa co_ fi bu ho lh mg wd fpi fal po de) rfl rfl (Nat.le_of_ble_eq_true rfl) rfl (by decide) (by omega) (by omega) (fun E cs1 hx => ?_) (fun v cs1 hx => ?_)
                  · exact absurd hx.1 (by simp)
                  · obtain ⟨e1, rfl⟩ := hx
                    cases e1
                    refine ⟨rfl, ?_⟩
                    refine r_st (st2 := [.int 1]) rfl ?_
                    refine r_cs (cs2 := [(m, .inr (12, [.int 1, .ref mp, .int pt, .ref mf, .ref mh, .ref mn, .ref mt, .ref mz, .ref mc_, .ref mq, .ref mgr, .int cl, .int wa, .int co_, .int fi, .int bu, .int ho, .ref ml, .ref mi, .ref mr, .int lh, .int mg, .int wd, .int fpi, .int fal, .ref mm, .ref mu, .ref mk, .ref mx, .long po, .long de]))]) rfl ?_
                    refine r_if_eq (tgt := 106) d_Mm_leastCost_101 (by decide) (fun c_101 => ?_) (fun c_101 => ?_)
                    · exact absurd c_101 (by decide)
                    · refine r_iconst d_Mm_leastCost_104 (v := 0) (by decide) ?_
                      refine r_iret d_Mm_leastCost_105 rfl rfl ?_
                      exact ⟨rfl, rfl⟩
                · exact absurd c_53 (by decide)
              · refine r_iconst d_Mm_leastCost_43 (v := 1) (by decide) ?_
                refine r_goto (tgt := 48) d_Mm_leastCost_44 (by decide) ?_
                refine r_istore (lv' := [(7, .int 1), (0, .ref m), (1, .int le), (2, .int mo), (3, .int si), (4, .int pp), (5, .int ps), (6, .int pa)]) d_Mm_leastCost_48 (by decide) rfl ?_
                refine r_aload_n d_Mm_leastCost_50 rfl 1 rfl ?_
                refine r_iload d_Mm_leastCost_51 0 rfl ?_
                refine r_if_eq (tgt := 92) d_Mm_leastCost_53 (by decide) (fun c_53 => ?_) (fun c_53 => ?_)
                · exact absurd c_53 (by decide)
                · refine r_iload d_Mm_leastCost_56 5 rfl ?_
                  refine r_iconst d_Mm_leastCost_58 (v := 1) (by decide) ?_
                  refine r_sipush d_Mm_leastCost_59 (v := 1000) (by decide) ?_
                  refine r_callS (As := [.int pp, .int 1, .int 1000]) (rest := [.ref m]) (csC := []) (is := []) ln_Mm_87 w_st_Mm_in ok_Mm_leastCost_Mm_in d_Mm_leastCost_62 (C_Mm_in g pp 1 1000) rfl rfl (Nat.le_of_ble_eq_true rfl) rfl (by decide) (by omega) (by omega) (fun E cs1 hx => ?_) (fun v cs1 hx => ?_)
                  · exact absurd hx.1 (by simp)
                  · obtain ⟨e1, rfl⟩ := hx
                    cases e1
                    refine ⟨rfl, ?_⟩
                    refine r_st (st2 := [.int (if 1 ≤ pp ∧ pp ≤ 1000 then 1 else 0), .ref m]) rfl ?_
                    refine r_cs (cs2 := [(m, .inr (12, [.int 0, .ref mp, .int pt, .ref mf, .ref mh, .ref mn, .ref mt, .ref mz, .ref mc_, .ref mq, .ref mgr, .int cl, .int wa, .int co_, .int fi, .int bu, .int ho, .ref ml, .ref mi, .ref mr, .int lh, .int mg, .int wd, .int fpi, .int fal, .ref mm, .ref mu, .ref mk, .ref mx, .long po, .long de]))]) rfl ?_
                    refine r_if_eq (tgt := 92) d_Mm_leastCost_65 (by decide) (fun c_65 => ?_) (fun c_65 => ?_)
                    · refine r_iconst d_Mm_leastCost_92 (v := 1) (by decide) ?_
                      refine r_goto (tgt := 97) d_Mm_leastCost_93 (by decide) ?_
                      refine r_iconst d_Mm_leastCost_97 (v := 1) (by decide) ?_
                      refine r_callV (As := [.int 1, .int 1]) (rest := []) (csC := [(m, .inr (12, [.int 0, .ref mp, .int pt, .ref mf, .ref mh, .ref mn, .ref mt, .ref mz, .ref mc_, .ref mq, .ref mgr, .int cl, .int wa, .int co_, .int fi, .int bu, .int ho, .ref ml, .ref mi, .ref mr, .int lh, .int mg, .int wd, .int fpi, .int fal, .ref mm, .ref mu, .ref mk, .ref mx, .long po, .long de]))]) (is := [0]) (q0 := 0) rfl rfl ln_Mm_103 w_im_Mm_fails w_se_Mm_fails ok_Mm_leastCost_Mm_fails d_Mm_leastCost_98 (C_Mm_fails1 g m mp mf mh mn mt mz mc_ mq mgr ml mi mr mm mu mk mx th pt cl wa co_ fi bu ho lh mg wd fpi fal po de) rfl rfl (Nat.le_of_ble_eq_true rfl) rfl (by decide) (by omega) (by omega) (fun E cs1 hx => ?_) (fun v cs1 hx => ?_)
                      · exact absurd hx.1 (by simp)
                      · obtain ⟨e1, rfl⟩ := hx
                        cases e1
                        refine ⟨rfl, ?_⟩
                        refine r_st (st2 := [.int 1]) rfl ?_
                        refine r_cs (cs2 := [(m, .inr (12, [.int 1, .ref mp, .int pt, .ref mf, .ref mh, .ref mn, .ref mt, .ref mz, .ref mc_, .ref mq, .ref mgr, .int cl, .int wa, .int co_, .int fi, .int bu, .int ho, .ref ml, .ref mi, .ref mr, .int lh, .int mg, .int wd, .int fpi, .int fal, .ref mm, .ref mu, .ref mk, .ref mx, .long po, .long de]))]) rfl ?_
                        refine r_if_eq (tgt := 106) d_Mm_leastCost_101 (by decide) (fun c_101 => ?_) (fun c_101 => ?_)
                        · exact absurd c_101 (by decide)
                        · refine r_iconst d_Mm_leastCost_104 (v := 0) (by decide) ?_
                          refine r_iret d_Mm_leastCost_105 rfl rfl ?_
                          exact ⟨rfl, rfl⟩
                    · refine r_iload d_Mm_leastCost_68 6 rfl ?_
                      refine r_iconst d_Mm_leastCost_70 (v := 1) (by decide) ?_
                      refine r_sipush d_Mm_leastCost_71 (v := 1000) (by decide) ?_
                      refine r_callS (As := [.int ps, .int 1, .int 1000]) (rest := [.ref m]) (csC := []) (is := []) ln_Mm_87 w_st_Mm_in ok_Mm_leastCost_Mm_in d_Mm_leastCost_74 (C_Mm_in g ps 1 1000) rfl rfl (Nat.le_of_ble_eq_true rfl) rfl (by decide) (by omega) (by omega) (fun E cs1 hx => ?_) (fun v cs1 hx => ?_)
                      · exact absurd hx.1 (by simp)
                      · obtain ⟨e1, rfl⟩ := hx
                        cases e1
                        refine ⟨rfl, ?_⟩
                        refine r_st (st2 := [.int (if 1 ≤ ps ∧ ps ≤ 1000 then 1 else 0), .ref m]) rfl ?_
                        refine r_cs (cs2 := [(m, .inr (12, [.int 0, .ref mp, .int pt, .ref mf, .ref mh, .ref mn, .ref mt, .ref mz, .ref mc_, .ref mq, .ref mgr, .int cl, .int wa, .int co_, .int fi, .int bu, .int ho, .ref ml, .ref mi, .ref mr, .int lh, .int mg, .int wd, .int fpi, .int fal, .ref mm, .ref mu, .ref mk, .ref mx, .long po, .long de]))]) rfl ?_
                        refine r_if_eq (tgt := 92) d_Mm_leastCost_77 (by decide) (fun c_77 => ?_) (fun c_77 => ?_)
                        · refine r_iconst d_Mm_leastCost_92 (v := 1) (by decide) ?_
                          refine r_goto (tgt := 97) d_Mm_leastCost_93 (by decide) ?_
                          refine r_iconst d_Mm_leastCost_97 (v := 1) (by decide) ?_
                          refine r_callV (As := [.int 1, .int 1]) (rest := []) (csC := [(m, .inr (12, [.int 0, .ref mp, .int pt, .ref mf, .ref mh, .ref mn, .ref mt, .ref mz, .ref mc_, .ref mq, .ref mgr, .int cl, .int wa, .int co_, .int fi, .int bu, .int ho, .ref ml, .ref mi, .ref mr, .int lh, .int mg, .int wd, .int fpi, .int fal, .ref mm, .ref mu, .ref mk, .ref mx, .long po, .long de]))]) (is := [0]) (q0 := 0) rfl rfl ln_Mm_103 w_im_Mm_fails w_se_Mm_fails ok_Mm_leastCost_Mm_fails d_Mm_leastCost_98 (C_Mm_fails1 g m mp mf mh mn mt mz mc_ mq mgr ml mi mr mm mu mk mx th pt cl wa co_ fi bu ho lh mg wd fpi fal po de) rfl rfl (Nat.le_of_ble_eq_true rfl) rfl (by decide) (by omega) (by omega) (fun E cs1 hx => ?_) (fun v cs1 hx => ?_)
                          · exact absurd hx.1 (by simp)
                          · obtain ⟨e1, rfl⟩ := hx
                            cases e1
                            refine ⟨rfl, ?_⟩
                            refine r_st (st2 := [.int 1]) rfl ?_
                            refine r_cs (cs2 := [(m, .inr (12, [.int 1, .ref mp, .int pt, .ref mf, .ref mh, .ref mn, .ref mt, .ref mz, .ref mc_, .ref mq, .ref mgr, .int cl, .int wa, .int co_, .int fi, .int bu, .int ho, .ref ml, .ref mi, .ref mr, .int lh, .int mg, .int wd, .int fpi, .int fal, .ref mm, .ref mu, .ref mk, .ref mx, .long po, .long de]))]) rfl ?_
                            refine r_if_eq (tgt := 106) d_Mm_leastCost_101 (by decide) (fun c_101 => ?_) (fun c_101 => ?_)
                            · exact absurd c_101 (by decide)
                            · refine r_iconst d_Mm_leastCost_104 (v := 0) (by decide) ?_
                              refine r_iret d_Mm_leastCost_105 rfl rfl ?_
                              exact ⟨rfl, rfl⟩
                        · refine r_iload d_Mm_leastCost_80 7 rfl ?_
                          refine r_iconst d_Mm_leastCost_82 (v := 1) (by decide) ?_
                          refine r_sipush d_Mm_leastCost_83 (v := 1000) (by decide) ?_
                          refine r_callS (As := [.int pa, .int 1, .int 1000]) (rest := [.ref m]) (csC := []) (is := []) ln_Mm_87 w_st_Mm_in ok_Mm_leastCost_Mm_in d_Mm_leastCost_86 (C_Mm_in g pa 1 1000) rfl rfl (Nat.le_of_ble_eq_true rfl) rfl (by decide) (by omega) (by omega) (fun E cs1 hx => ?_) (fun v cs1 hx => ?_)
                          · exact absurd hx.1 (by simp)
                          · obtain ⟨e1, rfl⟩ := hx
                            cases e1
                            refine ⟨rfl, ?_⟩
                            refine r_st (st2 := [.int (if 1 ≤ pa ∧ pa ≤ 1000 then 1 else 0), .ref m]) rfl ?_
                            refine r_cs (cs2 := [(m, .inr (12, [.int 0, .ref mp, .int pt, .ref mf, .ref mh, .ref mn, .ref mt, .ref mz, .ref mc_, .ref mq, .ref mgr, .int cl, .int wa, .int co_, .int fi, .int bu, .int ho, .ref ml, .ref mi, .ref mr, .int lh, .int mg, .int wd, .int fpi, .int fal, .ref mm, .ref mu, .ref mk, .ref mx, .long po, .long de]))]) rfl ?_
                            refine r_if_ne (tgt := 96) d_Mm_leastCost_89 (by decide) (fun c_89 => ?_) (fun c_89 => ?_)
                            · exact absurd ⟨z_b1 c_13, ⟨Int32.not_lt.mp c_40, (z_b1 c_24).2⟩, z_b1 c_35, z_b1 c_65, z_b1 c_77, z_b1 c_89⟩ hw
                            · refine r_iconst d_Mm_leastCost_92 (v := 1) (by decide) ?_
                              refine r_goto (tgt := 97) d_Mm_leastCost_93 (by decide) ?_
                              refine r_iconst d_Mm_leastCost_97 (v := 1) (by decide) ?_
                              refine r_callV (As := [.int 1, .int 1]) (rest := []) (csC := [(m, .inr (12, [.int 0, .ref mp, .int pt, .ref mf, .ref mh, .ref mn, .ref mt, .ref mz, .ref mc_, .ref mq, .ref mgr, .int cl, .int wa, .int co_, .int fi, .int bu, .int ho, .ref ml, .ref mi, .ref mr, .int lh, .int mg, .int wd, .int fpi, .int fal, .ref mm, .ref mu, .ref mk, .ref mx, .long po, .long de]))]) (is := [0]) (q0 := 0) rfl rfl ln_Mm_103 w_im_Mm_fails w_se_Mm_fails ok_Mm_leastCost_Mm_fails d_Mm_leastCost_98 (C_Mm_fails1 g m mp mf mh mn mt mz mc_ mq mgr ml mi mr mm mu mk mx th pt cl wa co_ fi bu ho lh mg wd fpi fal po de) rfl rfl (Nat.le_of_ble_eq_true rfl) rfl (by decide) (by omega) (by omega) (fun E cs1 hx => ?_) (fun v cs1 hx => ?_)
                              · exact absurd hx.1 (by simp)
                              · obtain ⟨e1, rfl⟩ := hx
                                cases e1
                                refine ⟨rfl, ?_⟩
                                refine r_st (st2 := [.int 1]) rfl ?_
                                refine r_cs (cs2 := [(m, .inr (12, [.int 1, .ref mp, .int pt, .ref mf, .ref mh, .ref mn, .ref mt, .ref mz, .ref mc_, .ref mq, .ref mgr, .int cl, .int wa, .int co_, .int fi, .int bu, .int ho, .ref ml, .ref mi, .ref mr, .int lh, .int mg, .int wd, .int fpi, .int fal, .ref mm, .ref mu, .ref mk, .ref mx, .long po, .long de]))]) rfl ?_
                                refine r_if_eq (tgt := 106) d_Mm_leastCost_101 (by decide) (fun c_101 => ?_) (fun c_101 => ?_)
                                · exact absurd c_101 (by decide)
                                · refine r_iconst d_Mm_leastCost_104 (v := 0) (by decide) ?_
                                  refine r_iret d_Mm_leastCost_105 rfl rfl ?_
                                  exact ⟨rfl, rfl⟩
theorem d_Mm_leastCost_127 : decode prog_14_method_71_code 127 = .ok (.iload 12, 2) := zo_21 (d := 12) (zd_b zq_prog_14_method_71_code_3 31 rfl rfl rfl) (zd_b zq_prog_14_method_71_code_4 0 rfl rfl rfl)
theorem d_Mm_leastCost_129 : decode prog_14_method_71_code 129 = .ok (.bipush 10, 2) := zo_16 (d := 10) (zd_b zq_prog_14_method_71_code_4 1 rfl rfl rfl) (zd_b zq_prog_14_method_71_code_4 2 rfl rfl rfl) (by decide +kernel)
theorem d_Mm_leastCost_131 : decode prog_14_method_71_code 131 = .ok (.if_icmp .gt 109, 3) := zo_163 (d := 0) (e := 109) (zd_b zq_prog_14_method_71_code_4 3 rfl rfl rfl) (zd_b zq_prog_14_method_71_code_4 4 rfl rfl rfl) (zd_b zq_prog_14_method_71_code_4 5 rfl rfl rfl) (by decide +kernel)
theorem d_Mm_leastCost_134 : decode prog_14_method_71_code 134 = .ok (.iload 11, 2) := zo_21 (d := 11) (zd_b zq_prog_14_method_71_code_4 6 rfl rfl rfl) (zd_b zq_prog_14_method_71_code_4 7 rfl rfl rfl)
theorem d_Mm_leastCost_136 : decode prog_14_method_71_code 136 = .ok (.iload 12, 2) := zo_21 (d := 12) (zd_b zq_prog_14_method_71_code_4 8 rfl rfl rfl) (zd_b zq_prog_14_method_71_code_4 9 rfl rfl rfl)
theorem d_Mm_leastCost_138 : decode prog_14_method_71_code 138 = .ok (.iadd, 1) := zo_96 (zd_b zq_prog_14_method_71_code_4 10 rfl rfl rfl)
theorem d_Mm_leastCost_139 : decode prog_14_method_71_code 139 = .ok (.bipush 100, 2) := zo_16 (d := 100) (zd_b zq_prog_14_method_71_code_4 11 rfl rfl rfl) (zd_b zq_prog_14_method_71_code_4 12 rfl rfl rfl) (by decide +kernel)
theorem d_Mm_leastCost_141 : decode prog_14_method_71_code 141 = .ok (.if_icmp .gt 99, 3) := zo_163 (d := 0) (e := 99) (zd_b zq_prog_14_method_71_code_4 13 rfl rfl rfl) (zd_b zq_prog_14_method_71_code_4 14 rfl rfl rfl) (zd_b zq_prog_14_method_71_code_4 15 rfl rfl rfl) (by decide +kernel)
theorem d_Mm_leastCost_144 : decode prog_14_method_71_code 144 = .ok (.iload 11, 2) := zo_21 (d := 11) (zd_b zq_prog_14_method_71_code_4 16 rfl rfl rfl) (zd_b zq_prog_14_method_71_code_4 17 rfl rfl rfl)
theorem d_Mm_leastCost_146 : decode prog_14_method_71_code 146 = .ok (.iload 4, 2) := zo_21 (d := 4) (zd_b zq_prog_14_method_71_code_4 18 rfl rfl rfl) (zd_b zq_prog_14_method_71_code_4 19 rfl rfl rfl)
theorem d_Mm_leastCost_148 : decode prog_14_method_71_code 148 = .ok (.imul, 1) := zo_104 (zd_b zq_prog_14_method_71_code_4 20 rfl rfl rfl)
theorem d_Mm_leastCost_149 : decode prog_14_method_71_code 149 = .ok (.iload 12, 2) := zo_21 (d := 12) (zd_b zq_prog_14_method_71_code_4 21 rfl rfl rfl) (zd_b zq_prog_14_method_71_code_4 22 rfl rfl rfl)
theorem d_Mm_leastCost_151 : decode prog_14_method_71_code 151 = .ok (.iload 6, 2) := zo_21 (d := 6) (zd_b zq_prog_14_method_71_code_4 23 rfl rfl rfl) (zd_b zq_prog_14_method_71_code_4 24 rfl rfl rfl)
theorem d_Mm_leastCost_153 : decode prog_14_method_71_code 153 = .ok (.imul, 1) := zo_104 (zd_b zq_prog_14_method_71_code_4 25 rfl rfl rfl)
theorem d_Mm_leastCost_154 : decode prog_14_method_71_code 154 = .ok (.iadd, 1) := zo_96 (zd_b zq_prog_14_method_71_code_4 26 rfl rfl rfl)
theorem d_Mm_leastCost_155 : decode prog_14_method_71_code 155 = .ok (.bipush 100, 2) := zo_16 (d := 100) (zd_b zq_prog_14_method_71_code_4 27 rfl rfl rfl) (zd_b zq_prog_14_method_71_code_4 28 rfl rfl rfl) (by decide +kernel)
theorem d_Mm_leastCost_157 : decode prog_14_method_71_code 157 = .ok (.iload 11, 2) := zo_21 (d := 11) (zd_b zq_prog_14_method_71_code_4 29 rfl rfl rfl) (zd_b zq_prog_14_method_71_code_4 30 rfl rfl rfl)
theorem d_Mm_leastCost_159 : decode prog_14_method_71_code 159 = .ok (.isub, 1) := zo_100 (zd_b zq_prog_14_method_71_code_4 31 rfl rfl rfl)
theorem d_Mm_leastCost_160 : decode prog_14_method_71_code 160 = .ok (.iload 12, 2) := zo_21 (d := 12) (zd_b zq_prog_14_method_71_code_5 0 rfl rfl rfl) (zd_b zq_prog_14_method_71_code_5 1 rfl rfl rfl)
theorem d_Mm_leastCost_162 : decode prog_14_method_71_code 162 = .ok (.isub, 1) := zo_100 (zd_b zq_prog_14_method_71_code_5 2 rfl rfl rfl)
theorem d_Mm_leastCost_163 : decode prog_14_method_71_code 163 = .ok (.iload 5, 2) := zo_21 (d := 5) (zd_b zq_prog_14_method_71_code_5 3 rfl rfl rfl) (zd_b zq_prog_14_method_71_code_5 4 rfl rfl rfl)
theorem d_Mm_leastCost_165 : decode prog_14_method_71_code 165 = .ok (.imul, 1) := zo_104 (zd_b zq_prog_14_method_71_code_5 5 rfl rfl rfl)
theorem d_Mm_leastCost_166 : decode prog_14_method_71_code 166 = .ok (.iadd, 1) := zo_96 (zd_b zq_prog_14_method_71_code_5 6 rfl rfl rfl)
theorem d_Mm_leastCost_167 : decode prog_14_method_71_code 167 = .ok (.istore 13, 2) := zo_54 (d := 13) (zd_b zq_prog_14_method_71_code_5 7 rfl rfl rfl) (zd_b zq_prog_14_method_71_code_5 8 rfl rfl rfl)
theorem d_Mm_leastCost_169 : decode prog_14_method_71_code 169 = .ok (.iload 11, 2) := zo_21 (d := 11) (zd_b zq_prog_14_method_71_code_5 9 rfl rfl rfl) (zd_b zq_prog_14_method_71_code_5 10 rfl rfl rfl)
theorem d_Mm_leastCost_171 : decode prog_14_method_71_code 171 = .ok (.iload 12, 2) := zo_21 (d := 12) (zd_b zq_prog_14_method_71_code_5 11 rfl rfl rfl) (zd_b zq_prog_14_method_71_code_5 12 rfl rfl rfl)
theorem d_Mm_leastCost_173 : decode prog_14_method_71_code 173 = .ok (.iconst 0, 1) := zo_3 (zd_b zq_prog_14_method_71_code_5 13 rfl rfl rfl)
theorem d_Mm_leastCost_174 : decode prog_14_method_71_code 174 = .ok (.invokestatic 272, 3) := zo_184 (d := 1) (e := 16) (zd_b zq_prog_14_method_71_code_5 14 rfl rfl rfl) (zd_b zq_prog_14_method_71_code_5 15 rfl rfl rfl) (zd_b zq_prog_14_method_71_code_5 16 rfl rfl rfl)
theorem ok_Mm_leastCost_Mm_has_0 : z_ok M_Mm_leastCost M_Mm_has_0 3 := ⟨z_mj8 (i := 214) rfl (by decide +kernel), rfl, ⟨by decide +kernel, by decide +kernel, by decide +kernel⟩, ⟨by decide, by decide⟩, z_mj1 (i := 14) rfl (by decide +kernel), rfl⟩
theorem ln_Mm_272 : Cond.methodLink "IronpourModel" 272 M_Mm_has_0.1 ∈ z_gw := z_mj8 (i := 212) rfl (by decide +kernel)
theorem w_st_Mm_has_0 : Cond.static M_Mm_has_0.1 ∈ z_gw := z_mj8 (i := 213) rfl (by decide +kernel)
theorem d_Mm_leastCost_177 : decode prog_14_method_71_code 177 = .ok (.iload_n 1, 1) := zo_27 (zd_b zq_prog_14_method_71_code_5 17 rfl rfl rfl)
theorem d_Mm_leastCost_178 : decode prog_14_method_71_code 178 = .ok (.iload_n 2, 1) := zo_28 (zd_b zq_prog_14_method_71_code_5 18 rfl rfl rfl)
theorem d_Mm_leastCost_179 : decode prog_14_method_71_code 179 = .ok (.invokestatic 87, 3) := zo_184 (d := 0) (e := 87) (zd_b zq_prog_14_method_71_code_5 19 rfl rfl rfl) (zd_b zq_prog_14_method_71_code_5 20 rfl rfl rfl) (zd_b zq_prog_14_method_71_code_5 21 rfl rfl rfl)
theorem d_Mm_leastCost_182 : decode prog_14_method_71_code 182 = .ok (.ifCond .eq 19, 3) := zo_153 (d := 0) (e := 19) (zd_b zq_prog_14_method_71_code_5 22 rfl rfl rfl) (zd_b zq_prog_14_method_71_code_5 23 rfl rfl rfl) (zd_b zq_prog_14_method_71_code_5 24 rfl rfl rfl) (by decide +kernel)
theorem d_Mm_leastCost_201 : decode prog_14_method_71_code 201 = .ok (.iconst 0, 1) := zo_3 (zd_b zq_prog_14_method_71_code_6 9 rfl rfl rfl)
theorem d_Mm_leastCost_202 : decode prog_14_method_71_code 202 = .ok (.istore 14, 2) := zo_54 (d := 14) (zd_b zq_prog_14_method_71_code_6 10 rfl rfl rfl) (zd_b zq_prog_14_method_71_code_6 11 rfl rfl rfl)
theorem d_Mm_leastCost_204 : decode prog_14_method_71_code 204 = .ok (.iload 14, 2) := zo_21 (d := 14) (zd_b zq_prog_14_method_71_code_6 12 rfl rfl rfl) (zd_b zq_prog_14_method_71_code_6 13 rfl rfl rfl)
theorem d_Mm_leastCost_206 : decode prog_14_method_71_code 206 = .ok (.ifCond .eq 28, 3) := zo_153 (d := 0) (e := 28) (zd_b zq_prog_14_method_71_code_6 14 rfl rfl rfl) (zd_b zq_prog_14_method_71_code_6 15 rfl rfl rfl) (zd_b zq_prog_14_method_71_code_6 16 rfl rfl rfl) (by decide +kernel)
theorem d_Mm_leastCost_234 : decode prog_14_method_71_code 234 = .ok (.iinc 12 1, 3) := by decide +kernel
theorem d_Mm_leastCost_237 : decode prog_14_method_71_code 237 = .ok (.goto (-110), 3) := zo_167 (d := 255) (e := 146) (zd_b zq_prog_14_method_71_code_7 13 rfl rfl rfl) (zd_b zq_prog_14_method_71_code_7 14 rfl rfl rfl) (zd_b zq_prog_14_method_71_code_7 15 rfl rfl rfl) (by decide +kernel)
theorem d_Mm_leastCost_185 : decode prog_14_method_71_code 185 = .ok (.iload 11, 2) := zo_21 (d := 11) (zd_b zq_prog_14_method_71_code_5 25 rfl rfl rfl) (zd_b zq_prog_14_method_71_code_5 26 rfl rfl rfl)
theorem d_Mm_leastCost_187 : decode prog_14_method_71_code 187 = .ok (.iload 12, 2) := zo_21 (d := 12) (zd_b zq_prog_14_method_71_code_5 27 rfl rfl rfl) (zd_b zq_prog_14_method_71_code_5 28 rfl rfl rfl)
theorem d_Mm_leastCost_189 : decode prog_14_method_71_code 189 = .ok (.iconst 1, 1) := zo_4 (zd_b zq_prog_14_method_71_code_5 29 rfl rfl rfl)
theorem d_Mm_leastCost_190 : decode prog_14_method_71_code 190 = .ok (.invokestatic 272, 3) := zo_184 (d := 1) (e := 16) (zd_b zq_prog_14_method_71_code_5 30 rfl rfl rfl) (zd_b zq_prog_14_method_71_code_5 31 rfl rfl rfl) (zd_b zq_prog_14_method_71_code_6 0 rfl rfl rfl)
theorem d_Mm_leastCost_193 : decode prog_14_method_71_code 193 = .ok (.iload_n 3, 1) := zo_29 (zd_b zq_prog_14_method_71_code_6 1 rfl rfl rfl)
theorem d_Mm_leastCost_194 : decode prog_14_method_71_code 194 = .ok (.if_icmp .lt 7, 3) := zo_161 (d := 0) (e := 7) (zd_b zq_prog_14_method_71_code_6 2 rfl rfl rfl) (zd_b zq_prog_14_method_71_code_6 3 rfl rfl rfl) (zd_b zq_prog_14_method_71_code_6 4 rfl rfl rfl) (by decide +kernel)
theorem d_Mm_leastCost_197 : decode prog_14_method_71_code 197 = .ok (.iconst 1, 1) := zo_4 (zd_b zq_prog_14_method_71_code_6 5 rfl rfl rfl)
theorem d_Mm_leastCost_198 : decode prog_14_method_71_code 198 = .ok (.goto 4, 3) := zo_167 (d := 0) (e := 4) (zd_b zq_prog_14_method_71_code_6 6 rfl rfl rfl) (zd_b zq_prog_14_method_71_code_6 7 rfl rfl rfl) (zd_b zq_prog_14_method_71_code_6 8 rfl rfl rfl) (by decide +kernel)
theorem d_Mm_leastCost_209 : decode prog_14_method_71_code 209 = .ok (.iload 8, 2) := zo_21 (d := 8) (zd_b zq_prog_14_method_71_code_6 17 rfl rfl rfl) (zd_b zq_prog_14_method_71_code_6 18 rfl rfl rfl)
theorem d_Mm_leastCost_211 : decode prog_14_method_71_code 211 = .ok (.iconst (-1), 1) := zo_2 (zd_b zq_prog_14_method_71_code_6 19 rfl rfl rfl)
theorem d_Mm_leastCost_212 : decode prog_14_method_71_code 212 = .ok (.if_icmp .eq 10, 3) := zo_159 (d := 0) (e := 10) (zd_b zq_prog_14_method_71_code_6 20 rfl rfl rfl) (zd_b zq_prog_14_method_71_code_6 21 rfl rfl rfl) (zd_b zq_prog_14_method_71_code_6 22 rfl rfl rfl) (by decide +kernel)
theorem d_Mm_leastCost_222 : decode prog_14_method_71_code 222 = .ok (.iload 13, 2) := zo_21 (d := 13) (zd_b zq_prog_14_method_71_code_6 30 rfl rfl rfl) (zd_b zq_prog_14_method_71_code_6 31 rfl rfl rfl)
theorem d_Mm_leastCost_224 : decode prog_14_method_71_code 224 = .ok (.istore 8, 2) := zo_54 (d := 8) (zd_b zq_prog_14_method_71_code_7 0 rfl rfl rfl) (zd_b zq_prog_14_method_71_code_7 1 rfl rfl rfl)
theorem d_Mm_leastCost_226 : decode prog_14_method_71_code 226 = .ok (.iload 11, 2) := zo_21 (d := 11) (zd_b zq_prog_14_method_71_code_7 2 rfl rfl rfl) (zd_b zq_prog_14_method_71_code_7 3 rfl rfl rfl)
theorem d_Mm_leastCost_228 : decode prog_14_method_71_code 228 = .ok (.istore 9, 2) := zo_54 (d := 9) (zd_b zq_prog_14_method_71_code_7 4 rfl rfl rfl) (zd_b zq_prog_14_method_71_code_7 5 rfl rfl rfl)
theorem d_Mm_leastCost_230 : decode prog_14_method_71_code 230 = .ok (.iload 12, 2) := zo_21 (d := 12) (zd_b zq_prog_14_method_71_code_7 6 rfl rfl rfl) (zd_b zq_prog_14_method_71_code_7 7 rfl rfl rfl)
theorem d_Mm_leastCost_232 : decode prog_14_method_71_code 232 = .ok (.istore 10, 2) := zo_54 (d := 10) (zd_b zq_prog_14_method_71_code_7 8 rfl rfl rfl) (zd_b zq_prog_14_method_71_code_7 9 rfl rfl rfl)
theorem d_Mm_leastCost_215 : decode prog_14_method_71_code 215 = .ok (.iload 13, 2) := zo_21 (d := 13) (zd_b zq_prog_14_method_71_code_6 23 rfl rfl rfl) (zd_b zq_prog_14_method_71_code_6 24 rfl rfl rfl)
theorem d_Mm_leastCost_217 : decode prog_14_method_71_code 217 = .ok (.iload 8, 2) := zo_21 (d := 8) (zd_b zq_prog_14_method_71_code_6 25 rfl rfl rfl) (zd_b zq_prog_14_method_71_code_6 26 rfl rfl rfl)
theorem d_Mm_leastCost_219 : decode prog_14_method_71_code 219 = .ok (.if_icmp .ge 15, 3) := zo_162 (d := 0) (e := 15) (zd_b zq_prog_14_method_71_code_6 27 rfl rfl rfl) (zd_b zq_prog_14_method_71_code_6 28 rfl rfl rfl) (zd_b zq_prog_14_method_71_code_6 29 rfl rfl rfl) (by decide +kernel)
theorem d_Mm_leastCost_119 : decode prog_14_method_71_code 119 = .ok (.iload 11, 2) := zo_21 (d := 11) (zd_b zq_prog_14_method_71_code_3 23 rfl rfl rfl) (zd_b zq_prog_14_method_71_code_3 24 rfl rfl rfl)
theorem d_Mm_leastCost_121 : decode prog_14_method_71_code 121 = .ok (.ifCond .lt 125, 3) := zo_155 (d := 0) (e := 125) (zd_b zq_prog_14_method_71_code_3 25 rfl rfl rfl) (zd_b zq_prog_14_method_71_code_3 26 rfl rfl rfl) (zd_b zq_prog_14_method_71_code_3 27 rfl rfl rfl) (by decide +kernel)
theorem d_Mm_leastCost_246 : decode prog_14_method_71_code 246 = .ok (.aload_n 0, 1) := zo_42 (zd_b zq_prog_14_method_71_code_7 22 rfl rfl rfl)
theorem d_Mm_leastCost_247 : decode prog_14_method_71_code 247 = .ok (.iload 8, 2) := zo_21 (d := 8) (zd_b zq_prog_14_method_71_code_7 23 rfl rfl rfl) (zd_b zq_prog_14_method_71_code_7 24 rfl rfl rfl)
theorem d_Mm_leastCost_249 : decode prog_14_method_71_code 249 = .ok (.iconst (-1), 1) := zo_2 (zd_b zq_prog_14_method_71_code_7 25 rfl rfl rfl)
theorem d_Mm_leastCost_250 : decode prog_14_method_71_code 250 = .ok (.if_icmp .ne 7, 3) := zo_160 (d := 0) (e := 7) (zd_b zq_prog_14_method_71_code_7 26 rfl rfl rfl) (zd_b zq_prog_14_method_71_code_7 27 rfl rfl rfl) (zd_b zq_prog_14_method_71_code_7 28 rfl rfl rfl) (by decide +kernel)
theorem d_Mm_leastCost_253 : decode prog_14_method_71_code 253 = .ok (.iconst 1, 1) := zo_4 (zd_b zq_prog_14_method_71_code_7 29 rfl rfl rfl)
theorem d_Mm_leastCost_254 : decode prog_14_method_71_code 254 = .ok (.goto 4, 3) := zo_167 (d := 0) (e := 4) (zd_b zq_prog_14_method_71_code_7 30 rfl rfl rfl) (zd_b zq_prog_14_method_71_code_7 31 rfl rfl rfl) (zd_b zq_prog_14_method_71_code_8 0 rfl rfl rfl) (by decide +kernel)
theorem d_Mm_leastCost_258 : decode prog_14_method_71_code 258 = .ok (.iconst 2, 1) := zo_5 (zd_b zq_prog_14_method_71_code_8 2 rfl rfl rfl)
theorem d_Mm_leastCost_259 : decode prog_14_method_71_code 259 = .ok (.invokevirtual 103, 3) := zo_182 (d := 0) (e := 103) (zd_b zq_prog_14_method_71_code_8 3 rfl rfl rfl) (zd_b zq_prog_14_method_71_code_8 4 rfl rfl rfl) (zd_b zq_prog_14_method_71_code_8 5 rfl rfl rfl)
theorem d_Mm_leastCost_262 : decode prog_14_method_71_code 262 = .ok (.ifCond .eq 5, 3) := zo_153 (d := 0) (e := 5) (zd_b zq_prog_14_method_71_code_8 6 rfl rfl rfl) (zd_b zq_prog_14_method_71_code_8 7 rfl rfl rfl) (zd_b zq_prog_14_method_71_code_8 8 rfl rfl rfl) (by decide +kernel)
theorem d_Mm_leastCost_265 : decode prog_14_method_71_code 265 = .ok (.iconst 0, 1) := zo_3 (zd_b zq_prog_14_method_71_code_8 9 rfl rfl rfl)
theorem d_Mm_leastCost_266 : decode prog_14_method_71_code 266 = .ok (.ireturn, 1) := zo_172 (zd_b zq_prog_14_method_71_code_8 10 rfl rfl rfl)
theorem d_Mm_leastCost_124 : decode prog_14_method_71_code 124 = .ok (.iconst 0, 1) := zo_3 (zd_b zq_prog_14_method_71_code_3 28 rfl rfl rfl)
theorem d_Mm_leastCost_125 : decode prog_14_method_71_code 125 = .ok (.istore 12, 2) := zo_54 (d := 12) (zd_b zq_prog_14_method_71_code_3 29 rfl rfl rfl) (zd_b zq_prog_14_method_71_code_3 30 rfl rfl rfl)
theorem d_Mm_leastCost_240 : decode prog_14_method_71_code 240 = .ok (.iinc 11 (-10), 3) := by decide +kernel
theorem d_Mm_leastCost_243 : decode prog_14_method_71_code 243 = .ok (.goto (-124), 3) := zo_167 (d := 255) (e := 132) (zd_b zq_prog_14_method_71_code_7 19 rfl rfl rfl) (zd_b zq_prog_14_method_71_code_7 20 rfl rfl rfl) (zd_b zq_prog_14_method_71_code_7 21 rfl rfl rfl) (by decide +kernel)
theorem d_Mm_leastCost_96 : decode prog_14_method_71_code 96 = .ok (.iconst 0, 1) := zo_3 (zd_b zq_prog_14_method_71_code_3 0 rfl rfl rfl)
theorem d_Mm_leastCost_106 : decode prog_14_method_71_code 106 = .ok (.iconst (-1), 1) := zo_2 (zd_b zq_prog_14_method_71_code_3 10 rfl rfl rfl)
theorem d_Mm_leastCost_107 : decode prog_14_method_71_code 107 = .ok (.istore 8, 2) := zo_54 (d := 8) (zd_b zq_prog_14_method_71_code_3 11 rfl rfl rfl) (zd_b zq_prog_14_method_71_code_3 12 rfl rfl rfl)
theorem d_Mm_leastCost_109 : decode prog_14_method_71_code 109 = .ok (.iconst (-1), 1) := zo_2 (zd_b zq_prog_14_method_71_code_3 13 rfl rfl rfl)
theorem d_Mm_leastCost_110 : decode prog_14_method_71_code 110 = .ok (.istore 9, 2) := zo_54 (d := 9) (zd_b zq_prog_14_method_71_code_3 14 rfl rfl rfl) (zd_b zq_prog_14_method_71_code_3 15 rfl rfl rfl)
theorem d_Mm_leastCost_112 : decode prog_14_method_71_code 112 = .ok (.iconst 0, 1) := zo_3 (zd_b zq_prog_14_method_71_code_3 16 rfl rfl rfl)
theorem d_Mm_leastCost_113 : decode prog_14_method_71_code 113 = .ok (.istore 10, 2) := zo_54 (d := 10) (zd_b zq_prog_14_method_71_code_3 17 rfl rfl rfl) (zd_b zq_prog_14_method_71_code_3 18 rfl rfl rfl)
theorem d_Mm_leastCost_115 : decode prog_14_method_71_code 115 = .ok (.bipush 100, 2) := zo_16 (d := 100) (zd_b zq_prog_14_method_71_code_3 19 rfl rfl rfl) (zd_b zq_prog_14_method_71_code_3 20 rfl rfl rfl) (by decide +kernel)
theorem d_Mm_leastCost_117 : decode prog_14_method_71_code 117 = .ok (.istore 11, 2) := zo_54 (d := 11) (zd_b zq_prog_14_method_71_code_3 21 rfl rfl rfl) (zd_b zq_prog_14_method_71_code_3 22 rfl rfl rfl)
set_option maxHeartbeats 4000000 in
set_option maxRecDepth 100000 in
theorem L_Mm_leastCostF_127 (g : zG) (m mp mf mh mn mt mz mc_ mq mgr ml mi mr mm mu mk mx : Nat) (th pt cl wa co_ fi bu ho lh mg wd fpi fal : Int32) (po de : Int64) (le mo si pp ps pa : Int32) (hw : ((0 ≤ le ∧ le ≤ 450) ∧ (le ≤ mo ∧ mo ≤ 450) ∧ (0 ≤ si ∧ si ≤ 450) ∧ (1 ≤ pp ∧ pp ≤ 1000) ∧ (1 ≤ ps ∧ ps ≤ 1000) ∧ (1 ≤ pa ∧ pa ≤ 1000))) (hpr : ∀ P A, P + A ≤ 100 → 0 ≤ prS pp ps pa P A) (hs9 : (rcO le mo si pp ps pa (-1, -1, 0, 0) 11).1 < 0) (w0 : zW) (n : Nat) (kd : Nat) (hk : kd < 11) (K : DV g M_Mm_leastCost (fun o cs1 => o = .inl (some (.int 0)) ∧ cs1 = [(m, .inr (12, [.int 2, .ref mp, .int pt, .ref mf, .ref mh, .ref mn, .ref mt, .ref mz, .ref mc_, .ref mq, .ref mgr, .int cl, .int wa, .int co_, .int fi, .int bu, .int ho, .ref ml, .ref mi, .ref mr, .int lh, .int mg, .int wd, .int fpi, .int fal, .ref mm, .ref mu, .ref mk, .ref mx, .long po, .long de]))]) w0 n 240 [(12, .int (nI (nA (100 - 10 * kd)))), (11, .int (nI (100 - 10 * kd))), (10, .int ((rcR le mo si pp ps pa (100 - 10 * kd) (rcO le mo si pp ps pa (-1, -1, 0, 0) kd) (nA (100 - 10 * kd))).2.2.1)), (9, .int ((rcR le mo si pp ps pa (100 - 10 * kd) (rcO le mo si pp ps pa (-1, -1, 0, 0) kd) (nA (100 - 10 * kd))).2.1)), (8, .int ((rcR le mo si pp ps pa (100 - 10 * kd) (rcO le mo si pp ps pa (-1, -1, 0, 0) kd) (nA (100 - 10 * kd))).1)), (6, .int pa), (5, .int ps), (4, .int pp), (3, .int si), (2, .int mo), (1, .int le), (0, .ref m)] [] [(m, .inr (12, [.int 0, .ref mp, .int pt, .ref mf, .ref mh, .ref mn, .ref mt, .ref mz, .ref mc_, .ref mq, .ref mgr, .int cl, .int wa, .int co_, .int fi, .int bu, .int ho, .ref ml, .ref mi, .ref mr, .int lh, .int mg, .int wd, .int fpi, .int fal, .ref mm, .ref mu, .ref mk, .ref mx, .long po, .long de]))] 0 0) : ∀ (d i : Nat), i ≤ nA (100 - 10 * kd) → nA (100 - 10 * kd) < i + d → DV g M_Mm_leastCost (fun o cs1 => o = .inl (some (.int 0)) ∧ cs1 = [(m, .inr (12, [.int 2, .ref mp, .int pt, .ref mf, .ref mh, .ref mn, .ref mt, .ref mz, .ref mc_, .ref mq, .ref mgr, .int cl, .int wa, .int co_, .int fi, .int bu, .int ho, .ref ml, .ref mi, .ref mr, .int lh, .int mg, .int wd, .int fpi, .int fal, .ref mm, .ref mu, .ref mk, .ref mx, .long po, .long de]))]) w0 n 127 [(12, .int (nI i)), (11, .int (nI (100 - 10 * kd))), (10, .int ((rcR le mo si pp ps pa (100 - 10 * kd) (rcO le mo si pp ps pa (-1, -1, 0, 0) kd) i).2.2.1)), (9, .int ((rcR le mo si pp ps pa (100 - 10 * kd) (rcO le mo si pp ps pa (-1, -1, 0, 0) kd) i).2.1)), (8, .int ((rcR le mo si pp ps pa (100 - 10 * kd) (rcO le mo si pp ps pa (-1, -1, 0, 0) kd) i).1)), (6, .int pa), (5, .int ps), (4, .int pp), (3, .int si), (2, .int mo), (1, .int le), (0, .ref m)] [] [(m, .inr (12, [.int 0, .ref mp, .int pt, .ref mf, .ref mh, .ref mn, .ref mt, .ref mz, .ref mc_, .ref mq, .ref mgr, .int cl, .int wa, .int co_, .int fi, .int bu, .int ho, .ref ml, .ref mi, .ref mr, .int lh, .int mg, .int wd, .int fpi, .int fal, .ref mm, .ref mu, .ref mk, .ref mx, .long po, .long de]))] 0 0 := by
  intro d
  induction d with
  | zero => intro i h1 h2 ; exact absurd h2 (by omega)
  | succ d ih =>
    intro i h1 h2 
    refine r_iload d_Mm_leastCost_127 0 rfl ?_
    refine r_bipush d_Mm_leastCost_129 (v := 10) (by decide) ?_
    refine r_icmp_gt (tgt := 240) d_Mm_leastCost_131 (by decide) (fun c_131 => ?_) (fun c_131 => ?_)
    · have hn := z_lt (a := 10) (by unfold nA at h1; split at h1 <;> omega) (by decide) c_131
      have hx : i = nA (100 - 10 * kd) := by rcases nA_c (100 - 10 * kd) with ⟨q1, q2⟩ | ⟨q1, q2⟩ <;> omega
      refine r_lvE (lv2 := [(12, .int (nI (nA (100 - 10 * kd)))), (11, .int (nI (100 - 10 * kd))), (10, .int ((rcR le mo si pp ps pa (100 - 10 * kd) (rcO le mo si pp ps pa (-1, -1, 0, 0) kd) (nA (100 - 10 * kd))).2.2.1)), (9, .int ((rcR le mo si pp ps pa (100 - 10 * kd) (rcO le mo si pp ps pa (-1, -1, 0, 0) kd) (nA (100 - 10 * kd))).2.1)), (8, .int ((rcR le mo si pp ps pa (100 - 10 * kd) (rcO le mo si pp ps pa (-1, -1, 0, 0) kd) (nA (100 - 10 * kd))).1)), (6, .int pa), (5, .int ps), (4, .int pp), (3, .int si), (2, .int mo), (1, .int le), (0, .ref m)]) (by rw [hx]) ?_
      exact K
    · have hn := z_nlt (a := 10) (by unfold nA at h1; split at h1 <;> omega) (by decide) c_131
      refine r_iload d_Mm_leastCost_134 1 rfl ?_
      refine r_iload d_Mm_leastCost_136 0 rfl ?_
      refine r_iadd d_Mm_leastCost_138 (v := nI (100 - 10 * kd + i)) (nI_add _ _) ?_
      refine r_bipush d_Mm_leastCost_139 (v := 100) (by decide) ?_
      refine r_icmp_gt (tgt := 240) d_Mm_leastCost_141 (by decide) (fun c_141 => ?_) (fun c_141 => ?_)
      · have hm := z_lt (a := 100) (by omega) (by decide) c_141
        have hx : i = nA (100 - 10 * kd) := by rcases nA_c (100 - 10 * kd) with ⟨q1, q2⟩ | ⟨q1, q2⟩ <;> omega
        refine r_lvE (lv2 := [(12, .int (nI (nA (100 - 10 * kd)))), (11, .int (nI (100 - 10 * kd))), (10, .int ((rcR le mo si pp ps pa (100 - 10 * kd) (rcO le mo si pp ps pa (-1, -1, 0, 0) kd) (nA (100 - 10 * kd))).2.2.1)), (9, .int ((rcR le mo si pp ps pa (100 - 10 * kd) (rcO le mo si pp ps pa (-1, -1, 0, 0) kd) (nA (100 - 10 * kd))).2.1)), (8, .int ((rcR le mo si pp ps pa (100 - 10 * kd) (rcO le mo si pp ps pa (-1, -1, 0, 0) kd) (nA (100 - 10 * kd))).1)), (6, .int pa), (5, .int ps), (4, .int pp), (3, .int si), (2, .int mo), (1, .int le), (0, .ref m)]) (by rw [hx]) ?_
        exact K
      · have hm := z_nlt (a := 100) (by omega) (by decide) c_141
        have hlt : i < nA (100 - 10 * kd) := by unfold nA; split <;> omega
        have hok : rOk (rcR le mo si pp ps pa (100 - 10 * kd) (rcO le mo si pp ps pa (-1, -1, 0, 0) kd) i) := rcR_ok hpr (rcO_ok hpr (Or.inl rfl) kd (by omega)) i (by omega) (by omega) (by omega)
        refine r_iload d_Mm_leastCost_144 1 rfl ?_
        refine r_iload d_Mm_leastCost_146 7 rfl ?_
        refine r_imul d_Mm_leastCost_148 (v := (nI (100 - 10 * kd)) * pp) rfl ?_
        refine r_iload d_Mm_leastCost_149 0 rfl ?_
        refine r_iload d_Mm_leastCost_151 5 rfl ?_
        refine r_imul d_Mm_leastCost_153 (v := (nI i) * pa) rfl ?_
        refine r_iadd d_Mm_leastCost_154 (v := ((nI (100 - 10 * kd)) * pp) + ((nI i) * pa)) rfl ?_
        refine r_bipush d_Mm_leastCost_155 (v := 100) (by decide) ?_
        refine r_iload d_Mm_leastCost_157 1 rfl ?_
        refine r_isub d_Mm_leastCost_159 (v := nI (100 - (100 - 10 * kd))) (pk_sub (a := 100) (by omega)) ?_
        refine r_iload d_Mm_leastCost_160 0 rfl ?_
        refine r_isub d_Mm_leastCost_162 (v := nI (100 - (100 - 10 * kd) - i)) (pk_sub (by omega)) ?_
        refine r_iload d_Mm_leastCost_163 6 rfl ?_
        refine r_imul d_Mm_leastCost_165 (v := (nI (100 - (100 - 10 * kd) - i)) * ps) rfl ?_
        refine r_iadd d_Mm_leastCost_166 (v := prS pp ps pa (100 - 10 * kd) i) (by unfold prS; exact z_arc _ _ _) ?_
        refine r_istore (lv' := [(13, .int (prS pp ps pa (100 - 10 * kd) i)), (12, .int (nI i)), (11, .int (nI (100 - 10 * kd))), (10, .int ((rcR le mo si pp ps pa (100 - 10 * kd) (rcO le mo si pp ps pa (-1, -1, 0, 0) kd) i).2.2.1)), (9, .int ((rcR le mo si pp ps pa (100 - 10 * kd) (rcO le mo si pp ps pa (-1, -1, 0, 0) kd) i).2.1)), (8, .int ((rcR le mo si pp ps pa (100 - 10 * kd) (rcO le mo si pp ps pa (-1, -1, 0, 0) kd) i).1)), (6, .int pa), (5, .int ps), (4, .int pp), (3, .int si), (2, .int mo), (1, .int le), (0, .ref m)]) d_Mm_leastCost_167 (by decide) rfl ?_
        refine r_iload d_Mm_leastCost_169 2 rfl ?_
        refine r_iload d_Mm_leastCost_171 1 rfl ?_
        refine r_iconst d_Mm_leastCost_173 (v := 0) (by decide) ?_
        refine r_callS (As := [.int (nI (100 - 10 * kd)), .int (nI i), .int 0]) (rest := []) (csC := []) (is := []) ln_Mm_272 w_st_Mm_has_0 ok_Mm_leastCost_Mm_has_0 d_Mm_leastCost_174 (C_Mm_hasP0 g (100 - 10 * kd) i (by omega)) rfl rfl (Nat.le_of_ble_eq_true rfl) rfl (by decide) (by omega) (by omega) (fun E cs1 hx => ?_) (fun v cs1 hx => ?_)
        · exact absurd hx.1 (by simp)
        · obtain ⟨e1, rfl⟩ := hx
          cases e1
          refine ⟨rfl, ?_⟩
          refine r_st (st2 := [.int (ctS 0 (nI (100 - 10 * kd)) (nI (100 - (100 - 10 * kd) - i)) (nI i))]) rfl ?_
          refine r_cs (cs2 := [(m, .inr (12, [.int 0, .ref mp, .int pt, .ref mf, .ref mh, .ref mn, .ref mt, .ref mz, .ref mc_, .ref mq, .ref mgr, .int cl, .int wa, .int co_, .int fi, .int bu, .int ho, .ref ml, .ref mi, .ref mr, .int lh, .int mg, .int wd, .int fpi, .int fal, .ref mm, .ref mu, .ref mk, .ref mx, .long po, .long de]))]) rfl ?_
          refine r_iload_n d_Mm_leastCost_177 rfl 11 rfl ?_
          refine r_iload_n d_Mm_leastCost_178 rfl 10 rfl ?_
          refine r_callS (As := [.int (ctS 0 (nI (100 - 10 * kd)) (nI (100 - (100 - 10 * kd) - i)) (nI i)), .int le, .int mo]) (rest := []) (csC := []) (is := []) ln_Mm_87 w_st_Mm_in ok_Mm_leastCost_Mm_in d_Mm_leastCost_179 (C_Mm_in g (ctS 0 (nI (100 - 10 * kd)) (nI (100 - (100 - 10 * kd) - i)) (nI i)) le mo) rfl rfl (Nat.le_of_ble_eq_true rfl) rfl (by decide) (by omega) (by omega) (fun E cs1 hx => ?_) (fun v cs1 hx => ?_)
          · exact absurd hx.1 (by simp)
          · obtain ⟨e1, rfl⟩ := hx
            cases e1
            refine ⟨rfl, ?_⟩
            refine r_st (st2 := [.int (if le ≤ ctS 0 (nI (100 - 10 * kd)) (nI (100 - (100 - 10 * kd) - i)) (nI i) ∧ ctS 0 (nI (100 - 10 * kd)) (nI (100 - (100 - 10 * kd) - i)) (nI i) ≤ mo then 1 else 0)]) rfl ?_
            refine r_cs (cs2 := [(m, .inr (12, [.int 0, .ref mp, .int pt, .ref mf, .ref mh, .ref mn, .ref mt, .ref mz, .ref mc_, .ref mq, .ref mgr, .int cl, .int wa, .int co_, .int fi, .int bu, .int ho, .ref ml, .ref mi, .ref mr, .int lh, .int mg, .int wd, .int fpi, .int fal, .ref mm, .ref mu, .ref mk, .ref mx, .long po, .long de]))]) rfl ?_
            refine r_if_eq (tgt := 201) d_Mm_leastCost_182 (by decide) (fun c_182 => ?_) (fun c_182 => ?_)
            · have hc := ct_le (z_b0 c_182)
              refine r_iconst d_Mm_leastCost_201 (v := 0) (by decide) ?_
              refine r_istore (lv' := [(14, .int 0), (13, .int (prS pp ps pa (100 - 10 * kd) i)), (12, .int (nI i)), (11, .int (nI (100 - 10 * kd))), (10, .int ((rcR le mo si pp ps pa (100 - 10 * kd) (rcO le mo si pp ps pa (-1, -1, 0, 0) kd) i).2.2.1)), (9, .int ((rcR le mo si pp ps pa (100 - 10 * kd) (rcO le mo si pp ps pa (-1, -1, 0, 0) kd) i).2.1)), (8, .int ((rcR le mo si pp ps pa (100 - 10 * kd) (rcO le mo si pp ps pa (-1, -1, 0, 0) kd) i).1)), (6, .int pa), (5, .int ps), (4, .int pp), (3, .int si), (2, .int mo), (1, .int le), (0, .ref m)]) d_Mm_leastCost_202 (by decide) rfl ?_
              refine r_iload d_Mm_leastCost_204 0 rfl ?_
              refine r_if_eq (tgt := 234) d_Mm_leastCost_206 (by decide) (fun c_206 => ?_) (fun c_206 => ?_)
              · refine r_iinc (lv' := [(12, .int (nI (i + 1))), (14, .int 0), (13, .int (prS pp ps pa (100 - 10 * kd) i)), (11, .int (nI (100 - 10 * kd))), (10, .int ((rcR le mo si pp ps pa (100 - 10 * kd) (rcO le mo si pp ps pa (-1, -1, 0, 0) kd) i).2.2.1)), (9, .int ((rcR le mo si pp ps pa (100 - 10 * kd) (rcO le mo si pp ps pa (-1, -1, 0, 0) kd) i).2.1)), (8, .int ((rcR le mo si pp ps pa (100 - 10 * kd) (rcO le mo si pp ps pa (-1, -1, 0, 0) kd) i).1)), (6, .int pa), (5, .int ps), (4, .int pp), (3, .int si), (2, .int mo), (1, .int le), (0, .ref m)]) (v := nI (i + 1)) d_Mm_leastCost_234 (j := 2) rfl (nI_add _ _) (by decide) rfl ?_
                refine r_goto (tgt := 127) d_Mm_leastCost_237 (by decide) ?_
                refine r_lv (lv' := [(12, .int (nI (i + 1))), (11, .int (nI (100 - 10 * kd))), (10, .int ((rcR le mo si pp ps pa (100 - 10 * kd) (rcO le mo si pp ps pa (-1, -1, 0, 0) kd) i).2.2.1)), (9, .int ((rcR le mo si pp ps pa (100 - 10 * kd) (rcO le mo si pp ps pa (-1, -1, 0, 0) kd) i).2.1)), (8, .int ((rcR le mo si pp ps pa (100 - 10 * kd) (rcO le mo si pp ps pa (-1, -1, 0, 0) kd) i).1)), (6, .int pa), (5, .int ps), (4, .int pp), (3, .int si), (2, .int mo), (1, .int le), (0, .ref m)]) [0, 3, 4, 5, 6, 7, 8, 9, 10, 11, 12, 13] rfl ?_
                refine r_lvE (lv2 := [(12, .int (nI (i + 1))), (11, .int (nI (100 - 10 * kd))), (10, .int ((rcR le mo si pp ps pa (100 - 10 * kd) (rcO le mo si pp ps pa (-1, -1, 0, 0) kd) (i + 1)).2.2.1)), (9, .int ((rcR le mo si pp ps pa (100 - 10 * kd) (rcO le mo si pp ps pa (-1, -1, 0, 0) kd) (i + 1)).2.1)), (8, .int ((rcR le mo si pp ps pa (100 - 10 * kd) (rcO le mo si pp ps pa (-1, -1, 0, 0) kd) (i + 1)).1)), (6, .int pa), (5, .int ps), (4, .int pp), (3, .int si), (2, .int mo), (1, .int le), (0, .ref m)]) (by first | (rw [rcR, rcI_f (fun h => h.1.2.2 c_194)] <;> rfl) | (rw [rcR, rcI_f (fun h => hc ⟨h.1.1, h.1.2.1⟩)] <;> rfl) | (rw [rcR, rcI_f (fun h => h.2.elim (rOk_b hok c_212) (fun q => q c_219))] <;> rfl) | (rw [rcR, rcI_f (fun h => h.2.elim (rOk_b hok c_212) (fun q => q (Int32.not_lt.mp c_219)))] <;> rfl) | (rw [rcR, rcI_t ⟨⟨hc.1, hc.2, c_194⟩, Or.inr (Int32.not_le.mpr c_219)⟩] <;> rfl) | (rw [rcR, rcI_t ⟨⟨hc.1, hc.2, c_194⟩, Or.inr c_219⟩] <;> rfl) | (rw [rcR, rcI_t ⟨⟨hc.1, hc.2, c_194⟩, Or.inl (rOk_m1 c_212)⟩] <;> rfl)) ?_
                refine r_cs (cs2 := [(m, .inr (12, [.int 0, .ref mp, .int pt, .ref mf, .ref mh, .ref mn, .ref mt, .ref mz, .ref mc_, .ref mq, .ref mgr, .int cl, .int wa, .int co_, .int fi, .int bu, .int ho, .ref ml, .ref mi, .ref mr, .int lh, .int mg, .int wd, .int fpi, .int fal, .ref mm, .ref mu, .ref mk, .ref mx, .long po, .long de]))]) (rfl) ?_
                exact ih (i + 1) (by omega) (by omega)
              · exact absurd c_206 (by decide)
            · have hc : ¬ ctS 0 (nI (100 - 10 * kd)) (nI (100 - (100 - 10 * kd) - i)) (nI i) < le ∧ ¬ mo < ctS 0 (nI (100 - 10 * kd)) (nI (100 - (100 - 10 * kd) - i)) (nI i) := ⟨Int32.not_lt.mpr (z_b1 c_182).1, Int32.not_lt.mpr (z_b1 c_182).2⟩
              refine r_iload d_Mm_leastCost_185 2 rfl ?_
              refine r_iload d_Mm_leastCost_187 1 rfl ?_
              refine r_iconst d_Mm_leastCost_189 (v := 1) (by decide) ?_
              refine r_callS (As := [.int (nI (100 - 10 * kd)), .int (nI i), .int 1]) (rest := []) (csC := []) (is := []) ln_Mm_272 w_st_Mm_has_0 ok_Mm_leastCost_Mm_has_0 d_Mm_leastCost_190 (C_Mm_hasP1 g (100 - 10 * kd) i (by omega)) rfl rfl (Nat.le_of_ble_eq_true rfl) rfl (by decide) (by omega) (by omega) (fun E cs1 hx => ?_) (fun v cs1 hx => ?_)
              · exact absurd hx.1 (by simp)
              · obtain ⟨e1, rfl⟩ := hx
                cases e1
                refine ⟨rfl, ?_⟩
                refine r_st (st2 := [.int (ctS 1 (nI (100 - 10 * kd)) (nI (100 - (100 - 10 * kd) - i)) (nI i))]) rfl ?_
                refine r_cs (cs2 := [(m, .inr (12, [.int 0, .ref mp, .int pt, .ref mf, .ref mh, .ref mn, .ref mt, .ref mz, .ref mc_, .ref mq, .ref mgr, .int cl, .int wa, .int co_, .int fi, .int bu, .int ho, .ref ml, .ref mi, .ref mr, .int lh, .int mg, .int wd, .int fpi, .int fal, .ref mm, .ref mu, .ref mk, .ref mx, .long po, .long de]))]) rfl ?_
                refine r_iload_n d_Mm_leastCost_193 rfl 9 rfl ?_
                refine r_icmp_lt (tgt := 201) d_Mm_leastCost_194 (by decide) (fun c_194 => ?_) (fun c_194 => ?_)
                · refine r_iconst d_Mm_leastCost_201 (v := 0) (by decide) ?_
                  refine r_istore (lv' := [(14, .int 0), (13, .int (prS pp ps pa (100 - 10 * kd) i)), (12, .int (nI i)), (11, .int (nI (100 - 10 * kd))), (10, .int ((rcR le mo si pp ps pa (100 - 10 * kd) (rcO le mo si pp ps pa (-1, -1, 0, 0) kd) i).2.2.1)), (9, .int ((rcR le mo si pp ps pa (100 - 10 * kd) (rcO le mo si pp ps pa (-1, -1, 0, 0) kd) i).2.1)), (8, .int ((rcR le mo si pp ps pa (100 - 10 * kd) (rcO le mo si pp ps pa (-1, -1, 0, 0) kd) i).1)), (6, .int pa), (5, .int ps), (4, .int pp), (3, .int si), (2, .int mo), (1, .int le), (0, .ref m)]) d_Mm_leastCost_202 (by decide) rfl ?_
                  refine r_iload d_Mm_leastCost_204 0 rfl ?_
                  refine r_if_eq (tgt := 234) d_Mm_leastCost_206 (by decide) (fun c_206 => ?_) (fun c_206 => ?_)
                  · refine r_iinc (lv' := [(12, .int (nI (i + 1))), (14, .int 0), (13, .int (prS pp ps pa (100 - 10 * kd) i)), (11, .int (nI (100 - 10 * kd))), (10, .int ((rcR le mo si pp ps pa (100 - 10 * kd) (rcO le mo si pp ps pa (-1, -1, 0, 0) kd) i).2.2.1)), (9, .int ((rcR le mo si pp ps pa (100 - 10 * kd) (rcO le mo si pp ps pa (-1, -1, 0, 0) kd) i).2.1)), (8, .int ((rcR le mo si pp ps pa (100 - 10 * kd) (rcO le mo si pp ps pa (-1, -1, 0, 0) kd) i).1)), (6, .int pa), (5, .int ps), (4, .int pp), (3, .int si), (2, .int mo), (1, .int le), (0, .ref m)]) (v := nI (i + 1)) d_Mm_leastCost_234 (j := 2) rfl (nI_add _ _) (by decide) rfl ?_
                    refine r_goto (tgt := 127) d_Mm_leastCost_237 (by decide) ?_
                    refine r_lv (lv' := [(12, .int (nI (i + 1))), (11, .int (nI (100 - 10 * kd))), (10, .int ((rcR le mo si pp ps pa (100 - 10 * kd) (rcO le mo si pp ps pa (-1, -1, 0, 0) kd) i).2.2.1)), (9, .int ((rcR le mo si pp ps pa (100 - 10 * kd) (rcO le mo si pp ps pa (-1, -1, 0, 0) kd) i).2.1)), (8, .int ((rcR le mo si pp ps pa (100 - 10 * kd) (rcO le mo si pp ps pa (-1, -1, 0, 0) kd) i).1)), (6, .int pa), (5, .int ps), (4, .int pp), (3, .int si), (2, .int mo), (1, .int le), (0, .ref m)]) [0, 3, 4, 5, 6, 7, 8, 9, 10, 11, 12, 13] rfl ?_
                    refine r_lvE (lv2 := [(12, .int (nI (i + 1))), (11, .int (nI (100 - 10 * kd))), (10, .int ((rcR le mo si pp ps pa (100 - 10 * kd) (rcO le mo si pp ps pa (-1, -1, 0, 0) kd) (i + 1)).2.2.1)), (9, .int ((rcR le mo si pp ps pa (100 - 10 * kd) (rcO le mo si pp ps pa (-1, -1, 0, 0) kd) (i + 1)).2.1)), (8, .int ((rcR le mo si pp ps pa (100 - 10 * kd) (rcO le mo si pp ps pa (-1, -1, 0, 0) kd) (i + 1)).1)), (6, .int pa), (5, .int ps), (4, .int pp), (3, .int si), (2, .int mo), (1, .int le), (0, .ref m)]) (by first | (rw [rcR, rcI_f (fun h => h.1.2.2 c_194)] <;> rfl) | (rw [rcR, rcI_f (fun h => hc ⟨h.1.1, h.1.2.1⟩)] <;> rfl) | (rw [rcR, rcI_f (fun h => h.2.elim (rOk_b hok c_212) (fun q => q c_219))] <;> rfl) | (rw [rcR, rcI_f (fun h => h.2.elim (rOk_b hok c_212) (fun q => q (Int32.not_lt.mp c_219)))] <;> rfl) | (rw [rcR, rcI_t ⟨⟨hc.1, hc.2, c_194⟩, Or.inr (Int32.not_le.mpr c_219)⟩] <;> rfl) | (rw [rcR, rcI_t ⟨⟨hc.1, hc.2, c_194⟩, Or.inr c_219⟩] <;> rfl) | (rw [rcR, rcI_t ⟨⟨hc.1, hc.2, c_194⟩, Or.inl (rOk_m1 c_212)⟩] <;> rfl)) ?_
                    refine r_cs (cs2 := [(m, .inr (12, [.int 0, .ref mp, .int pt, .ref mf, .ref mh, .ref mn, .ref mt, .ref mz, .ref mc_, .ref mq, .ref mgr, .int cl, .int wa, .int co_, .int fi, .int bu, .int ho, .ref ml, .ref mi, .ref mr, .int lh, .int mg, .int wd, .int fpi, .int fal, .ref mm, .ref mu, .ref mk, .ref mx, .long po, .long de]))]) (rfl) ?_
                    exact ih (i + 1) (by omega) (by omega)
                  · exact absurd c_206 (by decide)
                · refine r_iconst d_Mm_leastCost_197 (v := 1) (by decide) ?_
                  refine r_goto (tgt := 202) d_Mm_leastCost_198 (by decide) ?_
                  refine r_istore (lv' := [(14, .int 1), (13, .int (prS pp ps pa (100 - 10 * kd) i)), (12, .int (nI i)), (11, .int (nI (100 - 10 * kd))), (10, .int ((rcR le mo si pp ps pa (100 - 10 * kd) (rcO le mo si pp ps pa (-1, -1, 0, 0) kd) i).2.2.1)), (9, .int ((rcR le mo si pp ps pa (100 - 10 * kd) (rcO le mo si pp ps pa (-1, -1, 0, 0) kd) i).2.1)), (8, .int ((rcR le mo si pp ps pa (100 - 10 * kd) (rcO le mo si pp ps pa (-1, -1, 0, 0) kd) i).1)), (6, .int pa), (5, .int ps), (4, .int pp), (3, .int si), (2, .int mo), (1, .int le), (0, .ref m)]) d_Mm_leastCost_202 (by decide) rfl ?_
                  refine r_iload d_Mm_leastCost_204 0 rfl ?_
                  refine r_if_eq (tgt := 234) d_Mm_leastCost_206 (by decide) (fun c_206 => ?_) (fun c_206 => ?_)
                  · exact absurd c_206 (by decide)
                  · refine r_iload d_Mm_leastCost_209 6 rfl ?_
                    refine r_iconst d_Mm_leastCost_211 (v := (-1)) (by decide) ?_
                    refine r_icmp_eq (tgt := 222) d_Mm_leastCost_212 (by decide) (fun c_212 => ?_) (fun c_212 => ?_)
                    · refine r_iload d_Mm_leastCost_222 1 rfl ?_
                      refine r_istore (lv' := [(8, .int (prS pp ps pa (100 - 10 * kd) i)), (14, .int 1), (13, .int (prS pp ps pa (100 - 10 * kd) i)), (12, .int (nI i)), (11, .int (nI (100 - 10 * kd))), (10, .int ((rcR le mo si pp ps pa (100 - 10 * kd) (rcO le mo si pp ps pa (-1, -1, 0, 0) kd) i).2.2.1)), (9, .int ((rcR le mo si pp ps pa (100 - 10 * kd) (rcO le mo si pp ps pa (-1, -1, 0, 0) kd) i).2.1)), (6, .int pa), (5, .int ps), (4, .int pp), (3, .int si), (2, .int mo), (1, .int le), (0, .ref m)]) d_Mm_leastCost_224 (by decide) rfl ?_
                      refine r_iload d_Mm_leastCost_226 4 rfl ?_
                      refine r_istore (lv' := [(9, .int (nI (100 - 10 * kd))), (8, .int (prS pp ps pa (100 - 10 * kd) i)), (14, .int 1), (13, .int (prS pp ps pa (100 - 10 * kd) i)), (12, .int (nI i)), (11, .int (nI (100 - 10 * kd))), (10, .int ((rcR le mo si pp ps pa (100 - 10 * kd) (rcO le mo si pp ps pa (-1, -1, 0, 0) kd) i).2.2.1)), (6, .int pa), (5, .int ps), (4, .int pp), (3, .int si), (2, .int mo), (1, .int le), (0, .ref m)]) d_Mm_leastCost_228 (by decide) rfl ?_
                      refine r_iload d_Mm_leastCost_230 4 rfl ?_
                      refine r_istore (lv' := [(10, .int (nI i)), (9, .int (nI (100 - 10 * kd))), (8, .int (prS pp ps pa (100 - 10 * kd) i)), (14, .int 1), (13, .int (prS pp ps pa (100 - 10 * kd) i)), (12, .int (nI i)), (11, .int (nI (100 - 10 * kd))), (6, .int pa), (5, .int ps), (4, .int pp), (3, .int si), (2, .int mo), (1, .int le), (0, .ref m)]) d_Mm_leastCost_232 (by decide) rfl ?_
                      refine r_iinc (lv' := [(12, .int (nI (i + 1))), (10, .int (nI i)), (9, .int (nI (100 - 10 * kd))), (8, .int (prS pp ps pa (100 - 10 * kd) i)), (14, .int 1), (13, .int (prS pp ps pa (100 - 10 * kd) i)), (11, .int (nI (100 - 10 * kd))), (6, .int pa), (5, .int ps), (4, .int pp), (3, .int si), (2, .int mo), (1, .int le), (0, .ref m)]) (v := nI (i + 1)) d_Mm_leastCost_234 (j := 5) rfl (nI_add _ _) (by decide) rfl ?_
                      refine r_goto (tgt := 127) d_Mm_leastCost_237 (by decide) ?_
                      refine r_lv (lv' := [(12, .int (nI (i + 1))), (11, .int (nI (100 - 10 * kd))), (10, .int (nI i)), (9, .int (nI (100 - 10 * kd))), (8, .int (prS pp ps pa (100 - 10 * kd) i)), (6, .int pa), (5, .int ps), (4, .int pp), (3, .int si), (2, .int mo), (1, .int le), (0, .ref m)]) [0, 6, 1, 2, 3, 7, 8, 9, 10, 11, 12, 13] rfl ?_
                      refine r_lvE (lv2 := [(12, .int (nI (i + 1))), (11, .int (nI (100 - 10 * kd))), (10, .int ((rcR le mo si pp ps pa (100 - 10 * kd) (rcO le mo si pp ps pa (-1, -1, 0, 0) kd) (i + 1)).2.2.1)), (9, .int ((rcR le mo si pp ps pa (100 - 10 * kd) (rcO le mo si pp ps pa (-1, -1, 0, 0) kd) (i + 1)).2.1)), (8, .int ((rcR le mo si pp ps pa (100 - 10 * kd) (rcO le mo si pp ps pa (-1, -1, 0, 0) kd) (i + 1)).1)), (6, .int pa), (5, .int ps), (4, .int pp), (3, .int si), (2, .int mo), (1, .int le), (0, .ref m)]) (by first | (rw [rcR, rcI_f (fun h => h.1.2.2 c_194)] <;> rfl) | (rw [rcR, rcI_f (fun h => hc ⟨h.1.1, h.1.2.1⟩)] <;> rfl) | (rw [rcR, rcI_f (fun h => h.2.elim (rOk_b hok c_212) (fun q => q c_219))] <;> rfl) | (rw [rcR, rcI_f (fun h => h.2.elim (rOk_b hok c_212) (fun q => q (Int32.not_lt.mp c_219)))] <;> rfl) | (rw [rcR, rcI_t ⟨⟨hc.1, hc.2, c_194⟩, Or.inr (Int32.not_le.mpr c_219)⟩] <;> rfl) | (rw [rcR, rcI_t ⟨⟨hc.1, hc.2, c_194⟩, Or.inr c_219⟩] <;> rfl) | (rw [rcR, rcI_t ⟨⟨hc.1, hc.2, c_194⟩, Or.inl (rOk_m1 c_212)⟩] <;> rfl)) ?_
                      refine r_cs (cs2 := [(m, .inr (12, [.int 0, .ref mp, .int pt, .ref mf, .ref mh, .ref mn, .ref mt, .ref mz, .ref mc_, .ref mq, .ref mgr, .int cl, .int wa, .int co_, .int fi, .int bu, .int ho, .ref ml, .ref mi, .ref mr, .int lh, .int mg, .int wd, .int fpi, .int fal, .ref mm, .ref mu, .ref mk, .ref mx, .long po, .long de]))]) (rfl) ?_
                      exact ih (i + 1) (by omega) (by omega)
                    · refine r_iload d_Mm_leastCost_215 1 rfl ?_
                      refine r_iload d_Mm_leastCost_217 6 rfl ?_
                      refine r_icmp_ge (tgt := 234) d_Mm_leastCost_219 (by decide) (fun c_219 => ?_) (fun c_219 => ?_)
                      · refine r_iinc (lv' := [(12, .int (nI (i + 1))), (14, .int 1), (13, .int (prS pp ps pa (100 - 10 * kd) i)), (11, .int (nI (100 - 10 * kd))), (10, .int ((rcR le mo si pp ps pa (100 - 10 * kd) (rcO le mo si pp ps pa (-1, -1, 0, 0) kd) i).2.2.1)), (9, .int ((rcR le mo si pp ps pa (100 - 10 * kd) (rcO le mo si pp ps pa (-1, -1, 0, 0) kd) i).2.1)), (8, .int ((rcR le mo si pp ps pa (100 - 10 * kd) (rcO le mo si pp ps pa (-1, -1, 0, 0) kd) i).1)), (6, .int pa), (5, .int ps), (4, .int pp), (3, .int si), (2, .int mo), (1, .int le), (0, .ref m)]) (v := nI (i + 1)) d_Mm_leastCost_234 (j := 2) rfl (nI_add _ _) (by decide) rfl ?_
                        refine r_goto (tgt := 127) d_Mm_leastCost_237 (by decide) ?_
                        refine r_lv (lv' := [(12, .int (nI (i + 1))), (11, .int (nI (100 - 10 * kd))), (10, .int ((rcR le mo si pp ps pa (100 - 10 * kd) (rcO le mo si pp ps pa (-1, -1, 0, 0) kd) i).2.2.1)), (9, .int ((rcR le mo si pp ps pa (100 - 10 * kd) (rcO le mo si pp ps pa (-1, -1, 0, 0) kd) i).2.1)), (8, .int ((rcR le mo si pp ps pa (100 - 10 * kd) (rcO le mo si pp ps pa (-1, -1, 0, 0) kd) i).1)), (6, .int pa), (5, .int ps), (4, .int pp), (3, .int si), (2, .int mo), (1, .int le), (0, .ref m)]) [0, 3, 4, 5, 6, 7, 8, 9, 10, 11, 12, 13] rfl ?_
                        refine r_lvE (lv2 := [(12, .int (nI (i + 1))), (11, .int (nI (100 - 10 * kd))), (10, .int ((rcR le mo si pp ps pa (100 - 10 * kd) (rcO le mo si pp ps pa (-1, -1, 0, 0) kd) (i + 1)).2.2.1)), (9, .int ((rcR le mo si pp ps pa (100 - 10 * kd) (rcO le mo si pp ps pa (-1, -1, 0, 0) kd) (i + 1)).2.1)), (8, .int ((rcR le mo si pp ps pa (100 - 10 * kd) (rcO le mo si pp ps pa (-1, -1, 0, 0) kd) (i + 1)).1)), (6, .int pa), (5, .int ps), (4, .int pp), (3, .int si), (2, .int mo), (1, .int le), (0, .ref m)]) (by first | (rw [rcR, rcI_f (fun h => h.1.2.2 c_194)] <;> rfl) | (rw [rcR, rcI_f (fun h => hc ⟨h.1.1, h.1.2.1⟩)] <;> rfl) | (rw [rcR, rcI_f (fun h => h.2.elim (rOk_b hok c_212) (fun q => q c_219))] <;> rfl) | (rw [rcR, rcI_f (fun h => h.2.elim (rOk_b hok c_212) (fun q => q (Int32.not_lt.mp c_219)))] <;> rfl) | (rw [rcR, rcI_t ⟨⟨hc.1, hc.2, c_194⟩, Or.inr (Int32.not_le.mpr c_219)⟩] <;> rfl) | (rw [rcR, rcI_t ⟨⟨hc.1, hc.2, c_194⟩, Or.inr c_219⟩] <;> rfl) | (rw [rcR, rcI_t ⟨⟨hc.1, hc.2, c_194⟩, Or.inl (rOk_m1 c_212)⟩] <;> rfl)) ?_
                        refine r_cs (cs2 := [(m, .inr (12, [.int 0, .ref mp, .int pt, .ref mf, .ref mh, .ref mn, .ref mt, .ref mz, .ref mc_, .ref mq, .ref mgr, .int cl, .int wa, .int co_, .int fi, .int bu, .int ho, .ref ml, .ref mi, .ref mr, .int lh, .int mg, .int wd, .int fpi, .int fal, .ref mm, .ref mu, .ref mk, .ref mx, .long po, .long de]))]) (rfl) ?_
                        exact ih (i + 1) (by omega) (by omega)
                      · refine r_iload d_Mm_leastCost_222 1 rfl ?_
                        refine r_istore (lv' := [(8, .int (prS pp ps pa (100 - 10 * kd) i)), (14, .int 1), (13, .int (prS pp ps pa (100 - 10 * kd) i)), (12, .int (nI i)), (11, .int (nI (100 - 10 * kd))), (10, .int ((rcR le mo si pp ps pa (100 - 10 * kd) (rcO le mo si pp ps pa (-1, -1, 0, 0) kd) i).2.2.1)), (9, .int ((rcR le mo si pp ps pa (100 - 10 * kd) (rcO le mo si pp ps pa (-1, -1, 0, 0) kd) i).2.1)), (6, .int pa), (5, .int ps), (4, .int pp), (3, .int si), (2, .int mo), (1, .int le), (0, .ref m)]) d_Mm_leastCost_224 (by decide) rfl ?_
                        refine r_iload d_Mm_leastCost_226 4 rfl ?_
                        refine r_istore (lv' := [(9, .int (nI (100 - 10 * kd))), (8, .int (prS pp ps pa (100 - 10 * kd) i)), (14, .int 1), (13, .int (prS pp ps pa (100 - 10 * kd) i)), (12, .int (nI i)), (11, .int (nI (100 - 10 * kd))), (10, .int ((rcR le mo si pp ps pa (100 - 10 * kd) (rcO le mo si pp ps pa (-1, -1, 0, 0) kd) i).2.2.1)), (6, .int pa), (5, .int ps), (4, .int pp), (3, .int si), (2, .int mo), (1, .int le), (0, .ref m)]) d_Mm_leastCost_228 (by decide) rfl ?_
                        refine r_iload d_Mm_leastCost_230 4 rfl ?_
                        refine r_istore (lv' := [(10, .int (nI i)), (9, .int (nI (100 - 10 * kd))), (8, .int (prS pp ps pa (100 - 10 * kd) i)), (14, .int 1), (13, .int (prS pp ps pa (100 - 10 * kd) i)), (12, .int (nI i)), (11, .int (nI (100 - 10 * kd))), (6, .int pa), (5, .int ps), (4, .int pp), (3, .int si), (2, .int mo), (1, .int le), (0, .ref m)]) d_Mm_leastCost_232 (by decide) rfl ?_
                        refine r_iinc (lv' := [(12, .int (nI (i + 1))), (10, .int (nI i)), (9, .int (nI (100 - 10 * kd))), (8, .int (prS pp ps pa (100 - 10 * kd) i)), (14, .int 1), (13, .int (prS pp ps pa (100 - 10 * kd) i)), (11, .int (nI (100 - 10 * kd))), (6, .int pa), (5, .int ps), (4, .int pp), (3, .int si), (2, .int mo), (1, .int le), (0, .ref m)]) (v := nI (i + 1)) d_Mm_leastCost_234 (j := 5) rfl (nI_add _ _) (by decide) rfl ?_
                        refine r_goto (tgt := 127) d_Mm_leastCost_237 (by decide) ?_
                        refine r_lv (lv' := [(12, .int (nI (i + 1))), (11, .int (nI (100 - 10 * kd))), (10, .int (nI i)), (9, .int (nI (100 - 10 * kd))), (8, .int (prS pp ps pa (100 - 10 * kd) i)), (6, .int pa), (5, .int ps), (4, .int pp), (3, .int si), (2, .int mo), (1, .int le), (0, .ref m)]) [0, 6, 1, 2, 3, 7, 8, 9, 10, 11, 12, 13] rfl ?_
                        refine r_lvE (lv2 := [(12, .int (nI (i + 1))), (11, .int (nI (100 - 10 * kd))), (10, .int ((rcR le mo si pp ps pa (100 - 10 * kd) (rcO le mo si pp ps pa (-1, -1, 0, 0) kd) (i + 1)).2.2.1)), (9, .int ((rcR le mo si pp ps pa (100 - 10 * kd) (rcO le mo si pp ps pa (-1, -1, 0, 0) kd) (i + 1)).2.1)), (8, .int ((rcR le mo si pp ps pa (100 - 10 * kd) (rcO le mo si pp ps pa (-1, -1, 0, 0) kd) (i + 1)).1)), (6, .int pa), (5, .int ps), (4, .int pp), (3, .int si), (2, .int mo), (1, .int le), (0, .ref m)]) (by first | (rw [rcR, rcI_f (fun h => h.1.2.2 c_194)] <;> rfl) | (rw [rcR, rcI_f (fun h => hc ⟨h.1.1, h.1.2.1⟩)] <;> rfl) | (rw [rcR, rcI_f (fun h => h.2.elim (rOk_b hok c_212) (fun q => q c_219))] <;> rfl) | (rw [rcR, rcI_f (fun h => h.2.elim (rOk_b hok c_212) (fun q => q (Int32.not_lt.mp c_219)))] <;> rfl) | (rw [rcR, rcI_t ⟨⟨hc.1, hc.2, c_194⟩, Or.inr (Int32.not_le.mpr c_219)⟩] <;> rfl) | (rw [rcR, rcI_t ⟨⟨hc.1, hc.2, c_194⟩, Or.inr c_219⟩] <;> rfl) | (rw [rcR, rcI_t ⟨⟨hc.1, hc.2, c_194⟩, Or.inl (rOk_m1 c_212)⟩] <;> rfl)) ?_
                        refine r_cs (cs2 := [(m, .inr (12, [.int 0, .ref mp, .int pt, .ref mf, .ref mh, .ref mn, .ref mt, .ref mz, .ref mc_, .ref mq, .ref mgr, .int cl, .int wa, .int co_, .int fi, .int bu, .int ho, .ref ml, .ref mi, .ref mr, .int lh, .int mg, .int wd, .int fpi, .int fal, .ref mm, .ref mu, .ref mk, .ref mx, .long po, .long de]))]) (rfl) ?_
                        exact ih (i + 1) (by omega) (by omega)
set_option maxHeartbeats 4000000 in
set_option maxRecDepth 100000 in
theorem L_Mm_leastCostF_119 (g : zG) (m mp mf mh mn mt mz mc_ mq mgr ml mi mr mm mu mk mx : Nat) (th pt cl wa co_ fi bu ho lh mg wd fpi fal : Int32) (po de : Int64) (le mo si pp ps pa : Int32) (hw : ((0 ≤ le ∧ le ≤ 450) ∧ (le ≤ mo ∧ mo ≤ 450) ∧ (0 ≤ si ∧ si ≤ 450) ∧ (1 ≤ pp ∧ pp ≤ 1000) ∧ (1 ≤ ps ∧ ps ≤ 1000) ∧ (1 ≤ pa ∧ pa ≤ 1000))) (hpr : ∀ P A, P + A ≤ 100 → 0 ≤ prS pp ps pa P A) (hs9 : (rcO le mo si pp ps pa (-1, -1, 0, 0) 11).1 < 0) (w0 : zW) (n : Nat) : ∀ (d kd : Nat), kd ≤ 11 → 11 < kd + d → DV g M_Mm_leastCost (fun o cs1 => o = .inl (some (.int 0)) ∧ cs1 = [(m, .inr (12, [.int 2, .ref mp, .int pt, .ref mf, .ref mh, .ref mn, .ref mt, .ref mz, .ref mc_, .ref mq, .ref mgr, .int cl, .int wa, .int co_, .int fi, .int bu, .int ho, .ref ml, .ref mi, .ref mr, .int lh, .int mg, .int wd, .int fpi, .int fal, .ref mm, .ref mu, .ref mk, .ref mx, .long po, .long de]))]) w0 n 119 [(11, .int (pgI kd)), (10, .int ((rcO le mo si pp ps pa (-1, -1, 0, 0) kd).2.2.1)), (9, .int ((rcO le mo si pp ps pa (-1, -1, 0, 0) kd).2.1)), (8, .int ((rcO le mo si pp ps pa (-1, -1, 0, 0) kd).1)), (6, .int pa), (5, .int ps), (4, .int pp), (3, .int si), (2, .int mo), (1, .int le), (0, .ref m)] [] [(m, .inr (12, [.int 0, .ref mp, .int pt, .ref mf, .ref mh, .ref mn, .ref mt, .ref mz, .ref mc_, .ref mq, .ref mgr, .int cl, .int wa, .int co_, .int fi, .int bu, .int ho, .ref ml, .ref mi, .ref mr, .int lh, .int mg, .int wd, .int fpi, .int fal, .ref mm, .ref mu, .ref mk, .ref mx, .long po, .long de]))] 0 0 := by
  intro d
  induction d with
  | zero => intro kd h1 h2 ; exact absurd h2 (by omega)
  | succ d ih =>
    intro kd h1 h2 
    refine r_iload d_Mm_leastCost_119 0 rfl ?_
    refine r_if_lt (tgt := 246) d_Mm_leastCost_121 (by decide) (fun c_121 => ?_) (fun c_121 => ?_)
    · have hk : kd = 11 := (pgI_neg kd (by omega)).mp c_121
      obtain rfl : kd = 11 := hk
      have hok11 := rcO_ok (le := le) (mo := mo) (si := si) hpr (s := (-1, -1, 0, 0)) (Or.inl rfl) 11 (Nat.le_refl _)
      refine r_aload_n d_Mm_leastCost_246 rfl 10 rfl ?_
      refine r_iload d_Mm_leastCost_247 3 rfl ?_
      refine r_iconst d_Mm_leastCost_249 (v := (-1)) (by decide) ?_
      refine r_icmp_ne (tgt := 257) d_Mm_leastCost_250 (by decide) (fun c_250 => ?_) (fun c_250 => ?_)
      · exact absurd (rOk_lt hok11 hs9) c_250
      · refine r_iconst d_Mm_leastCost_253 (v := 1) (by decide) ?_
        refine r_goto (tgt := 258) d_Mm_leastCost_254 (by decide) ?_
        refine r_iconst d_Mm_leastCost_258 (v := 2) (by decide) ?_
        refine r_callV (As := [.int 1, .int 2]) (rest := []) (csC := [(m, .inr (12, [.int 0, .ref mp, .int pt, .ref mf, .ref mh, .ref mn, .ref mt, .ref mz, .ref mc_, .ref mq, .ref mgr, .int cl, .int wa, .int co_, .int fi, .int bu, .int ho, .ref ml, .ref mi, .ref mr, .int lh, .int mg, .int wd, .int fpi, .int fal, .ref mm, .ref mu, .ref mk, .ref mx, .long po, .long de]))]) (is := [0]) (q0 := 0) rfl rfl ln_Mm_103 w_im_Mm_fails w_se_Mm_fails ok_Mm_leastCost_Mm_fails d_Mm_leastCost_259 (C_Mm_fails2 g m mp mf mh mn mt mz mc_ mq mgr ml mi mr mm mu mk mx th pt cl wa co_ fi bu ho lh mg wd fpi fal po de) rfl rfl (Nat.le_of_ble_eq_true rfl) rfl (by decide) (by omega) (by omega) (fun E cs1 hx => ?_) (fun v cs1 hx => ?_)
        · exact absurd hx.1 (by simp)
        · obtain ⟨e1, rfl⟩ := hx
          cases e1
          refine ⟨rfl, ?_⟩
          refine r_st (st2 := [.int 1]) rfl ?_
          refine r_cs (cs2 := [(m, .inr (12, [.int 2, .ref mp, .int pt, .ref mf, .ref mh, .ref mn, .ref mt, .ref mz, .ref mc_, .ref mq, .ref mgr, .int cl, .int wa, .int co_, .int fi, .int bu, .int ho, .ref ml, .ref mi, .ref mr, .int lh, .int mg, .int wd, .int fpi, .int fal, .ref mm, .ref mu, .ref mk, .ref mx, .long po, .long de]))]) rfl ?_
          refine r_if_eq (tgt := 267) d_Mm_leastCost_262 (by decide) (fun c_262 => ?_) (fun c_262 => ?_)
          · exact absurd c_262 (by decide)
          · refine r_iconst d_Mm_leastCost_265 (v := 0) (by decide) ?_
            refine r_iret d_Mm_leastCost_266 rfl rfl ?_
            exact ⟨rfl, rfl⟩
    · have hne : ¬ kd = 11 := fun q => c_121 ((pgI_neg kd (by omega)).mpr q)
      have hk : kd < 11 := by omega
      rw [pgI_n hk]
      refine r_iconst d_Mm_leastCost_124 (v := 0) (by decide) ?_
      refine r_istore (lv' := [(12, .int 0), (11, .int (nI (100 - 10 * kd))), (10, .int ((rcO le mo si pp ps pa (-1, -1, 0, 0) kd).2.2.1)), (9, .int ((rcO le mo si pp ps pa (-1, -1, 0, 0) kd).2.1)), (8, .int ((rcO le mo si pp ps pa (-1, -1, 0, 0) kd).1)), (6, .int pa), (5, .int ps), (4, .int pp), (3, .int si), (2, .int mo), (1, .int le), (0, .ref m)]) d_Mm_leastCost_125 (by decide) rfl ?_
      refine r_lvE (lv2 := [(12, .int (nI 0)), (11, .int (nI (100 - 10 * kd))), (10, .int ((rcR le mo si pp ps pa (100 - 10 * kd) (rcO le mo si pp ps pa (-1, -1, 0, 0) kd) 0).2.2.1)), (9, .int ((rcR le mo si pp ps pa (100 - 10 * kd) (rcO le mo si pp ps pa (-1, -1, 0, 0) kd) 0).2.1)), (8, .int ((rcR le mo si pp ps pa (100 - 10 * kd) (rcO le mo si pp ps pa (-1, -1, 0, 0) kd) 0).1)), (6, .int pa), (5, .int ps), (4, .int pp), (3, .int si), (2, .int mo), (1, .int le), (0, .ref m)]) (rfl) ?_
      refine r_cs (cs2 := [(m, .inr (12, [.int 0, .ref mp, .int pt, .ref mf, .ref mh, .ref mn, .ref mt, .ref mz, .ref mc_, .ref mq, .ref mgr, .int cl, .int wa, .int co_, .int fi, .int bu, .int ho, .ref ml, .ref mi, .ref mr, .int lh, .int mg, .int wd, .int fpi, .int fal, .ref mm, .ref mu, .ref mk, .ref mx, .long po, .long de]))]) (rfl) ?_
      refine L_Mm_leastCostF_127 g m mp mf mh mn mt mz mc_ mq mgr ml mi mr mm mu mk mx th pt cl wa co_ fi bu ho lh mg wd fpi fal po de le mo si pp ps pa hw hpr hs9 w0 _ kd hk (?_) (nA (100 - 10 * kd) + 1) 0 (Nat.zero_le _) (by omega)
      refine r_iinc (lv' := [(11, .int (pgI (kd + 1))), (12, .int (nI (nA (100 - 10 * kd)))), (10, .int ((rcR le mo si pp ps pa (100 - 10 * kd) (rcO le mo si pp ps pa (-1, -1, 0, 0) kd) (nA (100 - 10 * kd))).2.2.1)), (9, .int ((rcR le mo si pp ps pa (100 - 10 * kd) (rcO le mo si pp ps pa (-1, -1, 0, 0) kd) (nA (100 - 10 * kd))).2.1)), (8, .int ((rcR le mo si pp ps pa (100 - 10 * kd) (rcO le mo si pp ps pa (-1, -1, 0, 0) kd) (nA (100 - 10 * kd))).1)), (6, .int pa), (5, .int ps), (4, .int pp), (3, .int si), (2, .int mo), (1, .int le), (0, .ref m)]) (v := pgI (kd + 1)) d_Mm_leastCost_240 (j := 1) rfl (by rw [← pgI_n (by omega)]; exact pgI_s kd (by omega)) (by decide) rfl ?_
      refine r_goto (tgt := 119) d_Mm_leastCost_243 (by decide) ?_
      refine r_lv (lv' := [(11, .int (pgI (kd + 1))), (10, .int ((rcR le mo si pp ps pa (100 - 10 * kd) (rcO le mo si pp ps pa (-1, -1, 0, 0) kd) (nA (100 - 10 * kd))).2.2.1)), (9, .int ((rcR le mo si pp ps pa (100 - 10 * kd) (rcO le mo si pp ps pa (-1, -1, 0, 0) kd) (nA (100 - 10 * kd))).2.1)), (8, .int ((rcR le mo si pp ps pa (100 - 10 * kd) (rcO le mo si pp ps pa (-1, -1, 0, 0) kd) (nA (100 - 10 * kd))).1)), (6, .int pa), (5, .int ps), (4, .int pp), (3, .int si), (2, .int mo), (1, .int le), (0, .ref m)]) [0, 2, 3, 4, 5, 6, 7, 8, 9, 10, 11] rfl ?_
      refine r_lvE (lv2 := [(11, .int (pgI (kd + 1))), (10, .int ((rcO le mo si pp ps pa (-1, -1, 0, 0) (kd + 1)).2.2.1)), (9, .int ((rcO le mo si pp ps pa (-1, -1, 0, 0) (kd + 1)).2.1)), (8, .int ((rcO le mo si pp ps pa (-1, -1, 0, 0) (kd + 1)).1)), (6, .int pa), (5, .int ps), (4, .int pp), (3, .int si), (2, .int mo), (1, .int le), (0, .ref m)]) (rfl) ?_
      refine r_cs (cs2 := [(m, .inr (12, [.int 0, .ref mp, .int pt, .ref mf, .ref mh, .ref mn, .ref mt, .ref mz, .ref mc_, .ref mq, .ref mgr, .int cl, .int wa, .int co_, .int fi, .int bu, .int ho, .ref ml, .ref mi, .ref mr, .int lh, .int mg, .int wd, .int fpi, .int fal, .ref mm, .ref mu, .ref mk, .ref mx, .long po, .long de]))]) (rfl) ?_
      exact ih (kd + 1) (by omega) (by omega)
set_option maxHeartbeats 4000000 in
set_option maxRecDepth 100000 in
theorem C_Mm_leastCostF (g : zG) (m mp mf mh mn mt mz mc_ mq mgr ml mi mr mm mu mk mx : Nat) (th pt cl wa co_ fi bu ho lh mg wd fpi fal : Int32) (po de : Int64) (le mo si pp ps pa : Int32) (hw : ((0 ≤ le ∧ le ≤ 450) ∧ (le ≤ mo ∧ mo ≤ 450) ∧ (0 ≤ si ∧ si ≤ 450) ∧ (1 ≤ pp ∧ pp ≤ 1000) ∧ (1 ≤ ps ∧ ps ≤ 1000) ∧ (1 ≤ pa ∧ pa ≤ 1000))) (hpr : ∀ P A, P + A ≤ 100 → 0 ≤ prS pp ps pa P A) (hs9 : (rcO le mo si pp ps pa (-1, -1, 0, 0) 11).1 < 0) : CT g M_Mm_leastCost [.ref m, .int le, .int mo, .int si, .int pp, .int ps, .int pa] [(m, .inr (12, [.int th, .ref mp, .int pt, .ref mf, .ref mh, .ref mn, .ref mt, .ref mz, .ref mc_, .ref mq, .ref mgr, .int cl, .int wa, .int co_, .int fi, .int bu, .int ho, .ref ml, .ref mi, .ref mr, .int lh, .int mg, .int wd, .int fpi, .int fal, .ref mm, .ref mu, .ref mk, .ref mx, .long po, .long de]))] (fun o cs1 => o = .inl (some (.int 0)) ∧ cs1 = [(m, .inr (12, [.int 2, .ref mp, .int pt, .ref mf, .ref mh, .ref mn, .ref mt, .ref mz, .ref mc_, .ref mq, .ref mgr, .int cl, .int wa, .int co_, .int fi, .int bu, .int ho, .ref ml, .ref mi, .ref mr, .int lh, .int mg, .int wd, .int fpi, .int fal, .ref mm, .ref mu, .ref mk, .ref mx, .long po, .long de]))]) 0 0 := by
  refine z_of (by decide) rfl (Nat.le_of_ble_eq_true rfl) (fun w0 => ?_)
  refine r_lvE (lv2 := [(0, .ref m), (1, .int le), (2, .int mo), (3, .int si), (4, .int pp), (5, .int ps), (6, .int pa)]) rfl ?_
  refine r_aload_n d_Mm_leastCost_0 rfl 0 rfl ?_
  refine r_iconst d_Mm_leastCost_1 (v := 0) (by decide) ?_
  refine r_put fp_Mm_84 d_Mm_leastCost_2 (fun h => nomatch h) rfl rfl (q0 := 0) rfl (Nat.le_of_ble_eq_true rfl) (cs' := [(m, .inr (12, [.int 0, .ref mp, .int pt, .ref mf, .ref mh, .ref mn, .ref mt, .ref mz, .ref mc_, .ref mq, .ref mgr, .int cl, .int wa, .int co_, .int fi, .int bu, .int ho, .ref ml, .ref mi, .ref mr, .int lh, .int mg, .int wd, .int fpi, .int fal, .ref mm, .ref mu, .ref mk, .ref mx, .long po, .long de]))]) rfl ?_
  refine r_iload_n d_Mm_leastCost_5 rfl 1 rfl ?_
  refine r_iconst d_Mm_leastCost_6 (v := 0) (by decide) ?_
  refine r_sipush d_Mm_leastCost_7 (v := 450) (by decide) ?_
  refine r_callS (As := [.int le, .int 0, .int 450]) (rest := []) (csC := []) (is := []) ln_Mm_87 w_st_Mm_in ok_Mm_leastCost_Mm_in d_Mm_leastCost_10 (C_Mm_in g le 0 450) rfl rfl (Nat.le_of_ble_eq_true rfl) rfl (by decide) (by omega) (by omega) (fun E cs1 hx => ?_) (fun v cs1 hx => ?_)
  · exact absurd hx.1 (by simp)
  · obtain ⟨e1, rfl⟩ := hx
    rw [if_pos hw.1] at e1
    cases e1
    refine ⟨rfl, ?_⟩
    refine r_st (st2 := [.int 1]) rfl ?_
    refine r_cs (cs2 := [(m, .inr (12, [.int 0, .ref mp, .int pt, .ref mf, .ref mh, .ref mn, .ref mt, .ref mz, .ref mc_, .ref mq, .ref mgr, .int cl, .int wa, .int co_, .int fi, .int bu, .int ho, .ref ml, .ref mi, .ref mr, .int lh, .int mg, .int wd, .int fpi, .int fal, .ref mm, .ref mu, .ref mk, .ref mx, .long po, .long de]))]) rfl ?_
    refine r_if_eq (tgt := 47) d_Mm_leastCost_13 (by decide) (fun c_13 => ?_) (fun c_13 => ?_)
    · exact absurd c_13 (by decide)
    · refine r_iload_n d_Mm_leastCost_16 rfl 2 rfl ?_
      refine r_iconst d_Mm_leastCost_17 (v := 0) (by decide) ?_
      refine r_sipush d_Mm_leastCost_18 (v := 450) (by decide) ?_
      refine r_callS (As := [.int mo, .int 0, .int 450]) (rest := []) (csC := []) (is := []) ln_Mm_87 w_st_Mm_in ok_Mm_leastCost_Mm_in d_Mm_leastCost_21 (C_Mm_in g mo 0 450) rfl rfl (Nat.le_of_ble_eq_true rfl) rfl (by decide) (by omega) (by omega) (fun E cs1 hx => ?_) (fun v cs1 hx => ?_)
      · exact absurd hx.1 (by simp)
      · obtain ⟨e1, rfl⟩ := hx
        rw [if_pos ⟨Int32.le_trans hw.1.1 hw.2.1.1, hw.2.1.2⟩] at e1
        cases e1
        refine ⟨rfl, ?_⟩
        refine r_st (st2 := [.int 1]) rfl ?_
        refine r_cs (cs2 := [(m, .inr (12, [.int 0, .ref mp, .int pt, .ref mf, .ref mh, .ref mn, .ref mt, .ref mz, .ref mc_, .ref mq, .ref mgr, .int cl, .int wa, .int co_, .int fi, .int bu, .int ho, .ref ml, .ref mi, .ref mr, .int lh, .int mg, .int wd, .int fpi, .int fal, .ref mm, .ref mu, .ref mk, .ref mx, .long po, .long de]))]) rfl ?_
        refine r_if_eq (tgt := 47) d_Mm_leastCost_24 (by decide) (fun c_24 => ?_) (fun c_24 => ?_)
        · exact absurd c_24 (by decide)
        · refine r_iload_n d_Mm_leastCost_27 rfl 3 rfl ?_
          refine r_iconst d_Mm_leastCost_28 (v := 0) (by decide) ?_
          refine r_sipush d_Mm_leastCost_29 (v := 450) (by decide) ?_
          refine r_callS (As := [.int si, .int 0, .int 450]) (rest := []) (csC := []) (is := []) ln_Mm_87 w_st_Mm_in ok_Mm_leastCost_Mm_in d_Mm_leastCost_32 (C_Mm_in g si 0 450) rfl rfl (Nat.le_of_ble_eq_true rfl) rfl (by decide) (by omega) (by omega) (fun E cs1 hx => ?_) (fun v cs1 hx => ?_)
          · exact absurd hx.1 (by simp)
          · obtain ⟨e1, rfl⟩ := hx
            rw [if_pos hw.2.2.1] at e1
            cases e1
            refine ⟨rfl, ?_⟩
            refine r_st (st2 := [.int 1]) rfl ?_
            refine r_cs (cs2 := [(m, .inr (12, [.int 0, .ref mp, .int pt, .ref mf, .ref mh, .ref mn, .ref mt, .ref mz, .ref mc_, .ref mq, .ref mgr, .int cl, .int wa, .int co_, .int fi, .int bu, .int ho, .ref ml, .ref mi, .ref mr, .int lh, .int mg, .int wd, .int fpi, .int fal, .ref mm, .ref mu, .ref mk, .ref mx, .long po, .long de]))]) rfl ?_
            refine r_if_eq (tgt := 47) d_Mm_leastCost_35 (by decide) (fun c_35 => ?_) (fun c_35 => ?_)
            · exact absurd c_35 (by decide)
            · refine r_iload_n d_Mm_leastCost_38 rfl 2 rfl ?_
              refine r_iload_n d_Mm_leastCost_39 rfl 1 rfl ?_
              refine r_icmp_lt (tgt := 47) d_Mm_leastCost_40 (by decide) (fun c_40 => ?_) (fun c_40 => ?_)
              · exact absurd hw.2.1.1 (Int32.not_le.mpr c_40)
              · refine r_iconst d_Mm_leastCost_43 (v := 1) (by decide) ?_
                refine r_goto (tgt := 48) d_Mm_leastCost_44 (by decide) ?_
                refine r_istore (lv' := [(7, .int 1), (0, .ref m), (1, .int le), (2, .int mo), (3, .int si), (4, .int pp), (5, .int ps), (6, .int pa)]) d_Mm_leastCost_48 (by decide) rfl ?_
                refine r_aload_n d_Mm_leastCost_50 rfl 1 rfl ?_
                refine r_iload d_Mm_leastCost_51 0 rfl ?_
                refine r_if_eq (tgt := 92) d_Mm_leastCost_53 (by decide) (fun c_53 => ?_) (fun c_53 => ?_)
                · exact absurd c_53 (by decide)
                · refine r_iload d_Mm_leastCost_56 5 rfl ?_
                  refine r_iconst d_Mm_leastCost_58 (v := 1) (by decide) ?_
                  refine r_sipush d_Mm_leastCost_59 (v := 1000) (by decide) ?_
                  refine r_callS (As := [.int pp, .int 1, .int 1000]) (rest := [.ref m]) (csC := []) (is := []) ln_Mm_87 w_st_Mm_in ok_Mm_leastCost_Mm_in d_Mm_leastCost_62 (C_Mm_in g pp 1 1000) rfl rfl (Nat.le_of_ble_eq_true rfl) rfl (by decide) (by omega) (by omega) (fun E cs1 hx => ?_) (fun v cs1 hx => ?_)
                  · exact absurd hx.1 (by simp)
                  · obtain ⟨e1, rfl⟩ := hx
                    rw [if_pos hw.2.2.2.1] at e1
                    cases e1
                    refine ⟨rfl, ?_⟩
                    refine r_st (st2 := [.int 1, .ref m]) rfl ?_
                    refine r_cs (cs2 := [(m, .inr (12, [.int 0, .ref mp, .int pt, .ref mf, .ref mh, .ref mn, .ref mt, .ref mz, .ref mc_, .ref mq, .ref mgr, .int cl, .int wa, .int co_, .int fi, .int bu, .int ho, .ref ml, .ref mi, .ref mr, .int lh, .int mg, .int wd, .int fpi, .int fal, .ref mm, .ref mu, .ref mk, .ref mx, .long po, .long de]))]) rfl ?_
                    refine r_if_eq (tgt := 92) d_Mm_leastCost_65 (by decide) (fun c_65 => ?_) (fun c_65 => ?_)
                    · exact absurd c_65 (by decide)
                    · refine r_iload d_Mm_leastCost_68 6 rfl ?_
                      refine r_iconst d_Mm_leastCost_70 (v := 1) (by decide) ?_
                      refine r_sipush d_Mm_leastCost_71 (v := 1000) (by decide) ?_
                      refine r_callS (As := [.int ps, .int 1, .int 1000]) (rest := [.ref m]) (csC := []) (is := []) ln_Mm_87 w_st_Mm_in ok_Mm_leastCost_Mm_in d_Mm_leastCost_74 (C_Mm_in g ps 1 1000) rfl rfl (Nat.le_of_ble_eq_true rfl) rfl (by decide) (by omega) (by omega) (fun E cs1 hx => ?_) (fun v cs1 hx => ?_)
                      · exact absurd hx.1 (by simp)
                      · obtain ⟨e1, rfl⟩ := hx
                        rw [if_pos hw.2.2.2.2.1] at e1
                        cases e1
                        refine ⟨rfl, ?_⟩
                        refine r_st (st2 := [.int 1, .ref m]) rfl ?_
                        refine r_cs (cs2 := [(m, .inr (12, [.int 0, .ref mp, .int pt, .ref mf, .ref mh, .ref mn, .ref mt, .ref mz, .ref mc_, .ref mq, .ref mgr, .int cl, .int wa, .int co_, .int fi, .int bu, .int ho, .ref ml, .ref mi, .ref mr, .int lh, .int mg, .int wd, .int fpi, .int fal, .ref mm, .ref mu, .ref mk, .ref mx, .long po, .long de]))]) rfl ?_
                        refine r_if_eq (tgt := 92) d_Mm_leastCost_77 (by decide) (fun c_77 => ?_) (fun c_77 => ?_)
                        · exact absurd c_77 (by decide)
                        · refine r_iload d_Mm_leastCost_80 7 rfl ?_
                          refine r_iconst d_Mm_leastCost_82 (v := 1) (by decide) ?_
                          refine r_sipush d_Mm_leastCost_83 (v := 1000) (by decide) ?_
                          refine r_callS (As := [.int pa, .int 1, .int 1000]) (rest := [.ref m]) (csC := []) (is := []) ln_Mm_87 w_st_Mm_in ok_Mm_leastCost_Mm_in d_Mm_leastCost_86 (C_Mm_in g pa 1 1000) rfl rfl (Nat.le_of_ble_eq_true rfl) rfl (by decide) (by omega) (by omega) (fun E cs1 hx => ?_) (fun v cs1 hx => ?_)
                          · exact absurd hx.1 (by simp)
                          · obtain ⟨e1, rfl⟩ := hx
                            rw [if_pos hw.2.2.2.2.2] at e1
                            cases e1
                            refine ⟨rfl, ?_⟩
                            refine r_st (st2 := [.int 1, .ref m]) rfl ?_
                            refine r_cs (cs2 := [(m, .inr (12, [.int 0, .ref mp, .int pt, .ref mf, .ref mh, .ref mn, .ref mt, .ref mz, .ref mc_, .ref mq, .ref mgr, .int cl, .int wa, .int co_, .int fi, .int bu, .int ho, .ref ml, .ref mi, .ref mr, .int lh, .int mg, .int wd, .int fpi, .int fal, .ref mm, .ref mu, .ref mk, .ref mx, .long po, .long de]))]) rfl ?_
                            refine r_if_ne (tgt := 96) d_Mm_leastCost_89 (by decide) (fun c_89 => ?_) (fun c_89 => ?_)
                            · refine r_iconst d_Mm_leastCost_96 (v := 0) (by decide) ?_
                              refine r_iconst d_Mm_leastCost_97 (v := 1) (by decide) ?_
                              refine r_callV (As := [.int 0, .int 1]) (rest := []) (csC := [(m, .inr (12, [.int 0, .ref mp, .int pt, .ref mf, .ref mh, .ref mn, .ref mt, .ref mz, .ref mc_, .ref mq, .ref mgr, .int cl, .int wa, .int co_, .int fi, .int bu, .int ho, .ref ml, .ref mi, .ref mr, .int lh, .int mg, .int wd, .int fpi, .int fal, .ref mm, .ref mu, .ref mk, .ref mx, .long po, .long de]))]) (is := [0]) (q0 := 0) rfl rfl ln_Mm_103 w_im_Mm_fails w_se_Mm_fails ok_Mm_leastCost_Mm_fails d_Mm_leastCost_98 (C_Mm_fails0 g m mp mf mh mn mt mz mc_ mq mgr ml mi mr mm mu mk mx th pt cl wa co_ fi bu ho lh mg wd fpi fal po de 1) rfl rfl (Nat.le_of_ble_eq_true rfl) rfl (by decide) (by omega) (by omega) (fun E cs1 hx => ?_) (fun v cs1 hx => ?_)
                              · exact absurd hx.1 (by simp)
                              · obtain ⟨e1, rfl⟩ := hx
                                cases e1
                                refine ⟨rfl, ?_⟩
                                refine r_st (st2 := [.int 0]) rfl ?_
                                refine r_cs (cs2 := [(m, .inr (12, [.int 0, .ref mp, .int pt, .ref mf, .ref mh, .ref mn, .ref mt, .ref mz, .ref mc_, .ref mq, .ref mgr, .int cl, .int wa, .int co_, .int fi, .int bu, .int ho, .ref ml, .ref mi, .ref mr, .int lh, .int mg, .int wd, .int fpi, .int fal, .ref mm, .ref mu, .ref mk, .ref mx, .long po, .long de]))]) rfl ?_
                                refine r_if_eq (tgt := 106) d_Mm_leastCost_101 (by decide) (fun c_101 => ?_) (fun c_101 => ?_)
                                · refine r_iconst d_Mm_leastCost_106 (v := (-1)) (by decide) ?_
                                  refine r_istore (lv' := [(8, .int (-1)), (7, .int 1), (0, .ref m), (1, .int le), (2, .int mo), (3, .int si), (4, .int pp), (5, .int ps), (6, .int pa)]) d_Mm_leastCost_107 (by decide) rfl ?_
                                  refine r_iconst d_Mm_leastCost_109 (v := (-1)) (by decide) ?_
                                  refine r_istore (lv' := [(9, .int (-1)), (8, .int (-1)), (7, .int 1), (0, .ref m), (1, .int le), (2, .int mo), (3, .int si), (4, .int pp), (5, .int ps), (6, .int pa)]) d_Mm_leastCost_110 (by decide) rfl ?_
                                  refine r_iconst d_Mm_leastCost_112 (v := 0) (by decide) ?_
                                  refine r_istore (lv' := [(10, .int 0), (9, .int (-1)), (8, .int (-1)), (7, .int 1), (0, .ref m), (1, .int le), (2, .int mo), (3, .int si), (4, .int pp), (5, .int ps), (6, .int pa)]) d_Mm_leastCost_113 (by decide) rfl ?_
                                  refine r_bipush d_Mm_leastCost_115 (v := 100) (by decide) ?_
                                  refine r_istore (lv' := [(11, .int 100), (10, .int 0), (9, .int (-1)), (8, .int (-1)), (7, .int 1), (0, .ref m), (1, .int le), (2, .int mo), (3, .int si), (4, .int pp), (5, .int ps), (6, .int pa)]) d_Mm_leastCost_117 (by decide) rfl ?_
                                  refine r_lv (lv' := [(11, .int 100), (10, .int 0), (9, .int (-1)), (8, .int (-1)), (6, .int pa), (5, .int ps), (4, .int pp), (3, .int si), (2, .int mo), (1, .int le), (0, .ref m)]) [0, 1, 2, 3, 11, 10, 9, 8, 7, 6, 5] rfl ?_
                                  refine r_lvE (lv2 := [(11, .int (pgI 0)), (10, .int ((rcO le mo si pp ps pa (-1, -1, 0, 0) 0).2.2.1)), (9, .int ((rcO le mo si pp ps pa (-1, -1, 0, 0) 0).2.1)), (8, .int ((rcO le mo si pp ps pa (-1, -1, 0, 0) 0).1)), (6, .int pa), (5, .int ps), (4, .int pp), (3, .int si), (2, .int mo), (1, .int le), (0, .ref m)]) (rfl) ?_
                                  refine r_cs (cs2 := [(m, .inr (12, [.int 0, .ref mp, .int pt, .ref mf, .ref mh, .ref mn, .ref mt, .ref mz, .ref mc_, .ref mq, .ref mgr, .int cl, .int wa, .int co_, .int fi, .int bu, .int ho, .ref ml, .ref mi, .ref mr, .int lh, .int mg, .int wd, .int fpi, .int fal, .ref mm, .ref mu, .ref mk, .ref mx, .long po, .long de]))]) (rfl) ?_
                                  exact L_Mm_leastCostF_119 g m mp mf mh mn mt mz mc_ mq mgr ml mi mr mm mu mk mx th pt cl wa co_ fi bu ho lh mg wd fpi fal po de le mo si pp ps pa hw hpr hs9 w0 _  (11 + 1) 0 (Nat.zero_le _) (by omega)
                                · exact absurd c_101 (by decide)
                            · exact absurd c_89 (by decide)
theorem d_Mm_leastCost_257 : decode prog_14_method_71_code 257 = .ok (.iconst 0, 1) := zo_3 (zd_b zq_prog_14_method_71_code_8 1 rfl rfl rfl)
theorem d_Mm_leastCost_267 : decode prog_14_method_71_code 267 = .ok (.aload_n 0, 1) := zo_42 (zd_b zq_prog_14_method_71_code_8 11 rfl rfl rfl)
theorem d_Mm_leastCost_268 : decode prog_14_method_71_code 268 = .ok (.iload 9, 2) := zo_21 (d := 9) (zd_b zq_prog_14_method_71_code_8 12 rfl rfl rfl) (zd_b zq_prog_14_method_71_code_8 13 rfl rfl rfl)
theorem d_Mm_leastCost_270 : decode prog_14_method_71_code 270 = .ok (.putfield 69, 3) := zo_181 (d := 0) (e := 69) (zd_b zq_prog_14_method_71_code_8 14 rfl rfl rfl) (zd_b zq_prog_14_method_71_code_8 15 rfl rfl rfl) (zd_b zq_prog_14_method_71_code_8 16 rfl rfl rfl)
theorem d_Mm_leastCost_273 : decode prog_14_method_71_code 273 = .ok (.aload_n 0, 1) := zo_42 (zd_b zq_prog_14_method_71_code_8 17 rfl rfl rfl)
theorem d_Mm_leastCost_274 : decode prog_14_method_71_code 274 = .ok (.iload 10, 2) := zo_21 (d := 10) (zd_b zq_prog_14_method_71_code_8 18 rfl rfl rfl) (zd_b zq_prog_14_method_71_code_8 19 rfl rfl rfl)
theorem d_Mm_leastCost_276 : decode prog_14_method_71_code 276 = .ok (.putfield 276, 3) := zo_181 (d := 1) (e := 20) (zd_b zq_prog_14_method_71_code_8 20 rfl rfl rfl) (zd_b zq_prog_14_method_71_code_8 21 rfl rfl rfl) (zd_b zq_prog_14_method_71_code_8 22 rfl rfl rfl)
theorem fp_Mm_276 : z_fp "IronpourModel" 276 12 24 false .int := ⟨R_Mm, "IronpourModel", F_Mm, 31, t_Mm, rfl, u_Mm, by decide, t_Mm_ok, n_Mm, rfl, rfl, Or.inl ⟨z_mj7 (i := 107) rfl (by decide +kernel), Or.inl rfl, fun h => nomatch h⟩⟩
theorem d_Mm_leastCost_279 : decode prog_14_method_71_code 279 = .ok (.iload 8, 2) := zo_21 (d := 8) (zd_b zq_prog_14_method_71_code_8 23 rfl rfl rfl) (zd_b zq_prog_14_method_71_code_8 24 rfl rfl rfl)
theorem d_Mm_leastCost_281 : decode prog_14_method_71_code 281 = .ok (.ireturn, 1) := zo_172 (zd_b zq_prog_14_method_71_code_8 25 rfl rfl rfl)
set_option maxHeartbeats 4000000 in
set_option maxRecDepth 100000 in
theorem L_Mm_leastCostN_127 (g : zG) (m mp mf mh mn mt mz mc_ mq mgr ml mi mr mm mu mk mx : Nat) (th pt cl wa co_ fi bu ho lh mg wd fpi fal : Int32) (po de : Int64) (le mo si pp ps pa : Int32) (hw : ((0 ≤ le ∧ le ≤ 450) ∧ (le ≤ mo ∧ mo ≤ 450) ∧ (0 ≤ si ∧ si ≤ 450) ∧ (1 ≤ pp ∧ pp ≤ 1000) ∧ (1 ≤ ps ∧ ps ≤ 1000) ∧ (1 ≤ pa ∧ pa ≤ 1000))) (hpr : ∀ P A, P + A ≤ 100 → 0 ≤ prS pp ps pa P A) (hs9 : ¬ (rcO le mo si pp ps pa (-1, -1, 0, 0) 11).1 < 0) (w0 : zW) (n : Nat) (kd : Nat) (hk : kd < 11) (K : DV g M_Mm_leastCost (fun o cs1 => o = .inl (some (.int ((rcO le mo si pp ps pa (-1, -1, 0, 0) 11).1))) ∧ cs1 = [(m, .inr (12, [.int 0, .ref mp, .int pt, .ref mf, .ref mh, .ref mn, .ref mt, .ref mz, .ref mc_, .ref mq, .ref mgr, .int cl, .int wa, .int co_, .int fi, .int bu, .int ho, .ref ml, .ref mi, .ref mr, .int lh, .int mg, .int wd, .int ((rcO le mo si pp ps pa (-1, -1, 0, 0) 11).2.1), .int ((rcO le mo si pp ps pa (-1, -1, 0, 0) 11).2.2.1), .ref mm, .ref mu, .ref mk, .ref mx, .long po, .long de]))]) w0 n 240 [(12, .int (nI (nA (100 - 10 * kd)))), (11, .int (nI (100 - 10 * kd))), (10, .int ((rcR le mo si pp ps pa (100 - 10 * kd) (rcO le mo si pp ps pa (-1, -1, 0, 0) kd) (nA (100 - 10 * kd))).2.2.1)), (9, .int ((rcR le mo si pp ps pa (100 - 10 * kd) (rcO le mo si pp ps pa (-1, -1, 0, 0) kd) (nA (100 - 10 * kd))).2.1)), (8, .int ((rcR le mo si pp ps pa (100 - 10 * kd) (rcO le mo si pp ps pa (-1, -1, 0, 0) kd) (nA (100 - 10 * kd))).1)), (6, .int pa), (5, .int ps), (4, .int pp), (3, .int si), (2, .int mo), (1, .int le), (0, .ref m)] [] [(m, .inr (12, [.int 0, .ref mp, .int pt, .ref mf, .ref mh, .ref mn, .ref mt, .ref mz, .ref mc_, .ref mq, .ref mgr, .int cl, .int wa, .int co_, .int fi, .int bu, .int ho, .ref ml, .ref mi, .ref mr, .int lh, .int mg, .int wd, .int fpi, .int fal, .ref mm, .ref mu, .ref mk, .ref mx, .long po, .long de]))] 0 0) : ∀ (d i : Nat), i ≤ nA (100 - 10 * kd) → nA (100 - 10 * kd) < i + d → DV g M_Mm_leastCost (fun o cs1 => o = .inl (some (.int ((rcO le mo si pp ps pa (-1, -1, 0, 0) 11).1))) ∧ cs1 = [(m, .inr (12, [.int 0, .ref mp, .int pt, .ref mf, .ref mh, .ref mn, .ref mt, .ref mz, .ref mc_, .ref mq, .ref mgr, .int cl, .int wa, .int co_, .int fi, .int bu, .int ho, .ref ml, .ref mi, .ref mr, .int lh, .int mg, .int wd, .int ((rcO le mo si pp ps pa (-1, -1, 0, 0) 11).2.1), .int ((rcO le mo si pp ps pa (-1, -1, 0, 0) 11).2.2.1), .ref mm, .ref mu, .ref mk, .ref mx, .long po, .long de]))]) w0 n 127 [(12, .int (nI i)), (11, .int (nI (100 - 10 * kd))), (10, .int ((rcR le mo si pp ps pa (100 - 10 * kd) (rcO le mo si pp ps pa (-1, -1, 0, 0) kd) i).2.2.1)), (9, .int ((rcR le mo si pp ps pa (100 - 10 * kd) (rcO le mo si pp ps pa (-1, -1, 0, 0) kd) i).2.1)), (8, .int ((rcR le mo si pp ps pa (100 - 10 * kd) (rcO le mo si pp ps pa (-1, -1, 0, 0) kd) i).1)), (6, .int pa), (5, .int ps), (4, .int pp), (3, .int si), (2, .int mo), (1, .int le), (0, .ref m)] [] [(m, .inr (12, [.int 0, .ref mp, .int pt, .ref mf, .ref mh, .ref mn, .ref mt, .ref mz, .ref mc_, .ref mq, .ref mgr, .int cl, .int wa, .int co_, .int fi, .int bu, .int ho, .ref ml, .ref mi, .ref mr, .int lh, .int mg, .int wd, .int fpi, .int fal, .ref mm, .ref mu, .ref mk, .ref mx, .long po, .long de]))] 0 0 := by
  intro d
  induction d with
  | zero => intro i h1 h2 ; exact absurd h2 (by omega)
  | succ d ih =>
    intro i h1 h2 
    refine r_iload d_Mm_leastCost_127 0 rfl ?_
    refine r_bipush d_Mm_leastCost_129 (v := 10) (by decide) ?_
    refine r_icmp_gt (tgt := 240) d_Mm_leastCost_131 (by decide) (fun c_131 => ?_) (fun c_131 => ?_)
    · have hn := z_lt (a := 10) (by unfold nA at h1; split at h1 <;> omega) (by decide) c_131
      have hx : i = nA (100 - 10 * kd) := by rcases nA_c (100 - 10 * kd) with ⟨q1, q2⟩ | ⟨q1, q2⟩ <;> omega
      refine r_lvE (lv2 := [(12, .int (nI (nA (100 - 10 * kd)))), (11, .int (nI (100 - 10 * kd))), (10, .int ((rcR le mo si pp ps pa (100 - 10 * kd) (rcO le mo si pp ps pa (-1, -1, 0, 0) kd) (nA (100 - 10 * kd))).2.2.1)), (9, .int ((rcR le mo si pp ps pa (100 - 10 * kd) (rcO le mo si pp ps pa (-1, -1, 0, 0) kd) (nA (100 - 10 * kd))).2.1)), (8, .int ((rcR le mo si pp ps pa (100 - 10 * kd) (rcO le mo si pp ps pa (-1, -1, 0, 0) kd) (nA (100 - 10 * kd))).1)), (6, .int pa), (5, .int ps), (4, .int pp), (3, .int si), (2, .int mo), (1, .int le), (0, .ref m)]) (by rw [hx]) ?_
      exact K
    · have hn := z_nlt (a := 10) (by unfold nA at h1; split at h1 <;> omega) (by decide) c_131
      refine r_iload d_Mm_leastCost_134 1 rfl ?_
      refine r_iload d_Mm_leastCost_136 0 rfl ?_
      refine r_iadd d_Mm_leastCost_138 (v := nI (100 - 10 * kd + i)) (nI_add _ _) ?_
      refine r_bipush d_Mm_leastCost_139 (v := 100) (by decide) ?_
      refine r_icmp_gt (tgt := 240) d_Mm_leastCost_141 (by decide) (fun c_141 => ?_) (fun c_141 => ?_)
      · have hm := z_lt (a := 100) (by omega) (by decide) c_141
        have hx : i = nA (100 - 10 * kd) := by rcases nA_c (100 - 10 * kd) with ⟨q1, q2⟩ | ⟨q1, q2⟩ <;> omega
        refine r_lvE (lv2 := [(12, .int (nI (nA (100 - 10 * kd)))), (11, .int (nI (100 - 10 * kd))), (10, .int ((rcR le mo si pp ps pa (100 - 10 * kd) (rcO le mo si pp ps pa (-1, -1, 0, 0) kd) (nA (100 - 10 * kd))).2.2.1)), (9, .int ((rcR le mo si pp ps pa (100 - 10 * kd) (rcO le mo si pp ps pa (-1, -1, 0, 0) kd) (nA (100 - 10 * kd))).2.1)), (8, .int ((rcR le mo si pp ps pa (100 - 10 * kd) (rcO le mo si pp ps pa (-1, -1, 0, 0) kd) (nA (100 - 10 * kd))).1)), (6, .int pa), (5, .int ps), (4, .int pp), (3, .int si), (2, .int mo), (1, .int le), (0, .ref m)]) (by rw [hx]) ?_
        exact K
      · have hm := z_nlt (a := 100) (by omega) (by decide) c_141
        have hlt : i < nA (100 - 10 * kd) := by unfold nA; split <;> omega
        have hok : rOk (rcR le mo si pp ps pa (100 - 10 * kd) (rcO le mo si pp ps pa (-1, -1, 0, 0) kd) i) := rcR_ok hpr (rcO_ok hpr (Or.inl rfl) kd (by omega)) i (by omega) (by omega) (by omega)
        refine r_iload d_Mm_leastCost_144 1 rfl ?_
        refine r_iload d_Mm_leastCost_146 7 rfl ?_
        refine r_imul d_Mm_leastCost_148 (v := (nI (100 - 10 * kd)) * pp) rfl ?_
        refine r_iload d_Mm_leastCost_149 0 rfl ?_
        refine r_iload d_Mm_leastCost_151 5 rfl ?_
        refine r_imul d_Mm_leastCost_153 (v := (nI i) * pa) rfl ?_
        refine r_iadd d_Mm_leastCost_154 (v := ((nI (100 - 10 * kd)) * pp) + ((nI i) * pa)) rfl ?_
        refine r_bipush d_Mm_leastCost_155 (v := 100) (by decide) ?_
        refine r_iload d_Mm_leastCost_157 1 rfl ?_
        refine r_isub d_Mm_leastCost_159 (v := nI (100 - (100 - 10 * kd))) (pk_sub (a := 100) (by omega)) ?_
        refine r_iload d_Mm_leastCost_160 0 rfl ?_
        refine r_isub d_Mm_leastCost_162 (v := nI (100 - (100 - 10 * kd) - i)) (pk_sub (by omega)) ?_
        refine r_iload d_Mm_leastCost_163 6 rfl ?_
        refine r_imul d_Mm_leastCost_165 (v := (nI (100 - (100 - 10 * kd) - i)) * ps) rfl ?_
        refine r_iadd d_Mm_leastCost_166 (v := prS pp ps pa (100 - 10 * kd) i) (by unfold prS; exact z_arc _ _ _) ?_
        refine r_istore (lv' := [(13, .int (prS pp ps pa (100 - 10 * kd) i)), (12, .int (nI i)), (11, .int (nI (100 - 10 * kd))), (10, .int ((rcR le mo si pp ps pa (100 - 10 * kd) (rcO le mo si pp ps pa (-1, -1, 0, 0) kd) i).2.2.1)), (9, .int ((rcR le mo si pp ps pa (100 - 10 * kd) (rcO le mo si pp ps pa (-1, -1, 0, 0) kd) i).2.1)), (8, .int ((rcR le mo si pp ps pa (100 - 10 * kd) (rcO le mo si pp ps pa (-1, -1, 0, 0) kd) i).1)), (6, .int pa), (5, .int ps), (4, .int pp), (3, .int si), (2, .int mo), (1, .int le), (0, .ref m)]) d_Mm_leastCost_167 (by decide) rfl ?_
        refine r_iload d_Mm_leastCost_169 2 rfl ?_
        refine r_iload d_Mm_leastCost_171 1 rfl ?_
        refine r_iconst d_Mm_leastCost_173 (v := 0) (by decide) ?_
        refine r_callS (As := [.int (nI (100 - 10 * kd)), .int (nI i), .int 0]) (rest := []) (csC := []) (is := []) ln_Mm_272 w_st_Mm_has_0 ok_Mm_leastCost_Mm_has_0 d_Mm_leastCost_174 (C_Mm_hasP0 g (100 - 10 * kd) i (by omega)) rfl rfl (Nat.le_of_ble_eq_true rfl) rfl (by decide) (by omega) (by omega) (fun E cs1 hx => ?_) (fun v cs1 hx => ?_)
        · exact absurd hx.1 (by simp)
        · obtain ⟨e1, rfl⟩ := hx
          cases e1
          refine ⟨rfl, ?_⟩
          refine r_st (st2 := [.int (ctS 0 (nI (100 - 10 * kd)) (nI (100 - (100 - 10 * kd) - i)) (nI i))]) rfl ?_
          refine r_cs (cs2 := [(m, .inr (12, [.int 0, .ref mp, .int pt, .ref mf, .ref mh, .ref mn, .ref mt, .ref mz, .ref mc_, .ref mq, .ref mgr, .int cl, .int wa, .int co_, .int fi, .int bu, .int ho, .ref ml, .ref mi, .ref mr, .int lh, .int mg, .int wd, .int fpi, .int fal, .ref mm, .ref mu, .ref mk, .ref mx, .long po, .long de]))]) rfl ?_
          refine r_iload_n d_Mm_leastCost_177 rfl 11 rfl ?_
          refine r_iload_n d_Mm_leastCost_178 rfl 10 rfl ?_
          refine r_callS (As := [.int (ctS 0 (nI (100 - 10 * kd)) (nI (100 - (100 - 10 * kd) - i)) (nI i)), .int le, .int mo]) (rest := []) (csC := []) (is := []) ln_Mm_87 w_st_Mm_in ok_Mm_leastCost_Mm_in d_Mm_leastCost_179 (C_Mm_in g (ctS 0 (nI (100 - 10 * kd)) (nI (100 - (100 - 10 * kd) - i)) (nI i)) le mo) rfl rfl (Nat.le_of_ble_eq_true rfl) rfl (by decide) (by omega) (by omega) (fun E cs1 hx => ?_) (fun v cs1 hx => ?_)
          · exact absurd hx.1 (by simp)
          · obtain ⟨e1, rfl⟩ := hx
            cases e1
            refine ⟨rfl, ?_⟩
            refine r_st (st2 := [.int (if le ≤ ctS 0 (nI (100 - 10 * kd)) (nI (100 - (100 - 10 * kd) - i)) (nI i) ∧ ctS 0 (nI (100 - 10 * kd)) (nI (100 - (100 - 10 * kd) - i)) (nI i) ≤ mo then 1 else 0)]) rfl ?_
            refine r_cs (cs2 := [(m, .inr (12, [.int 0, .ref mp, .int pt, .ref mf, .ref mh, .ref mn, .ref mt, .ref mz, .ref mc_, .ref mq, .ref mgr, .int cl, .int wa, .int co_, .int fi, .int bu, .int ho, .ref ml, .ref mi, .ref mr, .int lh, .int mg, .int wd, .int fpi, .int fal, .ref mm, .ref mu, .ref mk, .ref mx, .long po, .long de]))]) rfl ?_
            refine r_if_eq (tgt := 201) d_Mm_leastCost_182 (by decide) (fun c_182 => ?_) (fun c_182 => ?_)
            · have hc := ct_le (z_b0 c_182)
              refine r_iconst d_Mm_leastCost_201 (v := 0) (by decide) ?_
              refine r_istore (lv' := [(14, .int 0), (13, .int (prS pp ps pa (100 - 10 * kd) i)), (12, .int (nI i)), (11, .int (nI (100 - 10 * kd))), (10, .int ((rcR le mo si pp ps pa (100 - 10 * kd) (rcO le mo si pp ps pa (-1, -1, 0, 0) kd) i).2.2.1)), (9, .int ((rcR le mo si pp ps pa (100 - 10 * kd) (rcO le mo si pp ps pa (-1, -1, 0, 0) kd) i).2.1)), (8, .int ((rcR le mo si pp ps pa (100 - 10 * kd) (rcO le mo si pp ps pa (-1, -1, 0, 0) kd) i).1)), (6, .int pa), (5, .int ps), (4, .int pp), (3, .int si), (2, .int mo), (1, .int le), (0, .ref m)]) d_Mm_leastCost_202 (by decide) rfl ?_
              refine r_iload d_Mm_leastCost_204 0 rfl ?_
              refine r_if_eq (tgt := 234) d_Mm_leastCost_206 (by decide) (fun c_206 => ?_) (fun c_206 => ?_)
              · refine r_iinc (lv' := [(12, .int (nI (i + 1))), (14, .int 0), (13, .int (prS pp ps pa (100 - 10 * kd) i)), (11, .int (nI (100 - 10 * kd))), (10, .int ((rcR le mo si pp ps pa (100 - 10 * kd) (rcO le mo si pp ps pa (-1, -1, 0, 0) kd) i).2.2.1)), (9, .int ((rcR le mo si pp ps pa (100 - 10 * kd) (rcO le mo si pp ps pa (-1, -1, 0, 0) kd) i).2.1)), (8, .int ((rcR le mo si pp ps pa (100 - 10 * kd) (rcO le mo si pp ps pa (-1, -1, 0, 0) kd) i).1)), (6, .int pa), (5, .int ps), (4, .int pp), (3, .int si), (2, .int mo), (1, .int le), (0, .ref m)]) (v := nI (i + 1)) d_Mm_leastCost_234 (j := 2) rfl (nI_add _ _) (by decide) rfl ?_
                refine r_goto (tgt := 127) d_Mm_leastCost_237 (by decide) ?_
                refine r_lv (lv' := [(12, .int (nI (i + 1))), (11, .int (nI (100 - 10 * kd))), (10, .int ((rcR le mo si pp ps pa (100 - 10 * kd) (rcO le mo si pp ps pa (-1, -1, 0, 0) kd) i).2.2.1)), (9, .int ((rcR le mo si pp ps pa (100 - 10 * kd) (rcO le mo si pp ps pa (-1, -1, 0, 0) kd) i).2.1)), (8, .int ((rcR le mo si pp ps pa (100 - 10 * kd) (rcO le mo si pp ps pa (-1, -1, 0, 0) kd) i).1)), (6, .int pa), (5, .int ps), (4, .int pp), (3, .int si), (2, .int mo), (1, .int le), (0, .ref m)]) [0, 3, 4, 5, 6, 7, 8, 9, 10, 11, 12, 13] rfl ?_
                refine r_lvE (lv2 := [(12, .int (nI (i + 1))), (11, .int (nI (100 - 10 * kd))), (10, .int ((rcR le mo si pp ps pa (100 - 10 * kd) (rcO le mo si pp ps pa (-1, -1, 0, 0) kd) (i + 1)).2.2.1)), (9, .int ((rcR le mo si pp ps pa (100 - 10 * kd) (rcO le mo si pp ps pa (-1, -1, 0, 0) kd) (i + 1)).2.1)), (8, .int ((rcR le mo si pp ps pa (100 - 10 * kd) (rcO le mo si pp ps pa (-1, -1, 0, 0) kd) (i + 1)).1)), (6, .int pa), (5, .int ps), (4, .int pp), (3, .int si), (2, .int mo), (1, .int le), (0, .ref m)]) (by first | (rw [rcR, rcI_f (fun h => h.1.2.2 c_194)] <;> rfl) | (rw [rcR, rcI_f (fun h => hc ⟨h.1.1, h.1.2.1⟩)] <;> rfl) | (rw [rcR, rcI_f (fun h => h.2.elim (rOk_b hok c_212) (fun q => q c_219))] <;> rfl) | (rw [rcR, rcI_f (fun h => h.2.elim (rOk_b hok c_212) (fun q => q (Int32.not_lt.mp c_219)))] <;> rfl) | (rw [rcR, rcI_t ⟨⟨hc.1, hc.2, c_194⟩, Or.inr (Int32.not_le.mpr c_219)⟩] <;> rfl) | (rw [rcR, rcI_t ⟨⟨hc.1, hc.2, c_194⟩, Or.inr c_219⟩] <;> rfl) | (rw [rcR, rcI_t ⟨⟨hc.1, hc.2, c_194⟩, Or.inl (rOk_m1 c_212)⟩] <;> rfl)) ?_
                refine r_cs (cs2 := [(m, .inr (12, [.int 0, .ref mp, .int pt, .ref mf, .ref mh, .ref mn, .ref mt, .ref mz, .ref mc_, .ref mq, .ref mgr, .int cl, .int wa, .int co_, .int fi, .int bu, .int ho, .ref ml, .ref mi, .ref mr, .int lh, .int mg, .int wd, .int fpi, .int fal, .ref mm, .ref mu, .ref mk, .ref mx, .long po, .long de]))]) (rfl) ?_
                exact ih (i + 1) (by omega) (by omega)
              · exact absurd c_206 (by decide)
            · have hc : ¬ ctS 0 (nI (100 - 10 * kd)) (nI (100 - (100 - 10 * kd) - i)) (nI i) < le ∧ ¬ mo < ctS 0 (nI (100 - 10 * kd)) (nI (100 - (100 - 10 * kd) - i)) (nI i) := ⟨Int32.not_lt.mpr (z_b1 c_182).1, Int32.not_lt.mpr (z_b1 c_182).2⟩
              refine r_iload d_Mm_leastCost_185 2 rfl ?_
              refine r_iload d_Mm_leastCost_187 1 rfl ?_
              refine r_iconst d_Mm_leastCost_189 (v := 1) (by decide) ?_
              refine r_callS (As := [.int (nI (100 - 10 * kd)), .int (nI i), .int 1]) (rest := []) (csC := []) (is := []) ln_Mm_272 w_st_Mm_has_0 ok_Mm_leastCost_Mm_has_0 d_Mm_leastCost_190 (C_Mm_hasP1 g (100 - 10 * kd) i (by omega)) rfl rfl (Nat.le_of_ble_eq_true rfl) rfl (by decide) (by omega) (by omega) (fun E cs1 hx => ?_) (fun v cs1 hx => ?_)
              · exact absurd hx.1 (by simp)
              · obtain ⟨e1, rfl⟩ := hx
                cases e1
                refine ⟨rfl, ?_⟩
                refine r_st (st2 := [.int (ctS 1 (nI (100 - 10 * kd)) (nI (100 - (100 - 10 * kd) - i)) (nI i))]) rfl ?_
                refine r_cs (cs2 := [(m, .inr (12, [.int 0, .ref mp, .int pt, .ref mf, .ref mh, .ref mn, .ref mt, .ref mz, .ref mc_, .ref mq, .ref mgr, .int cl, .int wa, .int co_, .int fi, .int bu, .int ho, .ref ml, .ref mi, .ref mr, .int lh, .int mg, .int wd, .int fpi, .int fal, .ref mm, .ref mu, .ref mk, .ref mx, .long po, .long de]))]) rfl ?_
                refine r_iload_n d_Mm_leastCost_193 rfl 9 rfl ?_
                refine r_icmp_lt (tgt := 201) d_Mm_leastCost_194 (by decide) (fun c_194 => ?_) (fun c_194 => ?_)
                · refine r_iconst d_Mm_leastCost_201 (v := 0) (by decide) ?_
                  refine r_istore (lv' := [(14, .int 0), (13, .int (prS pp ps pa (100 - 10 * kd) i)), (12, .int (nI i)), (11, .int (nI (100 - 10 * kd))), (10, .int ((rcR le mo si pp ps pa (100 - 10 * kd) (rcO le mo si pp ps pa (-1, -1, 0, 0) kd) i).2.2.1)), (9, .int ((rcR le mo si pp ps pa (100 - 10 * kd) (rcO le mo si pp ps pa (-1, -1, 0, 0) kd) i).2.1)), (8, .int ((rcR le mo si pp ps pa (100 - 10 * kd) (rcO le mo si pp ps pa (-1, -1, 0, 0) kd) i).1)), (6, .int pa), (5, .int ps), (4, .int pp), (3, .int si), (2, .int mo), (1, .int le), (0, .ref m)]) d_Mm_leastCost_202 (by decide) rfl ?_
                  refine r_iload d_Mm_leastCost_204 0 rfl ?_
                  refine r_if_eq (tgt := 234) d_Mm_leastCost_206 (by decide) (fun c_206 => ?_) (fun c_206 => ?_)
                  · refine r_iinc (lv' := [(12, .int (nI (i + 1))), (14, .int 0), (13, .int (prS pp ps pa (100 - 10 * kd) i)), (11, .int (nI (100 - 10 * kd))), (10, .int ((rcR le mo si pp ps pa (100 - 10 * kd) (rcO le mo si pp ps pa (-1, -1, 0, 0) kd) i).2.2.1)), (9, .int ((rcR le mo si pp ps pa (100 - 10 * kd) (rcO le mo si pp ps pa (-1, -1, 0, 0) kd) i).2.1)), (8, .int ((rcR le mo si pp ps pa (100 - 10 * kd) (rcO le mo si pp ps pa (-1, -1, 0, 0) kd) i).1)), (6, .int pa), (5, .int ps), (4, .int pp), (3, .int si), (2, .int mo), (1, .int le), (0, .ref m)]) (v := nI (i + 1)) d_Mm_leastCost_234 (j := 2) rfl (nI_add _ _) (by decide) rfl ?_
                    refine r_goto (tgt := 127) d_Mm_leastCost_237 (by decide) ?_
                    refine r_lv (lv' := [(12, .int (nI (i + 1))), (11, .int (nI (100 - 10 * kd))), (10, .int ((rcR le mo si pp ps pa (100 - 10 * kd) (rcO le mo si pp ps pa (-1, -1, 0, 0) kd) i).2.2.1)), (9, .int ((rcR le mo si pp ps pa (100 - 10 * kd) (rcO le mo si pp ps pa (-1, -1, 0, 0) kd) i).2.1)), (8, .int ((rcR le mo si pp ps pa (100 - 10 * kd) (rcO le mo si pp ps pa (-1, -1, 0, 0) kd) i).1)), (6, .int pa), (5, .int ps), (4, .int pp), (3, .int si), (2, .int mo), (1, .int le), (0, .ref m)]) [0, 3, 4, 5, 6, 7, 8, 9, 10, 11, 12, 13] rfl ?_
                    refine r_lvE (lv2 := [(12, .int (nI (i + 1))), (11, .int (nI (100 - 10 * kd))), (10, .int ((rcR le mo si pp ps pa (100 - 10 * kd) (rcO le mo si pp ps pa (-1, -1, 0, 0) kd) (i + 1)).2.2.1)), (9, .int ((rcR le mo si pp ps pa (100 - 10 * kd) (rcO le mo si pp ps pa (-1, -1, 0, 0) kd) (i + 1)).2.1)), (8, .int ((rcR le mo si pp ps pa (100 - 10 * kd) (rcO le mo si pp ps pa (-1, -1, 0, 0) kd) (i + 1)).1)), (6, .int pa), (5, .int ps), (4, .int pp), (3, .int si), (2, .int mo), (1, .int le), (0, .ref m)]) (by first | (rw [rcR, rcI_f (fun h => h.1.2.2 c_194)] <;> rfl) | (rw [rcR, rcI_f (fun h => hc ⟨h.1.1, h.1.2.1⟩)] <;> rfl) | (rw [rcR, rcI_f (fun h => h.2.elim (rOk_b hok c_212) (fun q => q c_219))] <;> rfl) | (rw [rcR, rcI_f (fun h => h.2.elim (rOk_b hok c_212) (fun q => q (Int32.not_lt.mp c_219)))] <;> rfl) | (rw [rcR, rcI_t ⟨⟨hc.1, hc.2, c_194⟩, Or.inr (Int32.not_le.mpr c_219)⟩] <;> rfl) | (rw [rcR, rcI_t ⟨⟨hc.1, hc.2, c_194⟩, Or.inr c_219⟩] <;> rfl) | (rw [rcR, rcI_t ⟨⟨hc.1, hc.2, c_194⟩, Or.inl (rOk_m1 c_212)⟩] <;> rfl)) ?_
                    refine r_cs (cs2 := [(m, .inr (12, [.int 0, .ref mp, .int pt, .ref mf, .ref mh, .ref mn, .ref mt, .ref mz, .ref mc_, .ref mq, .ref mgr, .int cl, .int wa, .int co_, .int fi, .int bu, .int ho, .ref ml, .ref mi, .ref mr, .int lh, .int mg, .int wd, .int fpi, .int fal, .ref mm, .ref mu, .ref mk, .ref mx, .long po, .long de]))]) (rfl) ?_
                    exact ih (i + 1) (by omega) (by omega)
                  · exact absurd c_206 (by decide)
                · refine r_iconst d_Mm_leastCost_197 (v := 1) (by decide) ?_
                  refine r_goto (tgt := 202) d_Mm_leastCost_198 (by decide) ?_
                  refine r_istore (lv' := [(14, .int 1), (13, .int (prS pp ps pa (100 - 10 * kd) i)), (12, .int (nI i)), (11, .int (nI (100 - 10 * kd))), (10, .int ((rcR le mo si pp ps pa (100 - 10 * kd) (rcO le mo si pp ps pa (-1, -1, 0, 0) kd) i).2.2.1)), (9, .int ((rcR le mo si pp ps pa (100 - 10 * kd) (rcO le mo si pp ps pa (-1, -1, 0, 0) kd) i).2.1)), (8, .int ((rcR le mo si pp ps pa (100 - 10 * kd) (rcO le mo si pp ps pa (-1, -1, 0, 0) kd) i).1)), (6, .int pa), (5, .int ps), (4, .int pp), (3, .int si), (2, .int mo), (1, .int le), (0, .ref m)]) d_Mm_leastCost_202 (by decide) rfl ?_
                  refine r_iload d_Mm_leastCost_204 0 rfl ?_
                  refine r_if_eq (tgt := 234) d_Mm_leastCost_206 (by decide) (fun c_206 => ?_) (fun c_206 => ?_)
                  · exact absurd c_206 (by decide)
                  · refine r_iload d_Mm_leastCost_209 6 rfl ?_
                    refine r_iconst d_Mm_leastCost_211 (v := (-1)) (by decide) ?_
                    refine r_icmp_eq (tgt := 222) d_Mm_leastCost_212 (by decide) (fun c_212 => ?_) (fun c_212 => ?_)
                    · refine r_iload d_Mm_leastCost_222 1 rfl ?_
                      refine r_istore (lv' := [(8, .int (prS pp ps pa (100 - 10 * kd) i)), (14, .int 1), (13, .int (prS pp ps pa (100 - 10 * kd) i)), (12, .int (nI i)), (11, .int (nI (100 - 10 * kd))), (10, .int ((rcR le mo si pp ps pa (100 - 10 * kd) (rcO le mo si pp ps pa (-1, -1, 0, 0) kd) i).2.2.1)), (9, .int ((rcR le mo si pp ps pa (100 - 10 * kd) (rcO le mo si pp ps pa (-1, -1, 0, 0) kd) i).2.1)), (6, .int pa), (5, .int ps), (4, .int pp), (3, .int si), (2, .int mo), (1, .int le), (0, .ref m)]) d_Mm_leastCost_224 (by decide) rfl ?_
                      refine r_iload d_Mm_leastCost_226 4 rfl ?_
                      refine r_istore (lv' := [(9, .int (nI (100 - 10 * kd))), (8, .int (prS pp ps pa (100 - 10 * kd) i)), (14, .int 1), (13, .int (prS pp ps pa (100 - 10 * kd) i)), (12, .int (nI i)), (11, .int (nI (100 - 10 * kd))), (10, .int ((rcR le mo si pp ps pa (100 - 10 * kd) (rcO le mo si pp ps pa (-1, -1, 0, 0) kd) i).2.2.1)), (6, .int pa), (5, .int ps), (4, .int pp), (3, .int si), (2, .int mo), (1, .int le), (0, .ref m)]) d_Mm_leastCost_228 (by decide) rfl ?_
                      refine r_iload d_Mm_leastCost_230 4 rfl ?_
                      refine r_istore (lv' := [(10, .int (nI i)), (9, .int (nI (100 - 10 * kd))), (8, .int (prS pp ps pa (100 - 10 * kd) i)), (14, .int 1), (13, .int (prS pp ps pa (100 - 10 * kd) i)), (12, .int (nI i)), (11, .int (nI (100 - 10 * kd))), (6, .int pa), (5, .int ps), (4, .int pp), (3, .int si), (2, .int mo), (1, .int le), (0, .ref m)]) d_Mm_leastCost_232 (by decide) rfl ?_
                      refine r_iinc (lv' := [(12, .int (nI (i + 1))), (10, .int (nI i)), (9, .int (nI (100 - 10 * kd))), (8, .int (prS pp ps pa (100 - 10 * kd) i)), (14, .int 1), (13, .int (prS pp ps pa (100 - 10 * kd) i)), (11, .int (nI (100 - 10 * kd))), (6, .int pa), (5, .int ps), (4, .int pp), (3, .int si), (2, .int mo), (1, .int le), (0, .ref m)]) (v := nI (i + 1)) d_Mm_leastCost_234 (j := 5) rfl (nI_add _ _) (by decide) rfl ?_
                      refine r_goto (tgt := 127) d_Mm_leastCost_237 (by decide) ?_
                      refine r_lv (lv' := [(12, .int (nI (i + 1))), (11, .int (nI (100 - 10 * kd))), (10, .int (nI i)), (9, .int (nI (100 - 10 * kd))), (8, .int (prS pp ps pa (100 - 10 * kd) i)), (6, .int pa), (5, .int ps), (4, .int pp), (3, .int si), (2, .int mo), (1, .int le), (0, .ref m)]) [0, 6, 1, 2, 3, 7, 8, 9, 10, 11, 12, 13] rfl ?_
                      refine r_lvE (lv2 := [(12, .int (nI (i + 1))), (11, .int (nI (100 - 10 * kd))), (10, .int ((rcR le mo si pp ps pa (100 - 10 * kd) (rcO le mo si pp ps pa (-1, -1, 0, 0) kd) (i + 1)).2.2.1)), (9, .int ((rcR le mo si pp ps pa (100 - 10 * kd) (rcO le mo si pp ps pa (-1, -1, 0, 0) kd) (i + 1)).2.1)), (8, .int ((rcR le mo si pp ps pa (100 - 10 * kd) (rcO le mo si pp ps pa (-1, -1, 0, 0) kd) (i + 1)).1)), (6, .int pa), (5, .int ps), (4, .int pp), (3, .int si), (2, .int mo), (1, .int le), (0, .ref m)]) (by first | (rw [rcR, rcI_f (fun h => h.1.2.2 c_194)] <;> rfl) | (rw [rcR, rcI_f (fun h => hc ⟨h.1.1, h.1.2.1⟩)] <;> rfl) | (rw [rcR, rcI_f (fun h => h.2.elim (rOk_b hok c_212) (fun q => q c_219))] <;> rfl) | (rw [rcR, rcI_f (fun h => h.2.elim (rOk_b hok c_212) (fun q => q (Int32.not_lt.mp c_219)))] <;> rfl) | (rw [rcR, rcI_t ⟨⟨hc.1, hc.2, c_194⟩, Or.inr (Int32.not_le.mpr c_219)⟩] <;> rfl) | (rw [rcR, rcI_t ⟨⟨hc.1, hc.2, c_194⟩, Or.inr c_219⟩] <;> rfl) | (rw [rcR, rcI_t ⟨⟨hc.1, hc.2, c_194⟩, Or.inl (rOk_m1 c_212)⟩] <;> rfl)) ?_
                      refine r_cs (cs2 := [(m, .inr (12, [.int 0, .ref mp, .int pt, .ref mf, .ref mh, .ref mn, .ref mt, .ref mz, .ref mc_, .ref mq, .ref mgr, .int cl, .int wa, .int co_, .int fi, .int bu, .int ho, .ref ml, .ref mi, .ref mr, .int lh, .int mg, .int wd, .int fpi, .int fal, .ref mm, .ref mu, .ref mk, .ref mx, .long po, .long de]))]) (rfl) ?_
                      exact ih (i + 1) (by omega) (by omega)
                    · refine r_iload d_Mm_leastCost_215 1 rfl ?_
                      refine r_iload d_Mm_leastCost_217 6 rfl ?_
                      refine r_icmp_ge (tgt := 234) d_Mm_leastCost_219 (by decide) (fun c_219 => ?_) (fun c_219 => ?_)
                      · refine r_iinc (lv' := [(12, .int (nI (i + 1))), (14, .int 1), (13, .int (prS pp ps pa (100 - 10 * kd) i)), (11, .int (nI (100 - 10 * kd))), (10, .int ((rcR le mo si pp ps pa (100 - 10 * kd) (rcO le mo si pp ps pa (-1, -1, 0, 0) kd) i).2.2.1)), (9, .int ((rcR le mo si pp ps pa (100 - 10 * kd) (rcO le mo si pp ps pa (-1, -1, 0, 0) kd) i).2.1)), (8, .int ((rcR le mo si pp ps pa (100 - 10 * kd) (rcO le mo si pp ps pa (-1, -1, 0, 0) kd) i).1)), (6, .int pa), (5, .int ps), (4, .int pp), (3, .int si), (2, .int mo), (1, .int le), (0, .ref m)]) (v := nI (i + 1)) d_Mm_leastCost_234 (j := 2) rfl (nI_add _ _) (by decide) rfl ?_
                        refine r_goto (tgt := 127) d_Mm_leastCost_237 (by decide) ?_
                        refine r_lv (lv' := [(12, .int (nI (i + 1))), (11, .int (nI (100 - 10 * kd))), (10, .int ((rcR le mo si pp ps pa (100 - 10 * kd) (rcO le mo si pp ps pa (-1, -1, 0, 0) kd) i).2.2.1)), (9, .int ((rcR le mo si pp ps pa (100 - 10 * kd) (rcO le mo si pp ps pa (-1, -1, 0, 0) kd) i).2.1)), (8, .int ((rcR le mo si pp ps pa (100 - 10 * kd) (rcO le mo si pp ps pa (-1, -1, 0, 0) kd) i).1)), (6, .int pa), (5, .int ps), (4, .int pp), (3, .int si), (2, .int mo), (1, .int le), (0, .ref m)]) [0, 3, 4, 5, 6, 7, 8, 9, 10, 11, 12, 13] rfl ?_
                        refine r_lvE (lv2 := [(12, .int (nI (i + 1))), (11, .int (nI (100 - 10 * kd))), (10, .int ((rcR le mo si pp ps pa (100 - 10 * kd) (rcO le mo si pp ps pa (-1, -1, 0, 0) kd) (i + 1)).2.2.1)), (9, .int ((rcR le mo si pp ps pa (100 - 10 * kd) (rcO le mo si pp ps pa (-1, -1, 0, 0) kd) (i + 1)).2.1)), (8, .int ((rcR le mo si pp ps pa (100 - 10 * kd) (rcO le mo si pp ps pa (-1, -1, 0, 0) kd) (i + 1)).1)), (6, .int pa), (5, .int ps), (4, .int pp), (3, .int si), (2, .int mo), (1, .int le), (0, .ref m)]) (by first | (rw [rcR, rcI_f (fun h => h.1.2.2 c_194)] <;> rfl) | (rw [rcR, rcI_f (fun h => hc ⟨h.1.1, h.1.2.1⟩)] <;> rfl) | (rw [rcR, rcI_f (fun h => h.2.elim (rOk_b hok c_212) (fun q => q c_219))] <;> rfl) | (rw [rcR, rcI_f (fun h => h.2.elim (rOk_b hok c_212) (fun q => q (Int32.not_lt.mp c_219)))] <;> rfl) | (rw [rcR, rcI_t ⟨⟨hc.1, hc.2, c_194⟩, Or.inr (Int32.not_le.mpr c_219)⟩] <;> rfl) | (rw [rcR, rcI_t ⟨⟨hc.1, hc.2, c_194⟩, Or.inr c_219⟩] <;> rfl) | (rw [rcR, rcI_t ⟨⟨hc.1, hc.2, c_194⟩, Or.inl (rOk_m1 c_212)⟩] <;> rfl)) ?_
                        refine r_cs (cs2 := [(m, .inr (12, [.int 0, .ref mp, .int pt, .ref mf, .ref mh, .ref mn, .ref mt, .ref mz, .ref mc_, .ref mq, .ref mgr, .int cl, .int wa, .int co_, .int fi, .int bu, .int ho, .ref ml, .ref mi, .ref mr, .int lh, .int mg, .int wd, .int fpi, .int fal, .ref mm, .ref mu, .ref mk, .ref mx, .long po, .long de]))]) (rfl) ?_
                        exact ih (i + 1) (by omega) (by omega)
                      · refine r_iload d_Mm_leastCost_222 1 rfl ?_
                        refine r_istore (lv' := [(8, .int (prS pp ps pa (100 - 10 * kd) i)), (14, .int 1), (13, .int (prS pp ps pa (100 - 10 * kd) i)), (12, .int (nI i)), (11, .int (nI (100 - 10 * kd))), (10, .int ((rcR le mo si pp ps pa (100 - 10 * kd) (rcO le mo si pp ps pa (-1, -1, 0, 0) kd) i).2.2.1)), (9, .int ((rcR le mo si pp ps pa (100 - 10 * kd) (rcO le mo si pp ps pa (-1, -1, 0, 0) kd) i).2.1)), (6, .int pa), (5, .int ps), (4, .int pp), (3, .int si), (2, .int mo), (1, .int le), (0, .ref m)]) d_Mm_leastCost_224 (by decide) rfl ?_
                        refine r_iload d_Mm_leastCost_226 4 rfl ?_
                        refine r_istore (lv' := [(9, .int (nI (100 - 10 * kd))), (8, .int (prS pp ps pa (100 - 10 * kd) i)), (14, .int 1), (13, .int (prS pp ps pa (100 - 10 * kd) i)), (12, .int (nI i)), (11, .int (nI (100 - 10 * kd))), (10, .int ((rcR le mo si pp ps pa (100 - 10 * kd) (rcO le mo si pp ps pa (-1, -1, 0, 0) kd) i).2.2.1)), (6, .int pa), (5, .int ps), (4, .int pp), (3, .int si), (2, .int mo), (1, .int le), (0, .ref m)]) d_Mm_leastCost_228 (by decide) rfl ?_
                        refine r_iload d_Mm_leastCost_230 4 rfl ?_
                        refine r_istore (lv' := [(10, .int (nI i)), (9, .int (nI (100 - 10 * kd))), (8, .int (prS pp ps pa (100 - 10 * kd) i)), (14, .int 1), (13, .int (prS pp ps pa (100 - 10 * kd) i)), (12, .int (nI i)), (11, .int (nI (100 - 10 * kd))), (6, .int pa), (5, .int ps), (4, .int pp), (3, .int si), (2, .int mo), (1, .int le), (0, .ref m)]) d_Mm_leastCost_232 (by decide) rfl ?_
                        refine r_iinc (lv' := [(12, .int (nI (i + 1))), (10, .int (nI i)), (9, .int (nI (100 - 10 * kd))), (8, .int (prS pp ps pa (100 - 10 * kd) i)), (14, .int 1), (13, .int (prS pp ps pa (100 - 10 * kd) i)), (11, .int (nI (100 - 10 * kd))), (6, .int pa), (5, .int ps), (4, .int pp), (3, .int si), (2, .int mo), (1, .int le), (0, .ref m)]) (v := nI (i + 1)) d_Mm_leastCost_234 (j := 5) rfl (nI_add _ _) (by decide) rfl ?_
                        refine r_goto (tgt := 127) d_Mm_leastCost_237 (by decide) ?_
                        refine r_lv (lv' := [(12, .int (nI (i + 1))), (11, .int (nI (100 - 10 * kd))), (10, .int (nI i)), (9, .int (nI (100 - 10 * kd))), (8, .int (prS pp ps pa (100 - 10 * kd) i)), (6, .int pa), (5, .int ps), (4, .int pp), (3, .int si), (2, .int mo), (1, .int le), (0, .ref m)]) [0, 6, 1, 2, 3, 7, 8, 9, 10, 11, 12, 13] rfl ?_
                        refine r_lvE (lv2 := [(12, .int (nI (i + 1))), (11, .int (nI (100 - 10 * kd))), (10, .int ((rcR le mo si pp ps pa (100 - 10 * kd) (rcO le mo si pp ps pa (-1, -1, 0, 0) kd) (i + 1)).2.2.1)), (9, .int ((rcR le mo si pp ps pa (100 - 10 * kd) (rcO le mo si pp ps pa (-1, -1, 0, 0) kd) (i + 1)).2.1)), (8, .int ((rcR le mo si pp ps pa (100 - 10 * kd) (rcO le mo si pp ps pa (-1, -1, 0, 0) kd) (i + 1)).1)), (6, .int pa), (5, .int ps), (4, .int pp), (3, .int si), (2, .int mo), (1, .int le), (0, .ref m)]) (by first | (rw [rcR, rcI_f (fun h => h.1.2.2 c_194)] <;> rfl) | (rw [rcR, rcI_f (fun h => hc ⟨h.1.1, h.1.2.1⟩)] <;> rfl) | (rw [rcR, rcI_f (fun h => h.2.elim (rOk_b hok c_212) (fun q => q c_219))] <;> rfl) | (rw [rcR, rcI_f (fun h => h.2.elim (rOk_b hok c_212) (fun q => q (Int32.not_lt.mp c_219)))] <;> rfl) | (rw [rcR, rcI_t ⟨⟨hc.1, hc.2, c_194⟩, Or.inr (Int32.not_le.mpr c_219)⟩] <;> rfl) | (rw [rcR, rcI_t ⟨⟨hc.1, hc.2, c_194⟩, Or.inr c_219⟩] <;> rfl) | (rw [rcR, rcI_t ⟨⟨hc.1, hc.2, c_194⟩, Or.inl (rOk_m1 c_212)⟩] <;> rfl)) ?_
                        refine r_cs (cs2 := [(m, .inr (12, [.int 0, .ref mp, .int pt, .ref mf, .ref mh, .ref mn, .ref mt, .ref mz, .ref mc_, .ref mq, .ref mgr, .int cl, .int wa, .int co_, .int fi, .int bu, .int ho, .ref ml, .ref mi, .ref mr, .int lh, .int mg, .int wd, .int fpi, .int fal, .ref mm, .ref mu, .ref mk, .ref mx, .long po, .long de]))]) (rfl) ?_
                        exact ih (i + 1) (by omega) (by omega)
set_option maxHeartbeats 4000000 in
set_option maxRecDepth 100000 in
theorem L_Mm_leastCostN_119 (g : zG) (m mp mf mh mn mt mz mc_ mq mgr ml mi mr mm mu mk mx : Nat) (th pt cl wa co_ fi bu ho lh mg wd fpi fal : Int32) (po de : Int64) (le mo si pp ps pa : Int32) (hw : ((0 ≤ le ∧ le ≤ 450) ∧ (le ≤ mo ∧ mo ≤ 450) ∧ (0 ≤ si ∧ si ≤ 450) ∧ (1 ≤ pp ∧ pp ≤ 1000) ∧ (1 ≤ ps ∧ ps ≤ 1000) ∧ (1 ≤ pa ∧ pa ≤ 1000))) (hpr : ∀ P A, P + A ≤ 100 → 0 ≤ prS pp ps pa P A) (hs9 : ¬ (rcO le mo si pp ps pa (-1, -1, 0, 0) 11).1 < 0) (w0 : zW) (n : Nat) : ∀ (d kd : Nat), kd ≤ 11 → 11 < kd + d → DV g M_Mm_leastCost (fun o cs1 => o = .inl (some (.int ((rcO le mo si pp ps pa (-1, -1, 0, 0) 11).1))) ∧ cs1 = [(m, .inr (12, [.int 0, .ref mp, .int pt, .ref mf, .ref mh, .ref mn, .ref mt, .ref mz, .ref mc_, .ref mq, .ref mgr, .int cl, .int wa, .int co_, .int fi, .int bu, .int ho, .ref ml, .ref mi, .ref mr, .int lh, .int mg, .int wd, .int ((rcO le mo si pp ps pa (-1, -1, 0, 0) 11).2.1), .int ((rcO le mo si pp ps pa (-1, -1, 0, 0) 11).2.2.1), .ref mm, .ref mu, .ref mk, .ref mx, .long po, .long de]))]) w0 n 119 [(11, .int (pgI kd)), (10, .int ((rcO le mo si pp ps pa (-1, -1, 0, 0) kd).2.2.1)), (9, .int ((rcO le mo si pp ps pa (-1, -1, 0, 0) kd).2.1)), (8, .int ((rcO le mo si pp ps pa (-1, -1, 0, 0) kd).1)), (6, .int pa), (5, .int ps), (4, .int pp), (3, .int si), (2, .int mo), (1, .int le), (0, .ref m)] [] [(m, .inr (12, [.int 0, .ref mp, .int pt, .ref mf, .ref mh, .ref mn, .ref mt, .ref mz, .ref mc_, .ref mq, .ref mgr, .int cl, .int wa, .int co_, .int fi, .int bu, .int ho, .ref ml, .ref mi, .ref mr, .int lh, .int mg, .int wd, .int fpi, .int fal, .ref mm, .ref mu, .ref mk, .ref mx, .long po, .long de]))] 0 0 := by
  intro d
  induction d with
  | zero => intro kd h1 h2 ; exact absurd h2 (by omega)
  | succ d ih =>
    intro kd h1 h2 
    refine r_iload d_Mm_leastCost_119 0 rfl ?_
    refine r_if_lt (tgt := 246) d_Mm_leastCost_121 (by decide) (fun c_121 => ?_) (fun c_121 => ?_)
    · have hk : kd = 11 := (pgI_neg kd (by omega)).mp c_121
      obtain rfl : kd = 11 := hk
      have hok11 := rcO_ok (le := le) (mo := mo) (si := si) hpr (s := (-1, -1, 0, 0)) (Or.inl rfl) 11 (Nat.le_refl _)
      refine r_aload_n d_Mm_leastCost_246 rfl 10 rfl ?_
      refine r_iload d_Mm_leastCost_247 3 rfl ?_
      refine r_iconst d_Mm_leastCost_249 (v := (-1)) (by decide) ?_
      refine r_icmp_ne (tgt := 257) d_Mm_leastCost_250 (by decide) (fun c_250 => ?_) (fun c_250 => ?_)
      · refine r_iconst d_Mm_leastCost_257 (v := 0) (by decide) ?_
        refine r_iconst d_Mm_leastCost_258 (v := 2) (by decide) ?_
        refine r_callV (As := [.int 0, .int 2]) (rest := []) (csC := [(m, .inr (12, [.int 0, .ref mp, .int pt, .ref mf, .ref mh, .ref mn, .ref mt, .ref mz, .ref mc_, .ref mq, .ref mgr, .int cl, .int wa, .int co_, .int fi, .int bu, .int ho, .ref ml, .ref mi, .ref mr, .int lh, .int mg, .int wd, .int fpi, .int fal, .ref mm, .ref mu, .ref mk, .ref mx, .long po, .long de]))]) (is := [0]) (q0 := 0) rfl rfl ln_Mm_103 w_im_Mm_fails w_se_Mm_fails ok_Mm_leastCost_Mm_fails d_Mm_leastCost_259 (C_Mm_fails0 g m mp mf mh mn mt mz mc_ mq mgr ml mi mr mm mu mk mx th pt cl wa co_ fi bu ho lh mg wd fpi fal po de 2) rfl rfl (Nat.le_of_ble_eq_true rfl) rfl (by decide) (by omega) (by omega) (fun E cs1 hx => ?_) (fun v cs1 hx => ?_)
        · exact absurd hx.1 (by simp)
        · obtain ⟨e1, rfl⟩ := hx
          cases e1
          refine ⟨rfl, ?_⟩
          refine r_st (st2 := [.int 0]) rfl ?_
          refine r_cs (cs2 := [(m, .inr (12, [.int 0, .ref mp, .int pt, .ref mf, .ref mh, .ref mn, .ref mt, .ref mz, .ref mc_, .ref mq, .ref mgr, .int cl, .int wa, .int co_, .int fi, .int bu, .int ho, .ref ml, .ref mi, .ref mr, .int lh, .int mg, .int wd, .int fpi, .int fal, .ref mm, .ref mu, .ref mk, .ref mx, .long po, .long de]))]) rfl ?_
          refine r_if_eq (tgt := 267) d_Mm_leastCost_262 (by decide) (fun c_262 => ?_) (fun c_262 => ?_)
          · refine r_aload_n d_Mm_leastCost_267 rfl 10 rfl ?_
            refine r_iload d_Mm_leastCost_268 2 rfl ?_
            refine r_put fp_Mm_69 d_Mm_leastCost_270 (fun h => nomatch h) rfl rfl (q0 := 0) rfl (Nat.le_of_ble_eq_true rfl) (cs' := [(m, .inr (12, [.int 0, .ref mp, .int pt, .ref mf, .ref mh, .ref mn, .ref mt, .ref mz, .ref mc_, .ref mq, .ref mgr, .int cl, .int wa, .int co_, .int fi, .int bu, .int ho, .ref ml, .ref mi, .ref mr, .int lh, .int mg, .int wd, .int ((rcO le mo si pp ps pa (-1, -1, 0, 0) 11).2.1), .int fal, .ref mm, .ref mu, .ref mk, .ref mx, .long po, .long de]))]) rfl ?_
            refine r_aload_n d_Mm_leastCost_273 rfl 10 rfl ?_
            refine r_iload d_Mm_leastCost_274 1 rfl ?_
            refine r_put fp_Mm_276 d_Mm_leastCost_276 (fun h => nomatch h) rfl rfl (q0 := 0) rfl (Nat.le_of_ble_eq_true rfl) (cs' := [(m, .inr (12, [.int 0, .ref mp, .int pt, .ref mf, .ref mh, .ref mn, .ref mt, .ref mz, .ref mc_, .ref mq, .ref mgr, .int cl, .int wa, .int co_, .int fi, .int bu, .int ho, .ref ml, .ref mi, .ref mr, .int lh, .int mg, .int wd, .int ((rcO le mo si pp ps pa (-1, -1, 0, 0) 11).2.1), .int ((rcO le mo si pp ps pa (-1, -1, 0, 0) 11).2.2.1), .ref mm, .ref mu, .ref mk, .ref mx, .long po, .long de]))]) rfl ?_
            refine r_iload d_Mm_leastCost_279 3 rfl ?_
            refine r_iret d_Mm_leastCost_281 rfl rfl ?_
            exact ⟨rfl, rfl⟩
          · exact absurd c_262 (by decide)
      · exact absurd c_250 (rOk_nlt hok11 hs9)
    · have hne : ¬ kd = 11 := fun q => c_121 ((pgI_neg kd (by omega)).mpr q)
      have hk : kd < 11 := by omega
      rw [pgI_n hk]
      refine r_iconst d_Mm_leastCost_124 (v := 0) (by decide) ?_
      refine r_istore (lv' := [(12, .int 0), (11, .int (nI (100 - 10 * kd))), (10, .int ((rcO le mo si pp ps pa (-1, -1, 0, 0) kd).2.2.1)), (9, .int ((rcO le mo si pp ps pa (-1, -1, 0, 0) kd).2.1)), (8, .int ((rcO le mo si pp ps pa (-1, -1, 0, 0) kd).1)), (6, .int pa), (5, .int ps), (4, .int pp), (3, .int si), (2, .int mo), (1, .int le), (0, .ref m)]) d_Mm_leastCost_125 (by decide) rfl ?_
      refine r_lvE (lv2 := [(12, .int (nI 0)), (11, .int (nI (100 - 10 * kd))), (10, .int ((rcR le mo si pp ps pa (100 - 10 * kd) (rcO le mo si pp ps pa (-1, -1, 0, 0) kd) 0).2.2.1)), (9, .int ((rcR le mo si pp ps pa (100 - 10 * kd) (rcO le mo si pp ps pa (-1, -1, 0, 0) kd) 0).2.1)), (8, .int ((rcR le mo si pp ps pa (100 - 10 * kd) (rcO le mo si pp ps pa (-1, -1, 0, 0) kd) 0).1)), (6, .int pa), (5, .int ps), (4, .int pp), (3, .int si), (2, .int mo), (1, .int le), (0, .ref m)]) (rfl) ?_
      refine r_cs (cs2 := [(m, .inr (12, [.int 0, .ref mp, .int pt, .ref mf, .ref mh, .ref mn, .ref mt, .ref mz, .ref mc_, .ref mq, .ref mgr, .int cl, .int wa, .int co_, .int fi, .int bu, .int ho, .ref ml, .ref mi, .ref mr, .int lh, .int mg, .int wd, .int fpi, .int fal, .ref mm, .ref mu, .ref mk, .ref mx, .long po, .long de]))]) (rfl) ?_
      refine L_Mm_leastCostN_127 g m mp mf mh mn mt mz mc_ mq mgr ml mi mr mm mu mk mx th pt cl wa co_ fi bu ho lh mg wd fpi fal po de le mo si pp ps pa hw hpr hs9 w0 _ kd hk (?_) (nA (100 - 10 * kd) + 1) 0 (Nat.zero_le _) (by omega)
      refine r_iinc (lv' := [(11, .int (pgI (kd + 1))), (12, .int (nI (nA (100 - 10 * kd)))), (10, .int ((rcR le mo si pp ps pa (100 - 10 * kd) (rcO le mo si pp ps pa (-1, -1, 0, 0) kd) (nA (100 - 10 * kd))).2.2.1)), (9, .int ((rcR le mo si pp ps pa (100 - 10 * kd) (rcO le mo si pp ps pa (-1, -1, 0, 0) kd) (nA (100 - 10 * kd))).2.1)), (8, .int ((rcR le mo si pp ps pa (100 - 10 * kd) (rcO le mo si pp ps pa (-1, -1, 0, 0) kd) (nA (100 - 10 * kd))).1)), (6, .int pa), (5, .int ps), (4, .int pp), (3, .int si), (2, .int mo), (1, .int le), (0, .ref m)]) (v := pgI (kd + 1)) d_Mm_leastCost_240 (j := 1) rfl (by rw [← pgI_n (by omega)]; exact pgI_s kd (by omega)) (by decide) rfl ?_
      refine r_goto (tgt := 119) d_Mm_leastCost_243 (by decide) ?_
      refine r_lv (lv' := [(11, .int (pgI (kd + 1))), (10, .int ((rcR le mo si pp ps pa (100 - 10 * kd) (rcO le mo si pp ps pa (-1, -1, 0, 0) kd) (nA (100 - 10 * kd))).2.2.1)), (9, .int ((rcR le mo si pp ps pa (100 - 10 * kd) (rcO le mo si pp ps pa (-1, -1, 0, 0) kd) (nA (100 - 10 * kd))).2.1)), (8, .int ((rcR le mo si pp ps pa (100 - 10 * kd) (rcO le mo si pp ps pa (-1, -1, 0, 0) kd) (nA (100 - 10 * kd))).1)), (6, .int pa), (5, .int ps), (4, .int pp), (3, .int si), (2, .int mo), (1, .int le), (0, .ref m)]) [0, 2, 3, 4, 5, 6, 7, 8, 9, 10, 11] rfl ?_
      refine r_lvE (lv2 := [(11, .int (pgI (kd + 1))), (10, .int ((rcO le mo si pp ps pa (-1, -1, 0, 0) (kd + 1)).2.2.1)), (9, .int ((rcO le mo si pp ps pa (-1, -1, 0, 0) (kd + 1)).2.1)), (8, .int ((rcO le mo si pp ps pa (-1, -1, 0, 0) (kd + 1)).1)), (6, .int pa), (5, .int ps), (4, .int pp), (3, .int si), (2, .int mo), (1, .int le), (0, .ref m)]) (rfl) ?_
      refine r_cs (cs2 := [(m, .inr (12, [.int 0, .ref mp, .int pt, .ref mf, .ref mh, .ref mn, .ref mt, .ref mz, .ref mc_, .ref mq, .ref mgr, .int cl, .int wa, .int co_, .int fi, .int bu, .int ho, .ref ml, .ref mi, .ref mr, .int lh, .int mg, .int wd, .int fpi, .int fal, .ref mm, .ref mu, .ref mk, .ref mx, .long po, .long de]))]) (rfl) ?_
      exact ih (kd + 1) (by omega) (by omega)
set_option maxHeartbeats 4000000 in
set_option maxRecDepth 100000 in
theorem C_Mm_leastCostN (g : zG) (m mp mf mh mn mt mz mc_ mq mgr ml mi mr mm mu mk mx : Nat) (th pt cl wa co_ fi bu ho lh mg wd fpi fal : Int32) (po de : Int64) (le mo si pp ps pa : Int32) (hw : ((0 ≤ le ∧ le ≤ 450) ∧ (le ≤ mo ∧ mo ≤ 450) ∧ (0 ≤ si ∧ si ≤ 450) ∧ (1 ≤ pp ∧ pp ≤ 1000) ∧ (1 ≤ ps ∧ ps ≤ 1000) ∧ (1 ≤ pa ∧ pa ≤ 1000))) (hpr : ∀ P A, P + A ≤ 100 → 0 ≤ prS pp ps pa P A) (hs9 : ¬ (rcO le mo si pp ps pa (-1, -1, 0, 0) 11).1 < 0) : CT g M_Mm_leastCost [.ref m, .int le, .int mo, .int si, .int pp, .int ps, .int pa] [(m, .inr (12, [.int th, .ref mp, .int pt, .ref mf, .ref mh, .ref mn, .ref mt, .ref mz, .ref mc_, .ref mq, .ref mgr, .int cl, .int wa, .int co_, .int fi, .int bu, .int ho, .ref ml, .ref mi, .ref mr, .int lh, .int mg, .int wd, .int fpi, .int fal, .ref mm, .ref mu, .ref mk, .ref mx, .long po, .long de]))] (fun o cs1 => o = .inl (some (.int ((rcO le mo si pp ps pa (-1, -1, 0, 0) 11).1))) ∧ cs1 = [(m, .inr (12, [.int 0, .ref mp, .int pt, .ref mf, .ref mh, .ref mn, .ref mt, .ref mz, .ref mc_, .ref mq, .ref mgr, .int cl, .int wa, .int co_, .int fi, .int bu, .int ho, .ref ml, .ref mi, .ref mr, .int lh, .int mg, .int wd, .int ((rcO le mo si pp ps pa (-1, -1, 0, 0) 11).2.1), .int ((rcO le mo si pp ps pa (-1, -1, 0, 0) 11).2.2.1), .ref mm, .ref mu, .ref mk, .ref mx, .long po, .long de]))]) 0 0 := by
  refine z_of (by decide) rfl (Nat.le_of_ble_eq_true rfl) (fun w0 => ?_)
  refine r_lvE (lv2 := [(0, .ref m), (1, .int le), (2, .int mo), (3, .int si), (4, .int pp), (5, .int ps), (6, .int pa)]) rfl ?_
  refine r_aload_n d_Mm_leastCost_0 rfl 0 rfl ?_
  refine r_iconst d_Mm_leastCost_1 (v := 0) (by decide) ?_
  refine r_put fp_Mm_84 d_Mm_leastCost_2 (fun h => nomatch h) rfl rfl (q0 := 0) rfl (Nat.le_of_ble_eq_true rfl) (cs' := [(m, .inr (12, [.int 0, .ref mp, .int pt, .ref mf, .ref mh, .ref mn, .ref mt, .ref mz, .ref mc_, .ref mq, .ref mgr, .int cl, .int wa, .int co_, .int fi, .int bu, .int ho, .ref ml, .ref mi, .ref mr, .int lh, .int mg, .int wd, .int fpi, .int fal, .ref mm, .ref mu, .ref mk, .ref mx, .long po, .long de]))]) rfl ?_
  refine r_iload_n d_Mm_leastCost_5 rfl 1 rfl ?_
  refine r_iconst d_Mm_leastCost_6 (v := 0) (by decide) ?_
  refine r_sipush d_Mm_leastCost_7 (v := 450) (by decide) ?_
  refine r_callS (As := [.int le, .int 0, .int 450]) (rest := []) (csC := []) (is := []) ln_Mm_87 w_st_Mm_in ok_Mm_leastCost_Mm_in d_Mm_leastCost_10 (C_Mm_in g le 0 450) rfl rfl (Nat.le_of_ble_eq_true rfl) rfl (by decide) (by omega) (by omega) (fun E cs1 hx => ?_) (fun v cs1 hx => ?_)
  · exact absurd hx.1 (by simp)
  · obtain ⟨e1, rfl⟩ := hx
    rw [if_pos hw.1] at e1
    cases e1
    refine ⟨rfl, ?_⟩
    refine r_st (st2 := [.int 1]) rfl ?_
    refine r_cs (cs2 := [(m, .inr (12, [.int 0, .ref mp, .int pt, .ref mf, .ref mh, .ref mn, .ref mt, .ref mz, .ref mc_, .ref mq, .ref mgr, .int cl, .int wa, .int co_, .int fi, .int bu, .int ho, .ref ml, .ref mi, .ref mr, .int lh, .int mg, .int wd, .int fpi, .int fal, .ref mm, .ref mu, .ref mk, .ref mx, .long po, .long de]))]) rfl ?_
    refine r_if_eq (tgt := 47) d_Mm_leastCost_13 (by decide) (fun c_13 => ?_) (fun c_13 => ?_)
    · exact absurd c_13 (by decide)
    · refine r_iload_n d_Mm_leastCost_16 rfl 2 rfl ?_
      refine r_iconst d_Mm_leastCost_17 (v := 0) (by decide) ?_
      refine r_sipush d_Mm_leastCost_18 (v := 450) (by decide) ?_
      refine r_callS (As := [.int mo, .int 0, .int 450]) (rest := []) (csC := []) (is := []) ln_Mm_87 w_st_Mm_in ok_Mm_leastCost_Mm_in d_Mm_leastCost_21 (C_Mm_in g mo 0 450) rfl rfl (Nat.le_of_ble_eq_true rfl) rfl (by decide) (by omega) (by omega) (fun E cs1 hx => ?_) (fun v cs1 hx => ?_)
      · exact absurd hx.1 (by simp)
      · obtain ⟨e1, rfl⟩ := hx
        rw [if_pos ⟨Int32.le_trans hw.1.1 hw.2.1.1, hw.2.1.2⟩] at e1
        cases e1
        refine ⟨rfl, ?_⟩
        refine r_st (st2 := [.int 1]) rfl ?_
        refine r_cs (cs2 := [(m, .inr (12, [.int 0, .ref mp, .int pt, .ref mf, .ref mh, .ref mn, .ref mt, .ref mz, .ref mc_, .ref mq, .ref mgr, .int cl, .int wa, .int co_, .int fi, .int bu, .int ho, .ref ml, .ref mi, .ref mr, .int lh, .int mg, .int wd, .int fpi, .int fal, .ref mm, .ref mu, .ref mk, .ref mx, .long po, .long de]))]) rfl ?_
        refine r_if_eq (tgt := 47) d_Mm_leastCost_24 (by decide) (fun c_24 => ?_) (fun c_24 => ?_)
        · exact absurd c_24 (by decide)
        · refine r_iload_n d_Mm_leastCost_27 rfl 3 rfl ?_
          refine r_iconst d_Mm_leastCost_28 (v := 0) (by decide) ?_
          refine r_sipush d_Mm_leastCost_29 (v := 450) (by decide) ?_
          refine r_callS (As := [.int si, .int 0, .int 450]) (rest := []) (csC := []) (is := []) ln_Mm_87 w_st_Mm_in ok_Mm_leastCost_Mm_in d_Mm_leastCost_32 (C_Mm_in g si 0 450) rfl rfl (Nat.le_of_ble_eq_true rfl) rfl (by decide) (by omega) (by omega) (fun E cs1 hx => ?_) (fun v cs1 hx => ?_)
          · exact absurd hx.1 (by simp)
          · obtain ⟨e1, rfl⟩ := hx
            rw [if_pos hw.2.2.1] at e1
            cases e1
            refine ⟨rfl, ?_⟩
            refine r_st (st2 := [.int 1]) rfl ?_
            refine r_cs (cs2 := [(m, .inr (12, [.int 0, .ref mp, .int pt, .ref mf, .ref mh, .ref mn, .ref mt, .ref mz, .ref mc_, .ref mq, .ref mgr, .int cl, .int wa, .int co_, .int fi, .int bu, .int ho, .ref ml, .ref mi, .ref mr, .int lh, .int mg, .int wd, .int fpi, .int fal, .ref mm, .ref mu, .ref mk, .ref mx, .long po, .long de]))]) rfl ?_
            refine r_if_eq (tgt := 47) d_Mm_leastCost_35 (by decide) (fun c_35 => ?_) (fun c_35 => ?_)
            · exact absurd c_35 (by decide)
            · refine r_iload_n d_Mm_leastCost_38 rfl 2 rfl ?_
              refine r_iload_n d_Mm_leastCost_39 rfl 1 rfl ?_
              refine r_icmp_lt (tgt := 47) d_Mm_leastCost_40 (by decide) (fun c_40 => ?_) (fun c_40 => ?_)
              · exact absurd hw.2.1.1 (Int32.not_le.mpr c_40)
              · refine r_iconst d_Mm_leastCost_43 (v := 1) (by decide) ?_
                refine r_goto (tgt := 48) d_Mm_leastCost_44 (by decide) ?_
                refine r_istore (lv' := [(7, .int 1), (0, .ref m), (1, .int le), (2, .int mo), (3, .int si), (4, .int pp), (5, .int ps), (6, .int pa)]) d_Mm_leastCost_48 (by decide) rfl ?_
                refine r_aload_n d_Mm_leastCost_50 rfl 1 rfl ?_
                refine r_iload d_Mm_leastCost_51 0 rfl ?_
                refine r_if_eq (tgt := 92) d_Mm_leastCost_53 (by decide) (fun c_53 => ?_) (fun c_53 => ?_)
                · exact absurd c_53 (by decide)
                · refine r_iload d_Mm_leastCost_56 5 rfl ?_
                  refine r_iconst d_Mm_leastCost_58 (v := 1) (by decide) ?_
                  refine r_sipush d_Mm_leastCost_59 (v := 1000) (by decide) ?_
                  refine r_callS (As := [.int pp, .int 1, .int 1000]) (rest := [.ref m]) (csC := []) (is := []) ln_Mm_87 w_st_Mm_in ok_Mm_leastCost_Mm_in d_Mm_leastCost_62 (C_Mm_in g pp 1 1000) rfl rfl (Nat.le_of_ble_eq_true rfl) rfl (by decide) (by omega) (by omega) (fun E cs1 hx => ?_) (fun v cs1 hx => ?_)
                  · exact absurd hx.1 (by simp)
                  · obtain ⟨e1, rfl⟩ := hx
                    rw [if_pos hw.2.2.2.1] at e1
                    cases e1
                    refine ⟨rfl, ?_⟩
                    refine r_st (st2 := [.int 1, .ref m]) rfl ?_
                    refine r_cs (cs2 := [(m, .inr (12, [.int 0, .ref mp, .int pt, .ref mf, .ref mh, .ref mn, .ref mt, .ref mz, .ref mc_, .ref mq, .ref mgr, .int cl, .int wa, .int co_, .int fi, .int bu, .int ho, .ref ml, .ref mi, .ref mr, .int lh, .int mg, .int wd, .int fpi, .int fal, .ref mm, .ref mu, .ref mk, .ref mx, .long po, .long de]))]) rfl ?_
                    refine r_if_eq (tgt := 92) d_Mm_leastCost_65 (by decide) (fun c_65 => ?_) (fun c_65 => ?_)
                    · exact absurd c_65 (by decide)
                    · refine r_iload d_Mm_leastCost_68 6 rfl ?_
                      refine r_iconst d_Mm_leastCost_70 (v := 1) (by decide) ?_
                      refine r_sipush d_Mm_leastCost_71 (v := 1000) (by decide) ?_
                      refine r_callS (As := [.int ps, .int 1, .int 1000]) (rest := [.ref m]) (csC := []) (is := []) ln_Mm_87 w_st_Mm_in ok_Mm_leastCost_Mm_in d_Mm_leastCost_74 (C_Mm_in g ps 1 1000) rfl rfl (Nat.le_of_ble_eq_true rfl) rfl (by decide) (by omega) (by omega) (fun E cs1 hx => ?_) (fun v cs1 hx => ?_)
                      · exact absurd hx.1 (by simp)
                      · obtain ⟨e1, rfl⟩ := hx
                        rw [if_pos hw.2.2.2.2.1] at e1
                        cases e1
                        refine ⟨rfl, ?_⟩
                        refine r_st (st2 := [.int 1, .ref m]) rfl ?_
                        refine r_cs (cs2 := [(m, .inr (12, [.int 0, .ref mp, .int pt, .ref mf, .ref mh, .ref mn, .ref mt, .ref mz, .ref mc_, .ref mq, .ref mgr, .int cl, .int wa, .int co_, .int fi, .int bu, .int ho, .ref ml, .ref mi, .ref mr, .int lh, .int mg, .int wd, .int fpi, .int fal, .ref mm, .ref mu, .ref mk, .ref mx, .long po, .long de]))]) rfl ?_
                        refine r_if_eq (tgt := 92) d_Mm_leastCost_77 (by decide) (fun c_77 => ?_) (fun c_77 => ?_)
                        · exact absurd c_77 (by decide)
                        · refine r_iload d_Mm_leastCost_80 7 rfl ?_
                          refine r_iconst d_Mm_leastCost_82 (v := 1) (by decide) ?_
                          refine r_sipush d_Mm_leastCost_83 (v := 1000) (by decide) ?_
                          refine r_callS (As := [.int pa, .int 1, .int 1000]) (rest := [.ref m]) (csC := []) (is := []) ln_Mm_87 w_st_Mm_in ok_Mm_leastCost_Mm_in d_Mm_leastCost_86 (C_Mm_in g pa 1 1000) rfl rfl (Nat.le_of_ble_eq_true rfl) rfl (by decide) (by omega) (by omega) (fun E cs1 hx => ?_) (fun v cs1 hx => ?_)
                          · exact absurd hx.1 (by simp)
                          · obtain ⟨e1, rfl⟩ := hx
                            rw [if_pos hw.2.2.2.2.2] at e1
                            cases e1
                            refine ⟨rfl, ?_⟩
                            refine r_st (st2 := [.int 1, .ref m]) rfl ?_
                            refine r_cs (cs2 := [(m, .inr (12, [.int 0, .ref mp, .int pt, .ref mf, .ref mh, .ref mn, .ref mt, .ref mz, .ref mc_, .ref mq, .ref mgr, .int cl, .int wa, .int co_, .int fi, .int bu, .int ho, .ref ml, .ref mi, .ref mr, .int lh, .int mg, .int wd, .int fpi, .int fal, .ref mm, .ref mu, .ref mk, .ref mx, .long po, .long de]))]) rfl ?_
                            refine r_if_ne (tgt := 96) d_Mm_leastCost_89 (by decide) (fun c_89 => ?_) (fun c_89 => ?_)
                            · refine r_iconst d_Mm_leastCost_96 (v := 0) (by decide) ?_
                              refine r_iconst d_Mm_leastCost_97 (v := 1) (by decide) ?_
                              refine r_callV (As := [.int 0, .int 1]) (rest := []) (csC := [(m, .inr (12, [.int 0, .ref mp, .int pt, .ref mf, .ref mh, .ref mn, .ref mt, .ref mz, .ref mc_, .ref mq, .ref mgr, .int cl, .int wa, .int co_, .int fi, .int bu, .int ho, .ref ml, .ref mi, .ref mr, .int lh, .int mg, .int wd, .int fpi, .int fal, .ref mm, .ref mu, .ref mk, .ref mx, .long po, .long de]))]) (is := [0]) (q0 := 0) rfl rfl ln_Mm_103 w_im_Mm_fails w_se_Mm_fails ok_Mm_leastCost_Mm_fails d_Mm_leastCost_98 (C_Mm_fails0 g m mp mf mh mn mt mz mc_ mq mgr ml mi mr mm mu mk mx th pt cl wa co_ fi bu ho lh mg wd fpi fal po de 1) rfl rfl (Nat.le_of_ble_eq_true rfl) rfl (by decide) (by omega) (by omega) (fun E cs1 hx => ?_) (fun v cs1 hx => ?_)
                              · exact absurd hx.1 (by simp)
                              · obtain ⟨e1, rfl⟩ := hx
                                cases e1
                                refine ⟨rfl, ?_⟩
                                refine r_st (st2 := [.int 0]) rfl ?_
                                refine r_cs (cs2 := [(m, .inr (12, [.int 0, .ref mp, .int pt, .ref mf, .ref mh, .ref mn, .ref mt, .ref mz, .ref mc_, .ref mq, .ref mgr, .int cl, .int wa, .int co_, .int fi, .int bu, .int ho, .ref ml, .ref mi, .ref mr, .int lh, .int mg, .int wd, .int fpi, .int fal, .ref mm, .ref mu, .ref mk, .ref mx, .long po, .long de]))]) rfl ?_
                                refine r_if_eq (tgt := 106) d_Mm_leastCost_101 (by decide) (fun c_101 => ?_) (fun c_101 => ?_)
                                · refine r_iconst d_Mm_leastCost_106 (v := (-1)) (by decide) ?_
                                  refine r_istore (lv' := [(8, .int (-1)), (7, .int 1), (0, .ref m), (1, .int le), (2, .int mo), (3, .int si), (4, .int pp), (5, .int ps), (6, .int pa)]) d_Mm_leastCost_107 (by decide) rfl ?_
                                  refine r_iconst d_Mm_leastCost_109 (v := (-1)) (by decide) ?_
                                  refine r_istore (lv' := [(9, .int (-1)), (8, .int (-1)), (7, .int 1), (0, .ref m), (1, .int le), (2, .int mo), (3, .int si), (4, .int pp), (5, .int ps), (6, .int pa)]) d_Mm_leastCost_110 (by decide) rfl ?_
                                  refine r_iconst d_Mm_leastCost_112 (v := 0) (by decide) ?_
                                  refine r_istore (lv' := [(10, .int 0), (9, .int (-1)), (8, .int (-1)), (7, .int 1), (0, .ref m), (1, .int le), (2, .int mo), (3, .int si), (4, .int pp), (5, .int ps), (6, .int pa)]) d_Mm_leastCost_113 (by decide) rfl ?_
                                  refine r_bipush d_Mm_leastCost_115 (v := 100) (by decide) ?_
                                  refine r_istore (lv' := [(11, .int 100), (10, .int 0), (9, .int (-1)), (8, .int (-1)), (7, .int 1), (0, .ref m), (1, .int le), (2, .int mo), (3, .int si), (4, .int pp), (5, .int ps), (6, .int pa)]) d_Mm_leastCost_117 (by decide) rfl ?_
                                  refine r_lv (lv' := [(11, .int 100), (10, .int 0), (9, .int (-1)), (8, .int (-1)), (6, .int pa), (5, .int ps), (4, .int pp), (3, .int si), (2, .int mo), (1, .int le), (0, .ref m)]) [0, 1, 2, 3, 11, 10, 9, 8, 7, 6, 5] rfl ?_
                                  refine r_lvE (lv2 := [(11, .int (pgI 0)), (10, .int ((rcO le mo si pp ps pa (-1, -1, 0, 0) 0).2.2.1)), (9, .int ((rcO le mo si pp ps pa (-1, -1, 0, 0) 0).2.1)), (8, .int ((rcO le mo si pp ps pa (-1, -1, 0, 0) 0).1)), (6, .int pa), (5, .int ps), (4, .int pp), (3, .int si), (2, .int mo), (1, .int le), (0, .ref m)]) (rfl) ?_
                                  refine r_cs (cs2 := [(m, .inr (12, [.int 0, .ref mp, .int pt, .ref mf, .ref mh, .ref mn, .ref mt, .ref mz, .ref mc_, .ref mq, .ref mgr, .int cl, .int wa, .int co_, .int fi, .int bu, .int ho, .ref ml, .ref mi, .ref mr, .int lh, .int mg, .int wd, .int fpi, .int fal, .ref mm, .ref mu, .ref mk, .ref mx, .long po, .long de]))]) (rfl) ?_
                                  exact L_Mm_leastCostN_119 g m mp mf mh mn mt mz mc_ mq mgr ml mi mr mm mu mk mx th pt cl wa co_ fi bu ho lh mg wd fpi fal po de le mo si pp ps pa hw hpr hs9 w0 _  (11 + 1) 0 (Nat.zero_le _) (by omega)
                                · exact absurd c_101 (by decide)
                            · exact absurd c_89 (by decide)
end
section
theorem z_nar01 {v : Int32} (h : v = 0 ∨ v = 1) : narrow .boolean (Value.int v) = .int v := by
  rcases h with rfl | rfl <;> rfl
def dyI (i : Nat) : Int32 := Int32.ofInt (8 - (i : Int))
theorem dyF : ∀ i, i < 10 → (dyI i < 0 → i = 9) ∧ (¬ dyI i < 0 → i < 9 ∧ dyI i = nI (8 - i)) := by decide
theorem dyS : ∀ i, i < 9 → nI (8 - i) + (-1) = dyI (i + 1) := by decide
def cnM (fl : Nat → Int32) : Nat := fa_cnt (fun k => decide (fl k = -1)) 108
theorem cn_ups {fl : Nat → Int32} {c : Nat} {v : Int32} (h : fl c = -1) (hv : ¬ v = -1) : ∀ n, (n ≤ c → fa_cnt (fun k => decide (upd fl c v k = -1)) n = fa_cnt (fun k => decide (fl k = -1)) n) ∧ (c < n → fa_cnt (fun k => decide (upd fl c v k = -1)) n + 1 = fa_cnt (fun k => decide (fl k = -1)) n)
  | 0 => ⟨fun _ => rfl, fun q => absurd q (by omega)⟩
  | n + 1 => by
    have ih := cn_ups h hv n
    refine ⟨fun q => ?_, fun q => ?_⟩
    · have e : upd fl c v n = fl n := if_neg (by omega)
      rw [fa_cnt, fa_cnt, ih.1 (by omega), e]
    · by_cases hn : n = c
      · subst hn
        have e : upd fl n v n = v := if_pos rfl
        rw [fa_cnt_yes (p := fun k => decide (fl k = -1)) (decide_eq_true h), fa_cnt_no (p := fun k => decide (upd fl n v k = -1)) (decide_eq_false (by rw [e]; exact hv)), ih.1 (Nat.le_refl _)]
      · have e : upd fl c v n = fl n := if_neg hn
        have ih2 := ih.2 (by omega)
        rw [fa_cnt, fa_cnt, e]
        omega
theorem cn_up {fl : Nat → Int32} {c : Nat} {v : Int32} (hc : c < 108) (h : fl c = -1) (hv : ¬ v = -1) : cnM (upd fl c v) + 1 = cnM fl := (cn_ups h hv 108).2 hc
theorem cn_le (fl : Nat → Int32) : cnM fl ≤ 108 := fa_cnt_le _ 108
def muM (fl : Nat → Int32) (go : Int32) : Nat := cnM fl + if go = 0 then 0 else 1
theorem mu_le (fl : Nat → Int32) (go : Int32) : muM fl go < 110 := by
  have := cn_le fl
  unfold muM
  split <;> omega
def goI (fl fl0 : Nat → Int32) (go : Int32) : Prop := (go = 0 ∧ fl = fl0) ∨ (go = 1 ∧ cnM fl < cnM fl0)
theorem go_01 {fl fl0 : Nat → Int32} {go : Int32} (h : goI fl fl0 go) : go = 0 ∨ go = 1 := h.elim (fun q => Or.inl q.1) (fun q => Or.inr q.1)
theorem mu_s {fl fl0 : Nat → Int32} {go g0 : Int32} {d : Nat} (h : goI fl fl0 go) (h0 : ¬ g0 = 0) (hd : muM fl0 g0 < d + 1) : muM fl go < d := by
  unfold muM at hd ⊢
  rw [if_neg h0] at hd
  rcases h with ⟨rfl, rfl⟩ | ⟨rfl, h⟩
  · rw [if_pos rfl]; omega
  · rw [if_neg (by decide)]; omega
theorem mu_t {fl fl0 : Nat → Int32} {go : Int32} {t : Nat} (h : goI fl fl0 go) (h0 : t + cnM fl0 ≤ 109) : ¬ go = 0 → t + 1 + cnM fl ≤ 109 := fun q => by
  rcases h with ⟨e, _⟩ | ⟨_, h⟩
  · exact absurd e q
  · omega
theorem go_up {fl fl0 : Nat → Int32} {go : Int32} {c t : Nat} (hc : c < 108) (h : fl c = -1) (ht : t ≤ 109) (q : goI fl fl0 go) : goI (upd fl c (nI t)) fl0 1 := by
  have e := cn_up hc h (nI_nm1 (a := t) (by omega))
  rcases q with ⟨_, rfl⟩ | ⟨_, q⟩
  · exact Or.inr ⟨rfl, by omega⟩
  · exact Or.inr ⟨rfl, by omega⟩
theorem d_Mm_number_27 : decode prog_14_method_27_code 27 = .ok (.iconst 1, 1) := zo_4 (zd_b zq_prog_14_method_27_code_0 27 rfl rfl rfl)
theorem d_Mm_number_28 : decode prog_14_method_27_code 28 = .ok (.goto 4, 3) := zo_167 (d := 0) (e := 4) (zd_b zq_prog_14_method_27_code_0 28 rfl rfl rfl) (zd_b zq_prog_14_method_27_code_0 29 rfl rfl rfl) (zd_b zq_prog_14_method_27_code_0 30 rfl rfl rfl) (by decide +kernel)
theorem d_Mm_number_94 : decode prog_14_method_27_code 94 = .ok (.aload_n 1, 1) := zo_43 (zd_b zq_prog_14_method_27_code_2 30 rfl rfl rfl)
theorem d_Mm_number_95 : decode prog_14_method_27_code 95 = .ok (.iload_n 2, 1) := zo_28 (zd_b zq_prog_14_method_27_code_2 31 rfl rfl rfl)
theorem d_Mm_number_96 : decode prog_14_method_27_code 96 = .ok (.caload, 1) := zo_52 (zd_b zq_prog_14_method_27_code_3 0 rfl rfl rfl)
theorem d_Mm_number_97 : decode prog_14_method_27_code 97 = .ok (.bipush 111, 2) := zo_16 (d := 111) (zd_b zq_prog_14_method_27_code_3 1 rfl rfl rfl) (zd_b zq_prog_14_method_27_code_3 2 rfl rfl rfl) (by decide +kernel)
theorem d_Mm_number_99 : decode prog_14_method_27_code 99 = .ok (.if_icmp .ne 7, 3) := zo_160 (d := 0) (e := 7) (zd_b zq_prog_14_method_27_code_3 3 rfl rfl rfl) (zd_b zq_prog_14_method_27_code_3 4 rfl rfl rfl) (zd_b zq_prog_14_method_27_code_3 5 rfl rfl rfl) (by decide +kernel)
theorem d_Mm_number_102 : decode prog_14_method_27_code 102 = .ok (.iconst 3, 1) := zo_6 (zd_b zq_prog_14_method_27_code_3 6 rfl rfl rfl)
theorem d_Mm_number_103 : decode prog_14_method_27_code 103 = .ok (.goto 4, 3) := zo_167 (d := 0) (e := 4) (zd_b zq_prog_14_method_27_code_3 7 rfl rfl rfl) (zd_b zq_prog_14_method_27_code_3 8 rfl rfl rfl) (zd_b zq_prog_14_method_27_code_3 9 rfl rfl rfl) (by decide +kernel)
theorem d_Mm_number_60 : decode prog_14_method_27_code 60 = .ok (.bipush 14, 2) := zo_16 (d := 14) (zd_b zq_prog_14_method_27_code_1 28 rfl rfl rfl) (zd_b zq_prog_14_method_27_code_1 29 rfl rfl rfl) (by decide +kernel)
theorem d_Mm_number_62 : decode prog_14_method_27_code 62 = .ok (.ireturn, 1) := zo_172 (zd_b zq_prog_14_method_27_code_1 30 rfl rfl rfl)
theorem d_Mm_number_10 : decode prog_14_method_27_code 10 = .ok (.iconst 1, 1) := zo_4 (zd_b zq_prog_14_method_27_code_0 10 rfl rfl rfl)
theorem d_Mm_number_11 : decode prog_14_method_27_code 11 = .ok (.goto 4, 3) := zo_167 (d := 0) (e := 4) (zd_b zq_prog_14_method_27_code_0 11 rfl rfl rfl) (zd_b zq_prog_14_method_27_code_0 12 rfl rfl rfl) (zd_b zq_prog_14_method_27_code_0 13 rfl rfl rfl) (by decide +kernel)
theorem d_Mm_number_68 : decode prog_14_method_27_code 68 = .ok (.iload 5, 2) := zo_21 (d := 5) (zd_b zq_prog_14_method_27_code_2 4 rfl rfl rfl) (zd_b zq_prog_14_method_27_code_2 5 rfl rfl rfl)
theorem d_Mm_number_70 : decode prog_14_method_27_code 70 = .ok (.ifCond .eq 6, 3) := zo_153 (d := 0) (e := 6) (zd_b zq_prog_14_method_27_code_2 6 rfl rfl rfl) (zd_b zq_prog_14_method_27_code_2 7 rfl rfl rfl) (zd_b zq_prog_14_method_27_code_2 8 rfl rfl rfl) (by decide +kernel)
theorem d_Mm_number_81 : decode prog_14_method_27_code 81 = .ok (.aload_n 1, 1) := zo_43 (zd_b zq_prog_14_method_27_code_2 17 rfl rfl rfl)
theorem d_Mm_number_82 : decode prog_14_method_27_code 82 = .ok (.iload_n 3, 1) := zo_29 (zd_b zq_prog_14_method_27_code_2 18 rfl rfl rfl)
theorem d_Mm_number_83 : decode prog_14_method_27_code 83 = .ok (.caload, 1) := zo_52 (zd_b zq_prog_14_method_27_code_2 19 rfl rfl rfl)
theorem d_Mm_number_84 : decode prog_14_method_27_code 84 = .ok (.bipush 111, 2) := zo_16 (d := 111) (zd_b zq_prog_14_method_27_code_2 20 rfl rfl rfl) (zd_b zq_prog_14_method_27_code_2 21 rfl rfl rfl) (by decide +kernel)
theorem d_Mm_number_86 : decode prog_14_method_27_code 86 = .ok (.if_icmp .eq 16, 3) := zo_159 (d := 0) (e := 16) (zd_b zq_prog_14_method_27_code_2 22 rfl rfl rfl) (zd_b zq_prog_14_method_27_code_2 23 rfl rfl rfl) (zd_b zq_prog_14_method_27_code_2 24 rfl rfl rfl) (by decide +kernel)
theorem d_Mm_number_73 : decode prog_14_method_27_code 73 = .ok (.bipush 12, 2) := zo_16 (d := 12) (zd_b zq_prog_14_method_27_code_2 9 rfl rfl rfl) (zd_b zq_prog_14_method_27_code_2 10 rfl rfl rfl) (by decide +kernel)
theorem d_Mm_number_75 : decode prog_14_method_27_code 75 = .ok (.ireturn, 1) := zo_172 (zd_b zq_prog_14_method_27_code_2 11 rfl rfl rfl)
set_option maxHeartbeats 4000000 in
set_option maxRecDepth 100000 in
theorem C_Mm_numberW (g : zG) (m mp mf mh mn mt mz mc_ mq mgr ml mi mr mm mu mk mx : Nat) (th pt cl wa co_ fi bu ho lh mg wd fpi fal : Int32) (po de : Int64) (b : Nat) (f : Nat → Int32) (fl : Nat → Int32) (c oo : Nat) (hc : c < 108) (hoo : oo < 108) : CT g M_Mm_number [.ref m, .ref b, .int (nI c), .int (nI oo)] [(m, .inr (12, [.int th, .ref mp, .int pt, .ref mf, .ref mh, .ref mn, .ref mt, .ref mz, .ref mc_, .ref mq, .ref mgr, .int cl, .int wa, .int co_, .int fi, .int bu, .int ho, .ref ml, .ref mi, .ref mr, .int lh, .int mg, .int wd, .int fpi, .int fal, .ref mm, .ref mu, .ref mk, .ref mx, .long po, .long de])), (b, .inl (1, 108, .inl f)), (mf, .inl (0, 108, .inl fl))] (fun o cs1 => ∃ v9, o = .inl (some (.int v9)) ∧ cs1 = [(m, .inr (12, [.int th, .ref mp, .int pt, .ref mf, .ref mh, .ref mn, .ref mt, .ref mz, .ref mc_, .ref mq, .ref mgr, .int cl, .int wa, .int co_, .int fi, .int bu, .int ho, .ref ml, .ref mi, .ref mr, .int lh, .int mg, .int wd, .int fpi, .int fal, .ref mm, .ref mu, .ref mk, .ref mx, .long po, .long de])), (b, .inl (1, 108, .inl f)), (mf, .inl (0, 108, .inl fl))]) 0 0 := by
  refine z_of (by decide) rfl (Nat.le_of_ble_eq_true rfl) (fun w0 => ?_)
  refine r_lvE (lv2 := [(0, .ref m), (1, .ref b), (2, .int (nI c)), (3, .int (nI oo))]) rfl ?_
  refine r_aload_n d_Mm_number_0 rfl 0 rfl ?_
  refine r_get fs_Mm_17 d_Mm_number_1 (q0 := 0) rfl rfl ?_
  refine r_iload_n d_Mm_number_4 rfl 2 rfl ?_
  refine r_iald d_Mm_number_5 (q0 := 2) rfl (vp_in_nI (by omega) (by omega)) (v := fl c) (by rw [nI_clamp (by omega)]) ?_
  refine r_iconst d_Mm_number_6 (v := (-1)) (by decide) ?_
  refine r_icmp_eq (tgt := 14) d_Mm_number_7 (by decide) (fun c_7 => ?_) (fun c_7 => ?_)
  · refine r_iconst d_Mm_number_14 (v := 0) (by decide) ?_
    refine r_istore (lv' := [(4, .int 0), (0, .ref m), (1, .ref b), (2, .int (nI c)), (3, .int (nI oo))]) d_Mm_number_15 (by decide) rfl ?_
    refine r_aload_n d_Mm_number_17 rfl 1 rfl ?_
    refine r_get fs_Mm_17 d_Mm_number_18 (q0 := 0) rfl rfl ?_
    refine r_iload_n d_Mm_number_21 rfl 4 rfl ?_
    refine r_iald d_Mm_number_22 (q0 := 2) rfl (vp_in_nI (by omega) (by omega)) (v := fl oo) (by rw [nI_clamp (by omega)]) ?_
    refine r_iconst d_Mm_number_23 (v := (-1)) (by decide) ?_
    refine r_icmp_eq (tgt := 31) d_Mm_number_24 (by decide) (fun c_24 => ?_) (fun c_24 => ?_)
    · refine r_iconst d_Mm_number_31 (v := 0) (by decide) ?_
      refine r_istore (lv' := [(5, .int 0), (4, .int 0), (0, .ref m), (1, .ref b), (2, .int (nI c)), (3, .int (nI oo))]) d_Mm_number_32 (by decide) rfl ?_
      refine r_aload_n d_Mm_number_34 rfl 3 rfl ?_
      refine r_iload_n d_Mm_number_35 rfl 4 rfl ?_
      refine r_cald d_Mm_number_36 (q0 := 1) rfl (vp_in_nI (by omega) (by omega)) (v := f c) (by rw [nI_clamp (by omega)]) ?_
      refine r_bipush d_Mm_number_37 (v := 107) (by decide) ?_
      refine r_icmp_ne (tgt := 47) d_Mm_number_39 (by decide) (fun c_39 => ?_) (fun c_39 => ?_)
      · refine r_aload_n d_Mm_number_47 rfl 3 rfl ?_
        refine r_iload_n d_Mm_number_48 rfl 5 rfl ?_
        refine r_cald d_Mm_number_49 (q0 := 1) rfl (vp_in_nI (by omega) (by omega)) (v := f oo) (by rw [nI_clamp (by omega)]) ?_
        refine r_bipush d_Mm_number_50 (v := 107) (by decide) ?_
        refine r_icmp_ne (tgt := 63) d_Mm_number_52 (by decide) (fun c_52 => ?_) (fun c_52 => ?_)
        · refine r_iload d_Mm_number_63 1 rfl ?_
          refine r_if_eq (tgt := 76) d_Mm_number_65 (by decide) (fun c_65 => ?_) (fun c_65 => ?_)
          · refine r_iload d_Mm_number_76 1 rfl ?_
            refine r_if_eq (tgt := 89) d_Mm_number_78 (by decide) (fun c_78 => ?_) (fun c_78 => ?_)
            · refine r_iload d_Mm_number_89 0 rfl ?_
              refine r_if_eq (tgt := 106) d_Mm_number_91 (by decide) (fun c_91 => ?_) (fun c_91 => ?_)
              · refine r_iconst d_Mm_number_106 (v := 4) (by decide) ?_
                refine r_iret d_Mm_number_107 rfl rfl ?_
                exact ⟨_, rfl, rfl⟩
              · exact absurd c_91 (by decide)
            · exact absurd c_78 (by decide)
          · exact absurd c_65 (by decide)
        · refine r_iload d_Mm_number_55 1 rfl ?_
          refine r_if_eq (tgt := 63) d_Mm_number_57 (by decide) (fun c_57 => ?_) (fun c_57 => ?_)
          · refine r_iload d_Mm_number_63 1 rfl ?_
            refine r_if_eq (tgt := 76) d_Mm_number_65 (by decide) (fun c_65 => ?_) (fun c_65 => ?_)
            · refine r_iload d_Mm_number_76 1 rfl ?_
              refine r_if_eq (tgt := 89) d_Mm_number_78 (by decide) (fun c_78 => ?_) (fun c_78 => ?_)
              · refine r_iload d_Mm_number_89 0 rfl ?_
                refine r_if_eq (tgt := 106) d_Mm_number_91 (by decide) (fun c_91 => ?_) (fun c_91 => ?_)
                · refine r_iconst d_Mm_number_106 (v := 4) (by decide) ?_
                  refine r_iret d_Mm_number_107 rfl rfl ?_
                  exact ⟨_, rfl, rfl⟩
                · exact absurd c_91 (by decide)
              · exact absurd c_78 (by decide)
            · exact absurd c_65 (by decide)
          · exact absurd c_57 (by decide)
      · refine r_iload d_Mm_number_42 0 rfl ?_
        refine r_if_ne (tgt := 60) d_Mm_number_44 (by decide) (fun c_44 => ?_) (fun c_44 => ?_)
        · exact absurd c_44 (by decide)
        · refine r_aload_n d_Mm_number_47 rfl 3 rfl ?_
          refine r_iload_n d_Mm_number_48 rfl 5 rfl ?_
          refine r_cald d_Mm_number_49 (q0 := 1) rfl (vp_in_nI (by omega) (by omega)) (v := f oo) (by rw [nI_clamp (by omega)]) ?_
          refine r_bipush d_Mm_number_50 (v := 107) (by decide) ?_
          refine r_icmp_ne (tgt := 63) d_Mm_number_52 (by decide) (fun c_52 => ?_) (fun c_52 => ?_)
          · refine r_iload d_Mm_number_63 1 rfl ?_
            refine r_if_eq (tgt := 76) d_Mm_number_65 (by decide) (fun c_65 => ?_) (fun c_65 => ?_)
            · refine r_iload d_Mm_number_76 1 rfl ?_
              refine r_if_eq (tgt := 89) d_Mm_number_78 (by decide) (fun c_78 => ?_) (fun c_78 => ?_)
              · refine r_iload d_Mm_number_89 0 rfl ?_
                refine r_if_eq (tgt := 106) d_Mm_number_91 (by decide) (fun c_91 => ?_) (fun c_91 => ?_)
                · refine r_iconst d_Mm_number_106 (v := 4) (by decide) ?_
                  refine r_iret d_Mm_number_107 rfl rfl ?_
                  exact ⟨_, rfl, rfl⟩
                · exact absurd c_91 (by decide)
              · exact absurd c_78 (by decide)
            · exact absurd c_65 (by decide)
          · refine r_iload d_Mm_number_55 1 rfl ?_
            refine r_if_eq (tgt := 63) d_Mm_number_57 (by decide) (fun c_57 => ?_) (fun c_57 => ?_)
            · refine r_iload d_Mm_number_63 1 rfl ?_
              refine r_if_eq (tgt := 76) d_Mm_number_65 (by decide) (fun c_65 => ?_) (fun c_65 => ?_)
              · refine r_iload d_Mm_number_76 1 rfl ?_
                refine r_if_eq (tgt := 89) d_Mm_number_78 (by decide) (fun c_78 => ?_) (fun c_78 => ?_)
                · refine r_iload d_Mm_number_89 0 rfl ?_
                  refine r_if_eq (tgt := 106) d_Mm_number_91 (by decide) (fun c_91 => ?_) (fun c_91 => ?_)
                  · refine r_iconst d_Mm_number_106 (v := 4) (by decide) ?_
                    refine r_iret d_Mm_number_107 rfl rfl ?_
                    exact ⟨_, rfl, rfl⟩
                  · exact absurd c_91 (by decide)
                · exact absurd c_78 (by decide)
              · exact absurd c_65 (by decide)
            · exact absurd c_57 (by decide)
    · refine r_iconst d_Mm_number_27 (v := 1) (by decide) ?_
      refine r_goto (tgt := 32) d_Mm_number_28 (by decide) ?_
      refine r_istore (lv' := [(5, .int 1), (4, .int 0), (0, .ref m), (1, .ref b), (2, .int (nI c)), (3, .int (nI oo))]) d_Mm_number_32 (by decide) rfl ?_
      refine r_aload_n d_Mm_number_34 rfl 3 rfl ?_
      refine r_iload_n d_Mm_number_35 rfl 4 rfl ?_
      refine r_cald d_Mm_number_36 (q0 := 1) rfl (vp_in_nI (by omega) (by omega)) (v := f c) (by rw [nI_clamp (by omega)]) ?_
      refine r_bipush d_Mm_number_37 (v := 107) (by decide) ?_
      refine r_icmp_ne (tgt := 47) d_Mm_number_39 (by decide) (fun c_39 => ?_) (fun c_39 => ?_)
      · refine r_aload_n d_Mm_number_47 rfl 3 rfl ?_
        refine r_iload_n d_Mm_number_48 rfl 5 rfl ?_
        refine r_cald d_Mm_number_49 (q0 := 1) rfl (vp_in_nI (by omega) (by omega)) (v := f oo) (by rw [nI_clamp (by omega)]) ?_
        refine r_bipush d_Mm_number_50 (v := 107) (by decide) ?_
        refine r_icmp_ne (tgt := 63) d_Mm_number_52 (by decide) (fun c_52 => ?_) (fun c_52 => ?_)
        · refine r_iload d_Mm_number_63 1 rfl ?_
          refine r_if_eq (tgt := 76) d_Mm_number_65 (by decide) (fun c_65 => ?_) (fun c_65 => ?_)
          · refine r_iload d_Mm_number_76 1 rfl ?_
            refine r_if_eq (tgt := 89) d_Mm_number_78 (by decide) (fun c_78 => ?_) (fun c_78 => ?_)
            · refine r_iload d_Mm_number_89 0 rfl ?_
              refine r_if_eq (tgt := 106) d_Mm_number_91 (by decide) (fun c_91 => ?_) (fun c_91 => ?_)
              · exact absurd c_91 (by decide)
              · refine r_aload_n d_Mm_number_94 rfl 3 rfl ?_
                refine r_iload_n d_Mm_number_95 rfl 4 rfl ?_
                refine r_cald d_Mm_number_96 (q0 := 1) rfl (vp_in_nI (by omega) (by omega)) (v := f c) (by rw [nI_clamp (by omega)]) ?_
                refine r_bipush d_Mm_number_97 (v := 111) (by decide) ?_
                refine r_icmp_ne (tgt := 106) d_Mm_number_99 (by decide) (fun c_99 => ?_) (fun c_99 => ?_)
                · refine r_iconst d_Mm_number_106 (v := 4) (by decide) ?_
                  refine r_iret d_Mm_number_107 rfl rfl ?_
                  exact ⟨_, rfl, rfl⟩
                · refine r_iconst d_Mm_number_102 (v := 3) (by decide) ?_
                  refine r_goto (tgt := 107) d_Mm_number_103 (by decide) ?_
                  refine r_iret d_Mm_number_107 rfl rfl ?_
                  exact ⟨_, rfl, rfl⟩
            · exact absurd c_78 (by decide)
          · exact absurd c_65 (by decide)
        · refine r_iload d_Mm_number_55 1 rfl ?_
          refine r_if_eq (tgt := 63) d_Mm_number_57 (by decide) (fun c_57 => ?_) (fun c_57 => ?_)
          · refine r_iload d_Mm_number_63 1 rfl ?_
            refine r_if_eq (tgt := 76) d_Mm_number_65 (by decide) (fun c_65 => ?_) (fun c_65 => ?_)
            · refine r_iload d_Mm_number_76 1 rfl ?_
              refine r_if_eq (tgt := 89) d_Mm_number_78 (by decide) (fun c_78 => ?_) (fun c_78 => ?_)
              · refine r_iload d_Mm_number_89 0 rfl ?_
                refine r_if_eq (tgt := 106) d_Mm_number_91 (by decide) (fun c_91 => ?_) (fun c_91 => ?_)
                · exact absurd c_91 (by decide)
                · refine r_aload_n d_Mm_number_94 rfl 3 rfl ?_
                  refine r_iload_n d_Mm_number_95 rfl 4 rfl ?_
                  refine r_cald d_Mm_number_96 (q0 := 1) rfl (vp_in_nI (by omega) (by omega)) (v := f c) (by rw [nI_clamp (by omega)]) ?_
                  refine r_bipush d_Mm_number_97 (v := 111) (by decide) ?_
                  refine r_icmp_ne (tgt := 106) d_Mm_number_99 (by decide) (fun c_99 => ?_) (fun c_99 => ?_)
                  · refine r_iconst d_Mm_number_106 (v := 4) (by decide) ?_
                    refine r_iret d_Mm_number_107 rfl rfl ?_
                    exact ⟨_, rfl, rfl⟩
                  · refine r_iconst d_Mm_number_102 (v := 3) (by decide) ?_
                    refine r_goto (tgt := 107) d_Mm_number_103 (by decide) ?_
                    refine r_iret d_Mm_number_107 rfl rfl ?_
                    exact ⟨_, rfl, rfl⟩
              · exact absurd c_78 (by decide)
            · exact absurd c_65 (by decide)
          · exact absurd c_57 (by decide)
      · refine r_iload d_Mm_number_42 0 rfl ?_
        refine r_if_ne (tgt := 60) d_Mm_number_44 (by decide) (fun c_44 => ?_) (fun c_44 => ?_)
        · refine r_bipush d_Mm_number_60 (v := 14) (by decide) ?_
          refine r_iret d_Mm_number_62 rfl rfl ?_
          exact ⟨_, rfl, rfl⟩
        · exact absurd c_44 (by decide)
  · refine r_iconst d_Mm_number_10 (v := 1) (by decide) ?_
    refine r_goto (tgt := 15) d_Mm_number_11 (by decide) ?_
    refine r_istore (lv' := [(4, .int 1), (0, .ref m), (1, .ref b), (2, .int (nI c)), (3, .int (nI oo))]) d_Mm_number_15 (by decide) rfl ?_
    refine r_aload_n d_Mm_number_17 rfl 1 rfl ?_
    refine r_get fs_Mm_17 d_Mm_number_18 (q0 := 0) rfl rfl ?_
    refine r_iload_n d_Mm_number_21 rfl 4 rfl ?_
    refine r_iald d_Mm_number_22 (q0 := 2) rfl (vp_in_nI (by omega) (by omega)) (v := fl oo) (by rw [nI_clamp (by omega)]) ?_
    refine r_iconst d_Mm_number_23 (v := (-1)) (by decide) ?_
    refine r_icmp_eq (tgt := 31) d_Mm_number_24 (by decide) (fun c_24 => ?_) (fun c_24 => ?_)
    · refine r_iconst d_Mm_number_31 (v := 0) (by decide) ?_
      refine r_istore (lv' := [(5, .int 0), (4, .int 1), (0, .ref m), (1, .ref b), (2, .int (nI c)), (3, .int (nI oo))]) d_Mm_number_32 (by decide) rfl ?_
      refine r_aload_n d_Mm_number_34 rfl 3 rfl ?_
      refine r_iload_n d_Mm_number_35 rfl 4 rfl ?_
      refine r_cald d_Mm_number_36 (q0 := 1) rfl (vp_in_nI (by omega) (by omega)) (v := f c) (by rw [nI_clamp (by omega)]) ?_
      refine r_bipush d_Mm_number_37 (v := 107) (by decide) ?_
      refine r_icmp_ne (tgt := 47) d_Mm_number_39 (by decide) (fun c_39 => ?_) (fun c_39 => ?_)
      · refine r_aload_n d_Mm_number_47 rfl 3 rfl ?_
        refine r_iload_n d_Mm_number_48 rfl 5 rfl ?_
        refine r_cald d_Mm_number_49 (q0 := 1) rfl (vp_in_nI (by omega) (by omega)) (v := f oo) (by rw [nI_clamp (by omega)]) ?_
        refine r_bipush d_Mm_number_50 (v := 107) (by decide) ?_
        refine r_icmp_ne (tgt := 63) d_Mm_number_52 (by decide) (fun c_52 => ?_) (fun c_52 => ?_)
        · refine r_iload d_Mm_number_63 1 rfl ?_
          refine r_if_eq (tgt := 76) d_Mm_number_65 (by decide) (fun c_65 => ?_) (fun c_65 => ?_)
          · exact absurd c_65 (by decide)
          · refine r_iload d_Mm_number_68 0 rfl ?_
            refine r_if_eq (tgt := 76) d_Mm_number_70 (by decide) (fun c_70 => ?_) (fun c_70 => ?_)
            · refine r_iload d_Mm_number_76 1 rfl ?_
              refine r_if_eq (tgt := 89) d_Mm_number_78 (by decide) (fun c_78 => ?_) (fun c_78 => ?_)
              · exact absurd c_78 (by decide)
              · refine r_aload_n d_Mm_number_81 rfl 3 rfl ?_
                refine r_iload_n d_Mm_number_82 rfl 5 rfl ?_
                refine r_cald d_Mm_number_83 (q0 := 1) rfl (vp_in_nI (by omega) (by omega)) (v := f oo) (by rw [nI_clamp (by omega)]) ?_
                refine r_bipush d_Mm_number_84 (v := 111) (by decide) ?_
                refine r_icmp_eq (tgt := 102) d_Mm_number_86 (by decide) (fun c_86 => ?_) (fun c_86 => ?_)
                · refine r_iconst d_Mm_number_102 (v := 3) (by decide) ?_
                  refine r_goto (tgt := 107) d_Mm_number_103 (by decide) ?_
                  refine r_iret d_Mm_number_107 rfl rfl ?_
                  exact ⟨_, rfl, rfl⟩
                · refine r_iload d_Mm_number_89 0 rfl ?_
                  refine r_if_eq (tgt := 106) d_Mm_number_91 (by decide) (fun c_91 => ?_) (fun c_91 => ?_)
                  · refine r_iconst d_Mm_number_106 (v := 4) (by decide) ?_
                    refine r_iret d_Mm_number_107 rfl rfl ?_
                    exact ⟨_, rfl, rfl⟩
                  · exact absurd c_91 (by decide)
            · exact absurd c_70 (by decide)
        · refine r_iload d_Mm_number_55 1 rfl ?_
          refine r_if_eq (tgt := 63) d_Mm_number_57 (by decide) (fun c_57 => ?_) (fun c_57 => ?_)
          · exact absurd c_57 (by decide)
          · refine r_bipush d_Mm_number_60 (v := 14) (by decide) ?_
            refine r_iret d_Mm_number_62 rfl rfl ?_
            exact ⟨_, rfl, rfl⟩
      · refine r_iload d_Mm_number_42 0 rfl ?_
        refine r_if_ne (tgt := 60) d_Mm_number_44 (by decide) (fun c_44 => ?_) (fun c_44 => ?_)
        · exact absurd c_44 (by decide)
        · refine r_aload_n d_Mm_number_47 rfl 3 rfl ?_
          refine r_iload_n d_Mm_number_48 rfl 5 rfl ?_
          refine r_cald d_Mm_number_49 (q0 := 1) rfl (vp_in_nI (by omega) (by omega)) (v := f oo) (by rw [nI_clamp (by omega)]) ?_
          refine r_bipush d_Mm_number_50 (v := 107) (by decide) ?_
          refine r_icmp_ne (tgt := 63) d_Mm_number_52 (by decide) (fun c_52 => ?_) (fun c_52 => ?_)
          · refine r_iload d_Mm_number_63 1 rfl ?_
            refine r_if_eq (tgt := 76) d_Mm_number_65 (by decide) (fun c_65 => ?_) (fun c_65 => ?_)
            · exact absurd c_65 (by decide)
            · refine r_iload d_Mm_number_68 0 rfl ?_
              refine r_if_eq (tgt := 76) d_Mm_number_70 (by decide) (fun c_70 => ?_) (fun c_70 => ?_)
              · refine r_iload d_Mm_number_76 1 rfl ?_
                refine r_if_eq (tgt := 89) d_Mm_number_78 (by decide) (fun c_78 => ?_) (fun c_78 => ?_)
                · exact absurd c_78 (by decide)
                · refine r_aload_n d_Mm_number_81 rfl 3 rfl ?_
                  refine r_iload_n d_Mm_number_82 rfl 5 rfl ?_
                  refine r_cald d_Mm_number_83 (q0 := 1) rfl (vp_in_nI (by omega) (by omega)) (v := f oo) (by rw [nI_clamp (by omega)]) ?_
                  refine r_bipush d_Mm_number_84 (v := 111) (by decide) ?_
                  refine r_icmp_eq (tgt := 102) d_Mm_number_86 (by decide) (fun c_86 => ?_) (fun c_86 => ?_)
                  · refine r_iconst d_Mm_number_102 (v := 3) (by decide) ?_
                    refine r_goto (tgt := 107) d_Mm_number_103 (by decide) ?_
                    refine r_iret d_Mm_number_107 rfl rfl ?_
                    exact ⟨_, rfl, rfl⟩
                  · refine r_iload d_Mm_number_89 0 rfl ?_
                    refine r_if_eq (tgt := 106) d_Mm_number_91 (by decide) (fun c_91 => ?_) (fun c_91 => ?_)
                    · refine r_iconst d_Mm_number_106 (v := 4) (by decide) ?_
                      refine r_iret d_Mm_number_107 rfl rfl ?_
                      exact ⟨_, rfl, rfl⟩
                    · exact absurd c_91 (by decide)
              · exact absurd c_70 (by decide)
          · refine r_iload d_Mm_number_55 1 rfl ?_
            refine r_if_eq (tgt := 63) d_Mm_number_57 (by decide) (fun c_57 => ?_) (fun c_57 => ?_)
            · exact absurd c_57 (by decide)
            · refine r_bipush d_Mm_number_60 (v := 14) (by decide) ?_
              refine r_iret d_Mm_number_62 rfl rfl ?_
              exact ⟨_, rfl, rfl⟩
    · refine r_iconst d_Mm_number_27 (v := 1) (by decide) ?_
      refine r_goto (tgt := 32) d_Mm_number_28 (by decide) ?_
      refine r_istore (lv' := [(5, .int 1), (4, .int 1), (0, .ref m), (1, .ref b), (2, .int (nI c)), (3, .int (nI oo))]) d_Mm_number_32 (by decide) rfl ?_
      refine r_aload_n d_Mm_number_34 rfl 3 rfl ?_
      refine r_iload_n d_Mm_number_35 rfl 4 rfl ?_
      refine r_cald d_Mm_number_36 (q0 := 1) rfl (vp_in_nI (by omega) (by omega)) (v := f c) (by rw [nI_clamp (by omega)]) ?_
      refine r_bipush d_Mm_number_37 (v := 107) (by decide) ?_
      refine r_icmp_ne (tgt := 47) d_Mm_number_39 (by decide) (fun c_39 => ?_) (fun c_39 => ?_)
      · refine r_aload_n d_Mm_number_47 rfl 3 rfl ?_
        refine r_iload_n d_Mm_number_48 rfl 5 rfl ?_
        refine r_cald d_Mm_number_49 (q0 := 1) rfl (vp_in_nI (by omega) (by omega)) (v := f oo) (by rw [nI_clamp (by omega)]) ?_
        refine r_bipush d_Mm_number_50 (v := 107) (by decide) ?_
        refine r_icmp_ne (tgt := 63) d_Mm_number_52 (by decide) (fun c_52 => ?_) (fun c_52 => ?_)
        · refine r_iload d_Mm_number_63 1 rfl ?_
          refine r_if_eq (tgt := 76) d_Mm_number_65 (by decide) (fun c_65 => ?_) (fun c_65 => ?_)
          · exact absurd c_65 (by decide)
          · refine r_iload d_Mm_number_68 0 rfl ?_
            refine r_if_eq (tgt := 76) d_Mm_number_70 (by decide) (fun c_70 => ?_) (fun c_70 => ?_)
            · exact absurd c_70 (by decide)
            · refine r_bipush d_Mm_number_73 (v := 12) (by decide) ?_
              refine r_iret d_Mm_number_75 rfl rfl ?_
              exact ⟨_, rfl, rfl⟩
        · refine r_iload d_Mm_number_55 1 rfl ?_
          refine r_if_eq (tgt := 63) d_Mm_number_57 (by decide) (fun c_57 => ?_) (fun c_57 => ?_)
          · exact absurd c_57 (by decide)
          · refine r_bipush d_Mm_number_60 (v := 14) (by decide) ?_
            refine r_iret d_Mm_number_62 rfl rfl ?_
            exact ⟨_, rfl, rfl⟩
      · refine r_iload d_Mm_number_42 0 rfl ?_
        refine r_if_ne (tgt := 60) d_Mm_number_44 (by decide) (fun c_44 => ?_) (fun c_44 => ?_)
        · refine r_bipush d_Mm_number_60 (v := 14) (by decide) ?_
          refine r_iret d_Mm_number_62 rfl rfl ?_
          exact ⟨_, rfl, rfl⟩
        · exact absurd c_44 (by decide)
set_option maxHeartbeats 4000000 in
set_option maxRecDepth 100000 in
theorem L_Mm_gainsW_5 (g : zG) (m mp mf mh mn mt mz mc_ mq mgr ml mi mr mm mu mk mx : Nat) (th pt cl wa co_ fi bu ho lh mg wd fpi fal : Int32) (po de : Int64) (b : Nat) (f : Nat → Int32) (fl : Nat → Int32) (he : Nat → Int32) (c : Nat) (hc : c < 108) (w0 : zW) (n : Nat) : ∀ (d i : Nat) (sm : Int32), i ≤ 4 → 4 < i + d → DV g M_Mm_gains (fun o cs1 => ∃ v9, o = .inl (some (.int v9)) ∧ cs1 = [(m, .inr (12, [.int th, .ref mp, .int pt, .ref mf, .ref mh, .ref mn, .ref mt, .ref mz, .ref mc_, .ref mq, .ref mgr, .int cl, .int wa, .int co_, .int fi, .int bu, .int ho, .ref ml, .ref mi, .ref mr, .int lh, .int mg, .int wd, .int fpi, .int fal, .ref mm, .ref mu, .ref mk, .ref mx, .long po, .long de])), (b, .inl (1, 108, .inl f)), (mf, .inl (0, 108, .inl fl)), (mh, .inl (0, 108, .inl he))]) w0 n 5 [(4, .int (nI i)), (3, .int sm), (0, .ref m), (1, .ref b), (2, .int (nI c))] [] [(m, .inr (12, [.int th, .ref mp, .int pt, .ref mf, .ref mh, .ref mn, .ref mt, .ref mz, .ref mc_, .ref mq, .ref mgr, .int cl, .int wa, .int co_, .int fi, .int bu, .int ho, .ref ml, .ref mi, .ref mr, .int lh, .int mg, .int wd, .int fpi, .int fal, .ref mm, .ref mu, .ref mk, .ref mx, .long po, .long de])), (b, .inl (1, 108, .inl f)), (mf, .inl (0, 108, .inl fl)), (mh, .inl (0, 108, .inl he))] 0 0 := by
  intro d
  induction d with
  | zero => intro i sm h1 h2 ; exact absurd h2 (by omega)
  | succ d ih =>
    intro i sm h1 h2 
    refine r_iload d_Mm_gains_5 0 rfl ?_
    refine r_iconst d_Mm_gains_7 (v := 4) (by decide) ?_
    refine r_icmp_ge (tgt := 79) d_Mm_gains_8 (by decide) (fun c_8 => ?_) (fun c_8 => ?_)
    · have hn := z_le (a := 4) (by omega) (by decide) c_8
      obtain rfl : i = 4 := by omega
      refine r_iload_n d_Mm_gains_79 rfl 1 rfl ?_
      refine r_iret d_Mm_gains_80 rfl rfl ?_
      exact ⟨_, rfl, rfl⟩
    · have hn := z_nle (a := 4) (by omega) (by decide) c_8
      refine r_iload_n d_Mm_gains_11 rfl 4 rfl ?_
      refine r_iload d_Mm_gains_12 0 rfl ?_
      refine r_callS (As := [.int (nI c), .int (nI i)]) (rest := []) (csC := []) (is := []) ln_Mm_119 w_st_Mm_beside ok_Mm_gains_Mm_beside d_Mm_gains_14 (C_Mm_beside g c i (by omega) (by omega)) rfl rfl (Nat.le_of_ble_eq_true rfl) rfl (by decide) (by omega) (by omega) (fun E cs1 hx => ?_) (fun v cs1 hx => ?_)
      · exact absurd hx.1 (by simp)
      · obtain ⟨e1, rfl⟩ := hx
        cases e1
        refine ⟨rfl, ?_⟩
        refine r_st (st2 := [.int (oI (bs c i))]) rfl ?_
        refine r_cs (cs2 := [(m, .inr (12, [.int th, .ref mp, .int pt, .ref mf, .ref mh, .ref mn, .ref mt, .ref mz, .ref mc_, .ref mq, .ref mgr, .int cl, .int wa, .int co_, .int fi, .int bu, .int ho, .ref ml, .ref mi, .ref mr, .int lh, .int mg, .int wd, .int fpi, .int fal, .ref mm, .ref mu, .ref mk, .ref mx, .long po, .long de])), (b, .inl (1, 108, .inl f)), (mf, .inl (0, 108, .inl fl)), (mh, .inl (0, 108, .inl he))]) rfl ?_
        refine r_istore (lv' := [(5, .int (oI (bs c i))), (4, .int (nI i)), (3, .int sm), (0, .ref m), (1, .ref b), (2, .int (nI c))]) d_Mm_gains_17 (by decide) rfl ?_
        refine r_iload d_Mm_gains_19 0 rfl ?_
        refine r_iconst d_Mm_gains_21 (v := (-1)) (by decide) ?_
        refine r_icmp_ne (tgt := 30) d_Mm_gains_22 (by decide) (fun c_22 => ?_) (fun c_22 => ?_)
        · obtain ⟨oo, ho9⟩ := oI_nm c_22
          have hol := bs_lt hc ho9
          rw [ho9, show oI (some oo) = nI oo from rfl]
          refine r_aload_n d_Mm_gains_30 rfl 3 rfl ?_
          refine r_get fs_Mm_21 d_Mm_gains_31 (q0 := 0) rfl rfl ?_
          refine r_iload d_Mm_gains_34 0 rfl ?_
          refine r_iald d_Mm_gains_36 (q0 := 3) rfl (vp_in_nI (by omega) (by omega)) (v := he oo) (by rw [nI_clamp (by omega)]) ?_
          refine r_istore (lv' := [(6, .int (he oo)), (5, .int (nI oo)), (4, .int (nI i)), (3, .int sm), (0, .ref m), (1, .ref b), (2, .int (nI c))]) d_Mm_gains_37 (by decide) rfl ?_
          refine r_iload_n d_Mm_gains_39 rfl 3 rfl ?_
          refine r_iload d_Mm_gains_40 0 rfl ?_
          refine r_aload_n d_Mm_gains_42 rfl 4 rfl ?_
          refine r_get fs_Mm_21 d_Mm_gains_43 (q0 := 0) rfl rfl ?_
          refine r_iload_n d_Mm_gains_46 rfl 6 rfl ?_
          refine r_iald d_Mm_gains_47 (q0 := 3) rfl (vp_in_nI (by omega) (by omega)) (v := he c) (by rw [nI_clamp (by omega)]) ?_
          refine r_isub d_Mm_gains_48 (v := (he oo) - (he c)) rfl ?_
          refine r_iload d_Mm_gains_49 1 rfl ?_
          refine r_iconst d_Mm_gains_51 (v := (-1)) (by decide) ?_
          refine r_icmp_ne (tgt := 59) d_Mm_gains_52 (by decide) (fun c_52 => ?_) (fun c_52 => ?_)
          · refine r_aload_n d_Mm_gains_59 rfl 4 rfl ?_
            refine r_aload_n d_Mm_gains_60 rfl 5 rfl ?_
            refine r_iload_n d_Mm_gains_61 rfl 6 rfl ?_
            refine r_iload d_Mm_gains_62 1 rfl ?_
            refine r_callV (As := [.ref b, .int (nI c), .int (nI oo)]) (rest := [.int ((he oo) - (he c)), .int sm]) (csC := [(m, .inr (12, [.int th, .ref mp, .int pt, .ref mf, .ref mh, .ref mn, .ref mt, .ref mz, .ref mc_, .ref mq, .ref mgr, .int cl, .int wa, .int co_, .int fi, .int bu, .int ho, .ref ml, .ref mi, .ref mr, .int lh, .int mg, .int wd, .int fpi, .int fal, .ref mm, .ref mu, .ref mk, .ref mx, .long po, .long de])), (b, .inl (1, 108, .inl f)), (mf, .inl (0, 108, .inl fl))]) (is := [0, 1, 2]) (q0 := 0) rfl rfl ln_Mm_150 w_im_Mm_number w_se_Mm_number ok_Mm_gains_Mm_number d_Mm_gains_64 (C_Mm_numberW g m mp mf mh mn mt mz mc_ mq mgr ml mi mr mm mu mk mx th pt cl wa co_ fi bu ho lh mg wd fpi fal po de b f fl c oo hc hol) rfl rfl (Nat.le_of_ble_eq_true rfl) rfl (by decide) (by omega) (by omega) (fun E cs1 hx => ?_) (fun v cs1 hx => ?_)
            · obtain ⟨n9, e1, -⟩ := hx
              cases e1
            · obtain ⟨n9, e1, rfl⟩ := hx
              cases e1
              refine ⟨rfl, ?_⟩
              refine r_st (st2 := [.int n9, .int ((he oo) - (he c)), .int sm]) rfl ?_
              refine r_cs (cs2 := [(m, .inr (12, [.int th, .ref mp, .int pt, .ref mf, .ref mh, .ref mn, .ref mt, .ref mz, .ref mc_, .ref mq, .ref mgr, .int cl, .int wa, .int co_, .int fi, .int bu, .int ho, .ref ml, .ref mi, .ref mr, .int lh, .int mg, .int wd, .int fpi, .int fal, .ref mm, .ref mu, .ref mk, .ref mx, .long po, .long de])), (b, .inl (1, 108, .inl f)), (mf, .inl (0, 108, .inl fl)), (mh, .inl (0, 108, .inl he))]) rfl ?_
              refine r_imul d_Mm_gains_67 (v := ((he oo) - (he c)) * n9) rfl ?_
              refine r_bipush d_Mm_gains_68 (v := 64) (by decide) ?_
              refine r_idiv d_Mm_gains_70 (v := (((he oo) - (he c)) * n9) / 64) (by decide) rfl ?_
              refine r_iadd d_Mm_gains_71 (v := sm + ((((he oo) - (he c)) * n9) / 64)) rfl ?_
              refine r_istore_n (lv' := [(3, .int (sm + ((((he oo) - (he c)) * n9) / 64))), (6, .int (he oo)), (5, .int (nI oo)), (4, .int (nI i)), (0, .ref m), (1, .ref b), (2, .int (nI c))]) d_Mm_gains_72 rfl (by decide) rfl ?_
              refine r_iinc (lv' := [(4, .int (nI (i + 1))), (3, .int (sm + ((((he oo) - (he c)) * n9) / 64))), (6, .int (he oo)), (5, .int (nI oo)), (0, .ref m), (1, .ref b), (2, .int (nI c))]) (v := nI (i + 1)) d_Mm_gains_73 (j := 3) rfl (nI_add _ _) (by decide) rfl ?_
              refine r_goto (tgt := 5) d_Mm_gains_76 (by decide) ?_
              refine r_lv (lv' := [(4, .int (nI (i + 1))), (3, .int (sm + ((((he oo) - (he c)) * n9) / 64))), (0, .ref m), (1, .ref b), (2, .int (nI c))]) [0, 1, 4, 5, 6] rfl ?_
              exact ih (i + 1) _ (by omega) (by omega)
          · exact absurd c_52 (nI_nm1 (by omega))
        · refine r_bipush d_Mm_gains_25 (v := 20) (by decide) ?_
          refine r_goto (tgt := 37) d_Mm_gains_27 (by decide) ?_
          refine r_istore (lv' := [(6, .int 20), (5, .int (oI (bs c i))), (4, .int (nI i)), (3, .int sm), (0, .ref m), (1, .ref b), (2, .int (nI c))]) d_Mm_gains_37 (by decide) rfl ?_
          refine r_iload_n d_Mm_gains_39 rfl 3 rfl ?_
          refine r_iload d_Mm_gains_40 0 rfl ?_
          refine r_aload_n d_Mm_gains_42 rfl 4 rfl ?_
          refine r_get fs_Mm_21 d_Mm_gains_43 (q0 := 0) rfl rfl ?_
          refine r_iload_n d_Mm_gains_46 rfl 6 rfl ?_
          refine r_iald d_Mm_gains_47 (q0 := 3) rfl (vp_in_nI (by omega) (by omega)) (v := he c) (by rw [nI_clamp (by omega)]) ?_
          refine r_isub d_Mm_gains_48 (v := 20 - (he c)) rfl ?_
          refine r_iload d_Mm_gains_49 1 rfl ?_
          refine r_iconst d_Mm_gains_51 (v := (-1)) (by decide) ?_
          refine r_icmp_ne (tgt := 59) d_Mm_gains_52 (by decide) (fun c_52 => ?_) (fun c_52 => ?_)
          · exact absurd c_22 c_52
          · refine r_iconst d_Mm_gains_55 (v := 4) (by decide) ?_
            refine r_goto (tgt := 67) d_Mm_gains_56 (by decide) ?_
            refine r_imul d_Mm_gains_67 (v := (20 - (he c)) * 4) rfl ?_
            refine r_bipush d_Mm_gains_68 (v := 64) (by decide) ?_
            refine r_idiv d_Mm_gains_70 (v := ((20 - (he c)) * 4) / 64) (by decide) rfl ?_
            refine r_iadd d_Mm_gains_71 (v := sm + (((20 - (he c)) * 4) / 64)) rfl ?_
            refine r_istore_n (lv' := [(3, .int (sm + (((20 - (he c)) * 4) / 64))), (6, .int 20), (5, .int (oI (bs c i))), (4, .int (nI i)), (0, .ref m), (1, .ref b), (2, .int (nI c))]) d_Mm_gains_72 rfl (by decide) rfl ?_
            refine r_iinc (lv' := [(4, .int (nI (i + 1))), (3, .int (sm + (((20 - (he c)) * 4) / 64))), (6, .int 20), (5, .int (oI (bs c i))), (0, .ref m), (1, .ref b), (2, .int (nI c))]) (v := nI (i + 1)) d_Mm_gains_73 (j := 3) rfl (nI_add _ _) (by decide) rfl ?_
            refine r_goto (tgt := 5) d_Mm_gains_76 (by decide) ?_
            refine r_lv (lv' := [(4, .int (nI (i + 1))), (3, .int (sm + (((20 - (he c)) * 4) / 64))), (0, .ref m), (1, .ref b), (2, .int (nI c))]) [0, 1, 4, 5, 6] rfl ?_
            exact ih (i + 1) _ (by omega) (by omega)
set_option maxHeartbeats 4000000 in
set_option maxRecDepth 100000 in
theorem C_Mm_gainsW (g : zG) (m mp mf mh mn mt mz mc_ mq mgr ml mi mr mm mu mk mx : Nat) (th pt cl wa co_ fi bu ho lh mg wd fpi fal : Int32) (po de : Int64) (b : Nat) (f : Nat → Int32) (fl : Nat → Int32) (he : Nat → Int32) (c : Nat) (hc : c < 108) : CT g M_Mm_gains [.ref m, .ref b, .int (nI c)] [(m, .inr (12, [.int th, .ref mp, .int pt, .ref mf, .ref mh, .ref mn, .ref mt, .ref mz, .ref mc_, .ref mq, .ref mgr, .int cl, .int wa, .int co_, .int fi, .int bu, .int ho, .ref ml, .ref mi, .ref mr, .int lh, .int mg, .int wd, .int fpi, .int fal, .ref mm, .ref mu, .ref mk, .ref mx, .long po, .long de])), (b, .inl (1, 108, .inl f)), (mf, .inl (0, 108, .inl fl)), (mh, .inl (0, 108, .inl he))] (fun o cs1 => ∃ v9, o = .inl (some (.int v9)) ∧ cs1 = [(m, .inr (12, [.int th, .ref mp, .int pt, .ref mf, .ref mh, .ref mn, .ref mt, .ref mz, .ref mc_, .ref mq, .ref mgr, .int cl, .int wa, .int co_, .int fi, .int bu, .int ho, .ref ml, .ref mi, .ref mr, .int lh, .int mg, .int wd, .int fpi, .int fal, .ref mm, .ref mu, .ref mk, .ref mx, .long po, .long de])), (b, .inl (1, 108, .inl f)), (mf, .inl (0, 108, .inl fl)), (mh, .inl (0, 108, .inl he))]) 0 0 := by
  refine z_of (by decide) rfl (Nat.le_of_ble_eq_true rfl) (fun w0 => ?_)
  refine r_lvE (lv2 := [(0, .ref m), (1, .ref b), (2, .int (nI c))]) rfl ?_
  refine r_iconst d_Mm_gains_0 (v := 0) (by decide) ?_
  refine r_istore_n (lv' := [(3, .int 0), (0, .ref m), (1, .ref b), (2, .int (nI c))]) d_Mm_gains_1 rfl (by decide) rfl ?_
  refine r_iconst d_Mm_gains_2 (v := 0) (by decide) ?_
  refine r_istore (lv' := [(4, .int 0), (3, .int 0), (0, .ref m), (1, .ref b), (2, .int (nI c))]) d_Mm_gains_3 (by decide) rfl ?_
  exact L_Mm_gainsW_5 g m mp mf mh mn mt mz mc_ mq mgr ml mi mr mm mu mk mx th pt cl wa co_ fi bu ho lh mg wd fpi fal po de b f fl he c hc w0 _  (4 + 1) 0 _ (Nat.zero_le _) (by omega)
theorem d_Mm_freezeStep_171 : decode prog_14_method_29_code 171 = .ok (.iconst 1, 1) := zo_4 (zd_b zq_prog_14_method_29_code_5 11 rfl rfl rfl)
theorem d_Mm_freezeStep_172 : decode prog_14_method_29_code 172 = .ok (.goto 4, 3) := zo_167 (d := 0) (e := 4) (zd_b zq_prog_14_method_29_code_5 12 rfl rfl rfl) (zd_b zq_prog_14_method_29_code_5 13 rfl rfl rfl) (zd_b zq_prog_14_method_29_code_5 14 rfl rfl rfl) (by decide +kernel)
theorem d_Mm_freezeStep_161 : decode prog_14_method_29_code 161 = .ok (.aload_n 0, 1) := zo_42 (zd_b zq_prog_14_method_29_code_5 1 rfl rfl rfl)
theorem d_Mm_freezeStep_162 : decode prog_14_method_29_code 162 = .ok (.getfield 30, 3) := zo_180 (d := 0) (e := 30) (zd_b zq_prog_14_method_29_code_5 2 rfl rfl rfl) (zd_b zq_prog_14_method_29_code_5 3 rfl rfl rfl) (zd_b zq_prog_14_method_29_code_5 4 rfl rfl rfl)
theorem d_Mm_freezeStep_165 : decode prog_14_method_29_code 165 = .ok (.iload 4, 2) := zo_21 (d := 4) (zd_b zq_prog_14_method_29_code_5 5 rfl rfl rfl) (zd_b zq_prog_14_method_29_code_5 6 rfl rfl rfl)
theorem d_Mm_freezeStep_167 : decode prog_14_method_29_code 167 = .ok (.iaload, 1) := zo_46 (zd_b zq_prog_14_method_29_code_5 7 rfl rfl rfl)
theorem d_Mm_freezeStep_168 : decode prog_14_method_29_code 168 = .ok (.ifCond .ne 7, 3) := zo_154 (d := 0) (e := 7) (zd_b zq_prog_14_method_29_code_5 8 rfl rfl rfl) (zd_b zq_prog_14_method_29_code_5 9 rfl rfl rfl) (zd_b zq_prog_14_method_29_code_5 10 rfl rfl rfl) (by decide +kernel)
theorem d_Mm_freezeStep_70 : decode prog_14_method_29_code 70 = .ok (.aload_n 0, 1) := zo_42 (zd_b zq_prog_14_method_29_code_2 6 rfl rfl rfl)
theorem d_Mm_freezeStep_71 : decode prog_14_method_29_code 71 = .ok (.getfield 30, 3) := zo_180 (d := 0) (e := 30) (zd_b zq_prog_14_method_29_code_2 7 rfl rfl rfl) (zd_b zq_prog_14_method_29_code_2 8 rfl rfl rfl) (zd_b zq_prog_14_method_29_code_2 9 rfl rfl rfl)
theorem d_Mm_freezeStep_74 : decode prog_14_method_29_code 74 = .ok (.iload 4, 2) := zo_21 (d := 4) (zd_b zq_prog_14_method_29_code_2 10 rfl rfl rfl) (zd_b zq_prog_14_method_29_code_2 11 rfl rfl rfl)
theorem d_Mm_freezeStep_76 : decode prog_14_method_29_code 76 = .ok (.iaload, 1) := zo_46 (zd_b zq_prog_14_method_29_code_2 12 rfl rfl rfl)
theorem d_Mm_freezeStep_77 : decode prog_14_method_29_code 77 = .ok (.ifCond .ne 69, 3) := zo_154 (d := 0) (e := 69) (zd_b zq_prog_14_method_29_code_2 13 rfl rfl rfl) (zd_b zq_prog_14_method_29_code_2 14 rfl rfl rfl) (zd_b zq_prog_14_method_29_code_2 15 rfl rfl rfl) (by decide +kernel)
theorem d_Mm_freezeStep_80 : decode prog_14_method_29_code 80 = .ok (.aload_n 0, 1) := zo_42 (zd_b zq_prog_14_method_29_code_2 16 rfl rfl rfl)
theorem d_Mm_freezeStep_81 : decode prog_14_method_29_code 81 = .ok (.getfield 21, 3) := zo_180 (d := 0) (e := 21) (zd_b zq_prog_14_method_29_code_2 17 rfl rfl rfl) (zd_b zq_prog_14_method_29_code_2 18 rfl rfl rfl) (zd_b zq_prog_14_method_29_code_2 19 rfl rfl rfl)
theorem d_Mm_freezeStep_84 : decode prog_14_method_29_code 84 = .ok (.iload 4, 2) := zo_21 (d := 4) (zd_b zq_prog_14_method_29_code_2 20 rfl rfl rfl) (zd_b zq_prog_14_method_29_code_2 21 rfl rfl rfl)
theorem d_Mm_freezeStep_86 : decode prog_14_method_29_code 86 = .ok (.iaload, 1) := zo_46 (zd_b zq_prog_14_method_29_code_2 22 rfl rfl rfl)
theorem d_Mm_freezeStep_87 : decode prog_14_method_29_code 87 = .ok (.sipush 1150, 3) := zo_17 (d := 4) (e := 126) (zd_b zq_prog_14_method_29_code_2 23 rfl rfl rfl) (zd_b zq_prog_14_method_29_code_2 24 rfl rfl rfl) (zd_b zq_prog_14_method_29_code_2 25 rfl rfl rfl) (by decide +kernel)
theorem d_Mm_freezeStep_90 : decode prog_14_method_29_code 90 = .ok (.if_icmp .ge 56, 3) := zo_162 (d := 0) (e := 56) (zd_b zq_prog_14_method_29_code_2 26 rfl rfl rfl) (zd_b zq_prog_14_method_29_code_2 27 rfl rfl rfl) (zd_b zq_prog_14_method_29_code_2 28 rfl rfl rfl) (by decide +kernel)
theorem d_Mm_freezeStep_93 : decode prog_14_method_29_code 93 = .ok (.aload_n 0, 1) := zo_42 (zd_b zq_prog_14_method_29_code_2 29 rfl rfl rfl)
theorem d_Mm_freezeStep_94 : decode prog_14_method_29_code 94 = .ok (.getfield 27, 3) := zo_180 (d := 0) (e := 27) (zd_b zq_prog_14_method_29_code_2 30 rfl rfl rfl) (zd_b zq_prog_14_method_29_code_2 31 rfl rfl rfl) (zd_b zq_prog_14_method_29_code_3 0 rfl rfl rfl)
theorem d_Mm_freezeStep_97 : decode prog_14_method_29_code 97 = .ok (.iload 4, 2) := zo_21 (d := 4) (zd_b zq_prog_14_method_29_code_3 1 rfl rfl rfl) (zd_b zq_prog_14_method_29_code_3 2 rfl rfl rfl)
theorem d_Mm_freezeStep_99 : decode prog_14_method_29_code 99 = .ok (.dup2, 1) := zo_92 (zd_b zq_prog_14_method_29_code_3 3 rfl rfl rfl)
theorem d_Mm_freezeStep_100 : decode prog_14_method_29_code 100 = .ok (.iaload, 1) := zo_46 (zd_b zq_prog_14_method_29_code_3 4 rfl rfl rfl)
theorem d_Mm_freezeStep_101 : decode prog_14_method_29_code 101 = .ok (.sipush 1150, 3) := zo_17 (d := 4) (e := 126) (zd_b zq_prog_14_method_29_code_3 5 rfl rfl rfl) (zd_b zq_prog_14_method_29_code_3 6 rfl rfl rfl) (zd_b zq_prog_14_method_29_code_3 7 rfl rfl rfl) (by decide +kernel)
theorem d_Mm_freezeStep_104 : decode prog_14_method_29_code 104 = .ok (.aload_n 0, 1) := zo_42 (zd_b zq_prog_14_method_29_code_3 8 rfl rfl rfl)
theorem d_Mm_freezeStep_105 : decode prog_14_method_29_code 105 = .ok (.getfield 21, 3) := zo_180 (d := 0) (e := 21) (zd_b zq_prog_14_method_29_code_3 9 rfl rfl rfl) (zd_b zq_prog_14_method_29_code_3 10 rfl rfl rfl) (zd_b zq_prog_14_method_29_code_3 11 rfl rfl rfl)
theorem d_Mm_freezeStep_108 : decode prog_14_method_29_code 108 = .ok (.iload 4, 2) := zo_21 (d := 4) (zd_b zq_prog_14_method_29_code_3 12 rfl rfl rfl) (zd_b zq_prog_14_method_29_code_3 13 rfl rfl rfl)
theorem d_Mm_freezeStep_110 : decode prog_14_method_29_code 110 = .ok (.iaload, 1) := zo_46 (zd_b zq_prog_14_method_29_code_3 14 rfl rfl rfl)
theorem d_Mm_freezeStep_111 : decode prog_14_method_29_code 111 = .ok (.isub, 1) := zo_100 (zd_b zq_prog_14_method_29_code_3 15 rfl rfl rfl)
theorem d_Mm_freezeStep_112 : decode prog_14_method_29_code 112 = .ok (.isub, 1) := zo_100 (zd_b zq_prog_14_method_29_code_3 16 rfl rfl rfl)
theorem d_Mm_freezeStep_113 : decode prog_14_method_29_code 113 = .ok (.iastore, 1) := zo_79 (zd_b zq_prog_14_method_29_code_3 17 rfl rfl rfl)
theorem d_Mm_freezeStep_114 : decode prog_14_method_29_code 114 = .ok (.aload_n 0, 1) := zo_42 (zd_b zq_prog_14_method_29_code_3 18 rfl rfl rfl)
theorem d_Mm_freezeStep_115 : decode prog_14_method_29_code 115 = .ok (.getfield 21, 3) := zo_180 (d := 0) (e := 21) (zd_b zq_prog_14_method_29_code_3 19 rfl rfl rfl) (zd_b zq_prog_14_method_29_code_3 20 rfl rfl rfl) (zd_b zq_prog_14_method_29_code_3 21 rfl rfl rfl)
theorem d_Mm_freezeStep_118 : decode prog_14_method_29_code 118 = .ok (.iload 4, 2) := zo_21 (d := 4) (zd_b zq_prog_14_method_29_code_3 22 rfl rfl rfl) (zd_b zq_prog_14_method_29_code_3 23 rfl rfl rfl)
theorem d_Mm_freezeStep_120 : decode prog_14_method_29_code 120 = .ok (.sipush 1150, 3) := zo_17 (d := 4) (e := 126) (zd_b zq_prog_14_method_29_code_3 24 rfl rfl rfl) (zd_b zq_prog_14_method_29_code_3 25 rfl rfl rfl) (zd_b zq_prog_14_method_29_code_3 26 rfl rfl rfl) (by decide +kernel)
theorem d_Mm_freezeStep_123 : decode prog_14_method_29_code 123 = .ok (.iastore, 1) := zo_79 (zd_b zq_prog_14_method_29_code_3 27 rfl rfl rfl)
theorem d_Mm_freezeStep_124 : decode prog_14_method_29_code 124 = .ok (.aload_n 0, 1) := zo_42 (zd_b zq_prog_14_method_29_code_3 28 rfl rfl rfl)
theorem d_Mm_freezeStep_125 : decode prog_14_method_29_code 125 = .ok (.getfield 30, 3) := zo_180 (d := 0) (e := 30) (zd_b zq_prog_14_method_29_code_3 29 rfl rfl rfl) (zd_b zq_prog_14_method_29_code_3 30 rfl rfl rfl) (zd_b zq_prog_14_method_29_code_3 31 rfl rfl rfl)
theorem d_Mm_freezeStep_128 : decode prog_14_method_29_code 128 = .ok (.iload 4, 2) := zo_21 (d := 4) (zd_b zq_prog_14_method_29_code_4 0 rfl rfl rfl) (zd_b zq_prog_14_method_29_code_4 1 rfl rfl rfl)
theorem d_Mm_freezeStep_130 : decode prog_14_method_29_code 130 = .ok (.aload_n 0, 1) := zo_42 (zd_b zq_prog_14_method_29_code_4 2 rfl rfl rfl)
theorem d_Mm_freezeStep_131 : decode prog_14_method_29_code 131 = .ok (.getfield 27, 3) := zo_180 (d := 0) (e := 27) (zd_b zq_prog_14_method_29_code_4 3 rfl rfl rfl) (zd_b zq_prog_14_method_29_code_4 4 rfl rfl rfl) (zd_b zq_prog_14_method_29_code_4 5 rfl rfl rfl)
theorem d_Mm_freezeStep_134 : decode prog_14_method_29_code 134 = .ok (.iload 4, 2) := zo_21 (d := 4) (zd_b zq_prog_14_method_29_code_4 6 rfl rfl rfl) (zd_b zq_prog_14_method_29_code_4 7 rfl rfl rfl)
theorem d_Mm_freezeStep_136 : decode prog_14_method_29_code 136 = .ok (.iaload, 1) := zo_46 (zd_b zq_prog_14_method_29_code_4 8 rfl rfl rfl)
theorem d_Mm_freezeStep_137 : decode prog_14_method_29_code 137 = .ok (.ifCond .gt 7, 3) := zo_157 (d := 0) (e := 7) (zd_b zq_prog_14_method_29_code_4 9 rfl rfl rfl) (zd_b zq_prog_14_method_29_code_4 10 rfl rfl rfl) (zd_b zq_prog_14_method_29_code_4 11 rfl rfl rfl) (by decide +kernel)
theorem d_Mm_freezeStep_144 : decode prog_14_method_29_code 144 = .ok (.iconst 0, 1) := zo_3 (zd_b zq_prog_14_method_29_code_4 16 rfl rfl rfl)
theorem d_Mm_freezeStep_145 : decode prog_14_method_29_code 145 = .ok (.iastore, 1) := zo_79 (zd_b zq_prog_14_method_29_code_4 17 rfl rfl rfl)
theorem d_Mm_freezeStep_140 : decode prog_14_method_29_code 140 = .ok (.iload_n 2, 1) := zo_28 (zd_b zq_prog_14_method_29_code_4 12 rfl rfl rfl)
theorem d_Mm_freezeStep_141 : decode prog_14_method_29_code 141 = .ok (.goto 4, 3) := zo_167 (d := 0) (e := 4) (zd_b zq_prog_14_method_29_code_4 13 rfl rfl rfl) (zd_b zq_prog_14_method_29_code_4 14 rfl rfl rfl) (zd_b zq_prog_14_method_29_code_4 15 rfl rfl rfl) (by decide +kernel)
set_option maxHeartbeats 4000000 in
set_option maxRecDepth 100000 in
theorem L_Mm_freezeStepW_38 (g : zG) (m mp mf mh mn mt mz mc_ mq mgr ml mi mr mm mu mk mx : Nat) (th pt cl wa co_ fi bu ho lh mg wd fpi fal : Int32) (po de : Int64) (b : Nat) (f : Nat → Int32) (fl : Nat → Int32) (he nx mtt fz : Nat → Int32) (st : Int32) (w0 : zW) (n : Nat) : ∀ (d i : Nat) (lf : Int32) (he nx mtt fz : Nat → Int32), i ≤ 108 → 108 < i + d → (lf = 0 ∨ lf = 1) → DV g M_Mm_freezeStep (fun o cs1 => ∃ (v9 : Int32) (he9 nx9 mt9 fz9 : Nat → Int32), (v9 = 0 ∨ v9 = 1) ∧ o = .inl (some (.int v9)) ∧ cs1 = [(m, .inr (12, [.int th, .ref mp, .int pt, .ref mf, .ref mh, .ref mn, .ref mt, .ref mz, .ref mc_, .ref mq, .ref mgr, .int cl, .int wa, .int co_, .int fi, .int bu, .int ho, .ref ml, .ref mi, .ref mr, .int lh, .int mg, .int wd, .int fpi, .int fal, .ref mm, .ref mu, .ref mk, .ref mx, .long po, .long de])), (b, .inl (1, 108, .inl f)), (mf, .inl (0, 108, .inl fl)), (mh, .inl (0, 108, .inl he9)), (mn, .inl (0, 108, .inl nx9)), (mt, .inl (0, 108, .inl mt9)), (mz, .inl (0, 108, .inl fz9))]) w0 n 38 [(4, .int (nI i)), (3, .int lf), (0, .ref m), (1, .ref b), (2, .int st)] [] [(m, .inr (12, [.int th, .ref mp, .int pt, .ref mf, .ref mh, .ref mn, .ref mt, .ref mz, .ref mc_, .ref mq, .ref mgr, .int cl, .int wa, .int co_, .int fi, .int bu, .int ho, .ref ml, .ref mi, .ref mr, .int lh, .int mg, .int wd, .int fpi, .int fal, .ref mm, .ref mu, .ref mk, .ref mx, .long po, .long de])), (b, .inl (1, 108, .inl f)), (mf, .inl (0, 108, .inl fl)), (mh, .inl (0, 108, .inl he)), (mn, .inl (0, 108, .inl nx)), (mt, .inl (0, 108, .inl mtt)), (mz, .inl (0, 108, .inl fz))] 0 0 := by
  intro d
  induction d with
  | zero => intro i lf he nx mtt fz h1 h2 v1; exact absurd h2 (by omega)
  | succ d ih =>
    intro i lf he nx mtt fz h1 h2 v1
    refine r_iload d_Mm_freezeStep_38 0 rfl ?_
    refine r_bipush d_Mm_freezeStep_40 (v := 108) (by decide) ?_
    refine r_icmp_ge (tgt := 183) d_Mm_freezeStep_42 (by decide) (fun c_42 => ?_) (fun c_42 => ?_)
    · have hn := z_le (a := 108) (by omega) (by decide) c_42
      obtain rfl : i = 108 := by omega
      refine r_iload_n d_Mm_freezeStep_183 rfl 1 rfl ?_
      refine r_iret d_Mm_freezeStep_184 rfl (z_nar01 v1) ?_
      exact ⟨_, _, _, _, _, v1, rfl, rfl⟩
    · have hn := z_nle (a := 108) (by omega) (by decide) c_42
      refine r_aload_n d_Mm_freezeStep_45 rfl 2 rfl ?_
      refine r_get fs_Mm_21 d_Mm_freezeStep_46 (q0 := 0) rfl rfl ?_
      refine r_iload d_Mm_freezeStep_49 0 rfl ?_
      refine r_aload_n d_Mm_freezeStep_51 rfl 2 rfl ?_
      refine r_get fs_Mm_24 d_Mm_freezeStep_52 (q0 := 0) rfl rfl ?_
      refine r_iload d_Mm_freezeStep_55 0 rfl ?_
      refine r_iald d_Mm_freezeStep_57 (q0 := 4) rfl (vp_in_nI (by omega) (by omega)) (v := nx i) (by rw [nI_clamp (by omega)]) ?_
      refine r_iast d_Mm_freezeStep_58 (q0 := 3) rfl (vp_in_nI (by omega) (by omega)) (f' := upd he i (nx i)) (by rw [nI_clamp (by omega)]) (cs' := [(m, .inr (12, [.int th, .ref mp, .int pt, .ref mf, .ref mh, .ref mn, .ref mt, .ref mz, .ref mc_, .ref mq, .ref mgr, .int cl, .int wa, .int co_, .int fi, .int bu, .int ho, .ref ml, .ref mi, .ref mr, .int lh, .int mg, .int wd, .int fpi, .int fal, .ref mm, .ref mu, .ref mk, .ref mx, .long po, .long de])), (b, .inl (1, 108, .inl f)), (mf, .inl (0, 108, .inl fl)), (mh, .inl (0, 108, .inl (upd he i (nx i)))), (mn, .inl (0, 108, .inl nx)), (mt, .inl (0, 108, .inl mtt)), (mz, .inl (0, 108, .inl fz))]) rfl ?_
      refine r_aload_n d_Mm_freezeStep_59 rfl 2 rfl ?_
      refine r_get fs_Mm_17 d_Mm_freezeStep_60 (q0 := 0) rfl rfl ?_
      refine r_iload d_Mm_freezeStep_63 0 rfl ?_
      refine r_iald d_Mm_freezeStep_65 (q0 := 2) rfl (vp_in_nI (by omega) (by omega)) (v := fl i) (by rw [nI_clamp (by omega)]) ?_
      refine r_iconst d_Mm_freezeStep_66 (v := (-1)) (by decide) ?_
      refine r_icmp_eq (tgt := 146) d_Mm_freezeStep_67 (by decide) (fun c_67 => ?_) (fun c_67 => ?_)
      · refine r_iload_n d_Mm_freezeStep_146 rfl 1 rfl ?_
        refine r_if_ne (tgt := 171) d_Mm_freezeStep_147 (by decide) (fun c_147 => ?_) (fun c_147 => ?_)
        · refine r_iconst d_Mm_freezeStep_171 (v := 1) (by decide) ?_
          refine r_goto (tgt := 176) d_Mm_freezeStep_172 (by decide) ?_
          refine r_istore_n (lv' := [(3, .int 1), (4, .int (nI i)), (0, .ref m), (1, .ref b), (2, .int st)]) d_Mm_freezeStep_176 rfl (by decide) rfl ?_
          refine r_iinc (lv' := [(4, .int (nI (i + 1))), (3, .int 1), (0, .ref m), (1, .ref b), (2, .int st)]) (v := nI (i + 1)) d_Mm_freezeStep_177 (j := 1) rfl (nI_add _ _) (by decide) rfl ?_
          refine r_goto (tgt := 38) d_Mm_freezeStep_180 (by decide) ?_
          exact ih (i + 1) _ _ _ _ _ (by omega) (by omega) (Or.inr rfl)
        · refine r_aload_n d_Mm_freezeStep_150 rfl 2 rfl ?_
          refine r_get fs_Mm_17 d_Mm_freezeStep_151 (q0 := 0) rfl rfl ?_
          refine r_iload d_Mm_freezeStep_154 0 rfl ?_
          refine r_iald d_Mm_freezeStep_156 (q0 := 2) rfl (vp_in_nI (by omega) (by omega)) (v := fl i) (by rw [nI_clamp (by omega)]) ?_
          refine r_iconst d_Mm_freezeStep_157 (v := (-1)) (by decide) ?_
          refine r_icmp_eq (tgt := 175) d_Mm_freezeStep_158 (by decide) (fun c_158 => ?_) (fun c_158 => ?_)
          · refine r_iconst d_Mm_freezeStep_175 (v := 0) (by decide) ?_
            refine r_istore_n (lv' := [(3, .int 0), (4, .int (nI i)), (0, .ref m), (1, .ref b), (2, .int st)]) d_Mm_freezeStep_176 rfl (by decide) rfl ?_
            refine r_iinc (lv' := [(4, .int (nI (i + 1))), (3, .int 0), (0, .ref m), (1, .ref b), (2, .int st)]) (v := nI (i + 1)) d_Mm_freezeStep_177 (j := 1) rfl (nI_add _ _) (by decide) rfl ?_
            refine r_goto (tgt := 38) d_Mm_freezeStep_180 (by decide) ?_
            exact ih (i + 1) _ _ _ _ _ (by omega) (by omega) (Or.inl rfl)
          · refine r_aload_n d_Mm_freezeStep_161 rfl 2 rfl ?_
            refine r_get fs_Mm_30 d_Mm_freezeStep_162 (q0 := 0) rfl rfl ?_
            refine r_iload d_Mm_freezeStep_165 0 rfl ?_
            refine r_iald d_Mm_freezeStep_167 (q0 := 6) rfl (vp_in_nI (by omega) (by omega)) (v := fz i) (by rw [nI_clamp (by omega)]) ?_
            refine r_if_ne (tgt := 175) d_Mm_freezeStep_168 (by decide) (fun c_168 => ?_) (fun c_168 => ?_)
            · refine r_iconst d_Mm_freezeStep_175 (v := 0) (by decide) ?_
              refine r_istore_n (lv' := [(3, .int 0), (4, .int (nI i)), (0, .ref m), (1, .ref b), (2, .int st)]) d_Mm_freezeStep_176 rfl (by decide) rfl ?_
              refine r_iinc (lv' := [(4, .int (nI (i + 1))), (3, .int 0), (0, .ref m), (1, .ref b), (2, .int st)]) (v := nI (i + 1)) d_Mm_freezeStep_177 (j := 1) rfl (nI_add _ _) (by decide) rfl ?_
              refine r_goto (tgt := 38) d_Mm_freezeStep_180 (by decide) ?_
              exact ih (i + 1) _ _ _ _ _ (by omega) (by omega) (Or.inl rfl)
            · refine r_iconst d_Mm_freezeStep_171 (v := 1) (by decide) ?_
              refine r_goto (tgt := 176) d_Mm_freezeStep_172 (by decide) ?_
              refine r_istore_n (lv' := [(3, .int 1), (4, .int (nI i)), (0, .ref m), (1, .ref b), (2, .int st)]) d_Mm_freezeStep_176 rfl (by decide) rfl ?_
              refine r_iinc (lv' := [(4, .int (nI (i + 1))), (3, .int 1), (0, .ref m), (1, .ref b), (2, .int st)]) (v := nI (i + 1)) d_Mm_freezeStep_177 (j := 1) rfl (nI_add _ _) (by decide) rfl ?_
              refine r_goto (tgt := 38) d_Mm_freezeStep_180 (by decide) ?_
              exact ih (i + 1) _ _ _ _ _ (by omega) (by omega) (Or.inr rfl)
      · refine r_aload_n d_Mm_freezeStep_70 rfl 2 rfl ?_
        refine r_get fs_Mm_30 d_Mm_freezeStep_71 (q0 := 0) rfl rfl ?_
        refine r_iload d_Mm_freezeStep_74 0 rfl ?_
        refine r_iald d_Mm_freezeStep_76 (q0 := 6) rfl (vp_in_nI (by omega) (by omega)) (v := fz i) (by rw [nI_clamp (by omega)]) ?_
        refine r_if_ne (tgt := 146) d_Mm_freezeStep_77 (by decide) (fun c_77 => ?_) (fun c_77 => ?_)
        · refine r_iload_n d_Mm_freezeStep_146 rfl 1 rfl ?_
          refine r_if_ne (tgt := 171) d_Mm_freezeStep_147 (by decide) (fun c_147 => ?_) (fun c_147 => ?_)
          · refine r_iconst d_Mm_freezeStep_171 (v := 1) (by decide) ?_
            refine r_goto (tgt := 176) d_Mm_freezeStep_172 (by decide) ?_
            refine r_istore_n (lv' := [(3, .int 1), (4, .int (nI i)), (0, .ref m), (1, .ref b), (2, .int st)]) d_Mm_freezeStep_176 rfl (by decide) rfl ?_
            refine r_iinc (lv' := [(4, .int (nI (i + 1))), (3, .int 1), (0, .ref m), (1, .ref b), (2, .int st)]) (v := nI (i + 1)) d_Mm_freezeStep_177 (j := 1) rfl (nI_add _ _) (by decide) rfl ?_
            refine r_goto (tgt := 38) d_Mm_freezeStep_180 (by decide) ?_
            exact ih (i + 1) _ _ _ _ _ (by omega) (by omega) (Or.inr rfl)
          · refine r_aload_n d_Mm_freezeStep_150 rfl 2 rfl ?_
            refine r_get fs_Mm_17 d_Mm_freezeStep_151 (q0 := 0) rfl rfl ?_
            refine r_iload d_Mm_freezeStep_154 0 rfl ?_
            refine r_iald d_Mm_freezeStep_156 (q0 := 2) rfl (vp_in_nI (by omega) (by omega)) (v := fl i) (by rw [nI_clamp (by omega)]) ?_
            refine r_iconst d_Mm_freezeStep_157 (v := (-1)) (by decide) ?_
            refine r_icmp_eq (tgt := 175) d_Mm_freezeStep_158 (by decide) (fun c_158 => ?_) (fun c_158 => ?_)
            · refine r_iconst d_Mm_freezeStep_175 (v := 0) (by decide) ?_
              refine r_istore_n (lv' := [(3, .int 0), (4, .int (nI i)), (0, .ref m), (1, .ref b), (2, .int st)]) d_Mm_freezeStep_176 rfl (by decide) rfl ?_
              refine r_iinc (lv' := [(4, .int (nI (i + 1))), (3, .int 0), (0, .ref m), (1, .ref b), (2, .int st)]) (v := nI (i + 1)) d_Mm_freezeStep_177 (j := 1) rfl (nI_add _ _) (by decide) rfl ?_
              refine r_goto (tgt := 38) d_Mm_freezeStep_180 (by decide) ?_
              exact ih (i + 1) _ _ _ _ _ (by omega) (by omega) (Or.inl rfl)
            · refine r_aload_n d_Mm_freezeStep_161 rfl 2 rfl ?_
              refine r_get fs_Mm_30 d_Mm_freezeStep_162 (q0 := 0) rfl rfl ?_
              refine r_iload d_Mm_freezeStep_165 0 rfl ?_
              refine r_iald d_Mm_freezeStep_167 (q0 := 6) rfl (vp_in_nI (by omega) (by omega)) (v := fz i) (by rw [nI_clamp (by omega)]) ?_
              refine r_if_ne (tgt := 175) d_Mm_freezeStep_168 (by decide) (fun c_168 => ?_) (fun c_168 => ?_)
              · refine r_iconst d_Mm_freezeStep_175 (v := 0) (by decide) ?_
                refine r_istore_n (lv' := [(3, .int 0), (4, .int (nI i)), (0, .ref m), (1, .ref b), (2, .int st)]) d_Mm_freezeStep_176 rfl (by decide) rfl ?_
                refine r_iinc (lv' := [(4, .int (nI (i + 1))), (3, .int 0), (0, .ref m), (1, .ref b), (2, .int st)]) (v := nI (i + 1)) d_Mm_freezeStep_177 (j := 1) rfl (nI_add _ _) (by decide) rfl ?_
                refine r_goto (tgt := 38) d_Mm_freezeStep_180 (by decide) ?_
                exact ih (i + 1) _ _ _ _ _ (by omega) (by omega) (Or.inl rfl)
              · refine r_iconst d_Mm_freezeStep_171 (v := 1) (by decide) ?_
                refine r_goto (tgt := 176) d_Mm_freezeStep_172 (by decide) ?_
                refine r_istore_n (lv' := [(3, .int 1), (4, .int (nI i)), (0, .ref m), (1, .ref b), (2, .int st)]) d_Mm_freezeStep_176 rfl (by decide) rfl ?_
                refine r_iinc (lv' := [(4, .int (nI (i + 1))), (3, .int 1), (0, .ref m), (1, .ref b), (2, .int st)]) (v := nI (i + 1)) d_Mm_freezeStep_177 (j := 1) rfl (nI_add _ _) (by decide) rfl ?_
                refine r_goto (tgt := 38) d_Mm_freezeStep_180 (by decide) ?_
                exact ih (i + 1) _ _ _ _ _ (by omega) (by omega) (Or.inr rfl)
        · refine r_aload_n d_Mm_freezeStep_80 rfl 2 rfl ?_
          refine r_get fs_Mm_21 d_Mm_freezeStep_81 (q0 := 0) rfl rfl ?_
          refine r_iload d_Mm_freezeStep_84 0 rfl ?_
          refine r_iald d_Mm_freezeStep_86 (q0 := 3) rfl (vp_in_nI (by omega) (by omega)) (v := (upd he i (nx i)) i) (by rw [nI_clamp (by omega)]) ?_
          refine r_sipush d_Mm_freezeStep_87 (v := 1150) (by decide) ?_
          refine r_icmp_ge (tgt := 146) d_Mm_freezeStep_90 (by decide) (fun c_90 => ?_) (fun c_90 => ?_)
          · refine r_iload_n d_Mm_freezeStep_146 rfl 1 rfl ?_
            refine r_if_ne (tgt := 171) d_Mm_freezeStep_147 (by decide) (fun c_147 => ?_) (fun c_147 => ?_)
            · refine r_iconst d_Mm_freezeStep_171 (v := 1) (by decide) ?_
              refine r_goto (tgt := 176) d_Mm_freezeStep_172 (by decide) ?_
              refine r_istore_n (lv' := [(3, .int 1), (4, .int (nI i)), (0, .ref m), (1, .ref b), (2, .int st)]) d_Mm_freezeStep_176 rfl (by decide) rfl ?_
              refine r_iinc (lv' := [(4, .int (nI (i + 1))), (3, .int 1), (0, .ref m), (1, .ref b), (2, .int st)]) (v := nI (i + 1)) d_Mm_freezeStep_177 (j := 1) rfl (nI_add _ _) (by decide) rfl ?_
              refine r_goto (tgt := 38) d_Mm_freezeStep_180 (by decide) ?_
              exact ih (i + 1) _ _ _ _ _ (by omega) (by omega) (Or.inr rfl)
            · refine r_aload_n d_Mm_freezeStep_150 rfl 2 rfl ?_
              refine r_get fs_Mm_17 d_Mm_freezeStep_151 (q0 := 0) rfl rfl ?_
              refine r_iload d_Mm_freezeStep_154 0 rfl ?_
              refine r_iald d_Mm_freezeStep_156 (q0 := 2) rfl (vp_in_nI (by omega) (by omega)) (v := fl i) (by rw [nI_clamp (by omega)]) ?_
              refine r_iconst d_Mm_freezeStep_157 (v := (-1)) (by decide) ?_
              refine r_icmp_eq (tgt := 175) d_Mm_freezeStep_158 (by decide) (fun c_158 => ?_) (fun c_158 => ?_)
              · refine r_iconst d_Mm_freezeStep_175 (v := 0) (by decide) ?_
                refine r_istore_n (lv' := [(3, .int 0), (4, .int (nI i)), (0, .ref m), (1, .ref b), (2, .int st)]) d_Mm_freezeStep_176 rfl (by decide) rfl ?_
                refine r_iinc (lv' := [(4, .int (nI (i + 1))), (3, .int 0), (0, .ref m), (1, .ref b), (2, .int st)]) (v := nI (i + 1)) d_Mm_freezeStep_177 (j := 1) rfl (nI_add _ _) (by decide) rfl ?_
                refine r_goto (tgt := 38) d_Mm_freezeStep_180 (by decide) ?_
                exact ih (i + 1) _ _ _ _ _ (by omega) (by omega) (Or.inl rfl)
              · refine r_aload_n d_Mm_freezeStep_161 rfl 2 rfl ?_
                refine r_get fs_Mm_30 d_Mm_freezeStep_162 (q0 := 0) rfl rfl ?_
                refine r_iload d_Mm_freezeStep_165 0 rfl ?_
                refine r_iald d_Mm_freezeStep_167 (q0 := 6) rfl (vp_in_nI (by omega) (by omega)) (v := fz i) (by rw [nI_clamp (by omega)]) ?_
                refine r_if_ne (tgt := 175) d_Mm_freezeStep_168 (by decide) (fun c_168 => ?_) (fun c_168 => ?_)
                · refine r_iconst d_Mm_freezeStep_175 (v := 0) (by decide) ?_
                  refine r_istore_n (lv' := [(3, .int 0), (4, .int (nI i)), (0, .ref m), (1, .ref b), (2, .int st)]) d_Mm_freezeStep_176 rfl (by decide) rfl ?_
                  refine r_iinc (lv' := [(4, .int (nI (i + 1))), (3, .int 0), (0, .ref m), (1, .ref b), (2, .int st)]) (v := nI (i + 1)) d_Mm_freezeStep_177 (j := 1) rfl (nI_add _ _) (by decide) rfl ?_
                  refine r_goto (tgt := 38) d_Mm_freezeStep_180 (by decide) ?_
                  exact ih (i + 1) _ _ _ _ _ (by omega) (by omega) (Or.inl rfl)
                · refine r_iconst d_Mm_freezeStep_171 (v := 1) (by decide) ?_
                  refine r_goto (tgt := 176) d_Mm_freezeStep_172 (by decide) ?_
                  refine r_istore_n (lv' := [(3, .int 1), (4, .int (nI i)), (0, .ref m), (1, .ref b), (2, .int st)]) d_Mm_freezeStep_176 rfl (by decide) rfl ?_
                  refine r_iinc (lv' := [(4, .int (nI (i + 1))), (3, .int 1), (0, .ref m), (1, .ref b), (2, .int st)]) (v := nI (i + 1)) d_Mm_freezeStep_177 (j := 1) rfl (nI_add _ _) (by decide) rfl ?_
                  refine r_goto (tgt := 38) d_Mm_freezeStep_180 (by decide) ?_
                  exact ih (i + 1) _ _ _ _ _ (by omega) (by omega) (Or.inr rfl)
          · refine r_aload_n d_Mm_freezeStep_93 rfl 2 rfl ?_
            refine r_get fs_Mm_27 d_Mm_freezeStep_94 (q0 := 0) rfl rfl ?_
            refine r_iload d_Mm_freezeStep_97 0 rfl ?_
            refine r_dup2_11 d_Mm_freezeStep_99 rfl rfl ?_
            refine r_iald d_Mm_freezeStep_100 (q0 := 5) rfl (vp_in_nI (by omega) (by omega)) (v := mtt i) (by rw [nI_clamp (by omega)]) ?_
            refine r_sipush d_Mm_freezeStep_101 (v := 1150) (by decide) ?_
            refine r_aload_n d_Mm_freezeStep_104 rfl 2 rfl ?_
            refine r_get fs_Mm_21 d_Mm_freezeStep_105 (q0 := 0) rfl rfl ?_
            refine r_iload d_Mm_freezeStep_108 0 rfl ?_
            refine r_iald d_Mm_freezeStep_110 (q0 := 3) rfl (vp_in_nI (by omega) (by omega)) (v := (upd he i (nx i)) i) (by rw [nI_clamp (by omega)]) ?_
            refine r_isub d_Mm_freezeStep_111 (v := 1150 - ((upd he i (nx i)) i)) rfl ?_
            refine r_isub d_Mm_freezeStep_112 (v := (mtt i) - (1150 - ((upd he i (nx i)) i))) rfl ?_
            refine r_iast d_Mm_freezeStep_113 (q0 := 5) rfl (vp_in_nI (by omega) (by omega)) (f' := upd mtt i ((mtt i) - (1150 - ((upd he i (nx i)) i)))) (by rw [nI_clamp (by omega)]) (cs' := [(m, .inr (12, [.int th, .ref mp, .int pt, .ref mf, .ref mh, .ref mn, .ref mt, .ref mz, .ref mc_, .ref mq, .ref mgr, .int cl, .int wa, .int co_, .int fi, .int bu, .int ho, .ref ml, .ref mi, .ref mr, .int lh, .int mg, .int wd, .int fpi, .int fal, .ref mm, .ref mu, .ref mk, .ref mx, .long po, .long de])), (b, .inl (1, 108, .inl f)), (mf, .inl (0, 108, .inl fl)), (mh, .inl (0, 108, .inl (upd he i (nx i)))), (mn, .inl (0, 108, .inl nx)), (mt, .inl (0, 108, .inl (upd mtt i ((mtt i) - (1150 - ((upd he i (nx i)) i)))))), (mz, .inl (0, 108, .inl fz))]) rfl ?_
            refine r_aload_n d_Mm_freezeStep_114 rfl 2 rfl ?_
            refine r_get fs_Mm_21 d_Mm_freezeStep_115 (q0 := 0) rfl rfl ?_
            refine r_iload d_Mm_freezeStep_118 0 rfl ?_
            refine r_sipush d_Mm_freezeStep_120 (v := 1150) (by decide) ?_
            refine r_iast d_Mm_freezeStep_123 (q0 := 3) rfl (vp_in_nI (by omega) (by omega)) (f' := upd (upd he i (nx i)) i 1150) (by rw [nI_clamp (by omega)]) (cs' := [(m, .inr (12, [.int th, .ref mp, .int pt, .ref mf, .ref mh, .ref mn, .ref mt, .ref mz, .ref mc_, .ref mq, .ref mgr, .int cl, .int wa, .int co_, .int fi, .int bu, .int ho, .ref ml, .ref mi, .ref mr, .int lh, .int mg, .int wd, .int fpi, .int fal, .ref mm, .ref mu, .ref mk, .ref mx, .long po, .long de])), (b, .inl (1, 108, .inl f)), (mf, .inl (0, 108, .inl fl)), (mh, .inl (0, 108, .inl (upd (upd he i (nx i)) i 1150))), (mn, .inl (0, 108, .inl nx)), (mt, .inl (0, 108, .inl (upd mtt i ((mtt i) - (1150 - ((upd he i (nx i)) i)))))), (mz, .inl (0, 108, .inl fz))]) rfl ?_
            refine r_aload_n d_Mm_freezeStep_124 rfl 2 rfl ?_
            refine r_get fs_Mm_30 d_Mm_freezeStep_125 (q0 := 0) rfl rfl ?_
            refine r_iload d_Mm_freezeStep_128 0 rfl ?_
            refine r_aload_n d_Mm_freezeStep_130 rfl 2 rfl ?_
            refine r_get fs_Mm_27 d_Mm_freezeStep_131 (q0 := 0) rfl rfl ?_
            refine r_iload d_Mm_freezeStep_134 0 rfl ?_
            refine r_iald d_Mm_freezeStep_136 (q0 := 5) rfl (vp_in_nI (by omega) (by omega)) (v := (upd mtt i ((mtt i) - (1150 - ((upd he i (nx i)) i)))) i) (by rw [nI_clamp (by omega)]) ?_
            refine r_if_gt (tgt := 144) d_Mm_freezeStep_137 (by decide) (fun c_137 => ?_) (fun c_137 => ?_)
            · refine r_iconst d_Mm_freezeStep_144 (v := 0) (by decide) ?_
              refine r_iast d_Mm_freezeStep_145 (q0 := 6) rfl (vp_in_nI (by omega) (by omega)) (f' := upd fz i 0) (by rw [nI_clamp (by omega)]) (cs' := [(m, .inr (12, [.int th, .ref mp, .int pt, .ref mf, .ref mh, .ref mn, .ref mt, .ref mz, .ref mc_, .ref mq, .ref mgr, .int cl, .int wa, .int co_, .int fi, .int bu, .int ho, .ref ml, .ref mi, .ref mr, .int lh, .int mg, .int wd, .int fpi, .int fal, .ref mm, .ref mu, .ref mk, .ref mx, .long po, .long de])), (b, .inl (1, 108, .inl f)), (mf, .inl (0, 108, .inl fl)), (mh, .inl (0, 108, .inl (upd (upd he i (nx i)) i 1150))), (mn, .inl (0, 108, .inl nx)), (mt, .inl (0, 108, .inl (upd mtt i ((mtt i) - (1150 - ((upd he i (nx i)) i)))))), (mz, .inl (0, 108, .inl (upd fz i 0)))]) rfl ?_
              refine r_iload_n d_Mm_freezeStep_146 rfl 1 rfl ?_
              refine r_if_ne (tgt := 171) d_Mm_freezeStep_147 (by decide) (fun c_147 => ?_) (fun c_147 => ?_)
              · refine r_iconst d_Mm_freezeStep_171 (v := 1) (by decide) ?_
                refine r_goto (tgt := 176) d_Mm_freezeStep_172 (by decide) ?_
                refine r_istore_n (lv' := [(3, .int 1), (4, .int (nI i)), (0, .ref m), (1, .ref b), (2, .int st)]) d_Mm_freezeStep_176 rfl (by decide) rfl ?_
                refine r_iinc (lv' := [(4, .int (nI (i + 1))), (3, .int 1), (0, .ref m), (1, .ref b), (2, .int st)]) (v := nI (i + 1)) d_Mm_freezeStep_177 (j := 1) rfl (nI_add _ _) (by decide) rfl ?_
                refine r_goto (tgt := 38) d_Mm_freezeStep_180 (by decide) ?_
                exact ih (i + 1) _ _ _ _ _ (by omega) (by omega) (Or.inr rfl)
              · refine r_aload_n d_Mm_freezeStep_150 rfl 2 rfl ?_
                refine r_get fs_Mm_17 d_Mm_freezeStep_151 (q0 := 0) rfl rfl ?_
                refine r_iload d_Mm_freezeStep_154 0 rfl ?_
                refine r_iald d_Mm_freezeStep_156 (q0 := 2) rfl (vp_in_nI (by omega) (by omega)) (v := fl i) (by rw [nI_clamp (by omega)]) ?_
                refine r_iconst d_Mm_freezeStep_157 (v := (-1)) (by decide) ?_
                refine r_icmp_eq (tgt := 175) d_Mm_freezeStep_158 (by decide) (fun c_158 => ?_) (fun c_158 => ?_)
                · refine r_iconst d_Mm_freezeStep_175 (v := 0) (by decide) ?_
                  refine r_istore_n (lv' := [(3, .int 0), (4, .int (nI i)), (0, .ref m), (1, .ref b), (2, .int st)]) d_Mm_freezeStep_176 rfl (by decide) rfl ?_
                  refine r_iinc (lv' := [(4, .int (nI (i + 1))), (3, .int 0), (0, .ref m), (1, .ref b), (2, .int st)]) (v := nI (i + 1)) d_Mm_freezeStep_177 (j := 1) rfl (nI_add _ _) (by decide) rfl ?_
                  refine r_goto (tgt := 38) d_Mm_freezeStep_180 (by decide) ?_
                  exact ih (i + 1) _ _ _ _ _ (by omega) (by omega) (Or.inl rfl)
                · refine r_aload_n d_Mm_freezeStep_161 rfl 2 rfl ?_
                  refine r_get fs_Mm_30 d_Mm_freezeStep_162 (q0 := 0) rfl rfl ?_
                  refine r_iload d_Mm_freezeStep_165 0 rfl ?_
                  refine r_iald d_Mm_freezeStep_167 (q0 := 6) rfl (vp_in_nI (by omega) (by omega)) (v := (upd fz i 0) i) (by rw [nI_clamp (by omega)]) ?_
                  refine r_if_ne (tgt := 175) d_Mm_freezeStep_168 (by decide) (fun c_168 => ?_) (fun c_168 => ?_)
                  · refine r_iconst d_Mm_freezeStep_175 (v := 0) (by decide) ?_
                    refine r_istore_n (lv' := [(3, .int 0), (4, .int (nI i)), (0, .ref m), (1, .ref b), (2, .int st)]) d_Mm_freezeStep_176 rfl (by decide) rfl ?_
                    refine r_iinc (lv' := [(4, .int (nI (i + 1))), (3, .int 0), (0, .ref m), (1, .ref b), (2, .int st)]) (v := nI (i + 1)) d_Mm_freezeStep_177 (j := 1) rfl (nI_add _ _) (by decide) rfl ?_
                    refine r_goto (tgt := 38) d_Mm_freezeStep_180 (by decide) ?_
                    exact ih (i + 1) _ _ _ _ _ (by omega) (by omega) (Or.inl rfl)
                  · refine r_iconst d_Mm_freezeStep_171 (v := 1) (by decide) ?_
                    refine r_goto (tgt := 176) d_Mm_freezeStep_172 (by decide) ?_
                    refine r_istore_n (lv' := [(3, .int 1), (4, .int (nI i)), (0, .ref m), (1, .ref b), (2, .int st)]) d_Mm_freezeStep_176 rfl (by decide) rfl ?_
                    refine r_iinc (lv' := [(4, .int (nI (i + 1))), (3, .int 1), (0, .ref m), (1, .ref b), (2, .int st)]) (v := nI (i + 1)) d_Mm_freezeStep_177 (j := 1) rfl (nI_add _ _) (by decide) rfl ?_
                    refine r_goto (tgt := 38) d_Mm_freezeStep_180 (by decide) ?_
                    exact ih (i + 1) _ _ _ _ _ (by omega) (by omega) (Or.inr rfl)
            · refine r_iload_n d_Mm_freezeStep_140 rfl 4 rfl ?_
              refine r_goto (tgt := 145) d_Mm_freezeStep_141 (by decide) ?_
              refine r_iast d_Mm_freezeStep_145 (q0 := 6) rfl (vp_in_nI (by omega) (by omega)) (f' := upd fz i st) (by rw [nI_clamp (by omega)]) (cs' := [(m, .inr (12, [.int th, .ref mp, .int pt, .ref mf, .ref mh, .ref mn, .ref mt, .ref mz, .ref mc_, .ref mq, .ref mgr, .int cl, .int wa, .int co_, .int fi, .int bu, .int ho, .ref ml, .ref mi, .ref mr, .int lh, .int mg, .int wd, .int fpi, .int fal, .ref mm, .ref mu, .ref mk, .ref mx, .long po, .long de])), (b, .inl (1, 108, .inl f)), (mf, .inl (0, 108, .inl fl)), (mh, .inl (0, 108, .inl (upd (upd he i (nx i)) i 1150))), (mn, .inl (0, 108, .inl nx)), (mt, .inl (0, 108, .inl (upd mtt i ((mtt i) - (1150 - ((upd he i (nx i)) i)))))), (mz, .inl (0, 108, .inl (upd fz i st)))]) rfl ?_
              refine r_iload_n d_Mm_freezeStep_146 rfl 1 rfl ?_
              refine r_if_ne (tgt := 171) d_Mm_freezeStep_147 (by decide) (fun c_147 => ?_) (fun c_147 => ?_)
              · refine r_iconst d_Mm_freezeStep_171 (v := 1) (by decide) ?_
                refine r_goto (tgt := 176) d_Mm_freezeStep_172 (by decide) ?_
                refine r_istore_n (lv' := [(3, .int 1), (4, .int (nI i)), (0, .ref m), (1, .ref b), (2, .int st)]) d_Mm_freezeStep_176 rfl (by decide) rfl ?_
                refine r_iinc (lv' := [(4, .int (nI (i + 1))), (3, .int 1), (0, .ref m), (1, .ref b), (2, .int st)]) (v := nI (i + 1)) d_Mm_freezeStep_177 (j := 1) rfl (nI_add _ _) (by decide) rfl ?_
                refine r_goto (tgt := 38) d_Mm_freezeStep_180 (by decide) ?_
                exact ih (i + 1) _ _ _ _ _ (by omega) (by omega) (Or.inr rfl)
              · refine r_aload_n d_Mm_freezeStep_150 rfl 2 rfl ?_
                refine r_get fs_Mm_17 d_Mm_freezeStep_151 (q0 := 0) rfl rfl ?_
                refine r_iload d_Mm_freezeStep_154 0 rfl ?_
                refine r_iald d_Mm_freezeStep_156 (q0 := 2) rfl (vp_in_nI (by omega) (by omega)) (v := fl i) (by rw [nI_clamp (by omega)]) ?_
                refine r_iconst d_Mm_freezeStep_157 (v := (-1)) (by decide) ?_
                refine r_icmp_eq (tgt := 175) d_Mm_freezeStep_158 (by decide) (fun c_158 => ?_) (fun c_158 => ?_)
                · refine r_iconst d_Mm_freezeStep_175 (v := 0) (by decide) ?_
                  refine r_istore_n (lv' := [(3, .int 0), (4, .int (nI i)), (0, .ref m), (1, .ref b), (2, .int st)]) d_Mm_freezeStep_176 rfl (by decide) rfl ?_
                  refine r_iinc (lv' := [(4, .int (nI (i + 1))), (3, .int 0), (0, .ref m), (1, .ref b), (2, .int st)]) (v := nI (i + 1)) d_Mm_freezeStep_177 (j := 1) rfl (nI_add _ _) (by decide) rfl ?_
                  refine r_goto (tgt := 38) d_Mm_freezeStep_180 (by decide) ?_
                  exact ih (i + 1) _ _ _ _ _ (by omega) (by omega) (Or.inl rfl)
                · refine r_aload_n d_Mm_freezeStep_161 rfl 2 rfl ?_
                  refine r_get fs_Mm_30 d_Mm_freezeStep_162 (q0 := 0) rfl rfl ?_
                  refine r_iload d_Mm_freezeStep_165 0 rfl ?_
                  refine r_iald d_Mm_freezeStep_167 (q0 := 6) rfl (vp_in_nI (by omega) (by omega)) (v := (upd fz i st) i) (by rw [nI_clamp (by omega)]) ?_
                  refine r_if_ne (tgt := 175) d_Mm_freezeStep_168 (by decide) (fun c_168 => ?_) (fun c_168 => ?_)
                  · refine r_iconst d_Mm_freezeStep_175 (v := 0) (by decide) ?_
                    refine r_istore_n (lv' := [(3, .int 0), (4, .int (nI i)), (0, .ref m), (1, .ref b), (2, .int st)]) d_Mm_freezeStep_176 rfl (by decide) rfl ?_
                    refine r_iinc (lv' := [(4, .int (nI (i + 1))), (3, .int 0), (0, .ref m), (1, .ref b), (2, .int st)]) (v := nI (i + 1)) d_Mm_freezeStep_177 (j := 1) rfl (nI_add _ _) (by decide) rfl ?_
                    refine r_goto (tgt := 38) d_Mm_freezeStep_180 (by decide) ?_
                    exact ih (i + 1) _ _ _ _ _ (by omega) (by omega) (Or.inl rfl)
                  · refine r_iconst d_Mm_freezeStep_171 (v := 1) (by decide) ?_
                    refine r_goto (tgt := 176) d_Mm_freezeStep_172 (by decide) ?_
                    refine r_istore_n (lv' := [(3, .int 1), (4, .int (nI i)), (0, .ref m), (1, .ref b), (2, .int st)]) d_Mm_freezeStep_176 rfl (by decide) rfl ?_
                    refine r_iinc (lv' := [(4, .int (nI (i + 1))), (3, .int 1), (0, .ref m), (1, .ref b), (2, .int st)]) (v := nI (i + 1)) d_Mm_freezeStep_177 (j := 1) rfl (nI_add _ _) (by decide) rfl ?_
                    refine r_goto (tgt := 38) d_Mm_freezeStep_180 (by decide) ?_
                    exact ih (i + 1) _ _ _ _ _ (by omega) (by omega) (Or.inr rfl)
set_option maxHeartbeats 4000000 in
set_option maxRecDepth 100000 in
theorem L_Mm_freezeStepW_2 (g : zG) (m mp mf mh mn mt mz mc_ mq mgr ml mi mr mm mu mk mx : Nat) (th pt cl wa co_ fi bu ho lh mg wd fpi fal : Int32) (po de : Int64) (b : Nat) (f : Nat → Int32) (fl : Nat → Int32) (he nx mtt fz : Nat → Int32) (st : Int32) (w0 : zW) (n : Nat) : ∀ (d i : Nat) (nx : Nat → Int32), i ≤ 108 → 108 < i + d → DV g M_Mm_freezeStep (fun o cs1 => ∃ (v9 : Int32) (he9 nx9 mt9 fz9 : Nat → Int32), (v9 = 0 ∨ v9 = 1) ∧ o = .inl (some (.int v9)) ∧ cs1 = [(m, .inr (12, [.int th, .ref mp, .int pt, .ref mf, .ref mh, .ref mn, .ref mt, .ref mz, .ref mc_, .ref mq, .ref mgr, .int cl, .int wa, .int co_, .int fi, .int bu, .int ho, .ref ml, .ref mi, .ref mr, .int lh, .int mg, .int wd, .int fpi, .int fal, .ref mm, .ref mu, .ref mk, .ref mx, .long po, .long de])), (b, .inl (1, 108, .inl f)), (mf, .inl (0, 108, .inl fl)), (mh, .inl (0, 108, .inl he9)), (mn, .inl (0, 108, .inl nx9)), (mt, .inl (0, 108, .inl mt9)), (mz, .inl (0, 108, .inl fz9))]) w0 n 2 [(3, .int (nI i)), (0, .ref m), (1, .ref b), (2, .int st)] [] [(m, .inr (12, [.int th, .ref mp, .int pt, .ref mf, .ref mh, .ref mn, .ref mt, .ref mz, .ref mc_, .ref mq, .ref mgr, .int cl, .int wa, .int co_, .int fi, .int bu, .int ho, .ref ml, .ref mi, .ref mr, .int lh, .int mg, .int wd, .int fpi, .int fal, .ref mm, .ref mu, .ref mk, .ref mx, .long po, .long de])), (b, .inl (1, 108, .inl f)), (mf, .inl (0, 108, .inl fl)), (mh, .inl (0, 108, .inl he)), (mn, .inl (0, 108, .inl nx)), (mt, .inl (0, 108, .inl mtt)), (mz, .inl (0, 108, .inl fz))] 0 0 := by
  intro d
  induction d with
  | zero => intro i nx h1 h2 ; exact absurd h2 (by omega)
  | succ d ih =>
    intro i nx h1 h2 
    refine r_iload_n d_Mm_freezeStep_2 rfl 0 rfl ?_
    refine r_bipush d_Mm_freezeStep_3 (v := 108) (by decide) ?_
    refine r_icmp_ge (tgt := 33) d_Mm_freezeStep_5 (by decide) (fun c_5 => ?_) (fun c_5 => ?_)
    · have hn := z_le (a := 108) (by omega) (by decide) c_5
      obtain rfl : i = 108 := by omega
      refine r_iconst d_Mm_freezeStep_33 (v := 0) (by decide) ?_
      refine r_istore_n (lv' := [(3, .int 0), (0, .ref m), (1, .ref b), (2, .int st)]) d_Mm_freezeStep_34 rfl (by decide) rfl ?_
      refine r_iconst d_Mm_freezeStep_35 (v := 0) (by decide) ?_
      refine r_istore (lv' := [(4, .int 0), (3, .int 0), (0, .ref m), (1, .ref b), (2, .int st)]) d_Mm_freezeStep_36 (by decide) rfl ?_
      exact L_Mm_freezeStepW_38 g m mp mf mh mn mt mz mc_ mq mgr ml mi mr mm mu mk mx th pt cl wa co_ fi bu ho lh mg wd fpi fal po de b f fl he nx mtt fz st w0 _  (108 + 1) 0 _ _ _ _ _ (Nat.zero_le _) (by omega) (Or.inl rfl)
    · have hn := z_nle (a := 108) (by omega) (by decide) c_5
      refine r_aload_n d_Mm_freezeStep_8 rfl 1 rfl ?_
      refine r_get fs_Mm_24 d_Mm_freezeStep_9 (q0 := 0) rfl rfl ?_
      refine r_iload_n d_Mm_freezeStep_12 rfl 0 rfl ?_
      refine r_aload_n d_Mm_freezeStep_13 rfl 1 rfl ?_
      refine r_get fs_Mm_21 d_Mm_freezeStep_14 (q0 := 0) rfl rfl ?_
      refine r_iload_n d_Mm_freezeStep_17 rfl 0 rfl ?_
      refine r_iald d_Mm_freezeStep_18 (q0 := 3) rfl (vp_in_nI (by omega) (by omega)) (v := he i) (by rw [nI_clamp (by omega)]) ?_
      refine r_aload_n d_Mm_freezeStep_19 rfl 1 rfl ?_
      refine r_aload_n d_Mm_freezeStep_20 rfl 2 rfl ?_
      refine r_iload_n d_Mm_freezeStep_21 rfl 0 rfl ?_
      refine r_callV (As := [.ref b, .int (nI i)]) (rest := [.int (he i), .int (nI i), .ref mn]) (csC := [(m, .inr (12, [.int th, .ref mp, .int pt, .ref mf, .ref mh, .ref mn, .ref mt, .ref mz, .ref mc_, .ref mq, .ref mgr, .int cl, .int wa, .int co_, .int fi, .int bu, .int ho, .ref ml, .ref mi, .ref mr, .int lh, .int mg, .int wd, .int fpi, .int fal, .ref mm, .ref mu, .ref mk, .ref mx, .long po, .long de])), (b, .inl (1, 108, .inl f)), (mf, .inl (0, 108, .inl fl)), (mh, .inl (0, 108, .inl he))]) (is := [0, 1, 2, 3]) (q0 := 0) rfl rfl ln_Mm_154 w_im_Mm_gains w_se_Mm_gains ok_Mm_freezeStep_Mm_gains d_Mm_freezeStep_22 (C_Mm_gainsW g m mp mf mh mn mt mz mc_ mq mgr ml mi mr mm mu mk mx th pt cl wa co_ fi bu ho lh mg wd fpi fal po de b f fl he i (by omega)) rfl rfl (Nat.le_of_ble_eq_true rfl) rfl (by decide) (by omega) (by omega) (fun E cs1 hx => ?_) (fun v cs1 hx => ?_)
      · obtain ⟨g9, e1, -⟩ := hx
        cases e1
      · obtain ⟨g9, e1, rfl⟩ := hx
        cases e1
        refine ⟨rfl, ?_⟩
        refine r_st (st2 := [.int g9, .int (he i), .int (nI i), .ref mn]) rfl ?_
        refine r_cs (cs2 := [(m, .inr (12, [.int th, .ref mp, .int pt, .ref mf, .ref mh, .ref mn, .ref mt, .ref mz, .ref mc_, .ref mq, .ref mgr, .int cl, .int wa, .int co_, .int fi, .int bu, .int ho, .ref ml, .ref mi, .ref mr, .int lh, .int mg, .int wd, .int fpi, .int fal, .ref mm, .ref mu, .ref mk, .ref mx, .long po, .long de])), (b, .inl (1, 108, .inl f)), (mf, .inl (0, 108, .inl fl)), (mh, .inl (0, 108, .inl he)), (mn, .inl (0, 108, .inl nx)), (mt, .inl (0, 108, .inl mtt)), (mz, .inl (0, 108, .inl fz))]) rfl ?_
        refine r_iadd d_Mm_freezeStep_25 (v := (he i) + g9) rfl ?_
        refine r_iast d_Mm_freezeStep_26 (q0 := 4) rfl (vp_in_nI (by omega) (by omega)) (f' := upd nx i ((he i) + g9)) (by rw [nI_clamp (by omega)]) (cs' := [(m, .inr (12, [.int th, .ref mp, .int pt, .ref mf, .ref mh, .ref mn, .ref mt, .ref mz, .ref mc_, .ref mq, .ref mgr, .int cl, .int wa, .int co_, .int fi, .int bu, .int ho, .ref ml, .ref mi, .ref mr, .int lh, .int mg, .int wd, .int fpi, .int fal, .ref mm, .ref mu, .ref mk, .ref mx, .long po, .long de])), (b, .inl (1, 108, .inl f)), (mf, .inl (0, 108, .inl fl)), (mh, .inl (0, 108, .inl he)), (mn, .inl (0, 108, .inl (upd nx i ((he i) + g9)))), (mt, .inl (0, 108, .inl mtt)), (mz, .inl (0, 108, .inl fz))]) rfl ?_
        refine r_iinc (lv' := [(3, .int (nI (i + 1))), (0, .ref m), (1, .ref b), (2, .int st)]) (v := nI (i + 1)) d_Mm_freezeStep_27 (j := 0) rfl (nI_add _ _) (by decide) rfl ?_
        refine r_goto (tgt := 2) d_Mm_freezeStep_30 (by decide) ?_
        exact ih (i + 1) _ (by omega) (by omega)
set_option maxHeartbeats 4000000 in
set_option maxRecDepth 100000 in
theorem C_Mm_freezeStepW (g : zG) (m mp mf mh mn mt mz mc_ mq mgr ml mi mr mm mu mk mx : Nat) (th pt cl wa co_ fi bu ho lh mg wd fpi fal : Int32) (po de : Int64) (b : Nat) (f : Nat → Int32) (fl : Nat → Int32) (he nx mtt fz : Nat → Int32) (st : Int32) : CT g M_Mm_freezeStep [.ref m, .ref b, .int st] [(m, .inr (12, [.int th, .ref mp, .int pt, .ref mf, .ref mh, .ref mn, .ref mt, .ref mz, .ref mc_, .ref mq, .ref mgr, .int cl, .int wa, .int co_, .int fi, .int bu, .int ho, .ref ml, .ref mi, .ref mr, .int lh, .int mg, .int wd, .int fpi, .int fal, .ref mm, .ref mu, .ref mk, .ref mx, .long po, .long de])), (b, .inl (1, 108, .inl f)), (mf, .inl (0, 108, .inl fl)), (mh, .inl (0, 108, .inl he)), (mn, .inl (0, 108, .inl nx)), (mt, .inl (0, 108, .inl mtt)), (mz, .inl (0, 108, .inl fz))] (fun o cs1 => ∃ (v9 : Int32) (he9 nx9 mt9 fz9 : Nat → Int32), (v9 = 0 ∨ v9 = 1) ∧ o = .inl (some (.int v9)) ∧ cs1 = [(m, .inr (12, [.int th, .ref mp, .int pt, .ref mf, .ref mh, .ref mn, .ref mt, .ref mz, .ref mc_, .ref mq, .ref mgr, .int cl, .int wa, .int co_, .int fi, .int bu, .int ho, .ref ml, .ref mi, .ref mr, .int lh, .int mg, .int wd, .int fpi, .int fal, .ref mm, .ref mu, .ref mk, .ref mx, .long po, .long de])), (b, .inl (1, 108, .inl f)), (mf, .inl (0, 108, .inl fl)), (mh, .inl (0, 108, .inl he9)), (mn, .inl (0, 108, .inl nx9)), (mt, .inl (0, 108, .inl mt9)), (mz, .inl (0, 108, .inl fz9))]) 0 0 := by
  refine z_of (by decide) rfl (Nat.le_of_ble_eq_true rfl) (fun w0 => ?_)
  refine r_lvE (lv2 := [(0, .ref m), (1, .ref b), (2, .int st)]) rfl ?_
  refine r_iconst d_Mm_freezeStep_0 (v := 0) (by decide) ?_
  refine r_istore_n (lv' := [(3, .int 0), (0, .ref m), (1, .ref b), (2, .int st)]) d_Mm_freezeStep_1 rfl (by decide) rfl ?_
  exact L_Mm_freezeStepW_2 g m mp mf mh mn mt mz mc_ mq mgr ml mi mr mm mu mk mx th pt cl wa co_ fi bu ho lh mg wd fpi fal po de b f fl he nx mtt fz st w0 _  (108 + 1) 0 _ (Nat.zero_le _) (by omega)
abbrev M_Mm_nextToFill : zM := (⟨"IronpourModel", "nextToFill", "([CI)I"⟩, prog_14_method_23_code, 9, (Option.some FieldType.int), 4, 86, [])
theorem d_Mm_nextToFill_32 : decode prog_14_method_23_code 32 = .ok (.iload 7, 2) := zo_21 (d := 7) (zd_b zq_prog_14_method_23_code_1 0 rfl rfl rfl) (zd_b zq_prog_14_method_23_code_1 1 rfl rfl rfl)
theorem d_Mm_nextToFill_34 : decode prog_14_method_23_code 34 = .ok (.iconst 4, 1) := zo_7 (zd_b zq_prog_14_method_23_code_1 2 rfl rfl rfl)
theorem d_Mm_nextToFill_35 : decode prog_14_method_23_code 35 = .ok (.if_icmp .ge 79, 3) := zo_162 (d := 0) (e := 79) (zd_b zq_prog_14_method_23_code_1 3 rfl rfl rfl) (zd_b zq_prog_14_method_23_code_1 4 rfl rfl rfl) (zd_b zq_prog_14_method_23_code_1 5 rfl rfl rfl) (by decide +kernel)
theorem d_Mm_nextToFill_38 : decode prog_14_method_23_code 38 = .ok (.aload_n 1, 1) := zo_43 (zd_b zq_prog_14_method_23_code_1 6 rfl rfl rfl)
theorem d_Mm_nextToFill_39 : decode prog_14_method_23_code 39 = .ok (.iload 5, 2) := zo_21 (d := 5) (zd_b zq_prog_14_method_23_code_1 7 rfl rfl rfl) (zd_b zq_prog_14_method_23_code_1 8 rfl rfl rfl)
theorem d_Mm_nextToFill_41 : decode prog_14_method_23_code 41 = .ok (.caload, 1) := zo_52 (zd_b zq_prog_14_method_23_code_1 9 rfl rfl rfl)
theorem d_Mm_nextToFill_42 : decode prog_14_method_23_code 42 = .ok (.invokestatic 107, 3) := zo_184 (d := 0) (e := 107) (zd_b zq_prog_14_method_23_code_1 10 rfl rfl rfl) (zd_b zq_prog_14_method_23_code_1 11 rfl rfl rfl) (zd_b zq_prog_14_method_23_code_1 12 rfl rfl rfl)
theorem ok_Mm_nextToFill_Mm_isMetal : z_ok M_Mm_nextToFill M_Mm_isMetal 1 := ⟨z_mj7 (i := 214) rfl (by decide +kernel), rfl, ⟨by decide +kernel, by decide +kernel, by decide +kernel⟩, ⟨by decide, by decide⟩, z_mj1 (i := 14) rfl (by decide +kernel), rfl⟩
theorem d_Mm_nextToFill_45 : decode prog_14_method_23_code 45 = .ok (.ifCond .eq 69, 3) := zo_153 (d := 0) (e := 69) (zd_b zq_prog_14_method_23_code_1 13 rfl rfl rfl) (zd_b zq_prog_14_method_23_code_1 14 rfl rfl rfl) (zd_b zq_prog_14_method_23_code_1 15 rfl rfl rfl) (by decide +kernel)
theorem d_Mm_nextToFill_48 : decode prog_14_method_23_code 48 = .ok (.aload_n 0, 1) := zo_42 (zd_b zq_prog_14_method_23_code_1 16 rfl rfl rfl)
theorem d_Mm_nextToFill_49 : decode prog_14_method_23_code 49 = .ok (.getfield 17, 3) := zo_180 (d := 0) (e := 17) (zd_b zq_prog_14_method_23_code_1 17 rfl rfl rfl) (zd_b zq_prog_14_method_23_code_1 18 rfl rfl rfl) (zd_b zq_prog_14_method_23_code_1 19 rfl rfl rfl)
theorem d_Mm_nextToFill_52 : decode prog_14_method_23_code 52 = .ok (.iload 5, 2) := zo_21 (d := 5) (zd_b zq_prog_14_method_23_code_1 20 rfl rfl rfl) (zd_b zq_prog_14_method_23_code_1 21 rfl rfl rfl)
theorem d_Mm_nextToFill_54 : decode prog_14_method_23_code 54 = .ok (.iaload, 1) := zo_46 (zd_b zq_prog_14_method_23_code_1 22 rfl rfl rfl)
theorem d_Mm_nextToFill_55 : decode prog_14_method_23_code 55 = .ok (.iconst (-1), 1) := zo_2 (zd_b zq_prog_14_method_23_code_1 23 rfl rfl rfl)
theorem d_Mm_nextToFill_56 : decode prog_14_method_23_code 56 = .ok (.if_icmp .ne 58, 3) := zo_160 (d := 0) (e := 58) (zd_b zq_prog_14_method_23_code_1 24 rfl rfl rfl) (zd_b zq_prog_14_method_23_code_1 25 rfl rfl rfl) (zd_b zq_prog_14_method_23_code_1 26 rfl rfl rfl) (by decide +kernel)
theorem d_Mm_nextToFill_59 : decode prog_14_method_23_code 59 = .ok (.iload 5, 2) := zo_21 (d := 5) (zd_b zq_prog_14_method_23_code_1 27 rfl rfl rfl) (zd_b zq_prog_14_method_23_code_1 28 rfl rfl rfl)
theorem d_Mm_nextToFill_61 : decode prog_14_method_23_code 61 = .ok (.iload 7, 2) := zo_21 (d := 7) (zd_b zq_prog_14_method_23_code_1 29 rfl rfl rfl) (zd_b zq_prog_14_method_23_code_1 30 rfl rfl rfl)
theorem d_Mm_nextToFill_63 : decode prog_14_method_23_code 63 = .ok (.invokestatic 119, 3) := zo_184 (d := 0) (e := 119) (zd_b zq_prog_14_method_23_code_1 31 rfl rfl rfl) (zd_b zq_prog_14_method_23_code_2 0 rfl rfl rfl) (zd_b zq_prog_14_method_23_code_2 1 rfl rfl rfl)
theorem ok_Mm_nextToFill_Mm_beside : z_ok M_Mm_nextToFill M_Mm_beside 2 := ⟨z_mj7 (i := 229) rfl (by decide +kernel), rfl, ⟨by decide +kernel, by decide +kernel, by decide +kernel⟩, ⟨by decide, by decide⟩, z_mj1 (i := 14) rfl (by decide +kernel), rfl⟩
theorem d_Mm_nextToFill_66 : decode prog_14_method_23_code 66 = .ok (.istore 8, 2) := zo_54 (d := 8) (zd_b zq_prog_14_method_23_code_2 2 rfl rfl rfl) (zd_b zq_prog_14_method_23_code_2 3 rfl rfl rfl)
theorem d_Mm_nextToFill_68 : decode prog_14_method_23_code 68 = .ok (.iload 6, 2) := zo_21 (d := 6) (zd_b zq_prog_14_method_23_code_2 4 rfl rfl rfl) (zd_b zq_prog_14_method_23_code_2 5 rfl rfl rfl)
theorem d_Mm_nextToFill_70 : decode prog_14_method_23_code 70 = .ok (.ifCond .ne 31, 3) := zo_154 (d := 0) (e := 31) (zd_b zq_prog_14_method_23_code_2 6 rfl rfl rfl) (zd_b zq_prog_14_method_23_code_2 7 rfl rfl rfl) (zd_b zq_prog_14_method_23_code_2 8 rfl rfl rfl) (by decide +kernel)
theorem d_Mm_nextToFill_101 : decode prog_14_method_23_code 101 = .ok (.iconst 1, 1) := zo_4 (zd_b zq_prog_14_method_23_code_3 5 rfl rfl rfl)
theorem d_Mm_nextToFill_102 : decode prog_14_method_23_code 102 = .ok (.goto 4, 3) := zo_167 (d := 0) (e := 4) (zd_b zq_prog_14_method_23_code_3 6 rfl rfl rfl) (zd_b zq_prog_14_method_23_code_3 7 rfl rfl rfl) (zd_b zq_prog_14_method_23_code_3 8 rfl rfl rfl) (by decide +kernel)
theorem d_Mm_nextToFill_106 : decode prog_14_method_23_code 106 = .ok (.istore 6, 2) := zo_54 (d := 6) (zd_b zq_prog_14_method_23_code_3 10 rfl rfl rfl) (zd_b zq_prog_14_method_23_code_3 11 rfl rfl rfl)
theorem d_Mm_nextToFill_108 : decode prog_14_method_23_code 108 = .ok (.iinc 7 1, 3) := by decide +kernel
theorem d_Mm_nextToFill_111 : decode prog_14_method_23_code 111 = .ok (.goto (-79), 3) := zo_167 (d := 255) (e := 177) (zd_b zq_prog_14_method_23_code_3 15 rfl rfl rfl) (zd_b zq_prog_14_method_23_code_3 16 rfl rfl rfl) (zd_b zq_prog_14_method_23_code_3 17 rfl rfl rfl) (by decide +kernel)
theorem d_Mm_nextToFill_73 : decode prog_14_method_23_code 73 = .ok (.iload 8, 2) := zo_21 (d := 8) (zd_b zq_prog_14_method_23_code_2 9 rfl rfl rfl) (zd_b zq_prog_14_method_23_code_2 10 rfl rfl rfl)
theorem d_Mm_nextToFill_75 : decode prog_14_method_23_code 75 = .ok (.iconst (-1), 1) := zo_2 (zd_b zq_prog_14_method_23_code_2 11 rfl rfl rfl)
theorem d_Mm_nextToFill_76 : decode prog_14_method_23_code 76 = .ok (.if_icmp .eq 29, 3) := zo_159 (d := 0) (e := 29) (zd_b zq_prog_14_method_23_code_2 12 rfl rfl rfl) (zd_b zq_prog_14_method_23_code_2 13 rfl rfl rfl) (zd_b zq_prog_14_method_23_code_2 14 rfl rfl rfl) (by decide +kernel)
theorem d_Mm_nextToFill_105 : decode prog_14_method_23_code 105 = .ok (.iconst 0, 1) := zo_3 (zd_b zq_prog_14_method_23_code_3 9 rfl rfl rfl)
theorem d_Mm_nextToFill_79 : decode prog_14_method_23_code 79 = .ok (.aload_n 0, 1) := zo_42 (zd_b zq_prog_14_method_23_code_2 15 rfl rfl rfl)
theorem d_Mm_nextToFill_80 : decode prog_14_method_23_code 80 = .ok (.getfield 17, 3) := zo_180 (d := 0) (e := 17) (zd_b zq_prog_14_method_23_code_2 16 rfl rfl rfl) (zd_b zq_prog_14_method_23_code_2 17 rfl rfl rfl) (zd_b zq_prog_14_method_23_code_2 18 rfl rfl rfl)
theorem d_Mm_nextToFill_83 : decode prog_14_method_23_code 83 = .ok (.iload 8, 2) := zo_21 (d := 8) (zd_b zq_prog_14_method_23_code_2 19 rfl rfl rfl) (zd_b zq_prog_14_method_23_code_2 20 rfl rfl rfl)
theorem d_Mm_nextToFill_85 : decode prog_14_method_23_code 85 = .ok (.iaload, 1) := zo_46 (zd_b zq_prog_14_method_23_code_2 21 rfl rfl rfl)
theorem d_Mm_nextToFill_86 : decode prog_14_method_23_code 86 = .ok (.iconst (-1), 1) := zo_2 (zd_b zq_prog_14_method_23_code_2 22 rfl rfl rfl)
theorem d_Mm_nextToFill_87 : decode prog_14_method_23_code 87 = .ok (.if_icmp .eq 18, 3) := zo_159 (d := 0) (e := 18) (zd_b zq_prog_14_method_23_code_2 23 rfl rfl rfl) (zd_b zq_prog_14_method_23_code_2 24 rfl rfl rfl) (zd_b zq_prog_14_method_23_code_2 25 rfl rfl rfl) (by decide +kernel)
theorem d_Mm_nextToFill_90 : decode prog_14_method_23_code 90 = .ok (.aload_n 0, 1) := zo_42 (zd_b zq_prog_14_method_23_code_2 26 rfl rfl rfl)
theorem d_Mm_nextToFill_91 : decode prog_14_method_23_code 91 = .ok (.getfield 17, 3) := zo_180 (d := 0) (e := 17) (zd_b zq_prog_14_method_23_code_2 27 rfl rfl rfl) (zd_b zq_prog_14_method_23_code_2 28 rfl rfl rfl) (zd_b zq_prog_14_method_23_code_2 29 rfl rfl rfl)
theorem d_Mm_nextToFill_94 : decode prog_14_method_23_code 94 = .ok (.iload 8, 2) := zo_21 (d := 8) (zd_b zq_prog_14_method_23_code_2 30 rfl rfl rfl) (zd_b zq_prog_14_method_23_code_2 31 rfl rfl rfl)
theorem d_Mm_nextToFill_96 : decode prog_14_method_23_code 96 = .ok (.iaload, 1) := zo_46 (zd_b zq_prog_14_method_23_code_3 0 rfl rfl rfl)
theorem d_Mm_nextToFill_97 : decode prog_14_method_23_code 97 = .ok (.iload_n 2, 1) := zo_28 (zd_b zq_prog_14_method_23_code_3 1 rfl rfl rfl)
theorem d_Mm_nextToFill_98 : decode prog_14_method_23_code 98 = .ok (.if_icmp .ge 7, 3) := zo_162 (d := 0) (e := 7) (zd_b zq_prog_14_method_23_code_3 2 rfl rfl rfl) (zd_b zq_prog_14_method_23_code_3 3 rfl rfl rfl) (zd_b zq_prog_14_method_23_code_3 4 rfl rfl rfl) (by decide +kernel)
theorem d_Mm_nextToFill_10 : decode prog_14_method_23_code 10 = .ok (.iload 4, 2) := zo_21 (d := 4) (zd_b zq_prog_14_method_23_code_0 10 rfl rfl rfl) (zd_b zq_prog_14_method_23_code_0 11 rfl rfl rfl)
theorem d_Mm_nextToFill_12 : decode prog_14_method_23_code 12 = .ok (.bipush 12, 2) := zo_16 (d := 12) (zd_b zq_prog_14_method_23_code_0 12 rfl rfl rfl) (zd_b zq_prog_14_method_23_code_0 13 rfl rfl rfl) (by decide +kernel)
theorem d_Mm_nextToFill_14 : decode prog_14_method_23_code 14 = .ok (.if_icmp .ge 114, 3) := zo_162 (d := 0) (e := 114) (zd_b zq_prog_14_method_23_code_0 14 rfl rfl rfl) (zd_b zq_prog_14_method_23_code_0 15 rfl rfl rfl) (zd_b zq_prog_14_method_23_code_0 16 rfl rfl rfl) (by decide +kernel)
theorem d_Mm_nextToFill_17 : decode prog_14_method_23_code 17 = .ok (.bipush 12, 2) := zo_16 (d := 12) (zd_b zq_prog_14_method_23_code_0 17 rfl rfl rfl) (zd_b zq_prog_14_method_23_code_0 18 rfl rfl rfl) (by decide +kernel)
theorem d_Mm_nextToFill_19 : decode prog_14_method_23_code 19 = .ok (.iload_n 3, 1) := zo_29 (zd_b zq_prog_14_method_23_code_0 19 rfl rfl rfl)
theorem d_Mm_nextToFill_20 : decode prog_14_method_23_code 20 = .ok (.imul, 1) := zo_104 (zd_b zq_prog_14_method_23_code_0 20 rfl rfl rfl)
theorem d_Mm_nextToFill_21 : decode prog_14_method_23_code 21 = .ok (.iload 4, 2) := zo_21 (d := 4) (zd_b zq_prog_14_method_23_code_0 21 rfl rfl rfl) (zd_b zq_prog_14_method_23_code_0 22 rfl rfl rfl)
theorem d_Mm_nextToFill_23 : decode prog_14_method_23_code 23 = .ok (.iadd, 1) := zo_96 (zd_b zq_prog_14_method_23_code_0 23 rfl rfl rfl)
theorem d_Mm_nextToFill_24 : decode prog_14_method_23_code 24 = .ok (.istore 5, 2) := zo_54 (d := 5) (zd_b zq_prog_14_method_23_code_0 24 rfl rfl rfl) (zd_b zq_prog_14_method_23_code_0 25 rfl rfl rfl)
theorem d_Mm_nextToFill_26 : decode prog_14_method_23_code 26 = .ok (.iconst 0, 1) := zo_3 (zd_b zq_prog_14_method_23_code_0 26 rfl rfl rfl)
theorem d_Mm_nextToFill_27 : decode prog_14_method_23_code 27 = .ok (.istore 6, 2) := zo_54 (d := 6) (zd_b zq_prog_14_method_23_code_0 27 rfl rfl rfl) (zd_b zq_prog_14_method_23_code_0 28 rfl rfl rfl)
theorem d_Mm_nextToFill_29 : decode prog_14_method_23_code 29 = .ok (.iconst 0, 1) := zo_3 (zd_b zq_prog_14_method_23_code_0 29 rfl rfl rfl)
theorem d_Mm_nextToFill_30 : decode prog_14_method_23_code 30 = .ok (.istore 7, 2) := zo_54 (d := 7) (zd_b zq_prog_14_method_23_code_0 30 rfl rfl rfl) (zd_b zq_prog_14_method_23_code_0 31 rfl rfl rfl)
theorem d_Mm_nextToFill_114 : decode prog_14_method_23_code 114 = .ok (.iload 6, 2) := zo_21 (d := 6) (zd_b zq_prog_14_method_23_code_3 18 rfl rfl rfl) (zd_b zq_prog_14_method_23_code_3 19 rfl rfl rfl)
theorem d_Mm_nextToFill_116 : decode prog_14_method_23_code 116 = .ok (.ifCond .eq 6, 3) := zo_153 (d := 0) (e := 6) (zd_b zq_prog_14_method_23_code_3 20 rfl rfl rfl) (zd_b zq_prog_14_method_23_code_3 21 rfl rfl rfl) (zd_b zq_prog_14_method_23_code_3 22 rfl rfl rfl) (by decide +kernel)
theorem d_Mm_nextToFill_122 : decode prog_14_method_23_code 122 = .ok (.iinc 4 1, 3) := by decide +kernel
theorem d_Mm_nextToFill_125 : decode prog_14_method_23_code 125 = .ok (.goto (-115), 3) := zo_167 (d := 255) (e := 141) (zd_b zq_prog_14_method_23_code_3 29 rfl rfl rfl) (zd_b zq_prog_14_method_23_code_3 30 rfl rfl rfl) (zd_b zq_prog_14_method_23_code_3 31 rfl rfl rfl) (by decide +kernel)
theorem d_Mm_nextToFill_119 : decode prog_14_method_23_code 119 = .ok (.iload 5, 2) := zo_21 (d := 5) (zd_b zq_prog_14_method_23_code_3 23 rfl rfl rfl) (zd_b zq_prog_14_method_23_code_3 24 rfl rfl rfl)
theorem d_Mm_nextToFill_121 : decode prog_14_method_23_code 121 = .ok (.ireturn, 1) := zo_172 (zd_b zq_prog_14_method_23_code_3 25 rfl rfl rfl)
theorem d_Mm_nextToFill_3 : decode prog_14_method_23_code 3 = .ok (.iload_n 3, 1) := zo_29 (zd_b zq_prog_14_method_23_code_0 3 rfl rfl rfl)
theorem d_Mm_nextToFill_4 : decode prog_14_method_23_code 4 = .ok (.ifCond .lt 130, 3) := zo_155 (d := 0) (e := 130) (zd_b zq_prog_14_method_23_code_0 4 rfl rfl rfl) (zd_b zq_prog_14_method_23_code_0 5 rfl rfl rfl) (zd_b zq_prog_14_method_23_code_0 6 rfl rfl rfl) (by decide +kernel)
theorem d_Mm_nextToFill_134 : decode prog_14_method_23_code 134 = .ok (.iconst (-1), 1) := zo_2 (zd_b zq_prog_14_method_23_code_4 6 rfl rfl rfl)
theorem d_Mm_nextToFill_135 : decode prog_14_method_23_code 135 = .ok (.ireturn, 1) := zo_172 (zd_b zq_prog_14_method_23_code_4 7 rfl rfl rfl)
theorem d_Mm_nextToFill_7 : decode prog_14_method_23_code 7 = .ok (.iconst 0, 1) := zo_3 (zd_b zq_prog_14_method_23_code_0 7 rfl rfl rfl)
theorem d_Mm_nextToFill_8 : decode prog_14_method_23_code 8 = .ok (.istore 4, 2) := zo_54 (d := 4) (zd_b zq_prog_14_method_23_code_0 8 rfl rfl rfl) (zd_b zq_prog_14_method_23_code_0 9 rfl rfl rfl)
theorem d_Mm_nextToFill_128 : decode prog_14_method_23_code 128 = .ok (.iinc 3 (-1), 3) := by decide +kernel
theorem d_Mm_nextToFill_131 : decode prog_14_method_23_code 131 = .ok (.goto (-128), 3) := zo_167 (d := 255) (e := 128) (zd_b zq_prog_14_method_23_code_4 3 rfl rfl rfl) (zd_b zq_prog_14_method_23_code_4 4 rfl rfl rfl) (zd_b zq_prog_14_method_23_code_4 5 rfl rfl rfl) (by decide +kernel)
theorem d_Mm_nextToFill_0 : decode prog_14_method_23_code 0 = .ok (.bipush 8, 2) := zo_16 (d := 8) (zd_b zq_prog_14_method_23_code_0 0 rfl rfl rfl) (zd_b zq_prog_14_method_23_code_0 1 rfl rfl rfl) (by decide +kernel)
theorem d_Mm_nextToFill_2 : decode prog_14_method_23_code 2 = .ok (.istore_n 3, 1) := zo_62 (zd_b zq_prog_14_method_23_code_0 2 rfl rfl rfl)
set_option maxHeartbeats 4000000 in
set_option maxRecDepth 100000 in
theorem L_Mm_nextToFillW_32 (g : zG) (m mp mf mh mn mt mz mc_ mq mgr ml mi mr mm mu mk mx : Nat) (th pt cl wa co_ fi bu ho lh mg wd fpi fal : Int32) (po de : Int64) (b : Nat) (f : Nat → Int32) (fl : Nat → Int32) (st : Int32) (w0 : zW) (n : Nat) (y x : Nat) (hy : y < 9) (hx : x < 12) (K : ∀ (can : Int32), (can = 0 ∨ (can = 1 ∧ fl (12 * y + x) = -1)) → DV g M_Mm_nextToFill (fun o cs1 => ∃ (v9 : Int32), (v9 = -1 ∨ ∃ c9 : Nat, c9 < 108 ∧ v9 = nI c9 ∧ fl c9 = -1) ∧ o = .inl (some (.int v9)) ∧ cs1 = [(m, .inr (12, [.int th, .ref mp, .int pt, .ref mf, .ref mh, .ref mn, .ref mt, .ref mz, .ref mc_, .ref mq, .ref mgr, .int cl, .int wa, .int co_, .int fi, .int bu, .int ho, .ref ml, .ref mi, .ref mr, .int lh, .int mg, .int wd, .int fpi, .int fal, .ref mm, .ref mu, .ref mk, .ref mx, .long po, .long de])), (b, .inl (1, 108, .inl f)), (mf, .inl (0, 108, .inl fl))]) w0 n 114 [(6, .int can), (5, .int (nI (12 * y + x))), (4, .int (nI x)), (3, .int (nI y)), (0, .ref m), (1, .ref b), (2, .int st)] [] [(m, .inr (12, [.int th, .ref mp, .int pt, .ref mf, .ref mh, .ref mn, .ref mt, .ref mz, .ref mc_, .ref mq, .ref mgr, .int cl, .int wa, .int co_, .int fi, .int bu, .int ho, .ref ml, .ref mi, .ref mr, .int lh, .int mg, .int wd, .int fpi, .int fal, .ref mm, .ref mu, .ref mk, .ref mx, .long po, .long de])), (b, .inl (1, 108, .inl f)), (mf, .inl (0, 108, .inl fl))] 0 0) : ∀ (d i : Nat) (can : Int32), i ≤ 4 → 4 < i + d → (can = 0 ∨ (can = 1 ∧ fl (12 * y + x) = -1)) → DV g M_Mm_nextToFill (fun o cs1 => ∃ (v9 : Int32), (v9 = -1 ∨ ∃ c9 : Nat, c9 < 108 ∧ v9 = nI c9 ∧ fl c9 = -1) ∧ o = .inl (some (.int v9)) ∧ cs1 = [(m, .inr (12, [.int th, .ref mp, .int pt, .ref mf, .ref mh, .ref mn, .ref mt, .ref mz, .ref mc_, .ref mq, .ref mgr, .int cl, .int wa, .int co_, .int fi, .int bu, .int ho, .ref ml, .ref mi, .ref mr, .int lh, .int mg, .int wd, .int fpi, .int fal, .ref mm, .ref mu, .ref mk, .ref mx, .long po, .long de])), (b, .inl (1, 108, .inl f)), (mf, .inl (0, 108, .inl fl))]) w0 n 32 [(7, .int (nI i)), (6, .int can), (5, .int (nI (12 * y + x))), (4, .int (nI x)), (3, .int (nI y)), (0, .ref m), (1, .ref b), (2, .int st)] [] [(m, .inr (12, [.int th, .ref mp, .int pt, .ref mf, .ref mh, .ref mn, .ref mt, .ref mz, .ref mc_, .ref mq, .ref mgr, .int cl, .int wa, .int co_, .int fi, .int bu, .int ho, .ref ml, .ref mi, .ref mr, .int lh, .int mg, .int wd, .int fpi, .int fal, .ref mm, .ref mu, .ref mk, .ref mx, .long po, .long de])), (b, .inl (1, 108, .inl f)), (mf, .inl (0, 108, .inl fl))] 0 0 := by
  intro d
  induction d with
  | zero => intro i can h1 h2 v1; exact absurd h2 (by omega)
  | succ d ih =>
    intro i can h1 h2 v1
    refine r_iload d_Mm_nextToFill_32 0 rfl ?_
    refine r_iconst d_Mm_nextToFill_34 (v := 4) (by decide) ?_
    refine r_icmp_ge (tgt := 114) d_Mm_nextToFill_35 (by decide) (fun c_35 => ?_) (fun c_35 => ?_)
    · have hn := z_le (a := 4) (by omega) (by decide) c_35
      obtain rfl : i = 4 := by omega
      refine r_lv (lv' := [(6, .int can), (5, .int (nI (12 * y + x))), (4, .int (nI x)), (3, .int (nI y)), (0, .ref m), (1, .ref b), (2, .int st)]) [1, 2, 3, 4, 5, 6, 7] rfl ?_
      exact K _ v1
    · have hn := z_nle (a := 4) (by omega) (by decide) c_35
      refine r_aload_n d_Mm_nextToFill_38 rfl 6 rfl ?_
      refine r_iload d_Mm_nextToFill_39 2 rfl ?_
      refine r_cald d_Mm_nextToFill_41 (q0 := 1) rfl (vp_in_nI (by omega) (by omega)) (v := f (12 * y + x)) (by rw [nI_clamp (by omega)]) ?_
      refine r_callS (As := [.int (f (12 * y + x))]) (rest := []) (csC := []) (is := []) ln_Mm_107 w_st_Mm_isMetal ok_Mm_nextToFill_Mm_isMetal d_Mm_nextToFill_42 (C_Mm_isMetal g (f (12 * y + x))) rfl rfl (Nat.le_of_ble_eq_true rfl) rfl (by decide) (by omega) (by omega) (fun E cs1 hx => ?_) (fun v cs1 hx => ?_)
      · exact absurd hx.1 (by simp)
      · obtain ⟨e1, rfl⟩ := hx
        cases e1
        refine ⟨rfl, ?_⟩
        refine r_st (st2 := [.int (z_bi (tmB (f (12 * y + x))))]) rfl ?_
        refine r_cs (cs2 := [(m, .inr (12, [.int th, .ref mp, .int pt, .ref mf, .ref mh, .ref mn, .ref mt, .ref mz, .ref mc_, .ref mq, .ref mgr, .int cl, .int wa, .int co_, .int fi, .int bu, .int ho, .ref ml, .ref mi, .ref mr, .int lh, .int mg, .int wd, .int fpi, .int fal, .ref mm, .ref mu, .ref mk, .ref mx, .long po, .long de])), (b, .inl (1, 108, .inl f)), (mf, .inl (0, 108, .inl fl))]) rfl ?_
        refine r_if_eq (tgt := 114) d_Mm_nextToFill_45 (by decide) (fun c_45 => ?_) (fun c_45 => ?_)
        · refine r_lv (lv' := [(6, .int can), (5, .int (nI (12 * y + x))), (4, .int (nI x)), (3, .int (nI y)), (0, .ref m), (1, .ref b), (2, .int st)]) [1, 2, 3, 4, 5, 6, 7] rfl ?_
          exact K _ v1
        · refine r_aload_n d_Mm_nextToFill_48 rfl 5 rfl ?_
          refine r_get fs_Mm_17 d_Mm_nextToFill_49 (q0 := 0) rfl rfl ?_
          refine r_iload d_Mm_nextToFill_52 2 rfl ?_
          refine r_iald d_Mm_nextToFill_54 (q0 := 2) rfl (vp_in_nI (by omega) (by omega)) (v := fl (12 * y + x)) (by rw [nI_clamp (by omega)]) ?_
          refine r_iconst d_Mm_nextToFill_55 (v := (-1)) (by decide) ?_
          refine r_icmp_ne (tgt := 114) d_Mm_nextToFill_56 (by decide) (fun c_56 => ?_) (fun c_56 => ?_)
          · refine r_lv (lv' := [(6, .int can), (5, .int (nI (12 * y + x))), (4, .int (nI x)), (3, .int (nI y)), (0, .ref m), (1, .ref b), (2, .int st)]) [1, 2, 3, 4, 5, 6, 7] rfl ?_
            exact K _ v1
          · refine r_iload d_Mm_nextToFill_59 2 rfl ?_
            refine r_iload d_Mm_nextToFill_61 0 rfl ?_
            refine r_callS (As := [.int (nI (12 * y + x)), .int (nI i)]) (rest := []) (csC := []) (is := []) ln_Mm_119 w_st_Mm_beside ok_Mm_nextToFill_Mm_beside d_Mm_nextToFill_63 (C_Mm_beside g (12 * y + x) i (by omega) (by omega)) rfl rfl (Nat.le_of_ble_eq_true rfl) rfl (by decide) (by omega) (by omega) (fun E cs1 hx => ?_) (fun v cs1 hx => ?_)
            · exact absurd hx.1 (by simp)
            · obtain ⟨e1, rfl⟩ := hx
              cases e1
              refine ⟨rfl, ?_⟩
              refine r_st (st2 := [.int (oI (bs (12 * y + x) i))]) rfl ?_
              refine r_cs (cs2 := [(m, .inr (12, [.int th, .ref mp, .int pt, .ref mf, .ref mh, .ref mn, .ref mt, .ref mz, .ref mc_, .ref mq, .ref mgr, .int cl, .int wa, .int co_, .int fi, .int bu, .int ho, .ref ml, .ref mi, .ref mr, .int lh, .int mg, .int wd, .int fpi, .int fal, .ref mm, .ref mu, .ref mk, .ref mx, .long po, .long de])), (b, .inl (1, 108, .inl f)), (mf, .inl (0, 108, .inl fl))]) rfl ?_
              refine r_istore (lv' := [(8, .int (oI (bs (12 * y + x) i))), (7, .int (nI i)), (6, .int can), (5, .int (nI (12 * y + x))), (4, .int (nI x)), (3, .int (nI y)), (0, .ref m), (1, .ref b), (2, .int st)]) d_Mm_nextToFill_66 (by decide) rfl ?_
              refine r_iload d_Mm_nextToFill_68 2 rfl ?_
              refine r_if_ne (tgt := 101) d_Mm_nextToFill_70 (by decide) (fun c_70 => ?_) (fun c_70 => ?_)
              · refine r_iconst d_Mm_nextToFill_101 (v := 1) (by decide) ?_
                refine r_goto (tgt := 106) d_Mm_nextToFill_102 (by decide) ?_
                refine r_istore (lv' := [(6, .int 1), (8, .int (oI (bs (12 * y + x) i))), (7, .int (nI i)), (5, .int (nI (12 * y + x))), (4, .int (nI x)), (3, .int (nI y)), (0, .ref m), (1, .ref b), (2, .int st)]) d_Mm_nextToFill_106 (by decide) rfl ?_
                refine r_iinc (lv' := [(7, .int (nI (i + 1))), (6, .int 1), (8, .int (oI (bs (12 * y + x) i))), (5, .int (nI (12 * y + x))), (4, .int (nI x)), (3, .int (nI y)), (0, .ref m), (1, .ref b), (2, .int st)]) (v := nI (i + 1)) d_Mm_nextToFill_108 (j := 2) rfl (nI_add _ _) (by decide) rfl ?_
                refine r_goto (tgt := 32) d_Mm_nextToFill_111 (by decide) ?_
                refine r_lv (lv' := [(7, .int (nI (i + 1))), (6, .int 1), (5, .int (nI (12 * y + x))), (4, .int (nI x)), (3, .int (nI y)), (0, .ref m), (1, .ref b), (2, .int st)]) [0, 1, 3, 4, 5, 6, 7, 8] rfl ?_
                exact ih (i + 1) _ (by omega) (by omega) (Or.inr ⟨rfl, c_56⟩)
              · refine r_iload d_Mm_nextToFill_73 0 rfl ?_
                refine r_iconst d_Mm_nextToFill_75 (v := (-1)) (by decide) ?_
                refine r_icmp_eq (tgt := 105) d_Mm_nextToFill_76 (by decide) (fun c_76 => ?_) (fun c_76 => ?_)
                · refine r_iconst d_Mm_nextToFill_105 (v := 0) (by decide) ?_
                  refine r_istore (lv' := [(6, .int 0), (8, .int (oI (bs (12 * y + x) i))), (7, .int (nI i)), (5, .int (nI (12 * y + x))), (4, .int (nI x)), (3, .int (nI y)), (0, .ref m), (1, .ref b), (2, .int st)]) d_Mm_nextToFill_106 (by decide) rfl ?_
                  refine r_iinc (lv' := [(7, .int (nI (i + 1))), (6, .int 0), (8, .int (oI (bs (12 * y + x) i))), (5, .int (nI (12 * y + x))), (4, .int (nI x)), (3, .int (nI y)), (0, .ref m), (1, .ref b), (2, .int st)]) (v := nI (i + 1)) d_Mm_nextToFill_108 (j := 2) rfl (nI_add _ _) (by decide) rfl ?_
                  refine r_goto (tgt := 32) d_Mm_nextToFill_111 (by decide) ?_
                  refine r_lv (lv' := [(7, .int (nI (i + 1))), (6, .int 0), (5, .int (nI (12 * y + x))), (4, .int (nI x)), (3, .int (nI y)), (0, .ref m), (1, .ref b), (2, .int st)]) [0, 1, 3, 4, 5, 6, 7, 8] rfl ?_
                  exact ih (i + 1) _ (by omega) (by omega) (Or.inl rfl)
                · obtain ⟨oo, ho9⟩ := oI_nm c_76
                  have hol := bs_lt (show (12 * y + x) < 108 by omega) ho9
                  rw [ho9, show oI (some oo) = nI oo from rfl]
                  refine r_aload_n d_Mm_nextToFill_79 rfl 6 rfl ?_
                  refine r_get fs_Mm_17 d_Mm_nextToFill_80 (q0 := 0) rfl rfl ?_
                  refine r_iload d_Mm_nextToFill_83 0 rfl ?_
                  refine r_iald d_Mm_nextToFill_85 (q0 := 2) rfl (vp_in_nI (by omega) (by omega)) (v := fl oo) (by rw [nI_clamp (by omega)]) ?_
                  refine r_iconst d_Mm_nextToFill_86 (v := (-1)) (by decide) ?_
                  refine r_icmp_eq (tgt := 105) d_Mm_nextToFill_87 (by decide) (fun c_87 => ?_) (fun c_87 => ?_)
                  · refine r_iconst d_Mm_nextToFill_105 (v := 0) (by decide) ?_
                    refine r_istore (lv' := [(6, .int 0), (8, .int (nI oo)), (7, .int (nI i)), (5, .int (nI (12 * y + x))), (4, .int (nI x)), (3, .int (nI y)), (0, .ref m), (1, .ref b), (2, .int st)]) d_Mm_nextToFill_106 (by decide) rfl ?_
                    refine r_iinc (lv' := [(7, .int (nI (i + 1))), (6, .int 0), (8, .int (nI oo)), (5, .int (nI (12 * y + x))), (4, .int (nI x)), (3, .int (nI y)), (0, .ref m), (1, .ref b), (2, .int st)]) (v := nI (i + 1)) d_Mm_nextToFill_108 (j := 2) rfl (nI_add _ _) (by decide) rfl ?_
                    refine r_goto (tgt := 32) d_Mm_nextToFill_111 (by decide) ?_
                    refine r_lv (lv' := [(7, .int (nI (i + 1))), (6, .int 0), (5, .int (nI (12 * y + x))), (4, .int (nI x)), (3, .int (nI y)), (0, .ref m), (1, .ref b), (2, .int st)]) [0, 1, 3, 4, 5, 6, 7, 8] rfl ?_
                    exact ih (i + 1) _ (by omega) (by omega) (Or.inl rfl)
                  · refine r_aload_n d_Mm_nextToFill_90 rfl 6 rfl ?_
                    refine r_get fs_Mm_17 d_Mm_nextToFill_91 (q0 := 0) rfl rfl ?_
                    refine r_iload d_Mm_nextToFill_94 0 rfl ?_
                    refine r_iald d_Mm_nextToFill_96 (q0 := 2) rfl (vp_in_nI (by omega) (by omega)) (v := fl oo) (by rw [nI_clamp (by omega)]) ?_
                    refine r_iload_n d_Mm_nextToFill_97 rfl 8 rfl ?_
                    refine r_icmp_ge (tgt := 105) d_Mm_nextToFill_98 (by decide) (fun c_98 => ?_) (fun c_98 => ?_)
                    · refine r_iconst d_Mm_nextToFill_105 (v := 0) (by decide) ?_
                      refine r_istore (lv' := [(6, .int 0), (8, .int (nI oo)), (7, .int (nI i)), (5, .int (nI (12 * y + x))), (4, .int (nI x)), (3, .int (nI y)), (0, .ref m), (1, .ref b), (2, .int st)]) d_Mm_nextToFill_106 (by decide) rfl ?_
                      refine r_iinc (lv' := [(7, .int (nI (i + 1))), (6, .int 0), (8, .int (nI oo)), (5, .int (nI (12 * y + x))), (4, .int (nI x)), (3, .int (nI y)), (0, .ref m), (1, .ref b), (2, .int st)]) (v := nI (i + 1)) d_Mm_nextToFill_108 (j := 2) rfl (nI_add _ _) (by decide) rfl ?_
                      refine r_goto (tgt := 32) d_Mm_nextToFill_111 (by decide) ?_
                      refine r_lv (lv' := [(7, .int (nI (i + 1))), (6, .int 0), (5, .int (nI (12 * y + x))), (4, .int (nI x)), (3, .int (nI y)), (0, .ref m), (1, .ref b), (2, .int st)]) [0, 1, 3, 4, 5, 6, 7, 8] rfl ?_
                      exact ih (i + 1) _ (by omega) (by omega) (Or.inl rfl)
                    · refine r_iconst d_Mm_nextToFill_101 (v := 1) (by decide) ?_
                      refine r_goto (tgt := 106) d_Mm_nextToFill_102 (by decide) ?_
                      refine r_istore (lv' := [(6, .int 1), (8, .int (nI oo)), (7, .int (nI i)), (5, .int (nI (12 * y + x))), (4, .int (nI x)), (3, .int (nI y)), (0, .ref m), (1, .ref b), (2, .int st)]) d_Mm_nextToFill_106 (by decide) rfl ?_
                      refine r_iinc (lv' := [(7, .int (nI (i + 1))), (6, .int 1), (8, .int (nI oo)), (5, .int (nI (12 * y + x))), (4, .int (nI x)), (3, .int (nI y)), (0, .ref m), (1, .ref b), (2, .int st)]) (v := nI (i + 1)) d_Mm_nextToFill_108 (j := 2) rfl (nI_add _ _) (by decide) rfl ?_
                      refine r_goto (tgt := 32) d_Mm_nextToFill_111 (by decide) ?_
                      refine r_lv (lv' := [(7, .int (nI (i + 1))), (6, .int 1), (5, .int (nI (12 * y + x))), (4, .int (nI x)), (3, .int (nI y)), (0, .ref m), (1, .ref b), (2, .int st)]) [0, 1, 3, 4, 5, 6, 7, 8] rfl ?_
                      exact ih (i + 1) _ (by omega) (by omega) (Or.inr ⟨rfl, c_56⟩)
set_option maxHeartbeats 4000000 in
set_option maxRecDepth 100000 in
theorem L_Mm_nextToFillW_10 (g : zG) (m mp mf mh mn mt mz mc_ mq mgr ml mi mr mm mu mk mx : Nat) (th pt cl wa co_ fi bu ho lh mg wd fpi fal : Int32) (po de : Int64) (b : Nat) (f : Nat → Int32) (fl : Nat → Int32) (st : Int32) (w0 : zW) (n : Nat) (y : Nat) (hy : y < 9) (K : ∀ (_ : Unit), DV g M_Mm_nextToFill (fun o cs1 => ∃ (v9 : Int32), (v9 = -1 ∨ ∃ c9 : Nat, c9 < 108 ∧ v9 = nI c9 ∧ fl c9 = -1) ∧ o = .inl (some (.int v9)) ∧ cs1 = [(m, .inr (12, [.int th, .ref mp, .int pt, .ref mf, .ref mh, .ref mn, .ref mt, .ref mz, .ref mc_, .ref mq, .ref mgr, .int cl, .int wa, .int co_, .int fi, .int bu, .int ho, .ref ml, .ref mi, .ref mr, .int lh, .int mg, .int wd, .int fpi, .int fal, .ref mm, .ref mu, .ref mk, .ref mx, .long po, .long de])), (b, .inl (1, 108, .inl f)), (mf, .inl (0, 108, .inl fl))]) w0 n 128 [(3, .int (nI y)), (0, .ref m), (1, .ref b), (2, .int st)] [] [(m, .inr (12, [.int th, .ref mp, .int pt, .ref mf, .ref mh, .ref mn, .ref mt, .ref mz, .ref mc_, .ref mq, .ref mgr, .int cl, .int wa, .int co_, .int fi, .int bu, .int ho, .ref ml, .ref mi, .ref mr, .int lh, .int mg, .int wd, .int fpi, .int fal, .ref mm, .ref mu, .ref mk, .ref mx, .long po, .long de])), (b, .inl (1, 108, .inl f)), (mf, .inl (0, 108, .inl fl))] 0 0) : ∀ (d x : Nat) , x ≤ 12 → 12 < x + d → DV g M_Mm_nextToFill (fun o cs1 => ∃ (v9 : Int32), (v9 = -1 ∨ ∃ c9 : Nat, c9 < 108 ∧ v9 = nI c9 ∧ fl c9 = -1) ∧ o = .inl (some (.int v9)) ∧ cs1 = [(m, .inr (12, [.int th, .ref mp, .int pt, .ref mf, .ref mh, .ref mn, .ref mt, .ref mz, .ref mc_, .ref mq, .ref mgr, .int cl, .int wa, .int co_, .int fi, .int bu, .int ho, .ref ml, .ref mi, .ref mr, .int lh, .int mg, .int wd, .int fpi, .int fal, .ref mm, .ref mu, .ref mk, .ref mx, .long po, .long de])), (b, .inl (1, 108, .inl f)), (mf, .inl (0, 108, .inl fl))]) w0 n 10 [(4, .int (nI x)), (3, .int (nI y)), (0, .ref m), (1, .ref b), (2, .int st)] [] [(m, .inr (12, [.int th, .ref mp, .int pt, .ref mf, .ref mh, .ref mn, .ref mt, .ref mz, .ref mc_, .ref mq, .ref mgr, .int cl, .int wa, .int co_, .int fi, .int bu, .int ho, .ref ml, .ref mi, .ref mr, .int lh, .int mg, .int wd, .int fpi, .int fal, .ref mm, .ref mu, .ref mk, .ref mx, .long po, .long de])), (b, .inl (1, 108, .inl f)), (mf, .inl (0, 108, .inl fl))] 0 0 := by
  intro d
  induction d with
  | zero => intro x  h1 h2 ; exact absurd h2 (by omega)
  | succ d ih =>
    intro x  h1 h2 
    refine r_iload d_Mm_nextToFill_10 0 rfl ?_
    refine r_bipush d_Mm_nextToFill_12 (v := 12) (by decide) ?_
    refine r_icmp_ge (tgt := 128) d_Mm_nextToFill_14 (by decide) (fun c_14 => ?_) (fun c_14 => ?_)
    · have hn := z_le (a := 12) (by omega) (by decide) c_14
      obtain rfl : x = 12 := by omega
      refine r_lv (lv' := [(3, .int (nI y)), (0, .ref m), (1, .ref b), (2, .int st)]) [1, 2, 3, 4] rfl ?_
      exact K ()
    · have hn := z_nle (a := 12) (by omega) (by decide) c_14
      refine r_bipush d_Mm_nextToFill_17 (v := 12) (by decide) ?_
      refine r_iload_n d_Mm_nextToFill_19 rfl 1 rfl ?_
      refine r_imul d_Mm_nextToFill_20 (v := nI (12 * y)) (pk_mul _ _) ?_
      refine r_iload d_Mm_nextToFill_21 0 rfl ?_
      refine r_iadd d_Mm_nextToFill_23 (v := nI (12 * y + x)) (nI_add _ _) ?_
      refine r_istore (lv' := [(5, .int (nI (12 * y + x))), (4, .int (nI x)), (3, .int (nI y)), (0, .ref m), (1, .ref b), (2, .int st)]) d_Mm_nextToFill_24 (by decide) rfl ?_
      refine r_iconst d_Mm_nextToFill_26 (v := 0) (by decide) ?_
      refine r_istore (lv' := [(6, .int 0), (5, .int (nI (12 * y + x))), (4, .int (nI x)), (3, .int (nI y)), (0, .ref m), (1, .ref b), (2, .int st)]) d_Mm_nextToFill_27 (by decide) rfl ?_
      refine r_iconst d_Mm_nextToFill_29 (v := 0) (by decide) ?_
      refine r_istore (lv' := [(7, .int 0), (6, .int 0), (5, .int (nI (12 * y + x))), (4, .int (nI x)), (3, .int (nI y)), (0, .ref m), (1, .ref b), (2, .int st)]) d_Mm_nextToFill_30 (by decide) rfl ?_
      refine L_Mm_nextToFillW_32 g m mp mf mh mn mt mz mc_ mq mgr ml mi mr mm mu mk mx th pt cl wa co_ fi bu ho lh mg wd fpi fal po de b f fl st w0 _ y x hy (by omega) (fun can k32_1 => ?_) (4 + 1) 0 _ (Nat.zero_le _) (by omega) (Or.inl rfl)
      refine r_iload d_Mm_nextToFill_114 0 rfl ?_
      refine r_if_eq (tgt := 122) d_Mm_nextToFill_116 (by decide) (fun c_116 => ?_) (fun c_116 => ?_)
      · refine r_iinc (lv' := [(4, .int (nI (x + 1))), (6, .int can), (5, .int (nI (12 * y + x))), (3, .int (nI y)), (0, .ref m), (1, .ref b), (2, .int st)]) (v := nI (x + 1)) d_Mm_nextToFill_122 (j := 2) rfl (nI_add _ _) (by decide) rfl ?_
        refine r_goto (tgt := 10) d_Mm_nextToFill_125 (by decide) ?_
        refine r_lv (lv' := [(4, .int (nI (x + 1))), (3, .int (nI y)), (0, .ref m), (1, .ref b), (2, .int st)]) [0, 3, 4, 5, 6] rfl ?_
        exact ih (x + 1)  (by omega) (by omega)
      · refine r_iload d_Mm_nextToFill_119 1 rfl ?_
        refine r_iret d_Mm_nextToFill_121 rfl rfl ?_
        exact ⟨_, Or.inr ⟨(12 * y + x), by omega, rfl, (k32_1.resolve_left c_116).2⟩, rfl, rfl⟩
set_option maxHeartbeats 4000000 in
set_option maxRecDepth 100000 in
theorem L_Mm_nextToFillW_3 (g : zG) (m mp mf mh mn mt mz mc_ mq mgr ml mi mr mm mu mk mx : Nat) (th pt cl wa co_ fi bu ho lh mg wd fpi fal : Int32) (po de : Int64) (b : Nat) (f : Nat → Int32) (fl : Nat → Int32) (st : Int32) (w0 : zW) (n : Nat) : ∀ (d j : Nat) , j ≤ 9 → 9 < j + d → DV g M_Mm_nextToFill (fun o cs1 => ∃ (v9 : Int32), (v9 = -1 ∨ ∃ c9 : Nat, c9 < 108 ∧ v9 = nI c9 ∧ fl c9 = -1) ∧ o = .inl (some (.int v9)) ∧ cs1 = [(m, .inr (12, [.int th, .ref mp, .int pt, .ref mf, .ref mh, .ref mn, .ref mt, .ref mz, .ref mc_, .ref mq, .ref mgr, .int cl, .int wa, .int co_, .int fi, .int bu, .int ho, .ref ml, .ref mi, .ref mr, .int lh, .int mg, .int wd, .int fpi, .int fal, .ref mm, .ref mu, .ref mk, .ref mx, .long po, .long de])), (b, .inl (1, 108, .inl f)), (mf, .inl (0, 108, .inl fl))]) w0 n 3 [(3, .int (dyI j)), (0, .ref m), (1, .ref b), (2, .int st)] [] [(m, .inr (12, [.int th, .ref mp, .int pt, .ref mf, .ref mh, .ref mn, .ref mt, .ref mz, .ref mc_, .ref mq, .ref mgr, .int cl, .int wa, .int co_, .int fi, .int bu, .int ho, .ref ml, .ref mi, .ref mr, .int lh, .int mg, .int wd, .int fpi, .int fal, .ref mm, .ref mu, .ref mk, .ref mx, .long po, .long de])), (b, .inl (1, 108, .inl f)), (mf, .inl (0, 108, .inl fl))] 0 0 := by
  intro d
  induction d with
  | zero => intro j  h1 h2 ; exact absurd h2 (by omega)
  | succ d ih =>
    intro j  h1 h2 
    refine r_iload_n d_Mm_nextToFill_3 rfl 0 rfl ?_
    refine r_if_lt (tgt := 134) d_Mm_nextToFill_4 (by decide) (fun c_4 => ?_) (fun c_4 => ?_)
    · refine r_iconst d_Mm_nextToFill_134 (v := (-1)) (by decide) ?_
      refine r_iret d_Mm_nextToFill_135 rfl rfl ?_
      exact ⟨_, Or.inl rfl, rfl, rfl⟩
    · obtain ⟨hj9, hj8⟩ := (dyF j (by omega)).2 c_4
      rw [hj8]
      refine r_iconst d_Mm_nextToFill_7 (v := 0) (by decide) ?_
      refine r_istore (lv' := [(4, .int 0), (3, .int (nI (8 - j))), (0, .ref m), (1, .ref b), (2, .int st)]) d_Mm_nextToFill_8 (by decide) rfl ?_
      refine L_Mm_nextToFillW_10 g m mp mf mh mn mt mz mc_ mq mgr ml mi mr mm mu mk mx th pt cl wa co_ fi bu ho lh mg wd fpi fal po de b f fl st w0 _ (8 - j) (by omega) (fun _ => ?_) (12 + 1) 0  (Nat.zero_le _) (by omega)
      refine r_iinc (lv' := [(3, .int (dyI (j + 1))), (0, .ref m), (1, .ref b), (2, .int st)]) (v := dyI (j + 1)) d_Mm_nextToFill_128 (j := 0) rfl (dyS j hj9) (by decide) rfl ?_
      refine r_goto (tgt := 3) d_Mm_nextToFill_131 (by decide) ?_
      exact ih (j + 1)  (by omega) (by omega)
set_option maxHeartbeats 4000000 in
set_option maxRecDepth 100000 in
theorem C_Mm_nextToFillW (g : zG) (m mp mf mh mn mt mz mc_ mq mgr ml mi mr mm mu mk mx : Nat) (th pt cl wa co_ fi bu ho lh mg wd fpi fal : Int32) (po de : Int64) (b : Nat) (f : Nat → Int32) (fl : Nat → Int32) (st : Int32) : CT g M_Mm_nextToFill [.ref m, .ref b, .int st] [(m, .inr (12, [.int th, .ref mp, .int pt, .ref mf, .ref mh, .ref mn, .ref mt, .ref mz, .ref mc_, .ref mq, .ref mgr, .int cl, .int wa, .int co_, .int fi, .int bu, .int ho, .ref ml, .ref mi, .ref mr, .int lh, .int mg, .int wd, .int fpi, .int fal, .ref mm, .ref mu, .ref mk, .ref mx, .long po, .long de])), (b, .inl (1, 108, .inl f)), (mf, .inl (0, 108, .inl fl))] (fun o cs1 => ∃ (v9 : Int32), (v9 = -1 ∨ ∃ c9 : Nat, c9 < 108 ∧ v9 = nI c9 ∧ fl c9 = -1) ∧ o = .inl (some (.int v9)) ∧ cs1 = [(m, .inr (12, [.int th, .ref mp, .int pt, .ref mf, .ref mh, .ref mn, .ref mt, .ref mz, .ref mc_, .ref mq, .ref mgr, .int cl, .int wa, .int co_, .int fi, .int bu, .int ho, .ref ml, .ref mi, .ref mr, .int lh, .int mg, .int wd, .int fpi, .int fal, .ref mm, .ref mu, .ref mk, .ref mx, .long po, .long de])), (b, .inl (1, 108, .inl f)), (mf, .inl (0, 108, .inl fl))]) 0 0 := by
  refine z_of (by decide) rfl (Nat.le_of_ble_eq_true rfl) (fun w0 => ?_)
  refine r_lvE (lv2 := [(0, .ref m), (1, .ref b), (2, .int st)]) rfl ?_
  refine r_bipush d_Mm_nextToFill_0 (v := 8) (by decide) ?_
  refine r_istore_n (lv' := [(3, .int 8), (0, .ref m), (1, .ref b), (2, .int st)]) d_Mm_nextToFill_2 rfl (by decide) rfl ?_
  exact L_Mm_nextToFillW_3 g m mp mf mh mn mt mz mc_ mq mgr ml mi mr mm mu mk mx th pt cl wa co_ fi bu ho lh mg wd fpi fal po de b f fl st w0 _  (9 + 1) 0  (Nat.zero_le _) (by omega)
theorem d_Mm_fill_84 : decode prog_14_method_22_code 84 = .ok (.iload 5, 2) := zo_21 (d := 5) (zd_b zq_prog_14_method_22_code_2 20 rfl rfl rfl) (zd_b zq_prog_14_method_22_code_2 21 rfl rfl rfl)
theorem d_Mm_fill_86 : decode prog_14_method_22_code 86 = .ok (.iload_n 2, 1) := zo_28 (zd_b zq_prog_14_method_22_code_2 22 rfl rfl rfl)
theorem d_Mm_fill_87 : decode prog_14_method_22_code 87 = .ok (.if_icmp .ge 35, 3) := zo_162 (d := 0) (e := 35) (zd_b zq_prog_14_method_22_code_2 23 rfl rfl rfl) (zd_b zq_prog_14_method_22_code_2 24 rfl rfl rfl) (zd_b zq_prog_14_method_22_code_2 25 rfl rfl rfl) (by decide +kernel)
theorem d_Mm_fill_90 : decode prog_14_method_22_code 90 = .ok (.aload_n 0, 1) := zo_42 (zd_b zq_prog_14_method_22_code_2 26 rfl rfl rfl)
theorem d_Mm_fill_91 : decode prog_14_method_22_code 91 = .ok (.aload_n 1, 1) := zo_43 (zd_b zq_prog_14_method_22_code_2 27 rfl rfl rfl)
theorem d_Mm_fill_92 : decode prog_14_method_22_code 92 = .ok (.iload 4, 2) := zo_21 (d := 4) (zd_b zq_prog_14_method_22_code_2 28 rfl rfl rfl) (zd_b zq_prog_14_method_22_code_2 29 rfl rfl rfl)
theorem d_Mm_fill_94 : decode prog_14_method_22_code 94 = .ok (.invokevirtual 140, 3) := zo_182 (d := 0) (e := 140) (zd_b zq_prog_14_method_22_code_2 30 rfl rfl rfl) (zd_b zq_prog_14_method_22_code_2 31 rfl rfl rfl) (zd_b zq_prog_14_method_22_code_3 0 rfl rfl rfl)
theorem ok_Mm_fill_Mm_nextToFill : z_ok M_Mm_fill M_Mm_nextToFill 2 := ⟨z_mj8 (i := 22) rfl (by decide +kernel), rfl, ⟨by decide +kernel, by decide +kernel, by decide +kernel⟩, ⟨by decide, by decide⟩, z_mj1 (i := 14) rfl (by decide +kernel), rfl⟩
theorem ln_Mm_140 : Cond.methodLink "IronpourModel" 140 M_Mm_nextToFill.1 ∈ z_gw := z_mj8 (i := 19) rfl (by decide +kernel)
theorem w_im_Mm_nextToFill : Cond.instanceMethod M_Mm_nextToFill.1 ∈ z_gw := z_mj8 (i := 21) rfl (by decide +kernel)
theorem w_se_Mm_nextToFill : Cond.selects M_Mm_nextToFill.1.cls M_Mm_nextToFill.1 M_Mm_nextToFill.1 ∈ z_gw := z_mem (i := 34) (by decide +kernel) (by decide +kernel)
theorem d_Mm_fill_97 : decode prog_14_method_22_code 97 = .ok (.istore 6, 2) := zo_54 (d := 6) (zd_b zq_prog_14_method_22_code_3 1 rfl rfl rfl) (zd_b zq_prog_14_method_22_code_3 2 rfl rfl rfl)
theorem d_Mm_fill_99 : decode prog_14_method_22_code 99 = .ok (.iload 6, 2) := zo_21 (d := 6) (zd_b zq_prog_14_method_22_code_3 3 rfl rfl rfl) (zd_b zq_prog_14_method_22_code_3 4 rfl rfl rfl)
theorem d_Mm_fill_101 : decode prog_14_method_22_code 101 = .ok (.iconst (-1), 1) := zo_2 (zd_b zq_prog_14_method_22_code_3 5 rfl rfl rfl)
theorem d_Mm_fill_102 : decode prog_14_method_22_code 102 = .ok (.if_icmp .eq 14, 3) := zo_159 (d := 0) (e := 14) (zd_b zq_prog_14_method_22_code_3 6 rfl rfl rfl) (zd_b zq_prog_14_method_22_code_3 7 rfl rfl rfl) (zd_b zq_prog_14_method_22_code_3 8 rfl rfl rfl) (by decide +kernel)
theorem d_Mm_fill_116 : decode prog_14_method_22_code 116 = .ok (.iinc 5 1, 3) := by decide +kernel
theorem d_Mm_fill_119 : decode prog_14_method_22_code 119 = .ok (.goto (-35), 3) := zo_167 (d := 255) (e := 221) (zd_b zq_prog_14_method_22_code_3 23 rfl rfl rfl) (zd_b zq_prog_14_method_22_code_3 24 rfl rfl rfl) (zd_b zq_prog_14_method_22_code_3 25 rfl rfl rfl) (by decide +kernel)
theorem d_Mm_fill_105 : decode prog_14_method_22_code 105 = .ok (.aload_n 0, 1) := zo_42 (zd_b zq_prog_14_method_22_code_3 9 rfl rfl rfl)
theorem d_Mm_fill_106 : decode prog_14_method_22_code 106 = .ok (.getfield 17, 3) := zo_180 (d := 0) (e := 17) (zd_b zq_prog_14_method_22_code_3 10 rfl rfl rfl) (zd_b zq_prog_14_method_22_code_3 11 rfl rfl rfl) (zd_b zq_prog_14_method_22_code_3 12 rfl rfl rfl)
theorem d_Mm_fill_109 : decode prog_14_method_22_code 109 = .ok (.iload 6, 2) := zo_21 (d := 6) (zd_b zq_prog_14_method_22_code_3 13 rfl rfl rfl) (zd_b zq_prog_14_method_22_code_3 14 rfl rfl rfl)
theorem d_Mm_fill_111 : decode prog_14_method_22_code 111 = .ok (.iload 4, 2) := zo_21 (d := 4) (zd_b zq_prog_14_method_22_code_3 15 rfl rfl rfl) (zd_b zq_prog_14_method_22_code_3 16 rfl rfl rfl)
theorem d_Mm_fill_113 : decode prog_14_method_22_code 113 = .ok (.iastore, 1) := zo_79 (zd_b zq_prog_14_method_22_code_3 17 rfl rfl rfl)
theorem d_Mm_fill_114 : decode prog_14_method_22_code 114 = .ok (.iconst 1, 1) := zo_4 (zd_b zq_prog_14_method_22_code_3 18 rfl rfl rfl)
theorem d_Mm_fill_115 : decode prog_14_method_22_code 115 = .ok (.istore_n 3, 1) := zo_62 (zd_b zq_prog_14_method_22_code_3 19 rfl rfl rfl)
theorem d_Mm_fill_79 : decode prog_14_method_22_code 79 = .ok (.iconst 0, 1) := zo_3 (zd_b zq_prog_14_method_22_code_2 15 rfl rfl rfl)
theorem d_Mm_fill_80 : decode prog_14_method_22_code 80 = .ok (.istore_n 3, 1) := zo_62 (zd_b zq_prog_14_method_22_code_2 16 rfl rfl rfl)
theorem d_Mm_fill_81 : decode prog_14_method_22_code 81 = .ok (.iconst 0, 1) := zo_3 (zd_b zq_prog_14_method_22_code_2 17 rfl rfl rfl)
theorem d_Mm_fill_82 : decode prog_14_method_22_code 82 = .ok (.istore 5, 2) := zo_54 (d := 5) (zd_b zq_prog_14_method_22_code_2 18 rfl rfl rfl) (zd_b zq_prog_14_method_22_code_2 19 rfl rfl rfl)
theorem d_Mm_fill_122 : decode prog_14_method_22_code 122 = .ok (.iinc 4 1, 3) := by decide +kernel
theorem d_Mm_fill_125 : decode prog_14_method_22_code 125 = .ok (.goto (-50), 3) := zo_167 (d := 255) (e := 206) (zd_b zq_prog_14_method_22_code_3 29 rfl rfl rfl) (zd_b zq_prog_14_method_22_code_3 30 rfl rfl rfl) (zd_b zq_prog_14_method_22_code_3 31 rfl rfl rfl) (by decide +kernel)
theorem d_Mm_fill_38 : decode prog_14_method_22_code 38 = .ok (.aload_n 1, 1) := zo_43 (zd_b zq_prog_14_method_22_code_1 6 rfl rfl rfl)
theorem d_Mm_fill_39 : decode prog_14_method_22_code 39 = .ok (.iload_n 3, 1) := zo_29 (zd_b zq_prog_14_method_22_code_1 7 rfl rfl rfl)
theorem d_Mm_fill_40 : decode prog_14_method_22_code 40 = .ok (.caload, 1) := zo_52 (zd_b zq_prog_14_method_22_code_1 8 rfl rfl rfl)
theorem d_Mm_fill_41 : decode prog_14_method_22_code 41 = .ok (.bipush 103, 2) := zo_16 (d := 103) (zd_b zq_prog_14_method_22_code_1 9 rfl rfl rfl) (zd_b zq_prog_14_method_22_code_1 10 rfl rfl rfl) (by decide +kernel)
theorem d_Mm_fill_43 : decode prog_14_method_22_code 43 = .ok (.if_icmp .ne 13, 3) := zo_160 (d := 0) (e := 13) (zd_b zq_prog_14_method_22_code_1 11 rfl rfl rfl) (zd_b zq_prog_14_method_22_code_1 12 rfl rfl rfl) (zd_b zq_prog_14_method_22_code_1 13 rfl rfl rfl) (by decide +kernel)
theorem d_Mm_fill_56 : decode prog_14_method_22_code 56 = .ok (.iinc 3 1, 3) := by decide +kernel
theorem d_Mm_fill_59 : decode prog_14_method_22_code 59 = .ok (.goto (-31), 3) := zo_167 (d := 255) (e := 225) (zd_b zq_prog_14_method_22_code_1 27 rfl rfl rfl) (zd_b zq_prog_14_method_22_code_1 28 rfl rfl rfl) (zd_b zq_prog_14_method_22_code_1 29 rfl rfl rfl) (by decide +kernel)
theorem d_Mm_fill_46 : decode prog_14_method_22_code 46 = .ok (.aload_n 0, 1) := zo_42 (zd_b zq_prog_14_method_22_code_1 14 rfl rfl rfl)
theorem d_Mm_fill_47 : decode prog_14_method_22_code 47 = .ok (.getfield 17, 3) := zo_180 (d := 0) (e := 17) (zd_b zq_prog_14_method_22_code_1 15 rfl rfl rfl) (zd_b zq_prog_14_method_22_code_1 16 rfl rfl rfl) (zd_b zq_prog_14_method_22_code_1 17 rfl rfl rfl)
theorem d_Mm_fill_50 : decode prog_14_method_22_code 50 = .ok (.iload_n 3, 1) := zo_29 (zd_b zq_prog_14_method_22_code_1 18 rfl rfl rfl)
theorem d_Mm_fill_51 : decode prog_14_method_22_code 51 = .ok (.iconst 0, 1) := zo_3 (zd_b zq_prog_14_method_22_code_1 19 rfl rfl rfl)
theorem d_Mm_fill_52 : decode prog_14_method_22_code 52 = .ok (.iastore, 1) := zo_79 (zd_b zq_prog_14_method_22_code_1 20 rfl rfl rfl)
theorem d_Mm_fill_53 : decode prog_14_method_22_code 53 = .ok (.goto 9, 3) := zo_167 (d := 0) (e := 9) (zd_b zq_prog_14_method_22_code_1 21 rfl rfl rfl) (zd_b zq_prog_14_method_22_code_1 22 rfl rfl rfl) (zd_b zq_prog_14_method_22_code_1 23 rfl rfl rfl) (by decide +kernel)
theorem d_Mm_fill_66 : decode prog_14_method_22_code 66 = .ok (.iconst 1, 1) := zo_4 (zd_b zq_prog_14_method_22_code_2 2 rfl rfl rfl)
theorem d_Mm_fill_67 : decode prog_14_method_22_code 67 = .ok (.goto 4, 3) := zo_167 (d := 0) (e := 4) (zd_b zq_prog_14_method_22_code_2 3 rfl rfl rfl) (zd_b zq_prog_14_method_22_code_2 4 rfl rfl rfl) (zd_b zq_prog_14_method_22_code_2 5 rfl rfl rfl) (by decide +kernel)
set_option maxHeartbeats 4000000 in
set_option maxRecDepth 100000 in
theorem L_Mm_fillW_84 (g : zG) (m mp mf mh mn mt mz mc_ mq mgr ml mi mr mm mu mk mx : Nat) (th pt cl wa co_ fi bu ho lh mg wd fpi fal : Int32) (po de : Int64) (b : Nat) (f : Nat → Int32) (fl : Nat → Int32) (w0 : zW) (n : Nat) (fl0 : Nat → Int32) (t : Nat) (ht : t ≤ 109) (K : ∀ (fl : Nat → Int32) (go : Int32), goI fl fl0 go → DV g M_Mm_fill (fun o cs1 => ∃ fl9 : Nat → Int32, o = .inl none ∧ cs1 = [(m, .inr (12, [.int th, .ref mp, .int pt, .ref mf, .ref mh, .ref mn, .ref mt, .ref mz, .ref mc_, .ref mq, .ref mgr, .int cl, .int wa, .int co_, .int fi, .int bu, .int ho, .ref ml, .ref mi, .ref mr, .int lh, .int mg, .int wd, .int fpi, .int fal, .ref mm, .ref mu, .ref mk, .ref mx, .long po, .long de])), (b, .inl (1, 108, .inl f)), (mf, .inl (0, 108, .inl fl9))]) w0 n 122 [(3, .int go), (4, .int (nI t)), (2, .int (nI (fa_cnt (fun k => decide (f k = 103)) 12))), (0, .ref m), (1, .ref b)] [] [(m, .inr (12, [.int th, .ref mp, .int pt, .ref mf, .ref mh, .ref mn, .ref mt, .ref mz, .ref mc_, .ref mq, .ref mgr, .int cl, .int wa, .int co_, .int fi, .int bu, .int ho, .ref ml, .ref mi, .ref mr, .int lh, .int mg, .int wd, .int fpi, .int fal, .ref mm, .ref mu, .ref mk, .ref mx, .long po, .long de])), (b, .inl (1, 108, .inl f)), (mf, .inl (0, 108, .inl fl))] 0 0) : ∀ (d z : Nat) (fl : Nat → Int32) (go : Int32), z ≤ fa_cnt (fun k => decide (f k = 103)) 12 → fa_cnt (fun k => decide (f k = 103)) 12 < z + d → goI fl fl0 go → DV g M_Mm_fill (fun o cs1 => ∃ fl9 : Nat → Int32, o = .inl none ∧ cs1 = [(m, .inr (12, [.int th, .ref mp, .int pt, .ref mf, .ref mh, .ref mn, .ref mt, .ref mz, .ref mc_, .ref mq, .ref mgr, .int cl, .int wa, .int co_, .int fi, .int bu, .int ho, .ref ml, .ref mi, .ref mr, .int lh, .int mg, .int wd, .int fpi, .int fal, .ref mm, .ref mu, .ref mk, .ref mx, .long po, .long de])), (b, .inl (1, 108, .inl f)), (mf, .inl (0, 108, .inl fl9))]) w0 n 84 [(5, .int (nI z)), (3, .int go), (4, .int (nI t)), (2, .int (nI (fa_cnt (fun k => decide (f k = 103)) 12))), (0, .ref m), (1, .ref b)] [] [(m, .inr (12, [.int th, .ref mp, .int pt, .ref mf, .ref mh, .ref mn, .ref mt, .ref mz, .ref mc_, .ref mq, .ref mgr, .int cl, .int wa, .int co_, .int fi, .int bu, .int ho, .ref ml, .ref mi, .ref mr, .int lh, .int mg, .int wd, .int fpi, .int fal, .ref mm, .ref mu, .ref mk, .ref mx, .long po, .long de])), (b, .inl (1, 108, .inl f)), (mf, .inl (0, 108, .inl fl))] 0 0 := by
  intro d
  induction d with
  | zero => intro z fl go h1 h2 v1; exact absurd h2 (by omega)
  | succ d ih =>
    intro z fl go h1 h2 v1
    refine r_iload d_Mm_fill_84 0 rfl ?_
    refine r_iload_n d_Mm_fill_86 rfl 3 rfl ?_
    refine r_icmp_ge (tgt := 122) d_Mm_fill_87 (by decide) (fun c_87 => ?_) (fun c_87 => ?_)
    · refine r_lv (lv' := [(3, .int go), (4, .int (nI t)), (2, .int (nI (fa_cnt (fun k => decide (f k = 103)) 12))), (0, .ref m), (1, .ref b)]) [1, 2, 3, 4, 5] rfl ?_
      exact K _ _ v1
    · have hG := fa_cnt_le (fun k => decide (f k = 103)) 12
      have hn := z_nle (a := fa_cnt (fun k => decide (f k = 103)) 12) (by omega) (by omega) c_87
      refine r_aload_n d_Mm_fill_90 rfl 4 rfl ?_
      refine r_aload_n d_Mm_fill_91 rfl 5 rfl ?_
      refine r_iload d_Mm_fill_92 2 rfl ?_
      refine r_callV (As := [.ref b, .int (nI t)]) (rest := []) (csC := [(m, .inr (12, [.int th, .ref mp, .int pt, .ref mf, .ref mh, .ref mn, .ref mt, .ref mz, .ref mc_, .ref mq, .ref mgr, .int cl, .int wa, .int co_, .int fi, .int bu, .int ho, .ref ml, .ref mi, .ref mr, .int lh, .int mg, .int wd, .int fpi, .int fal, .ref mm, .ref mu, .ref mk, .ref mx, .long po, .long de])), (b, .inl (1, 108, .inl f)), (mf, .inl (0, 108, .inl fl))]) (is := [0, 1, 2]) (q0 := 0) rfl rfl ln_Mm_140 w_im_Mm_nextToFill w_se_Mm_nextToFill ok_Mm_fill_Mm_nextToFill d_Mm_fill_94 (C_Mm_nextToFillW g m mp mf mh mn mt mz mc_ mq mgr ml mi mr mm mu mk mx th pt cl wa co_ fi bu ho lh mg wd fpi fal po de b f fl (nI t)) rfl rfl (Nat.le_of_ble_eq_true rfl) rfl (by decide) (by omega) (by omega) (fun E cs1 hx => ?_) (fun v cs1 hx => ?_)
      · obtain ⟨v9, q9, e1, -⟩ := hx
        cases e1
      · obtain ⟨v9, q9, e1, rfl⟩ := hx
        cases e1
        refine ⟨rfl, ?_⟩
        refine r_st (st2 := [.int v9]) rfl ?_
        refine r_cs (cs2 := [(m, .inr (12, [.int th, .ref mp, .int pt, .ref mf, .ref mh, .ref mn, .ref mt, .ref mz, .ref mc_, .ref mq, .ref mgr, .int cl, .int wa, .int co_, .int fi, .int bu, .int ho, .ref ml, .ref mi, .ref mr, .int lh, .int mg, .int wd, .int fpi, .int fal, .ref mm, .ref mu, .ref mk, .ref mx, .long po, .long de])), (b, .inl (1, 108, .inl f)), (mf, .inl (0, 108, .inl fl))]) rfl ?_
        refine r_istore (lv' := [(6, .int v9), (5, .int (nI z)), (3, .int go), (4, .int (nI t)), (2, .int (nI (fa_cnt (fun k => decide (f k = 103)) 12))), (0, .ref m), (1, .ref b)]) d_Mm_fill_97 (by decide) rfl ?_
        refine r_iload d_Mm_fill_99 0 rfl ?_
        refine r_iconst d_Mm_fill_101 (v := (-1)) (by decide) ?_
        refine r_icmp_eq (tgt := 116) d_Mm_fill_102 (by decide) (fun c_102 => ?_) (fun c_102 => ?_)
        · refine r_iinc (lv' := [(5, .int (nI (z + 1))), (6, .int v9), (3, .int go), (4, .int (nI t)), (2, .int (nI (fa_cnt (fun k => decide (f k = 103)) 12))), (0, .ref m), (1, .ref b)]) (v := nI (z + 1)) d_Mm_fill_116 (j := 1) rfl (nI_add _ _) (by decide) rfl ?_
          refine r_goto (tgt := 84) d_Mm_fill_119 (by decide) ?_
          refine r_lv (lv' := [(5, .int (nI (z + 1))), (3, .int go), (4, .int (nI t)), (2, .int (nI (fa_cnt (fun k => decide (f k = 103)) 12))), (0, .ref m), (1, .ref b)]) [0, 2, 3, 4, 5, 6] rfl ?_
          exact ih (z + 1) _ _ (by omega) (by omega) v1
        · obtain ⟨c9, hc9, rfl, hf9⟩ := q9.resolve_left c_102
          refine r_aload_n d_Mm_fill_105 rfl 5 rfl ?_
          refine r_get fs_Mm_17 d_Mm_fill_106 (q0 := 0) rfl rfl ?_
          refine r_iload d_Mm_fill_109 0 rfl ?_
          refine r_iload d_Mm_fill_111 3 rfl ?_
          refine r_iast d_Mm_fill_113 (q0 := 2) rfl (vp_in_nI (by omega) (by omega)) (f' := upd fl c9 (nI t)) (by rw [nI_clamp (by omega)]) (cs' := [(m, .inr (12, [.int th, .ref mp, .int pt, .ref mf, .ref mh, .ref mn, .ref mt, .ref mz, .ref mc_, .ref mq, .ref mgr, .int cl, .int wa, .int co_, .int fi, .int bu, .int ho, .ref ml, .ref mi, .ref mr, .int lh, .int mg, .int wd, .int fpi, .int fal, .ref mm, .ref mu, .ref mk, .ref mx, .long po, .long de])), (b, .inl (1, 108, .inl f)), (mf, .inl (0, 108, .inl (upd fl c9 (nI t))))]) rfl ?_
          refine r_iconst d_Mm_fill_114 (v := 1) (by decide) ?_
          refine r_istore_n (lv' := [(3, .int 1), (6, .int (nI c9)), (5, .int (nI z)), (4, .int (nI t)), (2, .int (nI (fa_cnt (fun k => decide (f k = 103)) 12))), (0, .ref m), (1, .ref b)]) d_Mm_fill_115 rfl (by decide) rfl ?_
          refine r_iinc (lv' := [(5, .int (nI (z + 1))), (3, .int 1), (6, .int (nI c9)), (4, .int (nI t)), (2, .int (nI (fa_cnt (fun k => decide (f k = 103)) 12))), (0, .ref m), (1, .ref b)]) (v := nI (z + 1)) d_Mm_fill_116 (j := 2) rfl (nI_add _ _) (by decide) rfl ?_
          refine r_goto (tgt := 84) d_Mm_fill_119 (by decide) ?_
          refine r_lv (lv' := [(5, .int (nI (z + 1))), (3, .int 1), (4, .int (nI t)), (2, .int (nI (fa_cnt (fun k => decide (f k = 103)) 12))), (0, .ref m), (1, .ref b)]) [0, 1, 3, 4, 5, 6] rfl ?_
          exact ih (z + 1) _ _ (by omega) (by omega) (go_up hc9 hf9 ht v1)
set_option maxHeartbeats 4000000 in
set_option maxRecDepth 100000 in
theorem L_Mm_fillW_75 (g : zG) (m mp mf mh mn mt mz mc_ mq mgr ml mi mr mm mu mk mx : Nat) (th pt cl wa co_ fi bu ho lh mg wd fpi fal : Int32) (po de : Int64) (b : Nat) (f : Nat → Int32) (fl : Nat → Int32) (w0 : zW) (n : Nat) : ∀ (d : Nat) (fl : Nat → Int32) (go : Int32) (t : Nat), (go = 0 ∨ go = 1) → muM fl go < d → (¬ go = 0 → t + cnM fl ≤ 109) → DV g M_Mm_fill (fun o cs1 => ∃ fl9 : Nat → Int32, o = .inl none ∧ cs1 = [(m, .inr (12, [.int th, .ref mp, .int pt, .ref mf, .ref mh, .ref mn, .ref mt, .ref mz, .ref mc_, .ref mq, .ref mgr, .int cl, .int wa, .int co_, .int fi, .int bu, .int ho, .ref ml, .ref mi, .ref mr, .int lh, .int mg, .int wd, .int fpi, .int fal, .ref mm, .ref mu, .ref mk, .ref mx, .long po, .long de])), (b, .inl (1, 108, .inl f)), (mf, .inl (0, 108, .inl fl9))]) w0 n 75 [(3, .int go), (4, .int (nI t)), (2, .int (nI (fa_cnt (fun k => decide (f k = 103)) 12))), (0, .ref m), (1, .ref b)] [] [(m, .inr (12, [.int th, .ref mp, .int pt, .ref mf, .ref mh, .ref mn, .ref mt, .ref mz, .ref mc_, .ref mq, .ref mgr, .int cl, .int wa, .int co_, .int fi, .int bu, .int ho, .ref ml, .ref mi, .ref mr, .int lh, .int mg, .int wd, .int fpi, .int fal, .ref mm, .ref mu, .ref mk, .ref mx, .long po, .long de])), (b, .inl (1, 108, .inl f)), (mf, .inl (0, 108, .inl fl))] 0 0 := by
  intro d
  induction d with
  | zero => intro fl go t v1 h1 v2; exact absurd h1 (by omega)
  | succ d ih =>
    intro fl go t v1 h1 v2
    refine r_iload_n d_Mm_fill_75 rfl 0 rfl ?_
    refine r_if_eq (tgt := 128) d_Mm_fill_76 (by decide) (fun c_76 => ?_) (fun c_76 => ?_)
    · refine r_vret d_Mm_fill_128 rfl ?_
      exact ⟨_, rfl, rfl⟩
    · have ht9 := v2 c_76
      refine r_iconst d_Mm_fill_79 (v := 0) (by decide) ?_
      refine r_istore_n (lv' := [(3, .int 0), (4, .int (nI t)), (2, .int (nI (fa_cnt (fun k => decide (f k = 103)) 12))), (0, .ref m), (1, .ref b)]) d_Mm_fill_80 rfl (by decide) rfl ?_
      refine r_iconst d_Mm_fill_81 (v := 0) (by decide) ?_
      refine r_istore (lv' := [(5, .int 0), (3, .int 0), (4, .int (nI t)), (2, .int (nI (fa_cnt (fun k => decide (f k = 103)) 12))), (0, .ref m), (1, .ref b)]) d_Mm_fill_82 (by decide) rfl ?_
      refine L_Mm_fillW_84 g m mp mf mh mn mt mz mc_ mq mgr ml mi mr mm mu mk mx th pt cl wa co_ fi bu ho lh mg wd fpi fal po de b f fl w0 _ _ t (by have := cn_le fl; omega) (fun fl go k84_1 => ?_) (fa_cnt (fun k => decide (f k = 103)) 12 + 1) 0 _ _ (Nat.zero_le _) (by omega) (Or.inl ⟨rfl, rfl⟩)
      refine r_iinc (lv' := [(4, .int (nI (t + 1))), (3, .int go), (2, .int (nI (fa_cnt (fun k => decide (f k = 103)) 12))), (0, .ref m), (1, .ref b)]) (v := nI (t + 1)) d_Mm_fill_122 (j := 1) rfl (nI_add _ _) (by decide) rfl ?_
      refine r_goto (tgt := 75) d_Mm_fill_125 (by decide) ?_
      refine r_lv (lv' := [(3, .int go), (4, .int (nI (t + 1))), (2, .int (nI (fa_cnt (fun k => decide (f k = 103)) 12))), (0, .ref m), (1, .ref b)]) [1, 0, 2, 3, 4] rfl ?_
      exact ih _ _ (t + 1) (go_01 k84_1) (mu_s k84_1 c_76 h1) (mu_t k84_1 ht9)
set_option maxHeartbeats 4000000 in
set_option maxRecDepth 100000 in
theorem L_Mm_fillW_28 (g : zG) (m mp mf mh mn mt mz mc_ mq mgr ml mi mr mm mu mk mx : Nat) (th pt cl wa co_ fi bu ho lh mg wd fpi fal : Int32) (po de : Int64) (b : Nat) (f : Nat → Int32) (fl : Nat → Int32) (w0 : zW) (n : Nat) (K : ∀ (fl : Nat → Int32), DV g M_Mm_fill (fun o cs1 => ∃ fl9 : Nat → Int32, o = .inl none ∧ cs1 = [(m, .inr (12, [.int th, .ref mp, .int pt, .ref mf, .ref mh, .ref mn, .ref mt, .ref mz, .ref mc_, .ref mq, .ref mgr, .int cl, .int wa, .int co_, .int fi, .int bu, .int ho, .ref ml, .ref mi, .ref mr, .int lh, .int mg, .int wd, .int fpi, .int fal, .ref mm, .ref mu, .ref mk, .ref mx, .long po, .long de])), (b, .inl (1, 108, .inl f)), (mf, .inl (0, 108, .inl fl9))]) w0 n 62 [(2, .int (nI (fa_cnt (fun k => decide (f k = 103)) 12))), (0, .ref m), (1, .ref b)] [] [(m, .inr (12, [.int th, .ref mp, .int pt, .ref mf, .ref mh, .ref mn, .ref mt, .ref mz, .ref mc_, .ref mq, .ref mgr, .int cl, .int wa, .int co_, .int fi, .int bu, .int ho, .ref ml, .ref mi, .ref mr, .int lh, .int mg, .int wd, .int fpi, .int fal, .ref mm, .ref mu, .ref mk, .ref mx, .long po, .long de])), (b, .inl (1, 108, .inl f)), (mf, .inl (0, 108, .inl fl))] 0 0) : ∀ (d x : Nat) (fl : Nat → Int32), x ≤ 12 → 12 < x + d → DV g M_Mm_fill (fun o cs1 => ∃ fl9 : Nat → Int32, o = .inl none ∧ cs1 = [(m, .inr (12, [.int th, .ref mp, .int pt, .ref mf, .ref mh, .ref mn, .ref mt, .ref mz, .ref mc_, .ref mq, .ref mgr, .int cl, .int wa, .int co_, .int fi, .int bu, .int ho, .ref ml, .ref mi, .ref mr, .int lh, .int mg, .int wd, .int fpi, .int fal, .ref mm, .ref mu, .ref mk, .ref mx, .long po, .long de])), (b, .inl (1, 108, .inl f)), (mf, .inl (0, 108, .inl fl9))]) w0 n 28 [(3, .int (nI x)), (2, .int (nI (fa_cnt (fun k => decide (f k = 103)) 12))), (0, .ref m), (1, .ref b)] [] [(m, .inr (12, [.int th, .ref mp, .int pt, .ref mf, .ref mh, .ref mn, .ref mt, .ref mz, .ref mc_, .ref mq, .ref mgr, .int cl, .int wa, .int co_, .int fi, .int bu, .int ho, .ref ml, .ref mi, .ref mr, .int lh, .int mg, .int wd, .int fpi, .int fal, .ref mm, .ref mu, .ref mk, .ref mx, .long po, .long de])), (b, .inl (1, 108, .inl f)), (mf, .inl (0, 108, .inl fl))] 0 0 := by
  intro d
  induction d with
  | zero => intro x fl h1 h2 ; exact absurd h2 (by omega)
  | succ d ih =>
    intro x fl h1 h2 
    refine r_iload_n d_Mm_fill_28 rfl 0 rfl ?_
    refine r_bipush d_Mm_fill_29 (v := 12) (by decide) ?_
    refine r_icmp_ge (tgt := 62) d_Mm_fill_31 (by decide) (fun c_31 => ?_) (fun c_31 => ?_)
    · have hn := z_le (a := 12) (by omega) (by decide) c_31
      obtain rfl : x = 12 := by omega
      refine r_lv (lv' := [(2, .int (nI (fa_cnt (fun k => decide (f k = 103)) 12))), (0, .ref m), (1, .ref b)]) [1, 2, 3] rfl ?_
      exact K _
    · have hn := z_nle (a := 12) (by omega) (by decide) c_31
      refine r_iload_n d_Mm_fill_34 rfl 1 rfl ?_
      refine r_if_le (tgt := 62) d_Mm_fill_35 (by decide) (fun c_35 => ?_) (fun c_35 => ?_)
      · refine r_lv (lv' := [(2, .int (nI (fa_cnt (fun k => decide (f k = 103)) 12))), (0, .ref m), (1, .ref b)]) [1, 2, 3] rfl ?_
        exact K _
      · refine r_aload_n d_Mm_fill_38 rfl 3 rfl ?_
        refine r_iload_n d_Mm_fill_39 rfl 0 rfl ?_
        refine r_cald d_Mm_fill_40 (q0 := 1) rfl (vp_in_nI (by omega) (by omega)) (v := f x) (by rw [nI_clamp (by omega)]) ?_
        refine r_bipush d_Mm_fill_41 (v := 103) (by decide) ?_
        refine r_icmp_ne (tgt := 56) d_Mm_fill_43 (by decide) (fun c_43 => ?_) (fun c_43 => ?_)
        · refine r_iinc (lv' := [(3, .int (nI (x + 1))), (2, .int (nI (fa_cnt (fun k => decide (f k = 103)) 12))), (0, .ref m), (1, .ref b)]) (v := nI (x + 1)) d_Mm_fill_56 (j := 0) rfl (nI_add _ _) (by decide) rfl ?_
          refine r_goto (tgt := 28) d_Mm_fill_59 (by decide) ?_
          exact ih (x + 1) _ (by omega) (by omega)
        · refine r_aload_n d_Mm_fill_46 rfl 2 rfl ?_
          refine r_get fs_Mm_17 d_Mm_fill_47 (q0 := 0) rfl rfl ?_
          refine r_iload_n d_Mm_fill_50 rfl 0 rfl ?_
          refine r_iconst d_Mm_fill_51 (v := 0) (by decide) ?_
          refine r_iast d_Mm_fill_52 (q0 := 2) rfl (vp_in_nI (by omega) (by omega)) (f' := upd fl x 0) (by rw [nI_clamp (by omega)]) (cs' := [(m, .inr (12, [.int th, .ref mp, .int pt, .ref mf, .ref mh, .ref mn, .ref mt, .ref mz, .ref mc_, .ref mq, .ref mgr, .int cl, .int wa, .int co_, .int fi, .int bu, .int ho, .ref ml, .ref mi, .ref mr, .int lh, .int mg, .int wd, .int fpi, .int fal, .ref mm, .ref mu, .ref mk, .ref mx, .long po, .long de])), (b, .inl (1, 108, .inl f)), (mf, .inl (0, 108, .inl (upd fl x 0)))]) rfl ?_
          refine r_goto (tgt := 62) d_Mm_fill_53 (by decide) ?_
          refine r_lv (lv' := [(2, .int (nI (fa_cnt (fun k => decide (f k = 103)) 12))), (0, .ref m), (1, .ref b)]) [1, 2, 3] rfl ?_
          exact K _
set_option maxHeartbeats 4000000 in
set_option maxRecDepth 100000 in
theorem L_Mm_fillW_2 (g : zG) (m mp mf mh mn mt mz mc_ mq mgr ml mi mr mm mu mk mx : Nat) (th pt cl wa co_ fi bu ho lh mg wd fpi fal : Int32) (po de : Int64) (b : Nat) (f : Nat → Int32) (fl : Nat → Int32) (w0 : zW) (n : Nat) (K : ∀ (fl : Nat → Int32), DV g M_Mm_fill (fun o cs1 => ∃ fl9 : Nat → Int32, o = .inl none ∧ cs1 = [(m, .inr (12, [.int th, .ref mp, .int pt, .ref mf, .ref mh, .ref mn, .ref mt, .ref mz, .ref mc_, .ref mq, .ref mgr, .int cl, .int wa, .int co_, .int fi, .int bu, .int ho, .ref ml, .ref mi, .ref mr, .int lh, .int mg, .int wd, .int fpi, .int fal, .ref mm, .ref mu, .ref mk, .ref mx, .long po, .long de])), (b, .inl (1, 108, .inl f)), (mf, .inl (0, 108, .inl fl9))]) w0 n 21 [(0, .ref m), (1, .ref b)] [] [(m, .inr (12, [.int th, .ref mp, .int pt, .ref mf, .ref mh, .ref mn, .ref mt, .ref mz, .ref mc_, .ref mq, .ref mgr, .int cl, .int wa, .int co_, .int fi, .int bu, .int ho, .ref ml, .ref mi, .ref mr, .int lh, .int mg, .int wd, .int fpi, .int fal, .ref mm, .ref mu, .ref mk, .ref mx, .long po, .long de])), (b, .inl (1, 108, .inl f)), (mf, .inl (0, 108, .inl fl))] 0 0) : ∀ (d i : Nat) (fl : Nat → Int32), i ≤ 108 → 108 < i + d → DV g M_Mm_fill (fun o cs1 => ∃ fl9 : Nat → Int32, o = .inl none ∧ cs1 = [(m, .inr (12, [.int th, .ref mp, .int pt, .ref mf, .ref mh, .ref mn, .ref mt, .ref mz, .ref mc_, .ref mq, .ref mgr, .int cl, .int wa, .int co_, .int fi, .int bu, .int ho, .ref ml, .ref mi, .ref mr, .int lh, .int mg, .int wd, .int fpi, .int fal, .ref mm, .ref mu, .ref mk, .ref mx, .long po, .long de])), (b, .inl (1, 108, .inl f)), (mf, .inl (0, 108, .inl fl9))]) w0 n 2 [(2, .int (nI i)), (0, .ref m), (1, .ref b)] [] [(m, .inr (12, [.int th, .ref mp, .int pt, .ref mf, .ref mh, .ref mn, .ref mt, .ref mz, .ref mc_, .ref mq, .ref mgr, .int cl, .int wa, .int co_, .int fi, .int bu, .int ho, .ref ml, .ref mi, .ref mr, .int lh, .int mg, .int wd, .int fpi, .int fal, .ref mm, .ref mu, .ref mk, .ref mx, .long po, .long de])), (b, .inl (1, 108, .inl f)), (mf, .inl (0, 108, .inl fl))] 0 0 := by
  intro d
  induction d with
  | zero => intro i fl h1 h2 ; exact absurd h2 (by omega)
  | succ d ih =>
    intro i fl h1 h2 
    refine r_iload_n d_Mm_fill_2 rfl 0 rfl ?_
    refine r_bipush d_Mm_fill_3 (v := 108) (by decide) ?_
    refine r_icmp_ge (tgt := 21) d_Mm_fill_5 (by decide) (fun c_5 => ?_) (fun c_5 => ?_)
    · have hn := z_le (a := 108) (by omega) (by decide) c_5
      obtain rfl : i = 108 := by omega
      refine r_lv (lv' := [(0, .ref m), (1, .ref b)]) [1, 2] rfl ?_
      exact K _
    · have hn := z_nle (a := 108) (by omega) (by decide) c_5
      refine r_aload_n d_Mm_fill_8 rfl 1 rfl ?_
      refine r_get fs_Mm_17 d_Mm_fill_9 (q0 := 0) rfl rfl ?_
      refine r_iload_n d_Mm_fill_12 rfl 0 rfl ?_
      refine r_iconst d_Mm_fill_13 (v := (-1)) (by decide) ?_
      refine r_iast d_Mm_fill_14 (q0 := 2) rfl (vp_in_nI (by omega) (by omega)) (f' := upd fl i (-1)) (by rw [nI_clamp (by omega)]) (cs' := [(m, .inr (12, [.int th, .ref mp, .int pt, .ref mf, .ref mh, .ref mn, .ref mt, .ref mz, .ref mc_, .ref mq, .ref mgr, .int cl, .int wa, .int co_, .int fi, .int bu, .int ho, .ref ml, .ref mi, .ref mr, .int lh, .int mg, .int wd, .int fpi, .int fal, .ref mm, .ref mu, .ref mk, .ref mx, .long po, .long de])), (b, .inl (1, 108, .inl f)), (mf, .inl (0, 108, .inl (upd fl i (-1))))]) rfl ?_
      refine r_iinc (lv' := [(2, .int (nI (i + 1))), (0, .ref m), (1, .ref b)]) (v := nI (i + 1)) d_Mm_fill_15 (j := 0) rfl (nI_add _ _) (by decide) rfl ?_
      refine r_goto (tgt := 2) d_Mm_fill_18 (by decide) ?_
      exact ih (i + 1) _ (by omega) (by omega)
set_option maxHeartbeats 4000000 in
set_option maxRecDepth 100000 in
theorem C_Mm_fillW (g : zG) (m mp mf mh mn mt mz mc_ mq mgr ml mi mr mm mu mk mx : Nat) (th pt cl wa co_ fi bu ho lh mg wd fpi fal : Int32) (po de : Int64) (b : Nat) (f : Nat → Int32) (fl : Nat → Int32) : CT g M_Mm_fill [.ref m, .ref b] [(m, .inr (12, [.int th, .ref mp, .int pt, .ref mf, .ref mh, .ref mn, .ref mt, .ref mz, .ref mc_, .ref mq, .ref mgr, .int cl, .int wa, .int co_, .int fi, .int bu, .int ho, .ref ml, .ref mi, .ref mr, .int lh, .int mg, .int wd, .int fpi, .int fal, .ref mm, .ref mu, .ref mk, .ref mx, .long po, .long de])), (b, .inl (1, 108, .inl f)), (mf, .inl (0, 108, .inl fl))] (fun o cs1 => ∃ fl9 : Nat → Int32, o = .inl none ∧ cs1 = [(m, .inr (12, [.int th, .ref mp, .int pt, .ref mf, .ref mh, .ref mn, .ref mt, .ref mz, .ref mc_, .ref mq, .ref mgr, .int cl, .int wa, .int co_, .int fi, .int bu, .int ho, .ref ml, .ref mi, .ref mr, .int lh, .int mg, .int wd, .int fpi, .int fal, .ref mm, .ref mu, .ref mk, .ref mx, .long po, .long de])), (b, .inl (1, 108, .inl f)), (mf, .inl (0, 108, .inl fl9))]) 0 0 := by
  refine z_of (by decide) rfl (Nat.le_of_ble_eq_true rfl) (fun w0 => ?_)
  refine r_lvE (lv2 := [(0, .ref m), (1, .ref b)]) rfl ?_
  refine r_iconst d_Mm_fill_0 (v := 0) (by decide) ?_
  refine r_istore_n (lv' := [(2, .int 0), (0, .ref m), (1, .ref b)]) d_Mm_fill_1 rfl (by decide) rfl ?_
  refine L_Mm_fillW_2 g m mp mf mh mn mt mz mc_ mq mgr ml mi mr mm mu mk mx th pt cl wa co_ fi bu ho lh mg wd fpi fal po de b f fl w0 _  (fun fl => ?_) (108 + 1) 0 _ (Nat.zero_le _) (by omega)
  refine r_aload_n d_Mm_fill_21 rfl 1 rfl ?_
  refine r_callS (As := [.ref b]) (rest := []) (csC := [(b, .inl (1, 108, .inl f))]) (is := [1]) ln_Mm_137 w_st_Mm_gates ok_Mm_fill_Mm_gates d_Mm_fill_22 (C_Mm_gates g b f) rfl rfl (Nat.le_of_ble_eq_true rfl) rfl (by decide) (by omega) (by omega) (fun E cs1 hx => ?_) (fun v cs1 hx => ?_)
  · exact absurd hx.1 (by simp)
  · obtain ⟨e1, rfl⟩ := hx
    cases e1
    refine ⟨rfl, ?_⟩
    refine r_st (st2 := [.int (nI (fa_cnt (fun k => decide (f k = 103)) 12))]) rfl ?_
    refine r_cs (cs2 := [(m, .inr (12, [.int th, .ref mp, .int pt, .ref mf, .ref mh, .ref mn, .ref mt, .ref mz, .ref mc_, .ref mq, .ref mgr, .int cl, .int wa, .int co_, .int fi, .int bu, .int ho, .ref ml, .ref mi, .ref mr, .int lh, .int mg, .int wd, .int fpi, .int fal, .ref mm, .ref mu, .ref mk, .ref mx, .long po, .long de])), (b, .inl (1, 108, .inl f)), (mf, .inl (0, 108, .inl fl))]) rfl ?_
    refine r_istore_n (lv' := [(2, .int (nI (fa_cnt (fun k => decide (f k = 103)) 12))), (0, .ref m), (1, .ref b)]) d_Mm_fill_25 rfl (by decide) rfl ?_
    refine r_iconst d_Mm_fill_26 (v := 0) (by decide) ?_
    refine r_istore_n (lv' := [(3, .int 0), (2, .int (nI (fa_cnt (fun k => decide (f k = 103)) 12))), (0, .ref m), (1, .ref b)]) d_Mm_fill_27 rfl (by decide) rfl ?_
    refine L_Mm_fillW_28 g m mp mf mh mn mt mz mc_ mq mgr ml mi mr mm mu mk mx th pt cl wa co_ fi bu ho lh mg wd fpi fal po de b f fl w0 _  (fun fl => ?_) (12 + 1) 0 _ (Nat.zero_le _) (by omega)
    refine r_iload_n d_Mm_fill_62 rfl 0 rfl ?_
    refine r_if_le (tgt := 70) d_Mm_fill_63 (by decide) (fun c_63 => ?_) (fun c_63 => ?_)
    · refine r_iconst d_Mm_fill_70 (v := 0) (by decide) ?_
      refine r_istore_n (lv' := [(3, .int 0), (2, .int (nI (fa_cnt (fun k => decide (f k = 103)) 12))), (0, .ref m), (1, .ref b)]) d_Mm_fill_71 rfl (by decide) rfl ?_
      refine r_iconst d_Mm_fill_72 (v := 1) (by decide) ?_
      refine r_istore (lv' := [(4, .int 1), (3, .int 0), (2, .int (nI (fa_cnt (fun k => decide (f k = 103)) 12))), (0, .ref m), (1, .ref b)]) d_Mm_fill_73 (by decide) rfl ?_
      refine r_lv (lv' := [(3, .int 0), (4, .int 1), (2, .int (nI (fa_cnt (fun k => decide (f k = 103)) 12))), (0, .ref m), (1, .ref b)]) [1, 0, 2, 3, 4] rfl ?_
      exact L_Mm_fillW_75 g m mp mf mh mn mt mz mc_ mq mgr ml mi mr mm mu mk mx th pt cl wa co_ fi bu ho lh mg wd fpi fal po de b f fl w0 _ 110 _ _ 1 (Or.inl rfl) (mu_le _ _) (fun _ => by have := cn_le fl; omega)
    · refine r_iconst d_Mm_fill_66 (v := 1) (by decide) ?_
      refine r_goto (tgt := 71) d_Mm_fill_67 (by decide) ?_
      refine r_istore_n (lv' := [(3, .int 1), (2, .int (nI (fa_cnt (fun k => decide (f k = 103)) 12))), (0, .ref m), (1, .ref b)]) d_Mm_fill_71 rfl (by decide) rfl ?_
      refine r_iconst d_Mm_fill_72 (v := 1) (by decide) ?_
      refine r_istore (lv' := [(4, .int 1), (3, .int 1), (2, .int (nI (fa_cnt (fun k => decide (f k = 103)) 12))), (0, .ref m), (1, .ref b)]) d_Mm_fill_73 (by decide) rfl ?_
      refine r_lv (lv' := [(3, .int 1), (4, .int 1), (2, .int (nI (fa_cnt (fun k => decide (f k = 103)) 12))), (0, .ref m), (1, .ref b)]) [1, 0, 2, 3, 4] rfl ?_
      exact L_Mm_fillW_75 g m mp mf mh mn mt mz mc_ mq mgr ml mi mr mm mu mk mx th pt cl wa co_ fi bu ho lh mg wd fpi fal po de b f fl w0 _ 110 _ _ 1 (Or.inr rfl) (mu_le _ _) (fun _ => by have := cn_le fl; omega)
end
section
theorem d_Mm_begin_33 : decode prog_14_method_30_code 33 = .ok (.iload_n 2, 1) := zo_28 (zd_b zq_prog_14_method_30_code_1 1 rfl rfl rfl)
theorem d_Mm_begin_34 : decode prog_14_method_30_code 34 = .ok (.iconst 2, 1) := zo_5 (zd_b zq_prog_14_method_30_code_1 2 rfl rfl rfl)
theorem d_Mm_begin_35 : decode prog_14_method_30_code 35 = .ok (.aload_n 0, 1) := zo_42 (zd_b zq_prog_14_method_30_code_1 3 rfl rfl rfl)
theorem d_Mm_begin_36 : decode prog_14_method_30_code 36 = .ok (.getfield 17, 3) := zo_180 (d := 0) (e := 17) (zd_b zq_prog_14_method_30_code_1 4 rfl rfl rfl) (zd_b zq_prog_14_method_30_code_1 5 rfl rfl rfl) (zd_b zq_prog_14_method_30_code_1 6 rfl rfl rfl)
theorem d_Mm_begin_39 : decode prog_14_method_30_code 39 = .ok (.iload_n 3, 1) := zo_29 (zd_b zq_prog_14_method_30_code_1 7 rfl rfl rfl)
theorem d_Mm_begin_40 : decode prog_14_method_30_code 40 = .ok (.iaload, 1) := zo_46 (zd_b zq_prog_14_method_30_code_1 8 rfl rfl rfl)
theorem d_Mm_begin_41 : decode prog_14_method_30_code 41 = .ok (.imul, 1) := zo_104 (zd_b zq_prog_14_method_30_code_1 9 rfl rfl rfl)
theorem d_Mm_begin_42 : decode prog_14_method_30_code 42 = .ok (.isub, 1) := zo_100 (zd_b zq_prog_14_method_30_code_1 10 rfl rfl rfl)
set_option maxHeartbeats 4000000 in
set_option maxRecDepth 100000 in
theorem L_Mm_beginW_7 (g : zG) (m mp mf mh mn mt mz mc_ mq mgr ml mi mr mm mu mk mx : Nat) (th pt cl wa co_ fi bu ho lh mg wd fpi fal : Int32) (po de : Int64) (b : Nat) (f : Nat → Int32) (fl : Nat → Int32) (he mtt fz : Nat → Int32) (h : Int32) (w0 : zW) (n : Nat) : ∀ (d i : Nat) (fl he mtt fz : Nat → Int32), i ≤ 108 → 108 < i + d → DV g M_Mm_begin (fun o cs1 => ∃ (fl9 he9 mt9 fz9 : Nat → Int32), o = .inl none ∧ cs1 = [(m, .inr (12, [.int th, .ref mp, .int pt, .ref mf, .ref mh, .ref mn, .ref mt, .ref mz, .ref mc_, .ref mq, .ref mgr, .int cl, .int wa, .int co_, .int fi, .int bu, .int ho, .ref ml, .ref mi, .ref mr, .int lh, .int mg, .int wd, .int fpi, .int fal, .ref mm, .ref mu, .ref mk, .ref mx, .long po, .long de])), (b, .inl (1, 108, .inl f)), (mf, .inl (0, 108, .inl fl9)), (mh, .inl (0, 108, .inl he9)), (mt, .inl (0, 108, .inl mt9)), (mz, .inl (0, 108, .inl fz9))]) w0 n 7 [(3, .int (nI i)), (0, .ref m), (1, .ref b), (2, .int h)] [] [(m, .inr (12, [.int th, .ref mp, .int pt, .ref mf, .ref mh, .ref mn, .ref mt, .ref mz, .ref mc_, .ref mq, .ref mgr, .int cl, .int wa, .int co_, .int fi, .int bu, .int ho, .ref ml, .ref mi, .ref mr, .int lh, .int mg, .int wd, .int fpi, .int fal, .ref mm, .ref mu, .ref mk, .ref mx, .long po, .long de])), (b, .inl (1, 108, .inl f)), (mf, .inl (0, 108, .inl fl)), (mh, .inl (0, 108, .inl he)), (mt, .inl (0, 108, .inl mtt)), (mz, .inl (0, 108, .inl fz))] 0 0 := by
  intro d
  induction d with
  | zero => intro i fl he mtt fz h1 h2 ; exact absurd h2 (by omega)
  | succ d ih =>
    intro i fl he mtt fz h1 h2 
    refine r_iload_n d_Mm_begin_7 rfl 0 rfl ?_
    refine r_bipush d_Mm_begin_8 (v := 108) (by decide) ?_
    refine r_icmp_ge (tgt := 66) d_Mm_begin_10 (by decide) (fun c_10 => ?_) (fun c_10 => ?_)
    · have hn := z_le (a := 108) (by omega) (by decide) c_10
      obtain rfl : i = 108 := by omega
      refine r_vret d_Mm_begin_66 rfl ?_
      exact ⟨_, _, _, _, rfl, rfl⟩
    · have hn := z_nle (a := 108) (by omega) (by decide) c_10
      refine r_aload_n d_Mm_begin_13 rfl 1 rfl ?_
      refine r_get fs_Mm_21 d_Mm_begin_14 (q0 := 0) rfl rfl ?_
      refine r_iload_n d_Mm_begin_17 rfl 0 rfl ?_
      refine r_aload_n d_Mm_begin_18 rfl 1 rfl ?_
      refine r_get fs_Mm_17 d_Mm_begin_19 (q0 := 0) rfl rfl ?_
      refine r_iload_n d_Mm_begin_22 rfl 0 rfl ?_
      refine r_iald d_Mm_begin_23 (q0 := 2) rfl (vp_in_nI (by omega) (by omega)) (v := fl i) (by rw [nI_clamp (by omega)]) ?_
      refine r_iconst d_Mm_begin_24 (v := (-1)) (by decide) ?_
      refine r_icmp_ne (tgt := 33) d_Mm_begin_25 (by decide) (fun c_25 => ?_) (fun c_25 => ?_)
      · refine r_iload_n d_Mm_begin_33 rfl 3 rfl ?_
        refine r_iconst d_Mm_begin_34 (v := 2) (by decide) ?_
        refine r_aload_n d_Mm_begin_35 rfl 1 rfl ?_
        refine r_get fs_Mm_17 d_Mm_begin_36 (q0 := 0) rfl rfl ?_
        refine r_iload_n d_Mm_begin_39 rfl 0 rfl ?_
        refine r_iald d_Mm_begin_40 (q0 := 2) rfl (vp_in_nI (by omega) (by omega)) (v := fl i) (by rw [nI_clamp (by omega)]) ?_
        refine r_imul d_Mm_begin_41 (v := 2 * (fl i)) rfl ?_
        refine r_isub d_Mm_begin_42 (v := h - (2 * (fl i))) rfl ?_
        refine r_iast d_Mm_begin_43 (q0 := 3) rfl (vp_in_nI (by omega) (by omega)) (f' := upd he i (h - (2 * (fl i)))) (by rw [nI_clamp (by omega)]) (cs' := [(m, .inr (12, [.int th, .ref mp, .int pt, .ref mf, .ref mh, .ref mn, .ref mt, .ref mz, .ref mc_, .ref mq, .ref mgr, .int cl, .int wa, .int co_, .int fi, .int bu, .int ho, .ref ml, .ref mi, .ref mr, .int lh, .int mg, .int wd, .int fpi, .int fal, .ref mm, .ref mu, .ref mk, .ref mx, .long po, .long de])), (b, .inl (1, 108, .inl f)), (mf, .inl (0, 108, .inl fl)), (mh, .inl (0, 108, .inl (upd he i (h - (2 * (fl i)))))), (mt, .inl (0, 108, .inl mtt)), (mz, .inl (0, 108, .inl fz))]) rfl ?_
        refine r_aload_n d_Mm_begin_44 rfl 1 rfl ?_
        refine r_get fs_Mm_27 d_Mm_begin_45 (q0 := 0) rfl rfl ?_
        refine r_iload_n d_Mm_begin_48 rfl 0 rfl ?_
        refine r_sipush d_Mm_begin_49 (v := 300) (by decide) ?_
        refine r_iast d_Mm_begin_52 (q0 := 4) rfl (vp_in_nI (by omega) (by omega)) (f' := upd mtt i 300) (by rw [nI_clamp (by omega)]) (cs' := [(m, .inr (12, [.int th, .ref mp, .int pt, .ref mf, .ref mh, .ref mn, .ref mt, .ref mz, .ref mc_, .ref mq, .ref mgr, .int cl, .int wa, .int co_, .int fi, .int bu, .int ho, .ref ml, .ref mi, .ref mr, .int lh, .int mg, .int wd, .int fpi, .int fal, .ref mm, .ref mu, .ref mk, .ref mx, .long po, .long de])), (b, .inl (1, 108, .inl f)), (mf, .inl (0, 108, .inl fl)), (mh, .inl (0, 108, .inl (upd he i (h - (2 * (fl i)))))), (mt, .inl (0, 108, .inl (upd mtt i 300))), (mz, .inl (0, 108, .inl fz))]) rfl ?_
        refine r_aload_n d_Mm_begin_53 rfl 1 rfl ?_
        refine r_get fs_Mm_30 d_Mm_begin_54 (q0 := 0) rfl rfl ?_
        refine r_iload_n d_Mm_begin_57 rfl 0 rfl ?_
        refine r_iconst d_Mm_begin_58 (v := 0) (by decide) ?_
        refine r_iast d_Mm_begin_59 (q0 := 5) rfl (vp_in_nI (by omega) (by omega)) (f' := upd fz i 0) (by rw [nI_clamp (by omega)]) (cs' := [(m, .inr (12, [.int th, .ref mp, .int pt, .ref mf, .ref mh, .ref mn, .ref mt, .ref mz, .ref mc_, .ref mq, .ref mgr, .int cl, .int wa, .int co_, .int fi, .int bu, .int ho, .ref ml, .ref mi, .ref mr, .int lh, .int mg, .int wd, .int fpi, .int fal, .ref mm, .ref mu, .ref mk, .ref mx, .long po, .long de])), (b, .inl (1, 108, .inl f)), (mf, .inl (0, 108, .inl fl)), (mh, .inl (0, 108, .inl (upd he i (h - (2 * (fl i)))))), (mt, .inl (0, 108, .inl (upd mtt i 300))), (mz, .inl (0, 108, .inl (upd fz i 0)))]) rfl ?_
        refine r_iinc (lv' := [(3, .int (nI (i + 1))), (0, .ref m), (1, .ref b), (2, .int h)]) (v := nI (i + 1)) d_Mm_begin_60 (j := 0) rfl (nI_add _ _) (by decide) rfl ?_
        refine r_goto (tgt := 7) d_Mm_begin_63 (by decide) ?_
        exact ih (i + 1) _ _ _ _ (by omega) (by omega)
      · refine r_bipush d_Mm_begin_28 (v := 20) (by decide) ?_
        refine r_goto (tgt := 43) d_Mm_begin_30 (by decide) ?_
        refine r_iast d_Mm_begin_43 (q0 := 3) rfl (vp_in_nI (by omega) (by omega)) (f' := upd he i 20) (by rw [nI_clamp (by omega)]) (cs' := [(m, .inr (12, [.int th, .ref mp, .int pt, .ref mf, .ref mh, .ref mn, .ref mt, .ref mz, .ref mc_, .ref mq, .ref mgr, .int cl, .int wa, .int co_, .int fi, .int bu, .int ho, .ref ml, .ref mi, .ref mr, .int lh, .int mg, .int wd, .int fpi, .int fal, .ref mm, .ref mu, .ref mk, .ref mx, .long po, .long de])), (b, .inl (1, 108, .inl f)), (mf, .inl (0, 108, .inl fl)), (mh, .inl (0, 108, .inl (upd he i 20))), (mt, .inl (0, 108, .inl mtt)), (mz, .inl (0, 108, .inl fz))]) rfl ?_
        refine r_aload_n d_Mm_begin_44 rfl 1 rfl ?_
        refine r_get fs_Mm_27 d_Mm_begin_45 (q0 := 0) rfl rfl ?_
        refine r_iload_n d_Mm_begin_48 rfl 0 rfl ?_
        refine r_sipush d_Mm_begin_49 (v := 300) (by decide) ?_
        refine r_iast d_Mm_begin_52 (q0 := 4) rfl (vp_in_nI (by omega) (by omega)) (f' := upd mtt i 300) (by rw [nI_clamp (by omega)]) (cs' := [(m, .inr (12, [.int th, .ref mp, .int pt, .ref mf, .ref mh, .ref mn, .ref mt, .ref mz, .ref mc_, .ref mq, .ref mgr, .int cl, .int wa, .int co_, .int fi, .int bu, .int ho, .ref ml, .ref mi, .ref mr, .int lh, .int mg, .int wd, .int fpi, .int fal, .ref mm, .ref mu, .ref mk, .ref mx, .long po, .long de])), (b, .inl (1, 108, .inl f)), (mf, .inl (0, 108, .inl fl)), (mh, .inl (0, 108, .inl (upd he i 20))), (mt, .inl (0, 108, .inl (upd mtt i 300))), (mz, .inl (0, 108, .inl fz))]) rfl ?_
        refine r_aload_n d_Mm_begin_53 rfl 1 rfl ?_
        refine r_get fs_Mm_30 d_Mm_begin_54 (q0 := 0) rfl rfl ?_
        refine r_iload_n d_Mm_begin_57 rfl 0 rfl ?_
        refine r_iconst d_Mm_begin_58 (v := 0) (by decide) ?_
        refine r_iast d_Mm_begin_59 (q0 := 5) rfl (vp_in_nI (by omega) (by omega)) (f' := upd fz i 0) (by rw [nI_clamp (by omega)]) (cs' := [(m, .inr (12, [.int th, .ref mp, .int pt, .ref mf, .ref mh, .ref mn, .ref mt, .ref mz, .ref mc_, .ref mq, .ref mgr, .int cl, .int wa, .int co_, .int fi, .int bu, .int ho, .ref ml, .ref mi, .ref mr, .int lh, .int mg, .int wd, .int fpi, .int fal, .ref mm, .ref mu, .ref mk, .ref mx, .long po, .long de])), (b, .inl (1, 108, .inl f)), (mf, .inl (0, 108, .inl fl)), (mh, .inl (0, 108, .inl (upd he i 20))), (mt, .inl (0, 108, .inl (upd mtt i 300))), (mz, .inl (0, 108, .inl (upd fz i 0)))]) rfl ?_
        refine r_iinc (lv' := [(3, .int (nI (i + 1))), (0, .ref m), (1, .ref b), (2, .int h)]) (v := nI (i + 1)) d_Mm_begin_60 (j := 0) rfl (nI_add _ _) (by decide) rfl ?_
        refine r_goto (tgt := 7) d_Mm_begin_63 (by decide) ?_
        exact ih (i + 1) _ _ _ _ (by omega) (by omega)
set_option maxHeartbeats 4000000 in
set_option maxRecDepth 100000 in
theorem C_Mm_beginW (g : zG) (m mp mf mh mn mt mz mc_ mq mgr ml mi mr mm mu mk mx : Nat) (th pt cl wa co_ fi bu ho lh mg wd fpi fal : Int32) (po de : Int64) (b : Nat) (f : Nat → Int32) (fl : Nat → Int32) (he mtt fz : Nat → Int32) (h : Int32) : CT g M_Mm_begin [.ref m, .ref b, .int h] [(m, .inr (12, [.int th, .ref mp, .int pt, .ref mf, .ref mh, .ref mn, .ref mt, .ref mz, .ref mc_, .ref mq, .ref mgr, .int cl, .int wa, .int co_, .int fi, .int bu, .int ho, .ref ml, .ref mi, .ref mr, .int lh, .int mg, .int wd, .int fpi, .int fal, .ref mm, .ref mu, .ref mk, .ref mx, .long po, .long de])), (b, .inl (1, 108, .inl f)), (mf, .inl (0, 108, .inl fl)), (mh, .inl (0, 108, .inl he)), (mt, .inl (0, 108, .inl mtt)), (mz, .inl (0, 108, .inl fz))] (fun o cs1 => ∃ (fl9 he9 mt9 fz9 : Nat → Int32), o = .inl none ∧ cs1 = [(m, .inr (12, [.int th, .ref mp, .int pt, .ref mf, .ref mh, .ref mn, .ref mt, .ref mz, .ref mc_, .ref mq, .ref mgr, .int cl, .int wa, .int co_, .int fi, .int bu, .int ho, .ref ml, .ref mi, .ref mr, .int lh, .int mg, .int wd, .int fpi, .int fal, .ref mm, .ref mu, .ref mk, .ref mx, .long po, .long de])), (b, .inl (1, 108, .inl f)), (mf, .inl (0, 108, .inl fl9)), (mh, .inl (0, 108, .inl he9)), (mt, .inl (0, 108, .inl mt9)), (mz, .inl (0, 108, .inl fz9))]) 0 0 := by
  refine z_of (by decide) rfl (Nat.le_of_ble_eq_true rfl) (fun w0 => ?_)
  refine r_lvE (lv2 := [(0, .ref m), (1, .ref b), (2, .int h)]) rfl ?_
  refine r_aload_n d_Mm_begin_0 rfl 0 rfl ?_
  refine r_aload_n d_Mm_begin_1 rfl 1 rfl ?_
  refine r_callV (As := [.ref b]) (rest := []) (csC := [(m, .inr (12, [.int th, .ref mp, .int pt, .ref mf, .ref mh, .ref mn, .ref mt, .ref mz, .ref mc_, .ref mq, .ref mgr, .int cl, .int wa, .int co_, .int fi, .int bu, .int ho, .ref ml, .ref mi, .ref mr, .int lh, .int mg, .int wd, .int fpi, .int fal, .ref mm, .ref mu, .ref mk, .ref mx, .long po, .long de])), (b, .inl (1, 108, .inl f)), (mf, .inl (0, 108, .inl fl))]) (is := [0, 1, 2]) (q0 := 0) rfl rfl ln_Mm_143 w_im_Mm_fill w_se_Mm_fill ok_Mm_begin_Mm_fill d_Mm_begin_2 (C_Mm_fillW g m mp mf mh mn mt mz mc_ mq mgr ml mi mr mm mu mk mx th pt cl wa co_ fi bu ho lh mg wd fpi fal po de b f fl) rfl rfl (Nat.le_of_ble_eq_true rfl) rfl (by decide) (by omega) (by omega) (fun E cs1 hx => ?_) (fun v cs1 hx => ?_)
  · obtain ⟨fl9, e1, -⟩ := hx
    cases e1
  · obtain ⟨fl9, e1, rfl⟩ := hx
    cases e1
    refine ⟨rfl, ?_⟩
    refine r_st (st2 := []) rfl ?_
    refine r_cs (cs2 := [(m, .inr (12, [.int th, .ref mp, .int pt, .ref mf, .ref mh, .ref mn, .ref mt, .ref mz, .ref mc_, .ref mq, .ref mgr, .int cl, .int wa, .int co_, .int fi, .int bu, .int ho, .ref ml, .ref mi, .ref mr, .int lh, .int mg, .int wd, .int fpi, .int fal, .ref mm, .ref mu, .ref mk, .ref mx, .long po, .long de])), (b, .inl (1, 108, .inl f)), (mf, .inl (0, 108, .inl fl9)), (mh, .inl (0, 108, .inl he)), (mt, .inl (0, 108, .inl mtt)), (mz, .inl (0, 108, .inl fz))]) rfl ?_
    refine r_iconst d_Mm_begin_5 (v := 0) (by decide) ?_
    refine r_istore_n (lv' := [(3, .int 0), (0, .ref m), (1, .ref b), (2, .int h)]) d_Mm_begin_6 rfl (by decide) rfl ?_
    exact L_Mm_beginW_7 g m mp mf mh mn mt mz mc_ mq mgr ml mi mr mm mu mk mx th pt cl wa co_ fi bu ho lh mg wd fpi fal po de b f fl he mtt fz h w0 _  (108 + 1) 0 _ _ _ _ (Nat.zero_le _) (by omega)
theorem d_Mm_freeze_68 : decode prog_14_method_31_code 68 = .ok (.aload_n 0, 1) := zo_42 (zd_b zq_prog_14_method_31_code_2 4 rfl rfl rfl)
theorem d_Mm_freeze_69 : decode prog_14_method_31_code 69 = .ok (.getfield 30, 3) := zo_180 (d := 0) (e := 30) (zd_b zq_prog_14_method_31_code_2 5 rfl rfl rfl) (zd_b zq_prog_14_method_31_code_2 6 rfl rfl rfl) (zd_b zq_prog_14_method_31_code_2 7 rfl rfl rfl)
theorem d_Mm_freeze_72 : decode prog_14_method_31_code 72 = .ok (.iload 4, 2) := zo_21 (d := 4) (zd_b zq_prog_14_method_31_code_2 8 rfl rfl rfl) (zd_b zq_prog_14_method_31_code_2 9 rfl rfl rfl)
theorem d_Mm_freeze_74 : decode prog_14_method_31_code 74 = .ok (.iaload, 1) := zo_46 (zd_b zq_prog_14_method_31_code_2 10 rfl rfl rfl)
theorem d_Mm_freeze_75 : decode prog_14_method_31_code 75 = .ok (.ifCond .ne 9, 3) := zo_154 (d := 0) (e := 9) (zd_b zq_prog_14_method_31_code_2 11 rfl rfl rfl) (zd_b zq_prog_14_method_31_code_2 12 rfl rfl rfl) (zd_b zq_prog_14_method_31_code_2 13 rfl rfl rfl) (by decide +kernel)
theorem d_Mm_freeze_84 : decode prog_14_method_31_code 84 = .ok (.aload_n 0, 1) := zo_42 (zd_b zq_prog_14_method_31_code_2 20 rfl rfl rfl)
theorem d_Mm_freeze_85 : decode prog_14_method_31_code 85 = .ok (.getfield 30, 3) := zo_180 (d := 0) (e := 30) (zd_b zq_prog_14_method_31_code_2 21 rfl rfl rfl) (zd_b zq_prog_14_method_31_code_2 22 rfl rfl rfl) (zd_b zq_prog_14_method_31_code_2 23 rfl rfl rfl)
theorem d_Mm_freeze_88 : decode prog_14_method_31_code 88 = .ok (.iload 4, 2) := zo_21 (d := 4) (zd_b zq_prog_14_method_31_code_2 24 rfl rfl rfl) (zd_b zq_prog_14_method_31_code_2 25 rfl rfl rfl)
theorem d_Mm_freeze_90 : decode prog_14_method_31_code 90 = .ok (.iaload, 1) := zo_46 (zd_b zq_prog_14_method_31_code_2 26 rfl rfl rfl)
theorem d_Mm_freeze_78 : decode prog_14_method_31_code 78 = .ok (.sipush 401, 3) := zo_17 (d := 1) (e := 145) (zd_b zq_prog_14_method_31_code_2 14 rfl rfl rfl) (zd_b zq_prog_14_method_31_code_2 15 rfl rfl rfl) (zd_b zq_prog_14_method_31_code_2 16 rfl rfl rfl) (by decide +kernel)
theorem d_Mm_freeze_81 : decode prog_14_method_31_code 81 = .ok (.goto 10, 3) := zo_167 (d := 0) (e := 10) (zd_b zq_prog_14_method_31_code_2 17 rfl rfl rfl) (zd_b zq_prog_14_method_31_code_2 18 rfl rfl rfl) (zd_b zq_prog_14_method_31_code_2 19 rfl rfl rfl) (by decide +kernel)
set_option maxHeartbeats 4000000 in
set_option maxRecDepth 100000 in
theorem L_Mm_freezeW_40 (g : zG) (m mp mf mh mn mt mz mc_ mq mgr ml mi mr mm mu mk mx : Nat) (th pt cl wa co_ fi bu ho lh mg wd fpi fal : Int32) (po de : Int64) (b : Nat) (f : Nat → Int32) (fl : Nat → Int32) (he nx mtt fz : Nat → Int32) (h : Int32) (w0 : zW) (n : Nat) : ∀ (d i : Nat) (fl he nx mtt fz : Nat → Int32), i ≤ 108 → 108 < i + d → DV g M_Mm_freeze (fun o cs1 => ∃ (fl9 he9 nx9 mt9 fz9 : Nat → Int32), o = .inl none ∧ cs1 = [(m, .inr (12, [.int th, .ref mp, .int pt, .ref mf, .ref mh, .ref mn, .ref mt, .ref mz, .ref mc_, .ref mq, .ref mgr, .int cl, .int wa, .int co_, .int fi, .int bu, .int ho, .ref ml, .ref mi, .ref mr, .int lh, .int mg, .int wd, .int fpi, .int fal, .ref mm, .ref mu, .ref mk, .ref mx, .long po, .long de])), (b, .inl (1, 108, .inl f)), (mf, .inl (0, 108, .inl fl9)), (mh, .inl (0, 108, .inl he9)), (mt, .inl (0, 108, .inl mt9)), (mz, .inl (0, 108, .inl fz9)), (mn, .inl (0, 108, .inl nx9))]) w0 n 40 [(4, .int (nI i)), (0, .ref m), (1, .ref b), (2, .int h)] [] [(m, .inr (12, [.int th, .ref mp, .int pt, .ref mf, .ref mh, .ref mn, .ref mt, .ref mz, .ref mc_, .ref mq, .ref mgr, .int cl, .int wa, .int co_, .int fi, .int bu, .int ho, .ref ml, .ref mi, .ref mr, .int lh, .int mg, .int wd, .int fpi, .int fal, .ref mm, .ref mu, .ref mk, .ref mx, .long po, .long de])), (b, .inl (1, 108, .inl f)), (mf, .inl (0, 108, .inl fl)), (mh, .inl (0, 108, .inl he)), (mt, .inl (0, 108, .inl mtt)), (mz, .inl (0, 108, .inl fz)), (mn, .inl (0, 108, .inl nx))] 0 0 := by
  intro d
  induction d with
  | zero => intro i fl he nx mtt fz h1 h2 ; exact absurd h2 (by omega)
  | succ d ih =>
    intro i fl he nx mtt fz h1 h2 
    refine r_iload d_Mm_freeze_40 0 rfl ?_
    refine r_bipush d_Mm_freeze_42 (v := 108) (by decide) ?_
    refine r_icmp_ge (tgt := 98) d_Mm_freeze_44 (by decide) (fun c_44 => ?_) (fun c_44 => ?_)
    · have hn := z_le (a := 108) (by omega) (by decide) c_44
      obtain rfl : i = 108 := by omega
      refine r_vret d_Mm_freeze_98 rfl ?_
      exact ⟨_, _, _, _, _, rfl, rfl⟩
    · have hn := z_nle (a := 108) (by omega) (by decide) c_44
      refine r_aload_n d_Mm_freeze_47 rfl 1 rfl ?_
      refine r_get fs_Mm_30 d_Mm_freeze_48 (q0 := 0) rfl rfl ?_
      refine r_iload d_Mm_freeze_51 0 rfl ?_
      refine r_aload_n d_Mm_freeze_53 rfl 1 rfl ?_
      refine r_get fs_Mm_17 d_Mm_freeze_54 (q0 := 0) rfl rfl ?_
      refine r_iload d_Mm_freeze_57 0 rfl ?_
      refine r_iald d_Mm_freeze_59 (q0 := 2) rfl (vp_in_nI (by omega) (by omega)) (v := fl i) (by rw [nI_clamp (by omega)]) ?_
      refine r_iconst d_Mm_freeze_60 (v := (-1)) (by decide) ?_
      refine r_icmp_ne (tgt := 68) d_Mm_freeze_61 (by decide) (fun c_61 => ?_) (fun c_61 => ?_)
      · refine r_aload_n d_Mm_freeze_68 rfl 1 rfl ?_
        refine r_get fs_Mm_30 d_Mm_freeze_69 (q0 := 0) rfl rfl ?_
        refine r_iload d_Mm_freeze_72 0 rfl ?_
        refine r_iald d_Mm_freeze_74 (q0 := 5) rfl (vp_in_nI (by omega) (by omega)) (v := fz i) (by rw [nI_clamp (by omega)]) ?_
        refine r_if_ne (tgt := 84) d_Mm_freeze_75 (by decide) (fun c_75 => ?_) (fun c_75 => ?_)
        · refine r_aload_n d_Mm_freeze_84 rfl 1 rfl ?_
          refine r_get fs_Mm_30 d_Mm_freeze_85 (q0 := 0) rfl rfl ?_
          refine r_iload d_Mm_freeze_88 0 rfl ?_
          refine r_iald d_Mm_freeze_90 (q0 := 5) rfl (vp_in_nI (by omega) (by omega)) (v := fz i) (by rw [nI_clamp (by omega)]) ?_
          refine r_iast d_Mm_freeze_91 (q0 := 5) rfl (vp_in_nI (by omega) (by omega)) (f' := upd fz i (fz i)) (by rw [nI_clamp (by omega)]) (cs' := [(m, .inr (12, [.int th, .ref mp, .int pt, .ref mf, .ref mh, .ref mn, .ref mt, .ref mz, .ref mc_, .ref mq, .ref mgr, .int cl, .int wa, .int co_, .int fi, .int bu, .int ho, .ref ml, .ref mi, .ref mr, .int lh, .int mg, .int wd, .int fpi, .int fal, .ref mm, .ref mu, .ref mk, .ref mx, .long po, .long de])), (b, .inl (1, 108, .inl f)), (mf, .inl (0, 108, .inl fl)), (mh, .inl (0, 108, .inl he)), (mt, .inl (0, 108, .inl mtt)), (mz, .inl (0, 108, .inl (upd fz i (fz i)))), (mn, .inl (0, 108, .inl nx))]) rfl ?_
          refine r_iinc (lv' := [(4, .int (nI (i + 1))), (0, .ref m), (1, .ref b), (2, .int h)]) (v := nI (i + 1)) d_Mm_freeze_92 (j := 0) rfl (nI_add _ _) (by decide) rfl ?_
          refine r_goto (tgt := 40) d_Mm_freeze_95 (by decide) ?_
          exact ih (i + 1) _ _ _ _ _ (by omega) (by omega)
        · refine r_sipush d_Mm_freeze_78 (v := 401) (by decide) ?_
          refine r_goto (tgt := 91) d_Mm_freeze_81 (by decide) ?_
          refine r_iast d_Mm_freeze_91 (q0 := 5) rfl (vp_in_nI (by omega) (by omega)) (f' := upd fz i 401) (by rw [nI_clamp (by omega)]) (cs' := [(m, .inr (12, [.int th, .ref mp, .int pt, .ref mf, .ref mh, .ref mn, .ref mt, .ref mz, .ref mc_, .ref mq, .ref mgr, .int cl, .int wa, .int co_, .int fi, .int bu, .int ho, .ref ml, .ref mi, .ref mr, .int lh, .int mg, .int wd, .int fpi, .int fal, .ref mm, .ref mu, .ref mk, .ref mx, .long po, .long de])), (b, .inl (1, 108, .inl f)), (mf, .inl (0, 108, .inl fl)), (mh, .inl (0, 108, .inl he)), (mt, .inl (0, 108, .inl mtt)), (mz, .inl (0, 108, .inl (upd fz i 401))), (mn, .inl (0, 108, .inl nx))]) rfl ?_
          refine r_iinc (lv' := [(4, .int (nI (i + 1))), (0, .ref m), (1, .ref b), (2, .int h)]) (v := nI (i + 1)) d_Mm_freeze_92 (j := 0) rfl (nI_add _ _) (by decide) rfl ?_
          refine r_goto (tgt := 40) d_Mm_freeze_95 (by decide) ?_
          exact ih (i + 1) _ _ _ _ _ (by omega) (by omega)
      · refine r_iconst d_Mm_freeze_64 (v := (-1)) (by decide) ?_
        refine r_goto (tgt := 91) d_Mm_freeze_65 (by decide) ?_
        refine r_iast d_Mm_freeze_91 (q0 := 5) rfl (vp_in_nI (by omega) (by omega)) (f' := upd fz i (-1)) (by rw [nI_clamp (by omega)]) (cs' := [(m, .inr (12, [.int th, .ref mp, .int pt, .ref mf, .ref mh, .ref mn, .ref mt, .ref mz, .ref mc_, .ref mq, .ref mgr, .int cl, .int wa, .int co_, .int fi, .int bu, .int ho, .ref ml, .ref mi, .ref mr, .int lh, .int mg, .int wd, .int fpi, .int fal, .ref mm, .ref mu, .ref mk, .ref mx, .long po, .long de])), (b, .inl (1, 108, .inl f)), (mf, .inl (0, 108, .inl fl)), (mh, .inl (0, 108, .inl he)), (mt, .inl (0, 108, .inl mtt)), (mz, .inl (0, 108, .inl (upd fz i (-1)))), (mn, .inl (0, 108, .inl nx))]) rfl ?_
        refine r_iinc (lv' := [(4, .int (nI (i + 1))), (0, .ref m), (1, .ref b), (2, .int h)]) (v := nI (i + 1)) d_Mm_freeze_92 (j := 0) rfl (nI_add _ _) (by decide) rfl ?_
        refine r_goto (tgt := 40) d_Mm_freeze_95 (by decide) ?_
        exact ih (i + 1) _ _ _ _ _ (by omega) (by omega)
set_option maxHeartbeats 4000000 in
set_option maxRecDepth 100000 in
theorem L_Mm_freezeW_11 (g : zG) (m mp mf mh mn mt mz mc_ mq mgr ml mi mr mm mu mk mx : Nat) (th pt cl wa co_ fi bu ho lh mg wd fpi fal : Int32) (po de : Int64) (b : Nat) (f : Nat → Int32) (fl : Nat → Int32) (he nx mtt fz : Nat → Int32) (h : Int32) (w0 : zW) (n : Nat) : ∀ (d i : Nat) (fl he nx mtt fz : Nat → Int32) (lf : Int32), i ≤ 400 → 400 < i + d → DV g M_Mm_freeze (fun o cs1 => ∃ (fl9 he9 nx9 mt9 fz9 : Nat → Int32), o = .inl none ∧ cs1 = [(m, .inr (12, [.int th, .ref mp, .int pt, .ref mf, .ref mh, .ref mn, .ref mt, .ref mz, .ref mc_, .ref mq, .ref mgr, .int cl, .int wa, .int co_, .int fi, .int bu, .int ho, .ref ml, .ref mi, .ref mr, .int lh, .int mg, .int wd, .int fpi, .int fal, .ref mm, .ref mu, .ref mk, .ref mx, .long po, .long de])), (b, .inl (1, 108, .inl f)), (mf, .inl (0, 108, .inl fl9)), (mh, .inl (0, 108, .inl he9)), (mt, .inl (0, 108, .inl mt9)), (mz, .inl (0, 108, .inl fz9)), (mn, .inl (0, 108, .inl nx9))]) w0 n 11 [(4, .int (nI (i + 1))), (3, .int lf), (0, .ref m), (1, .ref b), (2, .int h)] [] [(m, .inr (12, [.int th, .ref mp, .int pt, .ref mf, .ref mh, .ref mn, .ref mt, .ref mz, .ref mc_, .ref mq, .ref mgr, .int cl, .int wa, .int co_, .int fi, .int bu, .int ho, .ref ml, .ref mi, .ref mr, .int lh, .int mg, .int wd, .int fpi, .int fal, .ref mm, .ref mu, .ref mk, .ref mx, .long po, .long de])), (b, .inl (1, 108, .inl f)), (mf, .inl (0, 108, .inl fl)), (mh, .inl (0, 108, .inl he)), (mt, .inl (0, 108, .inl mtt)), (mz, .inl (0, 108, .inl fz)), (mn, .inl (0, 108, .inl nx))] 0 0 := by
  intro d
  induction d with
  | zero => intro i fl he nx mtt fz lf h1 h2 ; exact absurd h2 (by omega)
  | succ d ih =>
    intro i fl he nx mtt fz lf h1 h2 
    refine r_iload d_Mm_freeze_11 0 rfl ?_
    refine r_sipush d_Mm_freeze_13 (v := 400) (by decide) ?_
    refine r_icmp_gt (tgt := 37) d_Mm_freeze_16 (by decide) (fun c_16 => ?_) (fun c_16 => ?_)
    · refine r_iconst d_Mm_freeze_37 (v := 0) (by decide) ?_
      refine r_istore (lv' := [(4, .int 0), (3, .int lf), (0, .ref m), (1, .ref b), (2, .int h)]) d_Mm_freeze_38 (by decide) rfl ?_
      refine r_lv (lv' := [(4, .int 0), (0, .ref m), (1, .ref b), (2, .int h)]) [0, 2, 3, 4] rfl ?_
      exact L_Mm_freezeW_40 g m mp mf mh mn mt mz mc_ mq mgr ml mi mr mm mu mk mx th pt cl wa co_ fi bu ho lh mg wd fpi fal po de b f fl he nx mtt fz h w0 _  (108 + 1) 0 _ _ _ _ _ (Nat.zero_le _) (by omega)
    · have hn := z_nlt (a := 400) (b := i + 1) (by omega) (by decide) c_16
      refine r_iload_n d_Mm_freeze_19 rfl 1 rfl ?_
      refine r_if_eq (tgt := 37) d_Mm_freeze_20 (by decide) (fun c_20 => ?_) (fun c_20 => ?_)
      · refine r_iconst d_Mm_freeze_37 (v := 0) (by decide) ?_
        refine r_istore (lv' := [(4, .int 0), (3, .int lf), (0, .ref m), (1, .ref b), (2, .int h)]) d_Mm_freeze_38 (by decide) rfl ?_
        refine r_lv (lv' := [(4, .int 0), (0, .ref m), (1, .ref b), (2, .int h)]) [0, 2, 3, 4] rfl ?_
        exact L_Mm_freezeW_40 g m mp mf mh mn mt mz mc_ mq mgr ml mi mr mm mu mk mx th pt cl wa co_ fi bu ho lh mg wd fpi fal po de b f fl he nx mtt fz h w0 _  (108 + 1) 0 _ _ _ _ _ (Nat.zero_le _) (by omega)
      · refine r_aload_n d_Mm_freeze_23 rfl 2 rfl ?_
        refine r_aload_n d_Mm_freeze_24 rfl 3 rfl ?_
        refine r_iload d_Mm_freeze_25 0 rfl ?_
        refine r_callV (As := [.ref b, .int (nI (i + 1))]) (rest := []) (csC := [(m, .inr (12, [.int th, .ref mp, .int pt, .ref mf, .ref mh, .ref mn, .ref mt, .ref mz, .ref mc_, .ref mq, .ref mgr, .int cl, .int wa, .int co_, .int fi, .int bu, .int ho, .ref ml, .ref mi, .ref mr, .int lh, .int mg, .int wd, .int fpi, .int fal, .ref mm, .ref mu, .ref mk, .ref mx, .long po, .long de])), (b, .inl (1, 108, .inl f)), (mf, .inl (0, 108, .inl fl)), (mh, .inl (0, 108, .inl he)), (mn, .inl (0, 108, .inl nx)), (mt, .inl (0, 108, .inl mtt)), (mz, .inl (0, 108, .inl fz))]) (is := [0, 1, 2, 3, 6, 4, 5]) (q0 := 0) rfl rfl ln_Mm_160 w_im_Mm_freezeStep w_se_Mm_freezeStep ok_Mm_freeze_Mm_freezeStep d_Mm_freeze_27 (C_Mm_freezeStepW g m mp mf mh mn mt mz mc_ mq mgr ml mi mr mm mu mk mx th pt cl wa co_ fi bu ho lh mg wd fpi fal po de b f fl he nx mtt fz (nI (i + 1))) rfl rfl (Nat.le_of_ble_eq_true rfl) rfl (by decide) (by omega) (by omega) (fun E cs1 hx => ?_) (fun v cs1 hx => ?_)
        · obtain ⟨v9, he9, nx9, mt9, fz9, -, e1, -⟩ := hx
          cases e1
        · obtain ⟨v9, he9, nx9, mt9, fz9, h99, e1, rfl⟩ := hx
          cases e1
          refine ⟨rfl, ?_⟩
          refine r_st (st2 := [.int v9]) rfl ?_
          refine r_cs (cs2 := [(m, .inr (12, [.int th, .ref mp, .int pt, .ref mf, .ref mh, .ref mn, .ref mt, .ref mz, .ref mc_, .ref mq, .ref mgr, .int cl, .int wa, .int co_, .int fi, .int bu, .int ho, .ref ml, .ref mi, .ref mr, .int lh, .int mg, .int wd, .int fpi, .int fal, .ref mm, .ref mu, .ref mk, .ref mx, .long po, .long de])), (b, .inl (1, 108, .inl f)), (mf, .inl (0, 108, .inl fl)), (mh, .inl (0, 108, .inl he9)), (mt, .inl (0, 108, .inl mt9)), (mz, .inl (0, 108, .inl fz9)), (mn, .inl (0, 108, .inl nx9))]) rfl ?_
          refine r_istore_n (lv' := [(3, .int v9), (4, .int (nI (i + 1))), (0, .ref m), (1, .ref b), (2, .int h)]) d_Mm_freeze_30 rfl (by decide) rfl ?_
          refine r_iinc (lv' := [(4, .int (nI (i + 1 + 1))), (3, .int v9), (0, .ref m), (1, .ref b), (2, .int h)]) (v := nI (i + 1 + 1)) d_Mm_freeze_31 (j := 1) rfl (nI_add _ _) (by decide) rfl ?_
          refine r_goto (tgt := 11) d_Mm_freeze_34 (by decide) ?_
          exact ih (i + 1) _ _ _ _ _ _ (by omega) (by omega)
set_option maxHeartbeats 4000000 in
set_option maxRecDepth 100000 in
theorem C_Mm_freezeW (g : zG) (m mp mf mh mn mt mz mc_ mq mgr ml mi mr mm mu mk mx : Nat) (th pt cl wa co_ fi bu ho lh mg wd fpi fal : Int32) (po de : Int64) (b : Nat) (f : Nat → Int32) (fl : Nat → Int32) (he nx mtt fz : Nat → Int32) (h : Int32) : CT g M_Mm_freeze [.ref m, .ref b, .int h] [(m, .inr (12, [.int th, .ref mp, .int pt, .ref mf, .ref mh, .ref mn, .ref mt, .ref mz, .ref mc_, .ref mq, .ref mgr, .int cl, .int wa, .int co_, .int fi, .int bu, .int ho, .ref ml, .ref mi, .ref mr, .int lh, .int mg, .int wd, .int fpi, .int fal, .ref mm, .ref mu, .ref mk, .ref mx, .long po, .long de])), (b, .inl (1, 108, .inl f)), (mf, .inl (0, 108, .inl fl)), (mh, .inl (0, 108, .inl he)), (mt, .inl (0, 108, .inl mtt)), (mz, .inl (0, 108, .inl fz)), (mn, .inl (0, 108, .inl nx))] (fun o cs1 => ∃ (fl9 he9 nx9 mt9 fz9 : Nat → Int32), o = .inl none ∧ cs1 = [(m, .inr (12, [.int th, .ref mp, .int pt, .ref mf, .ref mh, .ref mn, .ref mt, .ref mz, .ref mc_, .ref mq, .ref mgr, .int cl, .int wa, .int co_, .int fi, .int bu, .int ho, .ref ml, .ref mi, .ref mr, .int lh, .int mg, .int wd, .int fpi, .int fal, .ref mm, .ref mu, .ref mk, .ref mx, .long po, .long de])), (b, .inl (1, 108, .inl f)), (mf, .inl (0, 108, .inl fl9)), (mh, .inl (0, 108, .inl he9)), (mt, .inl (0, 108, .inl mt9)), (mz, .inl (0, 108, .inl fz9)), (mn, .inl (0, 108, .inl nx9))]) 0 0 := by
  refine z_of (by decide) rfl (Nat.le_of_ble_eq_true rfl) (fun w0 => ?_)
  refine r_lvE (lv2 := [(0, .ref m), (1, .ref b), (2, .int h)]) rfl ?_
  refine r_aload_n d_Mm_freeze_0 rfl 0 rfl ?_
  refine r_aload_n d_Mm_freeze_1 rfl 1 rfl ?_
  refine r_iload_n d_Mm_freeze_2 rfl 2 rfl ?_
  refine r_callV (As := [.ref b, .int h]) (rest := []) (csC := [(m, .inr (12, [.int th, .ref mp, .int pt, .ref mf, .ref mh, .ref mn, .ref mt, .ref mz, .ref mc_, .ref mq, .ref mgr, .int cl, .int wa, .int co_, .int fi, .int bu, .int ho, .ref ml, .ref mi, .ref mr, .int lh, .int mg, .int wd, .int fpi, .int fal, .ref mm, .ref mu, .ref mk, .ref mx, .long po, .long de])), (b, .inl (1, 108, .inl f)), (mf, .inl (0, 108, .inl fl)), (mh, .inl (0, 108, .inl he)), (mt, .inl (0, 108, .inl mtt)), (mz, .inl (0, 108, .inl fz))]) (is := [0, 1, 2, 3, 4, 5]) (q0 := 0) rfl rfl ln_Mm_157 w_im_Mm_begin w_se_Mm_begin ok_Mm_freeze_Mm_begin d_Mm_freeze_3 (C_Mm_beginW g m mp mf mh mn mt mz mc_ mq mgr ml mi mr mm mu mk mx th pt cl wa co_ fi bu ho lh mg wd fpi fal po de b f fl he mtt fz h) rfl rfl (Nat.le_of_ble_eq_true rfl) rfl (by decide) (by omega) (by omega) (fun E cs1 hx => ?_) (fun v cs1 hx => ?_)
  · obtain ⟨fl9, he9, mt9, fz9, e1, -⟩ := hx
    cases e1
  · obtain ⟨fl9, he9, mt9, fz9, e1, rfl⟩ := hx
    cases e1
    refine ⟨rfl, ?_⟩
    refine r_st (st2 := []) rfl ?_
    refine r_cs (cs2 := [(m, .inr (12, [.int th, .ref mp, .int pt, .ref mf, .ref mh, .ref mn, .ref mt, .ref mz, .ref mc_, .ref mq, .ref mgr, .int cl, .int wa, .int co_, .int fi, .int bu, .int ho, .ref ml, .ref mi, .ref mr, .int lh, .int mg, .int wd, .int fpi, .int fal, .ref mm, .ref mu, .ref mk, .ref mx, .long po, .long de])), (b, .inl (1, 108, .inl f)), (mf, .inl (0, 108, .inl fl9)), (mh, .inl (0, 108, .inl he9)), (mt, .inl (0, 108, .inl mt9)), (mz, .inl (0, 108, .inl fz9)), (mn, .inl (0, 108, .inl nx))]) rfl ?_
    refine r_iconst d_Mm_freeze_6 (v := 1) (by decide) ?_
    refine r_istore_n (lv' := [(3, .int 1), (0, .ref m), (1, .ref b), (2, .int h)]) d_Mm_freeze_7 rfl (by decide) rfl ?_
    refine r_iconst d_Mm_freeze_8 (v := 1) (by decide) ?_
    refine r_istore (lv' := [(4, .int 1), (3, .int 1), (0, .ref m), (1, .ref b), (2, .int h)]) d_Mm_freeze_9 (by decide) rfl ?_
    exact L_Mm_freezeW_11 g m mp mf mh mn mt mz mc_ mq mgr ml mi mr mm mu mk mx th pt cl wa co_ fi bu ho lh mg wd fpi fal po de b f fl he nx mtt fz h w0 _  (400 + 1) 0 _ _ _ _ _ _ (Nat.zero_le _) (by omega)
end
section
def ctM (ic : Nat → Int32) : Nat := fa_cnt (fun k => decide (¬ ic k = 0)) 108
theorem ct_ups {ic : Nat → Int32} {c : Nat} (h : ic c = 0) : ∀ n, (n ≤ c → fa_cnt (fun k => decide (¬ upd ic c 1 k = 0)) n = fa_cnt (fun k => decide (¬ ic k = 0)) n) ∧ (c < n → fa_cnt (fun k => decide (¬ upd ic c 1 k = 0)) n = fa_cnt (fun k => decide (¬ ic k = 0)) n + 1)
  | 0 => ⟨fun _ => rfl, fun q => absurd q (by omega)⟩
  | n + 1 => by
    have ih := ct_ups h n
    refine ⟨fun q => ?_, fun q => ?_⟩
    · have e : upd ic c 1 n = ic n := if_neg (by omega)
      rw [fa_cnt, fa_cnt, ih.1 (by omega), e]
    · by_cases hn : n = c
      · subst hn
        have e : upd ic n 1 n = 1 := if_pos rfl
        rw [fa_cnt_no (p := fun k => decide (¬ ic k = 0)) (decide_eq_false (fun q => q h)), fa_cnt_yes (p := fun k => decide (¬ upd ic n 1 k = 0)) (decide_eq_true (by rw [e]; decide)), ih.1 (Nat.le_refl _)]
      · have e : upd ic c 1 n = ic n := if_neg hn
        have ih2 := ih.2 (by omega)
        rw [fa_cnt, fa_cnt, e]
        omega
theorem ct_up {ic : Nat → Int32} {c : Nat} (hc : c < 108) (h : ic c = 0) : ctM (upd ic c 1) = ctM ic + 1 := (ct_ups h 108).2 hc
theorem ctm_le (ic : Nat → Int32) : ctM ic ≤ 108 := fa_cnt_le _ 108
theorem ct_pos {ic : Nat → Int32} {c : Nat} (h : ¬ ic c = 0) : ∀ n, c < n → 1 ≤ fa_cnt (fun k => decide (¬ ic k = 0)) n
  | 0, q => absurd q (by omega)
  | n + 1, q => by
    by_cases hn : n = c
    · subst hn
      rw [fa_cnt_yes (p := fun k => decide (¬ ic k = 0)) (decide_eq_true h)]
      omega
    · have ih := ct_pos h n (by omega)
      rw [fa_cnt]
      omega
def qI (ic : Nat → Int32) (qn : Nat → Nat) (e : Nat) : Prop := (∀ k, k < e → qn k < 108) ∧ e ≤ ctM ic
theorem qI_le {ic : Nat → Int32} {qn : Nat → Nat} {e : Nat} (h : qI ic qn e) : e ≤ 108 := Nat.le_trans h.2 (ctm_le ic)
theorem qI_lt {ic : Nat → Int32} {qn : Nat → Nat} {e c : Nat} (h : qI ic qn e) (hc : c < 108) (h0 : ic c = 0) : e < 108 := by
  have h1 := ct_up hc h0
  have h2 := ctm_le (upd ic c 1)
  have h3 := h.2
  omega
theorem qI_up {ic : Nat → Int32} {qn : Nat → Nat} {e c : Nat} (h : qI ic qn e) (hc : c < 108) (h0 : ic c = 0) : qI (upd ic c 1) (updN qn e c) (e + 1) := by
  refine ⟨fun k hk => ?_, by have h1 := ct_up hc h0; have := h.2; omega⟩
  unfold updN
  split
  · exact hc
  · exact h.1 k (by omega)
theorem qI_1 {ic : Nat → Int32} {qn : Nat → Nat} {c : Nat} (hc : c < 108) : qI (upd ic c 1) (updN qn 0 c) 1 := by
  refine ⟨fun k hk => ?_, ct_pos (c := c) (by have e : upd ic c 1 c = 1 := if_pos rfl; rw [e]; decide) 108 hc⟩
  unfold updN
  rw [if_pos (by omega)]
  exact hc
abbrev M_Mm_hasWay : zM := (⟨"IronpourModel", "hasWay", "(I)Z"⟩, prog_14_method_39_code, 7, (Option.some FieldType.boolean), 4, 86, [])
theorem d_Mm_hasWay_65 : decode prog_14_method_39_code 65 = .ok (.iload 4, 2) := zo_21 (d := 4) (zd_b zq_prog_14_method_39_code_2 1 rfl rfl rfl) (zd_b zq_prog_14_method_39_code_2 2 rfl rfl rfl)
theorem d_Mm_hasWay_67 : decode prog_14_method_39_code 67 = .ok (.iconst 4, 1) := zo_7 (zd_b zq_prog_14_method_39_code_2 3 rfl rfl rfl)
theorem d_Mm_hasWay_68 : decode prog_14_method_39_code 68 = .ok (.if_icmp .ge 114, 3) := zo_162 (d := 0) (e := 114) (zd_b zq_prog_14_method_39_code_2 4 rfl rfl rfl) (zd_b zq_prog_14_method_39_code_2 5 rfl rfl rfl) (zd_b zq_prog_14_method_39_code_2 6 rfl rfl rfl) (by decide +kernel)
theorem d_Mm_hasWay_71 : decode prog_14_method_39_code 71 = .ok (.aload_n 0, 1) := zo_42 (zd_b zq_prog_14_method_39_code_2 7 rfl rfl rfl)
theorem d_Mm_hasWay_72 : decode prog_14_method_39_code 72 = .ok (.getfield 37, 3) := zo_180 (d := 0) (e := 37) (zd_b zq_prog_14_method_39_code_2 8 rfl rfl rfl) (zd_b zq_prog_14_method_39_code_2 9 rfl rfl rfl) (zd_b zq_prog_14_method_39_code_2 10 rfl rfl rfl)
theorem fs_Mm_37 : z_fs "IronpourModel" 37 12 9 := ⟨R_Mm, "IronpourModel", F_Mm, 31, rfl, u_Mm, by decide, Or.inl ⟨z_mj7 (i := 92) rfl (by decide +kernel), Or.inl rfl⟩⟩
theorem d_Mm_hasWay_75 : decode prog_14_method_39_code 75 = .ok (.iload_n 3, 1) := zo_29 (zd_b zq_prog_14_method_39_code_2 11 rfl rfl rfl)
theorem d_Mm_hasWay_76 : decode prog_14_method_39_code 76 = .ok (.iaload, 1) := zo_46 (zd_b zq_prog_14_method_39_code_2 12 rfl rfl rfl)
theorem d_Mm_hasWay_77 : decode prog_14_method_39_code 77 = .ok (.iload 4, 2) := zo_21 (d := 4) (zd_b zq_prog_14_method_39_code_2 13 rfl rfl rfl) (zd_b zq_prog_14_method_39_code_2 14 rfl rfl rfl)
theorem d_Mm_hasWay_79 : decode prog_14_method_39_code 79 = .ok (.invokestatic 119, 3) := zo_184 (d := 0) (e := 119) (zd_b zq_prog_14_method_39_code_2 15 rfl rfl rfl) (zd_b zq_prog_14_method_39_code_2 16 rfl rfl rfl) (zd_b zq_prog_14_method_39_code_2 17 rfl rfl rfl)
theorem ok_Mm_hasWay_Mm_beside : z_ok M_Mm_hasWay M_Mm_beside 2 := ⟨z_mj7 (i := 229) rfl (by decide +kernel), rfl, ⟨by decide +kernel, by decide +kernel, by decide +kernel⟩, ⟨by decide, by decide⟩, z_mj1 (i := 14) rfl (by decide +kernel), rfl⟩
theorem d_Mm_hasWay_82 : decode prog_14_method_39_code 82 = .ok (.istore 5, 2) := zo_54 (d := 5) (zd_b zq_prog_14_method_39_code_2 18 rfl rfl rfl) (zd_b zq_prog_14_method_39_code_2 19 rfl rfl rfl)
theorem d_Mm_hasWay_84 : decode prog_14_method_39_code 84 = .ok (.iload 5, 2) := zo_21 (d := 5) (zd_b zq_prog_14_method_39_code_2 20 rfl rfl rfl) (zd_b zq_prog_14_method_39_code_2 21 rfl rfl rfl)
theorem d_Mm_hasWay_86 : decode prog_14_method_39_code 86 = .ok (.iconst (-1), 1) := zo_2 (zd_b zq_prog_14_method_39_code_2 22 rfl rfl rfl)
theorem d_Mm_hasWay_87 : decode prog_14_method_39_code 87 = .ok (.if_icmp .eq 62, 3) := zo_159 (d := 0) (e := 62) (zd_b zq_prog_14_method_39_code_2 23 rfl rfl rfl) (zd_b zq_prog_14_method_39_code_2 24 rfl rfl rfl) (zd_b zq_prog_14_method_39_code_2 25 rfl rfl rfl) (by decide +kernel)
theorem d_Mm_hasWay_149 : decode prog_14_method_39_code 149 = .ok (.iconst 0, 1) := zo_3 (zd_b zq_prog_14_method_39_code_4 21 rfl rfl rfl)
theorem d_Mm_hasWay_150 : decode prog_14_method_39_code 150 = .ok (.istore 6, 2) := zo_54 (d := 6) (zd_b zq_prog_14_method_39_code_4 22 rfl rfl rfl) (zd_b zq_prog_14_method_39_code_4 23 rfl rfl rfl)
theorem d_Mm_hasWay_152 : decode prog_14_method_39_code 152 = .ok (.iload 6, 2) := zo_21 (d := 6) (zd_b zq_prog_14_method_39_code_4 24 rfl rfl rfl) (zd_b zq_prog_14_method_39_code_4 25 rfl rfl rfl)
theorem d_Mm_hasWay_154 : decode prog_14_method_39_code 154 = .ok (.ifCond .eq 22, 3) := zo_153 (d := 0) (e := 22) (zd_b zq_prog_14_method_39_code_4 26 rfl rfl rfl) (zd_b zq_prog_14_method_39_code_4 27 rfl rfl rfl) (zd_b zq_prog_14_method_39_code_4 28 rfl rfl rfl) (by decide +kernel)
theorem d_Mm_hasWay_176 : decode prog_14_method_39_code 176 = .ok (.iinc 4 1, 3) := by decide +kernel
theorem d_Mm_hasWay_179 : decode prog_14_method_39_code 179 = .ok (.goto (-114), 3) := zo_167 (d := 255) (e := 142) (zd_b zq_prog_14_method_39_code_5 19 rfl rfl rfl) (zd_b zq_prog_14_method_39_code_5 20 rfl rfl rfl) (zd_b zq_prog_14_method_39_code_5 21 rfl rfl rfl) (by decide +kernel)
theorem d_Mm_hasWay_90 : decode prog_14_method_39_code 90 = .ok (.aload_n 0, 1) := zo_42 (zd_b zq_prog_14_method_39_code_2 26 rfl rfl rfl)
theorem d_Mm_hasWay_91 : decode prog_14_method_39_code 91 = .ok (.getfield 7, 3) := zo_180 (d := 0) (e := 7) (zd_b zq_prog_14_method_39_code_2 27 rfl rfl rfl) (zd_b zq_prog_14_method_39_code_2 28 rfl rfl rfl) (zd_b zq_prog_14_method_39_code_2 29 rfl rfl rfl)
theorem d_Mm_hasWay_94 : decode prog_14_method_39_code 94 = .ok (.iload 5, 2) := zo_21 (d := 5) (zd_b zq_prog_14_method_39_code_2 30 rfl rfl rfl) (zd_b zq_prog_14_method_39_code_2 31 rfl rfl rfl)
theorem d_Mm_hasWay_96 : decode prog_14_method_39_code 96 = .ok (.caload, 1) := zo_52 (zd_b zq_prog_14_method_39_code_3 0 rfl rfl rfl)
theorem d_Mm_hasWay_97 : decode prog_14_method_39_code 97 = .ok (.invokestatic 107, 3) := zo_184 (d := 0) (e := 107) (zd_b zq_prog_14_method_39_code_3 1 rfl rfl rfl) (zd_b zq_prog_14_method_39_code_3 2 rfl rfl rfl) (zd_b zq_prog_14_method_39_code_3 3 rfl rfl rfl)
theorem ok_Mm_hasWay_Mm_isMetal : z_ok M_Mm_hasWay M_Mm_isMetal 1 := ⟨z_mj7 (i := 214) rfl (by decide +kernel), rfl, ⟨by decide +kernel, by decide +kernel, by decide +kernel⟩, ⟨by decide, by decide⟩, z_mj1 (i := 14) rfl (by decide +kernel), rfl⟩
theorem d_Mm_hasWay_100 : decode prog_14_method_39_code 100 = .ok (.ifCond .eq 49, 3) := zo_153 (d := 0) (e := 49) (zd_b zq_prog_14_method_39_code_3 4 rfl rfl rfl) (zd_b zq_prog_14_method_39_code_3 5 rfl rfl rfl) (zd_b zq_prog_14_method_39_code_3 6 rfl rfl rfl) (by decide +kernel)
theorem d_Mm_hasWay_103 : decode prog_14_method_39_code 103 = .ok (.aload_n 0, 1) := zo_42 (zd_b zq_prog_14_method_39_code_3 7 rfl rfl rfl)
theorem d_Mm_hasWay_104 : decode prog_14_method_39_code 104 = .ok (.getfield 17, 3) := zo_180 (d := 0) (e := 17) (zd_b zq_prog_14_method_39_code_3 8 rfl rfl rfl) (zd_b zq_prog_14_method_39_code_3 9 rfl rfl rfl) (zd_b zq_prog_14_method_39_code_3 10 rfl rfl rfl)
theorem d_Mm_hasWay_107 : decode prog_14_method_39_code 107 = .ok (.iload 5, 2) := zo_21 (d := 5) (zd_b zq_prog_14_method_39_code_3 11 rfl rfl rfl) (zd_b zq_prog_14_method_39_code_3 12 rfl rfl rfl)
theorem d_Mm_hasWay_109 : decode prog_14_method_39_code 109 = .ok (.iaload, 1) := zo_46 (zd_b zq_prog_14_method_39_code_3 13 rfl rfl rfl)
theorem d_Mm_hasWay_110 : decode prog_14_method_39_code 110 = .ok (.iconst (-1), 1) := zo_2 (zd_b zq_prog_14_method_39_code_3 14 rfl rfl rfl)
theorem d_Mm_hasWay_111 : decode prog_14_method_39_code 111 = .ok (.if_icmp .eq 38, 3) := zo_159 (d := 0) (e := 38) (zd_b zq_prog_14_method_39_code_3 15 rfl rfl rfl) (zd_b zq_prog_14_method_39_code_3 16 rfl rfl rfl) (zd_b zq_prog_14_method_39_code_3 17 rfl rfl rfl) (by decide +kernel)
theorem d_Mm_hasWay_114 : decode prog_14_method_39_code 114 = .ok (.aload_n 0, 1) := zo_42 (zd_b zq_prog_14_method_39_code_3 18 rfl rfl rfl)
theorem d_Mm_hasWay_115 : decode prog_14_method_39_code 115 = .ok (.getfield 33, 3) := zo_180 (d := 0) (e := 33) (zd_b zq_prog_14_method_39_code_3 19 rfl rfl rfl) (zd_b zq_prog_14_method_39_code_3 20 rfl rfl rfl) (zd_b zq_prog_14_method_39_code_3 21 rfl rfl rfl)
theorem d_Mm_hasWay_118 : decode prog_14_method_39_code 118 = .ok (.iload 5, 2) := zo_21 (d := 5) (zd_b zq_prog_14_method_39_code_3 22 rfl rfl rfl) (zd_b zq_prog_14_method_39_code_3 23 rfl rfl rfl)
theorem d_Mm_hasWay_120 : decode prog_14_method_39_code 120 = .ok (.baload, 1) := zo_51 (zd_b zq_prog_14_method_39_code_3 24 rfl rfl rfl)
theorem d_Mm_hasWay_121 : decode prog_14_method_39_code 121 = .ok (.ifCond .ne 28, 3) := zo_154 (d := 0) (e := 28) (zd_b zq_prog_14_method_39_code_3 25 rfl rfl rfl) (zd_b zq_prog_14_method_39_code_3 26 rfl rfl rfl) (zd_b zq_prog_14_method_39_code_3 27 rfl rfl rfl) (by decide +kernel)
theorem d_Mm_hasWay_124 : decode prog_14_method_39_code 124 = .ok (.aload_n 0, 1) := zo_42 (zd_b zq_prog_14_method_39_code_3 28 rfl rfl rfl)
theorem d_Mm_hasWay_125 : decode prog_14_method_39_code 125 = .ok (.getfield 30, 3) := zo_180 (d := 0) (e := 30) (zd_b zq_prog_14_method_39_code_3 29 rfl rfl rfl) (zd_b zq_prog_14_method_39_code_3 30 rfl rfl rfl) (zd_b zq_prog_14_method_39_code_3 31 rfl rfl rfl)
theorem d_Mm_hasWay_128 : decode prog_14_method_39_code 128 = .ok (.iload 5, 2) := zo_21 (d := 5) (zd_b zq_prog_14_method_39_code_4 0 rfl rfl rfl) (zd_b zq_prog_14_method_39_code_4 1 rfl rfl rfl)
theorem d_Mm_hasWay_130 : decode prog_14_method_39_code 130 = .ok (.iaload, 1) := zo_46 (zd_b zq_prog_14_method_39_code_4 2 rfl rfl rfl)
theorem d_Mm_hasWay_131 : decode prog_14_method_39_code 131 = .ok (.aload_n 0, 1) := zo_42 (zd_b zq_prog_14_method_39_code_4 3 rfl rfl rfl)
theorem d_Mm_hasWay_132 : decode prog_14_method_39_code 132 = .ok (.getfield 30, 3) := zo_180 (d := 0) (e := 30) (zd_b zq_prog_14_method_39_code_4 4 rfl rfl rfl) (zd_b zq_prog_14_method_39_code_4 5 rfl rfl rfl) (zd_b zq_prog_14_method_39_code_4 6 rfl rfl rfl)
theorem d_Mm_hasWay_135 : decode prog_14_method_39_code 135 = .ok (.aload_n 0, 1) := zo_42 (zd_b zq_prog_14_method_39_code_4 7 rfl rfl rfl)
theorem d_Mm_hasWay_136 : decode prog_14_method_39_code 136 = .ok (.getfield 37, 3) := zo_180 (d := 0) (e := 37) (zd_b zq_prog_14_method_39_code_4 8 rfl rfl rfl) (zd_b zq_prog_14_method_39_code_4 9 rfl rfl rfl) (zd_b zq_prog_14_method_39_code_4 10 rfl rfl rfl)
theorem d_Mm_hasWay_139 : decode prog_14_method_39_code 139 = .ok (.iload_n 3, 1) := zo_29 (zd_b zq_prog_14_method_39_code_4 11 rfl rfl rfl)
theorem d_Mm_hasWay_140 : decode prog_14_method_39_code 140 = .ok (.iaload, 1) := zo_46 (zd_b zq_prog_14_method_39_code_4 12 rfl rfl rfl)
theorem d_Mm_hasWay_141 : decode prog_14_method_39_code 141 = .ok (.iaload, 1) := zo_46 (zd_b zq_prog_14_method_39_code_4 13 rfl rfl rfl)
theorem d_Mm_hasWay_142 : decode prog_14_method_39_code 142 = .ok (.if_icmp .lt 7, 3) := zo_161 (d := 0) (e := 7) (zd_b zq_prog_14_method_39_code_4 14 rfl rfl rfl) (zd_b zq_prog_14_method_39_code_4 15 rfl rfl rfl) (zd_b zq_prog_14_method_39_code_4 16 rfl rfl rfl) (by decide +kernel)
theorem d_Mm_hasWay_145 : decode prog_14_method_39_code 145 = .ok (.iconst 1, 1) := zo_4 (zd_b zq_prog_14_method_39_code_4 17 rfl rfl rfl)
theorem d_Mm_hasWay_146 : decode prog_14_method_39_code 146 = .ok (.goto 4, 3) := zo_167 (d := 0) (e := 4) (zd_b zq_prog_14_method_39_code_4 18 rfl rfl rfl) (zd_b zq_prog_14_method_39_code_4 19 rfl rfl rfl) (zd_b zq_prog_14_method_39_code_4 20 rfl rfl rfl) (by decide +kernel)
theorem d_Mm_hasWay_157 : decode prog_14_method_39_code 157 = .ok (.aload_n 0, 1) := zo_42 (zd_b zq_prog_14_method_39_code_4 29 rfl rfl rfl)
theorem d_Mm_hasWay_158 : decode prog_14_method_39_code 158 = .ok (.getfield 33, 3) := zo_180 (d := 0) (e := 33) (zd_b zq_prog_14_method_39_code_4 30 rfl rfl rfl) (zd_b zq_prog_14_method_39_code_4 31 rfl rfl rfl) (zd_b zq_prog_14_method_39_code_5 0 rfl rfl rfl)
theorem d_Mm_hasWay_161 : decode prog_14_method_39_code 161 = .ok (.iload 5, 2) := zo_21 (d := 5) (zd_b zq_prog_14_method_39_code_5 1 rfl rfl rfl) (zd_b zq_prog_14_method_39_code_5 2 rfl rfl rfl)
theorem d_Mm_hasWay_163 : decode prog_14_method_39_code 163 = .ok (.iconst 1, 1) := zo_4 (zd_b zq_prog_14_method_39_code_5 3 rfl rfl rfl)
theorem d_Mm_hasWay_164 : decode prog_14_method_39_code 164 = .ok (.bastore, 1) := zo_84 (zd_b zq_prog_14_method_39_code_5 4 rfl rfl rfl)
theorem d_Mm_hasWay_165 : decode prog_14_method_39_code 165 = .ok (.aload_n 0, 1) := zo_42 (zd_b zq_prog_14_method_39_code_5 5 rfl rfl rfl)
theorem d_Mm_hasWay_166 : decode prog_14_method_39_code 166 = .ok (.getfield 37, 3) := zo_180 (d := 0) (e := 37) (zd_b zq_prog_14_method_39_code_5 6 rfl rfl rfl) (zd_b zq_prog_14_method_39_code_5 7 rfl rfl rfl) (zd_b zq_prog_14_method_39_code_5 8 rfl rfl rfl)
theorem d_Mm_hasWay_169 : decode prog_14_method_39_code 169 = .ok (.iload_n 2, 1) := zo_28 (zd_b zq_prog_14_method_39_code_5 9 rfl rfl rfl)
theorem d_Mm_hasWay_170 : decode prog_14_method_39_code 170 = .ok (.iload 5, 2) := zo_21 (d := 5) (zd_b zq_prog_14_method_39_code_5 10 rfl rfl rfl) (zd_b zq_prog_14_method_39_code_5 11 rfl rfl rfl)
theorem d_Mm_hasWay_172 : decode prog_14_method_39_code 172 = .ok (.iastore, 1) := zo_79 (zd_b zq_prog_14_method_39_code_5 12 rfl rfl rfl)
theorem d_Mm_hasWay_173 : decode prog_14_method_39_code 173 = .ok (.iinc 2 1, 3) := by decide +kernel
theorem d_Mm_hasWay_39 : decode prog_14_method_39_code 39 = .ok (.iload_n 3, 1) := zo_29 (zd_b zq_prog_14_method_39_code_1 7 rfl rfl rfl)
theorem d_Mm_hasWay_40 : decode prog_14_method_39_code 40 = .ok (.iload_n 2, 1) := zo_28 (zd_b zq_prog_14_method_39_code_1 8 rfl rfl rfl)
theorem d_Mm_hasWay_41 : decode prog_14_method_39_code 41 = .ok (.if_icmp .ge 147, 3) := zo_162 (d := 0) (e := 147) (zd_b zq_prog_14_method_39_code_1 9 rfl rfl rfl) (zd_b zq_prog_14_method_39_code_1 10 rfl rfl rfl) (zd_b zq_prog_14_method_39_code_1 11 rfl rfl rfl) (by decide +kernel)
theorem d_Mm_hasWay_188 : decode prog_14_method_39_code 188 = .ok (.iconst 0, 1) := zo_3 (zd_b zq_prog_14_method_39_code_5 28 rfl rfl rfl)
theorem d_Mm_hasWay_189 : decode prog_14_method_39_code 189 = .ok (.ireturn, 1) := zo_172 (zd_b zq_prog_14_method_39_code_5 29 rfl rfl rfl)
theorem d_Mm_hasWay_44 : decode prog_14_method_39_code 44 = .ok (.aload_n 0, 1) := zo_42 (zd_b zq_prog_14_method_39_code_1 12 rfl rfl rfl)
theorem d_Mm_hasWay_45 : decode prog_14_method_39_code 45 = .ok (.getfield 7, 3) := zo_180 (d := 0) (e := 7) (zd_b zq_prog_14_method_39_code_1 13 rfl rfl rfl) (zd_b zq_prog_14_method_39_code_1 14 rfl rfl rfl) (zd_b zq_prog_14_method_39_code_1 15 rfl rfl rfl)
theorem d_Mm_hasWay_48 : decode prog_14_method_39_code 48 = .ok (.aload_n 0, 1) := zo_42 (zd_b zq_prog_14_method_39_code_1 16 rfl rfl rfl)
theorem d_Mm_hasWay_49 : decode prog_14_method_39_code 49 = .ok (.getfield 37, 3) := zo_180 (d := 0) (e := 37) (zd_b zq_prog_14_method_39_code_1 17 rfl rfl rfl) (zd_b zq_prog_14_method_39_code_1 18 rfl rfl rfl) (zd_b zq_prog_14_method_39_code_1 19 rfl rfl rfl)
theorem d_Mm_hasWay_52 : decode prog_14_method_39_code 52 = .ok (.iload_n 3, 1) := zo_29 (zd_b zq_prog_14_method_39_code_1 20 rfl rfl rfl)
theorem d_Mm_hasWay_53 : decode prog_14_method_39_code 53 = .ok (.iaload, 1) := zo_46 (zd_b zq_prog_14_method_39_code_1 21 rfl rfl rfl)
theorem d_Mm_hasWay_54 : decode prog_14_method_39_code 54 = .ok (.caload, 1) := zo_52 (zd_b zq_prog_14_method_39_code_1 22 rfl rfl rfl)
theorem d_Mm_hasWay_55 : decode prog_14_method_39_code 55 = .ok (.bipush 114, 2) := zo_16 (d := 114) (zd_b zq_prog_14_method_39_code_1 23 rfl rfl rfl) (zd_b zq_prog_14_method_39_code_1 24 rfl rfl rfl) (by decide +kernel)
theorem d_Mm_hasWay_57 : decode prog_14_method_39_code 57 = .ok (.if_icmp .ne 5, 3) := zo_160 (d := 0) (e := 5) (zd_b zq_prog_14_method_39_code_1 25 rfl rfl rfl) (zd_b zq_prog_14_method_39_code_1 26 rfl rfl rfl) (zd_b zq_prog_14_method_39_code_1 27 rfl rfl rfl) (by decide +kernel)
theorem d_Mm_hasWay_62 : decode prog_14_method_39_code 62 = .ok (.iconst 0, 1) := zo_3 (zd_b zq_prog_14_method_39_code_1 30 rfl rfl rfl)
theorem d_Mm_hasWay_63 : decode prog_14_method_39_code 63 = .ok (.istore 4, 2) := zo_54 (d := 4) (zd_b zq_prog_14_method_39_code_1 31 rfl rfl rfl) (zd_b zq_prog_14_method_39_code_2 0 rfl rfl rfl)
theorem d_Mm_hasWay_182 : decode prog_14_method_39_code 182 = .ok (.iinc 3 1, 3) := by decide +kernel
theorem d_Mm_hasWay_185 : decode prog_14_method_39_code 185 = .ok (.goto (-146), 3) := zo_167 (d := 255) (e := 110) (zd_b zq_prog_14_method_39_code_5 25 rfl rfl rfl) (zd_b zq_prog_14_method_39_code_5 26 rfl rfl rfl) (zd_b zq_prog_14_method_39_code_5 27 rfl rfl rfl) (by decide +kernel)
theorem d_Mm_hasWay_60 : decode prog_14_method_39_code 60 = .ok (.iconst 1, 1) := zo_4 (zd_b zq_prog_14_method_39_code_1 28 rfl rfl rfl)
theorem d_Mm_hasWay_61 : decode prog_14_method_39_code 61 = .ok (.ireturn, 1) := zo_172 (zd_b zq_prog_14_method_39_code_1 29 rfl rfl rfl)
theorem d_Mm_hasWay_2 : decode prog_14_method_39_code 2 = .ok (.iload_n 2, 1) := zo_28 (zd_b zq_prog_14_method_39_code_0 2 rfl rfl rfl)
theorem d_Mm_hasWay_3 : decode prog_14_method_39_code 3 = .ok (.bipush 108, 2) := zo_16 (d := 108) (zd_b zq_prog_14_method_39_code_0 3 rfl rfl rfl) (zd_b zq_prog_14_method_39_code_0 4 rfl rfl rfl) (by decide +kernel)
theorem d_Mm_hasWay_5 : decode prog_14_method_39_code 5 = .ok (.if_icmp .ge 16, 3) := zo_162 (d := 0) (e := 16) (zd_b zq_prog_14_method_39_code_0 5 rfl rfl rfl) (zd_b zq_prog_14_method_39_code_0 6 rfl rfl rfl) (zd_b zq_prog_14_method_39_code_0 7 rfl rfl rfl) (by decide +kernel)
theorem d_Mm_hasWay_21 : decode prog_14_method_39_code 21 = .ok (.aload_n 0, 1) := zo_42 (zd_b zq_prog_14_method_39_code_0 21 rfl rfl rfl)
theorem d_Mm_hasWay_22 : decode prog_14_method_39_code 22 = .ok (.getfield 33, 3) := zo_180 (d := 0) (e := 33) (zd_b zq_prog_14_method_39_code_0 22 rfl rfl rfl) (zd_b zq_prog_14_method_39_code_0 23 rfl rfl rfl) (zd_b zq_prog_14_method_39_code_0 24 rfl rfl rfl)
theorem d_Mm_hasWay_25 : decode prog_14_method_39_code 25 = .ok (.iload_n 1, 1) := zo_27 (zd_b zq_prog_14_method_39_code_0 25 rfl rfl rfl)
theorem d_Mm_hasWay_26 : decode prog_14_method_39_code 26 = .ok (.iconst 1, 1) := zo_4 (zd_b zq_prog_14_method_39_code_0 26 rfl rfl rfl)
theorem d_Mm_hasWay_27 : decode prog_14_method_39_code 27 = .ok (.bastore, 1) := zo_84 (zd_b zq_prog_14_method_39_code_0 27 rfl rfl rfl)
theorem d_Mm_hasWay_28 : decode prog_14_method_39_code 28 = .ok (.aload_n 0, 1) := zo_42 (zd_b zq_prog_14_method_39_code_0 28 rfl rfl rfl)
theorem d_Mm_hasWay_29 : decode prog_14_method_39_code 29 = .ok (.getfield 37, 3) := zo_180 (d := 0) (e := 37) (zd_b zq_prog_14_method_39_code_0 29 rfl rfl rfl) (zd_b zq_prog_14_method_39_code_0 30 rfl rfl rfl) (zd_b zq_prog_14_method_39_code_0 31 rfl rfl rfl)
theorem d_Mm_hasWay_32 : decode prog_14_method_39_code 32 = .ok (.iconst 0, 1) := zo_3 (zd_b zq_prog_14_method_39_code_1 0 rfl rfl rfl)
theorem d_Mm_hasWay_33 : decode prog_14_method_39_code 33 = .ok (.iload_n 1, 1) := zo_27 (zd_b zq_prog_14_method_39_code_1 1 rfl rfl rfl)
theorem d_Mm_hasWay_34 : decode prog_14_method_39_code 34 = .ok (.iastore, 1) := zo_79 (zd_b zq_prog_14_method_39_code_1 2 rfl rfl rfl)
theorem d_Mm_hasWay_35 : decode prog_14_method_39_code 35 = .ok (.iconst 1, 1) := zo_4 (zd_b zq_prog_14_method_39_code_1 3 rfl rfl rfl)
theorem d_Mm_hasWay_36 : decode prog_14_method_39_code 36 = .ok (.istore_n 2, 1) := zo_61 (zd_b zq_prog_14_method_39_code_1 4 rfl rfl rfl)
theorem d_Mm_hasWay_37 : decode prog_14_method_39_code 37 = .ok (.iconst 0, 1) := zo_3 (zd_b zq_prog_14_method_39_code_1 5 rfl rfl rfl)
theorem d_Mm_hasWay_38 : decode prog_14_method_39_code 38 = .ok (.istore_n 3, 1) := zo_62 (zd_b zq_prog_14_method_39_code_1 6 rfl rfl rfl)
theorem d_Mm_hasWay_8 : decode prog_14_method_39_code 8 = .ok (.aload_n 0, 1) := zo_42 (zd_b zq_prog_14_method_39_code_0 8 rfl rfl rfl)
theorem d_Mm_hasWay_9 : decode prog_14_method_39_code 9 = .ok (.getfield 33, 3) := zo_180 (d := 0) (e := 33) (zd_b zq_prog_14_method_39_code_0 9 rfl rfl rfl) (zd_b zq_prog_14_method_39_code_0 10 rfl rfl rfl) (zd_b zq_prog_14_method_39_code_0 11 rfl rfl rfl)
theorem d_Mm_hasWay_12 : decode prog_14_method_39_code 12 = .ok (.iload_n 2, 1) := zo_28 (zd_b zq_prog_14_method_39_code_0 12 rfl rfl rfl)
theorem d_Mm_hasWay_13 : decode prog_14_method_39_code 13 = .ok (.iconst 0, 1) := zo_3 (zd_b zq_prog_14_method_39_code_0 13 rfl rfl rfl)
theorem d_Mm_hasWay_14 : decode prog_14_method_39_code 14 = .ok (.bastore, 1) := zo_84 (zd_b zq_prog_14_method_39_code_0 14 rfl rfl rfl)
theorem d_Mm_hasWay_15 : decode prog_14_method_39_code 15 = .ok (.iinc 2 1, 3) := by decide +kernel
theorem d_Mm_hasWay_18 : decode prog_14_method_39_code 18 = .ok (.goto (-16), 3) := zo_167 (d := 255) (e := 240) (zd_b zq_prog_14_method_39_code_0 18 rfl rfl rfl) (zd_b zq_prog_14_method_39_code_0 19 rfl rfl rfl) (zd_b zq_prog_14_method_39_code_0 20 rfl rfl rfl) (by decide +kernel)
theorem d_Mm_hasWay_0 : decode prog_14_method_39_code 0 = .ok (.iconst 0, 1) := zo_3 (zd_b zq_prog_14_method_39_code_0 0 rfl rfl rfl)
theorem d_Mm_hasWay_1 : decode prog_14_method_39_code 1 = .ok (.istore_n 2, 1) := zo_61 (zd_b zq_prog_14_method_39_code_0 1 rfl rfl rfl)
set_option maxHeartbeats 4000000 in
set_option maxRecDepth 100000 in
theorem L_Mm_hasWayW_65 (g : zG) (m mp mf mh mn mt mz mc_ mq mgr ml mi mr mm mu mk mx : Nat) (th pt cl wa co_ fi bu ho lh mg wd fpi fal : Int32) (po de : Int64) (f fl fz ic : Nat → Int32) (qn : Nat → Nat) (c : Nat) (hc : c < 108) (w0 : zW) (n : Nat) (j : Nat) (K : ∀ (ic : Nat → Int32) (qn : Nat → Nat) (e : Nat), qI ic qn e → j < e → DV g M_Mm_hasWay (fun o cs1 => ∃ (v9 : Int32) (ic9 : Nat → Int32) (qn9 : Nat → Nat), (v9 = 0 ∨ v9 = 1) ∧ o = .inl (some (.int v9)) ∧ cs1 = [(m, .inr (12, [.int th, .ref mp, .int pt, .ref mf, .ref mh, .ref mn, .ref mt, .ref mz, .ref mc_, .ref mq, .ref mgr, .int cl, .int wa, .int co_, .int fi, .int bu, .int ho, .ref ml, .ref mi, .ref mr, .int lh, .int mg, .int wd, .int fpi, .int fal, .ref mm, .ref mu, .ref mk, .ref mx, .long po, .long de])), (mp, .inl (1, 108, .inl f)), (mf, .inl (0, 108, .inl fl)), (mz, .inl (0, 108, .inl fz)), (mc_, .inl (2, 108, .inl ic9)), (mq, .inl (0, 108, .inl (fun k => nI (qn9 k))))]) w0 n 182 [(3, .int (nI j)), (2, .int (nI e)), (1, .int (nI c)), (0, .ref m)] [] [(m, .inr (12, [.int th, .ref mp, .int pt, .ref mf, .ref mh, .ref mn, .ref mt, .ref mz, .ref mc_, .ref mq, .ref mgr, .int cl, .int wa, .int co_, .int fi, .int bu, .int ho, .ref ml, .ref mi, .ref mr, .int lh, .int mg, .int wd, .int fpi, .int fal, .ref mm, .ref mu, .ref mk, .ref mx, .long po, .long de])), (mp, .inl (1, 108, .inl f)), (mf, .inl (0, 108, .inl fl)), (mz, .inl (0, 108, .inl fz)), (mc_, .inl (2, 108, .inl ic)), (mq, .inl (0, 108, .inl (fun k => nI (qn k))))] 0 0) : ∀ (d i : Nat) (ic : Nat → Int32) (qn : Nat → Nat) (e : Nat), i ≤ 4 → 4 < i + d → qI ic qn e → j < e → DV g M_Mm_hasWay (fun o cs1 => ∃ (v9 : Int32) (ic9 : Nat → Int32) (qn9 : Nat → Nat), (v9 = 0 ∨ v9 = 1) ∧ o = .inl (some (.int v9)) ∧ cs1 = [(m, .inr (12, [.int th, .ref mp, .int pt, .ref mf, .ref mh, .ref mn, .ref mt, .ref mz, .ref mc_, .ref mq, .ref mgr, .int cl, .int wa, .int co_, .int fi, .int bu, .int ho, .ref ml, .ref mi, .ref mr, .int lh, .int mg, .int wd, .int fpi, .int fal, .ref mm, .ref mu, .ref mk, .ref mx, .long po, .long de])), (mp, .inl (1, 108, .inl f)), (mf, .inl (0, 108, .inl fl)), (mz, .inl (0, 108, .inl fz)), (mc_, .inl (2, 108, .inl ic9)), (mq, .inl (0, 108, .inl (fun k => nI (qn9 k))))]) w0 n 65 [(4, .int (nI i)), (3, .int (nI j)), (2, .int (nI e)), (1, .int (nI c)), (0, .ref m)] [] [(m, .inr (12, [.int th, .ref mp, .int pt, .ref mf, .ref mh, .ref mn, .ref mt, .ref mz, .ref mc_, .ref mq, .ref mgr, .int cl, .int wa, .int co_, .int fi, .int bu, .int ho, .ref ml, .ref mi, .ref mr, .int lh, .int mg, .int wd, .int fpi, .int fal, .ref mm, .ref mu, .ref mk, .ref mx, .long po, .long de])), (mp, .inl (1, 108, .inl f)), (mf, .inl (0, 108, .inl fl)), (mz, .inl (0, 108, .inl fz)), (mc_, .inl (2, 108, .inl ic)), (mq, .inl (0, 108, .inl (fun k => nI (qn k))))] 0 0 := by
  intro d
  induction d with
  | zero => intro i ic qn e h1 h2 v1 v2; exact absurd h2 (by omega)
  | succ d ih =>
    intro i ic qn e h1 h2 v1 v2
    refine r_iload d_Mm_hasWay_65 0 rfl ?_
    refine r_iconst d_Mm_hasWay_67 (v := 4) (by decide) ?_
    refine r_icmp_ge (tgt := 182) d_Mm_hasWay_68 (by decide) (fun c_68 => ?_) (fun c_68 => ?_)
    · have hn := z_le (a := 4) (by omega) (by decide) c_68
      obtain rfl : i = 4 := by omega
      refine r_lv (lv' := [(3, .int (nI j)), (2, .int (nI e)), (1, .int (nI c)), (0, .ref m)]) [1, 2, 3, 4] rfl ?_
      exact K _ _ _ v1 v2
    · have he9 := qI_le v1
      have hn := z_nle (a := 4) (by omega) (by decide) c_68
      have hq9 := v1.1 j v2
      refine r_aload_n d_Mm_hasWay_71 rfl 4 rfl ?_
      refine r_get fs_Mm_37 d_Mm_hasWay_72 (q0 := 0) rfl rfl ?_
      refine r_iload_n d_Mm_hasWay_75 rfl 1 rfl ?_
      refine r_iald d_Mm_hasWay_76 (q0 := 5) rfl (vp_in_nI (by omega) (by omega)) (v := nI (qn j)) (by rw [nI_clamp (by omega)]) ?_
      refine r_iload d_Mm_hasWay_77 0 rfl ?_
      refine r_callS (As := [.int (nI (qn j)), .int (nI i)]) (rest := []) (csC := []) (is := []) ln_Mm_119 w_st_Mm_beside ok_Mm_hasWay_Mm_beside d_Mm_hasWay_79 (C_Mm_beside g (qn j) i (by omega) (by omega)) rfl rfl (Nat.le_of_ble_eq_true rfl) rfl (by decide) (by omega) (by omega) (fun E cs1 hx => ?_) (fun v cs1 hx => ?_)
      · exact absurd hx.1 (by simp)
      · obtain ⟨e1, rfl⟩ := hx
        cases e1
        refine ⟨rfl, ?_⟩
        refine r_st (st2 := [.int (oI (bs (qn j) i))]) rfl ?_
        refine r_cs (cs2 := [(m, .inr (12, [.int th, .ref mp, .int pt, .ref mf, .ref mh, .ref mn, .ref mt, .ref mz, .ref mc_, .ref mq, .ref mgr, .int cl, .int wa, .int co_, .int fi, .int bu, .int ho, .ref ml, .ref mi, .ref mr, .int lh, .int mg, .int wd, .int fpi, .int fal, .ref mm, .ref mu, .ref mk, .ref mx, .long po, .long de])), (mp, .inl (1, 108, .inl f)), (mf, .inl (0, 108, .inl fl)), (mz, .inl (0, 108, .inl fz)), (mc_, .inl (2, 108, .inl ic)), (mq, .inl (0, 108, .inl (fun k => nI (qn k))))]) rfl ?_
        refine r_istore (lv' := [(5, .int (oI (bs (qn j) i))), (4, .int (nI i)), (3, .int (nI j)), (2, .int (nI e)), (1, .int (nI c)), (0, .ref m)]) d_Mm_hasWay_82 (by decide) rfl ?_
        refine r_iload d_Mm_hasWay_84 0 rfl ?_
        refine r_iconst d_Mm_hasWay_86 (v := (-1)) (by decide) ?_
        refine r_icmp_eq (tgt := 149) d_Mm_hasWay_87 (by decide) (fun c_87 => ?_) (fun c_87 => ?_)
        · refine r_iconst d_Mm_hasWay_149 (v := 0) (by decide) ?_
          refine r_istore (lv' := [(6, .int 0), (5, .int (oI (bs (qn j) i))), (4, .int (nI i)), (3, .int (nI j)), (2, .int (nI e)), (1, .int (nI c)), (0, .ref m)]) d_Mm_hasWay_150 (by decide) rfl ?_
          refine r_iload d_Mm_hasWay_152 0 rfl ?_
          refine r_if_eq (tgt := 176) d_Mm_hasWay_154 (by decide) (fun c_154 => ?_) (fun c_154 => ?_)
          · refine r_iinc (lv' := [(4, .int (nI (i + 1))), (6, .int 0), (5, .int (oI (bs (qn j) i))), (3, .int (nI j)), (2, .int (nI e)), (1, .int (nI c)), (0, .ref m)]) (v := nI (i + 1)) d_Mm_hasWay_176 (j := 2) rfl (nI_add _ _) (by decide) rfl ?_
            refine r_goto (tgt := 65) d_Mm_hasWay_179 (by decide) ?_
            refine r_lv (lv' := [(4, .int (nI (i + 1))), (3, .int (nI j)), (2, .int (nI e)), (1, .int (nI c)), (0, .ref m)]) [0, 3, 4, 5, 6] rfl ?_
            exact ih (i + 1) _ _ _ (by omega) (by omega) v1 v2
          · exact absurd c_154 (by decide)
        · obtain ⟨oo, ho9⟩ := oI_nm c_87
          have hol := bs_lt hq9 ho9
          rw [ho9, show oI (some oo) = nI oo from rfl]
          refine r_aload_n d_Mm_hasWay_90 rfl 5 rfl ?_
          refine r_get fs_Mm_7 d_Mm_hasWay_91 (q0 := 0) rfl rfl ?_
          refine r_iload d_Mm_hasWay_94 0 rfl ?_
          refine r_cald d_Mm_hasWay_96 (q0 := 1) rfl (vp_in_nI (by omega) (by omega)) (v := f oo) (by rw [nI_clamp (by omega)]) ?_
          refine r_callS (As := [.int (f oo)]) (rest := []) (csC := []) (is := []) ln_Mm_107 w_st_Mm_isMetal ok_Mm_hasWay_Mm_isMetal d_Mm_hasWay_97 (C_Mm_isMetal g (f oo)) rfl rfl (Nat.le_of_ble_eq_true rfl) rfl (by decide) (by omega) (by omega) (fun E cs1 hx => ?_) (fun v cs1 hx => ?_)
          · exact absurd hx.1 (by simp)
          · obtain ⟨e1, rfl⟩ := hx
            cases e1
            refine ⟨rfl, ?_⟩
            refine r_st (st2 := [.int (z_bi (tmB (f oo)))]) rfl ?_
            refine r_cs (cs2 := [(m, .inr (12, [.int th, .ref mp, .int pt, .ref mf, .ref mh, .ref mn, .ref mt, .ref mz, .ref mc_, .ref mq, .ref mgr, .int cl, .int wa, .int co_, .int fi, .int bu, .int ho, .ref ml, .ref mi, .ref mr, .int lh, .int mg, .int wd, .int fpi, .int fal, .ref mm, .ref mu, .ref mk, .ref mx, .long po, .long de])), (mp, .inl (1, 108, .inl f)), (mf, .inl (0, 108, .inl fl)), (mz, .inl (0, 108, .inl fz)), (mc_, .inl (2, 108, .inl ic)), (mq, .inl (0, 108, .inl (fun k => nI (qn k))))]) rfl ?_
            refine r_if_eq (tgt := 149) d_Mm_hasWay_100 (by decide) (fun c_100 => ?_) (fun c_100 => ?_)
            · refine r_iconst d_Mm_hasWay_149 (v := 0) (by decide) ?_
              refine r_istore (lv' := [(6, .int 0), (5, .int (nI oo)), (4, .int (nI i)), (3, .int (nI j)), (2, .int (nI e)), (1, .int (nI c)), (0, .ref m)]) d_Mm_hasWay_150 (by decide) rfl ?_
              refine r_iload d_Mm_hasWay_152 0 rfl ?_
              refine r_if_eq (tgt := 176) d_Mm_hasWay_154 (by decide) (fun c_154 => ?_) (fun c_154 => ?_)
              · refine r_iinc (lv' := [(4, .int (nI (i + 1))), (6, .int 0), (5, .int (nI oo)), (3, .int (nI j)), (2, .int (nI e)), (1, .int (nI c)), (0, .ref m)]) (v := nI (i + 1)) d_Mm_hasWay_176 (j := 2) rfl (nI_add _ _) (by decide) rfl ?_
                refine r_goto (tgt := 65) d_Mm_hasWay_179 (by decide) ?_
                refine r_lv (lv' := [(4, .int (nI (i + 1))), (3, .int (nI j)), (2, .int (nI e)), (1, .int (nI c)), (0, .ref m)]) [0, 3, 4, 5, 6] rfl ?_
                exact ih (i + 1) _ _ _ (by omega) (by omega) v1 v2
              · exact absurd c_154 (by decide)
            · refine r_aload_n d_Mm_hasWay_103 rfl 5 rfl ?_
              refine r_get fs_Mm_17 d_Mm_hasWay_104 (q0 := 0) rfl rfl ?_
              refine r_iload d_Mm_hasWay_107 0 rfl ?_
              refine r_iald d_Mm_hasWay_109 (q0 := 2) rfl (vp_in_nI (by omega) (by omega)) (v := fl oo) (by rw [nI_clamp (by omega)]) ?_
              refine r_iconst d_Mm_hasWay_110 (v := (-1)) (by decide) ?_
              refine r_icmp_eq (tgt := 149) d_Mm_hasWay_111 (by decide) (fun c_111 => ?_) (fun c_111 => ?_)
              · refine r_iconst d_Mm_hasWay_149 (v := 0) (by decide) ?_
                refine r_istore (lv' := [(6, .int 0), (5, .int (nI oo)), (4, .int (nI i)), (3, .int (nI j)), (2, .int (nI e)), (1, .int (nI c)), (0, .ref m)]) d_Mm_hasWay_150 (by decide) rfl ?_
                refine r_iload d_Mm_hasWay_152 0 rfl ?_
                refine r_if_eq (tgt := 176) d_Mm_hasWay_154 (by decide) (fun c_154 => ?_) (fun c_154 => ?_)
                · refine r_iinc (lv' := [(4, .int (nI (i + 1))), (6, .int 0), (5, .int (nI oo)), (3, .int (nI j)), (2, .int (nI e)), (1, .int (nI c)), (0, .ref m)]) (v := nI (i + 1)) d_Mm_hasWay_176 (j := 2) rfl (nI_add _ _) (by decide) rfl ?_
                  refine r_goto (tgt := 65) d_Mm_hasWay_179 (by decide) ?_
                  refine r_lv (lv' := [(4, .int (nI (i + 1))), (3, .int (nI j)), (2, .int (nI e)), (1, .int (nI c)), (0, .ref m)]) [0, 3, 4, 5, 6] rfl ?_
                  exact ih (i + 1) _ _ _ (by omega) (by omega) v1 v2
                · exact absurd c_154 (by decide)
              · refine r_aload_n d_Mm_hasWay_114 rfl 5 rfl ?_
                refine r_get fs_Mm_33 d_Mm_hasWay_115 (q0 := 0) rfl rfl ?_
                refine r_iload d_Mm_hasWay_118 0 rfl ?_
                refine r_zald d_Mm_hasWay_120 (q0 := 4) rfl (vp_in_nI (by omega) (by omega)) (v := ic oo) (by rw [nI_clamp (by omega)]) ?_
                refine r_if_ne (tgt := 149) d_Mm_hasWay_121 (by decide) (fun c_121 => ?_) (fun c_121 => ?_)
                · refine r_iconst d_Mm_hasWay_149 (v := 0) (by decide) ?_
                  refine r_istore (lv' := [(6, .int 0), (5, .int (nI oo)), (4, .int (nI i)), (3, .int (nI j)), (2, .int (nI e)), (1, .int (nI c)), (0, .ref m)]) d_Mm_hasWay_150 (by decide) rfl ?_
                  refine r_iload d_Mm_hasWay_152 0 rfl ?_
                  refine r_if_eq (tgt := 176) d_Mm_hasWay_154 (by decide) (fun c_154 => ?_) (fun c_154 => ?_)
                  · refine r_iinc (lv' := [(4, .int (nI (i + 1))), (6, .int 0), (5, .int (nI oo)), (3, .int (nI j)), (2, .int (nI e)), (1, .int (nI c)), (0, .ref m)]) (v := nI (i + 1)) d_Mm_hasWay_176 (j := 2) rfl (nI_add _ _) (by decide) rfl ?_
                    refine r_goto (tgt := 65) d_Mm_hasWay_179 (by decide) ?_
                    refine r_lv (lv' := [(4, .int (nI (i + 1))), (3, .int (nI j)), (2, .int (nI e)), (1, .int (nI c)), (0, .ref m)]) [0, 3, 4, 5, 6] rfl ?_
                    exact ih (i + 1) _ _ _ (by omega) (by omega) v1 v2
                  · exact absurd c_154 (by decide)
                · have hel := qI_lt v1 hol c_121
                  refine r_aload_n d_Mm_hasWay_124 rfl 5 rfl ?_
                  refine r_get fs_Mm_30 d_Mm_hasWay_125 (q0 := 0) rfl rfl ?_
                  refine r_iload d_Mm_hasWay_128 0 rfl ?_
                  refine r_iald d_Mm_hasWay_130 (q0 := 3) rfl (vp_in_nI (by omega) (by omega)) (v := fz oo) (by rw [nI_clamp (by omega)]) ?_
                  refine r_aload_n d_Mm_hasWay_131 rfl 5 rfl ?_
                  refine r_get fs_Mm_30 d_Mm_hasWay_132 (q0 := 0) rfl rfl ?_
                  refine r_aload_n d_Mm_hasWay_135 rfl 5 rfl ?_
                  refine r_get fs_Mm_37 d_Mm_hasWay_136 (q0 := 0) rfl rfl ?_
                  refine r_iload_n d_Mm_hasWay_139 rfl 2 rfl ?_
                  refine r_iald d_Mm_hasWay_140 (q0 := 5) rfl (vp_in_nI (by omega) (by omega)) (v := nI (qn j)) (by rw [nI_clamp (by omega)]) ?_
                  refine r_iald d_Mm_hasWay_141 (q0 := 3) rfl (vp_in_nI (by omega) (by omega)) (v := fz (qn j)) (by rw [nI_clamp (by omega)]) ?_
                  refine r_icmp_lt (tgt := 149) d_Mm_hasWay_142 (by decide) (fun c_142 => ?_) (fun c_142 => ?_)
                  · refine r_iconst d_Mm_hasWay_149 (v := 0) (by decide) ?_
                    refine r_istore (lv' := [(6, .int 0), (5, .int (nI oo)), (4, .int (nI i)), (3, .int (nI j)), (2, .int (nI e)), (1, .int (nI c)), (0, .ref m)]) d_Mm_hasWay_150 (by decide) rfl ?_
                    refine r_iload d_Mm_hasWay_152 0 rfl ?_
                    refine r_if_eq (tgt := 176) d_Mm_hasWay_154 (by decide) (fun c_154 => ?_) (fun c_154 => ?_)
                    · refine r_iinc (lv' := [(4, .int (nI (i + 1))), (6, .int 0), (5, .int (nI oo)), (3, .int (nI j)), (2, .int (nI e)), (1, .int (nI c)), (0, .ref m)]) (v := nI (i + 1)) d_Mm_hasWay_176 (j := 2) rfl (nI_add _ _) (by decide) rfl ?_
                      refine r_goto (tgt := 65) d_Mm_hasWay_179 (by decide) ?_
                      refine r_lv (lv' := [(4, .int (nI (i + 1))), (3, .int (nI j)), (2, .int (nI e)), (1, .int (nI c)), (0, .ref m)]) [0, 3, 4, 5, 6] rfl ?_
                      exact ih (i + 1) _ _ _ (by omega) (by omega) v1 v2
                    · exact absurd c_154 (by decide)
                  · refine r_iconst d_Mm_hasWay_145 (v := 1) (by decide) ?_
                    refine r_goto (tgt := 150) d_Mm_hasWay_146 (by decide) ?_
                    refine r_istore (lv' := [(6, .int 1), (5, .int (nI oo)), (4, .int (nI i)), (3, .int (nI j)), (2, .int (nI e)), (1, .int (nI c)), (0, .ref m)]) d_Mm_hasWay_150 (by decide) rfl ?_
                    refine r_iload d_Mm_hasWay_152 0 rfl ?_
                    refine r_if_eq (tgt := 176) d_Mm_hasWay_154 (by decide) (fun c_154 => ?_) (fun c_154 => ?_)
                    · exact absurd c_154 (by decide)
                    · refine r_aload_n d_Mm_hasWay_157 rfl 6 rfl ?_
                      refine r_get fs_Mm_33 d_Mm_hasWay_158 (q0 := 0) rfl rfl ?_
                      refine r_iload d_Mm_hasWay_161 1 rfl ?_
                      refine r_iconst d_Mm_hasWay_163 (v := 1) (by decide) ?_
                      refine r_zast d_Mm_hasWay_164 (q0 := 4) rfl (vp_in_nI (by omega) (by omega)) (f' := upd ic oo 1) (by rw [nI_clamp (by omega)] <;> rfl) (cs' := [(m, .inr (12, [.int th, .ref mp, .int pt, .ref mf, .ref mh, .ref mn, .ref mt, .ref mz, .ref mc_, .ref mq, .ref mgr, .int cl, .int wa, .int co_, .int fi, .int bu, .int ho, .ref ml, .ref mi, .ref mr, .int lh, .int mg, .int wd, .int fpi, .int fal, .ref mm, .ref mu, .ref mk, .ref mx, .long po, .long de])), (mp, .inl (1, 108, .inl f)), (mf, .inl (0, 108, .inl fl)), (mz, .inl (0, 108, .inl fz)), (mc_, .inl (2, 108, .inl (upd ic oo 1))), (mq, .inl (0, 108, .inl (fun k => nI (qn k))))]) rfl ?_
                      refine r_aload_n d_Mm_hasWay_165 rfl 6 rfl ?_
                      refine r_get fs_Mm_37 d_Mm_hasWay_166 (q0 := 0) rfl rfl ?_
                      refine r_iload_n d_Mm_hasWay_169 rfl 4 rfl ?_
                      refine r_iload d_Mm_hasWay_170 1 rfl ?_
                      refine r_iast d_Mm_hasWay_172 (q0 := 5) rfl (vp_in_nI (by omega) (by omega)) (f' := fun k => nI (updN qn e oo k)) (by rw [nI_clamp (by omega)]; exact upd_qn) (cs' := [(m, .inr (12, [.int th, .ref mp, .int pt, .ref mf, .ref mh, .ref mn, .ref mt, .ref mz, .ref mc_, .ref mq, .ref mgr, .int cl, .int wa, .int co_, .int fi, .int bu, .int ho, .ref ml, .ref mi, .ref mr, .int lh, .int mg, .int wd, .int fpi, .int fal, .ref mm, .ref mu, .ref mk, .ref mx, .long po, .long de])), (mp, .inl (1, 108, .inl f)), (mf, .inl (0, 108, .inl fl)), (mz, .inl (0, 108, .inl fz)), (mc_, .inl (2, 108, .inl (upd ic oo 1))), (mq, .inl (0, 108, .inl (fun k => nI (updN qn e oo k))))]) rfl ?_
                      refine r_iinc (lv' := [(2, .int (nI (e + 1))), (6, .int 1), (5, .int (nI oo)), (4, .int (nI i)), (3, .int (nI j)), (1, .int (nI c)), (0, .ref m)]) (v := nI (e + 1)) d_Mm_hasWay_173 (j := 4) rfl (nI_add _ _) (by decide) rfl ?_
                      refine r_iinc (lv' := [(4, .int (nI (i + 1))), (2, .int (nI (e + 1))), (6, .int 1), (5, .int (nI oo)), (3, .int (nI j)), (1, .int (nI c)), (0, .ref m)]) (v := nI (i + 1)) d_Mm_hasWay_176 (j := 3) rfl (nI_add _ _) (by decide) rfl ?_
                      refine r_goto (tgt := 65) d_Mm_hasWay_179 (by decide) ?_
                      refine r_lv (lv' := [(4, .int (nI (i + 1))), (3, .int (nI j)), (2, .int (nI (e + 1))), (1, .int (nI c)), (0, .ref m)]) [0, 4, 1, 5, 6] rfl ?_
                      exact ih (i + 1) _ _ _ (by omega) (by omega) (qI_up v1 hol c_121) (by omega)
set_option maxHeartbeats 4000000 in
set_option maxRecDepth 100000 in
theorem L_Mm_hasWayW_39 (g : zG) (m mp mf mh mn mt mz mc_ mq mgr ml mi mr mm mu mk mx : Nat) (th pt cl wa co_ fi bu ho lh mg wd fpi fal : Int32) (po de : Int64) (f fl fz ic : Nat → Int32) (qn : Nat → Nat) (c : Nat) (hc : c < 108) (w0 : zW) (n : Nat) : ∀ (d j e : Nat) (ic : Nat → Int32) (qn : Nat → Nat), qI ic qn e → j ≤ e → 108 < j + d → DV g M_Mm_hasWay (fun o cs1 => ∃ (v9 : Int32) (ic9 : Nat → Int32) (qn9 : Nat → Nat), (v9 = 0 ∨ v9 = 1) ∧ o = .inl (some (.int v9)) ∧ cs1 = [(m, .inr (12, [.int th, .ref mp, .int pt, .ref mf, .ref mh, .ref mn, .ref mt, .ref mz, .ref mc_, .ref mq, .ref mgr, .int cl, .int wa, .int co_, .int fi, .int bu, .int ho, .ref ml, .ref mi, .ref mr, .int lh, .int mg, .int wd, .int fpi, .int fal, .ref mm, .ref mu, .ref mk, .ref mx, .long po, .long de])), (mp, .inl (1, 108, .inl f)), (mf, .inl (0, 108, .inl fl)), (mz, .inl (0, 108, .inl fz)), (mc_, .inl (2, 108, .inl ic9)), (mq, .inl (0, 108, .inl (fun k => nI (qn9 k))))]) w0 n 39 [(3, .int (nI j)), (2, .int (nI e)), (1, .int (nI c)), (0, .ref m)] [] [(m, .inr (12, [.int th, .ref mp, .int pt, .ref mf, .ref mh, .ref mn, .ref mt, .ref mz, .ref mc_, .ref mq, .ref mgr, .int cl, .int wa, .int co_, .int fi, .int bu, .int ho, .ref ml, .ref mi, .ref mr, .int lh, .int mg, .int wd, .int fpi, .int fal, .ref mm, .ref mu, .ref mk, .ref mx, .long po, .long de])), (mp, .inl (1, 108, .inl f)), (mf, .inl (0, 108, .inl fl)), (mz, .inl (0, 108, .inl fz)), (mc_, .inl (2, 108, .inl ic)), (mq, .inl (0, 108, .inl (fun k => nI (qn k))))] 0 0 := by
  intro d
  induction d with
  | zero => intro j e ic qn v1 v2 h1; exact absurd h1 (by have := qI_le v1; omega)
  | succ d ih =>
    intro j e ic qn v1 v2 h1
    refine r_iload_n d_Mm_hasWay_39 rfl 0 rfl ?_
    refine r_iload_n d_Mm_hasWay_40 rfl 1 rfl ?_
    refine r_icmp_ge (tgt := 188) d_Mm_hasWay_41 (by decide) (fun c_41 => ?_) (fun c_41 => ?_)
    · refine r_iconst d_Mm_hasWay_188 (v := 0) (by decide) ?_
      refine r_iret d_Mm_hasWay_189 rfl rfl ?_
      exact ⟨_, _, _, Or.inl rfl, rfl, rfl⟩
    · have he9 := qI_le v1
      have hn := z_nle (a := e) (by omega) (by omega) c_41
      have hq9 := v1.1 j hn
      refine r_aload_n d_Mm_hasWay_44 rfl 3 rfl ?_
      refine r_get fs_Mm_7 d_Mm_hasWay_45 (q0 := 0) rfl rfl ?_
      refine r_aload_n d_Mm_hasWay_48 rfl 3 rfl ?_
      refine r_get fs_Mm_37 d_Mm_hasWay_49 (q0 := 0) rfl rfl ?_
      refine r_iload_n d_Mm_hasWay_52 rfl 0 rfl ?_
      refine r_iald d_Mm_hasWay_53 (q0 := 5) rfl (vp_in_nI (by omega) (by omega)) (v := nI (qn j)) (by rw [nI_clamp (by omega)]) ?_
      refine r_cald d_Mm_hasWay_54 (q0 := 1) rfl (vp_in_nI (by omega) (by omega)) (v := f (qn j)) (by rw [nI_clamp (by omega)]) ?_
      refine r_bipush d_Mm_hasWay_55 (v := 114) (by decide) ?_
      refine r_icmp_ne (tgt := 62) d_Mm_hasWay_57 (by decide) (fun c_57 => ?_) (fun c_57 => ?_)
      · refine r_iconst d_Mm_hasWay_62 (v := 0) (by decide) ?_
        refine r_istore (lv' := [(4, .int 0), (3, .int (nI j)), (2, .int (nI e)), (1, .int (nI c)), (0, .ref m)]) d_Mm_hasWay_63 (by decide) rfl ?_
        refine L_Mm_hasWayW_65 g m mp mf mh mn mt mz mc_ mq mgr ml mi mr mm mu mk mx th pt cl wa co_ fi bu ho lh mg wd fpi fal po de f fl fz ic qn c hc w0 _ j (fun ic qn e k65_1 k65_2 => ?_) (4 + 1) 0 _ _ _ (Nat.zero_le _) (by omega) v1 hn
        refine r_iinc (lv' := [(3, .int (nI (j + 1))), (2, .int (nI e)), (1, .int (nI c)), (0, .ref m)]) (v := nI (j + 1)) d_Mm_hasWay_182 (j := 0) rfl (nI_add _ _) (by decide) rfl ?_
        refine r_goto (tgt := 39) d_Mm_hasWay_185 (by decide) ?_
        exact ih (j + 1) _ _ _ k65_1 k65_2 (by omega)
      · refine r_iconst d_Mm_hasWay_60 (v := 1) (by decide) ?_
        refine r_iret d_Mm_hasWay_61 rfl rfl ?_
        exact ⟨_, _, _, Or.inr rfl, rfl, rfl⟩
set_option maxHeartbeats 4000000 in
set_option maxRecDepth 100000 in
theorem L_Mm_hasWayW_2 (g : zG) (m mp mf mh mn mt mz mc_ mq mgr ml mi mr mm mu mk mx : Nat) (th pt cl wa co_ fi bu ho lh mg wd fpi fal : Int32) (po de : Int64) (f fl fz ic : Nat → Int32) (qn : Nat → Nat) (c : Nat) (hc : c < 108) (w0 : zW) (n : Nat) : ∀ (d i : Nat) (ic : Nat → Int32), i ≤ 108 → 108 < i + d → DV g M_Mm_hasWay (fun o cs1 => ∃ (v9 : Int32) (ic9 : Nat → Int32) (qn9 : Nat → Nat), (v9 = 0 ∨ v9 = 1) ∧ o = .inl (some (.int v9)) ∧ cs1 = [(m, .inr (12, [.int th, .ref mp, .int pt, .ref mf, .ref mh, .ref mn, .ref mt, .ref mz, .ref mc_, .ref mq, .ref mgr, .int cl, .int wa, .int co_, .int fi, .int bu, .int ho, .ref ml, .ref mi, .ref mr, .int lh, .int mg, .int wd, .int fpi, .int fal, .ref mm, .ref mu, .ref mk, .ref mx, .long po, .long de])), (mp, .inl (1, 108, .inl f)), (mf, .inl (0, 108, .inl fl)), (mz, .inl (0, 108, .inl fz)), (mc_, .inl (2, 108, .inl ic9)), (mq, .inl (0, 108, .inl (fun k => nI (qn9 k))))]) w0 n 2 [(2, .int (nI i)), (1, .int (nI c)), (0, .ref m)] [] [(m, .inr (12, [.int th, .ref mp, .int pt, .ref mf, .ref mh, .ref mn, .ref mt, .ref mz, .ref mc_, .ref mq, .ref mgr, .int cl, .int wa, .int co_, .int fi, .int bu, .int ho, .ref ml, .ref mi, .ref mr, .int lh, .int mg, .int wd, .int fpi, .int fal, .ref mm, .ref mu, .ref mk, .ref mx, .long po, .long de])), (mp, .inl (1, 108, .inl f)), (mf, .inl (0, 108, .inl fl)), (mz, .inl (0, 108, .inl fz)), (mc_, .inl (2, 108, .inl ic)), (mq, .inl (0, 108, .inl (fun k => nI (qn k))))] 0 0 := by
  intro d
  induction d with
  | zero => intro i ic h1 h2 ; exact absurd h2 (by omega)
  | succ d ih =>
    intro i ic h1 h2 
    refine r_iload_n d_Mm_hasWay_2 rfl 0 rfl ?_
    refine r_bipush d_Mm_hasWay_3 (v := 108) (by decide) ?_
    refine r_icmp_ge (tgt := 21) d_Mm_hasWay_5 (by decide) (fun c_5 => ?_) (fun c_5 => ?_)
    · have hn := z_le (a := 108) (by omega) (by decide) c_5
      obtain rfl : i = 108 := by omega
      refine r_aload_n d_Mm_hasWay_21 rfl 2 rfl ?_
      refine r_get fs_Mm_33 d_Mm_hasWay_22 (q0 := 0) rfl rfl ?_
      refine r_iload_n d_Mm_hasWay_25 rfl 1 rfl ?_
      refine r_iconst d_Mm_hasWay_26 (v := 1) (by decide) ?_
      refine r_zast d_Mm_hasWay_27 (q0 := 4) rfl (vp_in_nI (by omega) (by omega)) (f' := upd ic c 1) (by rw [nI_clamp (by omega)] <;> rfl) (cs' := [(m, .inr (12, [.int th, .ref mp, .int pt, .ref mf, .ref mh, .ref mn, .ref mt, .ref mz, .ref mc_, .ref mq, .ref mgr, .int cl, .int wa, .int co_, .int fi, .int bu, .int ho, .ref ml, .ref mi, .ref mr, .int lh, .int mg, .int wd, .int fpi, .int fal, .ref mm, .ref mu, .ref mk, .ref mx, .long po, .long de])), (mp, .inl (1, 108, .inl f)), (mf, .inl (0, 108, .inl fl)), (mz, .inl (0, 108, .inl fz)), (mc_, .inl (2, 108, .inl (upd ic c 1))), (mq, .inl (0, 108, .inl (fun k => nI (qn k))))]) rfl ?_
      refine r_aload_n d_Mm_hasWay_28 rfl 2 rfl ?_
      refine r_get fs_Mm_37 d_Mm_hasWay_29 (q0 := 0) rfl rfl ?_
      refine r_iconst d_Mm_hasWay_32 (v := 0) (by decide) ?_
      refine r_iload_n d_Mm_hasWay_33 rfl 1 rfl ?_
      refine r_iast d_Mm_hasWay_34 (q0 := 5) rfl (fun q => q.elim (by decide) (by decide)) (f' := fun k => nI (updN qn 0 c k)) upd_qn (cs' := [(m, .inr (12, [.int th, .ref mp, .int pt, .ref mf, .ref mh, .ref mn, .ref mt, .ref mz, .ref mc_, .ref mq, .ref mgr, .int cl, .int wa, .int co_, .int fi, .int bu, .int ho, .ref ml, .ref mi, .ref mr, .int lh, .int mg, .int wd, .int fpi, .int fal, .ref mm, .ref mu, .ref mk, .ref mx, .long po, .long de])), (mp, .inl (1, 108, .inl f)), (mf, .inl (0, 108, .inl fl)), (mz, .inl (0, 108, .inl fz)), (mc_, .inl (2, 108, .inl (upd ic c 1))), (mq, .inl (0, 108, .inl (fun k => nI (updN qn 0 c k))))]) rfl ?_
      refine r_iconst d_Mm_hasWay_35 (v := 1) (by decide) ?_
      refine r_istore_n (lv' := [(2, .int 1), (1, .int (nI c)), (0, .ref m)]) d_Mm_hasWay_36 rfl (by decide) rfl ?_
      refine r_iconst d_Mm_hasWay_37 (v := 0) (by decide) ?_
      refine r_istore_n (lv' := [(3, .int 0), (2, .int 1), (1, .int (nI c)), (0, .ref m)]) d_Mm_hasWay_38 rfl (by decide) rfl ?_
      exact L_Mm_hasWayW_39 g m mp mf mh mn mt mz mc_ mq mgr ml mi mr mm mu mk mx th pt cl wa co_ fi bu ho lh mg wd fpi fal po de f fl fz ic qn c hc w0 _ 109 0 1 _ _ (qI_1 hc) (by omega) (by omega)
    · have hn := z_nle (a := 108) (by omega) (by decide) c_5
      refine r_aload_n d_Mm_hasWay_8 rfl 2 rfl ?_
      refine r_get fs_Mm_33 d_Mm_hasWay_9 (q0 := 0) rfl rfl ?_
      refine r_iload_n d_Mm_hasWay_12 rfl 0 rfl ?_
      refine r_iconst d_Mm_hasWay_13 (v := 0) (by decide) ?_
      refine r_zast d_Mm_hasWay_14 (q0 := 4) rfl (vp_in_nI (by omega) (by omega)) (f' := upd ic i 0) (by rw [nI_clamp (by omega)] <;> rfl) (cs' := [(m, .inr (12, [.int th, .ref mp, .int pt, .ref mf, .ref mh, .ref mn, .ref mt, .ref mz, .ref mc_, .ref mq, .ref mgr, .int cl, .int wa, .int co_, .int fi, .int bu, .int ho, .ref ml, .ref mi, .ref mr, .int lh, .int mg, .int wd, .int fpi, .int fal, .ref mm, .ref mu, .ref mk, .ref mx, .long po, .long de])), (mp, .inl (1, 108, .inl f)), (mf, .inl (0, 108, .inl fl)), (mz, .inl (0, 108, .inl fz)), (mc_, .inl (2, 108, .inl (upd ic i 0))), (mq, .inl (0, 108, .inl (fun k => nI (qn k))))]) rfl ?_
      refine r_iinc (lv' := [(2, .int (nI (i + 1))), (1, .int (nI c)), (0, .ref m)]) (v := nI (i + 1)) d_Mm_hasWay_15 (j := 0) rfl (nI_add _ _) (by decide) rfl ?_
      refine r_goto (tgt := 2) d_Mm_hasWay_18 (by decide) ?_
      exact ih (i + 1) _ (by omega) (by omega)
set_option maxHeartbeats 4000000 in
set_option maxRecDepth 100000 in
theorem C_Mm_hasWayW (g : zG) (m mp mf mh mn mt mz mc_ mq mgr ml mi mr mm mu mk mx : Nat) (th pt cl wa co_ fi bu ho lh mg wd fpi fal : Int32) (po de : Int64) (f fl fz ic : Nat → Int32) (qn : Nat → Nat) (c : Nat) (hc : c < 108) : CT g M_Mm_hasWay [.ref m, .int (nI c)] [(m, .inr (12, [.int th, .ref mp, .int pt, .ref mf, .ref mh, .ref mn, .ref mt, .ref mz, .ref mc_, .ref mq, .ref mgr, .int cl, .int wa, .int co_, .int fi, .int bu, .int ho, .ref ml, .ref mi, .ref mr, .int lh, .int mg, .int wd, .int fpi, .int fal, .ref mm, .ref mu, .ref mk, .ref mx, .long po, .long de])), (mp, .inl (1, 108, .inl f)), (mf, .inl (0, 108, .inl fl)), (mz, .inl (0, 108, .inl fz)), (mc_, .inl (2, 108, .inl ic)), (mq, .inl (0, 108, .inl (fun k => nI (qn k))))] (fun o cs1 => ∃ (v9 : Int32) (ic9 : Nat → Int32) (qn9 : Nat → Nat), (v9 = 0 ∨ v9 = 1) ∧ o = .inl (some (.int v9)) ∧ cs1 = [(m, .inr (12, [.int th, .ref mp, .int pt, .ref mf, .ref mh, .ref mn, .ref mt, .ref mz, .ref mc_, .ref mq, .ref mgr, .int cl, .int wa, .int co_, .int fi, .int bu, .int ho, .ref ml, .ref mi, .ref mr, .int lh, .int mg, .int wd, .int fpi, .int fal, .ref mm, .ref mu, .ref mk, .ref mx, .long po, .long de])), (mp, .inl (1, 108, .inl f)), (mf, .inl (0, 108, .inl fl)), (mz, .inl (0, 108, .inl fz)), (mc_, .inl (2, 108, .inl ic9)), (mq, .inl (0, 108, .inl (fun k => nI (qn9 k))))]) 0 0 := by
  refine z_of (by decide) rfl (Nat.le_of_ble_eq_true rfl) (fun w0 => ?_)
  refine r_lvE (lv2 := [(0, .ref m), (1, .int (nI c))]) rfl ?_
  refine r_iconst d_Mm_hasWay_0 (v := 0) (by decide) ?_
  refine r_istore_n (lv' := [(2, .int 0), (0, .ref m), (1, .int (nI c))]) d_Mm_hasWay_1 rfl (by decide) rfl ?_
  refine r_lv (lv' := [(2, .int 0), (1, .int (nI c)), (0, .ref m)]) [0, 2, 1] rfl ?_
  exact L_Mm_hasWayW_2 g m mp mf mh mn mt mz mc_ mq mgr ml mi mr mm mu mk mx th pt cl wa co_ fi bu ho lh mg wd fpi fal po de f fl fz ic qn c hc w0 _  (108 + 1) 0 _ (Nat.zero_le _) (by omega)
end
section
def qJ (ic : Nat → Int32) (qn : Nat → Nat) (e i : Nat) : Prop := (∀ k, k < e → qn k < 108) ∧ e ≤ fa_cnt (fun k => decide (¬ ic k = 0)) i
theorem ct_upv {ic : Nat → Int32} {c : Nat} {v : Int32} : ∀ n, n ≤ c → fa_cnt (fun k => decide (¬ upd ic c v k = 0)) n = fa_cnt (fun k => decide (¬ ic k = 0)) n
  | 0, _ => rfl
  | n + 1, q => by
    have e : upd ic c v n = ic n := if_neg (by omega)
    rw [fa_cnt, fa_cnt, ct_upv n (by omega), e]
theorem qJ_0 {ic : Nat → Int32} {qn : Nat → Nat} {e i : Nat} (h : qJ ic qn e i) : qJ (upd ic i 0) qn e (i + 1) := by
  refine ⟨h.1, ?_⟩
  rw [fa_cnt, ct_upv i (Nat.le_refl _)]
  have := h.2
  omega
theorem qJ_1 {ic : Nat → Int32} {qn : Nat → Nat} {e i : Nat} (hi : i < 108) (h : qJ ic qn e i) : qJ (upd ic i 1) (updN qn e i) (e + 1) (i + 1) := by
  refine ⟨fun k hk => ?_, ?_⟩
  · unfold updN
    split
    · exact hi
    · exact h.1 k (by omega)
  · have e1 : upd ic i 1 i = 1 := if_pos rfl
    rw [fa_cnt_yes (p := fun k => decide (¬ upd ic i 1 k = 0)) (decide_eq_true (by rw [e1]; decide)), ct_upv i (Nat.le_refl _)]
    have := h.2
    omega
theorem qJ_le {ic : Nat → Int32} {qn : Nat → Nat} {e i : Nat} (h : qJ ic qn e i) : e ≤ i := Nat.le_trans h.2 (fa_cnt_le _ i)
def b01 (ic : Nat → Int32) (n : Nat) : Prop := ∀ k, k < n → ic k = 0 ∨ ic k = 1
theorem b01_up {ic : Nat → Int32} {c n : Nat} (h : b01 ic n) : b01 (upd ic c 1) n := fun k hk => by
  unfold upd
  split
  · exact Or.inr rfl
  · exact h k hk
theorem b01_s {ic : Nat → Int32} {i : Nat} {v : Int32} (hv : v = 0 ∨ v = 1) (h : b01 ic i) : b01 (upd ic i v) (i + 1) := fun k hk => by
  unfold upd
  split
  · exact hv
  · exact h k (by omega)
theorem qJ_e {ic : Nat → Int32} {qn : Nat → Nat} {e : Nat} (h : qJ ic qn e 108) : qI ic qn e := h
theorem d_Mm_feed_95 : decode prog_14_method_35_code 95 = .ok (.iload 6, 2) := zo_21 (d := 6) (zd_b zq_prog_14_method_35_code_2 31 rfl rfl rfl) (zd_b zq_prog_14_method_35_code_3 0 rfl rfl rfl)
theorem d_Mm_feed_97 : decode prog_14_method_35_code 97 = .ok (.iconst 4, 1) := zo_7 (zd_b zq_prog_14_method_35_code_3 1 rfl rfl rfl)
theorem d_Mm_feed_98 : decode prog_14_method_35_code 98 = .ok (.if_icmp .ge 146, 3) := zo_162 (d := 0) (e := 146) (zd_b zq_prog_14_method_35_code_3 2 rfl rfl rfl) (zd_b zq_prog_14_method_35_code_3 3 rfl rfl rfl) (zd_b zq_prog_14_method_35_code_3 4 rfl rfl rfl) (by decide +kernel)
theorem d_Mm_feed_101 : decode prog_14_method_35_code 101 = .ok (.aload_n 0, 1) := zo_42 (zd_b zq_prog_14_method_35_code_3 5 rfl rfl rfl)
theorem d_Mm_feed_102 : decode prog_14_method_35_code 102 = .ok (.getfield 37, 3) := zo_180 (d := 0) (e := 37) (zd_b zq_prog_14_method_35_code_3 6 rfl rfl rfl) (zd_b zq_prog_14_method_35_code_3 7 rfl rfl rfl) (zd_b zq_prog_14_method_35_code_3 8 rfl rfl rfl)
theorem d_Mm_feed_105 : decode prog_14_method_35_code 105 = .ok (.iload 5, 2) := zo_21 (d := 5) (zd_b zq_prog_14_method_35_code_3 9 rfl rfl rfl) (zd_b zq_prog_14_method_35_code_3 10 rfl rfl rfl)
theorem d_Mm_feed_107 : decode prog_14_method_35_code 107 = .ok (.iaload, 1) := zo_46 (zd_b zq_prog_14_method_35_code_3 11 rfl rfl rfl)
theorem d_Mm_feed_108 : decode prog_14_method_35_code 108 = .ok (.iload 6, 2) := zo_21 (d := 6) (zd_b zq_prog_14_method_35_code_3 12 rfl rfl rfl) (zd_b zq_prog_14_method_35_code_3 13 rfl rfl rfl)
theorem d_Mm_feed_110 : decode prog_14_method_35_code 110 = .ok (.invokestatic 119, 3) := zo_184 (d := 0) (e := 119) (zd_b zq_prog_14_method_35_code_3 14 rfl rfl rfl) (zd_b zq_prog_14_method_35_code_3 15 rfl rfl rfl) (zd_b zq_prog_14_method_35_code_3 16 rfl rfl rfl)
theorem ok_Mm_feed_Mm_beside : z_ok M_Mm_feed M_Mm_beside 2 := ⟨z_mj7 (i := 229) rfl (by decide +kernel), rfl, ⟨by decide +kernel, by decide +kernel, by decide +kernel⟩, ⟨by decide, by decide⟩, z_mj1 (i := 14) rfl (by decide +kernel), rfl⟩
theorem d_Mm_feed_113 : decode prog_14_method_35_code 113 = .ok (.istore 7, 2) := zo_54 (d := 7) (zd_b zq_prog_14_method_35_code_3 17 rfl rfl rfl) (zd_b zq_prog_14_method_35_code_3 18 rfl rfl rfl)
theorem d_Mm_feed_115 : decode prog_14_method_35_code 115 = .ok (.iload 7, 2) := zo_21 (d := 7) (zd_b zq_prog_14_method_35_code_3 19 rfl rfl rfl) (zd_b zq_prog_14_method_35_code_3 20 rfl rfl rfl)
theorem d_Mm_feed_117 : decode prog_14_method_35_code 117 = .ok (.iconst (-1), 1) := zo_2 (zd_b zq_prog_14_method_35_code_3 21 rfl rfl rfl)
theorem d_Mm_feed_118 : decode prog_14_method_35_code 118 = .ok (.if_icmp .eq 60, 3) := zo_159 (d := 0) (e := 60) (zd_b zq_prog_14_method_35_code_3 22 rfl rfl rfl) (zd_b zq_prog_14_method_35_code_3 23 rfl rfl rfl) (zd_b zq_prog_14_method_35_code_3 24 rfl rfl rfl) (by decide +kernel)
theorem d_Mm_feed_178 : decode prog_14_method_35_code 178 = .ok (.iconst 0, 1) := zo_3 (zd_b zq_prog_14_method_35_code_5 18 rfl rfl rfl)
theorem d_Mm_feed_179 : decode prog_14_method_35_code 179 = .ok (.istore 8, 2) := zo_54 (d := 8) (zd_b zq_prog_14_method_35_code_5 19 rfl rfl rfl) (zd_b zq_prog_14_method_35_code_5 20 rfl rfl rfl)
theorem d_Mm_feed_181 : decode prog_14_method_35_code 181 = .ok (.iload 8, 2) := zo_21 (d := 8) (zd_b zq_prog_14_method_35_code_5 21 rfl rfl rfl) (zd_b zq_prog_14_method_35_code_5 22 rfl rfl rfl)
theorem d_Mm_feed_183 : decode prog_14_method_35_code 183 = .ok (.ifCond .eq 55, 3) := zo_153 (d := 0) (e := 55) (zd_b zq_prog_14_method_35_code_5 23 rfl rfl rfl) (zd_b zq_prog_14_method_35_code_5 24 rfl rfl rfl) (zd_b zq_prog_14_method_35_code_5 25 rfl rfl rfl) (by decide +kernel)
theorem d_Mm_feed_238 : decode prog_14_method_35_code 238 = .ok (.iinc 6 1, 3) := by decide +kernel
theorem d_Mm_feed_241 : decode prog_14_method_35_code 241 = .ok (.goto (-146), 3) := zo_167 (d := 255) (e := 110) (zd_b zq_prog_14_method_35_code_7 17 rfl rfl rfl) (zd_b zq_prog_14_method_35_code_7 18 rfl rfl rfl) (zd_b zq_prog_14_method_35_code_7 19 rfl rfl rfl) (by decide +kernel)
theorem d_Mm_feed_121 : decode prog_14_method_35_code 121 = .ok (.aload_n 1, 1) := zo_43 (zd_b zq_prog_14_method_35_code_3 25 rfl rfl rfl)
theorem d_Mm_feed_122 : decode prog_14_method_35_code 122 = .ok (.iload 7, 2) := zo_21 (d := 7) (zd_b zq_prog_14_method_35_code_3 26 rfl rfl rfl) (zd_b zq_prog_14_method_35_code_3 27 rfl rfl rfl)
theorem d_Mm_feed_124 : decode prog_14_method_35_code 124 = .ok (.caload, 1) := zo_52 (zd_b zq_prog_14_method_35_code_3 28 rfl rfl rfl)
theorem d_Mm_feed_125 : decode prog_14_method_35_code 125 = .ok (.invokestatic 107, 3) := zo_184 (d := 0) (e := 107) (zd_b zq_prog_14_method_35_code_3 29 rfl rfl rfl) (zd_b zq_prog_14_method_35_code_3 30 rfl rfl rfl) (zd_b zq_prog_14_method_35_code_3 31 rfl rfl rfl)
theorem ok_Mm_feed_Mm_isMetal : z_ok M_Mm_feed M_Mm_isMetal 1 := ⟨z_mj7 (i := 214) rfl (by decide +kernel), rfl, ⟨by decide +kernel, by decide +kernel, by decide +kernel⟩, ⟨by decide, by decide⟩, z_mj1 (i := 14) rfl (by decide +kernel), rfl⟩
theorem d_Mm_feed_128 : decode prog_14_method_35_code 128 = .ok (.ifCond .eq 50, 3) := zo_153 (d := 0) (e := 50) (zd_b zq_prog_14_method_35_code_4 0 rfl rfl rfl) (zd_b zq_prog_14_method_35_code_4 1 rfl rfl rfl) (zd_b zq_prog_14_method_35_code_4 2 rfl rfl rfl) (by decide +kernel)
theorem d_Mm_feed_131 : decode prog_14_method_35_code 131 = .ok (.aload_n 0, 1) := zo_42 (zd_b zq_prog_14_method_35_code_4 3 rfl rfl rfl)
theorem d_Mm_feed_132 : decode prog_14_method_35_code 132 = .ok (.getfield 17, 3) := zo_180 (d := 0) (e := 17) (zd_b zq_prog_14_method_35_code_4 4 rfl rfl rfl) (zd_b zq_prog_14_method_35_code_4 5 rfl rfl rfl) (zd_b zq_prog_14_method_35_code_4 6 rfl rfl rfl)
theorem d_Mm_feed_135 : decode prog_14_method_35_code 135 = .ok (.iload 7, 2) := zo_21 (d := 7) (zd_b zq_prog_14_method_35_code_4 7 rfl rfl rfl) (zd_b zq_prog_14_method_35_code_4 8 rfl rfl rfl)
theorem d_Mm_feed_137 : decode prog_14_method_35_code 137 = .ok (.iaload, 1) := zo_46 (zd_b zq_prog_14_method_35_code_4 9 rfl rfl rfl)
theorem d_Mm_feed_138 : decode prog_14_method_35_code 138 = .ok (.iconst (-1), 1) := zo_2 (zd_b zq_prog_14_method_35_code_4 10 rfl rfl rfl)
theorem d_Mm_feed_139 : decode prog_14_method_35_code 139 = .ok (.if_icmp .eq 39, 3) := zo_159 (d := 0) (e := 39) (zd_b zq_prog_14_method_35_code_4 11 rfl rfl rfl) (zd_b zq_prog_14_method_35_code_4 12 rfl rfl rfl) (zd_b zq_prog_14_method_35_code_4 13 rfl rfl rfl) (by decide +kernel)
theorem d_Mm_feed_142 : decode prog_14_method_35_code 142 = .ok (.aload_n 0, 1) := zo_42 (zd_b zq_prog_14_method_35_code_4 14 rfl rfl rfl)
theorem d_Mm_feed_143 : decode prog_14_method_35_code 143 = .ok (.getfield 33, 3) := zo_180 (d := 0) (e := 33) (zd_b zq_prog_14_method_35_code_4 15 rfl rfl rfl) (zd_b zq_prog_14_method_35_code_4 16 rfl rfl rfl) (zd_b zq_prog_14_method_35_code_4 17 rfl rfl rfl)
theorem d_Mm_feed_146 : decode prog_14_method_35_code 146 = .ok (.iload 7, 2) := zo_21 (d := 7) (zd_b zq_prog_14_method_35_code_4 18 rfl rfl rfl) (zd_b zq_prog_14_method_35_code_4 19 rfl rfl rfl)
theorem d_Mm_feed_148 : decode prog_14_method_35_code 148 = .ok (.baload, 1) := zo_51 (zd_b zq_prog_14_method_35_code_4 20 rfl rfl rfl)
theorem d_Mm_feed_149 : decode prog_14_method_35_code 149 = .ok (.ifCond .ne 29, 3) := zo_154 (d := 0) (e := 29) (zd_b zq_prog_14_method_35_code_4 21 rfl rfl rfl) (zd_b zq_prog_14_method_35_code_4 22 rfl rfl rfl) (zd_b zq_prog_14_method_35_code_4 23 rfl rfl rfl) (by decide +kernel)
theorem d_Mm_feed_152 : decode prog_14_method_35_code 152 = .ok (.aload_n 0, 1) := zo_42 (zd_b zq_prog_14_method_35_code_4 24 rfl rfl rfl)
theorem d_Mm_feed_153 : decode prog_14_method_35_code 153 = .ok (.getfield 30, 3) := zo_180 (d := 0) (e := 30) (zd_b zq_prog_14_method_35_code_4 25 rfl rfl rfl) (zd_b zq_prog_14_method_35_code_4 26 rfl rfl rfl) (zd_b zq_prog_14_method_35_code_4 27 rfl rfl rfl)
theorem d_Mm_feed_156 : decode prog_14_method_35_code 156 = .ok (.iload 7, 2) := zo_21 (d := 7) (zd_b zq_prog_14_method_35_code_4 28 rfl rfl rfl) (zd_b zq_prog_14_method_35_code_4 29 rfl rfl rfl)
theorem d_Mm_feed_158 : decode prog_14_method_35_code 158 = .ok (.iaload, 1) := zo_46 (zd_b zq_prog_14_method_35_code_4 30 rfl rfl rfl)
theorem d_Mm_feed_159 : decode prog_14_method_35_code 159 = .ok (.aload_n 0, 1) := zo_42 (zd_b zq_prog_14_method_35_code_4 31 rfl rfl rfl)
theorem d_Mm_feed_160 : decode prog_14_method_35_code 160 = .ok (.getfield 30, 3) := zo_180 (d := 0) (e := 30) (zd_b zq_prog_14_method_35_code_5 0 rfl rfl rfl) (zd_b zq_prog_14_method_35_code_5 1 rfl rfl rfl) (zd_b zq_prog_14_method_35_code_5 2 rfl rfl rfl)
theorem d_Mm_feed_163 : decode prog_14_method_35_code 163 = .ok (.aload_n 0, 1) := zo_42 (zd_b zq_prog_14_method_35_code_5 3 rfl rfl rfl)
theorem d_Mm_feed_164 : decode prog_14_method_35_code 164 = .ok (.getfield 37, 3) := zo_180 (d := 0) (e := 37) (zd_b zq_prog_14_method_35_code_5 4 rfl rfl rfl) (zd_b zq_prog_14_method_35_code_5 5 rfl rfl rfl) (zd_b zq_prog_14_method_35_code_5 6 rfl rfl rfl)
theorem d_Mm_feed_167 : decode prog_14_method_35_code 167 = .ok (.iload 5, 2) := zo_21 (d := 5) (zd_b zq_prog_14_method_35_code_5 7 rfl rfl rfl) (zd_b zq_prog_14_method_35_code_5 8 rfl rfl rfl)
theorem d_Mm_feed_169 : decode prog_14_method_35_code 169 = .ok (.iaload, 1) := zo_46 (zd_b zq_prog_14_method_35_code_5 9 rfl rfl rfl)
theorem d_Mm_feed_170 : decode prog_14_method_35_code 170 = .ok (.iaload, 1) := zo_46 (zd_b zq_prog_14_method_35_code_5 10 rfl rfl rfl)
theorem d_Mm_feed_171 : decode prog_14_method_35_code 171 = .ok (.if_icmp .gt 7, 3) := zo_163 (d := 0) (e := 7) (zd_b zq_prog_14_method_35_code_5 11 rfl rfl rfl) (zd_b zq_prog_14_method_35_code_5 12 rfl rfl rfl) (zd_b zq_prog_14_method_35_code_5 13 rfl rfl rfl) (by decide +kernel)
theorem d_Mm_feed_174 : decode prog_14_method_35_code 174 = .ok (.iconst 1, 1) := zo_4 (zd_b zq_prog_14_method_35_code_5 14 rfl rfl rfl)
theorem d_Mm_feed_175 : decode prog_14_method_35_code 175 = .ok (.goto 4, 3) := zo_167 (d := 0) (e := 4) (zd_b zq_prog_14_method_35_code_5 15 rfl rfl rfl) (zd_b zq_prog_14_method_35_code_5 16 rfl rfl rfl) (zd_b zq_prog_14_method_35_code_5 17 rfl rfl rfl) (by decide +kernel)
theorem d_Mm_feed_186 : decode prog_14_method_35_code 186 = .ok (.aload_n 1, 1) := zo_43 (zd_b zq_prog_14_method_35_code_5 26 rfl rfl rfl)
theorem d_Mm_feed_187 : decode prog_14_method_35_code 187 = .ok (.iload 7, 2) := zo_21 (d := 7) (zd_b zq_prog_14_method_35_code_5 27 rfl rfl rfl) (zd_b zq_prog_14_method_35_code_5 28 rfl rfl rfl)
theorem d_Mm_feed_189 : decode prog_14_method_35_code 189 = .ok (.caload, 1) := zo_52 (zd_b zq_prog_14_method_35_code_5 29 rfl rfl rfl)
theorem d_Mm_feed_190 : decode prog_14_method_35_code 190 = .ok (.bipush 99, 2) := zo_16 (d := 99) (zd_b zq_prog_14_method_35_code_5 30 rfl rfl rfl) (zd_b zq_prog_14_method_35_code_5 31 rfl rfl rfl) (by decide +kernel)
theorem d_Mm_feed_192 : decode prog_14_method_35_code 192 = .ok (.if_icmp .ne 8, 3) := zo_160 (d := 0) (e := 8) (zd_b zq_prog_14_method_35_code_6 0 rfl rfl rfl) (zd_b zq_prog_14_method_35_code_6 1 rfl rfl rfl) (zd_b zq_prog_14_method_35_code_6 2 rfl rfl rfl) (by decide +kernel)
theorem d_Mm_feed_200 : decode prog_14_method_35_code 200 = .ok (.aload_n 0, 1) := zo_42 (zd_b zq_prog_14_method_35_code_6 8 rfl rfl rfl)
theorem d_Mm_feed_201 : decode prog_14_method_35_code 201 = .ok (.getfield 33, 3) := zo_180 (d := 0) (e := 33) (zd_b zq_prog_14_method_35_code_6 9 rfl rfl rfl) (zd_b zq_prog_14_method_35_code_6 10 rfl rfl rfl) (zd_b zq_prog_14_method_35_code_6 11 rfl rfl rfl)
theorem d_Mm_feed_204 : decode prog_14_method_35_code 204 = .ok (.iload 7, 2) := zo_21 (d := 7) (zd_b zq_prog_14_method_35_code_6 12 rfl rfl rfl) (zd_b zq_prog_14_method_35_code_6 13 rfl rfl rfl)
theorem d_Mm_feed_206 : decode prog_14_method_35_code 206 = .ok (.iconst 1, 1) := zo_4 (zd_b zq_prog_14_method_35_code_6 14 rfl rfl rfl)
theorem d_Mm_feed_207 : decode prog_14_method_35_code 207 = .ok (.bastore, 1) := zo_84 (zd_b zq_prog_14_method_35_code_6 15 rfl rfl rfl)
theorem d_Mm_feed_208 : decode prog_14_method_35_code 208 = .ok (.iload 4, 2) := zo_21 (d := 4) (zd_b zq_prog_14_method_35_code_6 16 rfl rfl rfl) (zd_b zq_prog_14_method_35_code_6 17 rfl rfl rfl)
theorem d_Mm_feed_210 : decode prog_14_method_35_code 210 = .ok (.aload_n 1, 1) := zo_43 (zd_b zq_prog_14_method_35_code_6 18 rfl rfl rfl)
theorem d_Mm_feed_211 : decode prog_14_method_35_code 211 = .ok (.iload 7, 2) := zo_21 (d := 7) (zd_b zq_prog_14_method_35_code_6 19 rfl rfl rfl) (zd_b zq_prog_14_method_35_code_6 20 rfl rfl rfl)
theorem d_Mm_feed_213 : decode prog_14_method_35_code 213 = .ok (.caload, 1) := zo_52 (zd_b zq_prog_14_method_35_code_6 21 rfl rfl rfl)
theorem d_Mm_feed_214 : decode prog_14_method_35_code 214 = .ok (.bipush 99, 2) := zo_16 (d := 99) (zd_b zq_prog_14_method_35_code_6 22 rfl rfl rfl) (zd_b zq_prog_14_method_35_code_6 23 rfl rfl rfl) (by decide +kernel)
theorem d_Mm_feed_216 : decode prog_14_method_35_code 216 = .ok (.if_icmp .ne 7, 3) := zo_160 (d := 0) (e := 7) (zd_b zq_prog_14_method_35_code_6 24 rfl rfl rfl) (zd_b zq_prog_14_method_35_code_6 25 rfl rfl rfl) (zd_b zq_prog_14_method_35_code_6 26 rfl rfl rfl) (by decide +kernel)
theorem d_Mm_feed_223 : decode prog_14_method_35_code 223 = .ok (.iconst 0, 1) := zo_3 (zd_b zq_prog_14_method_35_code_6 31 rfl rfl rfl)
theorem d_Mm_feed_224 : decode prog_14_method_35_code 224 = .ok (.isub, 1) := zo_100 (zd_b zq_prog_14_method_35_code_7 0 rfl rfl rfl)
theorem d_Mm_feed_225 : decode prog_14_method_35_code 225 = .ok (.istore 4, 2) := zo_54 (d := 4) (zd_b zq_prog_14_method_35_code_7 1 rfl rfl rfl) (zd_b zq_prog_14_method_35_code_7 2 rfl rfl rfl)
theorem d_Mm_feed_227 : decode prog_14_method_35_code 227 = .ok (.aload_n 0, 1) := zo_42 (zd_b zq_prog_14_method_35_code_7 3 rfl rfl rfl)
theorem d_Mm_feed_228 : decode prog_14_method_35_code 228 = .ok (.getfield 37, 3) := zo_180 (d := 0) (e := 37) (zd_b zq_prog_14_method_35_code_7 4 rfl rfl rfl) (zd_b zq_prog_14_method_35_code_7 5 rfl rfl rfl) (zd_b zq_prog_14_method_35_code_7 6 rfl rfl rfl)
theorem d_Mm_feed_231 : decode prog_14_method_35_code 231 = .ok (.iload_n 3, 1) := zo_29 (zd_b zq_prog_14_method_35_code_7 7 rfl rfl rfl)
theorem d_Mm_feed_232 : decode prog_14_method_35_code 232 = .ok (.iload 7, 2) := zo_21 (d := 7) (zd_b zq_prog_14_method_35_code_7 8 rfl rfl rfl) (zd_b zq_prog_14_method_35_code_7 9 rfl rfl rfl)
theorem d_Mm_feed_234 : decode prog_14_method_35_code 234 = .ok (.iastore, 1) := zo_79 (zd_b zq_prog_14_method_35_code_7 10 rfl rfl rfl)
theorem d_Mm_feed_235 : decode prog_14_method_35_code 235 = .ok (.iinc 3 1, 3) := by decide +kernel
theorem d_Mm_feed_219 : decode prog_14_method_35_code 219 = .ok (.iconst 1, 1) := zo_4 (zd_b zq_prog_14_method_35_code_6 27 rfl rfl rfl)
theorem d_Mm_feed_220 : decode prog_14_method_35_code 220 = .ok (.goto 4, 3) := zo_167 (d := 0) (e := 4) (zd_b zq_prog_14_method_35_code_6 28 rfl rfl rfl) (zd_b zq_prog_14_method_35_code_6 29 rfl rfl rfl) (zd_b zq_prog_14_method_35_code_6 30 rfl rfl rfl) (by decide +kernel)
theorem d_Mm_feed_195 : decode prog_14_method_35_code 195 = .ok (.iload 4, 2) := zo_21 (d := 4) (zd_b zq_prog_14_method_35_code_6 3 rfl rfl rfl) (zd_b zq_prog_14_method_35_code_6 4 rfl rfl rfl)
theorem d_Mm_feed_197 : decode prog_14_method_35_code 197 = .ok (.ifCond .le 41, 3) := zo_158 (d := 0) (e := 41) (zd_b zq_prog_14_method_35_code_6 5 rfl rfl rfl) (zd_b zq_prog_14_method_35_code_6 6 rfl rfl rfl) (zd_b zq_prog_14_method_35_code_6 7 rfl rfl rfl) (by decide +kernel)
theorem d_Mm_feed_92 : decode prog_14_method_35_code 92 = .ok (.iconst 0, 1) := zo_3 (zd_b zq_prog_14_method_35_code_2 28 rfl rfl rfl)
theorem d_Mm_feed_93 : decode prog_14_method_35_code 93 = .ok (.istore 6, 2) := zo_54 (d := 6) (zd_b zq_prog_14_method_35_code_2 29 rfl rfl rfl) (zd_b zq_prog_14_method_35_code_2 30 rfl rfl rfl)
theorem d_Mm_feed_244 : decode prog_14_method_35_code 244 = .ok (.iinc 5 1, 3) := by decide +kernel
theorem d_Mm_feed_247 : decode prog_14_method_35_code 247 = .ok (.goto (-161), 3) := zo_167 (d := 255) (e := 95) (zd_b zq_prog_14_method_35_code_7 23 rfl rfl rfl) (zd_b zq_prog_14_method_35_code_7 24 rfl rfl rfl) (zd_b zq_prog_14_method_35_code_7 25 rfl rfl rfl) (by decide +kernel)
theorem d_Mm_feed_33 : decode prog_14_method_35_code 33 = .ok (.aload_n 0, 1) := zo_42 (zd_b zq_prog_14_method_35_code_1 1 rfl rfl rfl)
theorem d_Mm_feed_34 : decode prog_14_method_35_code 34 = .ok (.getfield 17, 3) := zo_180 (d := 0) (e := 17) (zd_b zq_prog_14_method_35_code_1 2 rfl rfl rfl) (zd_b zq_prog_14_method_35_code_1 3 rfl rfl rfl) (zd_b zq_prog_14_method_35_code_1 4 rfl rfl rfl)
theorem d_Mm_feed_37 : decode prog_14_method_35_code 37 = .ok (.iload 4, 2) := zo_21 (d := 4) (zd_b zq_prog_14_method_35_code_1 5 rfl rfl rfl) (zd_b zq_prog_14_method_35_code_1 6 rfl rfl rfl)
theorem d_Mm_feed_39 : decode prog_14_method_35_code 39 = .ok (.iaload, 1) := zo_46 (zd_b zq_prog_14_method_35_code_1 7 rfl rfl rfl)
theorem d_Mm_feed_40 : decode prog_14_method_35_code 40 = .ok (.iconst (-1), 1) := zo_2 (zd_b zq_prog_14_method_35_code_1 8 rfl rfl rfl)
theorem d_Mm_feed_41 : decode prog_14_method_35_code 41 = .ok (.if_icmp .eq 7, 3) := zo_159 (d := 0) (e := 7) (zd_b zq_prog_14_method_35_code_1 9 rfl rfl rfl) (zd_b zq_prog_14_method_35_code_1 10 rfl rfl rfl) (zd_b zq_prog_14_method_35_code_1 11 rfl rfl rfl) (by decide +kernel)
theorem d_Mm_feed_44 : decode prog_14_method_35_code 44 = .ok (.iconst 1, 1) := zo_4 (zd_b zq_prog_14_method_35_code_1 12 rfl rfl rfl)
theorem d_Mm_feed_45 : decode prog_14_method_35_code 45 = .ok (.goto 4, 3) := zo_167 (d := 0) (e := 4) (zd_b zq_prog_14_method_35_code_1 13 rfl rfl rfl) (zd_b zq_prog_14_method_35_code_1 14 rfl rfl rfl) (zd_b zq_prog_14_method_35_code_1 15 rfl rfl rfl) (by decide +kernel)
theorem d_Mm_feed_60 : decode prog_14_method_35_code 60 = .ok (.aload_n 0, 1) := zo_42 (zd_b zq_prog_14_method_35_code_1 28 rfl rfl rfl)
theorem d_Mm_feed_61 : decode prog_14_method_35_code 61 = .ok (.getfield 37, 3) := zo_180 (d := 0) (e := 37) (zd_b zq_prog_14_method_35_code_1 29 rfl rfl rfl) (zd_b zq_prog_14_method_35_code_1 30 rfl rfl rfl) (zd_b zq_prog_14_method_35_code_1 31 rfl rfl rfl)
theorem d_Mm_feed_64 : decode prog_14_method_35_code 64 = .ok (.iload_n 3, 1) := zo_29 (zd_b zq_prog_14_method_35_code_2 0 rfl rfl rfl)
theorem d_Mm_feed_65 : decode prog_14_method_35_code 65 = .ok (.iload 4, 2) := zo_21 (d := 4) (zd_b zq_prog_14_method_35_code_2 1 rfl rfl rfl) (zd_b zq_prog_14_method_35_code_2 2 rfl rfl rfl)
theorem d_Mm_feed_67 : decode prog_14_method_35_code 67 = .ok (.iastore, 1) := zo_79 (zd_b zq_prog_14_method_35_code_2 3 rfl rfl rfl)
theorem d_Mm_feed_68 : decode prog_14_method_35_code 68 = .ok (.iinc 3 1, 3) := by decide +kernel
set_option maxHeartbeats 4000000 in
set_option maxRecDepth 100000 in
theorem L_Mm_feedW_95 (g : zG) (m mp mf mh mn mt mz mc_ mq mgr ml mi mr mm mu mk mx : Nat) (th pt cl wa co_ fi bu ho lh mg wd fpi fal : Int32) (po de : Int64) (b : Nat) (f : Nat → Int32) (fl : Nat → Int32) (he nx mtt fz ic : Nat → Int32) (qn : Nat → Nat) (h : Int32) (w0 : zW) (n : Nat) (j : Nat) (K : ∀ (fl he nx mtt fz ic : Nat → Int32) (qn : Nat → Nat) (e : Nat) (lf : Int32), qI ic qn e → j < e → b01 ic 108 → DV g M_Mm_feed (fun o cs1 => ∃ (fl9 he9 nx9 mt9 fz9 ic9 : Nat → Int32) (qn9 : Nat → Nat), b01 ic9 108 ∧ o = .inl none ∧ cs1 = [(m, .inr (12, [.int th, .ref mp, .int pt, .ref mf, .ref mh, .ref mn, .ref mt, .ref mz, .ref mc_, .ref mq, .ref mgr, .int cl, .int wa, .int co_, .int fi, .int bu, .int ho, .ref ml, .ref mi, .ref mr, .int lh, .int mg, .int wd, .int fpi, .int fal, .ref mm, .ref mu, .ref mk, .ref mx, .long po, .long de])), (b, .inl (1, 108, .inl f)), (mf, .inl (0, 108, .inl fl9)), (mh, .inl (0, 108, .inl he9)), (mt, .inl (0, 108, .inl mt9)), (mz, .inl (0, 108, .inl fz9)), (mn, .inl (0, 108, .inl nx9)), (mc_, .inl (2, 108, .inl ic9)), (mq, .inl (0, 108, .inl (fun k => nI (qn9 k))))]) w0 n 244 [(5, .int (nI j)), (4, .int lf), (3, .int (nI e)), (0, .ref m), (1, .ref b), (2, .int h)] [] [(m, .inr (12, [.int th, .ref mp, .int pt, .ref mf, .ref mh, .ref mn, .ref mt, .ref mz, .ref mc_, .ref mq, .ref mgr, .int cl, .int wa, .int co_, .int fi, .int bu, .int ho, .ref ml, .ref mi, .ref mr, .int lh, .int mg, .int wd, .int fpi, .int fal, .ref mm, .ref mu, .ref mk, .ref mx, .long po, .long de])), (b, .inl (1, 108, .inl f)), (mf, .inl (0, 108, .inl fl)), (mh, .inl (0, 108, .inl he)), (mt, .inl (0, 108, .inl mtt)), (mz, .inl (0, 108, .inl fz)), (mn, .inl (0, 108, .inl nx)), (mc_, .inl (2, 108, .inl ic)), (mq, .inl (0, 108, .inl (fun k => nI (qn k))))] 0 0) : ∀ (d i : Nat) (fl he nx mtt fz ic : Nat → Int32) (qn : Nat → Nat) (e : Nat) (lf : Int32), i ≤ 4 → 4 < i + d → qI ic qn e → j < e → b01 ic 108 → DV g M_Mm_feed (fun o cs1 => ∃ (fl9 he9 nx9 mt9 fz9 ic9 : Nat → Int32) (qn9 : Nat → Nat), b01 ic9 108 ∧ o = .inl none ∧ cs1 = [(m, .inr (12, [.int th, .ref mp, .int pt, .ref mf, .ref mh, .ref mn, .ref mt, .ref mz, .ref mc_, .ref mq, .ref mgr, .int cl, .int wa, .int co_, .int fi, .int bu, .int ho, .ref ml, .ref mi, .ref mr, .int lh, .int mg, .int wd, .int fpi, .int fal, .ref mm, .ref mu, .ref mk, .ref mx, .long po, .long de])), (b, .inl (1, 108, .inl f)), (mf, .inl (0, 108, .inl fl9)), (mh, .inl (0, 108, .inl he9)), (mt, .inl (0, 108, .inl mt9)), (mz, .inl (0, 108, .inl fz9)), (mn, .inl (0, 108, .inl nx9)), (mc_, .inl (2, 108, .inl ic9)), (mq, .inl (0, 108, .inl (fun k => nI (qn9 k))))]) w0 n 95 [(6, .int (nI i)), (5, .int (nI j)), (4, .int lf), (3, .int (nI e)), (0, .ref m), (1, .ref b), (2, .int h)] [] [(m, .inr (12, [.int th, .ref mp, .int pt, .ref mf, .ref mh, .ref mn, .ref mt, .ref mz, .ref mc_, .ref mq, .ref mgr, .int cl, .int wa, .int co_, .int fi, .int bu, .int ho, .ref ml, .ref mi, .ref mr, .int lh, .int mg, .int wd, .int fpi, .int fal, .ref mm, .ref mu, .ref mk, .ref mx, .long po, .long de])), (b, .inl (1, 108, .inl f)), (mf, .inl (0, 108, .inl fl)), (mh, .inl (0, 108, .inl he)), (mt, .inl (0, 108, .inl mtt)), (mz, .inl (0, 108, .inl fz)), (mn, .inl (0, 108, .inl nx)), (mc_, .inl (2, 108, .inl ic)), (mq, .inl (0, 108, .inl (fun k => nI (qn k))))] 0 0 := by
  intro d
  induction d with
  | zero => intro i fl he nx mtt fz ic qn e lf h1 h2 v1 v2 v3; exact absurd h2 (by omega)
  | succ d ih =>
    intro i fl he nx mtt fz ic qn e lf h1 h2 v1 v2 v3
    refine r_iload d_Mm_feed_95 0 rfl ?_
    refine r_iconst d_Mm_feed_97 (v := 4) (by decide) ?_
    refine r_icmp_ge (tgt := 244) d_Mm_feed_98 (by decide) (fun c_98 => ?_) (fun c_98 => ?_)
    · have hn := z_le (a := 4) (by omega) (by decide) c_98
      obtain rfl : i = 4 := by omega
      refine r_lv (lv' := [(5, .int (nI j)), (4, .int lf), (3, .int (nI e)), (0, .ref m), (1, .ref b), (2, .int h)]) [1, 2, 3, 4, 5, 6] rfl ?_
      exact K _ _ _ _ _ _ _ _ _ v1 v2 v3
    · have he9 := qI_le v1
      have hn := z_nle (a := 4) (by omega) (by decide) c_98
      have hq9 := v1.1 j v2
      refine r_aload_n d_Mm_feed_101 rfl 4 rfl ?_
      refine r_get fs_Mm_37 d_Mm_feed_102 (q0 := 0) rfl rfl ?_
      refine r_iload d_Mm_feed_105 1 rfl ?_
      refine r_iald d_Mm_feed_107 (q0 := 8) rfl (vp_in_nI (by omega) (by omega)) (v := nI (qn j)) (by rw [nI_clamp (by omega)]) ?_
      refine r_iload d_Mm_feed_108 0 rfl ?_
      refine r_callS (As := [.int (nI (qn j)), .int (nI i)]) (rest := []) (csC := []) (is := []) ln_Mm_119 w_st_Mm_beside ok_Mm_feed_Mm_beside d_Mm_feed_110 (C_Mm_beside g (qn j) i (by omega) (by omega)) rfl rfl (Nat.le_of_ble_eq_true rfl) rfl (by decide) (by omega) (by omega) (fun E cs1 hx => ?_) (fun v cs1 hx => ?_)
      · exact absurd hx.1 (by simp)
      · obtain ⟨e1, rfl⟩ := hx
        cases e1
        refine ⟨rfl, ?_⟩
        refine r_st (st2 := [.int (oI (bs (qn j) i))]) rfl ?_
        refine r_cs (cs2 := [(m, .inr (12, [.int th, .ref mp, .int pt, .ref mf, .ref mh, .ref mn, .ref mt, .ref mz, .ref mc_, .ref mq, .ref mgr, .int cl, .int wa, .int co_, .int fi, .int bu, .int ho, .ref ml, .ref mi, .ref mr, .int lh, .int mg, .int wd, .int fpi, .int fal, .ref mm, .ref mu, .ref mk, .ref mx, .long po, .long de])), (b, .inl (1, 108, .inl f)), (mf, .inl (0, 108, .inl fl)), (mh, .inl (0, 108, .inl he)), (mt, .inl (0, 108, .inl mtt)), (mz, .inl (0, 108, .inl fz)), (mn, .inl (0, 108, .inl nx)), (mc_, .inl (2, 108, .inl ic)), (mq, .inl (0, 108, .inl (fun k => nI (qn k))))]) rfl ?_
        refine r_istore (lv' := [(7, .int (oI (bs (qn j) i))), (6, .int (nI i)), (5, .int (nI j)), (4, .int lf), (3, .int (nI e)), (0, .ref m), (1, .ref b), (2, .int h)]) d_Mm_feed_113 (by decide) rfl ?_
        refine r_iload d_Mm_feed_115 0 rfl ?_
        refine r_iconst d_Mm_feed_117 (v := (-1)) (by decide) ?_
        refine r_icmp_eq (tgt := 178) d_Mm_feed_118 (by decide) (fun c_118 => ?_) (fun c_118 => ?_)
        · refine r_iconst d_Mm_feed_178 (v := 0) (by decide) ?_
          refine r_istore (lv' := [(8, .int 0), (7, .int (oI (bs (qn j) i))), (6, .int (nI i)), (5, .int (nI j)), (4, .int lf), (3, .int (nI e)), (0, .ref m), (1, .ref b), (2, .int h)]) d_Mm_feed_179 (by decide) rfl ?_
          refine r_iload d_Mm_feed_181 0 rfl ?_
          refine r_if_eq (tgt := 238) d_Mm_feed_183 (by decide) (fun c_183 => ?_) (fun c_183 => ?_)
          · refine r_iinc (lv' := [(6, .int (nI (i + 1))), (8, .int 0), (7, .int (oI (bs (qn j) i))), (5, .int (nI j)), (4, .int lf), (3, .int (nI e)), (0, .ref m), (1, .ref b), (2, .int h)]) (v := nI (i + 1)) d_Mm_feed_238 (j := 2) rfl (nI_add _ _) (by decide) rfl ?_
            refine r_goto (tgt := 95) d_Mm_feed_241 (by decide) ?_
            refine r_lv (lv' := [(6, .int (nI (i + 1))), (5, .int (nI j)), (4, .int lf), (3, .int (nI e)), (0, .ref m), (1, .ref b), (2, .int h)]) [0, 3, 4, 5, 6, 7, 8] rfl ?_
            exact ih (i + 1) _ _ _ _ _ _ _ _ _ (by omega) (by omega) v1 v2 v3
          · exact absurd c_183 (by decide)
        · obtain ⟨oo, ho9⟩ := oI_nm c_118
          have hol := bs_lt hq9 ho9
          rw [ho9, show oI (some oo) = nI oo from rfl]
          refine r_aload_n d_Mm_feed_121 rfl 6 rfl ?_
          refine r_iload d_Mm_feed_122 0 rfl ?_
          refine r_cald d_Mm_feed_124 (q0 := 1) rfl (vp_in_nI (by omega) (by omega)) (v := f oo) (by rw [nI_clamp (by omega)]) ?_
          refine r_callS (As := [.int (f oo)]) (rest := []) (csC := []) (is := []) ln_Mm_107 w_st_Mm_isMetal ok_Mm_feed_Mm_isMetal d_Mm_feed_125 (C_Mm_isMetal g (f oo)) rfl rfl (Nat.le_of_ble_eq_true rfl) rfl (by decide) (by omega) (by omega) (fun E cs1 hx => ?_) (fun v cs1 hx => ?_)
          · exact absurd hx.1 (by simp)
          · obtain ⟨e1, rfl⟩ := hx
            cases e1
            refine ⟨rfl, ?_⟩
            refine r_st (st2 := [.int (z_bi (tmB (f oo)))]) rfl ?_
            refine r_cs (cs2 := [(m, .inr (12, [.int th, .ref mp, .int pt, .ref mf, .ref mh, .ref mn, .ref mt, .ref mz, .ref mc_, .ref mq, .ref mgr, .int cl, .int wa, .int co_, .int fi, .int bu, .int ho, .ref ml, .ref mi, .ref mr, .int lh, .int mg, .int wd, .int fpi, .int fal, .ref mm, .ref mu, .ref mk, .ref mx, .long po, .long de])), (b, .inl (1, 108, .inl f)), (mf, .inl (0, 108, .inl fl)), (mh, .inl (0, 108, .inl he)), (mt, .inl (0, 108, .inl mtt)), (mz, .inl (0, 108, .inl fz)), (mn, .inl (0, 108, .inl nx)), (mc_, .inl (2, 108, .inl ic)), (mq, .inl (0, 108, .inl (fun k => nI (qn k))))]) rfl ?_
            refine r_if_eq (tgt := 178) d_Mm_feed_128 (by decide) (fun c_128 => ?_) (fun c_128 => ?_)
            · refine r_iconst d_Mm_feed_178 (v := 0) (by decide) ?_
              refine r_istore (lv' := [(8, .int 0), (7, .int (nI oo)), (6, .int (nI i)), (5, .int (nI j)), (4, .int lf), (3, .int (nI e)), (0, .ref m), (1, .ref b), (2, .int h)]) d_Mm_feed_179 (by decide) rfl ?_
              refine r_iload d_Mm_feed_181 0 rfl ?_
              refine r_if_eq (tgt := 238) d_Mm_feed_183 (by decide) (fun c_183 => ?_) (fun c_183 => ?_)
              · refine r_iinc (lv' := [(6, .int (nI (i + 1))), (8, .int 0), (7, .int (nI oo)), (5, .int (nI j)), (4, .int lf), (3, .int (nI e)), (0, .ref m), (1, .ref b), (2, .int h)]) (v := nI (i + 1)) d_Mm_feed_238 (j := 2) rfl (nI_add _ _) (by decide) rfl ?_
                refine r_goto (tgt := 95) d_Mm_feed_241 (by decide) ?_
                refine r_lv (lv' := [(6, .int (nI (i + 1))), (5, .int (nI j)), (4, .int lf), (3, .int (nI e)), (0, .ref m), (1, .ref b), (2, .int h)]) [0, 3, 4, 5, 6, 7, 8] rfl ?_
                exact ih (i + 1) _ _ _ _ _ _ _ _ _ (by omega) (by omega) v1 v2 v3
              · exact absurd c_183 (by decide)
            · refine r_aload_n d_Mm_feed_131 rfl 5 rfl ?_
              refine r_get fs_Mm_17 d_Mm_feed_132 (q0 := 0) rfl rfl ?_
              refine r_iload d_Mm_feed_135 0 rfl ?_
              refine r_iald d_Mm_feed_137 (q0 := 2) rfl (vp_in_nI (by omega) (by omega)) (v := fl oo) (by rw [nI_clamp (by omega)]) ?_
              refine r_iconst d_Mm_feed_138 (v := (-1)) (by decide) ?_
              refine r_icmp_eq (tgt := 178) d_Mm_feed_139 (by decide) (fun c_139 => ?_) (fun c_139 => ?_)
              · refine r_iconst d_Mm_feed_178 (v := 0) (by decide) ?_
                refine r_istore (lv' := [(8, .int 0), (7, .int (nI oo)), (6, .int (nI i)), (5, .int (nI j)), (4, .int lf), (3, .int (nI e)), (0, .ref m), (1, .ref b), (2, .int h)]) d_Mm_feed_179 (by decide) rfl ?_
                refine r_iload d_Mm_feed_181 0 rfl ?_
                refine r_if_eq (tgt := 238) d_Mm_feed_183 (by decide) (fun c_183 => ?_) (fun c_183 => ?_)
                · refine r_iinc (lv' := [(6, .int (nI (i + 1))), (8, .int 0), (7, .int (nI oo)), (5, .int (nI j)), (4, .int lf), (3, .int (nI e)), (0, .ref m), (1, .ref b), (2, .int h)]) (v := nI (i + 1)) d_Mm_feed_238 (j := 2) rfl (nI_add _ _) (by decide) rfl ?_
                  refine r_goto (tgt := 95) d_Mm_feed_241 (by decide) ?_
                  refine r_lv (lv' := [(6, .int (nI (i + 1))), (5, .int (nI j)), (4, .int lf), (3, .int (nI e)), (0, .ref m), (1, .ref b), (2, .int h)]) [0, 3, 4, 5, 6, 7, 8] rfl ?_
                  exact ih (i + 1) _ _ _ _ _ _ _ _ _ (by omega) (by omega) v1 v2 v3
                · exact absurd c_183 (by decide)
              · refine r_aload_n d_Mm_feed_142 rfl 5 rfl ?_
                refine r_get fs_Mm_33 d_Mm_feed_143 (q0 := 0) rfl rfl ?_
                refine r_iload d_Mm_feed_146 0 rfl ?_
                refine r_zald d_Mm_feed_148 (q0 := 7) rfl (vp_in_nI (by omega) (by omega)) (v := ic oo) (by rw [nI_clamp (by omega)]) ?_
                refine r_if_ne (tgt := 178) d_Mm_feed_149 (by decide) (fun c_149 => ?_) (fun c_149 => ?_)
                · refine r_iconst d_Mm_feed_178 (v := 0) (by decide) ?_
                  refine r_istore (lv' := [(8, .int 0), (7, .int (nI oo)), (6, .int (nI i)), (5, .int (nI j)), (4, .int lf), (3, .int (nI e)), (0, .ref m), (1, .ref b), (2, .int h)]) d_Mm_feed_179 (by decide) rfl ?_
                  refine r_iload d_Mm_feed_181 0 rfl ?_
                  refine r_if_eq (tgt := 238) d_Mm_feed_183 (by decide) (fun c_183 => ?_) (fun c_183 => ?_)
                  · refine r_iinc (lv' := [(6, .int (nI (i + 1))), (8, .int 0), (7, .int (nI oo)), (5, .int (nI j)), (4, .int lf), (3, .int (nI e)), (0, .ref m), (1, .ref b), (2, .int h)]) (v := nI (i + 1)) d_Mm_feed_238 (j := 2) rfl (nI_add _ _) (by decide) rfl ?_
                    refine r_goto (tgt := 95) d_Mm_feed_241 (by decide) ?_
                    refine r_lv (lv' := [(6, .int (nI (i + 1))), (5, .int (nI j)), (4, .int lf), (3, .int (nI e)), (0, .ref m), (1, .ref b), (2, .int h)]) [0, 3, 4, 5, 6, 7, 8] rfl ?_
                    exact ih (i + 1) _ _ _ _ _ _ _ _ _ (by omega) (by omega) v1 v2 v3
                  · exact absurd c_183 (by decide)
                · have hel := qI_lt v1 hol c_149
                  refine r_aload_n d_Mm_feed_152 rfl 5 rfl ?_
                  refine r_get fs_Mm_30 d_Mm_feed_153 (q0 := 0) rfl rfl ?_
                  refine r_iload d_Mm_feed_156 0 rfl ?_
                  refine r_iald d_Mm_feed_158 (q0 := 5) rfl (vp_in_nI (by omega) (by omega)) (v := fz oo) (by rw [nI_clamp (by omega)]) ?_
                  refine r_aload_n d_Mm_feed_159 rfl 5 rfl ?_
                  refine r_get fs_Mm_30 d_Mm_feed_160 (q0 := 0) rfl rfl ?_
                  refine r_aload_n d_Mm_feed_163 rfl 5 rfl ?_
                  refine r_get fs_Mm_37 d_Mm_feed_164 (q0 := 0) rfl rfl ?_
                  refine r_iload d_Mm_feed_167 2 rfl ?_
                  refine r_iald d_Mm_feed_169 (q0 := 8) rfl (vp_in_nI (by omega) (by omega)) (v := nI (qn j)) (by rw [nI_clamp (by omega)]) ?_
                  refine r_iald d_Mm_feed_170 (q0 := 5) rfl (vp_in_nI (by omega) (by omega)) (v := fz (qn j)) (by rw [nI_clamp (by omega)]) ?_
                  refine r_icmp_gt (tgt := 178) d_Mm_feed_171 (by decide) (fun c_171 => ?_) (fun c_171 => ?_)
                  · refine r_iconst d_Mm_feed_178 (v := 0) (by decide) ?_
                    refine r_istore (lv' := [(8, .int 0), (7, .int (nI oo)), (6, .int (nI i)), (5, .int (nI j)), (4, .int lf), (3, .int (nI e)), (0, .ref m), (1, .ref b), (2, .int h)]) d_Mm_feed_179 (by decide) rfl ?_
                    refine r_iload d_Mm_feed_181 0 rfl ?_
                    refine r_if_eq (tgt := 238) d_Mm_feed_183 (by decide) (fun c_183 => ?_) (fun c_183 => ?_)
                    · refine r_iinc (lv' := [(6, .int (nI (i + 1))), (8, .int 0), (7, .int (nI oo)), (5, .int (nI j)), (4, .int lf), (3, .int (nI e)), (0, .ref m), (1, .ref b), (2, .int h)]) (v := nI (i + 1)) d_Mm_feed_238 (j := 2) rfl (nI_add _ _) (by decide) rfl ?_
                      refine r_goto (tgt := 95) d_Mm_feed_241 (by decide) ?_
                      refine r_lv (lv' := [(6, .int (nI (i + 1))), (5, .int (nI j)), (4, .int lf), (3, .int (nI e)), (0, .ref m), (1, .ref b), (2, .int h)]) [0, 3, 4, 5, 6, 7, 8] rfl ?_
                      exact ih (i + 1) _ _ _ _ _ _ _ _ _ (by omega) (by omega) v1 v2 v3
                    · exact absurd c_183 (by decide)
                  · refine r_iconst d_Mm_feed_174 (v := 1) (by decide) ?_
                    refine r_goto (tgt := 179) d_Mm_feed_175 (by decide) ?_
                    refine r_istore (lv' := [(8, .int 1), (7, .int (nI oo)), (6, .int (nI i)), (5, .int (nI j)), (4, .int lf), (3, .int (nI e)), (0, .ref m), (1, .ref b), (2, .int h)]) d_Mm_feed_179 (by decide) rfl ?_
                    refine r_iload d_Mm_feed_181 0 rfl ?_
                    refine r_if_eq (tgt := 238) d_Mm_feed_183 (by decide) (fun c_183 => ?_) (fun c_183 => ?_)
                    · exact absurd c_183 (by decide)
                    · refine r_aload_n d_Mm_feed_186 rfl 7 rfl ?_
                      refine r_iload d_Mm_feed_187 1 rfl ?_
                      refine r_cald d_Mm_feed_189 (q0 := 1) rfl (vp_in_nI (by omega) (by omega)) (v := f oo) (by rw [nI_clamp (by omega)]) ?_
                      refine r_bipush d_Mm_feed_190 (v := 99) (by decide) ?_
                      refine r_icmp_ne (tgt := 200) d_Mm_feed_192 (by decide) (fun c_192 => ?_) (fun c_192 => ?_)
                      · refine r_aload_n d_Mm_feed_200 rfl 6 rfl ?_
                        refine r_get fs_Mm_33 d_Mm_feed_201 (q0 := 0) rfl rfl ?_
                        refine r_iload d_Mm_feed_204 1 rfl ?_
                        refine r_iconst d_Mm_feed_206 (v := 1) (by decide) ?_
                        refine r_zast d_Mm_feed_207 (q0 := 7) rfl (vp_in_nI (by omega) (by omega)) (f' := upd ic oo 1) (by rw [nI_clamp (by omega)] <;> rfl) (cs' := [(m, .inr (12, [.int th, .ref mp, .int pt, .ref mf, .ref mh, .ref mn, .ref mt, .ref mz, .ref mc_, .ref mq, .ref mgr, .int cl, .int wa, .int co_, .int fi, .int bu, .int ho, .ref ml, .ref mi, .ref mr, .int lh, .int mg, .int wd, .int fpi, .int fal, .ref mm, .ref mu, .ref mk, .ref mx, .long po, .long de])), (b, .inl (1, 108, .inl f)), (mf, .inl (0, 108, .inl fl)), (mh, .inl (0, 108, .inl he)), (mt, .inl (0, 108, .inl mtt)), (mz, .inl (0, 108, .inl fz)), (mn, .inl (0, 108, .inl nx)), (mc_, .inl (2, 108, .inl (upd ic oo 1))), (mq, .inl (0, 108, .inl (fun k => nI (qn k))))]) rfl ?_
                        refine r_iload d_Mm_feed_208 4 rfl ?_
                        refine r_aload_n d_Mm_feed_210 rfl 7 rfl ?_
                        refine r_iload d_Mm_feed_211 1 rfl ?_
                        refine r_cald d_Mm_feed_213 (q0 := 1) rfl (vp_in_nI (by omega) (by omega)) (v := f oo) (by rw [nI_clamp (by omega)]) ?_
                        refine r_bipush d_Mm_feed_214 (v := 99) (by decide) ?_
                        refine r_icmp_ne (tgt := 223) d_Mm_feed_216 (by decide) (fun c_216 => ?_) (fun c_216 => ?_)
                        · refine r_iconst d_Mm_feed_223 (v := 0) (by decide) ?_
                          refine r_isub d_Mm_feed_224 (v := lf - 0) rfl ?_
                          refine r_istore (lv' := [(4, .int (lf - 0)), (8, .int 1), (7, .int (nI oo)), (6, .int (nI i)), (5, .int (nI j)), (3, .int (nI e)), (0, .ref m), (1, .ref b), (2, .int h)]) d_Mm_feed_225 (by decide) rfl ?_
                          refine r_aload_n d_Mm_feed_227 rfl 6 rfl ?_
                          refine r_get fs_Mm_37 d_Mm_feed_228 (q0 := 0) rfl rfl ?_
                          refine r_iload_n d_Mm_feed_231 rfl 5 rfl ?_
                          refine r_iload d_Mm_feed_232 2 rfl ?_
                          refine r_iast d_Mm_feed_234 (q0 := 8) rfl (vp_in_nI (by omega) (by omega)) (f' := fun k => nI (updN qn e oo k)) (by rw [nI_clamp (by omega)]; exact upd_qn) (cs' := [(m, .inr (12, [.int th, .ref mp, .int pt, .ref mf, .ref mh, .ref mn, .ref mt, .ref mz, .ref mc_, .ref mq, .ref mgr, .int cl, .int wa, .int co_, .int fi, .int bu, .int ho, .ref ml, .ref mi, .ref mr, .int lh, .int mg, .int wd, .int fpi, .int fal, .ref mm, .ref mu, .ref mk, .ref mx, .long po, .long de])), (b, .inl (1, 108, .inl f)), (mf, .inl (0, 108, .inl fl)), (mh, .inl (0, 108, .inl he)), (mt, .inl (0, 108, .inl mtt)), (mz, .inl (0, 108, .inl fz)), (mn, .inl (0, 108, .inl nx)), (mc_, .inl (2, 108, .inl (upd ic oo 1))), (mq, .inl (0, 108, .inl (fun k => nI (updN qn e oo k))))]) rfl ?_
                          refine r_iinc (lv' := [(3, .int (nI (e + 1))), (4, .int (lf - 0)), (8, .int 1), (7, .int (nI oo)), (6, .int (nI i)), (5, .int (nI j)), (0, .ref m), (1, .ref b), (2, .int h)]) (v := nI (e + 1)) d_Mm_feed_235 (j := 5) rfl (nI_add _ _) (by decide) rfl ?_
                          refine r_iinc (lv' := [(6, .int (nI (i + 1))), (3, .int (nI (e + 1))), (4, .int (lf - 0)), (8, .int 1), (7, .int (nI oo)), (5, .int (nI j)), (0, .ref m), (1, .ref b), (2, .int h)]) (v := nI (i + 1)) d_Mm_feed_238 (j := 4) rfl (nI_add _ _) (by decide) rfl ?_
                          refine r_goto (tgt := 95) d_Mm_feed_241 (by decide) ?_
                          refine r_lv (lv' := [(6, .int (nI (i + 1))), (5, .int (nI j)), (4, .int (lf - 0)), (3, .int (nI (e + 1))), (0, .ref m), (1, .ref b), (2, .int h)]) [0, 5, 2, 1, 6, 7, 8] rfl ?_
                          exact ih (i + 1) _ _ _ _ _ _ _ _ _ (by omega) (by omega) (qI_up v1 hol c_149) (by omega) (b01_up v3)
                        · refine r_iconst d_Mm_feed_219 (v := 1) (by decide) ?_
                          refine r_goto (tgt := 224) d_Mm_feed_220 (by decide) ?_
                          refine r_isub d_Mm_feed_224 (v := lf - 1) rfl ?_
                          refine r_istore (lv' := [(4, .int (lf - 1)), (8, .int 1), (7, .int (nI oo)), (6, .int (nI i)), (5, .int (nI j)), (3, .int (nI e)), (0, .ref m), (1, .ref b), (2, .int h)]) d_Mm_feed_225 (by decide) rfl ?_
                          refine r_aload_n d_Mm_feed_227 rfl 6 rfl ?_
                          refine r_get fs_Mm_37 d_Mm_feed_228 (q0 := 0) rfl rfl ?_
                          refine r_iload_n d_Mm_feed_231 rfl 5 rfl ?_
                          refine r_iload d_Mm_feed_232 2 rfl ?_
                          refine r_iast d_Mm_feed_234 (q0 := 8) rfl (vp_in_nI (by omega) (by omega)) (f' := fun k => nI (updN qn e oo k)) (by rw [nI_clamp (by omega)]; exact upd_qn) (cs' := [(m, .inr (12, [.int th, .ref mp, .int pt, .ref mf, .ref mh, .ref mn, .ref mt, .ref mz, .ref mc_, .ref mq, .ref mgr, .int cl, .int wa, .int co_, .int fi, .int bu, .int ho, .ref ml, .ref mi, .ref mr, .int lh, .int mg, .int wd, .int fpi, .int fal, .ref mm, .ref mu, .ref mk, .ref mx, .long po, .long de])), (b, .inl (1, 108, .inl f)), (mf, .inl (0, 108, .inl fl)), (mh, .inl (0, 108, .inl he)), (mt, .inl (0, 108, .inl mtt)), (mz, .inl (0, 108, .inl fz)), (mn, .inl (0, 108, .inl nx)), (mc_, .inl (2, 108, .inl (upd ic oo 1))), (mq, .inl (0, 108, .inl (fun k => nI (updN qn e oo k))))]) rfl ?_
                          refine r_iinc (lv' := [(3, .int (nI (e + 1))), (4, .int (lf - 1)), (8, .int 1), (7, .int (nI oo)), (6, .int (nI i)), (5, .int (nI j)), (0, .ref m), (1, .ref b), (2, .int h)]) (v := nI (e + 1)) d_Mm_feed_235 (j := 5) rfl (nI_add _ _) (by decide) rfl ?_
                          refine r_iinc (lv' := [(6, .int (nI (i + 1))), (3, .int (nI (e + 1))), (4, .int (lf - 1)), (8, .int 1), (7, .int (nI oo)), (5, .int (nI j)), (0, .ref m), (1, .ref b), (2, .int h)]) (v := nI (i + 1)) d_Mm_feed_238 (j := 4) rfl (nI_add _ _) (by decide) rfl ?_
                          refine r_goto (tgt := 95) d_Mm_feed_241 (by decide) ?_
                          refine r_lv (lv' := [(6, .int (nI (i + 1))), (5, .int (nI j)), (4, .int (lf - 1)), (3, .int (nI (e + 1))), (0, .ref m), (1, .ref b), (2, .int h)]) [0, 5, 2, 1, 6, 7, 8] rfl ?_
                          exact ih (i + 1) _ _ _ _ _ _ _ _ _ (by omega) (by omega) (qI_up v1 hol c_149) (by omega) (b01_up v3)
                      · refine r_iload d_Mm_feed_195 4 rfl ?_
                        refine r_if_le (tgt := 238) d_Mm_feed_197 (by decide) (fun c_197 => ?_) (fun c_197 => ?_)
                        · refine r_iinc (lv' := [(6, .int (nI (i + 1))), (8, .int 1), (7, .int (nI oo)), (5, .int (nI j)), (4, .int lf), (3, .int (nI e)), (0, .ref m), (1, .ref b), (2, .int h)]) (v := nI (i + 1)) d_Mm_feed_238 (j := 2) rfl (nI_add _ _) (by decide) rfl ?_
                          refine r_goto (tgt := 95) d_Mm_feed_241 (by decide) ?_
                          refine r_lv (lv' := [(6, .int (nI (i + 1))), (5, .int (nI j)), (4, .int lf), (3, .int (nI e)), (0, .ref m), (1, .ref b), (2, .int h)]) [0, 3, 4, 5, 6, 7, 8] rfl ?_
                          exact ih (i + 1) _ _ _ _ _ _ _ _ _ (by omega) (by omega) v1 v2 v3
                        · refine r_aload_n d_Mm_feed_200 rfl 6 rfl ?_
                          refine r_get fs_Mm_33 d_Mm_feed_201 (q0 := 0) rfl rfl ?_
                          refine r_iload d_Mm_feed_204 1 rfl ?_
                          refine r_iconst d_Mm_feed_206 (v := 1) (by decide) ?_
                          refine r_zast d_Mm_feed_207 (q0 := 7) rfl (vp_in_nI (by omega) (by omega)) (f' := upd ic oo 1) (by rw [nI_clamp (by omega)] <;> rfl) (cs' := [(m, .inr (12, [.int th, .ref mp, .int pt, .ref mf, .ref mh, .ref mn, .ref mt, .ref mz, .ref mc_, .ref mq, .ref mgr, .int cl, .int wa, .int co_, .int fi, .int bu, .int ho, .ref ml, .ref mi, .ref mr, .int lh, .int mg, .int wd, .int fpi, .int fal, .ref mm, .ref mu, .ref mk, .ref mx, .long po, .long de])), (b, .inl (1, 108, .inl f)), (mf, .inl (0, 108, .inl fl)), (mh, .inl (0, 108, .inl he)), (mt, .inl (0, 108, .inl mtt)), (mz, .inl (0, 108, .inl fz)), (mn, .inl (0, 108, .inl nx)), (mc_, .inl (2, 108, .inl (upd ic oo 1))), (mq, .inl (0, 108, .inl (fun k => nI (qn k))))]) rfl ?_
                          refine r_iload d_Mm_feed_208 4 rfl ?_
                          refine r_aload_n d_Mm_feed_210 rfl 7 rfl ?_
                          refine r_iload d_Mm_feed_211 1 rfl ?_
                          refine r_cald d_Mm_feed_213 (q0 := 1) rfl (vp_in_nI (by omega) (by omega)) (v := f oo) (by rw [nI_clamp (by omega)]) ?_
                          refine r_bipush d_Mm_feed_214 (v := 99) (by decide) ?_
                          refine r_icmp_ne (tgt := 223) d_Mm_feed_216 (by decide) (fun c_216 => ?_) (fun c_216 => ?_)
                          · refine r_iconst d_Mm_feed_223 (v := 0) (by decide) ?_
                            refine r_isub d_Mm_feed_224 (v := lf - 0) rfl ?_
                            refine r_istore (lv' := [(4, .int (lf - 0)), (8, .int 1), (7, .int (nI oo)), (6, .int (nI i)), (5, .int (nI j)), (3, .int (nI e)), (0, .ref m), (1, .ref b), (2, .int h)]) d_Mm_feed_225 (by decide) rfl ?_
                            refine r_aload_n d_Mm_feed_227 rfl 6 rfl ?_
                            refine r_get fs_Mm_37 d_Mm_feed_228 (q0 := 0) rfl rfl ?_
                            refine r_iload_n d_Mm_feed_231 rfl 5 rfl ?_
                            refine r_iload d_Mm_feed_232 2 rfl ?_
                            refine r_iast d_Mm_feed_234 (q0 := 8) rfl (vp_in_nI (by omega) (by omega)) (f' := fun k => nI (updN qn e oo k)) (by rw [nI_clamp (by omega)]; exact upd_qn) (cs' := [(m, .inr (12, [.int th, .ref mp, .int pt, .ref mf, .ref mh, .ref mn, .ref mt, .ref mz, .ref mc_, .ref mq, .ref mgr, .int cl, .int wa, .int co_, .int fi, .int bu, .int ho, .ref ml, .ref mi, .ref mr, .int lh, .int mg, .int wd, .int fpi, .int fal, .ref mm, .ref mu, .ref mk, .ref mx, .long po, .long de])), (b, .inl (1, 108, .inl f)), (mf, .inl (0, 108, .inl fl)), (mh, .inl (0, 108, .inl he)), (mt, .inl (0, 108, .inl mtt)), (mz, .inl (0, 108, .inl fz)), (mn, .inl (0, 108, .inl nx)), (mc_, .inl (2, 108, .inl (upd ic oo 1))), (mq, .inl (0, 108, .inl (fun k => nI (updN qn e oo k))))]) rfl ?_
                            refine r_iinc (lv' := [(3, .int (nI (e + 1))), (4, .int (lf - 0)), (8, .int 1), (7, .int (nI oo)), (6, .int (nI i)), (5, .int (nI j)), (0, .ref m), (1, .ref b), (2, .int h)]) (v := nI (e + 1)) d_Mm_feed_235 (j := 5) rfl (nI_add _ _) (by decide) rfl ?_
                            refine r_iinc (lv' := [(6, .int (nI (i + 1))), (3, .int (nI (e + 1))), (4, .int (lf - 0)), (8, .int 1), (7, .int (nI oo)), (5, .int (nI j)), (0, .ref m), (1, .ref b), (2, .int h)]) (v := nI (i + 1)) d_Mm_feed_238 (j := 4) rfl (nI_add _ _) (by decide) rfl ?_
                            refine r_goto (tgt := 95) d_Mm_feed_241 (by decide) ?_
                            refine r_lv (lv' := [(6, .int (nI (i + 1))), (5, .int (nI j)), (4, .int (lf - 0)), (3, .int (nI (e + 1))), (0, .ref m), (1, .ref b), (2, .int h)]) [0, 5, 2, 1, 6, 7, 8] rfl ?_
                            exact ih (i + 1) _ _ _ _ _ _ _ _ _ (by omega) (by omega) (qI_up v1 hol c_149) (by omega) (b01_up v3)
                          · refine r_iconst d_Mm_feed_219 (v := 1) (by decide) ?_
                            refine r_goto (tgt := 224) d_Mm_feed_220 (by decide) ?_
                            refine r_isub d_Mm_feed_224 (v := lf - 1) rfl ?_
                            refine r_istore (lv' := [(4, .int (lf - 1)), (8, .int 1), (7, .int (nI oo)), (6, .int (nI i)), (5, .int (nI j)), (3, .int (nI e)), (0, .ref m), (1, .ref b), (2, .int h)]) d_Mm_feed_225 (by decide) rfl ?_
                            refine r_aload_n d_Mm_feed_227 rfl 6 rfl ?_
                            refine r_get fs_Mm_37 d_Mm_feed_228 (q0 := 0) rfl rfl ?_
                            refine r_iload_n d_Mm_feed_231 rfl 5 rfl ?_
                            refine r_iload d_Mm_feed_232 2 rfl ?_
                            refine r_iast d_Mm_feed_234 (q0 := 8) rfl (vp_in_nI (by omega) (by omega)) (f' := fun k => nI (updN qn e oo k)) (by rw [nI_clamp (by omega)]; exact upd_qn) (cs' := [(m, .inr (12, [.int th, .ref mp, .int pt, .ref mf, .ref mh, .ref mn, .ref mt, .ref mz, .ref mc_, .ref mq, .ref mgr, .int cl, .int wa, .int co_, .int fi, .int bu, .int ho, .ref ml, .ref mi, .ref mr, .int lh, .int mg, .int wd, .int fpi, .int fal, .ref mm, .ref mu, .ref mk, .ref mx, .long po, .long de])), (b, .inl (1, 108, .inl f)), (mf, .inl (0, 108, .inl fl)), (mh, .inl (0, 108, .inl he)), (mt, .inl (0, 108, .inl mtt)), (mz, .inl (0, 108, .inl fz)), (mn, .inl (0, 108, .inl nx)), (mc_, .inl (2, 108, .inl (upd ic oo 1))), (mq, .inl (0, 108, .inl (fun k => nI (updN qn e oo k))))]) rfl ?_
                            refine r_iinc (lv' := [(3, .int (nI (e + 1))), (4, .int (lf - 1)), (8, .int 1), (7, .int (nI oo)), (6, .int (nI i)), (5, .int (nI j)), (0, .ref m), (1, .ref b), (2, .int h)]) (v := nI (e + 1)) d_Mm_feed_235 (j := 5) rfl (nI_add _ _) (by decide) rfl ?_
                            refine r_iinc (lv' := [(6, .int (nI (i + 1))), (3, .int (nI (e + 1))), (4, .int (lf - 1)), (8, .int 1), (7, .int (nI oo)), (5, .int (nI j)), (0, .ref m), (1, .ref b), (2, .int h)]) (v := nI (i + 1)) d_Mm_feed_238 (j := 4) rfl (nI_add _ _) (by decide) rfl ?_
                            refine r_goto (tgt := 95) d_Mm_feed_241 (by decide) ?_
                            refine r_lv (lv' := [(6, .int (nI (i + 1))), (5, .int (nI j)), (4, .int (lf - 1)), (3, .int (nI (e + 1))), (0, .ref m), (1, .ref b), (2, .int h)]) [0, 5, 2, 1, 6, 7, 8] rfl ?_
                            exact ih (i + 1) _ _ _ _ _ _ _ _ _ (by omega) (by omega) (qI_up v1 hol c_149) (by omega) (b01_up v3)
set_option maxHeartbeats 4000000 in
set_option maxRecDepth 100000 in
theorem L_Mm_feedW_86 (g : zG) (m mp mf mh mn mt mz mc_ mq mgr ml mi mr mm mu mk mx : Nat) (th pt cl wa co_ fi bu ho lh mg wd fpi fal : Int32) (po de : Int64) (b : Nat) (f : Nat → Int32) (fl : Nat → Int32) (he nx mtt fz ic : Nat → Int32) (qn : Nat → Nat) (h : Int32) (w0 : zW) (n : Nat) : ∀ (d j : Nat) (fl he nx mtt fz ic : Nat → Int32) (qn : Nat → Nat) (e : Nat) (lf : Int32), qI ic qn e → j ≤ e → b01 ic 108 → 108 < j + d → DV g M_Mm_feed (fun o cs1 => ∃ (fl9 he9 nx9 mt9 fz9 ic9 : Nat → Int32) (qn9 : Nat → Nat), b01 ic9 108 ∧ o = .inl none ∧ cs1 = [(m, .inr (12, [.int th, .ref mp, .int pt, .ref mf, .ref mh, .ref mn, .ref mt, .ref mz, .ref mc_, .ref mq, .ref mgr, .int cl, .int wa, .int co_, .int fi, .int bu, .int ho, .ref ml, .ref mi, .ref mr, .int lh, .int mg, .int wd, .int fpi, .int fal, .ref mm, .ref mu, .ref mk, .ref mx, .long po, .long de])), (b, .inl (1, 108, .inl f)), (mf, .inl (0, 108, .inl fl9)), (mh, .inl (0, 108, .inl he9)), (mt, .inl (0, 108, .inl mt9)), (mz, .inl (0, 108, .inl fz9)), (mn, .inl (0, 108, .inl nx9)), (mc_, .inl (2, 108, .inl ic9)), (mq, .inl (0, 108, .inl (fun k => nI (qn9 k))))]) w0 n 86 [(5, .int (nI j)), (4, .int lf), (3, .int (nI e)), (0, .ref m), (1, .ref b), (2, .int h)] [] [(m, .inr (12, [.int th, .ref mp, .int pt, .ref mf, .ref mh, .ref mn, .ref mt, .ref mz, .ref mc_, .ref mq, .ref mgr, .int cl, .int wa, .int co_, .int fi, .int bu, .int ho, .ref ml, .ref mi, .ref mr, .int lh, .int mg, .int wd, .int fpi, .int fal, .ref mm, .ref mu, .ref mk, .ref mx, .long po, .long de])), (b, .inl (1, 108, .inl f)), (mf, .inl (0, 108, .inl fl)), (mh, .inl (0, 108, .inl he)), (mt, .inl (0, 108, .inl mtt)), (mz, .inl (0, 108, .inl fz)), (mn, .inl (0, 108, .inl nx)), (mc_, .inl (2, 108, .inl ic)), (mq, .inl (0, 108, .inl (fun k => nI (qn k))))] 0 0 := by
  intro d
  induction d with
  | zero => intro j fl he nx mtt fz ic qn e lf v1 v2 v3 h1; exact absurd h1 (by have := qI_le v1; omega)
  | succ d ih =>
    intro j fl he nx mtt fz ic qn e lf v1 v2 v3 h1
    refine r_iload d_Mm_feed_86 0 rfl ?_
    refine r_iload_n d_Mm_feed_88 rfl 2 rfl ?_
    refine r_icmp_ge (tgt := 250) d_Mm_feed_89 (by decide) (fun c_89 => ?_) (fun c_89 => ?_)
    · refine r_vret d_Mm_feed_250 rfl ?_
      exact ⟨_, _, _, _, _, _, _, v3, rfl, rfl⟩
    · have he9 := qI_le v1
      have hn := z_nle (a := e) (by omega) (by omega) c_89
      have hq9 := v1.1 j hn
      refine r_iconst d_Mm_feed_92 (v := 0) (by decide) ?_
      refine r_istore (lv' := [(6, .int 0), (5, .int (nI j)), (4, .int lf), (3, .int (nI e)), (0, .ref m), (1, .ref b), (2, .int h)]) d_Mm_feed_93 (by decide) rfl ?_
      refine L_Mm_feedW_95 g m mp mf mh mn mt mz mc_ mq mgr ml mi mr mm mu mk mx th pt cl wa co_ fi bu ho lh mg wd fpi fal po de b f fl he nx mtt fz ic qn h w0 _ j (fun fl he nx mtt fz ic qn e lf k95_1 k95_2 k95_3 => ?_) (4 + 1) 0 _ _ _ _ _ _ _ _ _ (Nat.zero_le _) (by omega) v1 hn v3
      refine r_iinc (lv' := [(5, .int (nI (j + 1))), (4, .int lf), (3, .int (nI e)), (0, .ref m), (1, .ref b), (2, .int h)]) (v := nI (j + 1)) d_Mm_feed_244 (j := 0) rfl (nI_add _ _) (by decide) rfl ?_
      refine r_goto (tgt := 86) d_Mm_feed_247 (by decide) ?_
      exact ih (j + 1) _ _ _ _ _ _ _ _ _ k95_1 k95_2 k95_3 (by omega)
set_option maxHeartbeats 4000000 in
set_option maxRecDepth 100000 in
theorem L_Mm_feedW_11 (g : zG) (m mp mf mh mn mt mz mc_ mq mgr ml mi mr mm mu mk mx : Nat) (th pt cl wa co_ fi bu ho lh mg wd fpi fal : Int32) (po de : Int64) (b : Nat) (f : Nat → Int32) (fl : Nat → Int32) (he nx mtt fz ic : Nat → Int32) (qn : Nat → Nat) (h : Int32) (w0 : zW) (n : Nat) : ∀ (d i : Nat) (fl he nx mtt fz ic : Nat → Int32) (qn : Nat → Nat) (e : Nat), i ≤ 108 → 108 < i + d → qJ ic qn e i → b01 ic i → DV g M_Mm_feed (fun o cs1 => ∃ (fl9 he9 nx9 mt9 fz9 ic9 : Nat → Int32) (qn9 : Nat → Nat), b01 ic9 108 ∧ o = .inl none ∧ cs1 = [(m, .inr (12, [.int th, .ref mp, .int pt, .ref mf, .ref mh, .ref mn, .ref mt, .ref mz, .ref mc_, .ref mq, .ref mgr, .int cl, .int wa, .int co_, .int fi, .int bu, .int ho, .ref ml, .ref mi, .ref mr, .int lh, .int mg, .int wd, .int fpi, .int fal, .ref mm, .ref mu, .ref mk, .ref mx, .long po, .long de])), (b, .inl (1, 108, .inl f)), (mf, .inl (0, 108, .inl fl9)), (mh, .inl (0, 108, .inl he9)), (mt, .inl (0, 108, .inl mt9)), (mz, .inl (0, 108, .inl fz9)), (mn, .inl (0, 108, .inl nx9)), (mc_, .inl (2, 108, .inl ic9)), (mq, .inl (0, 108, .inl (fun k => nI (qn9 k))))]) w0 n 11 [(4, .int (nI i)), (3, .int (nI e)), (0, .ref m), (1, .ref b), (2, .int h)] [] [(m, .inr (12, [.int th, .ref mp, .int pt, .ref mf, .ref mh, .ref mn, .ref mt, .ref mz, .ref mc_, .ref mq, .ref mgr, .int cl, .int wa, .int co_, .int fi, .int bu, .int ho, .ref ml, .ref mi, .ref mr, .int lh, .int mg, .int wd, .int fpi, .int fal, .ref mm, .ref mu, .ref mk, .ref mx, .long po, .long de])), (b, .inl (1, 108, .inl f)), (mf, .inl (0, 108, .inl fl)), (mh, .inl (0, 108, .inl he)), (mt, .inl (0, 108, .inl mtt)), (mz, .inl (0, 108, .inl fz)), (mn, .inl (0, 108, .inl nx)), (mc_, .inl (2, 108, .inl ic)), (mq, .inl (0, 108, .inl (fun k => nI (qn k))))] 0 0 := by
  intro d
  induction d with
  | zero => intro i fl he nx mtt fz ic qn e h1 h2 v1 v2; exact absurd h2 (by omega)
  | succ d ih =>
    intro i fl he nx mtt fz ic qn e h1 h2 v1 v2
    refine r_iload d_Mm_feed_11 0 rfl ?_
    refine r_bipush d_Mm_feed_13 (v := 108) (by decide) ?_
    refine r_icmp_ge (tgt := 77) d_Mm_feed_15 (by decide) (fun c_15 => ?_) (fun c_15 => ?_)
    · have hn := z_le (a := 108) (by omega) (by decide) c_15
      obtain rfl : i = 108 := by omega
      refine r_bipush d_Mm_feed_77 (v := 10) (by decide) ?_
      refine r_iload_n d_Mm_feed_79 rfl 1 rfl ?_
      refine r_imul d_Mm_feed_80 (v := 10 * nI e) rfl ?_
      refine r_istore (lv' := [(4, .int (10 * nI e)), (3, .int (nI e)), (0, .ref m), (1, .ref b), (2, .int h)]) d_Mm_feed_81 (by decide) rfl ?_
      refine r_iconst d_Mm_feed_83 (v := 0) (by decide) ?_
      refine r_istore (lv' := [(5, .int 0), (4, .int (10 * nI e)), (3, .int (nI e)), (0, .ref m), (1, .ref b), (2, .int h)]) d_Mm_feed_84 (by decide) rfl ?_
      exact L_Mm_feedW_86 g m mp mf mh mn mt mz mc_ mq mgr ml mi mr mm mu mk mx th pt cl wa co_ fi bu ho lh mg wd fpi fal po de b f fl he nx mtt fz ic qn h w0 _ 109 0 _ _ _ _ _ _ _ _ _ (qJ_e v1) (Nat.zero_le _) v2 (by omega)
    · have hn := z_nle (a := 108) (by omega) (by decide) c_15
      have hej := qJ_le v1
      refine r_aload_n d_Mm_feed_18 rfl 2 rfl ?_
      refine r_get fs_Mm_33 d_Mm_feed_19 (q0 := 0) rfl rfl ?_
      refine r_iload d_Mm_feed_22 0 rfl ?_
      refine r_aload_n d_Mm_feed_24 rfl 3 rfl ?_
      refine r_iload d_Mm_feed_25 0 rfl ?_
      refine r_cald d_Mm_feed_27 (q0 := 1) rfl (vp_in_nI (by omega) (by omega)) (v := f i) (by rw [nI_clamp (by omega)]) ?_
      refine r_bipush d_Mm_feed_28 (v := 114) (by decide) ?_
      refine r_icmp_ne (tgt := 48) d_Mm_feed_30 (by decide) (fun c_30 => ?_) (fun c_30 => ?_)
      · refine r_iconst d_Mm_feed_48 (v := 0) (by decide) ?_
        refine r_zast d_Mm_feed_49 (q0 := 7) rfl (vp_in_nI (by omega) (by omega)) (f' := upd ic i 0) (by rw [nI_clamp (by omega)] <;> rfl) (cs' := [(m, .inr (12, [.int th, .ref mp, .int pt, .ref mf, .ref mh, .ref mn, .ref mt, .ref mz, .ref mc_, .ref mq, .ref mgr, .int cl, .int wa, .int co_, .int fi, .int bu, .int ho, .ref ml, .ref mi, .ref mr, .int lh, .int mg, .int wd, .int fpi, .int fal, .ref mm, .ref mu, .ref mk, .ref mx, .long po, .long de])), (b, .inl (1, 108, .inl f)), (mf, .inl (0, 108, .inl fl)), (mh, .inl (0, 108, .inl he)), (mt, .inl (0, 108, .inl mtt)), (mz, .inl (0, 108, .inl fz)), (mn, .inl (0, 108, .inl nx)), (mc_, .inl (2, 108, .inl (upd ic i 0))), (mq, .inl (0, 108, .inl (fun k => nI (qn k))))]) rfl ?_
        refine r_aload_n d_Mm_feed_50 rfl 2 rfl ?_
        refine r_get fs_Mm_33 d_Mm_feed_51 (q0 := 0) rfl rfl ?_
        refine r_iload d_Mm_feed_54 0 rfl ?_
        refine r_zald d_Mm_feed_56 (q0 := 7) rfl (vp_in_nI (by omega) (by omega)) (v := (upd ic i 0) i) (by rw [nI_clamp (by omega)]) ?_
        refine r_if_eq (tgt := 71) d_Mm_feed_57 (by decide) (fun c_57 => ?_) (fun c_57 => ?_)
        · refine r_iinc (lv' := [(4, .int (nI (i + 1))), (3, .int (nI e)), (0, .ref m), (1, .ref b), (2, .int h)]) (v := nI (i + 1)) d_Mm_feed_71 (j := 0) rfl (nI_add _ _) (by decide) rfl ?_
          refine r_goto (tgt := 11) d_Mm_feed_74 (by decide) ?_
          exact ih (i + 1) _ _ _ _ _ _ _ _ (by omega) (by omega) (qJ_0 v1) (b01_s (Or.inl rfl) v2)
        · exact absurd (show upd ic i 0 i = 0 from if_pos rfl) c_57
      · refine r_aload_n d_Mm_feed_33 rfl 2 rfl ?_
        refine r_get fs_Mm_17 d_Mm_feed_34 (q0 := 0) rfl rfl ?_
        refine r_iload d_Mm_feed_37 0 rfl ?_
        refine r_iald d_Mm_feed_39 (q0 := 2) rfl (vp_in_nI (by omega) (by omega)) (v := fl i) (by rw [nI_clamp (by omega)]) ?_
        refine r_iconst d_Mm_feed_40 (v := (-1)) (by decide) ?_
        refine r_icmp_eq (tgt := 48) d_Mm_feed_41 (by decide) (fun c_41 => ?_) (fun c_41 => ?_)
        · refine r_iconst d_Mm_feed_48 (v := 0) (by decide) ?_
          refine r_zast d_Mm_feed_49 (q0 := 7) rfl (vp_in_nI (by omega) (by omega)) (f' := upd ic i 0) (by rw [nI_clamp (by omega)] <;> rfl) (cs' := [(m, .inr (12, [.int th, .ref mp, .int pt, .ref mf, .ref mh, .ref mn, .ref mt, .ref mz, .ref mc_, .ref mq, .ref mgr, .int cl, .int wa, .int co_, .int fi, .int bu, .int ho, .ref ml, .ref mi, .ref mr, .int lh, .int mg, .int wd, .int fpi, .int fal, .ref mm, .ref mu, .ref mk, .ref mx, .long po, .long de])), (b, .inl (1, 108, .inl f)), (mf, .inl (0, 108, .inl fl)), (mh, .inl (0, 108, .inl he)), (mt, .inl (0, 108, .inl mtt)), (mz, .inl (0, 108, .inl fz)), (mn, .inl (0, 108, .inl nx)), (mc_, .inl (2, 108, .inl (upd ic i 0))), (mq, .inl (0, 108, .inl (fun k => nI (qn k))))]) rfl ?_
          refine r_aload_n d_Mm_feed_50 rfl 2 rfl ?_
          refine r_get fs_Mm_33 d_Mm_feed_51 (q0 := 0) rfl rfl ?_
          refine r_iload d_Mm_feed_54 0 rfl ?_
          refine r_zald d_Mm_feed_56 (q0 := 7) rfl (vp_in_nI (by omega) (by omega)) (v := (upd ic i 0) i) (by rw [nI_clamp (by omega)]) ?_
          refine r_if_eq (tgt := 71) d_Mm_feed_57 (by decide) (fun c_57 => ?_) (fun c_57 => ?_)
          · refine r_iinc (lv' := [(4, .int (nI (i + 1))), (3, .int (nI e)), (0, .ref m), (1, .ref b), (2, .int h)]) (v := nI (i + 1)) d_Mm_feed_71 (j := 0) rfl (nI_add _ _) (by decide) rfl ?_
            refine r_goto (tgt := 11) d_Mm_feed_74 (by decide) ?_
            exact ih (i + 1) _ _ _ _ _ _ _ _ (by omega) (by omega) (qJ_0 v1) (b01_s (Or.inl rfl) v2)
          · exact absurd (show upd ic i 0 i = 0 from if_pos rfl) c_57
        · refine r_iconst d_Mm_feed_44 (v := 1) (by decide) ?_
          refine r_goto (tgt := 49) d_Mm_feed_45 (by decide) ?_
          refine r_zast d_Mm_feed_49 (q0 := 7) rfl (vp_in_nI (by omega) (by omega)) (f' := upd ic i 1) (by rw [nI_clamp (by omega)] <;> rfl) (cs' := [(m, .inr (12, [.int th, .ref mp, .int pt, .ref mf, .ref mh, .ref mn, .ref mt, .ref mz, .ref mc_, .ref mq, .ref mgr, .int cl, .int wa, .int co_, .int fi, .int bu, .int ho, .ref ml, .ref mi, .ref mr, .int lh, .int mg, .int wd, .int fpi, .int fal, .ref mm, .ref mu, .ref mk, .ref mx, .long po, .long de])), (b, .inl (1, 108, .inl f)), (mf, .inl (0, 108, .inl fl)), (mh, .inl (0, 108, .inl he)), (mt, .inl (0, 108, .inl mtt)), (mz, .inl (0, 108, .inl fz)), (mn, .inl (0, 108, .inl nx)), (mc_, .inl (2, 108, .inl (upd ic i 1))), (mq, .inl (0, 108, .inl (fun k => nI (qn k))))]) rfl ?_
          refine r_aload_n d_Mm_feed_50 rfl 2 rfl ?_
          refine r_get fs_Mm_33 d_Mm_feed_51 (q0 := 0) rfl rfl ?_
          refine r_iload d_Mm_feed_54 0 rfl ?_
          refine r_zald d_Mm_feed_56 (q0 := 7) rfl (vp_in_nI (by omega) (by omega)) (v := (upd ic i 1) i) (by rw [nI_clamp (by omega)]) ?_
          refine r_if_eq (tgt := 71) d_Mm_feed_57 (by decide) (fun c_57 => ?_) (fun c_57 => ?_)
          · exact absurd c_57 (by rw [show upd ic i 1 i = 1 from if_pos rfl]; decide)
          · refine r_aload_n d_Mm_feed_60 rfl 2 rfl ?_
            refine r_get fs_Mm_37 d_Mm_feed_61 (q0 := 0) rfl rfl ?_
            refine r_iload_n d_Mm_feed_64 rfl 1 rfl ?_
            refine r_iload d_Mm_feed_65 0 rfl ?_
            refine r_iast d_Mm_feed_67 (q0 := 8) rfl (vp_in_nI (by omega) (by omega)) (f' := fun k => nI (updN qn e i k)) (by rw [nI_clamp (by omega)]; exact upd_qn) (cs' := [(m, .inr (12, [.int th, .ref mp, .int pt, .ref mf, .ref mh, .ref mn, .ref mt, .ref mz, .ref mc_, .ref mq, .ref mgr, .int cl, .int wa, .int co_, .int fi, .int bu, .int ho, .ref ml, .ref mi, .ref mr, .int lh, .int mg, .int wd, .int fpi, .int fal, .ref mm, .ref mu, .ref mk, .ref mx, .long po, .long de])), (b, .inl (1, 108, .inl f)), (mf, .inl (0, 108, .inl fl)), (mh, .inl (0, 108, .inl he)), (mt, .inl (0, 108, .inl mtt)), (mz, .inl (0, 108, .inl fz)), (mn, .inl (0, 108, .inl nx)), (mc_, .inl (2, 108, .inl (upd ic i 1))), (mq, .inl (0, 108, .inl (fun k => nI (updN qn e i k))))]) rfl ?_
            refine r_iinc (lv' := [(3, .int (nI (e + 1))), (4, .int (nI i)), (0, .ref m), (1, .ref b), (2, .int h)]) (v := nI (e + 1)) d_Mm_feed_68 (j := 1) rfl (nI_add _ _) (by decide) rfl ?_
            refine r_iinc (lv' := [(4, .int (nI (i + 1))), (3, .int (nI (e + 1))), (0, .ref m), (1, .ref b), (2, .int h)]) (v := nI (i + 1)) d_Mm_feed_71 (j := 1) rfl (nI_add _ _) (by decide) rfl ?_
            refine r_goto (tgt := 11) d_Mm_feed_74 (by decide) ?_
            exact ih (i + 1) _ _ _ _ _ _ _ _ (by omega) (by omega) (qJ_1 hn v1) (b01_s (Or.inr rfl) v2)
set_option maxHeartbeats 4000000 in
set_option maxRecDepth 100000 in
theorem C_Mm_feedW (g : zG) (m mp mf mh mn mt mz mc_ mq mgr ml mi mr mm mu mk mx : Nat) (th pt cl wa co_ fi bu ho lh mg wd fpi fal : Int32) (po de : Int64) (b : Nat) (f : Nat → Int32) (fl : Nat → Int32) (he nx mtt fz ic : Nat → Int32) (qn : Nat → Nat) (h : Int32) : CT g M_Mm_feed [.ref m, .ref b, .int h] [(m, .inr (12, [.int th, .ref mp, .int pt, .ref mf, .ref mh, .ref mn, .ref mt, .ref mz, .ref mc_, .ref mq, .ref mgr, .int cl, .int wa, .int co_, .int fi, .int bu, .int ho, .ref ml, .ref mi, .ref mr, .int lh, .int mg, .int wd, .int fpi, .int fal, .ref mm, .ref mu, .ref mk, .ref mx, .long po, .long de])), (b, .inl (1, 108, .inl f)), (mf, .inl (0, 108, .inl fl)), (mh, .inl (0, 108, .inl he)), (mt, .inl (0, 108, .inl mtt)), (mz, .inl (0, 108, .inl fz)), (mn, .inl (0, 108, .inl nx)), (mc_, .inl (2, 108, .inl ic)), (mq, .inl (0, 108, .inl (fun k => nI (qn k))))] (fun o cs1 => ∃ (fl9 he9 nx9 mt9 fz9 ic9 : Nat → Int32) (qn9 : Nat → Nat), b01 ic9 108 ∧ o = .inl none ∧ cs1 = [(m, .inr (12, [.int th, .ref mp, .int pt, .ref mf, .ref mh, .ref mn, .ref mt, .ref mz, .ref mc_, .ref mq, .ref mgr, .int cl, .int wa, .int co_, .int fi, .int bu, .int ho, .ref ml, .ref mi, .ref mr, .int lh, .int mg, .int wd, .int fpi, .int fal, .ref mm, .ref mu, .ref mk, .ref mx, .long po, .long de])), (b, .inl (1, 108, .inl f)), (mf, .inl (0, 108, .inl fl9)), (mh, .inl (0, 108, .inl he9)), (mt, .inl (0, 108, .inl mt9)), (mz, .inl (0, 108, .inl fz9)), (mn, .inl (0, 108, .inl nx9)), (mc_, .inl (2, 108, .inl ic9)), (mq, .inl (0, 108, .inl (fun k => nI (qn9 k))))]) 0 0 := by
  refine z_of (by decide) rfl (Nat.le_of_ble_eq_true rfl) (fun w0 => ?_)
  refine r_lvE (lv2 := [(0, .ref m), (1, .ref b), (2, .int h)]) rfl ?_
  refine r_aload_n d_Mm_feed_0 rfl 0 rfl ?_
  refine r_aload_n d_Mm_feed_1 rfl 1 rfl ?_
  refine r_iload_n d_Mm_feed_2 rfl 2 rfl ?_
  refine r_callV (As := [.ref b, .int h]) (rest := []) (csC := [(m, .inr (12, [.int th, .ref mp, .int pt, .ref mf, .ref mh, .ref mn, .ref mt, .ref mz, .ref mc_, .ref mq, .ref mgr, .int cl, .int wa, .int co_, .int fi, .int bu, .int ho, .ref ml, .ref mi, .ref mr, .int lh, .int mg, .int wd, .int fpi, .int fal, .ref mm, .ref mu, .ref mk, .ref mx, .long po, .long de])), (b, .inl (1, 108, .inl f)), (mf, .inl (0, 108, .inl fl)), (mh, .inl (0, 108, .inl he)), (mt, .inl (0, 108, .inl mtt)), (mz, .inl (0, 108, .inl fz)), (mn, .inl (0, 108, .inl nx))]) (is := [0, 1, 2, 3, 4, 5, 6]) (q0 := 0) rfl rfl ln_Mm_167 w_im_Mm_freeze w_se_Mm_freeze ok_Mm_feed_Mm_freeze d_Mm_feed_3 (C_Mm_freezeW g m mp mf mh mn mt mz mc_ mq mgr ml mi mr mm mu mk mx th pt cl wa co_ fi bu ho lh mg wd fpi fal po de b f fl he nx mtt fz h) rfl rfl (Nat.le_of_ble_eq_true rfl) rfl (by decide) (by omega) (by omega) (fun E cs1 hx => ?_) (fun v cs1 hx => ?_)
  · obtain ⟨fl9, he9, nx9, mt9, fz9, e1, -⟩ := hx
    cases e1
  · obtain ⟨fl9, he9, nx9, mt9, fz9, e1, rfl⟩ := hx
    cases e1
    refine ⟨rfl, ?_⟩
    refine r_st (st2 := []) rfl ?_
    refine r_cs (cs2 := [(m, .inr (12, [.int th, .ref mp, .int pt, .ref mf, .ref mh, .ref mn, .ref mt, .ref mz, .ref mc_, .ref mq, .ref mgr, .int cl, .int wa, .int co_, .int fi, .int bu, .int ho, .ref ml, .ref mi, .ref mr, .int lh, .int mg, .int wd, .int fpi, .int fal, .ref mm, .ref mu, .ref mk, .ref mx, .long po, .long de])), (b, .inl (1, 108, .inl f)), (mf, .inl (0, 108, .inl fl9)), (mh, .inl (0, 108, .inl he9)), (mt, .inl (0, 108, .inl mt9)), (mz, .inl (0, 108, .inl fz9)), (mn, .inl (0, 108, .inl nx9)), (mc_, .inl (2, 108, .inl ic)), (mq, .inl (0, 108, .inl (fun k => nI (qn k))))]) rfl ?_
    refine r_iconst d_Mm_feed_6 (v := 0) (by decide) ?_
    refine r_istore_n (lv' := [(3, .int 0), (0, .ref m), (1, .ref b), (2, .int h)]) d_Mm_feed_7 rfl (by decide) rfl ?_
    refine r_iconst d_Mm_feed_8 (v := 0) (by decide) ?_
    refine r_istore (lv' := [(4, .int 0), (3, .int 0), (0, .ref m), (1, .ref b), (2, .int h)]) d_Mm_feed_9 (by decide) rfl ?_
    exact L_Mm_feedW_11 g m mp mf mh mn mt mz mc_ mq mgr ml mi mr mm mu mk mx th pt cl wa co_ fi bu ho lh mg wd fpi fal po de b f fl he nx mtt fz ic qn h w0 _  (108 + 1) 0 _ _ _ _ _ _ _ 0 (Nat.zero_le _) (by omega) (⟨fun k hk => absurd hk (by omega), Nat.zero_le _⟩) (fun k hk => absurd hk (by omega))
theorem d_Mm_shrunkOf_28 : decode prog_14_method_37_code 28 = .ok (.aload_n 0, 1) := zo_42 (zd_b zq_prog_14_method_37_code_0 28 rfl rfl rfl)
theorem d_Mm_shrunkOf_29 : decode prog_14_method_37_code 29 = .ok (.getfield 17, 3) := zo_180 (d := 0) (e := 17) (zd_b zq_prog_14_method_37_code_0 29 rfl rfl rfl) (zd_b zq_prog_14_method_37_code_0 30 rfl rfl rfl) (zd_b zq_prog_14_method_37_code_0 31 rfl rfl rfl)
theorem d_Mm_shrunkOf_32 : decode prog_14_method_37_code 32 = .ok (.iload 4, 2) := zo_21 (d := 4) (zd_b zq_prog_14_method_37_code_1 0 rfl rfl rfl) (zd_b zq_prog_14_method_37_code_1 1 rfl rfl rfl)
theorem d_Mm_shrunkOf_34 : decode prog_14_method_37_code 34 = .ok (.iaload, 1) := zo_46 (zd_b zq_prog_14_method_37_code_1 2 rfl rfl rfl)
theorem d_Mm_shrunkOf_35 : decode prog_14_method_37_code 35 = .ok (.iconst (-1), 1) := zo_2 (zd_b zq_prog_14_method_37_code_1 3 rfl rfl rfl)
theorem d_Mm_shrunkOf_36 : decode prog_14_method_37_code 36 = .ok (.if_icmp .eq 17, 3) := zo_159 (d := 0) (e := 17) (zd_b zq_prog_14_method_37_code_1 4 rfl rfl rfl) (zd_b zq_prog_14_method_37_code_1 5 rfl rfl rfl) (zd_b zq_prog_14_method_37_code_1 6 rfl rfl rfl) (by decide +kernel)
theorem d_Mm_shrunkOf_39 : decode prog_14_method_37_code 39 = .ok (.aload_n 0, 1) := zo_42 (zd_b zq_prog_14_method_37_code_1 7 rfl rfl rfl)
theorem d_Mm_shrunkOf_40 : decode prog_14_method_37_code 40 = .ok (.getfield 33, 3) := zo_180 (d := 0) (e := 33) (zd_b zq_prog_14_method_37_code_1 8 rfl rfl rfl) (zd_b zq_prog_14_method_37_code_1 9 rfl rfl rfl) (zd_b zq_prog_14_method_37_code_1 10 rfl rfl rfl)
theorem d_Mm_shrunkOf_43 : decode prog_14_method_37_code 43 = .ok (.iload 4, 2) := zo_21 (d := 4) (zd_b zq_prog_14_method_37_code_1 11 rfl rfl rfl) (zd_b zq_prog_14_method_37_code_1 12 rfl rfl rfl)
theorem d_Mm_shrunkOf_45 : decode prog_14_method_37_code 45 = .ok (.baload, 1) := zo_51 (zd_b zq_prog_14_method_37_code_1 13 rfl rfl rfl)
theorem d_Mm_shrunkOf_46 : decode prog_14_method_37_code 46 = .ok (.ifCond .ne 7, 3) := zo_154 (d := 0) (e := 7) (zd_b zq_prog_14_method_37_code_1 14 rfl rfl rfl) (zd_b zq_prog_14_method_37_code_1 15 rfl rfl rfl) (zd_b zq_prog_14_method_37_code_1 16 rfl rfl rfl) (by decide +kernel)
theorem d_Mm_shrunkOf_49 : decode prog_14_method_37_code 49 = .ok (.iconst 1, 1) := zo_4 (zd_b zq_prog_14_method_37_code_1 17 rfl rfl rfl)
theorem d_Mm_shrunkOf_50 : decode prog_14_method_37_code 50 = .ok (.goto 4, 3) := zo_167 (d := 0) (e := 4) (zd_b zq_prog_14_method_37_code_1 18 rfl rfl rfl) (zd_b zq_prog_14_method_37_code_1 19 rfl rfl rfl) (zd_b zq_prog_14_method_37_code_1 20 rfl rfl rfl) (by decide +kernel)
set_option maxHeartbeats 4000000 in
set_option maxRecDepth 100000 in
theorem L_Mm_shrunkOfW_11 (g : zG) (m mp mf mh mn mt mz mc_ mq mgr ml mi mr mm mu mk mx : Nat) (th pt cl wa co_ fi bu ho lh mg wd fpi fal : Int32) (po de : Int64) (b : Nat) (f : Nat → Int32) (fl : Nat → Int32) (he nx mtt fz ic : Nat → Int32) (qn : Nat → Nat) (h : Int32) (w0 : zW) (n : Nat) : ∀ (d i : Nat) (fl he nx mtt fz ic : Nat → Int32) (qn : Nat → Nat) (nn : Int32), i ≤ 108 → 108 < i + d → DV g M_Mm_shrunkOf (fun o cs1 => ∃ (v9 : Int32) (fl9 he9 nx9 mt9 fz9 ic9 : Nat → Int32) (qn9 : Nat → Nat), o = .inl (some (.int v9)) ∧ cs1 = [(m, .inr (12, [.int th, .ref mp, .int pt, .ref mf, .ref mh, .ref mn, .ref mt, .ref mz, .ref mc_, .ref mq, .ref mgr, .int cl, .int wa, .int co_, .int fi, .int bu, .int ho, .ref ml, .ref mi, .ref mr, .int lh, .int mg, .int wd, .int fpi, .int fal, .ref mm, .ref mu, .ref mk, .ref mx, .long po, .long de])), (b, .inl (1, 108, .inl f)), (mf, .inl (0, 108, .inl fl9)), (mh, .inl (0, 108, .inl he9)), (mt, .inl (0, 108, .inl mt9)), (mz, .inl (0, 108, .inl fz9)), (mn, .inl (0, 108, .inl nx9)), (mc_, .inl (2, 108, .inl ic9)), (mq, .inl (0, 108, .inl (fun k => nI (qn9 k))))]) w0 n 11 [(4, .int (nI i)), (3, .int nn), (0, .ref m), (1, .ref b), (2, .int h)] [] [(m, .inr (12, [.int th, .ref mp, .int pt, .ref mf, .ref mh, .ref mn, .ref mt, .ref mz, .ref mc_, .ref mq, .ref mgr, .int cl, .int wa, .int co_, .int fi, .int bu, .int ho, .ref ml, .ref mi, .ref mr, .int lh, .int mg, .int wd, .int fpi, .int fal, .ref mm, .ref mu, .ref mk, .ref mx, .long po, .long de])), (b, .inl (1, 108, .inl f)), (mf, .inl (0, 108, .inl fl)), (mh, .inl (0, 108, .inl he)), (mt, .inl (0, 108, .inl mtt)), (mz, .inl (0, 108, .inl fz)), (mn, .inl (0, 108, .inl nx)), (mc_, .inl (2, 108, .inl ic)), (mq, .inl (0, 108, .inl (fun k => nI (qn k))))] 0 0 := by
  intro d
  induction d with
  | zero => intro i fl he nx mtt fz ic qn nn h1 h2 ; exact absurd h2 (by omega)
  | succ d ih =>
    intro i fl he nx mtt fz ic qn nn h1 h2 
    refine r_iload d_Mm_shrunkOf_11 0 rfl ?_
    refine r_bipush d_Mm_shrunkOf_13 (v := 108) (by decide) ?_
    refine r_icmp_ge (tgt := 62) d_Mm_shrunkOf_15 (by decide) (fun c_15 => ?_) (fun c_15 => ?_)
    · have hn := z_le (a := 108) (by omega) (by decide) c_15
      obtain rfl : i = 108 := by omega
      refine r_iload_n d_Mm_shrunkOf_62 rfl 1 rfl ?_
      refine r_iret d_Mm_shrunkOf_63 rfl rfl ?_
      exact ⟨_, _, _, _, _, _, _, _, rfl, rfl⟩
    · have hn := z_nle (a := 108) (by omega) (by decide) c_15
      refine r_iload_n d_Mm_shrunkOf_18 rfl 1 rfl ?_
      refine r_aload_n d_Mm_shrunkOf_19 rfl 3 rfl ?_
      refine r_iload d_Mm_shrunkOf_20 0 rfl ?_
      refine r_cald d_Mm_shrunkOf_22 (q0 := 1) rfl (vp_in_nI (by omega) (by omega)) (v := f i) (by rw [nI_clamp (by omega)]) ?_
      refine r_bipush d_Mm_shrunkOf_23 (v := 99) (by decide) ?_
      refine r_icmp_ne (tgt := 53) d_Mm_shrunkOf_25 (by decide) (fun c_25 => ?_) (fun c_25 => ?_)
      · refine r_iconst d_Mm_shrunkOf_53 (v := 0) (by decide) ?_
        refine r_iadd d_Mm_shrunkOf_54 (v := nn + 0) rfl ?_
        refine r_istore_n (lv' := [(3, .int (nn + 0)), (4, .int (nI i)), (0, .ref m), (1, .ref b), (2, .int h)]) d_Mm_shrunkOf_55 rfl (by decide) rfl ?_
        refine r_iinc (lv' := [(4, .int (nI (i + 1))), (3, .int (nn + 0)), (0, .ref m), (1, .ref b), (2, .int h)]) (v := nI (i + 1)) d_Mm_shrunkOf_56 (j := 1) rfl (nI_add _ _) (by decide) rfl ?_
        refine r_goto (tgt := 11) d_Mm_shrunkOf_59 (by decide) ?_
        exact ih (i + 1) _ _ _ _ _ _ _ _ (by omega) (by omega)
      · refine r_aload_n d_Mm_shrunkOf_28 rfl 2 rfl ?_
        refine r_get fs_Mm_17 d_Mm_shrunkOf_29 (q0 := 0) rfl rfl ?_
        refine r_iload d_Mm_shrunkOf_32 0 rfl ?_
        refine r_iald d_Mm_shrunkOf_34 (q0 := 2) rfl (vp_in_nI (by omega) (by omega)) (v := fl i) (by rw [nI_clamp (by omega)]) ?_
        refine r_iconst d_Mm_shrunkOf_35 (v := (-1)) (by decide) ?_
        refine r_icmp_eq (tgt := 53) d_Mm_shrunkOf_36 (by decide) (fun c_36 => ?_) (fun c_36 => ?_)
        · refine r_iconst d_Mm_shrunkOf_53 (v := 0) (by decide) ?_
          refine r_iadd d_Mm_shrunkOf_54 (v := nn + 0) rfl ?_
          refine r_istore_n (lv' := [(3, .int (nn + 0)), (4, .int (nI i)), (0, .ref m), (1, .ref b), (2, .int h)]) d_Mm_shrunkOf_55 rfl (by decide) rfl ?_
          refine r_iinc (lv' := [(4, .int (nI (i + 1))), (3, .int (nn + 0)), (0, .ref m), (1, .ref b), (2, .int h)]) (v := nI (i + 1)) d_Mm_shrunkOf_56 (j := 1) rfl (nI_add _ _) (by decide) rfl ?_
          refine r_goto (tgt := 11) d_Mm_shrunkOf_59 (by decide) ?_
          exact ih (i + 1) _ _ _ _ _ _ _ _ (by omega) (by omega)
        · refine r_aload_n d_Mm_shrunkOf_39 rfl 2 rfl ?_
          refine r_get fs_Mm_33 d_Mm_shrunkOf_40 (q0 := 0) rfl rfl ?_
          refine r_iload d_Mm_shrunkOf_43 0 rfl ?_
          refine r_zald d_Mm_shrunkOf_45 (q0 := 7) rfl (vp_in_nI (by omega) (by omega)) (v := ic i) (by rw [nI_clamp (by omega)]) ?_
          refine r_if_ne (tgt := 53) d_Mm_shrunkOf_46 (by decide) (fun c_46 => ?_) (fun c_46 => ?_)
          · refine r_iconst d_Mm_shrunkOf_53 (v := 0) (by decide) ?_
            refine r_iadd d_Mm_shrunkOf_54 (v := nn + 0) rfl ?_
            refine r_istore_n (lv' := [(3, .int (nn + 0)), (4, .int (nI i)), (0, .ref m), (1, .ref b), (2, .int h)]) d_Mm_shrunkOf_55 rfl (by decide) rfl ?_
            refine r_iinc (lv' := [(4, .int (nI (i + 1))), (3, .int (nn + 0)), (0, .ref m), (1, .ref b), (2, .int h)]) (v := nI (i + 1)) d_Mm_shrunkOf_56 (j := 1) rfl (nI_add _ _) (by decide) rfl ?_
            refine r_goto (tgt := 11) d_Mm_shrunkOf_59 (by decide) ?_
            exact ih (i + 1) _ _ _ _ _ _ _ _ (by omega) (by omega)
          · refine r_iconst d_Mm_shrunkOf_49 (v := 1) (by decide) ?_
            refine r_goto (tgt := 54) d_Mm_shrunkOf_50 (by decide) ?_
            refine r_iadd d_Mm_shrunkOf_54 (v := nn + 1) rfl ?_
            refine r_istore_n (lv' := [(3, .int (nn + 1)), (4, .int (nI i)), (0, .ref m), (1, .ref b), (2, .int h)]) d_Mm_shrunkOf_55 rfl (by decide) rfl ?_
            refine r_iinc (lv' := [(4, .int (nI (i + 1))), (3, .int (nn + 1)), (0, .ref m), (1, .ref b), (2, .int h)]) (v := nI (i + 1)) d_Mm_shrunkOf_56 (j := 1) rfl (nI_add _ _) (by decide) rfl ?_
            refine r_goto (tgt := 11) d_Mm_shrunkOf_59 (by decide) ?_
            exact ih (i + 1) _ _ _ _ _ _ _ _ (by omega) (by omega)
set_option maxHeartbeats 4000000 in
set_option maxRecDepth 100000 in
theorem C_Mm_shrunkOfW (g : zG) (m mp mf mh mn mt mz mc_ mq mgr ml mi mr mm mu mk mx : Nat) (th pt cl wa co_ fi bu ho lh mg wd fpi fal : Int32) (po de : Int64) (b : Nat) (f : Nat → Int32) (fl : Nat → Int32) (he nx mtt fz ic : Nat → Int32) (qn : Nat → Nat) (h : Int32) : CT g M_Mm_shrunkOf [.ref m, .ref b, .int h] [(m, .inr (12, [.int th, .ref mp, .int pt, .ref mf, .ref mh, .ref mn, .ref mt, .ref mz, .ref mc_, .ref mq, .ref mgr, .int cl, .int wa, .int co_, .int fi, .int bu, .int ho, .ref ml, .ref mi, .ref mr, .int lh, .int mg, .int wd, .int fpi, .int fal, .ref mm, .ref mu, .ref mk, .ref mx, .long po, .long de])), (b, .inl (1, 108, .inl f)), (mf, .inl (0, 108, .inl fl)), (mh, .inl (0, 108, .inl he)), (mt, .inl (0, 108, .inl mtt)), (mz, .inl (0, 108, .inl fz)), (mn, .inl (0, 108, .inl nx)), (mc_, .inl (2, 108, .inl ic)), (mq, .inl (0, 108, .inl (fun k => nI (qn k))))] (fun o cs1 => ∃ (v9 : Int32) (fl9 he9 nx9 mt9 fz9 ic9 : Nat → Int32) (qn9 : Nat → Nat), o = .inl (some (.int v9)) ∧ cs1 = [(m, .inr (12, [.int th, .ref mp, .int pt, .ref mf, .ref mh, .ref mn, .ref mt, .ref mz, .ref mc_, .ref mq, .ref mgr, .int cl, .int wa, .int co_, .int fi, .int bu, .int ho, .ref ml, .ref mi, .ref mr, .int lh, .int mg, .int wd, .int fpi, .int fal, .ref mm, .ref mu, .ref mk, .ref mx, .long po, .long de])), (b, .inl (1, 108, .inl f)), (mf, .inl (0, 108, .inl fl9)), (mh, .inl (0, 108, .inl he9)), (mt, .inl (0, 108, .inl mt9)), (mz, .inl (0, 108, .inl fz9)), (mn, .inl (0, 108, .inl nx9)), (mc_, .inl (2, 108, .inl ic9)), (mq, .inl (0, 108, .inl (fun k => nI (qn9 k))))]) 0 0 := by
  refine z_of (by decide) rfl (Nat.le_of_ble_eq_true rfl) (fun w0 => ?_)
  refine r_lvE (lv2 := [(0, .ref m), (1, .ref b), (2, .int h)]) rfl ?_
  refine r_aload_n d_Mm_shrunkOf_0 rfl 0 rfl ?_
  refine r_aload_n d_Mm_shrunkOf_1 rfl 1 rfl ?_
  refine r_iload_n d_Mm_shrunkOf_2 rfl 2 rfl ?_
  refine r_callV (As := [.ref b, .int h]) (rest := []) (csC := [(m, .inr (12, [.int th, .ref mp, .int pt, .ref mf, .ref mh, .ref mn, .ref mt, .ref mz, .ref mc_, .ref mq, .ref mgr, .int cl, .int wa, .int co_, .int fi, .int bu, .int ho, .ref ml, .ref mi, .ref mr, .int lh, .int mg, .int wd, .int fpi, .int fal, .ref mm, .ref mu, .ref mk, .ref mx, .long po, .long de])), (b, .inl (1, 108, .inl f)), (mf, .inl (0, 108, .inl fl)), (mh, .inl (0, 108, .inl he)), (mt, .inl (0, 108, .inl mtt)), (mz, .inl (0, 108, .inl fz)), (mn, .inl (0, 108, .inl nx)), (mc_, .inl (2, 108, .inl ic)), (mq, .inl (0, 108, .inl (fun k => nI (qn k))))]) (is := [0, 1, 2, 3, 4, 5, 6, 7, 8]) (q0 := 0) rfl rfl ln_Mm_170 w_im_Mm_feed w_se_Mm_feed ok_Mm_shrunkOf_Mm_feed d_Mm_shrunkOf_3 (C_Mm_feedW g m mp mf mh mn mt mz mc_ mq mgr ml mi mr mm mu mk mx th pt cl wa co_ fi bu ho lh mg wd fpi fal po de b f fl he nx mtt fz ic qn h) rfl rfl (Nat.le_of_ble_eq_true rfl) rfl (by decide) (by omega) (by omega) (fun E cs1 hx => ?_) (fun v cs1 hx => ?_)
  · obtain ⟨fl9, he9, nx9, mt9, fz9, ic9, qn9, -, e1, -⟩ := hx
    cases e1
  · obtain ⟨fl9, he9, nx9, mt9, fz9, ic9, qn9, hb9, e1, rfl⟩ := hx
    cases e1
    refine ⟨rfl, ?_⟩
    refine r_st (st2 := []) rfl ?_
    refine r_cs (cs2 := [(m, .inr (12, [.int th, .ref mp, .int pt, .ref mf, .ref mh, .ref mn, .ref mt, .ref mz, .ref mc_, .ref mq, .ref mgr, .int cl, .int wa, .int co_, .int fi, .int bu, .int ho, .ref ml, .ref mi, .ref mr, .int lh, .int mg, .int wd, .int fpi, .int fal, .ref mm, .ref mu, .ref mk, .ref mx, .long po, .long de])), (b, .inl (1, 108, .inl f)), (mf, .inl (0, 108, .inl fl9)), (mh, .inl (0, 108, .inl he9)), (mt, .inl (0, 108, .inl mt9)), (mz, .inl (0, 108, .inl fz9)), (mn, .inl (0, 108, .inl nx9)), (mc_, .inl (2, 108, .inl ic9)), (mq, .inl (0, 108, .inl (fun k => nI (qn9 k))))]) rfl ?_
    refine r_iconst d_Mm_shrunkOf_6 (v := 0) (by decide) ?_
    refine r_istore_n (lv' := [(3, .int 0), (0, .ref m), (1, .ref b), (2, .int h)]) d_Mm_shrunkOf_7 rfl (by decide) rfl ?_
    refine r_iconst d_Mm_shrunkOf_8 (v := 0) (by decide) ?_
    refine r_istore (lv' := [(4, .int 0), (3, .int 0), (0, .ref m), (1, .ref b), (2, .int h)]) d_Mm_shrunkOf_9 (by decide) rfl ?_
    exact L_Mm_shrunkOfW_11 g m mp mf mh mn mt mz mc_ mq mgr ml mi mr mm mu mk mx th pt cl wa co_ fi bu ho lh mg wd fpi fal po de b f fl he nx mtt fz ic qn h w0 _  (108 + 1) 0 _ _ _ _ _ _ _ _ (Nat.zero_le _) (by omega)
end
