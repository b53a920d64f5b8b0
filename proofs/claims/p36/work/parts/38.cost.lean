theorem prS_nn {pp ps pa : Int32} (h1 : 1 ≤ pp ∧ pp ≤ 1000) (h2 : 1 ≤ ps ∧ ps ≤ 1000) (h3 : 1 ≤ pa ∧ pa ≤ 1000) {P A : Nat} (h : P + A ≤ 100) : 0 ≤ prS pp ps pa P A := by
  have key : ∀ {x : Int32}, 1 ≤ x ∧ x ≤ 1000 → ∃ a : Nat, a ≤ 1000 ∧ x = nI a := fun {x} q => by
    have h0 : 0 ≤ x := Int32.le_trans (by decide) q.1
    have e := z_nn h0
    refine ⟨x.toNatClampNeg, ?_, e⟩
    have f1 : x.toNatClampNeg < 2 ^ 31 := by have := fb_rng x; have := z_clamp h0; omega
    have := q.2
    rw [e] at this
    exact z_le (b := 1000) (by decide) f1 this
  obtain ⟨a, ha, rfl⟩ := key h1
  obtain ⟨b, hb, rfl⟩ := key h2
  obtain ⟨c, hc, rfl⟩ := key h3
  unfold prS
  rw [pk_mul, pk_mul, pk_mul, nI_add, nI_add]
  refine Int32.not_lt.mp (nI_nneg ?_)
  have q1 : P * a ≤ 100 * 1000 := Nat.mul_le_mul (by omega) ha
  have q2 : (100 - P - A) * b ≤ 100 * 1000 := Nat.mul_le_mul (by omega) hb
  have q3 : A * c ≤ 100 * 1000 := Nat.mul_le_mul (by omega) hc
  omega
def rOk (s : zR) : Prop := s.1 = -1 ∨ 0 ≤ s.1
theorem rOk_lt {s : zR} (h : rOk s) (q : s.1 < 0) : s.1 = -1 := h.elim id (fun e => absurd q (Int32.not_lt.mpr e))
theorem rOk_nlt {s : zR} (h : rOk s) (q : ¬ s.1 < 0) : ¬ s.1 = -1 := fun e => q (by rw [e]; decide)
theorem rOk_m1 {s : zR} (q : s.1 = -1) : s.1 < 0 := by rw [q]; decide
theorem rcI_ok {le mo si pp ps pa : Int32} {P A : Nat} {s : zR} (hp : 0 ≤ prS pp ps pa P A) (h : rOk s) : rOk (rcI le mo si pp ps pa P A s) := by
  unfold rcI
  split
  · exact Or.inr hp
  · exact h
theorem rcR_ok {le mo si pp ps pa : Int32} {P : Nat} {s : zR} (hp : ∀ P A, P + A ≤ 100 → 0 ≤ prS pp ps pa P A) (h : rOk s) : ∀ A, A ≤ nA P → P ≤ 100 → P ≤ 90 ∨ P = 100 → rOk (rcR le mo si pp ps pa P s A)
  | 0, _, _, _ => h
  | A + 1, h1, h2, h3 => by
    refine rcI_ok (hp P A ?_) (rcR_ok hp h A (by omega) h2 h3)
    rcases nA_c P with ⟨q1, q2⟩ | ⟨q1, q2⟩ <;> omega
theorem rcO_ok {le mo si pp ps pa : Int32} {s : zR} (hp : ∀ P A, P + A ≤ 100 → 0 ≤ prS pp ps pa P A) (h : rOk s) : ∀ k, k ≤ 11 → rOk (rcO le mo si pp ps pa s k)
  | 0, _ => h
  | k + 1, hk => rcR_ok hp (rcO_ok hp h k (by omega)) _ (Nat.le_refl _) (by omega) (by omega)
theorem ctS_0 (P S A : Nat) : nI (P * 420 + S * 20 + A * 1) / 100 = ctS 0 (nI P) (nI S) (nI A) := by
  rw [← nI_add, ← nI_add, ← pk_mul, ← pk_mul, ← pk_mul]
  unfold ctS
  rfl
theorem ctS_1 (P S A : Nat) : nI (P * 100 + S * 30 + A * 750) / 100 = ctS 1 (nI P) (nI S) (nI A) := by
  rw [← nI_add, ← nI_add, ← pk_mul, ← pk_mul, ← pk_mul]
  unfold ctS
  rfl
theorem z_arc (a b c : Int32) : a + b + c = a + c + b := by rw [Int32.add_assoc, Int32.add_comm b c, ← Int32.add_assoc]
theorem ct_le {a b c : Int32} (h : ¬ (b ≤ a ∧ a ≤ c)) : ¬ (¬ a < b ∧ ¬ c < a) := fun q => h ⟨Int32.not_lt.mp q.1, Int32.not_lt.mp q.2⟩
theorem rOk_b {s : zR} (h : rOk s) (q : ¬ s.1 = -1) : ¬ s.1 < 0 := fun e => q (rOk_lt h e)
abbrev M_Mm_has_0 : zM := (⟨"IronpourModel", "has", "(III)I"⟩, prog_14_method_70_code, 4, (Option.some FieldType.int), 2, 41, [])
theorem d_Mm_has_0_0 : decode prog_14_method_70_code 0 = .ok (.bipush 100, 2) := zo_16 (d := 100) (zd_b zq_prog_14_method_70_code_0 0 rfl rfl rfl) (zd_b zq_prog_14_method_70_code_0 1 rfl rfl rfl) (by decide +kernel)
theorem d_Mm_has_0_2 : decode prog_14_method_70_code 2 = .ok (.iload_n 0, 1) := zo_26 (zd_b zq_prog_14_method_70_code_0 2 rfl rfl rfl)
theorem d_Mm_has_0_3 : decode prog_14_method_70_code 3 = .ok (.isub, 1) := zo_100 (zd_b zq_prog_14_method_70_code_0 3 rfl rfl rfl)
theorem d_Mm_has_0_4 : decode prog_14_method_70_code 4 = .ok (.iload_n 1, 1) := zo_27 (zd_b zq_prog_14_method_70_code_0 4 rfl rfl rfl)
theorem d_Mm_has_0_5 : decode prog_14_method_70_code 5 = .ok (.isub, 1) := zo_100 (zd_b zq_prog_14_method_70_code_0 5 rfl rfl rfl)
theorem d_Mm_has_0_6 : decode prog_14_method_70_code 6 = .ok (.istore_n 3, 1) := zo_62 (zd_b zq_prog_14_method_70_code_0 6 rfl rfl rfl)
theorem d_Mm_has_0_7 : decode prog_14_method_70_code 7 = .ok (.iload_n 0, 1) := zo_26 (zd_b zq_prog_14_method_70_code_0 7 rfl rfl rfl)
theorem d_Mm_has_0_8 : decode prog_14_method_70_code 8 = .ok (.bipush 112, 2) := zo_16 (d := 112) (zd_b zq_prog_14_method_70_code_0 8 rfl rfl rfl) (zd_b zq_prog_14_method_70_code_0 9 rfl rfl rfl) (by decide +kernel)
theorem d_Mm_has_0_10 : decode prog_14_method_70_code 10 = .ok (.iload_n 2, 1) := zo_28 (zd_b zq_prog_14_method_70_code_0 10 rfl rfl rfl)
theorem d_Mm_has_0_11 : decode prog_14_method_70_code 11 = .ok (.invokestatic 240, 3) := zo_184 (d := 0) (e := 240) (zd_b zq_prog_14_method_70_code_0 11 rfl rfl rfl) (zd_b zq_prog_14_method_70_code_0 12 rfl rfl rfl) (zd_b zq_prog_14_method_70_code_0 13 rfl rfl rfl)
theorem ok_Mm_has_0_Mm_tenths : z_ok M_Mm_has_0 M_Mm_tenths 2 := ⟨z_mj8 (i := 156) rfl (by decide +kernel), rfl, ⟨by decide +kernel, by decide +kernel, by decide +kernel⟩, ⟨by decide, by decide⟩, z_mj1 (i := 14) rfl (by decide +kernel), rfl⟩
theorem d_Mm_has_0_14 : decode prog_14_method_70_code 14 = .ok (.imul, 1) := zo_104 (zd_b zq_prog_14_method_70_code_0 14 rfl rfl rfl)
theorem d_Mm_has_0_15 : decode prog_14_method_70_code 15 = .ok (.iload_n 3, 1) := zo_29 (zd_b zq_prog_14_method_70_code_0 15 rfl rfl rfl)
theorem d_Mm_has_0_16 : decode prog_14_method_70_code 16 = .ok (.bipush 115, 2) := zo_16 (d := 115) (zd_b zq_prog_14_method_70_code_0 16 rfl rfl rfl) (zd_b zq_prog_14_method_70_code_0 17 rfl rfl rfl) (by decide +kernel)
theorem d_Mm_has_0_18 : decode prog_14_method_70_code 18 = .ok (.iload_n 2, 1) := zo_28 (zd_b zq_prog_14_method_70_code_0 18 rfl rfl rfl)
theorem d_Mm_has_0_19 : decode prog_14_method_70_code 19 = .ok (.invokestatic 240, 3) := zo_184 (d := 0) (e := 240) (zd_b zq_prog_14_method_70_code_0 19 rfl rfl rfl) (zd_b zq_prog_14_method_70_code_0 20 rfl rfl rfl) (zd_b zq_prog_14_method_70_code_0 21 rfl rfl rfl)
theorem d_Mm_has_0_22 : decode prog_14_method_70_code 22 = .ok (.imul, 1) := zo_104 (zd_b zq_prog_14_method_70_code_0 22 rfl rfl rfl)
theorem d_Mm_has_0_23 : decode prog_14_method_70_code 23 = .ok (.iadd, 1) := zo_96 (zd_b zq_prog_14_method_70_code_0 23 rfl rfl rfl)
theorem d_Mm_has_0_24 : decode prog_14_method_70_code 24 = .ok (.iload_n 1, 1) := zo_27 (zd_b zq_prog_14_method_70_code_0 24 rfl rfl rfl)
theorem d_Mm_has_0_25 : decode prog_14_method_70_code 25 = .ok (.bipush 102, 2) := zo_16 (d := 102) (zd_b zq_prog_14_method_70_code_0 25 rfl rfl rfl) (zd_b zq_prog_14_method_70_code_0 26 rfl rfl rfl) (by decide +kernel)
theorem d_Mm_has_0_27 : decode prog_14_method_70_code 27 = .ok (.iload_n 2, 1) := zo_28 (zd_b zq_prog_14_method_70_code_0 27 rfl rfl rfl)
theorem d_Mm_has_0_28 : decode prog_14_method_70_code 28 = .ok (.invokestatic 240, 3) := zo_184 (d := 0) (e := 240) (zd_b zq_prog_14_method_70_code_0 28 rfl rfl rfl) (zd_b zq_prog_14_method_70_code_0 29 rfl rfl rfl) (zd_b zq_prog_14_method_70_code_0 30 rfl rfl rfl)
theorem d_Mm_has_0_31 : decode prog_14_method_70_code 31 = .ok (.imul, 1) := zo_104 (zd_b zq_prog_14_method_70_code_0 31 rfl rfl rfl)
theorem d_Mm_has_0_32 : decode prog_14_method_70_code 32 = .ok (.iadd, 1) := zo_96 (zd_b zq_prog_14_method_70_code_1 0 rfl rfl rfl)
theorem d_Mm_has_0_33 : decode prog_14_method_70_code 33 = .ok (.bipush 100, 2) := zo_16 (d := 100) (zd_b zq_prog_14_method_70_code_1 1 rfl rfl rfl) (zd_b zq_prog_14_method_70_code_1 2 rfl rfl rfl) (by decide +kernel)
theorem d_Mm_has_0_35 : decode prog_14_method_70_code 35 = .ok (.idiv, 1) := zo_108 (zd_b zq_prog_14_method_70_code_1 3 rfl rfl rfl)
theorem d_Mm_has_0_36 : decode prog_14_method_70_code 36 = .ok (.ireturn, 1) := zo_172 (zd_b zq_prog_14_method_70_code_1 4 rfl rfl rfl)
set_option maxHeartbeats 4000000 in
set_option maxRecDepth 100000 in
theorem C_Mm_hasP0 (g : zG) (P A : Nat) (hPA : P + A ≤ 100) : CT g M_Mm_has_0 [.int (nI P), .int (nI A), .int 0] [] (fun o cs1 => o = .inl (some (.int (ctS 0 (nI P) (nI (100 - P - A)) (nI A)))) ∧ cs1 = []) 0 0 := by
  refine z_of (by decide) rfl (Nat.le_of_ble_eq_true rfl) (fun w0 => ?_)
  refine r_lvE (lv2 := [(0, .int (nI P)), (1, .int (nI A)), (2, .int 0)]) rfl ?_
  refine r_bipush d_Mm_has_0_0 (v := 100) (by decide) ?_
  refine r_iload_n d_Mm_has_0_2 rfl 0 rfl ?_
  refine r_isub d_Mm_has_0_3 (v := nI (100 - P)) (pk_sub (a := 100) (by omega)) ?_
  refine r_iload_n d_Mm_has_0_4 rfl 1 rfl ?_
  refine r_isub d_Mm_has_0_5 (v := nI (100 - P - A)) (pk_sub (by omega)) ?_
  refine r_istore_n (lv' := [(3, .int (nI (100 - P - A))), (0, .int (nI P)), (1, .int (nI A)), (2, .int 0)]) d_Mm_has_0_6 rfl (by decide) rfl ?_
  refine r_iload_n d_Mm_has_0_7 rfl 1 rfl ?_
  refine r_bipush d_Mm_has_0_8 (v := 112) (by decide) ?_
  refine r_iload_n d_Mm_has_0_10 rfl 3 rfl ?_
  refine r_callS (As := [.int 112, .int 0]) (rest := [.int (nI P)]) (csC := []) (is := []) ln_Mm_240 w_st_Mm_tenths ok_Mm_has_0_Mm_tenths d_Mm_has_0_11 (C_Mm_tenths112_0 g) rfl rfl (Nat.le_of_ble_eq_true rfl) rfl (by decide) (by omega) (by omega) (fun E cs1 hx => ?_) (fun v cs1 hx => ?_)
  · exact absurd hx.1 (by simp)
  · obtain ⟨e1, rfl⟩ := hx
    cases e1
    refine ⟨rfl, ?_⟩
    refine r_st (st2 := [.int 420, .int (nI P)]) rfl ?_
    refine r_cs (cs2 := []) rfl ?_
    refine r_imul d_Mm_has_0_14 (v := nI (P * 420)) (pk_mul _ _) ?_
    refine r_iload_n d_Mm_has_0_15 rfl 0 rfl ?_
    refine r_bipush d_Mm_has_0_16 (v := 115) (by decide) ?_
    refine r_iload_n d_Mm_has_0_18 rfl 3 rfl ?_
    refine r_callS (As := [.int 115, .int 0]) (rest := [.int (nI (100 - P - A)), .int (nI (P * 420))]) (csC := []) (is := []) ln_Mm_240 w_st_Mm_tenths ok_Mm_has_0_Mm_tenths d_Mm_has_0_19 (C_Mm_tenths115_0 g) rfl rfl (Nat.le_of_ble_eq_true rfl) rfl (by decide) (by omega) (by omega) (fun E cs1 hx => ?_) (fun v cs1 hx => ?_)
    · exact absurd hx.1 (by simp)
    · obtain ⟨e1, rfl⟩ := hx
      cases e1
      refine ⟨rfl, ?_⟩
      refine r_st (st2 := [.int 20, .int (nI (100 - P - A)), .int (nI (P * 420))]) rfl ?_
      refine r_cs (cs2 := []) rfl ?_
      refine r_imul d_Mm_has_0_22 (v := nI ((100 - P - A) * 20)) (pk_mul _ _) ?_
      refine r_iadd d_Mm_has_0_23 (v := nI ((P * 420) + ((100 - P - A) * 20))) (nI_add _ _) ?_
      refine r_iload_n d_Mm_has_0_24 rfl 2 rfl ?_
      refine r_bipush d_Mm_has_0_25 (v := 102) (by decide) ?_
      refine r_iload_n d_Mm_has_0_27 rfl 3 rfl ?_
      refine r_callS (As := [.int 102, .int 0]) (rest := [.int (nI A), .int (nI ((P * 420) + ((100 - P - A) * 20)))]) (csC := []) (is := []) ln_Mm_240 w_st_Mm_tenths ok_Mm_has_0_Mm_tenths d_Mm_has_0_28 (C_Mm_tenths102_0 g) rfl rfl (Nat.le_of_ble_eq_true rfl) rfl (by decide) (by omega) (by omega) (fun E cs1 hx => ?_) (fun v cs1 hx => ?_)
      · exact absurd hx.1 (by simp)
      · obtain ⟨e1, rfl⟩ := hx
        cases e1
        refine ⟨rfl, ?_⟩
        refine r_st (st2 := [.int 1, .int (nI A), .int (nI ((P * 420) + ((100 - P - A) * 20)))]) rfl ?_
        refine r_cs (cs2 := []) rfl ?_
        refine r_imul d_Mm_has_0_31 (v := nI (A * 1)) (pk_mul _ _) ?_
        refine r_iadd d_Mm_has_0_32 (v := nI (((P * 420) + ((100 - P - A) * 20)) + (A * 1))) (nI_add _ _) ?_
        refine r_bipush d_Mm_has_0_33 (v := 100) (by decide) ?_
        refine r_idiv d_Mm_has_0_35 (v := ctS 0 (nI P) (nI (100 - P - A)) (nI A)) (by decide) (ctS_0 _ _ _) ?_
        refine r_iret d_Mm_has_0_36 rfl rfl ?_
        exact ⟨rfl, rfl⟩
set_option maxHeartbeats 4000000 in
set_option maxRecDepth 100000 in
theorem C_Mm_hasP1 (g : zG) (P A : Nat) (hPA : P + A ≤ 100) : CT g M_Mm_has_0 [.int (nI P), .int (nI A), .int 1] [] (fun o cs1 => o = .inl (some (.int (ctS 1 (nI P) (nI (100 - P - A)) (nI A)))) ∧ cs1 = []) 0 0 := by
  refine z_of (by decide) rfl (Nat.le_of_ble_eq_true rfl) (fun w0 => ?_)
  refine r_lvE (lv2 := [(0, .int (nI P)), (1, .int (nI A)), (2, .int 1)]) rfl ?_
  refine r_bipush d_Mm_has_0_0 (v := 100) (by decide) ?_
  refine r_iload_n d_Mm_has_0_2 rfl 0 rfl ?_
  refine r_isub d_Mm_has_0_3 (v := nI (100 - P)) (pk_sub (a := 100) (by omega)) ?_
  refine r_iload_n d_Mm_has_0_4 rfl 1 rfl ?_
  refine r_isub d_Mm_has_0_5 (v := nI (100 - P - A)) (pk_sub (by omega)) ?_
  refine r_istore_n (lv' := [(3, .int (nI (100 - P - A))), (0, .int (nI P)), (1, .int (nI A)), (2, .int 1)]) d_Mm_has_0_6 rfl (by decide) rfl ?_
  refine r_iload_n d_Mm_has_0_7 rfl 1 rfl ?_
  refine r_bipush d_Mm_has_0_8 (v := 112) (by decide) ?_
  refine r_iload_n d_Mm_has_0_10 rfl 3 rfl ?_
  refine r_callS (As := [.int 112, .int 1]) (rest := [.int (nI P)]) (csC := []) (is := []) ln_Mm_240 w_st_Mm_tenths ok_Mm_has_0_Mm_tenths d_Mm_has_0_11 (C_Mm_tenths112_1 g) rfl rfl (Nat.le_of_ble_eq_true rfl) rfl (by decide) (by omega) (by omega) (fun E cs1 hx => ?_) (fun v cs1 hx => ?_)
  · exact absurd hx.1 (by simp)
  · obtain ⟨e1, rfl⟩ := hx
    cases e1
    refine ⟨rfl, ?_⟩
    refine r_st (st2 := [.int 100, .int (nI P)]) rfl ?_
    refine r_cs (cs2 := []) rfl ?_
    refine r_imul d_Mm_has_0_14 (v := nI (P * 100)) (pk_mul _ _) ?_
    refine r_iload_n d_Mm_has_0_15 rfl 0 rfl ?_
    refine r_bipush d_Mm_has_0_16 (v := 115) (by decide) ?_
    refine r_iload_n d_Mm_has_0_18 rfl 3 rfl ?_
    refine r_callS (As := [.int 115, .int 1]) (rest := [.int (nI (100 - P - A)), .int (nI (P * 100))]) (csC := []) (is := []) ln_Mm_240 w_st_Mm_tenths ok_Mm_has_0_Mm_tenths d_Mm_has_0_19 (C_Mm_tenths115_1 g) rfl rfl (Nat.le_of_ble_eq_true rfl) rfl (by decide) (by omega) (by omega) (fun E cs1 hx => ?_) (fun v cs1 hx => ?_)
    · exact absurd hx.1 (by simp)
    · obtain ⟨e1, rfl⟩ := hx
      cases e1
      refine ⟨rfl, ?_⟩
      refine r_st (st2 := [.int 30, .int (nI (100 - P - A)), .int (nI (P * 100))]) rfl ?_
      refine r_cs (cs2 := []) rfl ?_
      refine r_imul d_Mm_has_0_22 (v := nI ((100 - P - A) * 30)) (pk_mul _ _) ?_
      refine r_iadd d_Mm_has_0_23 (v := nI ((P * 100) + ((100 - P - A) * 30))) (nI_add _ _) ?_
      refine r_iload_n d_Mm_has_0_24 rfl 2 rfl ?_
      refine r_bipush d_Mm_has_0_25 (v := 102) (by decide) ?_
      refine r_iload_n d_Mm_has_0_27 rfl 3 rfl ?_
      refine r_callS (As := [.int 102, .int 1]) (rest := [.int (nI A), .int (nI ((P * 100) + ((100 - P - A) * 30)))]) (csC := []) (is := []) ln_Mm_240 w_st_Mm_tenths ok_Mm_has_0_Mm_tenths d_Mm_has_0_28 (C_Mm_tenths102_1 g) rfl rfl (Nat.le_of_ble_eq_true rfl) rfl (by decide) (by omega) (by omega) (fun E cs1 hx => ?_) (fun v cs1 hx => ?_)
      · exact absurd hx.1 (by simp)
      · obtain ⟨e1, rfl⟩ := hx
        cases e1
        refine ⟨rfl, ?_⟩
        refine r_st (st2 := [.int 750, .int (nI A), .int (nI ((P * 100) + ((100 - P - A) * 30)))]) rfl ?_
        refine r_cs (cs2 := []) rfl ?_
        refine r_imul d_Mm_has_0_31 (v := nI (A * 750)) (pk_mul _ _) ?_
        refine r_iadd d_Mm_has_0_32 (v := nI (((P * 100) + ((100 - P - A) * 30)) + (A * 750))) (nI_add _ _) ?_
        refine r_bipush d_Mm_has_0_33 (v := 100) (by decide) ?_
        refine r_idiv d_Mm_has_0_35 (v := ctS 1 (nI P) (nI (100 - P - A)) (nI A)) (by decide) (ctS_1 _ _ _) ?_
        refine r_iret d_Mm_has_0_36 rfl rfl ?_
        exact ⟨rfl, rfl⟩
abbrev M_Mm_leastCost : zM := (⟨"IronpourModel", "leastCost", "(IIIIII)I"⟩, prog_14_method_71_code, 15, (Option.some FieldType.int), 3, 64, [])
theorem d_Mm_leastCost_0 : decode prog_14_method_71_code 0 = .ok (.aload_n 0, 1) := zo_42 (zd_b zq_prog_14_method_71_code_0 0 rfl rfl rfl)
theorem d_Mm_leastCost_1 : decode prog_14_method_71_code 1 = .ok (.iconst 0, 1) := zo_3 (zd_b zq_prog_14_method_71_code_0 1 rfl rfl rfl)
theorem d_Mm_leastCost_2 : decode prog_14_method_71_code 2 = .ok (.putfield 84, 3) := zo_181 (d := 0) (e := 84) (zd_b zq_prog_14_method_71_code_0 2 rfl rfl rfl) (zd_b zq_prog_14_method_71_code_0 3 rfl rfl rfl) (zd_b zq_prog_14_method_71_code_0 4 rfl rfl rfl)
theorem d_Mm_leastCost_5 : decode prog_14_method_71_code 5 = .ok (.iload_n 1, 1) := zo_27 (zd_b zq_prog_14_method_71_code_0 5 rfl rfl rfl)
theorem d_Mm_leastCost_6 : decode prog_14_method_71_code 6 = .ok (.iconst 0, 1) := zo_3 (zd_b zq_prog_14_method_71_code_0 6 rfl rfl rfl)
theorem d_Mm_leastCost_7 : decode prog_14_method_71_code 7 = .ok (.sipush 450, 3) := zo_17 (d := 1) (e := 194) (zd_b zq_prog_14_method_71_code_0 7 rfl rfl rfl) (zd_b zq_prog_14_method_71_code_0 8 rfl rfl rfl) (zd_b zq_prog_14_method_71_code_0 9 rfl rfl rfl) (by decide +kernel)
theorem d_Mm_leastCost_10 : decode prog_14_method_71_code 10 = .ok (.invokestatic 87, 3) := zo_184 (d := 0) (e := 87) (zd_b zq_prog_14_method_71_code_0 10 rfl rfl rfl) (zd_b zq_prog_14_method_71_code_0 11 rfl rfl rfl) (zd_b zq_prog_14_method_71_code_0 12 rfl rfl rfl)
theorem ok_Mm_leastCost_Mm_in : z_ok M_Mm_leastCost M_Mm_in 3 := ⟨z_mj7 (i := 190) rfl (by decide +kernel), rfl, ⟨by decide +kernel, by decide +kernel, by decide +kernel⟩, ⟨by decide, by decide⟩, z_mj1 (i := 14) rfl (by decide +kernel), rfl⟩
theorem d_Mm_leastCost_13 : decode prog_14_method_71_code 13 = .ok (.ifCond .eq 34, 3) := zo_153 (d := 0) (e := 34) (zd_b zq_prog_14_method_71_code_0 13 rfl rfl rfl) (zd_b zq_prog_14_method_71_code_0 14 rfl rfl rfl) (zd_b zq_prog_14_method_71_code_0 15 rfl rfl rfl) (by decide +kernel)
theorem d_Mm_leastCost_47 : decode prog_14_method_71_code 47 = .ok (.iconst 0, 1) := zo_3 (zd_b zq_prog_14_method_71_code_1 15 rfl rfl rfl)
theorem d_Mm_leastCost_48 : decode prog_14_method_71_code 48 = .ok (.istore 7, 2) := zo_54 (d := 7) (zd_b zq_prog_14_method_71_code_1 16 rfl rfl rfl) (zd_b zq_prog_14_method_71_code_1 17 rfl rfl rfl)
theorem d_Mm_leastCost_50 : decode prog_14_method_71_code 50 = .ok (.aload_n 0, 1) := zo_42 (zd_b zq_prog_14_method_71_code_1 18 rfl rfl rfl)
theorem d_Mm_leastCost_51 : decode prog_14_method_71_code 51 = .ok (.iload 7, 2) := zo_21 (d := 7) (zd_b zq_prog_14_method_71_code_1 19 rfl rfl rfl) (zd_b zq_prog_14_method_71_code_1 20 rfl rfl rfl)
theorem d_Mm_leastCost_53 : decode prog_14_method_71_code 53 = .ok (.ifCond .eq 39, 3) := zo_153 (d := 0) (e := 39) (zd_b zq_prog_14_method_71_code_1 21 rfl rfl rfl) (zd_b zq_prog_14_method_71_code_1 22 rfl rfl rfl) (zd_b zq_prog_14_method_71_code_1 23 rfl rfl rfl) (by decide +kernel)
theorem d_Mm_leastCost_92 : decode prog_14_method_71_code 92 = .ok (.iconst 1, 1) := zo_4 (zd_b zq_prog_14_method_71_code_2 28 rfl rfl rfl)
theorem d_Mm_leastCost_93 : decode prog_14_method_71_code 93 = .ok (.goto 4, 3) := zo_167 (d := 0) (e := 4) (zd_b zq_prog_14_method_71_code_2 29 rfl rfl rfl) (zd_b zq_prog_14_method_71_code_2 30 rfl rfl rfl) (zd_b zq_prog_14_method_71_code_2 31 rfl rfl rfl) (by decide +kernel)
theorem d_Mm_leastCost_97 : decode prog_14_method_71_code 97 = .ok (.iconst 1, 1) := zo_4 (zd_b zq_prog_14_method_71_code_3 1 rfl rfl rfl)
theorem d_Mm_leastCost_98 : decode prog_14_method_71_code 98 = .ok (.invokevirtual 103, 3) := zo_182 (d := 0) (e := 103) (zd_b zq_prog_14_method_71_code_3 2 rfl rfl rfl) (zd_b zq_prog_14_method_71_code_3 3 rfl rfl rfl) (zd_b zq_prog_14_method_71_code_3 4 rfl rfl rfl)
theorem ok_Mm_leastCost_Mm_fails : z_ok M_Mm_leastCost M_Mm_fails 2 := ⟨z_mj7 (i := 196) rfl (by decide +kernel), rfl, ⟨by decide +kernel, by decide +kernel, by decide +kernel⟩, ⟨by decide, by decide⟩, z_mj1 (i := 14) rfl (by decide +kernel), rfl⟩
theorem d_Mm_leastCost_101 : decode prog_14_method_71_code 101 = .ok (.ifCond .eq 5, 3) := zo_153 (d := 0) (e := 5) (zd_b zq_prog_14_method_71_code_3 5 rfl rfl rfl) (zd_b zq_prog_14_method_71_code_3 6 rfl rfl rfl) (zd_b zq_prog_14_method_71_code_3 7 rfl rfl rfl) (by decide +kernel)
theorem d_Mm_leastCost_104 : decode prog_14_method_71_code 104 = .ok (.iconst 0, 1) := zo_3 (zd_b zq_prog_14_method_71_code_3 8 rfl rfl rfl)
theorem d_Mm_leastCost_105 : decode prog_14_method_71_code 105 = .ok (.ireturn, 1) := zo_172 (zd_b zq_prog_14_method_71_code_3 9 rfl rfl rfl)
theorem d_Mm_leastCost_16 : decode prog_14_method_71_code 16 = .ok (.iload_n 2, 1) := zo_28 (zd_b zq_prog_14_method_71_code_0 16 rfl rfl rfl)
theorem d_Mm_leastCost_17 : decode prog_14_method_71_code 17 = .ok (.iconst 0, 1) := zo_3 (zd_b zq_prog_14_method_71_code_0 17 rfl rfl rfl)
theorem d_Mm_leastCost_18 : decode prog_14_method_71_code 18 = .ok (.sipush 450, 3) := zo_17 (d := 1) (e := 194) (zd_b zq_prog_14_method_71_code_0 18 rfl rfl rfl) (zd_b zq_prog_14_method_71_code_0 19 rfl rfl rfl) (zd_b zq_prog_14_method_71_code_0 20 rfl rfl rfl) (by decide +kernel)
theorem d_Mm_leastCost_21 : decode prog_14_method_71_code 21 = .ok (.invokestatic 87, 3) := zo_184 (d := 0) (e := 87) (zd_b zq_prog_14_method_71_code_0 21 rfl rfl rfl) (zd_b zq_prog_14_method_71_code_0 22 rfl rfl rfl) (zd_b zq_prog_14_method_71_code_0 23 rfl rfl rfl)
theorem d_Mm_leastCost_24 : decode prog_14_method_71_code 24 = .ok (.ifCond .eq 23, 3) := zo_153 (d := 0) (e := 23) (zd_b zq_prog_14_method_71_code_0 24 rfl rfl rfl) (zd_b zq_prog_14_method_71_code_0 25 rfl rfl rfl) (zd_b zq_prog_14_method_71_code_0 26 rfl rfl rfl) (by decide +kernel)
theorem d_Mm_leastCost_27 : decode prog_14_method_71_code 27 = .ok (.iload_n 3, 1) := zo_29 (zd_b zq_prog_14_method_71_code_0 27 rfl rfl rfl)
theorem d_Mm_leastCost_28 : decode prog_14_method_71_code 28 = .ok (.iconst 0, 1) := zo_3 (zd_b zq_prog_14_method_71_code_0 28 rfl rfl rfl)
theorem d_Mm_leastCost_29 : decode prog_14_method_71_code 29 = .ok (.sipush 450, 3) := zo_17 (d := 1) (e := 194) (zd_b zq_prog_14_method_71_code_0 29 rfl rfl rfl) (zd_b zq_prog_14_method_71_code_0 30 rfl rfl rfl) (zd_b zq_prog_14_method_71_code_0 31 rfl rfl rfl) (by decide +kernel)
theorem d_Mm_leastCost_32 : decode prog_14_method_71_code 32 = .ok (.invokestatic 87, 3) := zo_184 (d := 0) (e := 87) (zd_b zq_prog_14_method_71_code_1 0 rfl rfl rfl) (zd_b zq_prog_14_method_71_code_1 1 rfl rfl rfl) (zd_b zq_prog_14_method_71_code_1 2 rfl rfl rfl)
theorem d_Mm_leastCost_35 : decode prog_14_method_71_code 35 = .ok (.ifCond .eq 12, 3) := zo_153 (d := 0) (e := 12) (zd_b zq_prog_14_method_71_code_1 3 rfl rfl rfl) (zd_b zq_prog_14_method_71_code_1 4 rfl rfl rfl) (zd_b zq_prog_14_method_71_code_1 5 rfl rfl rfl) (by decide +kernel)
theorem d_Mm_leastCost_38 : decode prog_14_method_71_code 38 = .ok (.iload_n 2, 1) := zo_28 (zd_b zq_prog_14_method_71_code_1 6 rfl rfl rfl)
theorem d_Mm_leastCost_39 : decode prog_14_method_71_code 39 = .ok (.iload_n 1, 1) := zo_27 (zd_b zq_prog_14_method_71_code_1 7 rfl rfl rfl)
theorem d_Mm_leastCost_40 : decode prog_14_method_71_code 40 = .ok (.if_icmp .lt 7, 3) := zo_161 (d := 0) (e := 7) (zd_b zq_prog_14_method_71_code_1 8 rfl rfl rfl) (zd_b zq_prog_14_method_71_code_1 9 rfl rfl rfl) (zd_b zq_prog_14_method_71_code_1 10 rfl rfl rfl) (by decide +kernel)
theorem d_Mm_leastCost_43 : decode prog_14_method_71_code 43 = .ok (.iconst 1, 1) := zo_4 (zd_b zq_prog_14_method_71_code_1 11 rfl rfl rfl)
theorem d_Mm_leastCost_44 : decode prog_14_method_71_code 44 = .ok (.goto 4, 3) := zo_167 (d := 0) (e := 4) (zd_b zq_prog_14_method_71_code_1 12 rfl rfl rfl) (zd_b zq_prog_14_method_71_code_1 13 rfl rfl rfl) (zd_b zq_prog_14_method_71_code_1 14 rfl rfl rfl) (by decide +kernel)
theorem d_Mm_leastCost_56 : decode prog_14_method_71_code 56 = .ok (.iload 4, 2) := zo_21 (d := 4) (zd_b zq_prog_14_method_71_code_1 24 rfl rfl rfl) (zd_b zq_prog_14_method_71_code_1 25 rfl rfl rfl)
theorem d_Mm_leastCost_58 : decode prog_14_method_71_code 58 = .ok (.iconst 1, 1) := zo_4 (zd_b zq_prog_14_method_71_code_1 26 rfl rfl rfl)
theorem d_Mm_leastCost_59 : decode prog_14_method_71_code 59 = .ok (.sipush 1000, 3) := zo_17 (d := 3) (e := 232) (zd_b zq_prog_14_method_71_code_1 27 rfl rfl rfl) (zd_b zq_prog_14_method_71_code_1 28 rfl rfl rfl) (zd_b zq_prog_14_method_71_code_1 29 rfl rfl rfl) (by decide +kernel)
theorem d_Mm_leastCost_62 : decode prog_14_method_71_code 62 = .ok (.invokestatic 87, 3) := zo_184 (d := 0) (e := 87) (zd_b zq_prog_14_method_71_code_1 30 rfl rfl rfl) (zd_b zq_prog_14_method_71_code_1 31 rfl rfl rfl) (zd_b zq_prog_14_method_71_code_2 0 rfl rfl rfl)
theorem d_Mm_leastCost_65 : decode prog_14_method_71_code 65 = .ok (.ifCond .eq 27, 3) := zo_153 (d := 0) (e := 27) (zd_b zq_prog_14_method_71_code_2 1 rfl rfl rfl) (zd_b zq_prog_14_method_71_code_2 2 rfl rfl rfl) (zd_b zq_prog_14_method_71_code_2 3 rfl rfl rfl) (by decide +kernel)
theorem d_Mm_leastCost_68 : decode prog_14_method_71_code 68 = .ok (.iload 5, 2) := zo_21 (d := 5) (zd_b zq_prog_14_method_71_code_2 4 rfl rfl rfl) (zd_b zq_prog_14_method_71_code_2 5 rfl rfl rfl)
theorem d_Mm_leastCost_70 : decode prog_14_method_71_code 70 = .ok (.iconst 1, 1) := zo_4 (zd_b zq_prog_14_method_71_code_2 6 rfl rfl rfl)
theorem d_Mm_leastCost_71 : decode prog_14_method_71_code 71 = .ok (.sipush 1000, 3) := zo_17 (d := 3) (e := 232) (zd_b zq_prog_14_method_71_code_2 7 rfl rfl rfl) (zd_b zq_prog_14_method_71_code_2 8 rfl rfl rfl) (zd_b zq_prog_14_method_71_code_2 9 rfl rfl rfl) (by decide +kernel)
theorem d_Mm_leastCost_74 : decode prog_14_method_71_code 74 = .ok (.invokestatic 87, 3) := zo_184 (d := 0) (e := 87) (zd_b zq_prog_14_method_71_code_2 10 rfl rfl rfl) (zd_b zq_prog_14_method_71_code_2 11 rfl rfl rfl) (zd_b zq_prog_14_method_71_code_2 12 rfl rfl rfl)
theorem d_Mm_leastCost_77 : decode prog_14_method_71_code 77 = .ok (.ifCond .eq 15, 3) := zo_153 (d := 0) (e := 15) (zd_b zq_prog_14_method_71_code_2 13 rfl rfl rfl) (zd_b zq_prog_14_method_71_code_2 14 rfl rfl rfl) (zd_b zq_prog_14_method_71_code_2 15 rfl rfl rfl) (by decide +kernel)
theorem d_Mm_leastCost_80 : decode prog_14_method_71_code 80 = .ok (.iload 6, 2) := zo_21 (d := 6) (zd_b zq_prog_14_method_71_code_2 16 rfl rfl rfl) (zd_b zq_prog_14_method_71_code_2 17 rfl rfl rfl)
theorem d_Mm_leastCost_82 : decode prog_14_method_71_code 82 = .ok (.iconst 1, 1) := zo_4 (zd_b zq_prog_14_method_71_code_2 18 rfl rfl rfl)
theorem d_Mm_leastCost_83 : decode prog_14_method_71_code 83 = .ok (.sipush 1000, 3) := zo_17 (d := 3) (e := 232) (zd_b zq_prog_14_method_71_code_2 19 rfl rfl rfl) (zd_b zq_prog_14_method_71_code_2 20 rfl rfl rfl) (zd_b zq_prog_14_method_71_code_2 21 rfl rfl rfl) (by decide +kernel)
theorem d_Mm_leastCost_86 : decode prog_14_method_71_code 86 = .ok (.invokestatic 87, 3) := zo_184 (d := 0) (e := 87) (zd_b zq_prog_14_method_71_code_2 22 rfl rfl rfl) (zd_b zq_prog_14_method_71_code_2 23 rfl rfl rfl) (zd_b zq_prog_14_method_71_code_2 24 rfl rfl rfl)
theorem d_Mm_leastCost_89 : decode prog_14_method_71_code 89 = .ok (.ifCond .ne 7, 3) := zo_154 (d := 0) (e := 7) (zd_b zq_prog_14_method_71_code_2 25 rfl rfl rfl) (zd_b zq_prog_14_method_71_code_2 26 rfl rfl rfl) (zd_b zq_prog_14_method_71_code_2 27 rfl rfl rfl) (by decide +kernel)
set_option maxHeartbeats 4000000 in
set_option maxRecDepth 100000 in
theorem C_Mm_leastCostE (g : zG) (m mp mf mh mn mt mz mc_ mq mgr ml mi mr mm mu mk mx : Nat) (th pt cl wa co_ fi bu ho lh mg wd fpi fal : Int32) (po de : Int64) (le mo si pp ps pa : Int32) (hw : ¬ ((0 ≤ le ∧ le ≤ 450) ∧ (le ≤ mo ∧ mo ≤ 450) ∧ (0 ≤ si ∧ si ≤ 450) ∧ (1 ≤ pp ∧ pp ≤ 1000) ∧ (1 ≤ ps ∧ ps ≤ 1000) ∧ (1 ≤ pa ∧ pa ≤ 1000))) : CT g M_Mm_leastCost [.ref m, .int le, .int mo, .int si, .int pp, .int ps, .int pa] [(m, .inr (12, [.int th, .ref mp, .int pt, .ref mf, .ref mh, .ref mn, .ref mt, .ref mz, .ref mc_, .ref mq, .ref mgr, .int cl, .int wa, .int co_, .int fi, .int bu, .int ho, .ref ml, .ref mi, .ref mr, .int lh, .int mg, .int wd, .int fpi, .int fal, .ref mm, .ref mu, .ref mk, .ref mx, .long po, .long de]))] (fun o cs1 => o = .inl (some (.int 0)) ∧ cs1 = [(m, .inr (12, [.int 1, .ref mp, .int pt, .ref mf, .ref mh, .ref mn, .ref mt, .ref mz, .ref mc_, .ref mq, .ref mgr, .int cl, .int wa, .int co_, .int fi, .int bu, .int ho, .ref ml, .ref mi, .ref mr, .int lh, .int mg, .int wd, .int fpi, .int fal, .ref mm, .ref mu, .ref mk, .ref mx, .long po, .long de]))]) 0 0 := by
  refine z_of (by decide) rfl (Nat.le_of_ble_eq_true rfl) (fun w0 => ?_)
  refine r_lvE (lv2 := [(0, .ref m), (1, .int le), (2, .int mo), (3, .int si), (4, .int pp), (5, .int ps), (6, .int pa)]) rfl ?_
  refine r_aload_n d_Mm_leastCost_0 rfl 0 rfl ?_
  refine r_iconst d_Mm_leastCost_1 (v := 0) (by decide) ?_
  refine r_put fp_Mm_84 d_Mm_leastCost_2 (fun h => nomatch h) rfl rfl (q0 := 0) rfl (Nat.le_of_ble_eq_true rfl) (cs' := [(m, .inr (12, [.int 0, .ref mp, .int pt, .ref mf, .ref mh, .ref mn, .ref mt, .ref mz, .ref mc_, .ref mq, .ref mgr, .int cl, .int wa, .int co_, .int fi, .int bu, .int ho, .ref ml, .ref mi, .ref mr, .int lh, .int mg, .int wd, .int fpi, .int fal, .ref mm, .ref mu, .ref mk, .ref mx, .long po, .long de]))]) rfl ?_
  refine r_iload_n d_Mm_leastCost_5 rfl 1 rfl ?_
  refine r_iconst d_Mm_leastCost_6 (v := 0) (by decide) ?_
  refine r_sipush d_Mm_leastCost_7 (v := 450) (by decide) ?_
  refine r_callS (As := [.int le, .int 0, .int 450]) (rest := []) (csC := []) (is := []) ln_Mm_87 w_st_Mm_in ok_Mm_leastCost_Mm_in d_Mm_leastCost_10 (C_Mm_in g le 0 450) rfl rfl (Nat.le_of_ble_eq_true rfl) rfl (by decide) (by omega) (by omega) (fun E cs1 hx => ?_) (fun v cs1 hx => ?_)
  · exact absurd hx.1 (by simp)
  · obtain ⟨e1, rfl⟩ := hx
    cases e1
    refine ⟨rfl, ?_⟩
    refine r_st (st2 := [.int (if 0 ≤ le ∧ le ≤ 450 then 1 else 0)]) rfl ?_
    refine r_cs (cs2 := [(m, .inr (12, [.int 0, .ref mp, .int pt, .ref mf, .ref mh, .ref mn, .ref mt, .ref mz, .ref mc_, .ref mq, .ref mgr, .int cl, .int wa, .int co_, .int fi, .int bu, .int ho, .ref ml, .ref mi, .ref mr, .int lh, .int mg, .int wd, .int fpi, .int fal, .ref mm, .ref mu, .ref mk, .ref mx, .long po, .long de]))]) rfl ?_
    refine r_if_eq (tgt := 47) d_Mm_leastCost_13 (by decide) (fun c_13 => ?_) (fun c_13 => ?_)
    · refine r_iconst d_Mm_leastCost_47 (v := 0) (by decide) ?_
      refine r_istore (lv' := [(7, .int 0), (0, .ref m), (1, .int le), (2, .int mo), (3, .int si), (4, .int pp), (5, .int ps), (6, .int pa)]) d_Mm_leastCost_48 (by decide) rfl ?_
      refine r_aload_n d_Mm_leastCost_50 rfl 1 rfl ?_
      refine r_iload d_Mm_leastCost_51 0 rfl ?_
      refine r_if_eq (tgt := 92) d_Mm_leastCost_53 (by decide) (fun c_53 => ?_) (fun c_53 => ?_)
      · refine r_iconst d_Mm_leastCost_92 (v := 1) (by decide) ?_
        refine r_goto (tgt := 97) d_Mm_leastCost_93 (by decide) ?_
        refine r_iconst d_Mm_leastCost_97 (v := 1) (by decide) ?_
        refine r_callV (As := [.int 1, .int 1]) (rest := []) (csC := [(m, .inr (12, [.int 0, .ref mp, .int pt, .ref mf, .ref mh, .ref mn, .ref mt, .ref mz, .ref mc_, .ref mq, .ref mgr, .int cl, .int wa, .int co_, .int fi, .int bu, .int ho, .ref ml, .ref mi, .ref mr, .int lh, .int mg, .int wd, .int fpi, .int fal, .ref mm, .ref mu, .ref mk, .ref mx, .long po, .long de]))]) (is := [0]) (q0 := 0) rfl rfl ln_Mm_103 w_im_Mm_fails w_se_Mm_fails ok_Mm_leastCost_Mm_fails d_Mm_leastCost_98 (C_Mm_fails1 g m mp mf mh mn mt mz mc_ mq mgr ml mi mr mm mu mk mx th pt cl wa co_ fi bu ho lh mg wd fpi fal po de) rfl rfl (Nat.le_of_ble_eq_true rfl) rfl (by decide) (by omega) (by omega) (fun E cs1 hx => ?_) (fun v cs1 hx => ?_)
        · exact absurd hx.1 (by simp)
        · obtain ⟨e1, rfl⟩ := hx
          cases e1
          refine ⟨rfl, ?_⟩
          refine r_st (st2 := [.int 1]) rfl ?_
          refine r_cs (cs2 := [(m, .inr (12, [.int 1, .ref mp, .int pt, .ref mf, .ref mh, .ref mn, .ref mt, .ref mz, .ref mc_, .ref mq, .ref mgr, .int cl, .int wa, .int co_, .int fi, .int bu, .int ho, .ref ml, .ref mi, .ref mr, .int lh, .int mg, .int wd, .int fpi, .int fal, .ref mm, .ref mu, .ref mk, .ref mx, .long po, .long de]))]) rfl ?_
          refine r_if_eq (tgt := 106) d_Mm_leastCost_101 (by decide) (fun c_101 => ?_) (fun c_101 => ?_)
          · exact absurd c_101 (by decide)
          · refine r_iconst d_Mm_leastCost_104 (v := 0) (by decide) ?_
            refine r_iret d_Mm_leastCost_105 rfl rfl ?_
            exact ⟨rfl, rfl⟩
      · exact absurd c_53 (by decide)
    · refine r_iload_n d_Mm_leastCost_16 rfl 2 rfl ?_
      refine r_iconst d_Mm_leastCost_17 (v := 0) (by decide) ?_
      refine r_sipush d_Mm_leastCost_18 (v := 450) (by decide) ?_
      refine r_callS (As := [.int mo, .int 0, .int 450]) (rest := []) (csC := []) (is := []) ln_Mm_87 w_st_Mm_in ok_Mm_leastCost_Mm_in d_Mm_leastCost_21 (C_Mm_in g mo 0 450) rfl rfl (Nat.le_of_ble_eq_true rfl) rfl (by decide) (by omega) (by omega) (fun E cs1 hx => ?_) (fun v cs1 hx => ?_)
      · exact absurd hx.1 (by simp)
      · obtain ⟨e1, rfl⟩ := hx
        cases e1
        refine ⟨rfl, ?_⟩
        refine r_st (st2 := [.int (if 0 ≤ mo ∧ mo ≤ 450 then 1 else 0)]) rfl ?_
        refine r_cs (cs2 := [(m, .inr (12, [.int 0, .ref mp, .int pt, .ref mf, .ref mh, .ref mn, .ref mt, .ref mz, .ref mc_, .ref mq, .ref mgr, .int cl, .int wa, .int co_, .int fi, .int bu, .int ho, .ref ml, .ref mi, .ref mr, .int lh, .int mg, .int wd, .int fpi, .int fal, .ref mm, .ref mu, .ref mk, .ref mx, .long po, .long de]))]) rfl ?_
        refine r_if_eq (tgt := 47) d_Mm_leastCost_24 (by decide) (fun c_24 => ?_) (fun c_24 => ?_)
        · refine r_iconst d_Mm_leastCost_47 (v := 0) (by decide) ?_
          refine r_istore (lv' := [(7, .int 0), (0, .ref m), (1, .int le), (2, .int mo), (3, .int si), (4, .int pp), (5, .int ps), (6, .int pa)]) d_Mm_leastCost_48 (by decide) rfl ?_
          refine r_aload_n d_Mm_leastCost_50 rfl 1 rfl ?_
          refine r_iload d_Mm_leastCost_51 0 rfl ?_
          refine r_if_eq (tgt := 92) d_Mm_leastCost_53 (by decide) (fun c_53 => ?_) (fun c_53 => ?_)
          · refine r_iconst d_Mm_leastCost_92 (v := 1) (by decide) ?_
            refine r_goto (tgt := 97) d_Mm_leastCost_93 (by decide) ?_
            refine r_iconst d_Mm_leastCost_97 (v := 1) (by decide) ?_
            refine r_callV (As := [.int 1, .int 1]) (rest := []) (csC := [(m, .inr (12, [.int 0, .ref mp, .int pt, .ref mf, .ref mh, .ref mn, .ref mt, .ref mz, .ref mc_, .ref mq, .ref mgr, .int cl, .int wa, .int co_, .int fi, .int bu, .int ho, .ref ml, .ref mi, .ref mr, .int lh, .int mg, .int wd, .int fpi, .int fal, .ref mm, .ref mu, .ref mk, .ref mx, .long po, .long de]))]) (is := [0]) (q0 := 0) rfl rfl ln_Mm_103 w_im_Mm_fails w_se_Mm_fails ok_Mm_leastCost_Mm_fails d_Mm_leastCost_98 (C_Mm_fails1 g m mp mf mh mn mt mz mc_ mq mgr ml mi mr mm mu mk mx th pt cl wa co_ fi bu ho lh mg wd fpi fal po de) rfl rfl (Nat.le_of_ble_eq_true rfl) rfl (by decide) (by omega) (by omega) (fun E cs1 hx => ?_) (fun v cs1 hx => ?_)
            · exact absurd hx.1 (by simp)
            · obtain ⟨e1, rfl⟩ := hx
              cases e1
              refine ⟨rfl, ?_⟩
              refine r_st (st2 := [.int 1]) rfl ?_
              refine r_cs (cs2 := [(m, .inr (12, [.int 1, .ref mp, .int pt, .ref mf, .ref mh, .ref mn, .ref mt, .ref mz, .ref mc_, .ref mq, .ref mgr, .int cl, .int wa, .int co_, .int fi, .int bu, .int ho, .ref ml, .ref mi, .ref mr, .int lh, .int mg, .int wd, .int fpi, .int fal, .ref mm, .ref mu, .ref mk, .ref mx, .long po, .long de]))]) rfl ?_
              refine r_if_eq (tgt := 106) d_Mm_leastCost_101 (by decide) (fun c_101 => ?_) (fun c_101 => ?_)
              · exact absurd c_101 (by decide)
              · refine r_iconst d_Mm_leastCost_104 (v := 0) (by decide) ?_
                refine r_iret d_Mm_leastCost_105 rfl rfl ?_
                exact ⟨rfl, rfl⟩
          · exact absurd c_53 (by decide)
        · refine r_iload_n d_Mm_leastCost_27 rfl 3 rfl ?_
          refine r_iconst d_Mm_leastCost_28 (v := 0) (by decide) ?_
          refine r_sipush d_Mm_leastCost_29 (v := 450) (by decide) ?_
          refine r_callS (As := [.int si, .int 0, .int 450]) (rest := []) (csC := []) (is := []) ln_Mm_87 w_st_Mm_in ok_Mm_leastCost_Mm_in d_Mm_leastCost_32 (C_Mm_in g si 0 450) rfl rfl (Nat.le_of_ble_eq_true rfl) rfl (by decide) (by omega) (by omega) (fun E cs1 hx => ?_) (fun v cs1 hx => ?_)
          · exact absurd hx.1 (by simp)
          · obtain ⟨e1, rfl⟩ := hx
            cases e1
            refine ⟨rfl, ?_⟩
            refine r_st (st2 := [.int (if 0 ≤ si ∧ si ≤ 450 then 1 else 0)]) rfl ?_
            refine r_cs (cs2 := [(m, .inr (12, [.int 0, .ref mp, .int pt, .ref mf, .ref mh, .ref mn, .ref mt, .ref mz, .ref mc_, .ref mq, .ref mgr, .int cl, .int wa, .int co_, .int fi, .int bu, .int ho, .ref ml, .ref mi, .ref mr, .int lh, .int mg, .int wd, .int fpi, .int fal, .ref mm, .ref mu, .ref mk, .ref mx, .long po, .long de]))]) rfl ?_
            refine r_if_eq (tgt := 47) d_Mm_leastCost_35 (by decide) (fun c_35 => ?_) (fun c_35 => ?_)
            · refine r_iconst d_Mm_leastCost_47 (v := 0) (by decide) ?_
              refine r_istore (lv' := [(7, .int 0), (0, .ref m), (1, .int le), (2, .int mo), (3, .int si), (4, .int pp), (5, .int ps), (6, .int pa)]) d_Mm_leastCost_48 (by decide) rfl ?_
              refine r_aload_n d_Mm_leastCost_50 rfl 1 rfl ?_
              refine r_iload d_Mm_leastCost_51 0 rfl ?_
              refine r_if_eq (tgt := 92) d_Mm_leastCost_53 (by decide) (fun c_53 => ?_) (fun c_53 => ?_)
              · refine r_iconst d_Mm_leastCost_92 (v := 1) (by decide) ?_
                refine r_goto (tgt := 97) d_Mm_leastCost_93 (by decide) ?_
                refine r_iconst d_Mm_leastCost_97 (v := 1) (by decide) ?_
                refine r_callV (As := [.int 1, .int 1]) (rest := []) (csC := [(m, .inr (12, [.int 0, .ref mp, .int pt, .ref mf, .ref mh, .ref mn, .ref mt, .ref mz, .ref mc_, .ref mq, .ref mgr, .int cl, .int wa, .int co_, .int fi, .int bu, .int ho, .ref ml, .ref mi, .ref mr, .int lh, .int mg, .int wd, .int fpi, .int fal, .ref mm, .ref mu, .ref mk, .ref mx, .long po, .long de]))]) (is := [0]) (q0 := 0) rfl rfl ln_Mm_103 w_im_Mm_fails w_se_Mm_fails ok_Mm_leastCost_Mm_fails d_Mm_leastCost_98 (C_Mm_fails1 g m mp mf mh mn mt mz mc_ mq mgr ml mi mr mm mu mk mx th pt cl wa co_ fi bu ho lh mg wd fpi fal po de) rfl rfl (Nat.le_of_ble_eq_true rfl) rfl (by decide) (by omega) (by omega) (fun E cs1 hx => ?_) (fun v cs1 hx => ?_)
                · exact absurd hx.1 (by simp)
                · obtain ⟨e1, rfl⟩ := hx
                  cases e1
                  refine ⟨rfl, ?_⟩
                  refine r_st (st2 := [.int 1]) rfl ?_
                  refine r_cs (cs2 := [(m, .inr (12, [.int 1, .ref mp, .int pt, .ref mf, .ref mh, .ref mn, .ref mt, .ref mz, .ref mc_, .ref mq, .ref mgr, .int cl, .int wa, .int co_, .int fi, .int bu, .int ho, .ref ml, .ref mi, .ref mr, .int lh, .int mg, .int wd, .int fpi, .int fal, .ref mm, .ref mu, .ref mk, .ref mx, .long po, .long de]))]) rfl ?_
                  refine r_if_eq (tgt := 106) d_Mm_leastCost_101 (by decide) (fun c_101 => ?_) (fun c_101 => ?_)
                  · exact absurd c_101 (by decide)
                  · refine r_iconst d_Mm_leastCost_104 (v := 0) (by decide) ?_
                    refine r_iret d_Mm_leastCost_105 rfl rfl ?_
                    exact ⟨rfl, rfl⟩
              · exact absurd c_53 (by decide)
            · refine r_iload_n d_Mm_leastCost_38 rfl 2 rfl ?_
              refine r_iload_n d_Mm_leastCost_39 rfl 1 rfl ?_
              refine r_icmp_lt (tgt := 47) d_Mm_leastCost_40 (by decide) (fun c_40 => ?_) (fun c_40 => ?_)
              · refine r_iconst d_Mm_leastCost_47 (v := 0) (by decide) ?_
                refine r_istore (lv' := [(7, .int 0), (0, .ref m), (1, .int le), (2, .int mo), (3, .int si), (4, .int pp), (5, .int ps), (6, .int pa)]) d_Mm_leastCost_48 (by decide) rfl ?_
                refine r_aload_n d_Mm_leastCost_50 rfl 1 rfl ?_
                refine r_iload d_Mm_leastCost_51 0 rfl ?_
                refine r_if_eq (tgt := 92) d_Mm_leastCost_53 (by decide) (fun c_53 => ?_) (fun c_53 => ?_)
                · refine r_iconst d_Mm_leastCost_92 (v := 1) (by decide) ?_
                  refine r_goto (tgt := 97) d_Mm_leastCost_93 (by decide) ?_
                  refine r_iconst d_Mm_leastCost_97 (v := 1) (by decide) ?_
                  refine r_callV (As := [.int 1, .int 1]) (rest := []) (csC := [(m, .inr (12, [.int 0, .ref mp, .int pt, .ref mf, .ref mh, .ref mn, .ref mt, .ref mz, .ref mc_, .ref mq, .ref mgr, .int cl, .int wa, .int co_, .int fi, .int bu, .int ho, .ref ml, .ref mi, .ref mr, .int lh, .int mg, .int wd, .int fpi, .int fal, .ref mm, .ref mu, .ref mk, .ref mx, .long po, .long de]))]) (is := [0]) (q0 := 0) rfl rfl ln_Mm_103 w_im_Mm_fails w_se_Mm_fails ok_Mm_leastCost_Mm_fails d_Mm_leastCost_98 (C_Mm_fails1 g m mp mf mh mn mt mz mc_ mq mgr ml mi mr mm mu mk mx th pt cl wa co_ fi bu ho lh mg wd fpi fal po de) rfl rfl (Nat.le_of_ble_eq_true rfl) rfl (by decide) (by omega) (by omega) (fun E cs1 hx => ?_) (fun v cs1 hx => ?_)
                  · exact absurd hx.1 (by simp)
                  · obtain ⟨e1, rfl⟩ := hx
                    cases e1
                    refine ⟨rfl, ?_⟩
                    refine r_st (st2 := [.int 1]) rfl ?_
                    refine r_cs (cs2 := [(m, .inr (12, [.int 1, .ref mp, .int pt, .ref mf, .ref mh, .ref mn, .ref mt, .ref mz, .ref mc_, .ref mq, .ref mgr, .int cl, .int wa, .int co_, .int fi, .int bu, .int ho, .ref ml, .ref mi, .ref mr, .int lh, .int mg, .int wd, .int fpi, .int fal, .ref mm, .ref mu, .ref mk, .ref mx, .long po, .long de]))]) rfl ?_
                    refine r_if_eq (tgt := 106) d_Mm_leastCost_101 (by decide) (fun c_101 => ?_) (fun c_101 => ?_)
                    · exact absurd c_101 (by decide)
                    · refine r_iconst d_Mm_leastCost_104 (v := 0) (by decide) ?_
                      refine r_iret d_Mm_leastCost_105 rfl rfl ?_
                      exact ⟨rfl, rfl⟩
                · exact absurd c_53 (by decide)
              · refine r_iconst d_Mm_leastCost_43 (v := 1) (by decide) ?_
                refine r_goto (tgt := 48) d_Mm_leastCost_44 (by decide) ?_
                refine r_istore (lv' := [(7, .int 1), (0, .ref m), (1, .int le), (2, .int mo), (3, .int si), (4, .int pp), (5, .int ps), (6, .int pa)]) d_Mm_leastCost_48 (by decide) rfl ?_
                refine r_aload_n d_Mm_leastCost_50 rfl 1 rfl ?_
                refine r_iload d_Mm_leastCost_51 0 rfl ?_
                refine r_if_eq (tgt := 92) d_Mm_leastCost_53 (by decide) (fun c_53 => ?_) (fun c_53 => ?_)
                · exact absurd c_53 (by decide)
                · refine r_iload d_Mm_leastCost_56 5 rfl ?_
                  refine r_iconst d_Mm_leastCost_58 (v := 1) (by decide) ?_
                  refine r_sipush d_Mm_leastCost_59 (v := 1000) (by decide) ?_
                  refine r_callS (As := [.int pp, .int 1, .int 1000]) (rest := [.ref m]) (csC := []) (is := []) ln_Mm_87 w_st_Mm_in ok_Mm_leastCost_Mm_in d_Mm_leastCost_62 (C_Mm_in g pp 1 1000) rfl rfl (Nat.le_of_ble_eq_true rfl) rfl (by decide) (by omega) (by omega) (fun E cs1 hx => ?_) (fun v cs1 hx => ?_)
                  · exact absurd hx.1 (by simp)
                  · obtain ⟨e1, rfl⟩ := hx
                    cases e1
                    refine ⟨rfl, ?_⟩
                    refine r_st (st2 := [.int (if 1 ≤ pp ∧ pp ≤ 1000 then 1 else 0), .ref m]) rfl ?_
                    refine r_cs (cs2 := [(m, .inr (12, [.int 0, .ref mp, .int pt, .ref mf, .ref mh, .ref mn, .ref mt, .ref mz, .ref mc_, .ref mq, .ref mgr, .int cl, .int wa, .int co_, .int fi, .int bu, .int ho, .ref ml, .ref mi, .ref mr, .int lh, .int mg, .int wd, .int fpi, .int fal, .ref mm, .ref mu, .ref mk, .ref mx, .long po, .long de]))]) rfl ?_
                    refine r_if_eq (tgt := 92) d_Mm_leastCost_65 (by decide) (fun c_65 => ?_) (fun c_65 => ?_)
                    · refine r_iconst d_Mm_leastCost_92 (v := 1) (by decide) ?_
                      refine r_goto (tgt := 97) d_Mm_leastCost_93 (by decide) ?_
                      refine r_iconst d_Mm_leastCost_97 (v := 1) (by decide) ?_
                      refine r_callV (As := [.int 1, .int 1]) (rest := []) (csC := [(m, .inr (12, [.int 0, .ref mp, .int pt, .ref mf, .ref mh, .ref mn, .ref mt, .ref mz, .ref mc_, .ref mq, .ref mgr, .int cl, .int wa, .int co_, .int fi, .int bu, .int ho, .ref ml, .ref mi, .ref mr, .int lh, .int mg, .int wd, .int fpi, .int fal, .ref mm, .ref mu, .ref mk, .ref mx, .long po, .long de]))]) (is := [0]) (q0 := 0) rfl rfl ln_Mm_103 w_im_Mm_fails w_se_Mm_fails ok_Mm_leastCost_Mm_fails d_Mm_leastCost_98 (C_Mm_fails1 g m mp mf mh mn mt mz mc_ mq mgr ml mi mr mm mu mk mx th pt cl wa co_ fi bu ho lh mg wd fpi fal po de) rfl rfl (Nat.le_of_ble_eq_true rfl) rfl (by decide) (by omega) (by omega) (fun E cs1 hx => ?_) (fun v cs1 hx => ?_)
                      · exact absurd hx.1 (by simp)
                      · obtain ⟨e1, rfl⟩ := hx
                        cases e1
                        refine ⟨rfl, ?_⟩
                        refine r_st (st2 := [.int 1]) rfl ?_
                        refine r_cs (cs2 := [(m, .inr (12, [.int 1, .ref mp, .int pt, .ref mf, .ref mh, .ref mn, .ref mt, .ref mz, .ref mc_, .ref mq, .ref mgr, .int cl, .int wa, .int co_, .int fi, .int bu, .int ho, .ref ml, .ref mi, .ref mr, .int lh, .int mg, .int wd, .int fpi, .int fal, .ref mm, .ref mu, .ref mk, .ref mx, .long po, .long de]))]) rfl ?_
                        refine r_if_eq (tgt := 106) d_Mm_leastCost_101 (by decide) (fun c_101 => ?_) (fun c_101 => ?_)
                        · exact absurd c_101 (by decide)
                        · refine r_iconst d_Mm_leastCost_104 (v := 0) (by decide) ?_
                          refine r_iret d_Mm_leastCost_105 rfl rfl ?_
                          exact ⟨rfl, rfl⟩
                    · refine r_iload d_Mm_leastCost_68 6 rfl ?_
                      refine r_iconst d_Mm_leastCost_70 (v := 1) (by decide) ?_
                      refine r_sipush d_Mm_leastCost_71 (v := 1000) (by decide) ?_
                      refine r_callS (As := [.int ps, .int 1, .int 1000]) (rest := [.ref m]) (csC := []) (is := []) ln_Mm_87 w_st_Mm_in ok_Mm_leastCost_Mm_in d_Mm_leastCost_74 (C_Mm_in g ps 1 1000) rfl rfl (Nat.le_of_ble_eq_true rfl) rfl (by decide) (by omega) (by omega) (fun E cs1 hx => ?_) (fun v cs1 hx => ?_)
                      · exact absurd hx.1 (by simp)
                      · obtain ⟨e1, rfl⟩ := hx
                        cases e1
                        refine ⟨rfl, ?_⟩
                        refine r_st (st2 := [.int (if 1 ≤ ps ∧ ps ≤ 1000 then 1 else 0), .ref m]) rfl ?_
                        refine r_cs (cs2 := [(m, .inr (12, [.int 0, .ref mp, .int pt, .ref mf, .ref mh, .ref mn, .ref mt, .ref mz, .ref mc_, .ref mq, .ref mgr, .int cl, .int wa, .int co_, .int fi, .int bu, .int ho, .ref ml, .ref mi, .ref mr, .int lh, .int mg, .int wd, .int fpi, .int fal, .ref mm, .ref mu, .ref mk, .ref mx, .long po, .long de]))]) rfl ?_
                        refine r_if_eq (tgt := 92) d_Mm_leastCost_77 (by decide) (fun c_77 => ?_) (fun c_77 => ?_)
                        · refine r_iconst d_Mm_leastCost_92 (v := 1) (by decide) ?_
                          refine r_goto (tgt := 97) d_Mm_leastCost_93 (by decide) ?_
                          refine r_iconst d_Mm_leastCost_97 (v := 1) (by decide) ?_
                          refine r_callV (As := [.int 1, .int 1]) (rest := []) (csC := [(m, .inr (12, [.int 0, .ref mp, .int pt, .ref mf, .ref mh, .ref mn, .ref mt, .ref mz, .ref mc_, .ref mq, .ref mgr, .int cl, .int wa, .int co_, .int fi, .int bu, .int ho, .ref ml, .ref mi, .ref mr, .int lh, .int mg, .int wd, .int fpi, .int fal, .ref mm, .ref mu, .ref mk, .ref mx, .long po, .long de]))]) (is := [0]) (q0 := 0) rfl rfl ln_Mm_103 w_im_Mm_fails w_se_Mm_fails ok_Mm_leastCost_Mm_fails d_Mm_leastCost_98 (C_Mm_fails1 g m mp mf mh mn mt mz mc_ mq mgr ml mi mr mm mu mk mx th pt cl wa co_ fi bu ho lh mg wd fpi fal po de) rfl rfl (Nat.le_of_ble_eq_true rfl) rfl (by decide) (by omega) (by omega) (fun E cs1 hx => ?_) (fun v cs1 hx => ?_)
                          · exact absurd hx.1 (by simp)
                          · obtain ⟨e1, rfl⟩ := hx
                            cases e1
                            refine ⟨rfl, ?_⟩
                            refine r_st (st2 := [.int 1]) rfl ?_
                            refine r_cs (cs2 := [(m, .inr (12, [.int 1, .ref mp, .int pt, .ref mf, .ref mh, .ref mn, .ref mt, .ref mz, .ref mc_, .ref mq, .ref mgr, .int cl, .int wa, .int co_, .int fi, .int bu, .int ho, .ref ml, .ref mi, .ref mr, .int lh, .int mg, .int wd, .int fpi, .int fal, .ref mm, .ref mu, .ref mk, .ref mx, .long po, .long de]))]) rfl ?_
                            refine r_if_eq (tgt := 106) d_Mm_leastCost_101 (by decide) (fun c_101 => ?_) (fun c_101 => ?_)
                            · exact absurd c_101 (by decide)
                            · refine r_iconst d_Mm_leastCost_104 (v := 0) (by decide) ?_
                              refine r_iret d_Mm_leastCost_105 rfl rfl ?_
                              exact ⟨rfl, rfl⟩
                        · refine r_iload d_Mm_leastCost_80 7 rfl ?_
                          refine r_iconst d_Mm_leastCost_82 (v := 1) (by decide) ?_
                          refine r_sipush d_Mm_leastCost_83 (v := 1000) (by decide) ?_
                          refine r_callS (As := [.int pa, .int 1, .int 1000]) (rest := [.ref m]) (csC := []) (is := []) ln_Mm_87 w_st_Mm_in ok_Mm_leastCost_Mm_in d_Mm_leastCost_86 (C_Mm_in g pa 1 1000) rfl rfl (Nat.le_of_ble_eq_true rfl) rfl (by decide) (by omega) (by omega) (fun E cs1 hx => ?_) (fun v cs1 hx => ?_)
                          · exact absurd hx.1 (by simp)
                          · obtain ⟨e1, rfl⟩ := hx
                            cases e1
                            refine ⟨rfl, ?_⟩
                            refine r_st (st2 := [.int (if 1 ≤ pa ∧ pa ≤ 1000 then 1 else 0), .ref m]) rfl ?_
                            refine r_cs (cs2 := [(m, .inr (12, [.int 0, .ref mp, .int pt, .ref mf, .ref mh, .ref mn, .ref mt, .ref mz, .ref mc_, .ref mq, .ref mgr, .int cl, .int wa, .int co_, .int fi, .int bu, .int ho, .ref ml, .ref mi, .ref mr, .int lh, .int mg, .int wd, .int fpi, .int fal, .ref mm, .ref mu, .ref mk, .ref mx, .long po, .long de]))]) rfl ?_
                            refine r_if_ne (tgt := 96) d_Mm_leastCost_89 (by decide) (fun c_89 => ?_) (fun c_89 => ?_)
                            · exact absurd ⟨z_b1 c_13, ⟨Int32.not_lt.mp c_40, (z_b1 c_24).2⟩, z_b1 c_35, z_b1 c_65, z_b1 c_77, z_b1 c_89⟩ hw
                            · refine r_iconst d_Mm_leastCost_92 (v := 1) (by decide) ?_
                              refine r_goto (tgt := 97) d_Mm_leastCost_93 (by decide) ?_
                              refine r_iconst d_Mm_leastCost_97 (v := 1) (by decide) ?_
                              refine r_callV (As := [.int 1, .int 1]) (rest := []) (csC := [(m, .inr (12, [.int 0, .ref mp, .int pt, .ref mf, .ref mh, .ref mn, .ref mt, .ref mz, .ref mc_, .ref mq, .ref mgr, .int cl, .int wa, .int co_, .int fi, .int bu, .int ho, .ref ml, .ref mi, .ref mr, .int lh, .int mg, .int wd, .int fpi, .int fal, .ref mm, .ref mu, .ref mk, .ref mx, .long po, .long de]))]) (is := [0]) (q0 := 0) rfl rfl ln_Mm_103 w_im_Mm_fails w_se_Mm_fails ok_Mm_leastCost_Mm_fails d_Mm_leastCost_98 (C_Mm_fails1 g m mp mf mh mn mt mz mc_ mq mgr ml mi mr mm mu mk mx th pt cl wa co_ fi bu ho lh mg wd fpi fal po de) rfl rfl (Nat.le_of_ble_eq_true rfl) rfl (by decide) (by omega) (by omega) (fun E cs1 hx => ?_) (fun v cs1 hx => ?_)
                              · exact absurd hx.1 (by simp)
                              · obtain ⟨e1, rfl⟩ := hx
                                cases e1
                                refine ⟨rfl, ?_⟩
                                refine r_st (st2 := [.int 1]) rfl ?_
                                refine r_cs (cs2 := [(m, .inr (12, [.int 1, .ref mp, .int pt, .ref mf, .ref mh, .ref mn, .ref mt, .ref mz, .ref mc_, .ref mq, .ref mgr, .int cl, .int wa, .int co_, .int fi, .int bu, .int ho, .ref ml, .ref mi, .ref mr, .int lh, .int mg, .int wd, .int fpi, .int fal, .ref mm, .ref mu, .ref mk, .ref mx, .long po, .long de]))]) rfl ?_
                                refine r_if_eq (tgt := 106) d_Mm_leastCost_101 (by decide) (fun c_101 => ?_) (fun c_101 => ?_)
                                · exact absurd c_101 (by decide)
                                · refine r_iconst d_Mm_leastCost_104 (v := 0) (by decide) ?_
                                  refine r_iret d_Mm_leastCost_105 rfl rfl ?_
                                  exact ⟨rfl, rfl⟩
theorem d_Mm_leastCost_127 : decode prog_14_method_71_code 127 = .ok (.iload 12, 2) := zo_21 (d := 12) (zd_b zq_prog_14_method_71_code_3 31 rfl rfl rfl) (zd_b zq_prog_14_method_71_code_4 0 rfl rfl rfl)
theorem d_Mm_leastCost_129 : decode prog_14_method_71_code 129 = .ok (.bipush 10, 2) := zo_16 (d := 10) (zd_b zq_prog_14_method_71_code_4 1 rfl rfl rfl) (zd_b zq_prog_14_method_71_code_4 2 rfl rfl rfl) (by decide +kernel)
theorem d_Mm_leastCost_131 : decode prog_14_method_71_code 131 = .ok (.if_icmp .gt 109, 3) := zo_163 (d := 0) (e := 109) (zd_b zq_prog_14_method_71_code_4 3 rfl rfl rfl) (zd_b zq_prog_14_method_71_code_4 4 rfl rfl rfl) (zd_b zq_prog_14_method_71_code_4 5 rfl rfl rfl) (by decide +kernel)
theorem d_Mm_leastCost_134 : decode prog_14_method_71_code 134 = .ok (.iload 11, 2) := zo_21 (d := 11) (zd_b zq_prog_14_method_71_code_4 6 rfl rfl rfl) (zd_b zq_prog_14_method_71_code_4 7 rfl rfl rfl)
theorem d_Mm_leastCost_136 : decode prog_14_method_71_code 136 = .ok (.iload 12, 2) := zo_21 (d := 12) (zd_b zq_prog_14_method_71_code_4 8 rfl rfl rfl) (zd_b zq_prog_14_method_71_code_4 9 rfl rfl rfl)
theorem d_Mm_leastCost_138 : decode prog_14_method_71_code 138 = .ok (.iadd, 1) := zo_96 (zd_b zq_prog_14_method_71_code_4 10 rfl rfl rfl)
theorem d_Mm_leastCost_139 : decode prog_14_method_71_code 139 = .ok (.bipush 100, 2) := zo_16 (d := 100) (zd_b zq_prog_14_method_71_code_4 11 rfl rfl rfl) (zd_b zq_prog_14_method_71_code_4 12 rfl rfl rfl) (by decide +kernel)
theorem d_Mm_leastCost_141 : decode prog_14_method_71_code 141 = .ok (.if_icmp .gt 99, 3) := zo_163 (d := 0) (e := 99) (zd_b zq_prog_14_method_71_code_4 13 rfl rfl rfl) (zd_b zq_prog_14_method_71_code_4 14 rfl rfl rfl) (zd_b zq_prog_14_method_71_code_4 15 rfl rfl rfl) (by decide +kernel)
theorem d_Mm_leastCost_144 : decode prog_14_method_71_code 144 = .ok (.iload 11, 2) := zo_21 (d := 11) (zd_b zq_prog_14_method_71_code_4 16 rfl rfl rfl) (zd_b zq_prog_14_method_71_code_4 17 rfl rfl rfl)
theorem d_Mm_leastCost_146 : decode prog_14_method_71_code 146 = .ok (.iload 4, 2) := zo_21 (d := 4) (zd_b zq_prog_14_method_71_code_4 18 rfl rfl rfl) (zd_b zq_prog_14_method_71_code_4 19 rfl rfl rfl)
theorem d_Mm_leastCost_148 : decode prog_14_method_71_code 148 = .ok (.imul, 1) := zo_104 (zd_b zq_prog_14_method_71_code_4 20 rfl rfl rfl)
theorem d_Mm_leastCost_149 : decode prog_14_method_71_code 149 = .ok (.iload 12, 2) := zo_21 (d := 12) (zd_b zq_prog_14_method_71_code_4 21 rfl rfl rfl) (zd_b zq_prog_14_method_71_code_4 22 rfl rfl rfl)
theorem d_Mm_leastCost_151 : decode prog_14_method_71_code 151 = .ok (.iload 6, 2) := zo_21 (d := 6) (zd_b zq_prog_14_method_71_code_4 23 rfl rfl rfl) (zd_b zq_prog_14_method_71_code_4 24 rfl rfl rfl)
theorem d_Mm_leastCost_153 : decode prog_14_method_71_code 153 = .ok (.imul, 1) := zo_104 (zd_b zq_prog_14_method_71_code_4 25 rfl rfl rfl)
theorem d_Mm_leastCost_154 : decode prog_14_method_71_code 154 = .ok (.iadd, 1) := zo_96 (zd_b zq_prog_14_method_71_code_4 26 rfl rfl rfl)
theorem d_Mm_leastCost_155 : decode prog_14_method_71_code 155 = .ok (.bipush 100, 2) := zo_16 (d := 100) (zd_b zq_prog_14_method_71_code_4 27 rfl rfl rfl) (zd_b zq_prog_14_method_71_code_4 28 rfl rfl rfl) (by decide +kernel)
theorem d_Mm_leastCost_157 : decode prog_14_method_71_code 157 = .ok (.iload 11, 2) := zo_21 (d := 11) (zd_b zq_prog_14_method_71_code_4 29 rfl rfl rfl) (zd_b zq_prog_14_method_71_code_4 30 rfl rfl rfl)
theorem d_Mm_leastCost_159 : decode prog_14_method_71_code 159 = .ok (.isub, 1) := zo_100 (zd_b zq_prog_14_method_71_code_4 31 rfl rfl rfl)
theorem d_Mm_leastCost_160 : decode prog_14_method_71_code 160 = .ok (.iload 12, 2) := zo_21 (d := 12) (zd_b zq_prog_14_method_71_code_5 0 rfl rfl rfl) (zd_b zq_prog_14_method_71_code_5 1 rfl rfl rfl)
theorem d_Mm_leastCost_162 : decode prog_14_method_71_code 162 = .ok (.isub, 1) := zo_100 (zd_b zq_prog_14_method_71_code_5 2 rfl rfl rfl)
theorem d_Mm_leastCost_163 : decode prog_14_method_71_code 163 = .ok (.iload 5, 2) := zo_21 (d := 5) (zd_b zq_prog_14_method_71_code_5 3 rfl rfl rfl) (zd_b zq_prog_14_method_71_code_5 4 rfl rfl rfl)
theorem d_Mm_leastCost_165 : decode prog_14_method_71_code 165 = .ok (.imul, 1) := zo_104 (zd_b zq_prog_14_method_71_code_5 5 rfl rfl rfl)
theorem d_Mm_leastCost_166 : decode prog_14_method_71_code 166 = .ok (.iadd, 1) := zo_96 (zd_b zq_prog_14_method_71_code_5 6 rfl rfl rfl)
theorem d_Mm_leastCost_167 : decode prog_14_method_71_code 167 = .ok (.istore 13, 2) := zo_54 (d := 13) (zd_b zq_prog_14_method_71_code_5 7 rfl rfl rfl) (zd_b zq_prog_14_method_71_code_5 8 rfl rfl rfl)
theorem d_Mm_leastCost_169 : decode prog_14_method_71_code 169 = .ok (.iload 11, 2) := zo_21 (d := 11) (zd_b zq_prog_14_method_71_code_5 9 rfl rfl rfl) (zd_b zq_prog_14_method_71_code_5 10 rfl rfl rfl)
theorem d_Mm_leastCost_171 : decode prog_14_method_71_code 171 = .ok (.iload 12, 2) := zo_21 (d := 12) (zd_b zq_prog_14_method_71_code_5 11 rfl rfl rfl) (zd_b zq_prog_14_method_71_code_5 12 rfl rfl rfl)
theorem d_Mm_leastCost_173 : decode prog_14_method_71_code 173 = .ok (.iconst 0, 1) := zo_3 (zd_b zq_prog_14_method_71_code_5 13 rfl rfl rfl)
theorem d_Mm_leastCost_174 : decode prog_14_method_71_code 174 = .ok (.invokestatic 272, 3) := zo_184 (d := 1) (e := 16) (zd_b zq_prog_14_method_71_code_5 14 rfl rfl rfl) (zd_b zq_prog_14_method_71_code_5 15 rfl rfl rfl) (zd_b zq_prog_14_method_71_code_5 16 rfl rfl rfl)
theorem ok_Mm_leastCost_Mm_has_0 : z_ok M_Mm_leastCost M_Mm_has_0 3 := ⟨z_mj8 (i := 214) rfl (by decide +kernel), rfl, ⟨by decide +kernel, by decide +kernel, by decide +kernel⟩, ⟨by decide, by decide⟩, z_mj1 (i := 14) rfl (by decide +kernel), rfl⟩
theorem ln_Mm_272 : Cond.methodLink "IronpourModel" 272 M_Mm_has_0.1 ∈ z_gw := z_mj8 (i := 212) rfl (by decide +kernel)
theorem w_st_Mm_has_0 : Cond.static M_Mm_has_0.1 ∈ z_gw := z_mj8 (i := 213) rfl (by decide +kernel)
theorem d_Mm_leastCost_177 : decode prog_14_method_71_code 177 = .ok (.iload_n 1, 1) := zo_27 (zd_b zq_prog_14_method_71_code_5 17 rfl rfl rfl)
theorem d_Mm_leastCost_178 : decode prog_14_method_71_code 178 = .ok (.iload_n 2, 1) := zo_28 (zd_b zq_prog_14_method_71_code_5 18 rfl rfl rfl)
theorem d_Mm_leastCost_179 : decode prog_14_method_71_code 179 = .ok (.invokestatic 87, 3) := zo_184 (d := 0) (e := 87) (zd_b zq_prog_14_method_71_code_5 19 rfl rfl rfl) (zd_b zq_prog_14_method_71_code_5 20 rfl rfl rfl) (zd_b zq_prog_14_method_71_code_5 21 rfl rfl rfl)
theorem d_Mm_leastCost_182 : decode prog_14_method_71_code 182 = .ok (.ifCond .eq 19, 3) := zo_153 (d := 0) (e := 19) (zd_b zq_prog_14_method_71_code_5 22 rfl rfl rfl) (zd_b zq_prog_14_method_71_code_5 23 rfl rfl rfl) (zd_b zq_prog_14_method_71_code_5 24 rfl rfl rfl) (by decide +kernel)
theorem d_Mm_leastCost_201 : decode prog_14_method_71_code 201 = .ok (.iconst 0, 1) := zo_3 (zd_b zq_prog_14_method_71_code_6 9 rfl rfl rfl)
theorem d_Mm_leastCost_202 : decode prog_14_method_71_code 202 = .ok (.istore 14, 2) := zo_54 (d := 14) (zd_b zq_prog_14_method_71_code_6 10 rfl rfl rfl) (zd_b zq_prog_14_method_71_code_6 11 rfl rfl rfl)
theorem d_Mm_leastCost_204 : decode prog_14_method_71_code 204 = .ok (.iload 14, 2) := zo_21 (d := 14) (zd_b zq_prog_14_method_71_code_6 12 rfl rfl rfl) (zd_b zq_prog_14_method_71_code_6 13 rfl rfl rfl)
theorem d_Mm_leastCost_206 : decode prog_14_method_71_code 206 = .ok (.ifCond .eq 28, 3) := zo_153 (d := 0) (e := 28) (zd_b zq_prog_14_method_71_code_6 14 rfl rfl rfl) (zd_b zq_prog_14_method_71_code_6 15 rfl rfl rfl) (zd_b zq_prog_14_method_71_code_6 16 rfl rfl rfl) (by decide +kernel)
theorem d_Mm_leastCost_234 : decode prog_14_method_71_code 234 = .ok (.iinc 12 1, 3) := by decide +kernel
theorem d_Mm_leastCost_237 : decode prog_14_method_71_code 237 = .ok (.goto (-110), 3) := zo_167 (d := 255) (e := 146) (zd_b zq_prog_14_method_71_code_7 13 rfl rfl rfl) (zd_b zq_prog_14_method_71_code_7 14 rfl rfl rfl) (zd_b zq_prog_14_method_71_code_7 15 rfl rfl rfl) (by decide +kernel)
theorem d_Mm_leastCost_185 : decode prog_14_method_71_code 185 = .ok (.iload 11, 2) := zo_21 (d := 11) (zd_b zq_prog_14_method_71_code_5 25 rfl rfl rfl) (zd_b zq_prog_14_method_71_code_5 26 rfl rfl rfl)
theorem d_Mm_leastCost_187 : decode prog_14_method_71_code 187 = .ok (.iload 12, 2) := zo_21 (d := 12) (zd_b zq_prog_14_method_71_code_5 27 rfl rfl rfl) (zd_b zq_prog_14_method_71_code_5 28 rfl rfl rfl)
theorem d_Mm_leastCost_189 : decode prog_14_method_71_code 189 = .ok (.iconst 1, 1) := zo_4 (zd_b zq_prog_14_method_71_code_5 29 rfl rfl rfl)
theorem d_Mm_leastCost_190 : decode prog_14_method_71_code 190 = .ok (.invokestatic 272, 3) := zo_184 (d := 1) (e := 16) (zd_b zq_prog_14_method_71_code_5 30 rfl rfl rfl) (zd_b zq_prog_14_method_71_code_5 31 rfl rfl rfl) (zd_b zq_prog_14_method_71_code_6 0 rfl rfl rfl)
theorem d_Mm_leastCost_193 : decode prog_14_method_71_code 193 = .ok (.iload_n 3, 1) := zo_29 (zd_b zq_prog_14_method_71_code_6 1 rfl rfl rfl)
theorem d_Mm_leastCost_194 : decode prog_14_method_71_code 194 = .ok (.if_icmp .lt 7, 3) := zo_161 (d := 0) (e := 7) (zd_b zq_prog_14_method_71_code_6 2 rfl rfl rfl) (zd_b zq_prog_14_method_71_code_6 3 rfl rfl rfl) (zd_b zq_prog_14_method_71_code_6 4 rfl rfl rfl) (by decide +kernel)
theorem d_Mm_leastCost_197 : decode prog_14_method_71_code 197 = .ok (.iconst 1, 1) := zo_4 (zd_b zq_prog_14_method_71_code_6 5 rfl rfl rfl)
theorem d_Mm_leastCost_198 : decode prog_14_method_71_code 198 = .ok (.goto 4, 3) := zo_167 (d := 0) (e := 4) (zd_b zq_prog_14_method_71_code_6 6 rfl rfl rfl) (zd_b zq_prog_14_method_71_code_6 7 rfl rfl rfl) (zd_b zq_prog_14_method_71_code_6 8 rfl rfl rfl) (by decide +kernel)
theorem d_Mm_leastCost_209 : decode prog_14_method_71_code 209 = .ok (.iload 8, 2) := zo_21 (d := 8) (zd_b zq_prog_14_method_71_code_6 17 rfl rfl rfl) (zd_b zq_prog_14_method_71_code_6 18 rfl rfl rfl)
theorem d_Mm_leastCost_211 : decode prog_14_method_71_code 211 = .ok (.iconst (-1), 1) := zo_2 (zd_b zq_prog_14_method_71_code_6 19 rfl rfl rfl)
theorem d_Mm_leastCost_212 : decode prog_14_method_71_code 212 = .ok (.if_icmp .eq 10, 3) := zo_159 (d := 0) (e := 10) (zd_b zq_prog_14_method_71_code_6 20 rfl rfl rfl) (zd_b zq_prog_14_method_71_code_6 21 rfl rfl rfl) (zd_b zq_prog_14_method_71_code_6 22 rfl rfl rfl) (by decide +kernel)
theorem d_Mm_leastCost_222 : decode prog_14_method_71_code 222 = .ok (.iload 13, 2) := zo_21 (d := 13) (zd_b zq_prog_14_method_71_code_6 30 rfl rfl rfl) (zd_b zq_prog_14_method_71_code_6 31 rfl rfl rfl)
theorem d_Mm_leastCost_224 : decode prog_14_method_71_code 224 = .ok (.istore 8, 2) := zo_54 (d := 8) (zd_b zq_prog_14_method_71_code_7 0 rfl rfl rfl) (zd_b zq_prog_14_method_71_code_7 1 rfl rfl rfl)
theorem d_Mm_leastCost_226 : decode prog_14_method_71_code 226 = .ok (.iload 11, 2) := zo_21 (d := 11) (zd_b zq_prog_14_method_71_code_7 2 rfl rfl rfl) (zd_b zq_prog_14_method_71_code_7 3 rfl rfl rfl)
theorem d_Mm_leastCost_228 : decode prog_14_method_71_code 228 = .ok (.istore 9, 2) := zo_54 (d := 9) (zd_b zq_prog_14_method_71_code_7 4 rfl rfl rfl) (zd_b zq_prog_14_method_71_code_7 5 rfl rfl rfl)
theorem d_Mm_leastCost_230 : decode prog_14_method_71_code 230 = .ok (.iload 12, 2) := zo_21 (d := 12) (zd_b zq_prog_14_method_71_code_7 6 rfl rfl rfl) (zd_b zq_prog_14_method_71_code_7 7 rfl rfl rfl)
theorem d_Mm_leastCost_232 : decode prog_14_method_71_code 232 = .ok (.istore 10, 2) := zo_54 (d := 10) (zd_b zq_prog_14_method_71_code_7 8 rfl rfl rfl) (zd_b zq_prog_14_method_71_code_7 9 rfl rfl rfl)
theorem d_Mm_leastCost_215 : decode prog_14_method_71_code 215 = .ok (.iload 13, 2) := zo_21 (d := 13) (zd_b zq_prog_14_method_71_code_6 23 rfl rfl rfl) (zd_b zq_prog_14_method_71_code_6 24 rfl rfl rfl)
theorem d_Mm_leastCost_217 : decode prog_14_method_71_code 217 = .ok (.iload 8, 2) := zo_21 (d := 8) (zd_b zq_prog_14_method_71_code_6 25 rfl rfl rfl) (zd_b zq_prog_14_method_71_code_6 26 rfl rfl rfl)
theorem d_Mm_leastCost_219 : decode prog_14_method_71_code 219 = .ok (.if_icmp .ge 15, 3) := zo_162 (d := 0) (e := 15) (zd_b zq_prog_14_method_71_code_6 27 rfl rfl rfl) (zd_b zq_prog_14_method_71_code_6 28 rfl rfl rfl) (zd_b zq_prog_14_method_71_code_6 29 rfl rfl rfl) (by decide +kernel)
theorem d_Mm_leastCost_119 : decode prog_14_method_71_code 119 = .ok (.iload 11, 2) := zo_21 (d := 11) (zd_b zq_prog_14_method_71_code_3 23 rfl rfl rfl) (zd_b zq_prog_14_method_71_code_3 24 rfl rfl rfl)
theorem d_Mm_leastCost_121 : decode prog_14_method_71_code 121 = .ok (.ifCond .lt 125, 3) := zo_155 (d := 0) (e := 125) (zd_b zq_prog_14_method_71_code_3 25 rfl rfl rfl) (zd_b zq_prog_14_method_71_code_3 26 rfl rfl rfl) (zd_b zq_prog_14_method_71_code_3 27 rfl rfl rfl) (by decide +kernel)
theorem d_Mm_leastCost_246 : decode prog_14_method_71_code 246 = .ok (.aload_n 0, 1) := zo_42 (zd_b zq_prog_14_method_71_code_7 22 rfl rfl rfl)
theorem d_Mm_leastCost_247 : decode prog_14_method_71_code 247 = .ok (.iload 8, 2) := zo_21 (d := 8) (zd_b zq_prog_14_method_71_code_7 23 rfl rfl rfl) (zd_b zq_prog_14_method_71_code_7 24 rfl rfl rfl)
theorem d_Mm_leastCost_249 : decode prog_14_method_71_code 249 = .ok (.iconst (-1), 1) := zo_2 (zd_b zq_prog_14_method_71_code_7 25 rfl rfl rfl)
theorem d_Mm_leastCost_250 : decode prog_14_method_71_code 250 = .ok (.if_icmp .ne 7, 3) := zo_160 (d := 0) (e := 7) (zd_b zq_prog_14_method_71_code_7 26 rfl rfl rfl) (zd_b zq_prog_14_method_71_code_7 27 rfl rfl rfl) (zd_b zq_prog_14_method_71_code_7 28 rfl rfl rfl) (by decide +kernel)
theorem d_Mm_leastCost_253 : decode prog_14_method_71_code 253 = .ok (.iconst 1, 1) := zo_4 (zd_b zq_prog_14_method_71_code_7 29 rfl rfl rfl)
theorem d_Mm_leastCost_254 : decode prog_14_method_71_code 254 = .ok (.goto 4, 3) := zo_167 (d := 0) (e := 4) (zd_b zq_prog_14_method_71_code_7 30 rfl rfl rfl) (zd_b zq_prog_14_method_71_code_7 31 rfl rfl rfl) (zd_b zq_prog_14_method_71_code_8 0 rfl rfl rfl) (by decide +kernel)
theorem d_Mm_leastCost_258 : decode prog_14_method_71_code 258 = .ok (.iconst 2, 1) := zo_5 (zd_b zq_prog_14_method_71_code_8 2 rfl rfl rfl)
theorem d_Mm_leastCost_259 : decode prog_14_method_71_code 259 = .ok (.invokevirtual 103, 3) := zo_182 (d := 0) (e := 103) (zd_b zq_prog_14_method_71_code_8 3 rfl rfl rfl) (zd_b zq_prog_14_method_71_code_8 4 rfl rfl rfl) (zd_b zq_prog_14_method_71_code_8 5 rfl rfl rfl)
theorem d_Mm_leastCost_262 : decode prog_14_method_71_code 262 = .ok (.ifCond .eq 5, 3) := zo_153 (d := 0) (e := 5) (zd_b zq_prog_14_method_71_code_8 6 rfl rfl rfl) (zd_b zq_prog_14_method_71_code_8 7 rfl rfl rfl) (zd_b zq_prog_14_method_71_code_8 8 rfl rfl rfl) (by decide +kernel)
theorem d_Mm_leastCost_265 : decode prog_14_method_71_code 265 = .ok (.iconst 0, 1) := zo_3 (zd_b zq_prog_14_method_71_code_8 9 rfl rfl rfl)
theorem d_Mm_leastCost_266 : decode prog_14_method_71_code 266 = .ok (.ireturn, 1) := zo_172 (zd_b zq_prog_14_method_71_code_8 10 rfl rfl rfl)
theorem d_Mm_leastCost_124 : decode prog_14_method_71_code 124 = .ok (.iconst 0, 1) := zo_3 (zd_b zq_prog_14_method_71_code_3 28 rfl rfl rfl)
theorem d_Mm_leastCost_125 : decode prog_14_method_71_code 125 = .ok (.istore 12, 2) := zo_54 (d := 12) (zd_b zq_prog_14_method_71_code_3 29 rfl rfl rfl) (zd_b zq_prog_14_method_71_code_3 30 rfl rfl rfl)
theorem d_Mm_leastCost_240 : decode prog_14_method_71_code 240 = .ok (.iinc 11 (-10), 3) := by decide +kernel
theorem d_Mm_leastCost_243 : decode prog_14_method_71_code 243 = .ok (.goto (-124), 3) := zo_167 (d := 255) (e := 132) (zd_b zq_prog_14_method_71_code_7 19 rfl rfl rfl) (zd_b zq_prog_14_method_71_code_7 20 rfl rfl rfl) (zd_b zq_prog_14_method_71_code_7 21 rfl rfl rfl) (by decide +kernel)
theorem d_Mm_leastCost_96 : decode prog_14_method_71_code 96 = .ok (.iconst 0, 1) := zo_3 (zd_b zq_prog_14_method_71_code_3 0 rfl rfl rfl)
theorem d_Mm_leastCost_106 : decode prog_14_method_71_code 106 = .ok (.iconst (-1), 1) := zo_2 (zd_b zq_prog_14_method_71_code_3 10 rfl rfl rfl)
theorem d_Mm_leastCost_107 : decode prog_14_method_71_code 107 = .ok (.istore 8, 2) := zo_54 (d := 8) (zd_b zq_prog_14_method_71_code_3 11 rfl rfl rfl) (zd_b zq_prog_14_method_71_code_3 12 rfl rfl rfl)
theorem d_Mm_leastCost_109 : decode prog_14_method_71_code 109 = .ok (.iconst (-1), 1) := zo_2 (zd_b zq_prog_14_method_71_code_3 13 rfl rfl rfl)
theorem d_Mm_leastCost_110 : decode prog_14_method_71_code 110 = .ok (.istore 9, 2) := zo_54 (d := 9) (zd_b zq_prog_14_method_71_code_3 14 rfl rfl rfl) (zd_b zq_prog_14_method_71_code_3 15 rfl rfl rfl)
theorem d_Mm_leastCost_112 : decode prog_14_method_71_code 112 = .ok (.iconst 0, 1) := zo_3 (zd_b zq_prog_14_method_71_code_3 16 rfl rfl rfl)
theorem d_Mm_leastCost_113 : decode prog_14_method_71_code 113 = .ok (.istore 10, 2) := zo_54 (d := 10) (zd_b zq_prog_14_method_71_code_3 17 rfl rfl rfl) (zd_b zq_prog_14_method_71_code_3 18 rfl rfl rfl)
theorem d_Mm_leastCost_115 : decode prog_14_method_71_code 115 = .ok (.bipush 100, 2) := zo_16 (d := 100) (zd_b zq_prog_14_method_71_code_3 19 rfl rfl rfl) (zd_b zq_prog_14_method_71_code_3 20 rfl rfl rfl) (by decide +kernel)
theorem d_Mm_leastCost_117 : decode prog_14_method_71_code 117 = .ok (.istore 11, 2) := zo_54 (d := 11) (zd_b zq_prog_14_method_71_code_3 21 rfl rfl rfl) (zd_b zq_prog_14_method_71_code_3 22 rfl rfl rfl)
set_option maxHeartbeats 4000000 in
set_option maxRecDepth 100000 in
theorem L_Mm_leastCostF_127 (g : zG) (m mp mf mh mn mt mz mc_ mq mgr ml mi mr mm mu mk mx : Nat) (th pt cl wa co_ fi bu ho lh mg wd fpi fal : Int32) (po de : Int64) (le mo si pp ps pa : Int32) (hw : ((0 ≤ le ∧ le ≤ 450) ∧ (le ≤ mo ∧ mo ≤ 450) ∧ (0 ≤ si ∧ si ≤ 450) ∧ (1 ≤ pp ∧ pp ≤ 1000) ∧ (1 ≤ ps ∧ ps ≤ 1000) ∧ (1 ≤ pa ∧ pa ≤ 1000))) (hpr : ∀ P A, P + A ≤ 100 → 0 ≤ prS pp ps pa P A) (hs9 : (rcO le mo si pp ps pa (-1, -1, 0, 0) 11).1 < 0) (w0 : zW) (n : Nat) (kd : Nat) (hk : kd < 11) (K : DV g M_Mm_leastCost (fun o cs1 => o = .inl (some (.int 0)) ∧ cs1 = [(m, .inr (12, [.int 2, .ref mp, .int pt, .ref mf, .ref mh, .ref mn, .ref mt, .ref mz, .ref mc_, .ref mq, .ref mgr, .int cl, .int wa, .int co_, .int fi, .int bu, .int ho, .ref ml, .ref mi, .ref mr, .int lh, .int mg, .int wd, .int fpi, .int fal, .ref mm, .ref mu, .ref mk, .ref mx, .long po, .long de]))]) w0 n 240 [(12, .int (nI (nA (100 - 10 * kd)))), (11, .int (nI (100 - 10 * kd))), (10, .int ((rcR le mo si pp ps pa (100 - 10 * kd) (rcO le mo si pp ps pa (-1, -1, 0, 0) kd) (nA (100 - 10 * kd))).2.2.1)), (9, .int ((rcR le mo si pp ps pa (100 - 10 * kd) (rcO le mo si pp ps pa (-1, -1, 0, 0) kd) (nA (100 - 10 * kd))).2.1)), (8, .int ((rcR le mo si pp ps pa (100 - 10 * kd) (rcO le mo si pp ps pa (-1, -1, 0, 0) kd) (nA (100 - 10 * kd))).1)), (6, .int pa), (5, .int ps), (4, .int pp), (3, .int si), (2, .int mo), (1, .int le), (0, .ref m)] [] [(m, .inr (12, [.int 0, .ref mp, .int pt, .ref mf, .ref mh, .ref mn, .ref mt, .ref mz, .ref mc_, .ref mq, .ref mgr, .int cl, .int wa, .int co_, .int fi, .int bu, .int ho, .ref ml, .ref mi, .ref mr, .int lh, .int mg, .int wd, .int fpi, .int fal, .ref mm, .ref mu, .ref mk, .ref mx, .long po, .long de]))] 0 0) : ∀ (d i : Nat), i ≤ nA (100 - 10 * kd) → nA (100 - 10 * kd) < i + d → DV g M_Mm_leastCost (fun o cs1 => o = .inl (some (.int 0)) ∧ cs1 = [(m, .inr (12, [.int 2, .ref mp, .int pt, .ref mf, .ref mh, .ref mn, .ref mt, .ref mz, .ref mc_, .ref mq, .ref mgr, .int cl, .int wa, .int co_, .int fi, .int bu, .int ho, .ref ml, .ref mi, .ref mr, .int lh, .int mg, .int wd, .int fpi, .int fal, .ref mm, .ref mu, .ref mk, .ref mx, .long po, .long de]))]) w0 n 127 [(12, .int (nI i)), (11, .int (nI (100 - 10 * kd))), (10, .int ((rcR le mo si pp ps pa (100 - 10 * kd) (rcO le mo si pp ps pa (-1, -1, 0, 0) kd) i).2.2.1)), (9, .int ((rcR le mo si pp ps pa (100 - 10 * kd) (rcO le mo si pp ps pa (-1, -1, 0, 0) kd) i).2.1)), (8, .int ((rcR le mo si pp ps pa (100 - 10 * kd) (rcO le mo si pp ps pa (-1, -1, 0, 0) kd) i).1)), (6, .int pa), (5, .int ps), (4, .int pp), (3, .int si), (2, .int mo), (1, .int le), (0, .ref m)] [] [(m, .inr (12, [.int 0, .ref mp, .int pt, .ref mf, .ref mh, .ref mn, .ref mt, .ref mz, .ref mc_, .ref mq, .ref mgr, .int cl, .int wa, .int co_, .int fi, .int bu, .int ho, .ref ml, .ref mi, .ref mr, .int lh, .int mg, .int wd, .int fpi, .int fal, .ref mm, .ref mu, .ref mk, .ref mx, .long po, .long de]))] 0 0 := by
  intro d
  induction d with
  | zero => intro i h1 h2 ; exact absurd h2 (by omega)
  | succ d ih =>
    intro i h1 h2 
    refine r_iload d_Mm_leastCost_127 0 rfl ?_
    refine r_bipush d_Mm_leastCost_129 (v := 10) (by decide) ?_
    refine r_icmp_gt (tgt := 240) d_Mm_leastCost_131 (by decide) (fun c_131 => ?_) (fun c_131 => ?_)
    · have hn := z_lt (a := 10) (by unfold nA at h1; split at h1 <;> omega) (by decide) c_131
      have hx : i = nA (100 - 10 * kd) := by rcases nA_c (100 - 10 * kd) with ⟨q1, q2⟩ | ⟨q1, q2⟩ <;> omega
      refine r_lvE (lv2 := [(12, .int (nI (nA (100 - 10 * kd)))), (11, .int (nI (100 - 10 * kd))), (10, .int ((rcR le mo si pp ps pa (100 - 10 * kd) (rcO le mo si pp ps pa (-1, -1, 0, 0) kd) (nA (100 - 10 * kd))).2.2.1)), (9, .int ((rcR le mo si pp ps pa (100 - 10 * kd) (rcO le mo si pp ps pa (-1, -1, 0, 0) kd) (nA (100 - 10 * kd))).2.1)), (8, .int ((rcR le mo si pp ps pa (100 - 10 * kd) (rcO le mo si pp ps pa (-1, -1, 0, 0) kd) (nA (100 - 10 * kd))).1)), (6, .int pa), (5, .int ps), (4, .int pp), (3, .int si), (2, .int mo), (1, .int le), (0, .ref m)]) (by rw [hx]) ?_
      exact K
    · have hn := z_nlt (a := 10) (by unfold nA at h1; split at h1 <;> omega) (by decide) c_131
      refine r_iload d_Mm_leastCost_134 1 rfl ?_
      refine r_iload d_Mm_leastCost_136 0 rfl ?_
      refine r_iadd d_Mm_leastCost_138 (v := nI (100 - 10 * kd + i)) (nI_add _ _) ?_
      refine r_bipush d_Mm_leastCost_139 (v := 100) (by decide) ?_
      refine r_icmp_gt (tgt := 240) d_Mm_leastCost_141 (by decide) (fun c_141 => ?_) (fun c_141 => ?_)
      · have hm := z_lt (a := 100) (by omega) (by decide) c_141
        have hx : i = nA (100 - 10 * kd) := by rcases nA_c (100 - 10 * kd) with ⟨q1, q2⟩ | ⟨q1, q2⟩ <;> omega
        refine r_lvE (lv2 := [(12, .int (nI (nA (100 - 10 * kd)))), (11, .int (nI (100 - 10 * kd))), (10, .int ((rcR le mo si pp ps pa (100 - 10 * kd) (rcO le mo si pp ps pa (-1, -1, 0, 0) kd) (nA (100 - 10 * kd))).2.2.1)), (9, .int ((rcR le mo si pp ps pa (100 - 10 * kd) (rcO le mo si pp ps pa (-1, -1, 0, 0) kd) (nA (100 - 10 * kd))).2.1)), (8, .int ((rcR le mo si pp ps pa (100 - 10 * kd) (rcO le mo si pp ps pa (-1, -1, 0, 0) kd) (nA (100 - 10 * kd))).1)), (6, .int pa), (5, .int ps), (4, .int pp), (3, .int si), (2, .int mo), (1, .int le), (0, .ref m)]) (by rw [hx]) ?_
        exact K
      · have hm := z_nlt (a := 100) (by omega) (by decide) c_141
        have hlt : i < nA (100 - 10 * kd) := by unfold nA; split <;> omega
        have hok : rOk (rcR le mo si pp ps pa (100 - 10 * kd) (rcO le mo si pp ps pa (-1, -1, 0, 0) kd) i) := rcR_ok hpr (rcO_ok hpr (Or.inl rfl) kd (by omega)) i (by omega) (by omega) (by omega)
        refine r_iload d_Mm_leastCost_144 1 rfl ?_
        refine r_iload d_Mm_leastCost_146 7 rfl ?_
        refine r_imul d_Mm_leastCost_148 (v := (nI (100 - 10 * kd)) * pp) rfl ?_
        refine r_iload d_Mm_leastCost_149 0 rfl ?_
        refine r_iload d_Mm_leastCost_151 5 rfl ?_
        refine r_imul d_Mm_leastCost_153 (v := (nI i) * pa) rfl ?_
        refine r_iadd d_Mm_leastCost_154 (v := ((nI (100 - 10 * kd)) * pp) + ((nI i) * pa)) rfl ?_
        refine r_bipush d_Mm_leastCost_155 (v := 100) (by decide) ?_
        refine r_iload d_Mm_leastCost_157 1 rfl ?_
        refine r_isub d_Mm_leastCost_159 (v := nI (100 - (100 - 10 * kd))) (pk_sub (a := 100) (by omega)) ?_
        refine r_iload d_Mm_leastCost_160 0 rfl ?_
        refine r_isub d_Mm_leastCost_162 (v := nI (100 - (100 - 10 * kd) - i)) (pk_sub (by omega)) ?_
        refine r_iload d_Mm_leastCost_163 6 rfl ?_
        refine r_imul d_Mm_leastCost_165 (v := (nI (100 - (100 - 10 * kd) - i)) * ps) rfl ?_
        refine r_iadd d_Mm_leastCost_166 (v := prS pp ps pa (100 - 10 * kd) i) (by unfold prS; exact z_arc _ _ _) ?_
        refine r_istore (lv' := [(13, .int (prS pp ps pa (100 - 10 * kd) i)), (12, .int (nI i)), (11, .int (nI (100 - 10 * kd))), (10, .int ((rcR le mo si pp ps pa (100 - 10 * kd) (rcO le mo si pp ps pa (-1, -1, 0, 0) kd) i).2.2.1)), (9, .int ((rcR le mo si pp ps pa (100 - 10 * kd) (rcO le mo si pp ps pa (-1, -1, 0, 0) kd) i).2.1)), (8, .int ((rcR le mo si pp ps pa (100 - 10 * kd) (rcO le mo si pp ps pa (-1, -1, 0, 0) kd) i).1)), (6, .int pa), (5, .int ps), (4, .int pp), (3, .int si), (2, .int mo), (1, .int le), (0, .ref m)]) d_Mm_leastCost_167 (by decide) rfl ?_
        refine r_iload d_Mm_leastCost_169 2 rfl ?_
        refine r_iload d_Mm_leastCost_171 1 rfl ?_
        refine r_iconst d_Mm_leastCost_173 (v := 0) (by decide) ?_
        refine r_callS (As := [.int (nI (100 - 10 * kd)), .int (nI i), .int 0]) (rest := []) (csC := []) (is := []) ln_Mm_272 w_st_Mm_has_0 ok_Mm_leastCost_Mm_has_0 d_Mm_leastCost_174 (C_Mm_hasP0 g (100 - 10 * kd) i (by omega)) rfl rfl (Nat.le_of_ble_eq_true rfl) rfl (by decide) (by omega) (by omega) (fun E cs1 hx => ?_) (fun v cs1 hx => ?_)
        · exact absurd hx.1 (by simp)
        · obtain ⟨e1, rfl⟩ := hx
          cases e1
          refine ⟨rfl, ?_⟩
          refine r_st (st2 := [.int (ctS 0 (nI (100 - 10 * kd)) (nI (100 - (100 - 10 * kd) - i)) (nI i))]) rfl ?_
          refine r_cs (cs2 := [(m, .inr (12, [.int 0, .ref mp, .int pt, .ref mf, .ref mh, .ref mn, .ref mt, .ref mz, .ref mc_, .ref mq, .ref mgr, .int cl, .int wa, .int co_, .int fi, .int bu, .int ho, .ref ml, .ref mi, .ref mr, .int lh, .int mg, .int wd, .int fpi, .int fal, .ref mm, .ref mu, .ref mk, .ref mx, .long po, .long de]))]) rfl ?_
          refine r_iload_n d_Mm_leastCost_177 rfl 11 rfl ?_
          refine r_iload_n d_Mm_leastCost_178 rfl 10 rfl ?_
          refine r_callS (As := [.int (ctS 0 (nI (100 - 10 * kd)) (nI (100 - (100 - 10 * kd) - i)) (nI i)), .int le, .int mo]) (rest := []) (csC := []) (is := []) ln_Mm_87 w_st_Mm_in ok_Mm_leastCost_Mm_in d_Mm_leastCost_179 (C_Mm_in g (ctS 0 (nI (100 - 10 * kd)) (nI (100 - (100 - 10 * kd) - i)) (nI i)) le mo) rfl rfl (Nat.le_of_ble_eq_true rfl) rfl (by decide) (by omega) (by omega) (fun E cs1 hx => ?_) (fun v cs1 hx => ?_)
          · exact absurd hx.1 (by simp)
          · obtain ⟨e1, rfl⟩ := hx
            cases e1
            refine ⟨rfl, ?_⟩
            refine r_st (st2 := [.int (if le ≤ ctS 0 (nI (100 - 10 * kd)) (nI (100 - (100 - 10 * kd) - i)) (nI i) ∧ ctS 0 (nI (100 - 10 * kd)) (nI (100 - (100 - 10 * kd) - i)) (nI i) ≤ mo then 1 else 0)]) rfl ?_
            refine r_cs (cs2 := [(m, .inr (12, [.int 0, .ref mp, .int pt, .ref mf, .ref mh, .ref mn, .ref mt, .ref mz, .ref mc_, .ref mq, .ref mgr, .int cl, .int wa, .int co_, .int fi, .int bu, .int ho, .ref ml, .ref mi, .ref mr, .int lh, .int mg, .int wd, .int fpi, .int fal, .ref mm, .ref mu, .ref mk, .ref mx, .long po, .long de]))]) rfl ?_
            refine r_if_eq (tgt := 201) d_Mm_leastCost_182 (by decide) (fun c_182 => ?_) (fun c_182 => ?_)
            · have hc := ct_le (z_b0 c_182)
              refine r_iconst d_Mm_leastCost_201 (v := 0) (by decide) ?_
              refine r_istore (lv' := [(14, .int 0), (13, .int (prS pp ps pa (100 - 10 * kd) i)), (12, .int (nI i)), (11, .int (nI (100 - 10 * kd))), (10, .int ((rcR le mo si pp ps pa (100 - 10 * kd) (rcO le mo si pp ps pa (-1, -1, 0, 0) kd) i).2.2.1)), (9, .int ((rcR le mo si pp ps pa (100 - 10 * kd) (rcO le mo si pp ps pa (-1, -1, 0, 0) kd) i).2.1)), (8, .int ((rcR le mo si pp ps pa (100 - 10 * kd) (rcO le mo si pp ps pa (-1, -1, 0, 0) kd) i).1)), (6, .int pa), (5, .int ps), (4, .int pp), (3, .int si), (2, .int mo), (1, .int le), (0, .ref m)]) d_Mm_leastCost_202 (by decide) rfl ?_
              refine r_iload d_Mm_leastCost_204 0 rfl ?_
              refine r_if_eq (tgt := 234) d_Mm_leastCost_206 (by decide) (fun c_206 => ?_) (fun c_206 => ?_)
              · refine r_iinc (lv' := [(12, .int (nI (i + 1))), (14, .int 0), (13, .int (prS pp ps pa (100 - 10 * kd) i)), (11, .int (nI (100 - 10 * kd))), (10, .int ((rcR le mo si pp ps pa (100 - 10 * kd) (rcO le mo si pp ps pa (-1, -1, 0, 0) kd) i).2.2.1)), (9, .int ((rcR le mo si pp ps pa (100 - 10 * kd) (rcO le mo si pp ps pa (-1, -1, 0, 0) kd) i).2.1)), (8, .int ((rcR le mo si pp ps pa (100 - 10 * kd) (rcO le mo si pp ps pa (-1, -1, 0, 0) kd) i).1)), (6, .int pa), (5, .int ps), (4, .int pp), (3, .int si), (2, .int mo), (1, .int le), (0, .ref m)]) (v := nI (i + 1)) d_Mm_leastCost_234 (j := 2) rfl (nI_add _ _) (by decide) rfl ?_
                refine r_goto (tgt := 127) d_Mm_leastCost_237 (by decide) ?_
                refine r_lv (lv' := [(12, .int (nI (i + 1))), (11, .int (nI (100 - 10 * kd))), (10, .int ((rcR le mo si pp ps pa (100 - 10 * kd) (rcO le mo si pp ps pa (-1, -1, 0, 0) kd) i).2.2.1)), (9, .int ((rcR le mo si pp ps pa (100 - 10 * kd) (rcO le mo si pp ps pa (-1, -1, 0, 0) kd) i).2.1)), (8, .int ((rcR le mo si pp ps pa (100 - 10 * kd) (rcO le mo si pp ps pa (-1, -1, 0, 0) kd) i).1)), (6, .int pa), (5, .int ps), (4, .int pp), (3, .int si), (2, .int mo), (1, .int le), (0, .ref m)]) [0, 3, 4, 5, 6, 7, 8, 9, 10, 11, 12, 13] rfl ?_
                refine r_lvE (lv2 := [(12, .int (nI (i + 1))), (11, .int (nI (100 - 10 * kd))), (10, .int ((rcR le mo si pp ps pa (100 - 10 * kd) (rcO le mo si pp ps pa (-1, -1, 0, 0) kd) (i + 1)).2.2.1)), (9, .int ((rcR le mo si pp ps pa (100 - 10 * kd) (rcO le mo si pp ps pa (-1, -1, 0, 0) kd) (i + 1)).2.1)), (8, .int ((rcR le mo si pp ps pa (100 - 10 * kd) (rcO le mo si pp ps pa (-1, -1, 0, 0) kd) (i + 1)).1)), (6, .int pa), (5, .int ps), (4, .int pp), (3, .int si), (2, .int mo), (1, .int le), (0, .ref m)]) (by first | (rw [rcR, rcI_f (fun h => h.1.2.2 c_194)] <;> rfl) | (rw [rcR, rcI_f (fun h => hc ⟨h.1.1, h.1.2.1⟩)] <;> rfl) | (rw [rcR, rcI_f (fun h => h.2.elim (rOk_b hok c_212) (fun q => q c_219))] <;> rfl) | (rw [rcR, rcI_f (fun h => h.2.elim (rOk_b hok c_212) (fun q => q (Int32.not_lt.mp c_219)))] <;> rfl) | (rw [rcR, rcI_t ⟨⟨hc.1, hc.2, c_194⟩, Or.inr (Int32.not_le.mpr c_219)⟩] <;> rfl) | (rw [rcR, rcI_t ⟨⟨hc.1, hc.2, c_194⟩, Or.inr c_219⟩] <;> rfl) | (rw [rcR, rcI_t ⟨⟨hc.1, hc.2, c_194⟩, Or.inl (rOk_m1 c_212)⟩] <;> rfl)) ?_
                refine r_cs (cs2 := [(m, .inr (12, [.int 0, .ref mp, .int pt, .ref mf, .ref mh, .ref mn, .ref mt, .ref mz, .ref mc_, .ref mq, .ref mgr, .int cl, .int wa, .int co_, .int fi, .int bu, .int ho, .ref ml, .ref mi, .ref mr, .int lh, .int mg, .int wd, .int fpi, .int fal, .ref mm, .ref mu, .ref mk, .ref mx, .long po, .long de]))]) (rfl) ?_
                exact ih (i + 1) (by omega) (by omega)
              · exact absurd c_206 (by decide)
            · have hc : ¬ ctS 0 (nI (100 - 10 * kd)) (nI (100 - (100 - 10 * kd) - i)) (nI i) < le ∧ ¬ mo < ctS 0 (nI (100 - 10 * kd)) (nI (100 - (100 - 10 * kd) - i)) (nI i) := ⟨Int32.not_lt.mpr (z_b1 c_182).1, Int32.not_lt.mpr (z_b1 c_182).2⟩
              refine r_iload d_Mm_leastCost_185 2 rfl ?_
              refine r_iload d_Mm_leastCost_187 1 rfl ?_
              refine r_iconst d_Mm_leastCost_189 (v := 1) (by decide) ?_
              refine r_callS (As := [.int (nI (100 - 10 * kd)), .int (nI i), .int 1]) (rest := []) (csC := []) (is := []) ln_Mm_272 w_st_Mm_has_0 ok_Mm_leastCost_Mm_has_0 d_Mm_leastCost_190 (C_Mm_hasP1 g (100 - 10 * kd) i (by omega)) rfl rfl (Nat.le_of_ble_eq_true rfl) rfl (by decide) (by omega) (by omega) (fun E cs1 hx => ?_) (fun v cs1 hx => ?_)
              · exact absurd hx.1 (by simp)
              · obtain ⟨e1, rfl⟩ := hx
                cases e1
                refine ⟨rfl, ?_⟩
                refine r_st (st2 := [.int (ctS 1 (nI (100 - 10 * kd)) (nI (100 - (100 - 10 * kd) - i)) (nI i))]) rfl ?_
                refine r_cs (cs2 := [(m, .inr (12, [.int 0, .ref mp, .int pt, .ref mf, .ref mh, .ref mn, .ref mt, .ref mz, .ref mc_, .ref mq, .ref mgr, .int cl, .int wa, .int co_, .int fi, .int bu, .int ho, .ref ml, .ref mi, .ref mr, .int lh, .int mg, .int wd, .int fpi, .int fal, .ref mm, .ref mu, .ref mk, .ref mx, .long po, .long de]))]) rfl ?_
                refine r_iload_n d_Mm_leastCost_193 rfl 9 rfl ?_
                refine r_icmp_lt (tgt := 201) d_Mm_leastCost_194 (by decide) (fun c_194 => ?_) (fun c_194 => ?_)
                · refine r_iconst d_Mm_leastCost_201 (v := 0) (by decide) ?_
                  refine r_istore (lv' := [(14, .int 0), (13, .int (prS pp ps pa (100 - 10 * kd) i)), (12, .int (nI i)), (11, .int (nI (100 - 10 * kd))), (10, .int ((rcR le mo si pp ps pa (100 - 10 * kd) (rcO le mo si pp ps pa (-1, -1, 0, 0) kd) i).2.2.1)), (9, .int ((rcR le mo si pp ps pa (100 - 10 * kd) (rcO le mo si pp ps pa (-1, -1, 0, 0) kd) i).2.1)), (8, .int ((rcR le mo si pp ps pa (100 - 10 * kd) (rcO le mo si pp ps pa (-1, -1, 0, 0) kd) i).1)), (6, .int pa), (5, .int ps), (4, .int pp), (3, .int si), (2, .int mo), (1, .int le), (0, .ref m)]) d_Mm_leastCost_202 (by decide) rfl ?_
                  refine r_iload d_Mm_leastCost_204 0 rfl ?_
                  refine r_if_eq (tgt := 234) d_Mm_leastCost_206 (by decide) (fun c_206 => ?_) (fun c_206 => ?_)
                  · refine r_iinc (lv' := [(12, .int (nI (i + 1))), (14, .int 0), (13, .int (prS pp ps pa (100 - 10 * kd) i)), (11, .int (nI (100 - 10 * kd))), (10, .int ((rcR le mo si pp ps pa (100 - 10 * kd) (rcO le mo si pp ps pa (-1, -1, 0, 0) kd) i).2.2.1)), (9, .int ((rcR le mo si pp ps pa (100 - 10 * kd) (rcO le mo si pp ps pa (-1, -1, 0, 0) kd) i).2.1)), (8, .int ((rcR le mo si pp ps pa (100 - 10 * kd) (rcO le mo si pp ps pa (-1, -1, 0, 0) kd) i).1)), (6, .int pa), (5, .int ps), (4, .int pp), (3, .int si), (2, .int mo), (1, .int le), (0, .ref m)]) (v := nI (i + 1)) d_Mm_leastCost_234 (j := 2) rfl (nI_add _ _) (by decide) rfl ?_
                    refine r_goto (tgt := 127) d_Mm_leastCost_237 (by decide) ?_
                    refine r_lv (lv' := [(12, .int (nI (i + 1))), (11, .int (nI (100 - 10 * kd))), (10, .int ((rcR le mo si pp ps pa (100 - 10 * kd) (rcO le mo si pp ps pa (-1, -1, 0, 0) kd) i).2.2.1)), (9, .int ((rcR le mo si pp ps pa (100 - 10 * kd) (rcO le mo si pp ps pa (-1, -1, 0, 0) kd) i).2.1)), (8, .int ((rcR le mo si pp ps pa (100 - 10 * kd) (rcO le mo si pp ps pa (-1, -1, 0, 0) kd) i).1)), (6, .int pa), (5, .int ps), (4, .int pp), (3, .int si), (2, .int mo), (1, .int le), (0, .ref m)]) [0, 3, 4, 5, 6, 7, 8, 9, 10, 11, 12, 13] rfl ?_
                    refine r_lvE (lv2 := [(12, .int (nI (i + 1))), (11, .int (nI (100 - 10 * kd))), (10, .int ((rcR le mo si pp ps pa (100 - 10 * kd) (rcO le mo si pp ps pa (-1, -1, 0, 0) kd) (i + 1)).2.2.1)), (9, .int ((rcR le mo si pp ps pa (100 - 10 * kd) (rcO le mo si pp ps pa (-1, -1, 0, 0) kd) (i + 1)).2.1)), (8, .int ((rcR le mo si pp ps pa (100 - 10 * kd) (rcO le mo si pp ps pa (-1, -1, 0, 0) kd) (i + 1)).1)), (6, .int pa), (5, .int ps), (4, .int pp), (3, .int si), (2, .int mo), (1, .int le), (0, .ref m)]) (by first | (rw [rcR, rcI_f (fun h => h.1.2.2 c_194)] <;> rfl) | (rw [rcR, rcI_f (fun h => hc ⟨h.1.1, h.1.2.1⟩)] <;> rfl) | (rw [rcR, rcI_f (fun h => h.2.elim (rOk_b hok c_212) (fun q => q c_219))] <;> rfl) | (rw [rcR, rcI_f (fun h => h.2.elim (rOk_b hok c_212) (fun q => q (Int32.not_lt.mp c_219)))] <;> rfl) | (rw [rcR, rcI_t ⟨⟨hc.1, hc.2, c_194⟩, Or.inr (Int32.not_le.mpr c_219)⟩] <;> rfl) | (rw [rcR, rcI_t ⟨⟨hc.1, hc.2, c_194⟩, Or.inr c_219⟩] <;> rfl) | (rw [rcR, rcI_t ⟨⟨hc.1, hc.2, c_194⟩, Or.inl (rOk_m1 c_212)⟩] <;> rfl)) ?_
                    refine r_cs (cs2 := [(m, .inr (12, [.int 0, .ref mp, .int pt, .ref mf, .ref mh, .ref mn, .ref mt, .ref mz, .ref mc_, .ref mq, .ref mgr, .int cl, .int wa, .int co_, .int fi, .int bu, .int ho, .ref ml, .ref mi, .ref mr, .int lh, .int mg, .int wd, .int fpi, .int fal, .ref mm, .ref mu, .ref mk, .ref mx, .long po, .long de]))]) (rfl) ?_
                    exact ih (i + 1) (by omega) (by omega)
                  · exact absurd c_206 (by decide)
                · refine r_iconst d_Mm_leastCost_197 (v := 1) (by decide) ?_
                  refine r_goto (tgt := 202) d_Mm_leastCost_198 (by decide) ?_
                  refine r_istore (lv' := [(14, .int 1), (13, .int (prS pp ps pa (100 - 10 * kd) i)), (12, .int (nI i)), (11, .int (nI (100 - 10 * kd))), (10, .int ((rcR le mo si pp ps pa (100 - 10 * kd) (rcO le mo si pp ps pa (-1, -1, 0, 0) kd) i).2.2.1)), (9, .int ((rcR le mo si pp ps pa (100 - 10 * kd) (rcO le mo si pp ps pa (-1, -1, 0, 0) kd) i).2.1)), (8, .int ((rcR le mo si pp ps pa (100 - 10 * kd) (rcO le mo si pp ps pa (-1, -1, 0, 0) kd) i).1)), (6, .int pa), (5, .int ps), (4, .int pp), (3, .int si), (2, .int mo), (1, .int le), (0, .ref m)]) d_Mm_leastCost_202 (by decide) rfl ?_
                  refine r_iload d_Mm_leastCost_204 0 rfl ?_
                  refine r_if_eq (tgt := 234) d_Mm_leastCost_206 (by decide) (fun c_206 => ?_) (fun c_206 => ?_)
                  · exact absurd c_206 (by decide)
                  · refine r_iload d_Mm_leastCost_209 6 rfl ?_
                    refine r_iconst d_Mm_leastCost_211 (v := (-1)) (by decide) ?_
                    refine r_icmp_eq (tgt := 222) d_Mm_leastCost_212 (by decide) (fun c_212 => ?_) (fun c_212 => ?_)
                    · refine r_iload d_Mm_leastCost_222 1 rfl ?_
                      refine r_istore (lv' := [(8, .int (prS pp ps pa (100 - 10 * kd) i)), (14, .int 1), (13, .int (prS pp ps pa (100 - 10 * kd) i)), (12, .int (nI i)), (11, .int (nI (100 - 10 * kd))), (10, .int ((rcR le mo si pp ps pa (100 - 10 * kd) (rcO le mo si pp ps pa (-1, -1, 0, 0) kd) i).2.2.1)), (9, .int ((rcR le mo si pp ps pa (100 - 10 * kd) (rcO le mo si pp ps pa (-1, -1, 0, 0) kd) i).2.1)), (6, .int pa), (5, .int ps), (4, .int pp), (3, .int si), (2, .int mo), (1, .int le), (0, .ref m)]) d_Mm_leastCost_224 (by decide) rfl ?_
                      refine r_iload d_Mm_leastCost_226 4 rfl ?_
                      refine r_istore (lv' := [(9, .int (nI (100 - 10 * kd))), (8, .int (prS pp ps pa (100 - 10 * kd) i)), (14, .int 1), (13, .int (prS pp ps pa (100 - 10 * kd) i)), (12, .int (nI i)), (11, .int (nI (100 - 10 * kd))), (10, .int ((rcR le mo si pp ps pa (100 - 10 * kd) (rcO le mo si pp ps pa (-1, -1, 0, 0) kd) i).2.2.1)), (6, .int pa), (5, .int ps), (4, .int pp), (3, .int si), (2, .int mo), (1, .int le), (0, .ref m)]) d_Mm_leastCost_228 (by decide) rfl ?_
                      refine r_iload d_Mm_leastCost_230 4 rfl ?_
                      refine r_istore (lv' := [(10, .int (nI i)), (9, .int (nI (100 - 10 * kd))), (8, .int (prS pp ps pa (100 - 10 * kd) i)), (14, .int 1), (13, .int (prS pp ps pa (100 - 10 * kd) i)), (12, .int (nI i)), (11, .int (nI (100 - 10 * kd))), (6, .int pa), (5, .int ps), (4, .int pp), (3, .int si), (2, .int mo), (1, .int le), (0, .ref m)]) d_Mm_leastCost_232 (by decide) rfl ?_
                      refine r_iinc (lv' := [(12, .int (nI (i + 1))), (10, .int (nI i)), (9, .int (nI (100 - 10 * kd))), (8, .int (prS pp ps pa (100 - 10 * kd) i)), (14, .int 1), (13, .int (prS pp ps pa (100 - 10 * kd) i)), (11, .int (nI (100 - 10 * kd))), (6, .int pa), (5, .int ps), (4, .int pp), (3, .int si), (2, .int mo), (1, .int le), (0, .ref m)]) (v := nI (i + 1)) d_Mm_leastCost_234 (j := 5) rfl (nI_add _ _) (by decide) rfl ?_
                      refine r_goto (tgt := 127) d_Mm_leastCost_237 (by decide) ?_
                      refine r_lv (lv' := [(12, .int (nI (i + 1))), (11, .int (nI (100 - 10 * kd))), (10, .int (nI i)), (9, .int (nI (100 - 10 * kd))), (8, .int (prS pp ps pa (100 - 10 * kd) i)), (6, .int pa), (5, .int ps), (4, .int pp), (3, .int si), (2, .int mo), (1, .int le), (0, .ref m)]) [0, 6, 1, 2, 3, 7, 8, 9, 10, 11, 12, 13] rfl ?_
                      refine r_lvE (lv2 := [(12, .int (nI (i + 1))), (11, .int (nI (100 - 10 * kd))), (10, .int ((rcR le mo si pp ps pa (100 - 10 * kd) (rcO le mo si pp ps pa (-1, -1, 0, 0) kd) (i + 1)).2.2.1)), (9, .int ((rcR le mo si pp ps pa (100 - 10 * kd) (rcO le mo si pp ps pa (-1, -1, 0, 0) kd) (i + 1)).2.1)), (8, .int ((rcR le mo si pp ps pa (100 - 10 * kd) (rcO le mo si pp ps pa (-1, -1, 0, 0) kd) (i + 1)).1)), (6, .int pa), (5, .int ps), (4, .int pp), (3, .int si), (2, .int mo), (1, .int le), (0, .ref m)]) (by first | (rw [rcR, rcI_f (fun h => h.1.2.2 c_194)] <;> rfl) | (rw [rcR, rcI_f (fun h => hc ⟨h.1.1, h.1.2.1⟩)] <;> rfl) | (rw [rcR, rcI_f (fun h => h.2.elim (rOk_b hok c_212) (fun q => q c_219))] <;> rfl) | (rw [rcR, rcI_f (fun h => h.2.elim (rOk_b hok c_212) (fun q => q (Int32.not_lt.mp c_219)))] <;> rfl) | (rw [rcR, rcI_t ⟨⟨hc.1, hc.2, c_194⟩, Or.inr (Int32.not_le.mpr c_219)⟩] <;> rfl) | (rw [rcR, rcI_t ⟨⟨hc.1, hc.2, c_194⟩, Or.inr c_219⟩] <;> rfl) | (rw [rcR, rcI_t ⟨⟨hc.1, hc.2, c_194⟩, Or.inl (rOk_m1 c_212)⟩] <;> rfl)) ?_
                      refine r_cs (cs2 := [(m, .inr (12, [.int 0, .ref mp, .int pt, .ref mf, .ref mh, .ref mn, .ref mt, .ref mz, .ref mc_, .ref mq, .ref mgr, .int cl, .int wa, .int co_, .int fi, .int bu, .int ho, .ref ml, .ref mi, .ref mr, .int lh, .int mg, .int wd, .int fpi, .int fal, .ref mm, .ref mu, .ref mk, .ref mx, .long po, .long de]))]) (rfl) ?_
                      exact ih (i + 1) (by omega) (by omega)
                    · refine r_iload d_Mm_leastCost_215 1 rfl ?_
                      refine r_iload d_Mm_leastCost_217 6 rfl ?_
                      refine r_icmp_ge (tgt := 234) d_Mm_leastCost_219 (by decide) (fun c_219 => ?_) (fun c_219 => ?_)
                      · refine r_iinc (lv' := [(12, .int (nI (i + 1))), (14, .int 1), (13, .int (prS pp ps pa (100 - 10 * kd) i)), (11, .int (nI (100 - 10 * kd))), (10, .int ((rcR le mo si pp ps pa (100 - 10 * kd) (rcO le mo si pp ps pa (-1, -1, 0, 0) kd) i).2.2.1)), (9, .int ((rcR le mo si pp ps pa (100 - 10 * kd) (rcO le mo si pp ps pa (-1, -1, 0, 0) kd) i).2.1)), (8, .int ((rcR le mo si pp ps pa (100 - 10 * kd) (rcO le mo si pp ps pa (-1, -1, 0, 0) kd) i).1)), (6, .int pa), (5, .int ps), (4, .int pp), (3, .int si), (2, .int mo), (1, .int le), (0, .ref m)]) (v := nI (i + 1)) d_Mm_leastCost_234 (j := 2) rfl (nI_add _ _) (by decide) rfl ?_
                        refine r_goto (tgt := 127) d_Mm_leastCost_237 (by decide) ?_
                        refine r_lv (lv' := [(12, .int (nI (i + 1))), (11, .int (nI (100 - 10 * kd))), (10, .int ((rcR le mo si pp ps pa (100 - 10 * kd) (rcO le mo si pp ps pa (-1, -1, 0, 0) kd) i).2.2.1)), (9, .int ((rcR le mo si pp ps pa (100 - 10 * kd) (rcO le mo si pp ps pa (-1, -1, 0, 0) kd) i).2.1)), (8, .int ((rcR le mo si pp ps pa (100 - 10 * kd) (rcO le mo si pp ps pa (-1, -1, 0, 0) kd) i).1)), (6, .int pa), (5, .int ps), (4, .int pp), (3, .int si), (2, .int mo), (1, .int le), (0, .ref m)]) [0, 3, 4, 5, 6, 7, 8, 9, 10, 11, 12, 13] rfl ?_
                        refine r_lvE (lv2 := [(12, .int (nI (i + 1))), (11, .int (nI (100 - 10 * kd))), (10, .int ((rcR le mo si pp ps pa (100 - 10 * kd) (rcO le mo si pp ps pa (-1, -1, 0, 0) kd) (i + 1)).2.2.1)), (9, .int ((rcR le mo si pp ps pa (100 - 10 * kd) (rcO le mo si pp ps pa (-1, -1, 0, 0) kd) (i + 1)).2.1)), (8, .int ((rcR le mo si pp ps pa (100 - 10 * kd) (rcO le mo si pp ps pa (-1, -1, 0, 0) kd) (i + 1)).1)), (6, .int pa), (5, .int ps), (4, .int pp), (3, .int si), (2, .int mo), (1, .int le), (0, .ref m)]) (by first | (rw [rcR, rcI_f (fun h => h.1.2.2 c_194)] <;> rfl) | (rw [rcR, rcI_f (fun h => hc ⟨h.1.1, h.1.2.1⟩)] <;> rfl) | (rw [rcR, rcI_f (fun h => h.2.elim (rOk_b hok c_212) (fun q => q c_219))] <;> rfl) | (rw [rcR, rcI_f (fun h => h.2.elim (rOk_b hok c_212) (fun q => q (Int32.not_lt.mp c_219)))] <;> rfl) | (rw [rcR, rcI_t ⟨⟨hc.1, hc.2, c_194⟩, Or.inr (Int32.not_le.mpr c_219)⟩] <;> rfl) | (rw [rcR, rcI_t ⟨⟨hc.1, hc.2, c_194⟩, Or.inr c_219⟩] <;> rfl) | (rw [rcR, rcI_t ⟨⟨hc.1, hc.2, c_194⟩, Or.inl (rOk_m1 c_212)⟩] <;> rfl)) ?_
                        refine r_cs (cs2 := [(m, .inr (12, [.int 0, .ref mp, .int pt, .ref mf, .ref mh, .ref mn, .ref mt, .ref mz, .ref mc_, .ref mq, .ref mgr, .int cl, .int wa, .int co_, .int fi, .int bu, .int ho, .ref ml, .ref mi, .ref mr, .int lh, .int mg, .int wd, .int fpi, .int fal, .ref mm, .ref mu, .ref mk, .ref mx, .long po, .long de]))]) (rfl) ?_
                        exact ih (i + 1) (by omega) (by omega)
                      · refine r_iload d_Mm_leastCost_222 1 rfl ?_
                        refine r_istore (lv' := [(8, .int (prS pp ps pa (100 - 10 * kd) i)), (14, .int 1), (13, .int (prS pp ps pa (100 - 10 * kd) i)), (12, .int (nI i)), (11, .int (nI (100 - 10 * kd))), (10, .int ((rcR le mo si pp ps pa (100 - 10 * kd) (rcO le mo si pp ps pa (-1, -1, 0, 0) kd) i).2.2.1)), (9, .int ((rcR le mo si pp ps pa (100 - 10 * kd) (rcO le mo si pp ps pa (-1, -1, 0, 0) kd) i).2.1)), (6, .int pa), (5, .int ps), (4, .int pp), (3, .int si), (2, .int mo), (1, .int le), (0, .ref m)]) d_Mm_leastCost_224 (by decide) rfl ?_
                        refine r_iload d_Mm_leastCost_226 4 rfl ?_
                        refine r_istore (lv' := [(9, .int (nI (100 - 10 * kd))), (8, .int (prS pp ps pa (100 - 10 * kd) i)), (14, .int 1), (13, .int (prS pp ps pa (100 - 10 * kd) i)), (12, .int (nI i)), (11, .int (nI (100 - 10 * kd))), (10, .int ((rcR le mo si pp ps pa (100 - 10 * kd) (rcO le mo si pp ps pa (-1, -1, 0, 0) kd) i).2.2.1)), (6, .int pa), (5, .int ps), (4, .int pp), (3, .int si), (2, .int mo), (1, .int le), (0, .ref m)]) d_Mm_leastCost_228 (by decide) rfl ?_
                        refine r_iload d_Mm_leastCost_230 4 rfl ?_
                        refine r_istore (lv' := [(10, .int (nI i)), (9, .int (nI (100 - 10 * kd))), (8, .int (prS pp ps pa (100 - 10 * kd) i)), (14, .int 1), (13, .int (prS pp ps pa (100 - 10 * kd) i)), (12, .int (nI i)), (11, .int (nI (100 - 10 * kd))), (6, .int pa), (5, .int ps), (4, .int pp), (3, .int si), (2, .int mo), (1, .int le), (0, .ref m)]) d_Mm_leastCost_232 (by decide) rfl ?_
                        refine r_iinc (lv' := [(12, .int (nI (i + 1))), (10, .int (nI i)), (9, .int (nI (100 - 10 * kd))), (8, .int (prS pp ps pa (100 - 10 * kd) i)), (14, .int 1), (13, .int (prS pp ps pa (100 - 10 * kd) i)), (11, .int (nI (100 - 10 * kd))), (6, .int pa), (5, .int ps), (4, .int pp), (3, .int si), (2, .int mo), (1, .int le), (0, .ref m)]) (v := nI (i + 1)) d_Mm_leastCost_234 (j := 5) rfl (nI_add _ _) (by decide) rfl ?_
                        refine r_goto (tgt := 127) d_Mm_leastCost_237 (by decide) ?_
                        refine r_lv (lv' := [(12, .int (nI (i + 1))), (11, .int (nI (100 - 10 * kd))), (10, .int (nI i)), (9, .int (nI (100 - 10 * kd))), (8, .int (prS pp ps pa (100 - 10 * kd) i)), (6, .int pa), (5, .int ps), (4, .int pp), (3, .int si), (2, .int mo), (1, .int le), (0, .ref m)]) [0, 6, 1, 2, 3, 7, 8, 9, 10, 11, 12, 13] rfl ?_
                        refine r_lvE (lv2 := [(12, .int (nI (i + 1))), (11, .int (nI (100 - 10 * kd))), (10, .int ((rcR le mo si pp ps pa (100 - 10 * kd) (rcO le mo si pp ps pa (-1, -1, 0, 0) kd) (i + 1)).2.2.1)), (9, .int ((rcR le mo si pp ps pa (100 - 10 * kd) (rcO le mo si pp ps pa (-1, -1, 0, 0) kd) (i + 1)).2.1)), (8, .int ((rcR le mo si pp ps pa (100 - 10 * kd) (rcO le mo si pp ps pa (-1, -1, 0, 0) kd) (i + 1)).1)), (6, .int pa), (5, .int ps), (4, .int pp), (3, .int si), (2, .int mo), (1, .int le), (0, .ref m)]) (by first | (rw [rcR, rcI_f (fun h => h.1.2.2 c_194)] <;> rfl) | (rw [rcR, rcI_f (fun h => hc ⟨h.1.1, h.1.2.1⟩)] <;> rfl) | (rw [rcR, rcI_f (fun h => h.2.elim (rOk_b hok c_212) (fun q => q c_219))] <;> rfl) | (rw [rcR, rcI_f (fun h => h.2.elim (rOk_b hok c_212) (fun q => q (Int32.not_lt.mp c_219)))] <;> rfl) | (rw [rcR, rcI_t ⟨⟨hc.1, hc.2, c_194⟩, Or.inr (Int32.not_le.mpr c_219)⟩] <;> rfl) | (rw [rcR, rcI_t ⟨⟨hc.1, hc.2, c_194⟩, Or.inr c_219⟩] <;> rfl) | (rw [rcR, rcI_t ⟨⟨hc.1, hc.2, c_194⟩, Or.inl (rOk_m1 c_212)⟩] <;> rfl)) ?_
                        refine r_cs (cs2 := [(m, .inr (12, [.int 0, .ref mp, .int pt, .ref mf, .ref mh, .ref mn, .ref mt, .ref mz, .ref mc_, .ref mq, .ref mgr, .int cl, .int wa, .int co_, .int fi, .int bu, .int ho, .ref ml, .ref mi, .ref mr, .int lh, .int mg, .int wd, .int fpi, .int fal, .ref mm, .ref mu, .ref mk, .ref mx, .long po, .long de]))]) (rfl) ?_
                        exact ih (i + 1) (by omega) (by omega)
set_option maxHeartbeats 4000000 in
set_option maxRecDepth 100000 in
theorem L_Mm_leastCostF_119 (g : zG) (m mp mf mh mn mt mz mc_ mq mgr ml mi mr mm mu mk mx : Nat) (th pt cl wa co_ fi bu ho lh mg wd fpi fal : Int32) (po de : Int64) (le mo si pp ps pa : Int32) (hw : ((0 ≤ le ∧ le ≤ 450) ∧ (le ≤ mo ∧ mo ≤ 450) ∧ (0 ≤ si ∧ si ≤ 450) ∧ (1 ≤ pp ∧ pp ≤ 1000) ∧ (1 ≤ ps ∧ ps ≤ 1000) ∧ (1 ≤ pa ∧ pa ≤ 1000))) (hpr : ∀ P A, P + A ≤ 100 → 0 ≤ prS pp ps pa P A) (hs9 : (rcO le mo si pp ps pa (-1, -1, 0, 0) 11).1 < 0) (w0 : zW) (n : Nat) : ∀ (d kd : Nat), kd ≤ 11 → 11 < kd + d → DV g M_Mm_leastCost (fun o cs1 => o = .inl (some (.int 0)) ∧ cs1 = [(m, .inr (12, [.int 2, .ref mp, .int pt, .ref mf, .ref mh, .ref mn, .ref mt, .ref mz, .ref mc_, .ref mq, .ref mgr, .int cl, .int wa, .int co_, .int fi, .int bu, .int ho, .ref ml, .ref mi, .ref mr, .int lh, .int mg, .int wd, .int fpi, .int fal, .ref mm, .ref mu, .ref mk, .ref mx, .long po, .long de]))]) w0 n 119 [(11, .int (pgI kd)), (10, .int ((rcO le mo si pp ps pa (-1, -1, 0, 0) kd).2.2.1)), (9, .int ((rcO le mo si pp ps pa (-1, -1, 0, 0) kd).2.1)), (8, .int ((rcO le mo si pp ps pa (-1, -1, 0, 0) kd).1)), (6, .int pa), (5, .int ps), (4, .int pp), (3, .int si), (2, .int mo), (1, .int le), (0, .ref m)] [] [(m, .inr (12, [.int 0, .ref mp, .int pt, .ref mf, .ref mh, .ref mn, .ref mt, .ref mz, .ref mc_, .ref mq, .ref mgr, .int cl, .int wa, .int co_, .int fi, .int bu, .int ho, .ref ml, .ref mi, .ref mr, .int lh, .int mg, .int wd, .int fpi, .int fal, .ref mm, .ref mu, .ref mk, .ref mx, .long po, .long de]))] 0 0 := by
  intro d
  induction d with
  | zero => intro kd h1 h2 ; exact absurd h2 (by omega)
  | succ d ih =>
    intro kd h1 h2 
    refine r_iload d_Mm_leastCost_119 0 rfl ?_
    refine r_if_lt (tgt := 246) d_Mm_leastCost_121 (by decide) (fun c_121 => ?_) (fun c_121 => ?_)
    · have hk : kd = 11 := (pgI_neg kd (by omega)).mp c_121
      obtain rfl : kd = 11 := hk
      have hok11 := rcO_ok (le := le) (mo := mo) (si := si) hpr (s := (-1, -1, 0, 0)) (Or.inl rfl) 11 (Nat.le_refl _)
      refine r_aload_n d_Mm_leastCost_246 rfl 10 rfl ?_
      refine r_iload d_Mm_leastCost_247 3 rfl ?_
      refine r_iconst d_Mm_leastCost_249 (v := (-1)) (by decide) ?_
      refine r_icmp_ne (tgt := 257) d_Mm_leastCost_250 (by decide) (fun c_250 => ?_) (fun c_250 => ?_)
      · exact absurd (rOk_lt hok11 hs9) c_250
      · refine r_iconst d_Mm_leastCost_253 (v := 1) (by decide) ?_
        refine r_goto (tgt := 258) d_Mm_leastCost_254 (by decide) ?_
        refine r_iconst d_Mm_leastCost_258 (v := 2) (by decide) ?_
        refine r_callV (As := [.int 1, .int 2]) (rest := []) (csC := [(m, .inr (12, [.int 0, .ref mp, .int pt, .ref mf, .ref mh, .ref mn, .ref mt, .ref mz, .ref mc_, .ref mq, .ref mgr, .int cl, .int wa, .int co_, .int fi, .int bu, .int ho, .ref ml, .ref mi, .ref mr, .int lh, .int mg, .int wd, .int fpi, .int fal, .ref mm, .ref mu, .ref mk, .ref mx, .long po, .long de]))]) (is := [0]) (q0 := 0) rfl rfl ln_Mm_103 w_im_Mm_fails w_se_Mm_fails ok_Mm_leastCost_Mm_fails d_Mm_leastCost_259 (C_Mm_fails2 g m mp mf mh mn mt mz mc_ mq mgr ml mi mr mm mu mk mx th pt cl wa co_ fi bu ho lh mg wd fpi fal po de) rfl rfl (Nat.le_of_ble_eq_true rfl) rfl (by decide) (by omega) (by omega) (fun E cs1 hx => ?_) (fun v cs1 hx => ?_)
        · exact absurd hx.1 (by simp)
        · obtain ⟨e1, rfl⟩ := hx
          cases e1
          refine ⟨rfl, ?_⟩
          refine r_st (st2 := [.int 1]) rfl ?_
          refine r_cs (cs2 := [(m, .inr (12, [.int 2, .ref mp, .int pt, .ref mf, .ref mh, .ref mn, .ref mt, .ref mz, .ref mc_, .ref mq, .ref mgr, .int cl, .int wa, .int co_, .int fi, .int bu, .int ho, .ref ml, .ref mi, .ref mr, .int lh, .int mg, .int wd, .int fpi, .int fal, .ref mm, .ref mu, .ref mk, .ref mx, .long po, .long de]))]) rfl ?_
          refine r_if_eq (tgt := 267) d_Mm_leastCost_262 (by decide) (fun c_262 => ?_) (fun c_262 => ?_)
          · exact absurd c_262 (by decide)
          · refine r_iconst d_Mm_leastCost_265 (v := 0) (by decide) ?_
            refine r_iret d_Mm_leastCost_266 rfl rfl ?_
            exact ⟨rfl, rfl⟩
    · have hne : ¬ kd = 11 := fun q => c_121 ((pgI_neg kd (by omega)).mpr q)
      have hk : kd < 11 := by omega
      rw [pgI_n hk]
      refine r_iconst d_Mm_leastCost_124 (v := 0) (by decide) ?_
      refine r_istore (lv' := [(12, .int 0), (11, .int (nI (100 - 10 * kd))), (10, .int ((rcO le mo si pp ps pa (-1, -1, 0, 0) kd).2.2.1)), (9, .int ((rcO le mo si pp ps pa (-1, -1, 0, 0) kd).2.1)), (8, .int ((rcO le mo si pp ps pa (-1, -1, 0, 0) kd).1)), (6, .int pa), (5, .int ps), (4, .int pp), (3, .int si), (2, .int mo), (1, .int le), (0, .ref m)]) d_Mm_leastCost_125 (by decide) rfl ?_
      refine r_lvE (lv2 := [(12, .int (nI 0)), (11, .int (nI (100 - 10 * kd))), (10, .int ((rcR le mo si pp ps pa (100 - 10 * kd) (rcO le mo si pp ps pa (-1, -1, 0, 0) kd) 0).2.2.1)), (9, .int ((rcR le mo si pp ps pa (100 - 10 * kd) (rcO le mo si pp ps pa (-1, -1, 0, 0) kd) 0).2.1)), (8, .int ((rcR le mo si pp ps pa (100 - 10 * kd) (rcO le mo si pp ps pa (-1, -1, 0, 0) kd) 0).1)), (6, .int pa), (5, .int ps), (4, .int pp), (3, .int si), (2, .int mo), (1, .int le), (0, .ref m)]) (rfl) ?_
      refine r_cs (cs2 := [(m, .inr (12, [.int 0, .ref mp, .int pt, .ref mf, .ref mh, .ref mn, .ref mt, .ref mz, .ref mc_, .ref mq, .ref mgr, .int cl, .int wa, .int co_, .int fi, .int bu, .int ho, .ref ml, .ref mi, .ref mr, .int lh, .int mg, .int wd, .int fpi, .int fal, .ref mm, .ref mu, .ref mk, .ref mx, .long po, .long de]))]) (rfl) ?_
      refine L_Mm_leastCostF_127 g m mp mf mh mn mt mz mc_ mq mgr ml mi mr mm mu mk mx th pt cl wa co_ fi bu ho lh mg wd fpi fal po de le mo si pp ps pa hw hpr hs9 w0 _ kd hk (?_) (nA (100 - 10 * kd) + 1) 0 (Nat.zero_le _) (by omega)
      refine r_iinc (lv' := [(11, .int (pgI (kd + 1))), (12, .int (nI (nA (100 - 10 * kd)))), (10, .int ((rcR le mo si pp ps pa (100 - 10 * kd) (rcO le mo si pp ps pa (-1, -1, 0, 0) kd) (nA (100 - 10 * kd))).2.2.1)), (9, .int ((rcR le mo si pp ps pa (100 - 10 * kd) (rcO le mo si pp ps pa (-1, -1, 0, 0) kd) (nA (100 - 10 * kd))).2.1)), (8, .int ((rcR le mo si pp ps pa (100 - 10 * kd) (rcO le mo si pp ps pa (-1, -1, 0, 0) kd) (nA (100 - 10 * kd))).1)), (6, .int pa), (5, .int ps), (4, .int pp), (3, .int si), (2, .int mo), (1, .int le), (0, .ref m)]) (v := pgI (kd + 1)) d_Mm_leastCost_240 (j := 1) rfl (by rw [← pgI_n (by omega)]; exact pgI_s kd (by omega)) (by decide) rfl ?_
      refine r_goto (tgt := 119) d_Mm_leastCost_243 (by decide) ?_
      refine r_lv (lv' := [(11, .int (pgI (kd + 1))), (10, .int ((rcR le mo si pp ps pa (100 - 10 * kd) (rcO le mo si pp ps pa (-1, -1, 0, 0) kd) (nA (100 - 10 * kd))).2.2.1)), (9, .int ((rcR le mo si pp ps pa (100 - 10 * kd) (rcO le mo si pp ps pa (-1, -1, 0, 0) kd) (nA (100 - 10 * kd))).2.1)), (8, .int ((rcR le mo si pp ps pa (100 - 10 * kd) (rcO le mo si pp ps pa (-1, -1, 0, 0) kd) (nA (100 - 10 * kd))).1)), (6, .int pa), (5, .int ps), (4, .int pp), (3, .int si), (2, .int mo), (1, .int le), (0, .ref m)]) [0, 2, 3, 4, 5, 6, 7, 8, 9, 10, 11] rfl ?_
      refine r_lvE (lv2 := [(11, .int (pgI (kd + 1))), (10, .int ((rcO le mo si pp ps pa (-1, -1, 0, 0) (kd + 1)).2.2.1)), (9, .int ((rcO le mo si pp ps pa (-1, -1, 0, 0) (kd + 1)).2.1)), (8, .int ((rcO le mo si pp ps pa (-1, -1, 0, 0) (kd + 1)).1)), (6, .int pa), (5, .int ps), (4, .int pp), (3, .int si), (2, .int mo), (1, .int le), (0, .ref m)]) (rfl) ?_
      refine r_cs (cs2 := [(m, .inr (12, [.int 0, .ref mp, .int pt, .ref mf, .ref mh, .ref mn, .ref mt, .ref mz, .ref mc_, .ref mq, .ref mgr, .int cl, .int wa, .int co_, .int fi, .int bu, .int ho, .ref ml, .ref mi, .ref mr, .int lh, .int mg, .int wd, .int fpi, .int fal, .ref mm, .ref mu, .ref mk, .ref mx, .long po, .long de]))]) (rfl) ?_
      exact ih (kd + 1) (by omega) (by omega)
set_option maxHeartbeats 4000000 in
set_option maxRecDepth 100000 in
theorem C_Mm_leastCostF (g : zG) (m mp mf mh mn mt mz mc_ mq mgr ml mi mr mm mu mk mx : Nat) (th pt cl wa co_ fi bu ho lh mg wd fpi fal : Int32) (po de : Int64) (le mo si pp ps pa : Int32) (hw : ((0 ≤ le ∧ le ≤ 450) ∧ (le ≤ mo ∧ mo ≤ 450) ∧ (0 ≤ si ∧ si ≤ 450) ∧ (1 ≤ pp ∧ pp ≤ 1000) ∧ (1 ≤ ps ∧ ps ≤ 1000) ∧ (1 ≤ pa ∧ pa ≤ 1000))) (hpr : ∀ P A, P + A ≤ 100 → 0 ≤ prS pp ps pa P A) (hs9 : (rcO le mo si pp ps pa (-1, -1, 0, 0) 11).1 < 0) : CT g M_Mm_leastCost [.ref m, .int le, .int mo, .int si, .int pp, .int ps, .int pa] [(m, .inr (12, [.int th, .ref mp, .int pt, .ref mf, .ref mh, .ref mn, .ref mt, .ref mz, .ref mc_, .ref mq, .ref mgr, .int cl, .int wa, .int co_, .int fi, .int bu, .int ho, .ref ml, .ref mi, .ref mr, .int lh, .int mg, .int wd, .int fpi, .int fal, .ref mm, .ref mu, .ref mk, .ref mx, .long po, .long de]))] (fun o cs1 => o = .inl (some (.int 0)) ∧ cs1 = [(m, .inr (12, [.int 2, .ref mp, .int pt, .ref mf, .ref mh, .ref mn, .ref mt, .ref mz, .ref mc_, .ref mq, .ref mgr, .int cl, .int wa, .int co_, .int fi, .int bu, .int ho, .ref ml, .ref mi, .ref mr, .int lh, .int mg, .int wd, .int fpi, .int fal, .ref mm, .ref mu, .ref mk, .ref mx, .long po, .long de]))]) 0 0 := by
  refine z_of (by decide) rfl (Nat.le_of_ble_eq_true rfl) (fun w0 => ?_)
  refine r_lvE (lv2 := [(0, .ref m), (1, .int le), (2, .int mo), (3, .int si), (4, .int pp), (5, .int ps), (6, .int pa)]) rfl ?_
  refine r_aload_n d_Mm_leastCost_0 rfl 0 rfl ?_
  refine r_iconst d_Mm_leastCost_1 (v := 0) (by decide) ?_
  refine r_put fp_Mm_84 d_Mm_leastCost_2 (fun h => nomatch h) rfl rfl (q0 := 0) rfl (Nat.le_of_ble_eq_true rfl) (cs' := [(m, .inr (12, [.int 0, .ref mp, .int pt, .ref mf, .ref mh, .ref mn, .ref mt, .ref mz, .ref mc_, .ref mq, .ref mgr, .int cl, .int wa, .int co_, .int fi, .int bu, .int ho, .ref ml, .ref mi, .ref mr, .int lh, .int mg, .int wd, .int fpi, .int fal, .ref mm, .ref mu, .ref mk, .ref mx, .long po, .long de]))]) rfl ?_
  refine r_iload_n d_Mm_leastCost_5 rfl 1 rfl ?_
  refine r_iconst d_Mm_leastCost_6 (v := 0) (by decide) ?_
  refine r_sipush d_Mm_leastCost_7 (v := 450) (by decide) ?_
  refine r_callS (As := [.int le, .int 0, .int 450]) (rest := []) (csC := []) (is := []) ln_Mm_87 w_st_Mm_in ok_Mm_leastCost_Mm_in d_Mm_leastCost_10 (C_Mm_in g le 0 450) rfl rfl (Nat.le_of_ble_eq_true rfl) rfl (by decide) (by omega) (by omega) (fun E cs1 hx => ?_) (fun v cs1 hx => ?_)
  · exact absurd hx.1 (by simp)
  · obtain ⟨e1, rfl⟩ := hx
    rw [if_pos hw.1] at e1
    cases e1
    refine ⟨rfl, ?_⟩
    refine r_st (st2 := [.int 1]) rfl ?_
    refine r_cs (cs2 := [(m, .inr (12, [.int 0, .ref mp, .int pt, .ref mf, .ref mh, .ref mn, .ref mt, .ref mz, .ref mc_, .ref mq, .ref mgr, .int cl, .int wa, .int co_, .int fi, .int bu, .int ho, .ref ml, .ref mi, .ref mr, .int lh, .int mg, .int wd, .int fpi, .int fal, .ref mm, .ref mu, .ref mk, .ref mx, .long po, .long de]))]) rfl ?_
    refine r_if_eq (tgt := 47) d_Mm_leastCost_13 (by decide) (fun c_13 => ?_) (fun c_13 => ?_)
    · exact absurd c_13 (by decide)
    · refine r_iload_n d_Mm_leastCost_16 rfl 2 rfl ?_
      refine r_iconst d_Mm_leastCost_17 (v := 0) (by decide) ?_
      refine r_sipush d_Mm_leastCost_18 (v := 450) (by decide) ?_
      refine r_callS (As := [.int mo, .int 0, .int 450]) (rest := []) (csC := []) (is := []) ln_Mm_87 w_st_Mm_in ok_Mm_leastCost_Mm_in d_Mm_leastCost_21 (C_Mm_in g mo 0 450) rfl rfl (Nat.le_of_ble_eq_true rfl) rfl (by decide) (by omega) (by omega) (fun E cs1 hx => ?_) (fun v cs1 hx => ?_)
      · exact absurd hx.1 (by simp)
      · obtain ⟨e1, rfl⟩ := hx
        rw [if_pos ⟨Int32.le_trans hw.1.1 hw.2.1.1, hw.2.1.2⟩] at e1
        cases e1
        refine ⟨rfl, ?_⟩
        refine r_st (st2 := [.int 1]) rfl ?_
        refine r_cs (cs2 := [(m, .inr (12, [.int 0, .ref mp, .int pt, .ref mf, .ref mh, .ref mn, .ref mt, .ref mz, .ref mc_, .ref mq, .ref mgr, .int cl, .int wa, .int co_, .int fi, .int bu, .int ho, .ref ml, .ref mi, .ref mr, .int lh, .int mg, .int wd, .int fpi, .int fal, .ref mm, .ref mu, .ref mk, .ref mx, .long po, .long de]))]) rfl ?_
        refine r_if_eq (tgt := 47) d_Mm_leastCost_24 (by decide) (fun c_24 => ?_) (fun c_24 => ?_)
        · exact absurd c_24 (by decide)
        · refine r_iload_n d_Mm_leastCost_27 rfl 3 rfl ?_
          refine r_iconst d_Mm_leastCost_28 (v := 0) (by decide) ?_
          refine r_sipush d_Mm_leastCost_29 (v := 450) (by decide) ?_
          refine r_callS (As := [.int si, .int 0, .int 450]) (rest := []) (csC := []) (is := []) ln_Mm_87 w_st_Mm_in ok_Mm_leastCost_Mm_in d_Mm_leastCost_32 (C_Mm_in g si 0 450) rfl rfl (Nat.le_of_ble_eq_true rfl) rfl (by decide) (by omega) (by omega) (fun E cs1 hx => ?_) (fun v cs1 hx => ?_)
          · exact absurd hx.1 (by simp)
          · obtain ⟨e1, rfl⟩ := hx
            rw [if_pos hw.2.2.1] at e1
            cases e1
            refine ⟨rfl, ?_⟩
            refine r_st (st2 := [.int 1]) rfl ?_
            refine r_cs (cs2 := [(m, .inr (12, [.int 0, .ref mp, .int pt, .ref mf, .ref mh, .ref mn, .ref mt, .ref mz, .ref mc_, .ref mq, .ref mgr, .int cl, .int wa, .int co_, .int fi, .int bu, .int ho, .ref ml, .ref mi, .ref mr, .int lh, .int mg, .int wd, .int fpi, .int fal, .ref mm, .ref mu, .ref mk, .ref mx, .long po, .long de]))]) rfl ?_
            refine r_if_eq (tgt := 47) d_Mm_leastCost_35 (by decide) (fun c_35 => ?_) (fun c_35 => ?_)
            · exact absurd c_35 (by decide)
            · refine r_iload_n d_Mm_leastCost_38 rfl 2 rfl ?_
              refine r_iload_n d_Mm_leastCost_39 rfl 1 rfl ?_
              refine r_icmp_lt (tgt := 47) d_Mm_leastCost_40 (by decide) (fun c_40 => ?_) (fun c_40 => ?_)
              · exact absurd hw.2.1.1 (Int32.not_le.mpr c_40)
              · refine r_iconst d_Mm_leastCost_43 (v := 1) (by decide) ?_
                refine r_goto (tgt := 48) d_Mm_leastCost_44 (by decide) ?_
                refine r_istore (lv' := [(7, .int 1), (0, .ref m), (1, .int le), (2, .int mo), (3, .int si), (4, .int pp), (5, .int ps), (6, .int pa)]) d_Mm_leastCost_48 (by decide) rfl ?_
                refine r_aload_n d_Mm_leastCost_50 rfl 1 rfl ?_
                refine r_iload d_Mm_leastCost_51 0 rfl ?_
                refine r_if_eq (tgt := 92) d_Mm_leastCost_53 (by decide) (fun c_53 => ?_) (fun c_53 => ?_)
                · exact absurd c_53 (by decide)
                · refine r_iload d_Mm_leastCost_56 5 rfl ?_
                  refine r_iconst d_Mm_leastCost_58 (v := 1) (by decide) ?_
                  refine r_sipush d_Mm_leastCost_59 (v := 1000) (by decide) ?_
                  refine r_callS (As := [.int pp, .int 1, .int 1000]) (rest := [.ref m]) (csC := []) (is := []) ln_Mm_87 w_st_Mm_in ok_Mm_leastCost_Mm_in d_Mm_leastCost_62 (C_Mm_in g pp 1 1000) rfl rfl (Nat.le_of_ble_eq_true rfl) rfl (by decide) (by omega) (by omega) (fun E cs1 hx => ?_) (fun v cs1 hx => ?_)
                  · exact absurd hx.1 (by simp)
                  · obtain ⟨e1, rfl⟩ := hx
                    rw [if_pos hw.2.2.2.1] at e1
                    cases e1
                    refine ⟨rfl, ?_⟩
                    refine r_st (st2 := [.int 1, .ref m]) rfl ?_
                    refine r_cs (cs2 := [(m, .inr (12, [.int 0, .ref mp, .int pt, .ref mf, .ref mh, .ref mn, .ref mt, .ref mz, .ref mc_, .ref mq, .ref mgr, .int cl, .int wa, .int co_, .int fi, .int bu, .int ho, .ref ml, .ref mi, .ref mr, .int lh, .int mg, .int wd, .int fpi, .int fal, .ref mm, .ref mu, .ref mk, .ref mx, .long po, .long de]))]) rfl ?_
                    refine r_if_eq (tgt := 92) d_Mm_leastCost_65 (by decide) (fun c_65 => ?_) (fun c_65 => ?_)
                    · exact absurd c_65 (by decide)
                    · refine r_iload d_Mm_leastCost_68 6 rfl ?_
                      refine r_iconst d_Mm_leastCost_70 (v := 1) (by decide) ?_
                      refine r_sipush d_Mm_leastCost_71 (v := 1000) (by decide) ?_
                      refine r_callS (As := [.int ps, .int 1, .int 1000]) (rest := [.ref m]) (csC := []) (is := []) ln_Mm_87 w_st_Mm_in ok_Mm_leastCost_Mm_in d_Mm_leastCost_74 (C_Mm_in g ps 1 1000) rfl rfl (Nat.le_of_ble_eq_true rfl) rfl (by decide) (by omega) (by omega) (fun E cs1 hx => ?_) (fun v cs1 hx => ?_)
                      · exact absurd hx.1 (by simp)
                      · obtain ⟨e1, rfl⟩ := hx
                        rw [if_pos hw.2.2.2.2.1] at e1
                        cases e1
                        refine ⟨rfl, ?_⟩
                        refine r_st (st2 := [.int 1, .ref m]) rfl ?_
                        refine r_cs (cs2 := [(m, .inr (12, [.int 0, .ref mp, .int pt, .ref mf, .ref mh, .ref mn, .ref mt, .ref mz, .ref mc_, .ref mq, .ref mgr, .int cl, .int wa, .int co_, .int fi, .int bu, .int ho, .ref ml, .ref mi, .ref mr, .int lh, .int mg, .int wd, .int fpi, .int fal, .ref mm, .ref mu, .ref mk, .ref mx, .long po, .long de]))]) rfl ?_
                        refine r_if_eq (tgt := 92) d_Mm_leastCost_77 (by decide) (fun c_77 => ?_) (fun c_77 => ?_)
                        · exact absurd c_77 (by decide)
                        · refine r_iload d_Mm_leastCost_80 7 rfl ?_
                          refine r_iconst d_Mm_leastCost_82 (v := 1) (by decide) ?_
                          refine r_sipush d_Mm_leastCost_83 (v := 1000) (by decide) ?_
                          refine r_callS (As := [.int pa, .int 1, .int 1000]) (rest := [.ref m]) (csC := []) (is := []) ln_Mm_87 w_st_Mm_in ok_Mm_leastCost_Mm_in d_Mm_leastCost_86 (C_Mm_in g pa 1 1000) rfl rfl (Nat.le_of_ble_eq_true rfl) rfl (by decide) (by omega) (by omega) (fun E cs1 hx => ?_) (fun v cs1 hx => ?_)
                          · exact absurd hx.1 (by simp)
                          · obtain ⟨e1, rfl⟩ := hx
                            rw [if_pos hw.2.2.2.2.2] at e1
                            cases e1
                            refine ⟨rfl, ?_⟩
                            refine r_st (st2 := [.int 1, .ref m]) rfl ?_
                            refine r_cs (cs2 := [(m, .inr (12, [.int 0, .ref mp, .int pt, .ref mf, .ref mh, .ref mn, .ref mt, .ref mz, .ref mc_, .ref mq, .ref mgr, .int cl, .int wa, .int co_, .int fi, .int bu, .int ho, .ref ml, .ref mi, .ref mr, .int lh, .int mg, .int wd, .int fpi, .int fal, .ref mm, .ref mu, .ref mk, .ref mx, .long po, .long de]))]) rfl ?_
                            refine r_if_ne (tgt := 96) d_Mm_leastCost_89 (by decide) (fun c_89 => ?_) (fun c_89 => ?_)
                            · refine r_iconst d_Mm_leastCost_96 (v := 0) (by decide) ?_
                              refine r_iconst d_Mm_leastCost_97 (v := 1) (by decide) ?_
                              refine r_callV (As := [.int 0, .int 1]) (rest := []) (csC := [(m, .inr (12, [.int 0, .ref mp, .int pt, .ref mf, .ref mh, .ref mn, .ref mt, .ref mz, .ref mc_, .ref mq, .ref mgr, .int cl, .int wa, .int co_, .int fi, .int bu, .int ho, .ref ml, .ref mi, .ref mr, .int lh, .int mg, .int wd, .int fpi, .int fal, .ref mm, .ref mu, .ref mk, .ref mx, .long po, .long de]))]) (is := [0]) (q0 := 0) rfl rfl ln_Mm_103 w_im_Mm_fails w_se_Mm_fails ok_Mm_leastCost_Mm_fails d_Mm_leastCost_98 (C_Mm_fails0 g m mp mf mh mn mt mz mc_ mq mgr ml mi mr mm mu mk mx th pt cl wa co_ fi bu ho lh mg wd fpi fal po de 1) rfl rfl (Nat.le_of_ble_eq_true rfl) rfl (by decide) (by omega) (by omega) (fun E cs1 hx => ?_) (fun v cs1 hx => ?_)
                              · exact absurd hx.1 (by simp)
                              · obtain ⟨e1, rfl⟩ := hx
                                cases e1
                                refine ⟨rfl, ?_⟩
                                refine r_st (st2 := [.int 0]) rfl ?_
                                refine r_cs (cs2 := [(m, .inr (12, [.int 0, .ref mp, .int pt, .ref mf, .ref mh, .ref mn, .ref mt, .ref mz, .ref mc_, .ref mq, .ref mgr, .int cl, .int wa, .int co_, .int fi, .int bu, .int ho, .ref ml, .ref mi, .ref mr, .int lh, .int mg, .int wd, .int fpi, .int fal, .ref mm, .ref mu, .ref mk, .ref mx, .long po, .long de]))]) rfl ?_
                                refine r_if_eq (tgt := 106) d_Mm_leastCost_101 (by decide) (fun c_101 => ?_) (fun c_101 => ?_)
                                · refine r_iconst d_Mm_leastCost_106 (v := (-1)) (by decide) ?_
                                  refine r_istore (lv' := [(8, .int (-1)), (7, .int 1), (0, .ref m), (1, .int le), (2, .int mo), (3, .int si), (4, .int pp), (5, .int ps), (6, .int pa)]) d_Mm_leastCost_107 (by decide) rfl ?_
                                  refine r_iconst d_Mm_leastCost_109 (v := (-1)) (by decide) ?_
                                  refine r_istore (lv' := [(9, .int (-1)), (8, .int (-1)), (7, .int 1), (0, .ref m), (1, .int le), (2, .int mo), (3, .int si), (4, .int pp), (5, .int ps), (6, .int pa)]) d_Mm_leastCost_110 (by decide) rfl ?_
                                  refine r_iconst d_Mm_leastCost_112 (v := 0) (by decide) ?_
                                  refine r_istore (lv' := [(10, .int 0), (9, .int (-1)), (8, .int (-1)), (7, .int 1), (0, .ref m), (1, .int le), (2, .int mo), (3, .int si), (4, .int pp), (5, .int ps), (6, .int pa)]) d_Mm_leastCost_113 (by decide) rfl ?_
                                  refine r_bipush d_Mm_leastCost_115 (v := 100) (by decide) ?_
                                  refine r_istore (lv' := [(11, .int 100), (10, .int 0), (9, .int (-1)), (8, .int (-1)), (7, .int 1), (0, .ref m), (1, .int le), (2, .int mo), (3, .int si), (4, .int pp), (5, .int ps), (6, .int pa)]) d_Mm_leastCost_117 (by decide) rfl ?_
                                  refine r_lv (lv' := [(11, .int 100), (10, .int 0), (9, .int (-1)), (8, .int (-1)), (6, .int pa), (5, .int ps), (4, .int pp), (3, .int si), (2, .int mo), (1, .int le), (0, .ref m)]) [0, 1, 2, 3, 11, 10, 9, 8, 7, 6, 5] rfl ?_
                                  refine r_lvE (lv2 := [(11, .int (pgI 0)), (10, .int ((rcO le mo si pp ps pa (-1, -1, 0, 0) 0).2.2.1)), (9, .int ((rcO le mo si pp ps pa (-1, -1, 0, 0) 0).2.1)), (8, .int ((rcO le mo si pp ps pa (-1, -1, 0, 0) 0).1)), (6, .int pa), (5, .int ps), (4, .int pp), (3, .int si), (2, .int mo), (1, .int le), (0, .ref m)]) (rfl) ?_
                                  refine r_cs (cs2 := [(m, .inr (12, [.int 0, .ref mp, .int pt, .ref mf, .ref mh, .ref mn, .ref mt, .ref mz, .ref mc_, .ref mq, .ref mgr, .int cl, .int wa, .int co_, .int fi, .int bu, .int ho, .ref ml, .ref mi, .ref mr, .int lh, .int mg, .int wd, .int fpi, .int fal, .ref mm, .ref mu, .ref mk, .ref mx, .long po, .long de]))]) (rfl) ?_
                                  exact L_Mm_leastCostF_119 g m mp mf mh mn mt mz mc_ mq mgr ml mi mr mm mu mk mx th pt cl wa co_ fi bu ho lh mg wd fpi fal po de le mo si pp ps pa hw hpr hs9 w0 _  (11 + 1) 0 (Nat.zero_le _) (by omega)
                                · exact absurd c_101 (by decide)
                            · exact absurd c_89 (by decide)
theorem d_Mm_leastCost_257 : decode prog_14_method_71_code 257 = .ok (.iconst 0, 1) := zo_3 (zd_b zq_prog_14_method_71_code_8 1 rfl rfl rfl)
theorem d_Mm_leastCost_267 : decode prog_14_method_71_code 267 = .ok (.aload_n 0, 1) := zo_42 (zd_b zq_prog_14_method_71_code_8 11 rfl rfl rfl)
theorem d_Mm_leastCost_268 : decode prog_14_method_71_code 268 = .ok (.iload 9, 2) := zo_21 (d := 9) (zd_b zq_prog_14_method_71_code_8 12 rfl rfl rfl) (zd_b zq_prog_14_method_71_code_8 13 rfl rfl rfl)
theorem d_Mm_leastCost_270 : decode prog_14_method_71_code 270 = .ok (.putfield 69, 3) := zo_181 (d := 0) (e := 69) (zd_b zq_prog_14_method_71_code_8 14 rfl rfl rfl) (zd_b zq_prog_14_method_71_code_8 15 rfl rfl rfl) (zd_b zq_prog_14_method_71_code_8 16 rfl rfl rfl)
theorem d_Mm_leastCost_273 : decode prog_14_method_71_code 273 = .ok (.aload_n 0, 1) := zo_42 (zd_b zq_prog_14_method_71_code_8 17 rfl rfl rfl)
theorem d_Mm_leastCost_274 : decode prog_14_method_71_code 274 = .ok (.iload 10, 2) := zo_21 (d := 10) (zd_b zq_prog_14_method_71_code_8 18 rfl rfl rfl) (zd_b zq_prog_14_method_71_code_8 19 rfl rfl rfl)
theorem d_Mm_leastCost_276 : decode prog_14_method_71_code 276 = .ok (.putfield 276, 3) := zo_181 (d := 1) (e := 20) (zd_b zq_prog_14_method_71_code_8 20 rfl rfl rfl) (zd_b zq_prog_14_method_71_code_8 21 rfl rfl rfl) (zd_b zq_prog_14_method_71_code_8 22 rfl rfl rfl)
theorem fp_Mm_276 : z_fp "IronpourModel" 276 12 24 false .int := ⟨R_Mm, "IronpourModel", F_Mm, 31, t_Mm, rfl, u_Mm, by decide, t_Mm_ok, n_Mm, rfl, rfl, Or.inl ⟨z_mj7 (i := 107) rfl (by decide +kernel), Or.inl rfl, fun h => nomatch h⟩⟩
theorem d_Mm_leastCost_279 : decode prog_14_method_71_code 279 = .ok (.iload 8, 2) := zo_21 (d := 8) (zd_b zq_prog_14_method_71_code_8 23 rfl rfl rfl) (zd_b zq_prog_14_method_71_code_8 24 rfl rfl rfl)
theorem d_Mm_leastCost_281 : decode prog_14_method_71_code 281 = .ok (.ireturn, 1) := zo_172 (zd_b zq_prog_14_method_71_code_8 25 rfl rfl rfl)
set_option maxHeartbeats 4000000 in
set_option maxRecDepth 100000 in
theorem L_Mm_leastCostN_127 (g : zG) (m mp mf mh mn mt mz mc_ mq mgr ml mi mr mm mu mk mx : Nat) (th pt cl wa co_ fi bu ho lh mg wd fpi fal : Int32) (po de : Int64) (le mo si pp ps pa : Int32) (hw : ((0 ≤ le ∧ le ≤ 450) ∧ (le ≤ mo ∧ mo ≤ 450) ∧ (0 ≤ si ∧ si ≤ 450) ∧ (1 ≤ pp ∧ pp ≤ 1000) ∧ (1 ≤ ps ∧ ps ≤ 1000) ∧ (1 ≤ pa ∧ pa ≤ 1000))) (hpr : ∀ P A, P + A ≤ 100 → 0 ≤ prS pp ps pa P A) (hs9 : ¬ (rcO le mo si pp ps pa (-1, -1, 0, 0) 11).1 < 0) (w0 : zW) (n : Nat) (kd : Nat) (hk : kd < 11) (K : DV g M_Mm_leastCost (fun o cs1 => o = .inl (some (.int ((rcO le mo si pp ps pa (-1, -1, 0, 0) 11).1))) ∧ cs1 = [(m, .inr (12, [.int 0, .ref mp, .int pt, .ref mf, .ref mh, .ref mn, .ref mt, .ref mz, .ref mc_, .ref mq, .ref mgr, .int cl, .int wa, .int co_, .int fi, .int bu, .int ho, .ref ml, .ref mi, .ref mr, .int lh, .int mg, .int wd, .int ((rcO le mo si pp ps pa (-1, -1, 0, 0) 11).2.1), .int ((rcO le mo si pp ps pa (-1, -1, 0, 0) 11).2.2.1), .ref mm, .ref mu, .ref mk, .ref mx, .long po, .long de]))]) w0 n 240 [(12, .int (nI (nA (100 - 10 * kd)))), (11, .int (nI (100 - 10 * kd))), (10, .int ((rcR le mo si pp ps pa (100 - 10 * kd) (rcO le mo si pp ps pa (-1, -1, 0, 0) kd) (nA (100 - 10 * kd))).2.2.1)), (9, .int ((rcR le mo si pp ps pa (100 - 10 * kd) (rcO le mo si pp ps pa (-1, -1, 0, 0) kd) (nA (100 - 10 * kd))).2.1)), (8, .int ((rcR le mo si pp ps pa (100 - 10 * kd) (rcO le mo si pp ps pa (-1, -1, 0, 0) kd) (nA (100 - 10 * kd))).1)), (6, .int pa), (5, .int ps), (4, .int pp), (3, .int si), (2, .int mo), (1, .int le), (0, .ref m)] [] [(m, .inr (12, [.int 0, .ref mp, .int pt, .ref mf, .ref mh, .ref mn, .ref mt, .ref mz, .ref mc_, .ref mq, .ref mgr, .int cl, .int wa, .int co_, .int fi, .int bu, .int ho, .ref ml, .ref mi, .ref mr, .int lh, .int mg, .int wd, .int fpi, .int fal, .ref mm, .ref mu, .ref mk, .ref mx, .long po, .long de]))] 0 0) : ∀ (d i : Nat), i ≤ nA (100 - 10 * kd) → nA (100 - 10 * kd) < i + d → DV g M_Mm_leastCost (fun o cs1 => o = .inl (some (.int ((rcO le mo si pp ps pa (-1, -1, 0, 0) 11).1))) ∧ cs1 = [(m, .inr (12, [.int 0, .ref mp, .int pt, .ref mf, .ref mh, .ref mn, .ref mt, .ref mz, .ref mc_, .ref mq, .ref mgr, .int cl, .int wa, .int co_, .int fi, .int bu, .int ho, .ref ml, .ref mi, .ref mr, .int lh, .int mg, .int wd, .int ((rcO le mo si pp ps pa (-1, -1, 0, 0) 11).2.1), .int ((rcO le mo si pp ps pa (-1, -1, 0, 0) 11).2.2.1), .ref mm, .ref mu, .ref mk, .ref mx, .long po, .long de]))]) w0 n 127 [(12, .int (nI i)), (11, .int (nI (100 - 10 * kd))), (10, .int ((rcR le mo si pp ps pa (100 - 10 * kd) (rcO le mo si pp ps pa (-1, -1, 0, 0) kd) i).2.2.1)), (9, .int ((rcR le mo si pp ps pa (100 - 10 * kd) (rcO le mo si pp ps pa (-1, -1, 0, 0) kd) i).2.1)), (8, .int ((rcR le mo si pp ps pa (100 - 10 * kd) (rcO le mo si pp ps pa (-1, -1, 0, 0) kd) i).1)), (6, .int pa), (5, .int ps), (4, .int pp), (3, .int si), (2, .int mo), (1, .int le), (0, .ref m)] [] [(m, .inr (12, [.int 0, .ref mp, .int pt, .ref mf, .ref mh, .ref mn, .ref mt, .ref mz, .ref mc_, .ref mq, .ref mgr, .int cl, .int wa, .int co_, .int fi, .int bu, .int ho, .ref ml, .ref mi, .ref mr, .int lh, .int mg, .int wd, .int fpi, .int fal, .ref mm, .ref mu, .ref mk, .ref mx, .long po, .long de]))] 0 0 := by
  intro d
  induction d with
  | zero => intro i h1 h2 ; exact absurd h2 (by omega)
  | succ d ih =>
    intro i h1 h2 
    refine r_iload d_Mm_leastCost_127 0 rfl ?_
    refine r_bipush d_Mm_leastCost_129 (v := 10) (by decide) ?_
    refine r_icmp_gt (tgt := 240) d_Mm_leastCost_131 (by decide) (fun c_131 => ?_) (fun c_131 => ?_)
    · have hn := z_lt (a := 10) (by unfold nA at h1; split at h1 <;> omega) (by decide) c_131
      have hx : i = nA (100 - 10 * kd) := by rcases nA_c (100 - 10 * kd) with ⟨q1, q2⟩ | ⟨q1, q2⟩ <;> omega
      refine r_lvE (lv2 := [(12, .int (nI (nA (100 - 10 * kd)))), (11, .int (nI (100 - 10 * kd))), (10, .int ((rcR le mo si pp ps pa (100 - 10 * kd) (rcO le mo si pp ps pa (-1, -1, 0, 0) kd) (nA (100 - 10 * kd))).2.2.1)), (9, .int ((rcR le mo si pp ps pa (100 - 10 * kd) (rcO le mo si pp ps pa (-1, -1, 0, 0) kd) (nA (100 - 10 * kd))).2.1)), (8, .int ((rcR le mo si pp ps pa (100 - 10 * kd) (rcO le mo si pp ps pa (-1, -1, 0, 0) kd) (nA (100 - 10 * kd))).1)), (6, .int pa), (5, .int ps), (4, .int pp), (3, .int si), (2, .int mo), (1, .int le), (0, .ref m)]) (by rw [hx]) ?_
      exact K
    · have hn := z_nlt (a := 10) (by unfold nA at h1; split at h1 <;> omega) (by decide) c_131
      refine r_iload d_Mm_leastCost_134 1 rfl ?_
      refine r_iload d_Mm_leastCost_136 0 rfl ?_
      refine r_iadd d_Mm_leastCost_138 (v := nI (100 - 10 * kd + i)) (nI_add _ _) ?_
      refine r_bipush d_Mm_leastCost_139 (v := 100) (by decide) ?_
      refine r_icmp_gt (tgt := 240) d_Mm_leastCost_141 (by decide) (fun c_141 => ?_) (fun c_141 => ?_)
      · have hm := z_lt (a := 100) (by omega) (by decide) c_141
        have hx : i = nA (100 - 10 * kd) := by rcases nA_c (100 - 10 * kd) with ⟨q1, q2⟩ | ⟨q1, q2⟩ <;> omega
        refine r_lvE (lv2 := [(12, .int (nI (nA (100 - 10 * kd)))), (11, .int (nI (100 - 10 * kd))), (10, .int ((rcR le mo si pp ps pa (100 - 10 * kd) (rcO le mo si pp ps pa (-1, -1, 0, 0) kd) (nA (100 - 10 * kd))).2.2.1)), (9, .int ((rcR le mo si pp ps pa (100 - 10 * kd) (rcO le mo si pp ps pa (-1, -1, 0, 0) kd) (nA (100 - 10 * kd))).2.1)), (8, .int ((rcR le mo si pp ps pa (100 - 10 * kd) (rcO le mo si pp ps pa (-1, -1, 0, 0) kd) (nA (100 - 10 * kd))).1)), (6, .int pa), (5, .int ps), (4, .int pp), (3, .int si), (2, .int mo), (1, .int le), (0, .ref m)]) (by rw [hx]) ?_
        exact K
      · have hm := z_nlt (a := 100) (by omega) (by decide) c_141
        have hlt : i < nA (100 - 10 * kd) := by unfold nA; split <;> omega
        have hok : rOk (rcR le mo si pp ps pa (100 - 10 * kd) (rcO le mo si pp ps pa (-1, -1, 0, 0) kd) i) := rcR_ok hpr (rcO_ok hpr (Or.inl rfl) kd (by omega)) i (by omega) (by omega) (by omega)
        refine r_iload d_Mm_leastCost_144 1 rfl ?_
        refine r_iload d_Mm_leastCost_146 7 rfl ?_
        refine r_imul d_Mm_leastCost_148 (v := (nI (100 - 10 * kd)) * pp) rfl ?_
        refine r_iload d_Mm_leastCost_149 0 rfl ?_
        refine r_iload d_Mm_leastCost_151 5 rfl ?_
        refine r_imul d_Mm_leastCost_153 (v := (nI i) * pa) rfl ?_
        refine r_iadd d_Mm_leastCost_154 (v := ((nI (100 - 10 * kd)) * pp) + ((nI i) * pa)) rfl ?_
        refine r_bipush d_Mm_leastCost_155 (v := 100) (by decide) ?_
        refine r_iload d_Mm_leastCost_157 1 rfl ?_
        refine r_isub d_Mm_leastCost_159 (v := nI (100 - (100 - 10 * kd))) (pk_sub (a := 100) (by omega)) ?_
        refine r_iload d_Mm_leastCost_160 0 rfl ?_
        refine r_isub d_Mm_leastCost_162 (v := nI (100 - (100 - 10 * kd) - i)) (pk_sub (by omega)) ?_
        refine r_iload d_Mm_leastCost_163 6 rfl ?_
        refine r_imul d_Mm_leastCost_165 (v := (nI (100 - (100 - 10 * kd) - i)) * ps) rfl ?_
        refine r_iadd d_Mm_leastCost_166 (v := prS pp ps pa (100 - 10 * kd) i) (by unfold prS; exact z_arc _ _ _) ?_
        refine r_istore (lv' := [(13, .int (prS pp ps pa (100 - 10 * kd) i)), (12, .int (nI i)), (11, .int (nI (100 - 10 * kd))), (10, .int ((rcR le mo si pp ps pa (100 - 10 * kd) (rcO le mo si pp ps pa (-1, -1, 0, 0) kd) i).2.2.1)), (9, .int ((rcR le mo si pp ps pa (100 - 10 * kd) (rcO le mo si pp ps pa (-1, -1, 0, 0) kd) i).2.1)), (8, .int ((rcR le mo si pp ps pa (100 - 10 * kd) (rcO le mo si pp ps pa (-1, -1, 0, 0) kd) i).1)), (6, .int pa), (5, .int ps), (4, .int pp), (3, .int si), (2, .int mo), (1, .int le), (0, .ref m)]) d_Mm_leastCost_167 (by decide) rfl ?_
        refine r_iload d_Mm_leastCost_169 2 rfl ?_
        refine r_iload d_Mm_leastCost_171 1 rfl ?_
        refine r_iconst d_Mm_leastCost_173 (v := 0) (by decide) ?_
        refine r_callS (As := [.int (nI (100 - 10 * kd)), .int (nI i), .int 0]) (rest := []) (csC := []) (is := []) ln_Mm_272 w_st_Mm_has_0 ok_Mm_leastCost_Mm_has_0 d_Mm_leastCost_174 (C_Mm_hasP0 g (100 - 10 * kd) i (by omega)) rfl rfl (Nat.le_of_ble_eq_true rfl) rfl (by decide) (by omega) (by omega) (fun E cs1 hx => ?_) (fun v cs1 hx => ?_)
        · exact absurd hx.1 (by simp)
        · obtain ⟨e1, rfl⟩ := hx
          cases e1
          refine ⟨rfl, ?_⟩
          refine r_st (st2 := [.int (ctS 0 (nI (100 - 10 * kd)) (nI (100 - (100 - 10 * kd) - i)) (nI i))]) rfl ?_
          refine r_cs (cs2 := [(m, .inr (12, [.int 0, .ref mp, .int pt, .ref mf, .ref mh, .ref mn, .ref mt, .ref mz, .ref mc_, .ref mq, .ref mgr, .int cl, .int wa, .int co_, .int fi, .int bu, .int ho, .ref ml, .ref mi, .ref mr, .int lh, .int mg, .int wd, .int fpi, .int fal, .ref mm, .ref mu, .ref mk, .ref mx, .long po, .long de]))]) rfl ?_
          refine r_iload_n d_Mm_leastCost_177 rfl 11 rfl ?_
          refine r_iload_n d_Mm_leastCost_178 rfl 10 rfl ?_
          refine r_callS (As := [.int (ctS 0 (nI (100 - 10 * kd)) (nI (100 - (100 - 10 * kd) - i)) (nI i)), .int le, .int mo]) (rest := []) (csC := []) (is := []) ln_Mm_87 w_st_Mm_in ok_Mm_leastCost_Mm_in d_Mm_leastCost_179 (C_Mm_in g (ctS 0 (nI (100 - 10 * kd)) (nI (100 - (100 - 10 * kd) - i)) (nI i)) le mo) rfl rfl (Nat.le_of_ble_eq_true rfl) rfl (by decide) (by omega) (by omega) (fun E cs1 hx => ?_) (fun v cs1 hx => ?_)
          · exact absurd hx.1 (by simp)
          · obtain ⟨e1, rfl⟩ := hx
            cases e1
            refine ⟨rfl, ?_⟩
            refine r_st (st2 := [.int (if le ≤ ctS 0 (nI (100 - 10 * kd)) (nI (100 - (100 - 10 * kd) - i)) (nI i) ∧ ctS 0 (nI (100 - 10 * kd)) (nI (100 - (100 - 10 * kd) - i)) (nI i) ≤ mo then 1 else 0)]) rfl ?_
            refine r_cs (cs2 := [(m, .inr (12, [.int 0, .ref mp, .int pt, .ref mf, .ref mh, .ref mn, .ref mt, .ref mz, .ref mc_, .ref mq, .ref mgr, .int cl, .int wa, .int co_, .int fi, .int bu, .int ho, .ref ml, .ref mi, .ref mr, .int lh, .int mg, .int wd, .int fpi, .int fal, .ref mm, .ref mu, .ref mk, .ref mx, .long po, .long de]))]) rfl ?_
            refine r_if_eq (tgt := 201) d_Mm_leastCost_182 (by decide) (fun c_182 => ?_) (fun c_182 => ?_)
            · have hc := ct_le (z_b0 c_182)
              refine r_iconst d_Mm_leastCost_201 (v := 0) (by decide) ?_
              refine r_istore (lv' := [(14, .int 0), (13, .int (prS pp ps pa (100 - 10 * kd) i)), (12, .int (nI i)), (11, .int (nI (100 - 10 * kd))), (10, .int ((rcR le mo si pp ps pa (100 - 10 * kd) (rcO le mo si pp ps pa (-1, -1, 0, 0) kd) i).2.2.1)), (9, .int ((rcR le mo si pp ps pa (100 - 10 * kd) (rcO le mo si pp ps pa (-1, -1, 0, 0) kd) i).2.1)), (8, .int ((rcR le mo si pp ps pa (100 - 10 * kd) (rcO le mo si pp ps pa (-1, -1, 0, 0) kd) i).1)), (6, .int pa), (5, .int ps), (4, .int pp), (3, .int si), (2, .int mo), (1, .int le), (0, .ref m)]) d_Mm_leastCost_202 (by decide) rfl ?_
              refine r_iload d_Mm_leastCost_204 0 rfl ?_
              refine r_if_eq (tgt := 234) d_Mm_leastCost_206 (by decide) (fun c_206 => ?_) (fun c_206 => ?_)
              · refine r_iinc (lv' := [(12, .int (nI (i + 1))), (14, .int 0), (13, .int (prS pp ps pa (100 - 10 * kd) i)), (11, .int (nI (100 - 10 * kd))), (10, .int ((rcR le mo si pp ps pa (100 - 10 * kd) (rcO le mo si pp ps pa (-1, -1, 0, 0) kd) i).2.2.1)), (9, .int ((rcR le mo si pp ps pa (100 - 10 * kd) (rcO le mo si pp ps pa (-1, -1, 0, 0) kd) i).2.1)), (8, .int ((rcR le mo si pp ps pa (100 - 10 * kd) (rcO le mo si pp ps pa (-1, -1, 0, 0) kd) i).1)), (6, .int pa), (5, .int ps), (4, .int pp), (3, .int si), (2, .int mo), (1, .int le), (0, .ref m)]) (v := nI (i + 1)) d_Mm_leastCost_234 (j := 2) rfl (nI_add _ _) (by decide) rfl ?_
                refine r_goto (tgt := 127) d_Mm_leastCost_237 (by decide) ?_
                refine r_lv (lv' := [(12, .int (nI (i + 1))), (11, .int (nI (100 - 10 * kd))), (10, .int ((rcR le mo si pp ps pa (100 - 10 * kd) (rcO le mo si pp ps pa (-1, -1, 0, 0) kd) i).2.2.1)), (9, .int ((rcR le mo si pp ps pa (100 - 10 * kd) (rcO le mo si pp ps pa (-1, -1, 0, 0) kd) i).2.1)), (8, .int ((rcR le mo si pp ps pa (100 - 10 * kd) (rcO le mo si pp ps pa (-1, -1, 0, 0) kd) i).1)), (6, .int pa), (5, .int ps), (4, .int pp), (3, .int si), (2, .int mo), (1, .int le), (0, .ref m)]) [0, 3, 4, 5, 6, 7, 8, 9, 10, 11, 12, 13] rfl ?_
                refine r_lvE (lv2 := [(12, .int (nI (i + 1))), (11, .int (nI (100 - 10 * kd))), (10, .int ((rcR le mo si pp ps pa (100 - 10 * kd) (rcO le mo si pp ps pa (-1, -1, 0, 0) kd) (i + 1)).2.2.1)), (9, .int ((rcR le mo si pp ps pa (100 - 10 * kd) (rcO le mo si pp ps pa (-1, -1, 0, 0) kd) (i + 1)).2.1)), (8, .int ((rcR le mo si pp ps pa (100 - 10 * kd) (rcO le mo si pp ps pa (-1, -1, 0, 0) kd) (i + 1)).1)), (6, .int pa), (5, .int ps), (4, .int pp), (3, .int si), (2, .int mo), (1, .int le), (0, .ref m)]) (by first | (rw [rcR, rcI_f (fun h => h.1.2.2 c_194)] <;> rfl) | (rw [rcR, rcI_f (fun h => hc ⟨h.1.1, h.1.2.1⟩)] <;> rfl) | (rw [rcR, rcI_f (fun h => h.2.elim (rOk_b hok c_212) (fun q => q c_219))] <;> rfl) | (rw [rcR, rcI_f (fun h => h.2.elim (rOk_b hok c_212) (fun q => q (Int32.not_lt.mp c_219)))] <;> rfl) | (rw [rcR, rcI_t ⟨⟨hc.1, hc.2, c_194⟩, Or.inr (Int32.not_le.mpr c_219)⟩] <;> rfl) | (rw [rcR, rcI_t ⟨⟨hc.1, hc.2, c_194⟩, Or.inr c_219⟩] <;> rfl) | (rw [rcR, rcI_t ⟨⟨hc.1, hc.2, c_194⟩, Or.inl (rOk_m1 c_212)⟩] <;> rfl)) ?_
                refine r_cs (cs2 := [(m, .inr (12, [.int 0, .ref mp, .int pt, .ref mf, .ref mh, .ref mn, .ref mt, .ref mz, .ref mc_, .ref mq, .ref mgr, .int cl, .int wa, .int co_, .int fi, .int bu, .int ho, .ref ml, .ref mi, .ref mr, .int lh, .int mg, .int wd, .int fpi, .int fal, .ref mm, .ref mu, .ref mk, .ref mx, .long po, .long de]))]) (rfl) ?_
                exact ih (i + 1) (by omega) (by omega)
              · exact absurd c_206 (by decide)
            · have hc : ¬ ctS 0 (nI (100 - 10 * kd)) (nI (100 - (100 - 10 * kd) - i)) (nI i) < le ∧ ¬ mo < ctS 0 (nI (100 - 10 * kd)) (nI (100 - (100 - 10 * kd) - i)) (nI i) := ⟨Int32.not_lt.mpr (z_b1 c_182).1, Int32.not_lt.mpr (z_b1 c_182).2⟩
              refine r_iload d_Mm_leastCost_185 2 rfl ?_
              refine r_iload d_Mm_leastCost_187 1 rfl ?_
              refine r_iconst d_Mm_leastCost_189 (v := 1) (by decide) ?_
              refine r_callS (As := [.int (nI (100 - 10 * kd)), .int (nI i), .int 1]) (rest := []) (csC := []) (is := []) ln_Mm_272 w_st_Mm_has_0 ok_Mm_leastCost_Mm_has_0 d_Mm_leastCost_190 (C_Mm_hasP1 g (100 - 10 * kd) i (by omega)) rfl rfl (Nat.le_of_ble_eq_true rfl) rfl (by decide) (by omega) (by omega) (fun E cs1 hx => ?_) (fun v cs1 hx => ?_)
              · exact absurd hx.1 (by simp)
              · obtain ⟨e1, rfl⟩ := hx
                cases e1
                refine ⟨rfl, ?_⟩
                refine r_st (st2 := [.int (ctS 1 (nI (100 - 10 * kd)) (nI (100 - (100 - 10 * kd) - i)) (nI i))]) rfl ?_
                refine r_cs (cs2 := [(m, .inr (12, [.int 0, .ref mp, .int pt, .ref mf, .ref mh, .ref mn, .ref mt, .ref mz, .ref mc_, .ref mq, .ref mgr, .int cl, .int wa, .int co_, .int fi, .int bu, .int ho, .ref ml, .ref mi, .ref mr, .int lh, .int mg, .int wd, .int fpi, .int fal, .ref mm, .ref mu, .ref mk, .ref mx, .long po, .long de]))]) rfl ?_
                refine r_iload_n d_Mm_leastCost_193 rfl 9 rfl ?_
                refine r_icmp_lt (tgt := 201) d_Mm_leastCost_194 (by decide) (fun c_194 => ?_) (fun c_194 => ?_)
                · refine r_iconst d_Mm_leastCost_201 (v := 0) (by decide) ?_
                  refine r_istore (lv' := [(14, .int 0), (13, .int (prS pp ps pa (100 - 10 * kd) i)), (12, .int (nI i)), (11, .int (nI (100 - 10 * kd))), (10, .int ((rcR le mo si pp ps pa (100 - 10 * kd) (rcO le mo si pp ps pa (-1, -1, 0, 0) kd) i).2.2.1)), (9, .int ((rcR le mo si pp ps pa (100 - 10 * kd) (rcO le mo si pp ps pa (-1, -1, 0, 0) kd) i).2.1)), (8, .int ((rcR le mo si pp ps pa (100 - 10 * kd) (rcO le mo si pp ps pa (-1, -1, 0, 0) kd) i).1)), (6, .int pa), (5, .int ps), (4, .int pp), (3, .int si), (2, .int mo), (1, .int le), (0, .ref m)]) d_Mm_leastCost_202 (by decide) rfl ?_
                  refine r_iload d_Mm_leastCost_204 0 rfl ?_
                  refine r_if_eq (tgt := 234) d_Mm_leastCost_206 (by decide) (fun c_206 => ?_) (fun c_206 => ?_)
                  · refine r_iinc (lv' := [(12, .int (nI (i + 1))), (14, .int 0), (13, .int (prS pp ps pa (100 - 10 * kd) i)), (11, .int (nI (100 - 10 * kd))), (10, .int ((rcR le mo si pp ps pa (100 - 10 * kd) (rcO le mo si pp ps pa (-1, -1, 0, 0) kd) i).2.2.1)), (9, .int ((rcR le mo si pp ps pa (100 - 10 * kd) (rcO le mo si pp ps pa (-1, -1, 0, 0) kd) i).2.1)), (8, .int ((rcR le mo si pp ps pa (100 - 10 * kd) (rcO le mo si pp ps pa (-1, -1, 0, 0) kd) i).1)), (6, .int pa), (5, .int ps), (4, .int pp), (3, .int si), (2, .int mo), (1, .int le), (0, .ref m)]) (v := nI (i + 1)) d_Mm_leastCost_234 (j := 2) rfl (nI_add _ _) (by decide) rfl ?_
                    refine r_goto (tgt := 127) d_Mm_leastCost_237 (by decide) ?_
                    refine r_lv (lv' := [(12, .int (nI (i + 1))), (11, .int (nI (100 - 10 * kd))), (10, .int ((rcR le mo si pp ps pa (100 - 10 * kd) (rcO le mo si pp ps pa (-1, -1, 0, 0) kd) i).2.2.1)), (9, .int ((rcR le mo si pp ps pa (100 - 10 * kd) (rcO le mo si pp ps pa (-1, -1, 0, 0) kd) i).2.1)), (8, .int ((rcR le mo si pp ps pa (100 - 10 * kd) (rcO le mo si pp ps pa (-1, -1, 0, 0) kd) i).1)), (6, .int pa), (5, .int ps), (4, .int pp), (3, .int si), (2, .int mo), (1, .int le), (0, .ref m)]) [0, 3, 4, 5, 6, 7, 8, 9, 10, 11, 12, 13] rfl ?_
                    refine r_lvE (lv2 := [(12, .int (nI (i + 1))), (11, .int (nI (100 - 10 * kd))), (10, .int ((rcR le mo si pp ps pa (100 - 10 * kd) (rcO le mo si pp ps pa (-1, -1, 0, 0) kd) (i + 1)).2.2.1)), (9, .int ((rcR le mo si pp ps pa (100 - 10 * kd) (rcO le mo si pp ps pa (-1, -1, 0, 0) kd) (i + 1)).2.1)), (8, .int ((rcR le mo si pp ps pa (100 - 10 * kd) (rcO le mo si pp ps pa (-1, -1, 0, 0) kd) (i + 1)).1)), (6, .int pa), (5, .int ps), (4, .int pp), (3, .int si), (2, .int mo), (1, .int le), (0, .ref m)]) (by first | (rw [rcR, rcI_f (fun h => h.1.2.2 c_194)] <;> rfl) | (rw [rcR, rcI_f (fun h => hc ⟨h.1.1, h.1.2.1⟩)] <;> rfl) | (rw [rcR, rcI_f (fun h => h.2.elim (rOk_b hok c_212) (fun q => q c_219))] <;> rfl) | (rw [rcR, rcI_f (fun h => h.2.elim (rOk_b hok c_212) (fun q => q (Int32.not_lt.mp c_219)))] <;> rfl) | (rw [rcR, rcI_t ⟨⟨hc.1, hc.2, c_194⟩, Or.inr (Int32.not_le.mpr c_219)⟩] <;> rfl) | (rw [rcR, rcI_t ⟨⟨hc.1, hc.2, c_194⟩, Or.inr c_219⟩] <;> rfl) | (rw [rcR, rcI_t ⟨⟨hc.1, hc.2, c_194⟩, Or.inl (rOk_m1 c_212)⟩] <;> rfl)) ?_
                    refine r_cs (cs2 := [(m, .inr (12, [.int 0, .ref mp, .int pt, .ref mf, .ref mh, .ref mn, .ref mt, .ref mz, .ref mc_, .ref mq, .ref mgr, .int cl, .int wa, .int co_, .int fi, .int bu, .int ho, .ref ml, .ref mi, .ref mr, .int lh, .int mg, .int wd, .int fpi, .int fal, .ref mm, .ref mu, .ref mk, .ref mx, .long po, .long de]))]) (rfl) ?_
                    exact ih (i + 1) (by omega) (by omega)
                  · exact absurd c_206 (by decide)
                · refine r_iconst d_Mm_leastCost_197 (v := 1) (by decide) ?_
                  refine r_goto (tgt := 202) d_Mm_leastCost_198 (by decide) ?_
                  refine r_istore (lv' := [(14, .int 1), (13, .int (prS pp ps pa (100 - 10 * kd) i)), (12, .int (nI i)), (11, .int (nI (100 - 10 * kd))), (10, .int ((rcR le mo si pp ps pa (100 - 10 * kd) (rcO le mo si pp ps pa (-1, -1, 0, 0) kd) i).2.2.1)), (9, .int ((rcR le mo si pp ps pa (100 - 10 * kd) (rcO le mo si pp ps pa (-1, -1, 0, 0) kd) i).2.1)), (8, .int ((rcR le mo si pp ps pa (100 - 10 * kd) (rcO le mo si pp ps pa (-1, -1, 0, 0) kd) i).1)), (6, .int pa), (5, .int ps), (4, .int pp), (3, .int si), (2, .int mo), (1, .int le), (0, .ref m)]) d_Mm_leastCost_202 (by decide) rfl ?_
                  refine r_iload d_Mm_leastCost_204 0 rfl ?_
                  refine r_if_eq (tgt := 234) d_Mm_leastCost_206 (by decide) (fun c_206 => ?_) (fun c_206 => ?_)
                  · exact absurd c_206 (by decide)
                  · refine r_iload d_Mm_leastCost_209 6 rfl ?_
                    refine r_iconst d_Mm_leastCost_211 (v := (-1)) (by decide) ?_
                    refine r_icmp_eq (tgt := 222) d_Mm_leastCost_212 (by decide) (fun c_212 => ?_) (fun c_212 => ?_)
                    · refine r_iload d_Mm_leastCost_222 1 rfl ?_
                      refine r_istore (lv' := [(8, .int (prS pp ps pa (100 - 10 * kd) i)), (14, .int 1), (13, .int (prS pp ps pa (100 - 10 * kd) i)), (12, .int (nI i)), (11, .int (nI (100 - 10 * kd))), (10, .int ((rcR le mo si pp ps pa (100 - 10 * kd) (rcO le mo si pp ps pa (-1, -1, 0, 0) kd) i).2.2.1)), (9, .int ((rcR le mo si pp ps pa (100 - 10 * kd) (rcO le mo si pp ps pa (-1, -1, 0, 0) kd) i).2.1)), (6, .int pa), (5, .int ps), (4, .int pp), (3, .int si), (2, .int mo), (1, .int le), (0, .ref m)]) d_Mm_leastCost_224 (by decide) rfl ?_
                      refine r_iload d_Mm_leastCost_226 4 rfl ?_
                      refine r_istore (lv' := [(9, .int (nI (100 - 10 * kd))), (8, .int (prS pp ps pa (100 - 10 * kd) i)), (14, .int 1), (13, .int (prS pp ps pa (100 - 10 * kd) i)), (12, .int (nI i)), (11, .int (nI (100 - 10 * kd))), (10, .int ((rcR le mo si pp ps pa (100 - 10 * kd) (rcO le mo si pp ps pa (-1, -1, 0, 0) kd) i).2.2.1)), (6, .int pa), (5, .int ps), (4, .int pp), (3, .int si), (2, .int mo), (1, .int le), (0, .ref m)]) d_Mm_leastCost_228 (by decide) rfl ?_
                      refine r_iload d_Mm_leastCost_230 4 rfl ?_
                      refine r_istore (lv' := [(10, .int (nI i)), (9, .int (nI (100 - 10 * kd))), (8, .int (prS pp ps pa (100 - 10 * kd) i)), (14, .int 1), (13, .int (prS pp ps pa (100 - 10 * kd) i)), (12, .int (nI i)), (11, .int (nI (100 - 10 * kd))), (6, .int pa), (5, .int ps), (4, .int pp), (3, .int si), (2, .int mo), (1, .int le), (0, .ref m)]) d_Mm_leastCost_232 (by decide) rfl ?_
                      refine r_iinc (lv' := [(12, .int (nI (i + 1))), (10, .int (nI i)), (9, .int (nI (100 - 10 * kd))), (8, .int (prS pp ps pa (100 - 10 * kd) i)), (14, .int 1), (13, .int (prS pp ps pa (100 - 10 * kd) i)), (11, .int (nI (100 - 10 * kd))), (6, .int pa), (5, .int ps), (4, .int pp), (3, .int si), (2, .int mo), (1, .int le), (0, .ref m)]) (v := nI (i + 1)) d_Mm_leastCost_234 (j := 5) rfl (nI_add _ _) (by decide) rfl ?_
                      refine r_goto (tgt := 127) d_Mm_leastCost_237 (by decide) ?_
                      refine r_lv (lv' := [(12, .int (nI (i + 1))), (11, .int (nI (100 - 10 * kd))), (10, .int (nI i)), (9, .int (nI (100 - 10 * kd))), (8, .int (prS pp ps pa (100 - 10 * kd) i)), (6, .int pa), (5, .int ps), (4, .int pp), (3, .int si), (2, .int mo), (1, .int le), (0, .ref m)]) [0, 6, 1, 2, 3, 7, 8, 9, 10, 11, 12, 13] rfl ?_
                      refine r_lvE (lv2 := [(12, .int (nI (i + 1))), (11, .int (nI (100 - 10 * kd))), (10, .int ((rcR le mo si pp ps pa (100 - 10 * kd) (rcO le mo si pp ps pa (-1, -1, 0, 0) kd) (i + 1)).2.2.1)), (9, .int ((rcR le mo si pp ps pa (100 - 10 * kd) (rcO le mo si pp ps pa (-1, -1, 0, 0) kd) (i + 1)).2.1)), (8, .int ((rcR le mo si pp ps pa (100 - 10 * kd) (rcO le mo si pp ps pa (-1, -1, 0, 0) kd) (i + 1)).1)), (6, .int pa), (5, .int ps), (4, .int pp), (3, .int si), (2, .int mo), (1, .int le), (0, .ref m)]) (by first | (rw [rcR, rcI_f (fun h => h.1.2.2 c_194)] <;> rfl) | (rw [rcR, rcI_f (fun h => hc ⟨h.1.1, h.1.2.1⟩)] <;> rfl) | (rw [rcR, rcI_f (fun h => h.2.elim (rOk_b hok c_212) (fun q => q c_219))] <;> rfl) | (rw [rcR, rcI_f (fun h => h.2.elim (rOk_b hok c_212) (fun q => q (Int32.not_lt.mp c_219)))] <;> rfl) | (rw [rcR, rcI_t ⟨⟨hc.1, hc.2, c_194⟩, Or.inr (Int32.not_le.mpr c_219)⟩] <;> rfl) | (rw [rcR, rcI_t ⟨⟨hc.1, hc.2, c_194⟩, Or.inr c_219⟩] <;> rfl) | (rw [rcR, rcI_t ⟨⟨hc.1, hc.2, c_194⟩, Or.inl (rOk_m1 c_212)⟩] <;> rfl)) ?_
                      refine r_cs (cs2 := [(m, .inr (12, [.int 0, .ref mp, .int pt, .ref mf, .ref mh, .ref mn, .ref mt, .ref mz, .ref mc_, .ref mq, .ref mgr, .int cl, .int wa, .int co_, .int fi, .int bu, .int ho, .ref ml, .ref mi, .ref mr, .int lh, .int mg, .int wd, .int fpi, .int fal, .ref mm, .ref mu, .ref mk, .ref mx, .long po, .long de]))]) (rfl) ?_
                      exact ih (i + 1) (by omega) (by omega)
                    · refine r_iload d_Mm_leastCost_215 1 rfl ?_
                      refine r_iload d_Mm_leastCost_217 6 rfl ?_
                      refine r_icmp_ge (tgt := 234) d_Mm_leastCost_219 (by decide) (fun c_219 => ?_) (fun c_219 => ?_)
                      · refine r_iinc (lv' := [(12, .int (nI (i + 1))), (14, .int 1), (13, .int (prS pp ps pa (100 - 10 * kd) i)), (11, .int (nI (100 - 10 * kd))), (10, .int ((rcR le mo si pp ps pa (100 - 10 * kd) (rcO le mo si pp ps pa (-1, -1, 0, 0) kd) i).2.2.1)), (9, .int ((rcR le mo si pp ps pa (100 - 10 * kd) (rcO le mo si pp ps pa (-1, -1, 0, 0) kd) i).2.1)), (8, .int ((rcR le mo si pp ps pa (100 - 10 * kd) (rcO le mo si pp ps pa (-1, -1, 0, 0) kd) i).1)), (6, .int pa), (5, .int ps), (4, .int pp), (3, .int si), (2, .int mo), (1, .int le), (0, .ref m)]) (v := nI (i + 1)) d_Mm_leastCost_234 (j := 2) rfl (nI_add _ _) (by decide) rfl ?_
                        refine r_goto (tgt := 127) d_Mm_leastCost_237 (by decide) ?_
                        refine r_lv (lv' := [(12, .int (nI (i + 1))), (11, .int (nI (100 - 10 * kd))), (10, .int ((rcR le mo si pp ps pa (100 - 10 * kd) (rcO le mo si pp ps pa (-1, -1, 0, 0) kd) i).2.2.1)), (9, .int ((rcR le mo si pp ps pa (100 - 10 * kd) (rcO le mo si pp ps pa (-1, -1, 0, 0) kd) i).2.1)), (8, .int ((rcR le mo si pp ps pa (100 - 10 * kd) (rcO le mo si pp ps pa (-1, -1, 0, 0) kd) i).1)), (6, .int pa), (5, .int ps), (4, .int pp), (3, .int si), (2, .int mo), (1, .int le), (0, .ref m)]) [0, 3, 4, 5, 6, 7, 8, 9, 10, 11, 12, 13] rfl ?_
                        refine r_lvE (lv2 := [(12, .int (nI (i + 1))), (11, .int (nI (100 - 10 * kd))), (10, .int ((rcR le mo si pp ps pa (100 - 10 * kd) (rcO le mo si pp ps pa (-1, -1, 0, 0) kd) (i + 1)).2.2.1)), (9, .int ((rcR le mo si pp ps pa (100 - 10 * kd) (rcO le mo si pp ps pa (-1, -1, 0, 0) kd) (i + 1)).2.1)), (8, .int ((rcR le mo si pp ps pa (100 - 10 * kd) (rcO le mo si pp ps pa (-1, -1, 0, 0) kd) (i + 1)).1)), (6, .int pa), (5, .int ps), (4, .int pp), (3, .int si), (2, .int mo), (1, .int le), (0, .ref m)]) (by first | (rw [rcR, rcI_f (fun h => h.1.2.2 c_194)] <;> rfl) | (rw [rcR, rcI_f (fun h => hc ⟨h.1.1, h.1.2.1⟩)] <;> rfl) | (rw [rcR, rcI_f (fun h => h.2.elim (rOk_b hok c_212) (fun q => q c_219))] <;> rfl) | (rw [rcR, rcI_f (fun h => h.2.elim (rOk_b hok c_212) (fun q => q (Int32.not_lt.mp c_219)))] <;> rfl) | (rw [rcR, rcI_t ⟨⟨hc.1, hc.2, c_194⟩, Or.inr (Int32.not_le.mpr c_219)⟩] <;> rfl) | (rw [rcR, rcI_t ⟨⟨hc.1, hc.2, c_194⟩, Or.inr c_219⟩] <;> rfl) | (rw [rcR, rcI_t ⟨⟨hc.1, hc.2, c_194⟩, Or.inl (rOk_m1 c_212)⟩] <;> rfl)) ?_
                        refine r_cs (cs2 := [(m, .inr (12, [.int 0, .ref mp, .int pt, .ref mf, .ref mh, .ref mn, .ref mt, .ref mz, .ref mc_, .ref mq, .ref mgr, .int cl, .int wa, .int co_, .int fi, .int bu, .int ho, .ref ml, .ref mi, .ref mr, .int lh, .int mg, .int wd, .int fpi, .int fal, .ref mm, .ref mu, .ref mk, .ref mx, .long po, .long de]))]) (rfl) ?_
                        exact ih (i + 1) (by omega) (by omega)
                      · refine r_iload d_Mm_leastCost_222 1 rfl ?_
                        refine r_istore (lv' := [(8, .int (prS pp ps pa (100 - 10 * kd) i)), (14, .int 1), (13, .int (prS pp ps pa (100 - 10 * kd) i)), (12, .int (nI i)), (11, .int (nI (100 - 10 * kd))), (10, .int ((rcR le mo si pp ps pa (100 - 10 * kd) (rcO le mo si pp ps pa (-1, -1, 0, 0) kd) i).2.2.1)), (9, .int ((rcR le mo si pp ps pa (100 - 10 * kd) (rcO le mo si pp ps pa (-1, -1, 0, 0) kd) i).2.1)), (6, .int pa), (5, .int ps), (4, .int pp), (3, .int si), (2, .int mo), (1, .int le), (0, .ref m)]) d_Mm_leastCost_224 (by decide) rfl ?_
                        refine r_iload d_Mm_leastCost_226 4 rfl ?_
                        refine r_istore (lv' := [(9, .int (nI (100 - 10 * kd))), (8, .int (prS pp ps pa (100 - 10 * kd) i)), (14, .int 1), (13, .int (prS pp ps pa (100 - 10 * kd) i)), (12, .int (nI i)), (11, .int (nI (100 - 10 * kd))), (10, .int ((rcR le mo si pp ps pa (100 - 10 * kd) (rcO le mo si pp ps pa (-1, -1, 0, 0) kd) i).2.2.1)), (6, .int pa), (5, .int ps), (4, .int pp), (3, .int si), (2, .int mo), (1, .int le), (0, .ref m)]) d_Mm_leastCost_228 (by decide) rfl ?_
                        refine r_iload d_Mm_leastCost_230 4 rfl ?_
                        refine r_istore (lv' := [(10, .int (nI i)), (9, .int (nI (100 - 10 * kd))), (8, .int (prS pp ps pa (100 - 10 * kd) i)), (14, .int 1), (13, .int (prS pp ps pa (100 - 10 * kd) i)), (12, .int (nI i)), (11, .int (nI (100 - 10 * kd))), (6, .int pa), (5, .int ps), (4, .int pp), (3, .int si), (2, .int mo), (1, .int le), (0, .ref m)]) d_Mm_leastCost_232 (by decide) rfl ?_
                        refine r_iinc (lv' := [(12, .int (nI (i + 1))), (10, .int (nI i)), (9, .int (nI (100 - 10 * kd))), (8, .int (prS pp ps pa (100 - 10 * kd) i)), (14, .int 1), (13, .int (prS pp ps pa (100 - 10 * kd) i)), (11, .int (nI (100 - 10 * kd))), (6, .int pa), (5, .int ps), (4, .int pp), (3, .int si), (2, .int mo), (1, .int le), (0, .ref m)]) (v := nI (i + 1)) d_Mm_leastCost_234 (j := 5) rfl (nI_add _ _) (by decide) rfl ?_
                        refine r_goto (tgt := 127) d_Mm_leastCost_237 (by decide) ?_
                        refine r_lv (lv' := [(12, .int (nI (i + 1))), (11, .int (nI (100 - 10 * kd))), (10, .int (nI i)), (9, .int (nI (100 - 10 * kd))), (8, .int (prS pp ps pa (100 - 10 * kd) i)), (6, .int pa), (5, .int ps), (4, .int pp), (3, .int si), (2, .int mo), (1, .int le), (0, .ref m)]) [0, 6, 1, 2, 3, 7, 8, 9, 10, 11, 12, 13] rfl ?_
                        refine r_lvE (lv2 := [(12, .int (nI (i + 1))), (11, .int (nI (100 - 10 * kd))), (10, .int ((rcR le mo si pp ps pa (100 - 10 * kd) (rcO le mo si pp ps pa (-1, -1, 0, 0) kd) (i + 1)).2.2.1)), (9, .int ((rcR le mo si pp ps pa (100 - 10 * kd) (rcO le mo si pp ps pa (-1, -1, 0, 0) kd) (i + 1)).2.1)), (8, .int ((rcR le mo si pp ps pa (100 - 10 * kd) (rcO le mo si pp ps pa (-1, -1, 0, 0) kd) (i + 1)).1)), (6, .int pa), (5, .int ps), (4, .int pp), (3, .int si), (2, .int mo), (1, .int le), (0, .ref m)]) (by first | (rw [rcR, rcI_f (fun h => h.1.2.2 c_194)] <;> rfl) | (rw [rcR, rcI_f (fun h => hc ⟨h.1.1, h.1.2.1⟩)] <;> rfl) | (rw [rcR, rcI_f (fun h => h.2.elim (rOk_b hok c_212) (fun q => q c_219))] <;> rfl) | (rw [rcR, rcI_f (fun h => h.2.elim (rOk_b hok c_212) (fun q => q (Int32.not_lt.mp c_219)))] <;> rfl) | (rw [rcR, rcI_t ⟨⟨hc.1, hc.2, c_194⟩, Or.inr (Int32.not_le.mpr c_219)⟩] <;> rfl) | (rw [rcR, rcI_t ⟨⟨hc.1, hc.2, c_194⟩, Or.inr c_219⟩] <;> rfl) | (rw [rcR, rcI_t ⟨⟨hc.1, hc.2, c_194⟩, Or.inl (rOk_m1 c_212)⟩] <;> rfl)) ?_
                        refine r_cs (cs2 := [(m, .inr (12, [.int 0, .ref mp, .int pt, .ref mf, .ref mh, .ref mn, .ref mt, .ref mz, .ref mc_, .ref mq, .ref mgr, .int cl, .int wa, .int co_, .int fi, .int bu, .int ho, .ref ml, .ref mi, .ref mr, .int lh, .int mg, .int wd, .int fpi, .int fal, .ref mm, .ref mu, .ref mk, .ref mx, .long po, .long de]))]) (rfl) ?_
                        exact ih (i + 1) (by omega) (by omega)
set_option maxHeartbeats 4000000 in
set_option maxRecDepth 100000 in
theorem L_Mm_leastCostN_119 (g : zG) (m mp mf mh mn mt mz mc_ mq mgr ml mi mr mm mu mk mx : Nat) (th pt cl wa co_ fi bu ho lh mg wd fpi fal : Int32) (po de : Int64) (le mo si pp ps pa : Int32) (hw : ((0 ≤ le ∧ le ≤ 450) ∧ (le ≤ mo ∧ mo ≤ 450) ∧ (0 ≤ si ∧ si ≤ 450) ∧ (1 ≤ pp ∧ pp ≤ 1000) ∧ (1 ≤ ps ∧ ps ≤ 1000) ∧ (1 ≤ pa ∧ pa ≤ 1000))) (hpr : ∀ P A, P + A ≤ 100 → 0 ≤ prS pp ps pa P A) (hs9 : ¬ (rcO le mo si pp ps pa (-1, -1, 0, 0) 11).1 < 0) (w0 : zW) (n : Nat) : ∀ (d kd : Nat), kd ≤ 11 → 11 < kd + d → DV g M_Mm_leastCost (fun o cs1 => o = .inl (some (.int ((rcO le mo si pp ps pa (-1, -1, 0, 0) 11).1))) ∧ cs1 = [(m, .inr (12, [.int 0, .ref mp, .int pt, .ref mf, .ref mh, .ref mn, .ref mt, .ref mz, .ref mc_, .ref mq, .ref mgr, .int cl, .int wa, .int co_, .int fi, .int bu, .int ho, .ref ml, .ref mi, .ref mr, .int lh, .int mg, .int wd, .int ((rcO le mo si pp ps pa (-1, -1, 0, 0) 11).2.1), .int ((rcO le mo si pp ps pa (-1, -1, 0, 0) 11).2.2.1), .ref mm, .ref mu, .ref mk, .ref mx, .long po, .long de]))]) w0 n 119 [(11, .int (pgI kd)), (10, .int ((rcO le mo si pp ps pa (-1, -1, 0, 0) kd).2.2.1)), (9, .int ((rcO le mo si pp ps pa (-1, -1, 0, 0) kd).2.1)), (8, .int ((rcO le mo si pp ps pa (-1, -1, 0, 0) kd).1)), (6, .int pa), (5, .int ps), (4, .int pp), (3, .int si), (2, .int mo), (1, .int le), (0, .ref m)] [] [(m, .inr (12, [.int 0, .ref mp, .int pt, .ref mf, .ref mh, .ref mn, .ref mt, .ref mz, .ref mc_, .ref mq, .ref mgr, .int cl, .int wa, .int co_, .int fi, .int bu, .int ho, .ref ml, .ref mi, .ref mr, .int lh, .int mg, .int wd, .int fpi, .int fal, .ref mm, .ref mu, .ref mk, .ref mx, .long po, .long de]))] 0 0 := by
  intro d
  induction d with
  | zero => intro kd h1 h2 ; exact absurd h2 (by omega)
  | succ d ih =>
    intro kd h1 h2 
    refine r_iload d_Mm_leastCost_119 0 rfl ?_
    refine r_if_lt (tgt := 246) d_Mm_leastCost_121 (by decide) (fun c_121 => ?_) (fun c_121 => ?_)
    · have hk : kd = 11 := (pgI_neg kd (by omega)).mp c_121
      obtain rfl : kd = 11 := hk
      have hok11 := rcO_ok (le := le) (mo := mo) (si := si) hpr (s := (-1, -1, 0, 0)) (Or.inl rfl) 11 (Nat.le_refl _)
      refine r_aload_n d_Mm_leastCost_246 rfl 10 rfl ?_
      refine r_iload d_Mm_leastCost_247 3 rfl ?_
      refine r_iconst d_Mm_leastCost_249 (v := (-1)) (by decide) ?_
      refine r_icmp_ne (tgt := 257) d_Mm_leastCost_250 (by decide) (fun c_250 => ?_) (fun c_250 => ?_)
      · refine r_iconst d_Mm_leastCost_257 (v := 0) (by decide) ?_
        refine r_iconst d_Mm_leastCost_258 (v := 2) (by decide) ?_
        refine r_callV (As := [.int 0, .int 2]) (rest := []) (csC := [(m, .inr (12, [.int 0, .ref mp, .int pt, .ref mf, .ref mh, .ref mn, .ref mt, .ref mz, .ref mc_, .ref mq, .ref mgr, .int cl, .int wa, .int co_, .int fi, .int bu, .int ho, .ref ml, .ref mi, .ref mr, .int lh, .int mg, .int wd, .int fpi, .int fal, .ref mm, .ref mu, .ref mk, .ref mx, .long po, .long de]))]) (is := [0]) (q0 := 0) rfl rfl ln_Mm_103 w_im_Mm_fails w_se_Mm_fails ok_Mm_leastCost_Mm_fails d_Mm_leastCost_259 (C_Mm_fails0 g m mp mf mh mn mt mz mc_ mq mgr ml mi mr mm mu mk mx th pt cl wa co_ fi bu ho lh mg wd fpi fal po de 2) rfl rfl (Nat.le_of_ble_eq_true rfl) rfl (by decide) (by omega) (by omega) (fun E cs1 hx => ?_) (fun v cs1 hx => ?_)
        · exact absurd hx.1 (by simp)
        · obtain ⟨e1, rfl⟩ := hx
          cases e1
          refine ⟨rfl, ?_⟩
          refine r_st (st2 := [.int 0]) rfl ?_
          refine r_cs (cs2 := [(m, .inr (12, [.int 0, .ref mp, .int pt, .ref mf, .ref mh, .ref mn, .ref mt, .ref mz, .ref mc_, .ref mq, .ref mgr, .int cl, .int wa, .int co_, .int fi, .int bu, .int ho, .ref ml, .ref mi, .ref mr, .int lh, .int mg, .int wd, .int fpi, .int fal, .ref mm, .ref mu, .ref mk, .ref mx, .long po, .long de]))]) rfl ?_
          refine r_if_eq (tgt := 267) d_Mm_leastCost_262 (by decide) (fun c_262 => ?_) (fun c_262 => ?_)
          · refine r_aload_n d_Mm_leastCost_267 rfl 10 rfl ?_
            refine r_iload d_Mm_leastCost_268 2 rfl ?_
            refine r_put fp_Mm_69 d_Mm_leastCost_270 (fun h => nomatch h) rfl rfl (q0 := 0) rfl (Nat.le_of_ble_eq_true rfl) (cs' := [(m, .inr (12, [.int 0, .ref mp, .int pt, .ref mf, .ref mh, .ref mn, .ref mt, .ref mz, .ref mc_, .ref mq, .ref mgr, .int cl, .int wa, .int co_, .int fi, .int bu, .int ho, .ref ml, .ref mi, .ref mr, .int lh, .int mg, .int wd, .int ((rcO le mo si pp ps pa (-1, -1, 0, 0) 11).2.1), .int fal, .ref mm, .ref mu, .ref mk, .ref mx, .long po, .long de]))]) rfl ?_
            refine r_aload_n d_Mm_leastCost_273 rfl 10 rfl ?_
            refine r_iload d_Mm_leastCost_274 1 rfl ?_
            refine r_put fp_Mm_276 d_Mm_leastCost_276 (fun h => nomatch h) rfl rfl (q0 := 0) rfl (Nat.le_of_ble_eq_true rfl) (cs' := [(m, .inr (12, [.int 0, .ref mp, .int pt, .ref mf, .ref mh, .ref mn, .ref mt, .ref mz, .ref mc_, .ref mq, .ref mgr, .int cl, .int wa, .int co_, .int fi, .int bu, .int ho, .ref ml, .ref mi, .ref mr, .int lh, .int mg, .int wd, .int ((rcO le mo si pp ps pa (-1, -1, 0, 0) 11).2.1), .int ((rcO le mo si pp ps pa (-1, -1, 0, 0) 11).2.2.1), .ref mm, .ref mu, .ref mk, .ref mx, .long po, .long de]))]) rfl ?_
            refine r_iload d_Mm_leastCost_279 3 rfl ?_
            refine r_iret d_Mm_leastCost_281 rfl rfl ?_
            exact ⟨rfl, rfl⟩
          · exact absurd c_262 (by decide)
      · exact absurd c_250 (rOk_nlt hok11 hs9)
    · have hne : ¬ kd = 11 := fun q => c_121 ((pgI_neg kd (by omega)).mpr q)
      have hk : kd < 11 := by omega
      rw [pgI_n hk]
      refine r_iconst d_Mm_leastCost_124 (v := 0) (by decide) ?_
      refine r_istore (lv' := [(12, .int 0), (11, .int (nI (100 - 10 * kd))), (10, .int ((rcO le mo si pp ps pa (-1, -1, 0, 0) kd).2.2.1)), (9, .int ((rcO le mo si pp ps pa (-1, -1, 0, 0) kd).2.1)), (8, .int ((rcO le mo si pp ps pa (-1, -1, 0, 0) kd).1)), (6, .int pa), (5, .int ps), (4, .int pp), (3, .int si), (2, .int mo), (1, .int le), (0, .ref m)]) d_Mm_leastCost_125 (by decide) rfl ?_
      refine r_lvE (lv2 := [(12, .int (nI 0)), (11, .int (nI (100 - 10 * kd))), (10, .int ((rcR le mo si pp ps pa (100 - 10 * kd) (rcO le mo si pp ps pa (-1, -1, 0, 0) kd) 0).2.2.1)), (9, .int ((rcR le mo si pp ps pa (100 - 10 * kd) (rcO le mo si pp ps pa (-1, -1, 0, 0) kd) 0).2.1)), (8, .int ((rcR le mo si pp ps pa (100 - 10 * kd) (rcO le mo si pp ps pa (-1, -1, 0, 0) kd) 0).1)), (6, .int pa), (5, .int ps), (4, .int pp), (3, .int si), (2, .int mo), (1, .int le), (0, .ref m)]) (rfl) ?_
      refine r_cs (cs2 := [(m, .inr (12, [.int 0, .ref mp, .int pt, .ref mf, .ref mh, .ref mn, .ref mt, .ref mz, .ref mc_, .ref mq, .ref mgr, .int cl, .int wa, .int co_, .int fi, .int bu, .int ho, .ref ml, .ref mi, .ref mr, .int lh, .int mg, .int wd, .int fpi, .int fal, .ref mm, .ref mu, .ref mk, .ref mx, .long po, .long de]))]) (rfl) ?_
      refine L_Mm_leastCostN_127 g m mp mf mh mn mt mz mc_ mq mgr ml mi mr mm mu mk mx th pt cl wa co_ fi bu ho lh mg wd fpi fal po de le mo si pp ps pa hw hpr hs9 w0 _ kd hk (?_) (nA (100 - 10 * kd) + 1) 0 (Nat.zero_le _) (by omega)
      refine r_iinc (lv' := [(11, .int (pgI (kd + 1))), (12, .int (nI (nA (100 - 10 * kd)))), (10, .int ((rcR le mo si pp ps pa (100 - 10 * kd) (rcO le mo si pp ps pa (-1, -1, 0, 0) kd) (nA (100 - 10 * kd))).2.2.1)), (9, .int ((rcR le mo si pp ps pa (100 - 10 * kd) (rcO le mo si pp ps pa (-1, -1, 0, 0) kd) (nA (100 - 10 * kd))).2.1)), (8, .int ((rcR le mo si pp ps pa (100 - 10 * kd) (rcO le mo si pp ps pa (-1, -1, 0, 0) kd) (nA (100 - 10 * kd))).1)), (6, .int pa), (5, .int ps), (4, .int pp), (3, .int si), (2, .int mo), (1, .int le), (0, .ref m)]) (v := pgI (kd + 1)) d_Mm_leastCost_240 (j := 1) rfl (by rw [← pgI_n (by omega)]; exact pgI_s kd (by omega)) (by decide) rfl ?_
      refine r_goto (tgt := 119) d_Mm_leastCost_243 (by decide) ?_
      refine r_lv (lv' := [(11, .int (pgI (kd + 1))), (10, .int ((rcR le mo si pp ps pa (100 - 10 * kd) (rcO le mo si pp ps pa (-1, -1, 0, 0) kd) (nA (100 - 10 * kd))).2.2.1)), (9, .int ((rcR le mo si pp ps pa (100 - 10 * kd) (rcO le mo si pp ps pa (-1, -1, 0, 0) kd) (nA (100 - 10 * kd))).2.1)), (8, .int ((rcR le mo si pp ps pa (100 - 10 * kd) (rcO le mo si pp ps pa (-1, -1, 0, 0) kd) (nA (100 - 10 * kd))).1)), (6, .int pa), (5, .int ps), (4, .int pp), (3, .int si), (2, .int mo), (1, .int le), (0, .ref m)]) [0, 2, 3, 4, 5, 6, 7, 8, 9, 10, 11] rfl ?_
      refine r_lvE (lv2 := [(11, .int (pgI (kd + 1))), (10, .int ((rcO le mo si pp ps pa (-1, -1, 0, 0) (kd + 1)).2.2.1)), (9, .int ((rcO le mo si pp ps pa (-1, -1, 0, 0) (kd + 1)).2.1)), (8, .int ((rcO le mo si pp ps pa (-1, -1, 0, 0) (kd + 1)).1)), (6, .int pa), (5, .int ps), (4, .int pp), (3, .int si), (2, .int mo), (1, .int le), (0, .ref m)]) (rfl) ?_
      refine r_cs (cs2 := [(m, .inr (12, [.int 0, .ref mp, .int pt, .ref mf, .ref mh, .ref mn, .ref mt, .ref mz, .ref mc_, .ref mq, .ref mgr, .int cl, .int wa, .int co_, .int fi, .int bu, .int ho, .ref ml, .ref mi, .ref mr, .int lh, .int mg, .int wd, .int fpi, .int fal, .ref mm, .ref mu, .ref mk, .ref mx, .long po, .long de]))]) (rfl) ?_
      exact ih (kd + 1) (by omega) (by omega)
set_option maxHeartbeats 4000000 in
set_option maxRecDepth 100000 in
theorem C_Mm_leastCostN (g : zG) (m mp mf mh mn mt mz mc_ mq mgr ml mi mr mm mu mk mx : Nat) (th pt cl wa co_ fi bu ho lh mg wd fpi fal : Int32) (po de : Int64) (le mo si pp ps pa : Int32) (hw : ((0 ≤ le ∧ le ≤ 450) ∧ (le ≤ mo ∧ mo ≤ 450) ∧ (0 ≤ si ∧ si ≤ 450) ∧ (1 ≤ pp ∧ pp ≤ 1000) ∧ (1 ≤ ps ∧ ps ≤ 1000) ∧ (1 ≤ pa ∧ pa ≤ 1000))) (hpr : ∀ P A, P + A ≤ 100 → 0 ≤ prS pp ps pa P A) (hs9 : ¬ (rcO le mo si pp ps pa (-1, -1, 0, 0) 11).1 < 0) : CT g M_Mm_leastCost [.ref m, .int le, .int mo, .int si, .int pp, .int ps, .int pa] [(m, .inr (12, [.int th, .ref mp, .int pt, .ref mf, .ref mh, .ref mn, .ref mt, .ref mz, .ref mc_, .ref mq, .ref mgr, .int cl, .int wa, .int co_, .int fi, .int bu, .int ho, .ref ml, .ref mi, .ref mr, .int lh, .int mg, .int wd, .int fpi, .int fal, .ref mm, .ref mu, .ref mk, .ref mx, .long po, .long de]))] (fun o cs1 => o = .inl (some (.int ((rcO le mo si pp ps pa (-1, -1, 0, 0) 11).1))) ∧ cs1 = [(m, .inr (12, [.int 0, .ref mp, .int pt, .ref mf, .ref mh, .ref mn, .ref mt, .ref mz, .ref mc_, .ref mq, .ref mgr, .int cl, .int wa, .int co_, .int fi, .int bu, .int ho, .ref ml, .ref mi, .ref mr, .int lh, .int mg, .int wd, .int ((rcO le mo si pp ps pa (-1, -1, 0, 0) 11).2.1), .int ((rcO le mo si pp ps pa (-1, -1, 0, 0) 11).2.2.1), .ref mm, .ref mu, .ref mk, .ref mx, .long po, .long de]))]) 0 0 := by
  refine z_of (by decide) rfl (Nat.le_of_ble_eq_true rfl) (fun w0 => ?_)
  refine r_lvE (lv2 := [(0, .ref m), (1, .int le), (2, .int mo), (3, .int si), (4, .int pp), (5, .int ps), (6, .int pa)]) rfl ?_
  refine r_aload_n d_Mm_leastCost_0 rfl 0 rfl ?_
  refine r_iconst d_Mm_leastCost_1 (v := 0) (by decide) ?_
  refine r_put fp_Mm_84 d_Mm_leastCost_2 (fun h => nomatch h) rfl rfl (q0 := 0) rfl (Nat.le_of_ble_eq_true rfl) (cs' := [(m, .inr (12, [.int 0, .ref mp, .int pt, .ref mf, .ref mh, .ref mn, .ref mt, .ref mz, .ref mc_, .ref mq, .ref mgr, .int cl, .int wa, .int co_, .int fi, .int bu, .int ho, .ref ml, .ref mi, .ref mr, .int lh, .int mg, .int wd, .int fpi, .int fal, .ref mm, .ref mu, .ref mk, .ref mx, .long po, .long de]))]) rfl ?_
  refine r_iload_n d_Mm_leastCost_5 rfl 1 rfl ?_
  refine r_iconst d_Mm_leastCost_6 (v := 0) (by decide) ?_
  refine r_sipush d_Mm_leastCost_7 (v := 450) (by decide) ?_
  refine r_callS (As := [.int le, .int 0, .int 450]) (rest := []) (csC := []) (is := []) ln_Mm_87 w_st_Mm_in ok_Mm_leastCost_Mm_in d_Mm_leastCost_10 (C_Mm_in g le 0 450) rfl rfl (Nat.le_of_ble_eq_true rfl) rfl (by decide) (by omega) (by omega) (fun E cs1 hx => ?_) (fun v cs1 hx => ?_)
  · exact absurd hx.1 (by simp)
  · obtain ⟨e1, rfl⟩ := hx
    rw [if_pos hw.1] at e1
    cases e1
    refine ⟨rfl, ?_⟩
    refine r_st (st2 := [.int 1]) rfl ?_
    refine r_cs (cs2 := [(m, .inr (12, [.int 0, .ref mp, .int pt, .ref mf, .ref mh, .ref mn, .ref mt, .ref mz, .ref mc_, .ref mq, .ref mgr, .int cl, .int wa, .int co_, .int fi, .int bu, .int ho, .ref ml, .ref mi, .ref mr, .int lh, .int mg, .int wd, .int fpi, .int fal, .ref mm, .ref mu, .ref mk, .ref mx, .long po, .long de]))]) rfl ?_
    refine r_if_eq (tgt := 47) d_Mm_leastCost_13 (by decide) (fun c_13 => ?_) (fun c_13 => ?_)
    · exact absurd c_13 (by decide)
    · refine r_iload_n d_Mm_leastCost_16 rfl 2 rfl ?_
      refine r_iconst d_Mm_leastCost_17 (v := 0) (by decide) ?_
      refine r_sipush d_Mm_leastCost_18 (v := 450) (by decide) ?_
      refine r_callS (As := [.int mo, .int 0, .int 450]) (rest := []) (csC := []) (is := []) ln_Mm_87 w_st_Mm_in ok_Mm_leastCost_Mm_in d_Mm_leastCost_21 (C_Mm_in g mo 0 450) rfl rfl (Nat.le_of_ble_eq_true rfl) rfl (by decide) (by omega) (by omega) (fun E cs1 hx => ?_) (fun v cs1 hx => ?_)
      · exact absurd hx.1 (by simp)
      · obtain ⟨e1, rfl⟩ := hx
        rw [if_pos ⟨Int32.le_trans hw.1.1 hw.2.1.1, hw.2.1.2⟩] at e1
        cases e1
        refine ⟨rfl, ?_⟩
        refine r_st (st2 := [.int 1]) rfl ?_
        refine r_cs (cs2 := [(m, .inr (12, [.int 0, .ref mp, .int pt, .ref mf, .ref mh, .ref mn, .ref mt, .ref mz, .ref mc_, .ref mq, .ref mgr, .int cl, .int wa, .int co_, .int fi, .int bu, .int ho, .ref ml, .ref mi, .ref mr, .int lh, .int mg, .int wd, .int fpi, .int fal, .ref mm, .ref mu, .ref mk, .ref mx, .long po, .long de]))]) rfl ?_
        refine r_if_eq (tgt := 47) d_Mm_leastCost_24 (by decide) (fun c_24 => ?_) (fun c_24 => ?_)
        · exact absurd c_24 (by decide)
        · refine r_iload_n d_Mm_leastCost_27 rfl 3 rfl ?_
          refine r_iconst d_Mm_leastCost_28 (v := 0) (by decide) ?_
          refine r_sipush d_Mm_leastCost_29 (v := 450) (by decide) ?_
          refine r_callS (As := [.int si, .int 0, .int 450]) (rest := []) (csC := []) (is := []) ln_Mm_87 w_st_Mm_in ok_Mm_leastCost_Mm_in d_Mm_leastCost_32 (C_Mm_in g si 0 450) rfl rfl (Nat.le_of_ble_eq_true rfl) rfl (by decide) (by omega) (by omega) (fun E cs1 hx => ?_) (fun v cs1 hx => ?_)
          · exact absurd hx.1 (by simp)
          · obtain ⟨e1, rfl⟩ := hx
            rw [if_pos hw.2.2.1] at e1
            cases e1
            refine ⟨rfl, ?_⟩
            refine r_st (st2 := [.int 1]) rfl ?_
            refine r_cs (cs2 := [(m, .inr (12, [.int 0, .ref mp, .int pt, .ref mf, .ref mh, .ref mn, .ref mt, .ref mz, .ref mc_, .ref mq, .ref mgr, .int cl, .int wa, .int co_, .int fi, .int bu, .int ho, .ref ml, .ref mi, .ref mr, .int lh, .int mg, .int wd, .int fpi, .int fal, .ref mm, .ref mu, .ref mk, .ref mx, .long po, .long de]))]) rfl ?_
            refine r_if_eq (tgt := 47) d_Mm_leastCost_35 (by decide) (fun c_35 => ?_) (fun c_35 => ?_)
            · exact absurd c_35 (by decide)
            · refine r_iload_n d_Mm_leastCost_38 rfl 2 rfl ?_
              refine r_iload_n d_Mm_leastCost_39 rfl 1 rfl ?_
              refine r_icmp_lt (tgt := 47) d_Mm_leastCost_40 (by decide) (fun c_40 => ?_) (fun c_40 => ?_)
              · exact absurd hw.2.1.1 (Int32.not_le.mpr c_40)
              · refine r_iconst d_Mm_leastCost_43 (v := 1) (by decide) ?_
                refine r_goto (tgt := 48) d_Mm_leastCost_44 (by decide) ?_
                refine r_istore (lv' := [(7, .int 1), (0, .ref m), (1, .int le), (2, .int mo), (3, .int si), (4, .int pp), (5, .int ps), (6, .int pa)]) d_Mm_leastCost_48 (by decide) rfl ?_
                refine r_aload_n d_Mm_leastCost_50 rfl 1 rfl ?_
                refine r_iload d_Mm_leastCost_51 0 rfl ?_
                refine r_if_eq (tgt := 92) d_Mm_leastCost_53 (by decide) (fun c_53 => ?_) (fun c_53 => ?_)
                · exact absurd c_53 (by decide)
                · refine r_iload d_Mm_leastCost_56 5 rfl ?_
                  refine r_iconst d_Mm_leastCost_58 (v := 1) (by decide) ?_
                  refine r_sipush d_Mm_leastCost_59 (v := 1000) (by decide) ?_
                  refine r_callS (As := [.int pp, .int 1, .int 1000]) (rest := [.ref m]) (csC := []) (is := []) ln_Mm_87 w_st_Mm_in ok_Mm_leastCost_Mm_in d_Mm_leastCost_62 (C_Mm_in g pp 1 1000) rfl rfl (Nat.le_of_ble_eq_true rfl) rfl (by decide) (by omega) (by omega) (fun E cs1 hx => ?_) (fun v cs1 hx => ?_)
                  · exact absurd hx.1 (by simp)
                  · obtain ⟨e1, rfl⟩ := hx
                    rw [if_pos hw.2.2.2.1] at e1
                    cases e1
                    refine ⟨rfl, ?_⟩
                    refine r_st (st2 := [.int 1, .ref m]) rfl ?_
                    refine r_cs (cs2 := [(m, .inr (12, [.int 0, .ref mp, .int pt, .ref mf, .ref mh, .ref mn, .ref mt, .ref mz, .ref mc_, .ref mq, .ref mgr, .int cl, .int wa, .int co_, .int fi, .int bu, .int ho, .ref ml, .ref mi, .ref mr, .int lh, .int mg, .int wd, .int fpi, .int fal, .ref mm, .ref mu, .ref mk, .ref mx, .long po, .long de]))]) rfl ?_
                    refine r_if_eq (tgt := 92) d_Mm_leastCost_65 (by decide) (fun c_65 => ?_) (fun c_65 => ?_)
                    · exact absurd c_65 (by decide)
                    · refine r_iload d_Mm_leastCost_68 6 rfl ?_
                      refine r_iconst d_Mm_leastCost_70 (v := 1) (by decide) ?_
                      refine r_sipush d_Mm_leastCost_71 (v := 1000) (by decide) ?_
                      refine r_callS (As := [.int ps, .int 1, .int 1000]) (rest := [.ref m]) (csC := []) (is := []) ln_Mm_87 w_st_Mm_in ok_Mm_leastCost_Mm_in d_Mm_leastCost_74 (C_Mm_in g ps 1 1000) rfl rfl (Nat.le_of_ble_eq_true rfl) rfl (by decide) (by omega) (by omega) (fun E cs1 hx => ?_) (fun v cs1 hx => ?_)
                      · exact absurd hx.1 (by simp)
                      · obtain ⟨e1, rfl⟩ := hx
                        rw [if_pos hw.2.2.2.2.1] at e1
                        cases e1
                        refine ⟨rfl, ?_⟩
                        refine r_st (st2 := [.int 1, .ref m]) rfl ?_
                        refine r_cs (cs2 := [(m, .inr (12, [.int 0, .ref mp, .int pt, .ref mf, .ref mh, .ref mn, .ref mt, .ref mz, .ref mc_, .ref mq, .ref mgr, .int cl, .int wa, .int co_, .int fi, .int bu, .int ho, .ref ml, .ref mi, .ref mr, .int lh, .int mg, .int wd, .int fpi, .int fal, .ref mm, .ref mu, .ref mk, .ref mx, .long po, .long de]))]) rfl ?_
                        refine r_if_eq (tgt := 92) d_Mm_leastCost_77 (by decide) (fun c_77 => ?_) (fun c_77 => ?_)
                        · exact absurd c_77 (by decide)
                        · refine r_iload d_Mm_leastCost_80 7 rfl ?_
                          refine r_iconst d_Mm_leastCost_82 (v := 1) (by decide) ?_
                          refine r_sipush d_Mm_leastCost_83 (v := 1000) (by decide) ?_
                          refine r_callS (As := [.int pa, .int 1, .int 1000]) (rest := [.ref m]) (csC := []) (is := []) ln_Mm_87 w_st_Mm_in ok_Mm_leastCost_Mm_in d_Mm_leastCost_86 (C_Mm_in g pa 1 1000) rfl rfl (Nat.le_of_ble_eq_true rfl) rfl (by decide) (by omega) (by omega) (fun E cs1 hx => ?_) (fun v cs1 hx => ?_)
                          · exact absurd hx.1 (by simp)
                          · obtain ⟨e1, rfl⟩ := hx
                            rw [if_pos hw.2.2.2.2.2] at e1
                            cases e1
                            refine ⟨rfl, ?_⟩
                            refine r_st (st2 := [.int 1, .ref m]) rfl ?_
                            refine r_cs (cs2 := [(m, .inr (12, [.int 0, .ref mp, .int pt, .ref mf, .ref mh, .ref mn, .ref mt, .ref mz, .ref mc_, .ref mq, .ref mgr, .int cl, .int wa, .int co_, .int fi, .int bu, .int ho, .ref ml, .ref mi, .ref mr, .int lh, .int mg, .int wd, .int fpi, .int fal, .ref mm, .ref mu, .ref mk, .ref mx, .long po, .long de]))]) rfl ?_
                            refine r_if_ne (tgt := 96) d_Mm_leastCost_89 (by decide) (fun c_89 => ?_) (fun c_89 => ?_)
                            · refine r_iconst d_Mm_leastCost_96 (v := 0) (by decide) ?_
                              refine r_iconst d_Mm_leastCost_97 (v := 1) (by decide) ?_
                              refine r_callV (As := [.int 0, .int 1]) (rest := []) (csC := [(m, .inr (12, [.int 0, .ref mp, .int pt, .ref mf, .ref mh, .ref mn, .ref mt, .ref mz, .ref mc_, .ref mq, .ref mgr, .int cl, .int wa, .int co_, .int fi, .int bu, .int ho, .ref ml, .ref mi, .ref mr, .int lh, .int mg, .int wd, .int fpi, .int fal, .ref mm, .ref mu, .ref mk, .ref mx, .long po, .long de]))]) (is := [0]) (q0 := 0) rfl rfl ln_Mm_103 w_im_Mm_fails w_se_Mm_fails ok_Mm_leastCost_Mm_fails d_Mm_leastCost_98 (C_Mm_fails0 g m mp mf mh mn mt mz mc_ mq mgr ml mi mr mm mu mk mx th pt cl wa co_ fi bu ho lh mg wd fpi fal po de 1) rfl rfl (Nat.le_of_ble_eq_true rfl) rfl (by decide) (by omega) (by omega) (fun E cs1 hx => ?_) (fun v cs1 hx => ?_)
                              · exact absurd hx.1 (by simp)
                              · obtain ⟨e1, rfl⟩ := hx
                                cases e1
                                refine ⟨rfl, ?_⟩
                                refine r_st (st2 := [.int 0]) rfl ?_
                                refine r_cs (cs2 := [(m, .inr (12, [.int 0, .ref mp, .int pt, .ref mf, .ref mh, .ref mn, .ref mt, .ref mz, .ref mc_, .ref mq, .ref mgr, .int cl, .int wa, .int co_, .int fi, .int bu, .int ho, .ref ml, .ref mi, .ref mr, .int lh, .int mg, .int wd, .int fpi, .int fal, .ref mm, .ref mu, .ref mk, .ref mx, .long po, .long de]))]) rfl ?_
                                refine r_if_eq (tgt := 106) d_Mm_leastCost_101 (by decide) (fun c_101 => ?_) (fun c_101 => ?_)
                                · refine r_iconst d_Mm_leastCost_106 (v := (-1)) (by decide) ?_
                                  refine r_istore (lv' := [(8, .int (-1)), (7, .int 1), (0, .ref m), (1, .int le), (2, .int mo), (3, .int si), (4, .int pp), (5, .int ps), (6, .int pa)]) d_Mm_leastCost_107 (by decide) rfl ?_
                                  refine r_iconst d_Mm_leastCost_109 (v := (-1)) (by decide) ?_
                                  refine r_istore (lv' := [(9, .int (-1)), (8, .int (-1)), (7, .int 1), (0, .ref m), (1, .int le), (2, .int mo), (3, .int si), (4, .int pp), (5, .int ps), (6, .int pa)]) d_Mm_leastCost_110 (by decide) rfl ?_
                                  refine r_iconst d_Mm_leastCost_112 (v := 0) (by decide) ?_
                                  refine r_istore (lv' := [(10, .int 0), (9, .int (-1)), (8, .int (-1)), (7, .int 1), (0, .ref m), (1, .int le), (2, .int mo), (3, .int si), (4, .int pp), (5, .int ps), (6, .int pa)]) d_Mm_leastCost_113 (by decide) rfl ?_
                                  refine r_bipush d_Mm_leastCost_115 (v := 100) (by decide) ?_
                                  refine r_istore (lv' := [(11, .int 100), (10, .int 0), (9, .int (-1)), (8, .int (-1)), (7, .int 1), (0, .ref m), (1, .int le), (2, .int mo), (3, .int si), (4, .int pp), (5, .int ps), (6, .int pa)]) d_Mm_leastCost_117 (by decide) rfl ?_
                                  refine r_lv (lv' := [(11, .int 100), (10, .int 0), (9, .int (-1)), (8, .int (-1)), (6, .int pa), (5, .int ps), (4, .int pp), (3, .int si), (2, .int mo), (1, .int le), (0, .ref m)]) [0, 1, 2, 3, 11, 10, 9, 8, 7, 6, 5] rfl ?_
                                  refine r_lvE (lv2 := [(11, .int (pgI 0)), (10, .int ((rcO le mo si pp ps pa (-1, -1, 0, 0) 0).2.2.1)), (9, .int ((rcO le mo si pp ps pa (-1, -1, 0, 0) 0).2.1)), (8, .int ((rcO le mo si pp ps pa (-1, -1, 0, 0) 0).1)), (6, .int pa), (5, .int ps), (4, .int pp), (3, .int si), (2, .int mo), (1, .int le), (0, .ref m)]) (rfl) ?_
                                  refine r_cs (cs2 := [(m, .inr (12, [.int 0, .ref mp, .int pt, .ref mf, .ref mh, .ref mn, .ref mt, .ref mz, .ref mc_, .ref mq, .ref mgr, .int cl, .int wa, .int co_, .int fi, .int bu, .int ho, .ref ml, .ref mi, .ref mr, .int lh, .int mg, .int wd, .int fpi, .int fal, .ref mm, .ref mu, .ref mk, .ref mx, .long po, .long de]))]) (rfl) ?_
                                  exact L_Mm_leastCostN_119 g m mp mf mh mn mt mz mc_ mq mgr ml mi mr mm mu mk mx th pt cl wa co_ fi bu ho lh mg wd fpi fal po de le mo si pp ps pa hw hpr hs9 w0 _  (11 + 1) 0 (Nat.zero_le _) (by omega)
                                · exact absurd c_101 (by decide)
                            · exact absurd c_89 (by decide)
