theorem prS_nn {pp ps pa : Int32} (h1 : 1 ≤ pp ∧ pp ≤ 1000) (h2 : 1 ≤ ps ∧ ps ≤ 1000) (h3 : 1 ≤ pa ∧ pa ≤ 1000) {P A : Nat} (h : P + A ≤ 100) : 0 ≤ prS pp ps pa P A := by
  have key : ∀ {x : Int32}, 1 ≤ x ∧ x ≤ 1000 → ∃ a : Nat, a ≤ 1000 ∧ x = nI a := fun {x} q => by
    have h0 : 0 ≤ x := Int32.le_trans (by decide) q.1
    have e := z_nn h0
    refine ⟨x.toNatClampNeg, ?_, e⟩
    have f1 : x.toNatClampNeg < 2 ^ 31 := by have := fb_rng x; have := z_clamp h0; omega
    have := q.2
    rw [e] at this
    exact z_le (b := 1000) (by decide) f1 this
  obtain ⟨a, ha, rfl⟩ := key h1
  obtain ⟨b, hb, rfl⟩ := key h2
  obtain ⟨c, hc, rfl⟩ := key h3
  unfold prS
  rw [pk_mul, pk_mul, pk_mul, nI_add, nI_add]
  refine Int32.not_lt.mp (nI_nneg ?_)
  have q1 : P * a ≤ 100 * 1000 := Nat.mul_le_mul (by omega) ha
  have q2 : (100 - P - A) * b ≤ 100 * 1000 := Nat.mul_le_mul (by omega) hb
  have q3 : A * c ≤ 100 * 1000 := Nat.mul_le_mul (by omega) hc
  omega
def rOk (s : zR) : Prop := s.1 = -1 ∨ 0 ≤ s.1
theorem rOk_lt {s : zR} (h : rOk s) (q : s.1 < 0) : s.1 = -1 := h.elim id (fun e => absurd q (Int32.not_lt.mpr e))
theorem rOk_nlt {s : zR} (h : rOk s) (q : ¬ s.1 < 0) : ¬ s.1 = -1 := fun e => q (by rw [e]; decide)
theorem rOk_m1 {s : zR} (q : s.1 = -1) : s.1 < 0 := by rw [q]; decide
theorem rcI_ok {le mo si pp ps pa : Int32} {P A : Nat} {s : zR} (hp : 0 ≤ prS pp ps pa P A) (h : rOk s) : rOk (rcI le mo si pp ps pa P A s) := by
  unfold rcI
  split
  · exact Or.inr hp
  · exact h
theorem rcR_ok {le mo si pp ps pa : Int32} {P : Nat} {s : zR} (hp : ∀ P A, P + A ≤ 100 → 0 ≤ prS pp ps pa P A) (h : rOk s) : ∀ A, A ≤ nA P → P ≤ 100 → P ≤ 90 ∨ P = 100 → rOk (rcR le mo si pp ps pa P s A)
  | 0, _, _, _ => h
  | A + 1, h1, h2, h3 => by
    refine rcI_ok (hp P A ?_) (rcR_ok hp h A (by omega) h2 h3)
    rcases nA_c P with ⟨q1, q2⟩ | ⟨q1, q2⟩ <;> omega
theorem rcO_ok {le mo si pp ps pa : Int32} {s : zR} (hp : ∀ P A, P + A ≤ 100 → 0 ≤ prS pp ps pa P A) (h : rOk s) : ∀ k, k ≤ 11 → rOk (rcO le mo si pp ps pa s k)
  | 0, _ => h
  | k + 1, hk => rcR_ok hp (rcO_ok hp h k (by omega)) _ (Nat.le_refl _) (by omega) (by omega)
theorem ctS_0 (P S A : Nat) : nI (P * 420 + S * 20 + A * 1) / 100 = ctS 0 (nI P) (nI S) (nI A) := by
  rw [← nI_add, ← nI_add, ← pk_mul, ← pk_mul, ← pk_mul]
  unfold ctS
  rfl
theorem ctS_1 (P S A : Nat) : nI (P * 100 + S * 30 + A * 750) / 100 = ctS 1 (nI P) (nI S) (nI A) := by
  rw [← nI_add, ← nI_add, ← pk_mul, ← pk_mul, ← pk_mul]
  unfold ctS
  rfl
theorem z_arc (a b c : Int32) : a + b + c = a + c + b := by rw [Int32.add_assoc, Int32.add_comm b c, ← Int32.add_assoc]
theorem ct_le {a b c : Int32} (h : ¬ (b ≤ a ∧ a ≤ c)) : ¬ (¬ a < b ∧ ¬ c < a) := fun q => h ⟨Int32.not_lt.mp q.1, Int32.not_lt.mp q.2⟩
theorem rOk_b {s : zR} (h : rOk s) (q : ¬ s.1 = -1) : ¬ s.1 < 0 := fun e => q (rOk_lt h e)
abbrev M_Mm_has_0 : zM := (⟨"IronpourModel", "has", "(III)I"⟩, prog_14_method_70_code, 4, (Option.some FieldType.int), 2, 41, [])
theorem d_Mm_has_0_0 : decode prog_14_method_70_code 0 = .ok (.bipush 100, 2) := zo_16 (d := 100) (zd_b zq_prog_14_method_70_code_0 0 rfl rfl rfl) (zd_b zq_prog_14_method_70_code_0 1 rfl rfl rfl) (by decide +kernel)
theorem d_Mm_has_0_2 : decode prog_14_method_70_code 2 = .ok (.iload_n 0, 1) := zo_26 (zd_b zq_prog_14_method_70_code_0 2 rfl rfl rfl)
theorem d_Mm_has_0_3 : decode prog_14_method_70_code 3 = .ok (.isub, 1) := zo_100 (zd_b zq_prog_14_method_70_code_0 3 rfl rfl rfl)
theorem d_Mm_has_0_4 : decode prog_14_method_70_code 4 = .ok (.iload_n 1, 1) := zo_27 (zd_b zq_prog_14_method_70_code_0 4 rfl rfl rfl)
theorem d_Mm_has_0_5 : decode prog_14_method_70_code 5 = .ok (.isub, 1) := zo_100 (zd_b zq_prog_14_method_70_code_0 5 rfl rfl rfl)
theorem d_Mm_has_0_6 : decode prog_14_method_70_code 6 = .ok (.istore_n 3, 1) := zo_62 (zd_b zq_prog_14_method_70_code_0 6 rfl rfl rfl)
theorem d_Mm_has_0_7 : decode prog_14_method_70_code 7 = .ok (.iload_n 0, 1) := zo_26 (zd_b zq_prog_14_method_70_code_0 7 rfl rfl rfl)
theorem d_Mm_has_0_8 : decode prog_14_method_70_code 8 = .ok (.bipush 112, 2) := zo_16 (d := 112) (zd_b zq_prog_14_method_70_code_0 8 rfl rfl rfl) (zd_b zq_prog_14_method_70_code_0 9 rfl rfl rfl) (by decide +kernel)
theorem d_Mm_has_0_10 : decode prog_14_method_70_code 10 = .ok (.iload_n 2, 1) := zo_28 (zd_b zq_prog_14_method_70_code_0 10 rfl rfl rfl)
theorem d_Mm_has_0_11 : decode prog_14_method_70_code 11 = .ok (.invokestatic 240, 3) := zo_184 (d := 0) (e := 240) (zd_b zq_prog_14_method_70_code_0 11 rfl rfl rfl) (zd_b zq_prog_14_method_70_code_0 12 rfl rfl rfl) (zd_b zq_prog_14_method_70_code_0 13 rfl rfl rfl)
theorem ok_Mm_has_0_Mm_tenths : z_ok M_Mm_has_0 M_Mm_tenths 2 := ⟨z_mj8 (i := 156) rfl (by decide +kernel), rfl, ⟨by decide +kernel, by decide +kernel, by decide +kernel⟩, ⟨by decide, by decide⟩, z_mj1 (i := 14) rfl (by decide +kernel), rfl⟩
theorem d_Mm_has_0_14 : decode prog_14_method_70_code 14 = .ok (.imul, 1) := zo_104 (zd_b zq_prog_14_method_70_code_0 14 rfl rfl rfl)
theorem d_Mm_has_0_15 : decode prog_14_method_70_code 15 = .ok (.iload_n 3, 1) := zo_29 (zd_b zq_prog_14_method_70_code_0 15 rfl rfl rfl)
theorem d_Mm_has_0_16 : decode prog_14_method_70_code 16 = .ok (.bipush 115, 2) := zo_16 (d := 115) (zd_b zq_prog_14_method_70_code_0 16 rfl rfl rfl) (zd_b zq_prog_14_method_70_code_0 17 rfl rfl rfl) (by decide +kernel)
theorem d_Mm_has_0_18 : decode prog_14_method_70_code 18 = .ok (.iload_n 2, 1) := zo_28 (zd_b zq_prog_14_method_70_code_0 18 rfl rfl rfl)
theorem d_Mm_has_0_19 : decode prog_14_method_70_code 19 = .ok (.invokestatic 240, 3) := zo_184 (d := 0) (e := 240) (zd_b zq_prog_14_method_70_code_0 19 rfl rfl rfl) (zd_b zq_prog_14_method_70_code_0 20 rfl rfl rfl) (zd_b zq_prog_14_method_70_code_0 21 rfl rfl rfl)
theorem d_Mm_has_0_22 : decode prog_14_method_70_code 22 = .ok (.imul, 1) := zo_104 (zd_b zq_prog_14_method_70_code_0 22 rfl rfl rfl)
theorem d_Mm_has_0_23 : decode prog_14_method_70_code 23 = .ok (.iadd, 1) := zo_96 (zd_b zq_prog_14_method_70_code_0 23 rfl rfl rfl)
theorem d_Mm_has_0_24 : decode prog_14_method_70_code 24 = .ok (.iload_n 1, 1) := zo_27 (zd_b zq_prog_14_method_70_code_0 24 rfl rfl rfl)
theorem d_Mm_has_0_25 : decode prog_14_method_70_code 25 = .ok (.bipush 102, 2) := zo_16 (d := 102) (zd_b zq_prog_14_method_70_code_0 25 rfl rfl rfl) (zd_b zq_prog_14_method_70_code_0 26 rfl rfl rfl) (by decide +kernel)
theorem d_Mm_has_0_27 : decode prog_14_method_70_code 27 = .ok (.iload_n 2, 1) := zo_28 (zd_b zq_prog_14_method_70_code_0 27 rfl rfl rfl)
theorem d_Mm_has_0_28 : decode prog_14_method_70_code 28 = .ok (.invokestatic 240, 3) := zo_184 (d := 0) (e := 240) (zd_b zq_prog_14_method_70_code_0 28 rfl rfl rfl) (zd_b zq_prog_14_method_70_code_0 29 rfl rfl rfl) (zd_b zq_prog_14_method_70_code_0 30 rfl rfl rfl)
theorem d_Mm_has_0_31 : decode prog_14_method_70_code 31 = .ok (.imul, 1) := zo_104 (zd_b zq_prog_14_method_70_code_0 31 rfl rfl rfl)
theorem d_Mm_has_0_32 : decode prog_14_method_70_code 32 = .ok (.iadd, 1) := zo_96 (zd_b zq_prog_14_method_70_code_1 0 rfl rfl rfl)
theorem d_Mm_has_0_33 : decode prog_14_method_70_code 33 = .ok (.bipush 100, 2) := zo_16 (d := 100) (zd_b zq_prog_14_method_70_code_1 1 rfl rfl rfl) (zd_b zq_prog_14_method_70_code_1 2 rfl rfl rfl) (by decide +kernel)
theorem d_Mm_has_0_35 : decode prog_14_method_70_code 35 = .ok (.idiv, 1) := zo_108 (zd_b zq_prog_14_method_70_code_1 3 rfl rfl rfl)
theorem d_Mm_has_0_36 : decode prog_14_method_70_code 36 = .ok (.ireturn, 1) := zo_172 (zd_b zq_prog_14_method_70_code_1 4 rfl rfl rfl)
set_option maxHeartbeats 4000000 in
set_option maxRecDepth 100000 in
theorem C_Mm_hasP0 (g : zG) (P A : Nat) (hPA : P + A ≤ 100) : CT g M_Mm_has_0 [.int (nI P), .int (nI A), .int 0] [] (fun o cs1 => o = .inl (some (.int (ctS 0 (nI P) (nI (100 - P - A)) (nI A)))) ∧ cs1 = []) 0 0 := by
  refine z_of (by decide) rfl (Nat.le_of_ble_eq_true rfl) (fun w0 => ?_)
  refine r_lvE (lv2 := [(0, .int (nI P)), (1, .int (nI A)), (2, .int 0)]) rfl ?_
  refine r_bipush d_Mm_has_0_0 (v := 100) (by decide) ?_
  refine r_iload_n d_Mm_has_0_2 rfl 0 rfl ?_
  refine r_isub d_Mm_has_0_3 (v := nI (100 - P)) (pk_sub (a := 100) (by omega)) ?_
  refine r_iload_n d_Mm_has_0_4 rfl 1 rfl ?_
  refine r_isub d_Mm_has_0_5 (v := nI (100 - P - A)) (pk_sub (by omega)) ?_
  refine r_istore_n (lv' := [(3, .int (nI (100 - P - A))), (0, .int (nI P)), (1, .int (nI A)), (2, .int 0)]) d_Mm_has_0_6 rfl (by decide) rfl ?_
  refine r_iload_n d_Mm_has_0_7 rfl 1 rfl ?_
  refine r_bipush d_Mm_has_0_8 (v := 112) (by decide) ?_
  refine r_iload_n d_Mm_has_0_10 rfl 3 rfl ?_
  refine r_callS (As := [.int 112, .int 0]) (rest := [.int (nI P)]) (csC := []) (is := []) ln_Mm_240 w_st_Mm_tenths ok_Mm_has_0_Mm_tenths d_Mm_has_0_11 (C_Mm_tenths112_0 g) rfl rfl (Nat.le_of_ble_eq_true rfl) rfl (by decide) (by omega) (by omega) (fun E cs1 hx => ?_) (fun v cs1 hx => ?_)
  · exact absurd hx.1 (by simp)
  · obtain ⟨e1, rfl⟩ := hx
    cases e1
    refine ⟨rfl, ?_⟩
    refine r_st (st2 := [.int 420, .int (nI P)]) rfl ?_
    refine r_cs (cs2 := []) rfl ?_
    refine r_imul d_Mm_has_0_14 (v := nI (P * 420)) (pk_mul _ _) ?_
    refine r_iload_n d_Mm_has_0_15 rfl 0 rfl ?_
    refine r_bipush d_Mm_has_0_16 (v := 115) (by decide) ?_
    refine r_iload_n d_Mm_has_0_18 rfl 3 rfl ?_
    refine r_callS (As := [.int 115, .int 0]) (rest := [.int (nI (100 - P - A)), .int (nI (P * 420))]) (csC := []) (is := []) ln_Mm_240 w_st_Mm_tenths ok_Mm_has_0_Mm_tenths d_Mm_has_0_19 (C_Mm_tenths115_0 g) rfl rfl (Nat.le_of_ble_eq_true rfl) rfl (by decide) (by omega) (by omega) (fun E cs1 hx => ?_) (fun v cs1 hx => ?_)
    · exact absurd hx.1 (by simp)
    · obtain ⟨e1, rfl⟩ := hx
      cases e1
      refine ⟨rfl, ?_⟩
      refine r_st (st2 := [.int 20, .int (nI (100 - P - A)), .int (nI (P * 420))]) rfl ?_
      refine r_cs (cs2 := []) rfl ?_
      refine r_imul d_Mm_has_0_22 (v := nI ((100 - P - A) * 20)) (pk_mul _ _) ?_
      refine r_iadd d_Mm_has_0_23 (v := nI ((P * 420) + ((100 - P - A) * 20))) (nI_add _ _) ?_
      refine r_iload_n d_Mm_has_0_24 rfl 2 rfl ?_
      refine r_bipush d_Mm_has_0_25 (v := 102) (by decide) ?_
      refine r_iload_n d_Mm_has_0_27 rfl 3 rfl ?_
      refine r_callS (As := [.int 102, .int 0]) (rest := [.int (nI A), .int (nI ((P * 420) + ((100 - P - A) * 20)))]) (csC := []) (is := []) ln_Mm_240 w_st_Mm_tenths ok_Mm_has_0_Mm_tenths d_Mm_has_0_28 (C_Mm_tenths102_0 g) rfl rfl (Nat.le_of_ble_eq_true rfl) rfl (by decide) (by omega) (by omega) (fun E cs1 hx => ?_) (fun v cs1 hx => ?_)
      · exact absurd hx.1 (by simp)
      · obtain ⟨e1, rfl⟩ := hx
        cases e1
        refine ⟨rfl, ?_⟩
        refine r_st (st2 := [.int 1, .int (nI A), .int (nI ((P * 420) + ((100 - P - A) * 20)))]) rfl ?_
        refine r_cs (cs2 := []) rfl ?_
        refine r_imul d_Mm_has_0_31 (v := nI (A * 1)) (pk_mul _ _) ?_
        refine r_iadd d_Mm_has_0_32 (v := nI (((P * 420) + ((100 - P - A) * 20)) + (A * 1))) (nI_add _ _) ?_
        refine r_bipush d_Mm_has_0_33 (v := 100) (by decide) ?_
        refine r_idiv d_Mm_has_0_35 (v := ctS 0 (nI P) (nI (100 - P - A)) (nI A)) (by decide) (ctS_0 _ _ _) ?_
        refine r_iret d_Mm_has_0_36 rfl rfl ?_
        exact ⟨rfl, rfl⟩
set_option maxHeartbeats 4000000 in
set_option maxRecDepth 100000 in
theorem C_Mm_hasP1 (g : zG) (P A : Nat) (hPA : P + A ≤ 100) : CT g M_Mm_has_0 [.int (nI P), .int (nI A), .int 1] [] (fun o cs1 => o = .inl (some (.int (ctS 1 (nI P) (nI (100 - P - A)) (nI A)))) ∧ cs1 = []) 0 0 := by
  refine z_of (by decide) rfl (Nat.le_of_ble_eq_true rfl) (fun w0 => ?_)
  refine r_lvE (lv2 := [(0, .int (nI P)), (1, .int (nI A)), (2, .int 1)]) rfl ?_
  refine r_bipush d_Mm_has_0_0 (v := 100) (by decide) ?_
  refine r_iload_n d_Mm_has_0_2 rfl 0 rfl ?_
  refine r_isub d_Mm_has_0_3 (v := nI (100 - P)) (pk_sub (a := 100) (by omega)) ?_
  refine r_iload_n d_Mm_has_0_4 rfl 1 rfl ?_
  refine r_isub d_Mm_has_0_5 (v := nI (100 - P - A)) (pk_sub (by omega)) ?_
  refine r_istore_n (lv' := [(3, .int (nI (100 - P - A))), (0, .int (nI P)), (1, .int (nI A)), (2, .int 1)]) d_Mm_has_0_6 rfl (by decide) rfl ?_
  refine r_iload_n d_Mm_has_0_7 rfl 1 rfl ?_
  refine r_bipush d_Mm_has_0_8 (v := 112) (by decide) ?_
  refine r_iload_n d_Mm_has_0_10 rfl 3 rfl ?_
  refine r_callS (As := [.int 112, .int 1]) (rest := [.int (nI P)]) (csC := []) (is := []) ln_Mm_240 w_st_Mm_tenths ok_Mm_has_0_Mm_tenths d_Mm_has_0_11 (C_Mm_tenths112_1 g) rfl rfl (Nat.le_of_ble_eq_true rfl) rfl (by decide) (by omega) (by omega) (fun E cs1 hx => ?_) (fun v cs1 hx => ?_)
  · exact absurd hx.1 (by simp)
  · obtain ⟨e1, rfl⟩ := hx
    cases e1
    refine ⟨rfl, ?_⟩
    refine r_st (st2 := [.int 100, .int (nI P)]) rfl ?_
    refine r_cs (cs2 := []) rfl ?_
    refine r_imul d_Mm_has_0_14 (v := nI (P * 100)) (pk_mul _ _) ?_
    refine r_iload_n d_Mm_has_0_15 rfl 0 rfl ?_
    refine r_bipush d_Mm_has_0_16 (v := 115) (by decide) ?_
    refine r_iload_n d_Mm_has_0_18 rfl 3 rfl ?_
    refine r_callS (As := [.int 115, .int 1]) (rest := [.int (nI (100 - P - A)), .int (nI (P * 100))]) (csC := []) (is := []) ln_Mm_240 w_st_Mm_tenths ok_Mm_has_0_Mm_tenths d_Mm_has_0_19 (C_Mm_tenths115_1 g) rfl rfl (Nat.le_of_ble_eq_true rfl) rfl (by decide) (by omega) (by omega) (fun E cs1 hx => ?_) (fun v cs1 hx => ?_)
    · exact absurd hx.1 (by simp)
    · obtain ⟨e1, rfl⟩ := hx
      cases e1
      refine ⟨rfl, ?_⟩
      refine r_st (st2 := [.int 30, .int (nI (100 - P - A)), .int (nI (P * 100))]) rfl ?_
      refine r_cs (cs2 := []) rfl ?_
      refine r_imul d_Mm_has_0_22 (v := nI ((100 - P - A) * 30)) (pk_mul _ _) ?_
      refine r_iadd d_Mm_has_0_23 (v := nI ((P * 100) + ((100 - P - A) * 30))) (nI_add _ _) ?_
      refine r_iload_n d_Mm_has_0_24 rfl 2 rfl ?_
      refine r_bipush d_Mm_has_0_25 (v := 102) (by decide) ?_
      refine r_iload_n d_Mm_has_0_27 rfl 3 rfl ?_
      refine r_callS (As := [.int 102, .int 1]) (rest := [.int (nI A), .int (nI ((P * 100) + ((100 - P - A) * 30)))]) (csC := []) (is := []) ln_Mm_240 w_st_Mm_tenths ok_Mm_has_0_Mm_tenths d_Mm_has_0_28 (C_Mm_tenths102_1 g) rfl rfl (Nat.le_of_ble_eq_true rfl) rfl (by decide) (by omega) (by omega) (fun E cs1 hx => ?_) (fun v cs1 hx => ?_)
      · exact absurd hx.1 (by simp)
      · obtain ⟨e1, rfl⟩ := hx
        cases e1
        refine ⟨rfl, ?_⟩
        refine r_st (st2 := [.int 750, .int (nI A), .int (nI ((P * 100) + ((100 - P - A) * 30)))]) rfl ?_
        refine r_cs (cs2 := []) rfl ?_
        refine r_imul d_Mm_has_0_31 (v := nI (A * 750)) (pk_mul _ _) ?_
        refine r_iadd d_Mm_has_0_32 (v := nI (((P * 100) + ((100 - P - A) * 30)) + (A * 750))) (nI_add _ _) ?_
        refine r_bipush d_Mm_has_0_33 (v := 100) (by decide) ?_
        refine r_idiv d_Mm_has_0_35 (v := ctS 1 (nI P) (nI (100 - P - A)) (nI A)) (by decide) (ctS_1 _ _ _) ?_
        refine r_iret d_Mm_has_0_36 rfl rfl ?_
        exact ⟨rfl, rfl⟩
abbrev M_Mm_leastCost : zM := (⟨"IronpourModel", "leastCost", "(IIIIII)I"⟩, prog_14_method_71_code, 15, (Option.some FieldType.int), 3, 64, [])
theorem d_Mm_leastCost_0 : decode prog_14_method_71_code 0 = .ok (.aload_n 0, 1) := zo_42 (zd_b zq_prog_14_method_71_code_0 0 rfl rfl rfl)
theorem d_Mm_leastCost_1 : decode prog_14_method_71_code 1 = .ok (.iconst 0, 1) := zo_3 (zd_b zq_prog_14_method_71_code_0 1 rfl rfl rfl)
theorem d_Mm_leastCost_2 : decode prog_14_method_71_code 2 = .ok (.putfield 84, 3) := zo_181 (d := 0) (e := 84) (zd_b zq_prog_14_method_71_code_0 2 rfl rfl rfl) (zd_b zq_prog_14_method_71_code_0 3 rfl rfl rfl) (zd_b zq_prog_14_method_71_code_0 4 rfl rfl rfl)
theorem d_Mm_leastCost_5 : decode prog_14_method_71_code 5 = .ok (.iload_n 1, 1) := zo_27 (zd_b zq_prog_14_method_71_code_0 5 rfl rfl rfl)
theorem d_Mm_leastCost_6 : decode prog_14_method_71_code 6 = .ok (.iconst 0, 1) := zo_3 (zd_b zq_prog_14_method_71_code_0 6 rfl rfl rfl)
theorem d_Mm_leastCost_7 : decode prog_14_method_71_code 7 = .ok (.sipush 450, 3) := zo_17 (d := 1) (e := 194) (zd_b zq_prog_14_method_71_code_0 7 rfl rfl rfl) (zd_b zq_prog_14_method_71_code_0 8 rfl rfl rfl) (zd_b zq_prog_14_method_71_code_0 9 rfl rfl rfl) (by decide +kernel)
theorem d_Mm_leastCost_10 : decode prog_14_method_71_code 10 = .ok (.invokestatic 87, 3) := zo_184 (d := 0) (e := 87) (zd_b zq_prog_14_method_71_code_0 10 rfl rfl rfl) (zd_b zq_prog_14_method_71_code_0 11 rfl rfl rfl) (zd_b zq_prog_14_method_71_code_0 12 rfl rfl rfl)
theorem ok_Mm_leastCost_Mm_in : z_ok M_Mm_leastCost M_Mm_in 3 := ⟨z_mj7 (i := 190) rfl (by decide +kernel), rfl, ⟨by decide +kernel, by decide +kernel, by decide +kernel⟩, ⟨by decide, by decide⟩, z_mj1 (i := 14) rfl (by decide +kernel), rfl⟩
theorem d_Mm_leastCost_13 : decode prog_14_method_71_code 13 = .ok (.ifCond .eq 34, 3) := zo_153 (d := 0) (e := 34) (zd_b zq_prog_14_method_71_code_0 13 rfl rfl rfl) (zd_b zq_prog_14_method_71_code_0 14 rfl rfl rfl) (zd_b zq_prog_14_method_71_code_0 15 rfl rfl rfl) (by decide +kernel)
theorem d_Mm_leastCost_47 : decode prog_14_method_71_code 47 = .ok (.iconst 0, 1) := zo_3 (zd_b zq_prog_14_method_71_code_1 15 rfl rfl rfl)
theorem d_Mm_leastCost_48 : decode prog_14_method_71_code 48 = .ok (.istore 7, 2) := zo_54 (d := 7) (zd_b zq_prog_14_method_71_code_1 16 rfl rfl rfl) (zd_b zq_prog_14_method_71_code_1 17 rfl rfl rfl)
theorem d_Mm_leastCost_50 : decode prog_14_method_71_code 50 = .ok (.aload_n 0, 1) := zo_42 (zd_b zq_prog_14_method_71_code_1 18 rfl rfl rfl)
theorem d_Mm_leastCost_51 : decode prog_14_method_71_code 51 = .ok (.iload 7, 2) := zo_21 (d := 7) (zd_b zq_prog_14_method_71_code_1 19 rfl rfl rfl) (zd_b zq_prog_14_method_71_code_1 20 rfl rfl rfl)
theorem d_Mm_leastCost_53 : decode prog_14_method_71_code 53 = .ok (.ifCond .eq 39, 3) := zo_153 (d := 0) (e := 39) (zd_b zq_prog_14_method_71_code_1 21 rfl rfl rfl) (zd_b zq_prog_14_method_71_code_1 22 rfl rfl rfl) (zd_b zq_prog_14_method_71_code_1 23 rfl rfl rfl) (by decide +kernel)
theorem d_Mm_leastCost_92 : decode prog_14_method_71_code 92 = .ok (.iconst 1, 1) := zo_4 (zd_b zq_prog_14_method_71_code_2 28 rfl rfl rfl)
theorem d_Mm_leastCost_93 : decode prog_14_method_71_code 93 = .ok (.goto 4, 3) := zo_167 (d := 0) (e := 4) (zd_b zq_prog_14_method_71_code_2 29 rfl rfl rfl) (zd_b zq_prog_14_method_71_code_2 30 rfl rfl rfl) (zd_b zq_prog_14_method_71_code_2 31 rfl rfl rfl) (by decide +kernel)
theorem d_Mm_leastCost_97 : decode prog_14_method_71_code 97 = .ok (.iconst 1, 1) := zo_4 (zd_b zq_prog_14_method_71_code_3 1 rfl rfl rfl)
theorem d_Mm_leastCost_98 : decode prog_14_method_71_code 98 = .ok (.invokevirtual 103, 3) := zo_182 (d := 0) (e := 103) (zd_b zq_prog_14_method_71_code_3 2 rfl rfl rfl) (zd_b zq_prog_14_method_71_code_3 3 rfl rfl rfl) (zd_b zq_prog_14_method_71_code_3 4 rfl rfl rfl)
theorem ok_Mm_leastCost_Mm_fails : z_ok M_Mm_leastCost M_Mm_fails 2 := ⟨z_mj7 (i := 196) rfl (by decide +kernel), rfl, ⟨by decide +kernel, by decide +kernel, by decide +kernel⟩, ⟨by decide, by decide⟩, z_mj1 (i := 14) rfl (by decide +kernel), rfl⟩
theorem d_Mm_leastCost_101 : decode prog_14_method_71_code 101 = .ok (.ifCond .eq 5, 3) := zo_153 (d := 0) (e := 5) (zd_b zq_prog_14_method_71_code_3 5 rfl rfl rfl) (zd_b zq_prog_14_method_71_code_3 6 rfl rfl rfl) (zd_b zq_prog_14_method_71_code_3 7 rfl rfl rfl) (by decide +kernel)
theorem d_Mm_leastCost_104 : decode prog_14_method_71_code 104 = .ok (.iconst 0, 1) := zo_3 (zd_b zq_prog_14_method_71_code_3 8 rfl rfl rfl)
theorem d_Mm_leastCost_105 : decode prog_14_method_71_code 105 = .ok (.ireturn, 1) := zo_172 (zd_b zq_prog_14_method_71_code_3 9 rfl rfl rfl)
theorem d_Mm_leastCost_16 : decode prog_14_method_71_code 16 = .ok (.iload_n 2, 1) := zo_28 (zd_b zq_prog_14_method_71_code_0 16 rfl rfl rfl)
theorem d_Mm_leastCost_17 : decode prog_14_method_71_code 17 = .ok (.iconst 0, 1) := zo_3 (zd_b zq_prog_14_method_71_code_0 17 rfl rfl rfl)
theorem d_Mm_leastCost_18 : decode prog_14_method_71_code 18 = .ok (.sipush 450, 3) := zo_17 (d := 1) (e := 194) (zd_b zq_prog_14_method_71_code_0 18 rfl rfl rfl) (zd_b zq_prog_14_method_71_code_0 19 rfl rfl rfl) (zd_b zq_prog_14_method_71_code_0 20 rfl rfl rfl) (by decide +kernel)
theorem d_Mm_leastCost_21 : decode prog_14_method_71_code 21 = .ok (.invokestatic 87, 3) := zo_184 (d := 0) (e := 87) (zd_b zq_prog_14_method_71_code_0 21 rfl rfl rfl) (zd_b zq_prog_14_method_71_code_0 22 rfl rfl rfl) (zd_b zq_prog_14_method_71_code_0 23 rfl rfl rfl)
theorem d_Mm_leastCost_24 : decode prog_14_method_71_code 24 = .ok (.ifCond .eq 23, 3) := zo_153 (d := 0) (e := 23) (zd_b zq_prog_14_method_71_code_0 24 rfl rfl rfl) (zd_b zq_prog_14_method_71_code_0 25 rfl rfl rfl) (zd_b zq_prog_14_method_71_code_0 26 rfl rfl rfl) (by decide +kernel)
theorem d_Mm_leastCost_27 : decode prog_14_method_71_code 27 = .ok (.iload_n 3, 1) := zo_29 (zd_b zq_prog_14_method_71_code_0 27 rfl rfl rfl)
theorem d_Mm_leastCost_28 : decode prog_14_method_71_code 28 = .ok (.iconst 0, 1) := zo_3 (zd_b zq_prog_14_method_71_code_0 28 rfl rfl rfl)
theorem d_Mm_leastCost_29 : decode prog_14_method_71_code 29 = .ok (.sipush 450, 3) := zo_17 (d := 1) (e := 194) (zd_b zq_prog_14_method_71_code_0 29 rfl rfl rfl) (zd_b zq_prog_14_method_71_code_0 30 rfl rfl rfl) (zd_b zq_prog_14_method_71_code_0 31 rfl rfl rfl) (by decide +kernel)
theorem d_Mm_leastCost_32 : decode prog_14_method_71_code 32 = .ok (.invokestatic 87, 3) := zo_184 (d := 0) (e := 87) (zd_b zq_prog_14_method_71_code_1 0 rfl rfl rfl) (zd_b zq_prog_14_method_71_code_1 1 rfl rfl rfl) (zd_b zq_prog_14_method_71_code_1 2 rfl rfl rfl)
theorem d_Mm_leastCost_35 : decode prog_14_method_71_code 35 = .ok (.ifCond .eq 12, 3) := zo_153 (d := 0) (e := 12) (zd_b zq_prog_14_method_71_code_1 3 rfl rfl rfl) (zd_b zq_prog_14_method_71_code_1 4 rfl rfl rfl) (zd_b zq_prog_14_method_71_code_1 5 rfl rfl rfl) (by decide +kernel)
theorem d_Mm_leastCost_38 : decode prog_14_method_71_code 38 = .ok (.iload_n 2, 1) := zo_28 (zd_b zq_prog_14_method_71_code_1 6 rfl rfl rfl)
theorem d_Mm_leastCost_39 : decode prog_14_method_71_code 39 = .ok (.iload_n 1, 1) := zo_27 (zd_b zq_prog_14_method_71_code_1 7 rfl rfl rfl)
theorem d_Mm_leastCost_40 : decode prog_14_method_71_code 40 = .ok (.if_icmp .lt 7, 3) := zo_161 (d := 0) (e := 7) (zd_b zq_prog_14_method_71_code_1 8 rfl rfl rfl) (zd_b zq_prog_14_method_71_code_1 9 rfl rfl rfl) (zd_b zq_prog_14_method_71_code_1 10 rfl rfl rfl) (by decide +kernel)
theorem d_Mm_leastCost_43 : decode prog_14_method_71_code 43 = .ok (.iconst 1, 1) := zo_4 (zd_b zq_prog_14_method_71_code_1 11 rfl rfl rfl)
theorem d_Mm_leastCost_44 : decode prog_14_method_71_code 44 = .ok (.goto 4, 3) := zo_167 (d := 0) (e := 4) (zd_b zq_prog_14_method_71_code_1 12 rfl rfl rfl) (zd_b zq_prog_14_method_71_code_1 13 rfl rfl rfl) (zd_b zq_prog_14_method_71_code_1 14 rfl rfl rfl) (by decide +kernel)
theorem d_Mm_leastCost_56 : decode prog_14_method_71_code 56 = .ok (.iload 4, 2) := zo_21 (d := 4) (zd_b zq_prog_14_method_71_code_1 24 rfl rfl rfl) (zd_b zq_prog_14_method_71_code_1 25 rfl rfl rfl)
theorem d_Mm_leastCost_58 : decode prog_14_method_71_code 58 = .ok (.iconst 1, 1) := zo_4 (zd_b zq_prog_14_method_71_code_1 26 rfl rfl rfl)
theorem d_Mm_leastCost_59 : decode prog_14_method_71_code 59 = .ok (.sipush 1000, 3) := zo_17 (d := 3) (e := 232) (zd_b zq_prog_14_method_71_code_1 27 rfl rfl rfl) (zd_b zq_prog_14_method_71_code_1 28 rfl rfl rfl) (zd_b zq_prog_14_method_71_code_1 29 rfl rfl rfl) (by decide +kernel)
theorem d_Mm_leastCost_62 : decode prog_14_method_71_code 62 = .ok (.invokestatic 87, 3) := zo_184 (d := 0) (e := 87) (zd_b zq_prog_14_method_71_code_1 30 rfl rfl rfl) (zd_b zq_prog_14_method_71_code_1 31 rfl rfl rfl) (zd_b zq_prog_14_method_71_code_2 0 rfl rfl rfl)
theorem d_Mm_leastCost_65 : decode prog_14_method_71_code 65 = .ok (.ifCond .eq 27, 3) := zo_153 (d := 0) (e := 27) (zd_b zq_prog_14_method_71_code_2 1 rfl rfl rfl) (zd_b zq_prog_14_method_71_code_2 2 rfl rfl rfl) (zd_b zq_prog_14_method_71_code_2 3 rfl rfl rfl) (by decide +kernel)
theorem d_Mm_leastCost_68 : decode prog_14_method_71_code 68 = .ok (.iload 5, 2) := zo_21 (d := 5) (zd_b zq_prog_14_method_71_code_2 4 rfl rfl rfl) (zd_b zq_prog_14_method_71_code_2 5 rfl rfl rfl)
theorem d_Mm_leastCost_70 : decode prog_14_method_71_code 70 = .ok (.iconst 1, 1) := zo_4 (zd_b zq_prog_14_method_71_code_2 6 rfl rfl rfl)
theorem d_Mm_leastCost_71 : decode prog_14_method_71_code 71 = .ok (.sipush 1000, 3) := zo_17 (d := 3) (e := 232) (zd_b zq_prog_14_method_71_code_2 7 rfl rfl rfl) (zd_b zq_prog_14_method_71_code_2 8 rfl rfl rfl) (zd_b zq_prog_14_method_71_code_2 9 rfl rfl rfl) (by decide +kernel)
theorem d_Mm_leastCost_74 : decode prog_14_method_71_code 74 = .ok (.invokestatic 87, 3) := zo_184 (d := 0) (e := 87) (zd_b zq_prog_14_method_71_code_2 10 rfl rfl rfl) (zd_b zq_prog_14_method_71_code_2 11 rfl rfl rfl) (zd_b zq_prog_14_method_71_code_2 12 rfl rfl rfl)
theorem d_Mm_leastCost_77 : decode prog_14_method_71_code 77 = .ok (.ifCond .eq 15, 3) := zo_153 (d := 0) (e := 15) (zd_b zq_prog_14_method_71_code_2 13 rfl rfl rfl) (zd_b zq_prog_14_method_71_code_2 14 rfl rfl rfl) (zd_b zq_prog_14_method_71_code_2 15 rfl rfl rfl) (by decide +kernel)
