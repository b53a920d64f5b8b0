def rtI (s : Int32) : Int32 := if s = 1 then -1 else if s = 2 then 1 else 0
def dnI (s : Int32) : Int32 := if s = 0 then -1 else if s = 3 then 1 else 0
def inV (F : Nat → Int32) (x y : Int32) : Int32 := match z_cl x y with
  | some c => F c
  | none => -200001
theorem inV_s {F : Nat → Int32} {x y : Int32} {c : Nat} (h : z_cl x y = some c) : inV F x y = F c := by unfold inV; rw [h]
theorem inV_n {F : Nat → Int32} {x y : Int32} (h : z_cl x y = none) : inV F x y = -200001 := by unfold inV; rw [h]
theorem cl_nb : ∀ x, x < 12 → ∀ y, y < 9 → ∀ s, s < 4 → z_cl (nI x + rtI (nI s)) (nI y + dnI (nI s)) = bs (12 * y + x) s := by decide +kernel
theorem cl_in {x y : Nat} (hx : x < 12) (hy : y < 9) : z_cl (nI x) (nI y) = some (12 * y + x) := by
  unfold z_cl
  rw [if_pos ⟨nI_pos' (by omega), (nI_ltI (b := 12) (by omega) (by decide)).mpr hx, nI_pos' (by omega), (nI_ltI (b := 9) (by omega) (by decide)).mpr hy⟩, nI_clamp (by omega), nI_clamp (by omega)]
theorem z_byc : ∀ i, i < 6 → ∀ k, k < 7 → (z_by i).getD k 0 &&& 255 = (z_by i).getD k 0 ∧ (((z_by i).getD k 0).toUInt32 % 65536).toInt32 = (z_by i).getD k 0 := by decide +kernel
theorem nI_bv (v : Int32) : nI v.toBitVec.toNat = v := by
  apply Int32.toBitVec_inj.mp
  show BitVec.ofNat 32 v.toBitVec.toNat = v.toBitVec
  rw [BitVec.ofNat_toNat, BitVec.setWidth_eq]
theorem us_nn (v : Int32) : ∃ n : Nat, n < 2 ^ 24 ∧ z_us v 8 = nI n := by
  have hn : v.toBitVec.toNat < 2 ^ 32 := v.toBitVec.isLt
  refine ⟨v.toBitVec.toNat / 2 ^ 8, by omega, ?_⟩
  have h := pk_ushrN (n := v.toBitVec.toNat) hn 8 8 (by decide)
  rw [nI_bv] at h
  exact h
def slV (g : zG) (i : Nat) : Int32 := if i < g.2.2 41 then Int32.ofNat (g.2.2 (100 + i)) else 0
def clH (v : Int32) (i : Nat) : Int32 := ((69069 * (v + nI (1009 * i)) + 12345) ^^^ z_us (69069 * (v + nI (1009 * i)) + 12345) 13) * 1103515245
def clI (g : zG) (i : Nat) : Int32 := clH (slV g i) i ^^^ z_us (clH (slV g i) i) 16
def pkN (g : zG) (i m : Nat) : Nat := (z_us (clI g i) 8).toNatClampNeg % m
theorem pkN_lt {g : zG} {i m : Nat} (hm : 1 ≤ m) : pkN g i m < m := Nat.mod_lt _ (by omega)
theorem pick_m {v : Int32} {m : Nat} (hm : 1 ≤ m) (h9 : m < 1000) : z_us v 8 - z_us v 8 / nI m * nI m = nI ((z_us v 8).toNatClampNeg % m) := by
  obtain ⟨n, hn, e⟩ := us_nn v
  rw [e, nI_clamp (by omega)]
  exact pk_rem (by omega) (by omega) (by omega)
abbrev M_Lw_told : zM := (⟨"IronpourLaw", "told", "(Z)I"⟩, method_4_code, 1, (Option.some FieldType.int), 1, 20, [])
theorem d_Lw_told_0 : decode method_4_code 0 = .ok (.iload_n 0, 1) := zo_26 (zd_b zq_method_4_code_0 0 rfl rfl rfl)
theorem d_Lw_told_1 : decode method_4_code 1 = .ok (.ifCond .eq 7, 3) := zo_153 (d := 0) (e := 7) (zd_b zq_method_4_code_0 1 rfl rfl rfl) (zd_b zq_method_4_code_0 2 rfl rfl rfl) (zd_b zq_method_4_code_0 3 rfl rfl rfl) (by decide +kernel)
theorem d_Lw_told_8 : decode method_4_code 8 = .ok (.iconst 0, 1) := zo_3 (zd_b zq_method_4_code_0 8 rfl rfl rfl)
theorem d_Lw_told_9 : decode method_4_code 9 = .ok (.ireturn, 1) := zo_172 (zd_b zq_method_4_code_0 9 rfl rfl rfl)
theorem d_Lw_told_4 : decode method_4_code 4 = .ok (.iconst 1, 1) := zo_4 (zd_b zq_method_4_code_0 4 rfl rfl rfl)
theorem d_Lw_told_5 : decode method_4_code 5 = .ok (.goto 4, 3) := zo_167 (d := 0) (e := 4) (zd_b zq_method_4_code_0 5 rfl rfl rfl) (zd_b zq_method_4_code_0 6 rfl rfl rfl) (zd_b zq_method_4_code_0 7 rfl rfl rfl) (by decide +kernel)
set_option maxHeartbeats 4000000 in
set_option maxRecDepth 100000 in
theorem C_Lw_told (g : zG) (b : Int32) : CT g M_Lw_told [.int b] [] (fun o cs1 => o = .inl (some (.int (if b = 0 then 0 else 1))) ∧ cs1 = []) 0 0 := by
  refine z_of (by decide) rfl (Nat.le_of_ble_eq_true rfl) (fun w0 => ?_)
  refine r_lvE (lv2 := [(0, .int b)]) rfl ?_
  refine r_iload_n d_Lw_told_0 rfl 0 rfl ?_
  refine r_if_eq (tgt := 8) d_Lw_told_1 (by decide) (fun c_1 => ?_) (fun c_1 => ?_)
  · refine r_iconst d_Lw_told_8 (v := 0) (by decide) ?_
    refine r_iret d_Lw_told_9 rfl rfl ?_
    exact ⟨by rw [if_pos c_1], rfl⟩
  · refine r_iconst d_Lw_told_4 (v := 1) (by decide) ?_
    refine r_goto (tgt := 9) d_Lw_told_5 (by decide) ?_
    refine r_iret d_Lw_told_9 rfl rfl ?_
    exact ⟨by rw [if_neg c_1], rfl⟩
abbrev M_Lw_isMetal : zM := (⟨"IronpourLaw", "isMetal", "(C)Z"⟩, method_12_code, 1, (Option.some FieldType.boolean), 1, 20, [])
theorem d_Lw_isMetal_0 : decode method_12_code 0 = .ok (.iload_n 0, 1) := zo_26 (zd_b zq_method_12_code_0 0 rfl rfl rfl)
theorem d_Lw_isMetal_1 : decode method_12_code 1 = .ok (.bipush 99, 2) := zo_16 (d := 99) (zd_b zq_method_12_code_0 1 rfl rfl rfl) (zd_b zq_method_12_code_0 2 rfl rfl rfl) (by decide +kernel)
theorem d_Lw_isMetal_3 : decode method_12_code 3 = .ok (.if_icmp .eq 15, 3) := zo_159 (d := 0) (e := 15) (zd_b zq_method_12_code_0 3 rfl rfl rfl) (zd_b zq_method_12_code_0 4 rfl rfl rfl) (zd_b zq_method_12_code_0 5 rfl rfl rfl) (by decide +kernel)
theorem d_Lw_isMetal_18 : decode method_12_code 18 = .ok (.iconst 1, 1) := zo_4 (zd_b zq_method_12_code_0 18 rfl rfl rfl)
theorem d_Lw_isMetal_19 : decode method_12_code 19 = .ok (.goto 4, 3) := zo_167 (d := 0) (e := 4) (zd_b zq_method_12_code_0 19 rfl rfl rfl) (zd_b zq_method_12_code_0 20 rfl rfl rfl) (zd_b zq_method_12_code_0 21 rfl rfl rfl) (by decide +kernel)
theorem d_Lw_isMetal_23 : decode method_12_code 23 = .ok (.ireturn, 1) := zo_172 (zd_b zq_method_12_code_0 23 rfl rfl rfl)
theorem d_Lw_isMetal_6 : decode method_12_code 6 = .ok (.iload_n 0, 1) := zo_26 (zd_b zq_method_12_code_0 6 rfl rfl rfl)
theorem d_Lw_isMetal_7 : decode method_12_code 7 = .ok (.bipush 114, 2) := zo_16 (d := 114) (zd_b zq_method_12_code_0 7 rfl rfl rfl) (zd_b zq_method_12_code_0 8 rfl rfl rfl) (by decide +kernel)
theorem d_Lw_isMetal_9 : decode method_12_code 9 = .ok (.if_icmp .eq 9, 3) := zo_159 (d := 0) (e := 9) (zd_b zq_method_12_code_0 9 rfl rfl rfl) (zd_b zq_method_12_code_0 10 rfl rfl rfl) (zd_b zq_method_12_code_0 11 rfl rfl rfl) (by decide +kernel)
theorem d_Lw_isMetal_12 : decode method_12_code 12 = .ok (.iload_n 0, 1) := zo_26 (zd_b zq_method_12_code_0 12 rfl rfl rfl)
theorem d_Lw_isMetal_13 : decode method_12_code 13 = .ok (.bipush 103, 2) := zo_16 (d := 103) (zd_b zq_method_12_code_0 13 rfl rfl rfl) (zd_b zq_method_12_code_0 14 rfl rfl rfl) (by decide +kernel)
theorem d_Lw_isMetal_15 : decode method_12_code 15 = .ok (.if_icmp .ne 7, 3) := zo_160 (d := 0) (e := 7) (zd_b zq_method_12_code_0 15 rfl rfl rfl) (zd_b zq_method_12_code_0 16 rfl rfl rfl) (zd_b zq_method_12_code_0 17 rfl rfl rfl) (by decide +kernel)
theorem d_Lw_isMetal_22 : decode method_12_code 22 = .ok (.iconst 0, 1) := zo_3 (zd_b zq_method_12_code_0 22 rfl rfl rfl)
set_option maxHeartbeats 4000000 in
set_option maxRecDepth 100000 in
theorem C_Lw_isMetal (g : zG) (k : Int32) : CT g M_Lw_isMetal [.int k] [] (fun o cs1 => o = .inl (some (.int (z_bi (tmB k)))) ∧ cs1 = []) 0 0 := by
  refine z_of (by decide) rfl (Nat.le_of_ble_eq_true rfl) (fun w0 => ?_)
  refine r_lvE (lv2 := [(0, .int k)]) rfl ?_
  refine r_iload_n d_Lw_isMetal_0 rfl 0 rfl ?_
  refine r_bipush d_Lw_isMetal_1 (v := 99) (by decide) ?_
  refine r_icmp_eq (tgt := 18) d_Lw_isMetal_3 (by decide) (fun c_3 => ?_) (fun c_3 => ?_)
  · refine r_iconst d_Lw_isMetal_18 (v := 1) (by decide) ?_
    refine r_goto (tgt := 23) d_Lw_isMetal_19 (by decide) ?_
    refine r_iret d_Lw_isMetal_23 rfl rfl ?_
    refine ⟨?_, rfl⟩
    simp_all [z_bi, tmB]
  · refine r_iload_n d_Lw_isMetal_6 rfl 0 rfl ?_
    refine r_bipush d_Lw_isMetal_7 (v := 114) (by decide) ?_
    refine r_icmp_eq (tgt := 18) d_Lw_isMetal_9 (by decide) (fun c_9 => ?_) (fun c_9 => ?_)
    · refine r_iconst d_Lw_isMetal_18 (v := 1) (by decide) ?_
      refine r_goto (tgt := 23) d_Lw_isMetal_19 (by decide) ?_
      refine r_iret d_Lw_isMetal_23 rfl rfl ?_
      refine ⟨?_, rfl⟩
      simp_all [z_bi, tmB]
    · refine r_iload_n d_Lw_isMetal_12 rfl 0 rfl ?_
      refine r_bipush d_Lw_isMetal_13 (v := 103) (by decide) ?_
      refine r_icmp_ne (tgt := 22) d_Lw_isMetal_15 (by decide) (fun c_15 => ?_) (fun c_15 => ?_)
      · refine r_iconst d_Lw_isMetal_22 (v := 0) (by decide) ?_
        refine r_iret d_Lw_isMetal_23 rfl rfl ?_
        refine ⟨?_, rfl⟩
        simp_all [z_bi, tmB]
      · refine r_iconst d_Lw_isMetal_18 (v := 1) (by decide) ?_
        refine r_goto (tgt := 23) d_Lw_isMetal_19 (by decide) ?_
        refine r_iret d_Lw_isMetal_23 rfl rfl ?_
        refine ⟨?_, rfl⟩
        simp_all [z_bi, tmB]
abbrev M_Lw_right : zM := (⟨"IronpourLaw", "right", "(I)I"⟩, method_13_code, 1, (Option.some FieldType.int), 1, 20, [])
theorem d_Lw_right_0 : decode method_13_code 0 = .ok (.iload_n 0, 1) := zo_26 (zd_b zq_method_13_code_0 0 rfl rfl rfl)
theorem d_Lw_right_1 : decode method_13_code 1 = .ok (.iconst 1, 1) := zo_4 (zd_b zq_method_13_code_0 1 rfl rfl rfl)
theorem d_Lw_right_2 : decode method_13_code 2 = .ok (.if_icmp .ne 7, 3) := zo_160 (d := 0) (e := 7) (zd_b zq_method_13_code_0 2 rfl rfl rfl) (zd_b zq_method_13_code_0 3 rfl rfl rfl) (zd_b zq_method_13_code_0 4 rfl rfl rfl) (by decide +kernel)
theorem d_Lw_right_9 : decode method_13_code 9 = .ok (.iload_n 0, 1) := zo_26 (zd_b zq_method_13_code_0 9 rfl rfl rfl)
theorem d_Lw_right_10 : decode method_13_code 10 = .ok (.iconst 2, 1) := zo_5 (zd_b zq_method_13_code_0 10 rfl rfl rfl)
theorem d_Lw_right_11 : decode method_13_code 11 = .ok (.if_icmp .ne 7, 3) := zo_160 (d := 0) (e := 7) (zd_b zq_method_13_code_0 11 rfl rfl rfl) (zd_b zq_method_13_code_0 12 rfl rfl rfl) (zd_b zq_method_13_code_0 13 rfl rfl rfl) (by decide +kernel)
theorem d_Lw_right_18 : decode method_13_code 18 = .ok (.iconst 0, 1) := zo_3 (zd_b zq_method_13_code_0 18 rfl rfl rfl)
theorem d_Lw_right_19 : decode method_13_code 19 = .ok (.ireturn, 1) := zo_172 (zd_b zq_method_13_code_0 19 rfl rfl rfl)
theorem d_Lw_right_14 : decode method_13_code 14 = .ok (.iconst 1, 1) := zo_4 (zd_b zq_method_13_code_0 14 rfl rfl rfl)
theorem d_Lw_right_15 : decode method_13_code 15 = .ok (.goto 4, 3) := zo_167 (d := 0) (e := 4) (zd_b zq_method_13_code_0 15 rfl rfl rfl) (zd_b zq_method_13_code_0 16 rfl rfl rfl) (zd_b zq_method_13_code_0 17 rfl rfl rfl) (by decide +kernel)
theorem d_Lw_right_5 : decode method_13_code 5 = .ok (.iconst (-1), 1) := zo_2 (zd_b zq_method_13_code_0 5 rfl rfl rfl)
theorem d_Lw_right_6 : decode method_13_code 6 = .ok (.goto 13, 3) := zo_167 (d := 0) (e := 13) (zd_b zq_method_13_code_0 6 rfl rfl rfl) (zd_b zq_method_13_code_0 7 rfl rfl rfl) (zd_b zq_method_13_code_0 8 rfl rfl rfl) (by decide +kernel)
set_option maxHeartbeats 4000000 in
set_option maxRecDepth 100000 in
theorem C_Lw_right (g : zG) (s : Int32) : CT g M_Lw_right [.int s] [] (fun o cs1 => o = .inl (some (.int (rtI s))) ∧ cs1 = []) 0 0 := by
  refine z_of (by decide) rfl (Nat.le_of_ble_eq_true rfl) (fun w0 => ?_)
  refine r_lvE (lv2 := [(0, .int s)]) rfl ?_
  refine r_iload_n d_Lw_right_0 rfl 0 rfl ?_
  refine r_iconst d_Lw_right_1 (v := 1) (by decide) ?_
  refine r_icmp_ne (tgt := 9) d_Lw_right_2 (by decide) (fun c_2 => ?_) (fun c_2 => ?_)
  · refine r_iload_n d_Lw_right_9 rfl 0 rfl ?_
    refine r_iconst d_Lw_right_10 (v := 2) (by decide) ?_
    refine r_icmp_ne (tgt := 18) d_Lw_right_11 (by decide) (fun c_11 => ?_) (fun c_11 => ?_)
    · refine r_iconst d_Lw_right_18 (v := 0) (by decide) ?_
      refine r_iret d_Lw_right_19 rfl rfl ?_
      refine ⟨?_, rfl⟩
      simp_all [rtI]
    · refine r_iconst d_Lw_right_14 (v := 1) (by decide) ?_
      refine r_goto (tgt := 19) d_Lw_right_15 (by decide) ?_
      refine r_iret d_Lw_right_19 rfl rfl ?_
      refine ⟨?_, rfl⟩
      simp_all [rtI]
  · refine r_iconst d_Lw_right_5 (v := (-1)) (by decide) ?_
    refine r_goto (tgt := 19) d_Lw_right_6 (by decide) ?_
    refine r_iret d_Lw_right_19 rfl rfl ?_
    refine ⟨?_, rfl⟩
    simp_all [rtI]
abbrev M_Lw_down : zM := (⟨"IronpourLaw", "down", "(I)I"⟩, method_14_code, 1, (Option.some FieldType.int), 1, 20, [])
theorem d_Lw_down_0 : decode method_14_code 0 = .ok (.iload_n 0, 1) := zo_26 (zd_b zq_method_14_code_0 0 rfl rfl rfl)
theorem d_Lw_down_1 : decode method_14_code 1 = .ok (.ifCond .ne 7, 3) := zo_154 (d := 0) (e := 7) (zd_b zq_method_14_code_0 1 rfl rfl rfl) (zd_b zq_method_14_code_0 2 rfl rfl rfl) (zd_b zq_method_14_code_0 3 rfl rfl rfl) (by decide +kernel)
theorem d_Lw_down_8 : decode method_14_code 8 = .ok (.iload_n 0, 1) := zo_26 (zd_b zq_method_14_code_0 8 rfl rfl rfl)
theorem d_Lw_down_9 : decode method_14_code 9 = .ok (.iconst 3, 1) := zo_6 (zd_b zq_method_14_code_0 9 rfl rfl rfl)
theorem d_Lw_down_10 : decode method_14_code 10 = .ok (.if_icmp .ne 7, 3) := zo_160 (d := 0) (e := 7) (zd_b zq_method_14_code_0 10 rfl rfl rfl) (zd_b zq_method_14_code_0 11 rfl rfl rfl) (zd_b zq_method_14_code_0 12 rfl rfl rfl) (by decide +kernel)
theorem d_Lw_down_17 : decode method_14_code 17 = .ok (.iconst 0, 1) := zo_3 (zd_b zq_method_14_code_0 17 rfl rfl rfl)
theorem d_Lw_down_18 : decode method_14_code 18 = .ok (.ireturn, 1) := zo_172 (zd_b zq_method_14_code_0 18 rfl rfl rfl)
theorem d_Lw_down_13 : decode method_14_code 13 = .ok (.iconst 1, 1) := zo_4 (zd_b zq_method_14_code_0 13 rfl rfl rfl)
theorem d_Lw_down_14 : decode method_14_code 14 = .ok (.goto 4, 3) := zo_167 (d := 0) (e := 4) (zd_b zq_method_14_code_0 14 rfl rfl rfl) (zd_b zq_method_14_code_0 15 rfl rfl rfl) (zd_b zq_method_14_code_0 16 rfl rfl rfl) (by decide +kernel)
theorem d_Lw_down_4 : decode method_14_code 4 = .ok (.iconst (-1), 1) := zo_2 (zd_b zq_method_14_code_0 4 rfl rfl rfl)
theorem d_Lw_down_5 : decode method_14_code 5 = .ok (.goto 13, 3) := zo_167 (d := 0) (e := 13) (zd_b zq_method_14_code_0 5 rfl rfl rfl) (zd_b zq_method_14_code_0 6 rfl rfl rfl) (zd_b zq_method_14_code_0 7 rfl rfl rfl) (by decide +kernel)
set_option maxHeartbeats 4000000 in
set_option maxRecDepth 100000 in
theorem C_Lw_down (g : zG) (s : Int32) : CT g M_Lw_down [.int s] [] (fun o cs1 => o = .inl (some (.int (dnI s))) ∧ cs1 = []) 0 0 := by
  refine z_of (by decide) rfl (Nat.le_of_ble_eq_true rfl) (fun w0 => ?_)
  refine r_lvE (lv2 := [(0, .int s)]) rfl ?_
  refine r_iload_n d_Lw_down_0 rfl 0 rfl ?_
  refine r_if_ne (tgt := 8) d_Lw_down_1 (by decide) (fun c_1 => ?_) (fun c_1 => ?_)
  · refine r_iload_n d_Lw_down_8 rfl 0 rfl ?_
    refine r_iconst d_Lw_down_9 (v := 3) (by decide) ?_
    refine r_icmp_ne (tgt := 17) d_Lw_down_10 (by decide) (fun c_10 => ?_) (fun c_10 => ?_)
    · refine r_iconst d_Lw_down_17 (v := 0) (by decide) ?_
      refine r_iret d_Lw_down_18 rfl rfl ?_
      refine ⟨?_, rfl⟩
      simp_all [dnI]
    · refine r_iconst d_Lw_down_13 (v := 1) (by decide) ?_
      refine r_goto (tgt := 18) d_Lw_down_14 (by decide) ?_
      refine r_iret d_Lw_down_18 rfl rfl ?_
      refine ⟨?_, rfl⟩
      simp_all [dnI]
  · refine r_iconst d_Lw_down_4 (v := (-1)) (by decide) ?_
    refine r_goto (tgt := 18) d_Lw_down_5 (by decide) ?_
    refine r_iret d_Lw_down_18 rfl rfl ?_
    refine ⟨?_, rfl⟩
    simp_all [dnI]
abbrev M_Lw_in : zM := (⟨"IronpourLaw", "in", "([III)I"⟩, method_17_code, 3, (Option.some FieldType.int), 1, 20, [])
theorem d_Lw_in_0 : decode method_17_code 0 = .ok (.iload_n 1, 1) := zo_27 (zd_b zq_method_17_code_0 0 rfl rfl rfl)
theorem d_Lw_in_1 : decode method_17_code 1 = .ok (.ifCond .lt 30, 3) := zo_155 (d := 0) (e := 30) (zd_b zq_method_17_code_0 1 rfl rfl rfl) (zd_b zq_method_17_code_0 2 rfl rfl rfl) (zd_b zq_method_17_code_0 3 rfl rfl rfl) (by decide +kernel)
theorem d_Lw_in_31 : decode method_17_code 31 = .ok (.ldc 162, 2) := zo_18 (d := 162) (zd_b zq_method_17_code_0 31 rfl rfl rfl) (zd_b zq_method_17_code_1 0 rfl rfl rfl)
theorem ct_Lw_162 : Cond.constant "IronpourLaw" 162 (-200001) ∈ z_gw := z_mj6 (i := 132) rfl (by decide +kernel)
theorem d_Lw_in_33 : decode method_17_code 33 = .ok (.ireturn, 1) := zo_172 (zd_b zq_method_17_code_1 1 rfl rfl rfl)
theorem d_Lw_in_4 : decode method_17_code 4 = .ok (.iload_n 1, 1) := zo_27 (zd_b zq_method_17_code_0 4 rfl rfl rfl)
theorem d_Lw_in_5 : decode method_17_code 5 = .ok (.bipush 12, 2) := zo_16 (d := 12) (zd_b zq_method_17_code_0 5 rfl rfl rfl) (zd_b zq_method_17_code_0 6 rfl rfl rfl) (by decide +kernel)
theorem d_Lw_in_7 : decode method_17_code 7 = .ok (.if_icmp .ge 24, 3) := zo_162 (d := 0) (e := 24) (zd_b zq_method_17_code_0 7 rfl rfl rfl) (zd_b zq_method_17_code_0 8 rfl rfl rfl) (zd_b zq_method_17_code_0 9 rfl rfl rfl) (by decide +kernel)
theorem d_Lw_in_10 : decode method_17_code 10 = .ok (.iload_n 2, 1) := zo_28 (zd_b zq_method_17_code_0 10 rfl rfl rfl)
theorem d_Lw_in_11 : decode method_17_code 11 = .ok (.ifCond .lt 20, 3) := zo_155 (d := 0) (e := 20) (zd_b zq_method_17_code_0 11 rfl rfl rfl) (zd_b zq_method_17_code_0 12 rfl rfl rfl) (zd_b zq_method_17_code_0 13 rfl rfl rfl) (by decide +kernel)
theorem d_Lw_in_14 : decode method_17_code 14 = .ok (.iload_n 2, 1) := zo_28 (zd_b zq_method_17_code_0 14 rfl rfl rfl)
theorem d_Lw_in_15 : decode method_17_code 15 = .ok (.bipush 9, 2) := zo_16 (d := 9) (zd_b zq_method_17_code_0 15 rfl rfl rfl) (zd_b zq_method_17_code_0 16 rfl rfl rfl) (by decide +kernel)
theorem d_Lw_in_17 : decode method_17_code 17 = .ok (.if_icmp .ge 14, 3) := zo_162 (d := 0) (e := 14) (zd_b zq_method_17_code_0 17 rfl rfl rfl) (zd_b zq_method_17_code_0 18 rfl rfl rfl) (zd_b zq_method_17_code_0 19 rfl rfl rfl) (by decide +kernel)
theorem d_Lw_in_20 : decode method_17_code 20 = .ok (.aload_n 0, 1) := zo_42 (zd_b zq_method_17_code_0 20 rfl rfl rfl)
theorem d_Lw_in_21 : decode method_17_code 21 = .ok (.bipush 12, 2) := zo_16 (d := 12) (zd_b zq_method_17_code_0 21 rfl rfl rfl) (zd_b zq_method_17_code_0 22 rfl rfl rfl) (by decide +kernel)
theorem d_Lw_in_23 : decode method_17_code 23 = .ok (.iload_n 2, 1) := zo_28 (zd_b zq_method_17_code_0 23 rfl rfl rfl)
theorem d_Lw_in_24 : decode method_17_code 24 = .ok (.imul, 1) := zo_104 (zd_b zq_method_17_code_0 24 rfl rfl rfl)
theorem d_Lw_in_25 : decode method_17_code 25 = .ok (.iload_n 1, 1) := zo_27 (zd_b zq_method_17_code_0 25 rfl rfl rfl)
theorem d_Lw_in_26 : decode method_17_code 26 = .ok (.iadd, 1) := zo_96 (zd_b zq_method_17_code_0 26 rfl rfl rfl)
theorem d_Lw_in_27 : decode method_17_code 27 = .ok (.iaload, 1) := zo_46 (zd_b zq_method_17_code_0 27 rfl rfl rfl)
theorem d_Lw_in_28 : decode method_17_code 28 = .ok (.goto 5, 3) := zo_167 (d := 0) (e := 5) (zd_b zq_method_17_code_0 28 rfl rfl rfl) (zd_b zq_method_17_code_0 29 rfl rfl rfl) (zd_b zq_method_17_code_0 30 rfl rfl rfl) (by decide +kernel)
set_option maxHeartbeats 4000000 in
set_option maxRecDepth 100000 in
theorem C_Lw_in (g : zG) (b : Nat) (F : Nat → Int32) (x y : Int32) : CT g M_Lw_in [.ref b, .int x, .int y] [(b, .inl (0, 108, .inl F))] (fun o cs1 => o = .inl (some (.int (inV F x y))) ∧ cs1 = [(b, .inl (0, 108, .inl F))]) 0 0 := by
  refine z_of (by decide) rfl (Nat.le_of_ble_eq_true rfl) (fun w0 => ?_)
  refine r_lvE (lv2 := [(0, .ref b), (1, .int x), (2, .int y)]) rfl ?_
  refine r_iload_n d_Lw_in_0 rfl 1 rfl ?_
  refine r_if_lt (tgt := 31) d_Lw_in_1 (by decide) (fun c_1 => ?_) (fun c_1 => ?_)
  · have hz : z_cl x y = none := z_cl_no (fun q => absurd c_1 (Int32.not_lt.mpr q.1))
    refine r_ldc ct_Lw_162 d_Lw_in_31 ?_
    refine r_iret d_Lw_in_33 rfl rfl ?_
    exact ⟨by rw [inV_n hz], rfl⟩
  · refine r_iload_n d_Lw_in_4 rfl 1 rfl ?_
    refine r_bipush d_Lw_in_5 (v := 12) (by decide) ?_
    refine r_icmp_ge (tgt := 31) d_Lw_in_7 (by decide) (fun c_7 => ?_) (fun c_7 => ?_)
    · have hz : z_cl x y = none := z_cl_no (fun q => absurd q.2.1 (Int32.not_lt.mpr c_7))
      refine r_ldc ct_Lw_162 d_Lw_in_31 ?_
      refine r_iret d_Lw_in_33 rfl rfl ?_
      exact ⟨by rw [inV_n hz], rfl⟩
    · refine r_iload_n d_Lw_in_10 rfl 2 rfl ?_
      refine r_if_lt (tgt := 31) d_Lw_in_11 (by decide) (fun c_11 => ?_) (fun c_11 => ?_)
      · have hz : z_cl x y = none := z_cl_no (fun q => absurd c_11 (Int32.not_lt.mpr q.2.2.1))
        refine r_ldc ct_Lw_162 d_Lw_in_31 ?_
        refine r_iret d_Lw_in_33 rfl rfl ?_
        exact ⟨by rw [inV_n hz], rfl⟩
      · refine r_iload_n d_Lw_in_14 rfl 2 rfl ?_
        refine r_bipush d_Lw_in_15 (v := 9) (by decide) ?_
        refine r_icmp_ge (tgt := 31) d_Lw_in_17 (by decide) (fun c_17 => ?_) (fun c_17 => ?_)
        · have hz : z_cl x y = none := z_cl_no (fun q => absurd q.2.2.2 (Int32.not_lt.mpr c_17))
          refine r_ldc ct_Lw_162 d_Lw_in_31 ?_
          refine r_iret d_Lw_in_33 rfl rfl ?_
          exact ⟨by rw [inV_n hz], rfl⟩
        · obtain ⟨x0, y0, hx0, hy0, rfl, rfl, hz⟩ := z_cl_in (x := x) (y := y) ⟨Int32.not_lt.mp c_1, Int32.not_le.mp c_7, Int32.not_lt.mp c_11, Int32.not_le.mp c_17⟩
          refine r_aload_n d_Lw_in_20 rfl 0 rfl ?_
          refine r_bipush d_Lw_in_21 (v := 12) (by decide) ?_
          refine r_iload_n d_Lw_in_23 rfl 2 rfl ?_
          refine r_imul d_Lw_in_24 (v := nI (12 * y0)) (pk_mul _ _) ?_
          refine r_iload_n d_Lw_in_25 rfl 1 rfl ?_
          refine r_iadd d_Lw_in_26 (v := nI (12 * y0 + x0)) (nI_add _ _) ?_
          refine r_iald d_Lw_in_27 (q0 := 0) rfl (vp_in_nI (by omega) (by omega)) (v := F (12 * y0 + x0)) (by rw [nI_clamp (by omega)]) ?_
          refine r_goto (tgt := 33) d_Lw_in_28 (by decide) ?_
          refine r_iret d_Lw_in_33 rfl rfl ?_
          exact ⟨by rw [inV_s hz], rfl⟩
abbrev M_Lw_cell : zM := (⟨"IronpourLaw", "cell", "([II)I"⟩, method_2_code, 3, (Option.some FieldType.int), 1, 20, [])
theorem d_Lw_cell_0 : decode method_2_code 0 = .ok (.ldc 7, 2) := zo_18 (d := 7) (zd_b zq_method_2_code_0 0 rfl rfl rfl) (zd_b zq_method_2_code_0 1 rfl rfl rfl)
theorem ct_Lw_7 : Cond.constant "IronpourLaw" 7 (69069) ∈ z_gw := z_mj2 (i := 220) rfl (by decide +kernel)
theorem d_Lw_cell_2 : decode method_2_code 2 = .ok (.iload_n 1, 1) := zo_27 (zd_b zq_method_2_code_0 2 rfl rfl rfl)
theorem d_Lw_cell_3 : decode method_2_code 3 = .ok (.aload_n 0, 1) := zo_42 (zd_b zq_method_2_code_0 3 rfl rfl rfl)
theorem d_Lw_cell_4 : decode method_2_code 4 = .ok (.arraylength, 1) := zo_190 (zd_b zq_method_2_code_0 4 rfl rfl rfl)
theorem d_Lw_cell_5 : decode method_2_code 5 = .ok (.if_icmp .ge 9, 3) := zo_162 (d := 0) (e := 9) (zd_b zq_method_2_code_0 5 rfl rfl rfl) (zd_b zq_method_2_code_0 6 rfl rfl rfl) (zd_b zq_method_2_code_0 7 rfl rfl rfl) (by decide +kernel)
theorem d_Lw_cell_14 : decode method_2_code 14 = .ok (.iconst 0, 1) := zo_3 (zd_b zq_method_2_code_0 14 rfl rfl rfl)
theorem d_Lw_cell_15 : decode method_2_code 15 = .ok (.sipush 1009, 3) := zo_17 (d := 3) (e := 241) (zd_b zq_method_2_code_0 15 rfl rfl rfl) (zd_b zq_method_2_code_0 16 rfl rfl rfl) (zd_b zq_method_2_code_0 17 rfl rfl rfl) (by decide +kernel)
theorem d_Lw_cell_18 : decode method_2_code 18 = .ok (.iload_n 1, 1) := zo_27 (zd_b zq_method_2_code_0 18 rfl rfl rfl)
theorem d_Lw_cell_19 : decode method_2_code 19 = .ok (.imul, 1) := zo_104 (zd_b zq_method_2_code_0 19 rfl rfl rfl)
theorem d_Lw_cell_20 : decode method_2_code 20 = .ok (.iadd, 1) := zo_96 (zd_b zq_method_2_code_0 20 rfl rfl rfl)
theorem d_Lw_cell_21 : decode method_2_code 21 = .ok (.imul, 1) := zo_104 (zd_b zq_method_2_code_0 21 rfl rfl rfl)
theorem d_Lw_cell_22 : decode method_2_code 22 = .ok (.sipush 12345, 3) := zo_17 (d := 48) (e := 57) (zd_b zq_method_2_code_0 22 rfl rfl rfl) (zd_b zq_method_2_code_0 23 rfl rfl rfl) (zd_b zq_method_2_code_0 24 rfl rfl rfl) (by decide +kernel)
theorem d_Lw_cell_25 : decode method_2_code 25 = .ok (.iadd, 1) := zo_96 (zd_b zq_method_2_code_0 25 rfl rfl rfl)
theorem d_Lw_cell_26 : decode method_2_code 26 = .ok (.istore_n 2, 1) := zo_61 (zd_b zq_method_2_code_0 26 rfl rfl rfl)
theorem d_Lw_cell_27 : decode method_2_code 27 = .ok (.iload_n 2, 1) := zo_28 (zd_b zq_method_2_code_0 27 rfl rfl rfl)
theorem d_Lw_cell_28 : decode method_2_code 28 = .ok (.iload_n 2, 1) := zo_28 (zd_b zq_method_2_code_0 28 rfl rfl rfl)
theorem d_Lw_cell_29 : decode method_2_code 29 = .ok (.bipush 13, 2) := zo_16 (d := 13) (zd_b zq_method_2_code_0 29 rfl rfl rfl) (zd_b zq_method_2_code_0 30 rfl rfl rfl) (by decide +kernel)
theorem d_Lw_cell_31 : decode method_2_code 31 = .ok (.iushr, 1) := zo_124 (zd_b zq_method_2_code_0 31 rfl rfl rfl)
theorem d_Lw_cell_32 : decode method_2_code 32 = .ok (.ixor, 1) := zo_130 (zd_b zq_method_2_code_1 0 rfl rfl rfl)
theorem d_Lw_cell_33 : decode method_2_code 33 = .ok (.ldc 8, 2) := zo_18 (d := 8) (zd_b zq_method_2_code_1 1 rfl rfl rfl) (zd_b zq_method_2_code_1 2 rfl rfl rfl)
theorem ct_Lw_8 : Cond.constant "IronpourLaw" 8 (1103515245) ∈ z_gw := z_mj2 (i := 221) rfl (by decide +kernel)
theorem d_Lw_cell_35 : decode method_2_code 35 = .ok (.imul, 1) := zo_104 (zd_b zq_method_2_code_1 3 rfl rfl rfl)
theorem d_Lw_cell_36 : decode method_2_code 36 = .ok (.istore_n 2, 1) := zo_61 (zd_b zq_method_2_code_1 4 rfl rfl rfl)
theorem d_Lw_cell_37 : decode method_2_code 37 = .ok (.iload_n 2, 1) := zo_28 (zd_b zq_method_2_code_1 5 rfl rfl rfl)
theorem d_Lw_cell_38 : decode method_2_code 38 = .ok (.iload_n 2, 1) := zo_28 (zd_b zq_method_2_code_1 6 rfl rfl rfl)
theorem d_Lw_cell_39 : decode method_2_code 39 = .ok (.bipush 16, 2) := zo_16 (d := 16) (zd_b zq_method_2_code_1 7 rfl rfl rfl) (zd_b zq_method_2_code_1 8 rfl rfl rfl) (by decide +kernel)
theorem d_Lw_cell_41 : decode method_2_code 41 = .ok (.iushr, 1) := zo_124 (zd_b zq_method_2_code_1 9 rfl rfl rfl)
theorem d_Lw_cell_42 : decode method_2_code 42 = .ok (.ixor, 1) := zo_130 (zd_b zq_method_2_code_1 10 rfl rfl rfl)
theorem d_Lw_cell_43 : decode method_2_code 43 = .ok (.ireturn, 1) := zo_172 (zd_b zq_method_2_code_1 11 rfl rfl rfl)
theorem d_Lw_cell_8 : decode method_2_code 8 = .ok (.aload_n 0, 1) := zo_42 (zd_b zq_method_2_code_0 8 rfl rfl rfl)
theorem d_Lw_cell_9 : decode method_2_code 9 = .ok (.iload_n 1, 1) := zo_27 (zd_b zq_method_2_code_0 9 rfl rfl rfl)
theorem d_Lw_cell_10 : decode method_2_code 10 = .ok (.iaload, 1) := zo_46 (zd_b zq_method_2_code_0 10 rfl rfl rfl)
theorem d_Lw_cell_11 : decode method_2_code 11 = .ok (.goto 4, 3) := zo_167 (d := 0) (e := 4) (zd_b zq_method_2_code_0 11 rfl rfl rfl) (zd_b zq_method_2_code_0 12 rfl rfl rfl) (zd_b zq_method_2_code_0 13 rfl rfl rfl) (by decide +kernel)
set_option maxHeartbeats 4000000 in
set_option maxRecDepth 100000 in
theorem C_Lw_cell (g : zG) (i : Nat) (hi : i < 1000) (hL : g.2.2 41 ≤ 260) : CT g M_Lw_cell [.ref (g.2.2 40), .int (nI i)] [] (fun o cs1 => o = .inl (some (.int (clI g i))) ∧ cs1 = []) 0 0 := by
  refine z_of (by decide) rfl (Nat.le_of_ble_eq_true rfl) (fun w0 => ?_)
  refine r_lvE (lv2 := [(0, .ref (g.2.2 40)), (1, .int (nI i))]) rfl ?_
  refine r_ldc ct_Lw_7 d_Lw_cell_0 ?_
  refine r_iload_n d_Lw_cell_2 rfl 1 rfl ?_
  refine r_aload_n d_Lw_cell_3 rfl 0 rfl ?_
  refine r_slen (v := nI (g.2.2 41)) d_Lw_cell_4 rfl ?_
  refine r_icmp_ge (tgt := 14) d_Lw_cell_5 (by decide) (fun c_5 => ?_) (fun c_5 => ?_)
  · refine r_iconst d_Lw_cell_14 (v := 0) (by decide) ?_
    refine r_sipush d_Lw_cell_15 (v := 1009) (by decide) ?_
    refine r_iload_n d_Lw_cell_18 rfl 1 rfl ?_
    refine r_imul d_Lw_cell_19 (v := nI (1009 * i)) (pk_mul _ _) ?_
    refine r_iadd d_Lw_cell_20 (v := 0 + (nI (1009 * i))) rfl ?_
    refine r_imul d_Lw_cell_21 (v := 69069 * (0 + (nI (1009 * i)))) rfl ?_
    refine r_sipush d_Lw_cell_22 (v := 12345) (by decide) ?_
    refine r_iadd d_Lw_cell_25 (v := (69069 * (0 + (nI (1009 * i)))) + 12345) rfl ?_
    refine r_istore_n (lv' := [(2, .int ((69069 * (0 + (nI (1009 * i)))) + 12345)), (0, .ref (g.2.2 40)), (1, .int (nI i))]) d_Lw_cell_26 rfl (by decide) rfl ?_
    refine r_iload_n d_Lw_cell_27 rfl 0 rfl ?_
    refine r_iload_n d_Lw_cell_28 rfl 0 rfl ?_
    refine r_bipush d_Lw_cell_29 (v := 13) (by decide) ?_
    refine r_iushr d_Lw_cell_31 (v := z_us ((69069 * (0 + (nI (1009 * i)))) + 12345) 13) rfl ?_
    refine r_ixor d_Lw_cell_32 (v := ((69069 * (0 + (nI (1009 * i)))) + 12345) ^^^ (z_us ((69069 * (0 + (nI (1009 * i)))) + 12345) 13)) rfl ?_
    refine r_ldc ct_Lw_8 d_Lw_cell_33 ?_
    refine r_imul d_Lw_cell_35 (v := (((69069 * (0 + (nI (1009 * i)))) + 12345) ^^^ (z_us ((69069 * (0 + (nI (1009 * i)))) + 12345) 13)) * 1103515245) rfl ?_
    refine r_istore_n (lv' := [(2, .int ((((69069 * (0 + (nI (1009 * i)))) + 12345) ^^^ (z_us ((69069 * (0 + (nI (1009 * i)))) + 12345) 13)) * 1103515245)), (0, .ref (g.2.2 40)), (1, .int (nI i))]) d_Lw_cell_36 rfl (by decide) rfl ?_
    refine r_iload_n d_Lw_cell_37 rfl 0 rfl ?_
    refine r_iload_n d_Lw_cell_38 rfl 0 rfl ?_
    refine r_bipush d_Lw_cell_39 (v := 16) (by decide) ?_
    refine r_iushr d_Lw_cell_41 (v := z_us ((((69069 * (0 + (nI (1009 * i)))) + 12345) ^^^ (z_us ((69069 * (0 + (nI (1009 * i)))) + 12345) 13)) * 1103515245) 16) rfl ?_
    refine r_ixor d_Lw_cell_42 (v := ((((69069 * (0 + (nI (1009 * i)))) + 12345) ^^^ (z_us ((69069 * (0 + (nI (1009 * i)))) + 12345) 13)) * 1103515245) ^^^ (z_us ((((69069 * (0 + (nI (1009 * i)))) + 12345) ^^^ (z_us ((69069 * (0 + (nI (1009 * i)))) + 12345) 13)) * 1103515245) 16)) rfl ?_
    refine r_iret d_Lw_cell_43 rfl rfl ?_
    have e9 : slV g i = 0 := if_neg (Nat.not_lt.mpr (z_le (a := g.2.2 41) (b := i) (by omega) (by omega) c_5))
    exact ⟨by unfold clI; rw [e9]; rfl, rfl⟩
  · refine r_aload_n d_Lw_cell_8 rfl 0 rfl ?_
    refine r_iload_n d_Lw_cell_9 rfl 1 rfl ?_
    refine r_sld (v := slV g i) d_Lw_cell_10 (vp_in_nI (z_nle (a := g.2.2 41) (b := i) (by omega) (by omega) c_5) (by omega)) (by rw [nI_clamp (by omega)]; exact (if_pos (z_nle (a := g.2.2 41) (b := i) (by omega) (by omega) c_5)).symm) ?_
    refine r_goto (tgt := 15) d_Lw_cell_11 (by decide) ?_
    refine r_sipush d_Lw_cell_15 (v := 1009) (by decide) ?_
    refine r_iload_n d_Lw_cell_18 rfl 1 rfl ?_
    refine r_imul d_Lw_cell_19 (v := nI (1009 * i)) (pk_mul _ _) ?_
    refine r_iadd d_Lw_cell_20 (v := (slV g i) + (nI (1009 * i))) rfl ?_
    refine r_imul d_Lw_cell_21 (v := 69069 * ((slV g i) + (nI (1009 * i)))) rfl ?_
    refine r_sipush d_Lw_cell_22 (v := 12345) (by decide) ?_
    refine r_iadd d_Lw_cell_25 (v := (69069 * ((slV g i) + (nI (1009 * i)))) + 12345) rfl ?_
    refine r_istore_n (lv' := [(2, .int ((69069 * ((slV g i) + (nI (1009 * i)))) + 12345)), (0, .ref (g.2.2 40)), (1, .int (nI i))]) d_Lw_cell_26 rfl (by decide) rfl ?_
    refine r_iload_n d_Lw_cell_27 rfl 0 rfl ?_
    refine r_iload_n d_Lw_cell_28 rfl 0 rfl ?_
    refine r_bipush d_Lw_cell_29 (v := 13) (by decide) ?_
    refine r_iushr d_Lw_cell_31 (v := z_us ((69069 * ((slV g i) + (nI (1009 * i)))) + 12345) 13) rfl ?_
    refine r_ixor d_Lw_cell_32 (v := ((69069 * ((slV g i) + (nI (1009 * i)))) + 12345) ^^^ (z_us ((69069 * ((slV g i) + (nI (1009 * i)))) + 12345) 13)) rfl ?_
    refine r_ldc ct_Lw_8 d_Lw_cell_33 ?_
    refine r_imul d_Lw_cell_35 (v := (((69069 * ((slV g i) + (nI (1009 * i)))) + 12345) ^^^ (z_us ((69069 * ((slV g i) + (nI (1009 * i)))) + 12345) 13)) * 1103515245) rfl ?_
    refine r_istore_n (lv' := [(2, .int ((((69069 * ((slV g i) + (nI (1009 * i)))) + 12345) ^^^ (z_us ((69069 * ((slV g i) + (nI (1009 * i)))) + 12345) 13)) * 1103515245)), (0, .ref (g.2.2 40)), (1, .int (nI i))]) d_Lw_cell_36 rfl (by decide) rfl ?_
    refine r_iload_n d_Lw_cell_37 rfl 0 rfl ?_
    refine r_iload_n d_Lw_cell_38 rfl 0 rfl ?_
    refine r_bipush d_Lw_cell_39 (v := 16) (by decide) ?_
    refine r_iushr d_Lw_cell_41 (v := z_us ((((69069 * ((slV g i) + (nI (1009 * i)))) + 12345) ^^^ (z_us ((69069 * ((slV g i) + (nI (1009 * i)))) + 12345) 13)) * 1103515245) 16) rfl ?_
    refine r_ixor d_Lw_cell_42 (v := ((((69069 * ((slV g i) + (nI (1009 * i)))) + 12345) ^^^ (z_us ((69069 * ((slV g i) + (nI (1009 * i)))) + 12345) 13)) * 1103515245) ^^^ (z_us ((((69069 * ((slV g i) + (nI (1009 * i)))) + 12345) ^^^ (z_us ((69069 * ((slV g i) + (nI (1009 * i)))) + 12345) 13)) * 1103515245) 16)) rfl ?_
    refine r_iret d_Lw_cell_43 rfl rfl ?_
    exact ⟨rfl, rfl⟩
abbrev M_Lw_pick : zM := (⟨"IronpourLaw", "pick", "([III)I"⟩, method_3_code, 3, (Option.some FieldType.int), 2, 42, [])
theorem d_Lw_pick_0 : decode method_3_code 0 = .ok (.aload_n 0, 1) := zo_42 (zd_b zq_method_3_code_0 0 rfl rfl rfl)
theorem d_Lw_pick_1 : decode method_3_code 1 = .ok (.iload_n 1, 1) := zo_27 (zd_b zq_method_3_code_0 1 rfl rfl rfl)
theorem d_Lw_pick_2 : decode method_3_code 2 = .ok (.invokestatic 9, 3) := zo_184 (d := 0) (e := 9) (zd_b zq_method_3_code_0 2 rfl rfl rfl) (zd_b zq_method_3_code_0 3 rfl rfl rfl) (zd_b zq_method_3_code_0 4 rfl rfl rfl)
theorem ok_Lw_pick_Lw_cell : z_ok M_Lw_pick M_Lw_cell 2 := ⟨z_mj2 (i := 219) rfl (by decide +kernel), rfl, ⟨by decide +kernel, by decide +kernel, by decide +kernel⟩, ⟨by decide, by decide⟩, z_mj1 (i := 0) rfl (by decide +kernel), rfl⟩
theorem ln_Lw_9 : Cond.methodLink "IronpourLaw" 9 M_Lw_cell.1 ∈ z_gw := z_mj2 (i := 217) rfl (by decide +kernel)
theorem w_st_Lw_cell : Cond.static M_Lw_cell.1 ∈ z_gw := z_mj2 (i := 218) rfl (by decide +kernel)
theorem d_Lw_pick_5 : decode method_3_code 5 = .ok (.bipush 8, 2) := zo_16 (d := 8) (zd_b zq_method_3_code_0 5 rfl rfl rfl) (zd_b zq_method_3_code_0 6 rfl rfl rfl) (by decide +kernel)
theorem d_Lw_pick_7 : decode method_3_code 7 = .ok (.iushr, 1) := zo_124 (zd_b zq_method_3_code_0 7 rfl rfl rfl)
theorem d_Lw_pick_8 : decode method_3_code 8 = .ok (.iload_n 2, 1) := zo_28 (zd_b zq_method_3_code_0 8 rfl rfl rfl)
theorem d_Lw_pick_9 : decode method_3_code 9 = .ok (.irem, 1) := zo_112 (zd_b zq_method_3_code_0 9 rfl rfl rfl)
theorem d_Lw_pick_10 : decode method_3_code 10 = .ok (.ireturn, 1) := zo_172 (zd_b zq_method_3_code_0 10 rfl rfl rfl)
set_option maxHeartbeats 4000000 in
set_option maxRecDepth 100000 in
theorem C_Lw_pick (g : zG) (i m : Nat) (hi : i < 1000) (hm : 1 ≤ m) (h9 : m < 1000) (hL : g.2.2 41 ≤ 260) : CT g M_Lw_pick [.ref (g.2.2 40), .int (nI i), .int (nI m)] [] (fun o cs1 => o = .inl (some (.int (nI (pkN g i m)))) ∧ cs1 = []) 0 0 := by
  refine z_of (by decide) rfl (Nat.le_of_ble_eq_true rfl) (fun w0 => ?_)
  refine r_lvE (lv2 := [(0, .ref (g.2.2 40)), (1, .int (nI i)), (2, .int (nI m))]) rfl ?_
  refine r_aload_n d_Lw_pick_0 rfl 0 rfl ?_
  refine r_iload_n d_Lw_pick_1 rfl 1 rfl ?_
  refine r_callS (As := [.ref (g.2.2 40), .int (nI i)]) (rest := []) (csC := []) (is := []) ln_Lw_9 w_st_Lw_cell ok_Lw_pick_Lw_cell d_Lw_pick_2 (C_Lw_cell g i hi hL) rfl rfl (Nat.le_of_ble_eq_true rfl) rfl (by decide) (by omega) (by omega) (fun E cs1 hx => ?_) (fun v cs1 hx => ?_)
  · exact absurd hx.1 (by simp)
  · obtain ⟨e1, rfl⟩ := hx
    cases e1
    refine ⟨rfl, ?_⟩
    refine r_st (st2 := [.int (clI g i)]) rfl ?_
    refine r_cs (cs2 := []) rfl ?_
    refine r_bipush d_Lw_pick_5 (v := 8) (by decide) ?_
    refine r_iushr d_Lw_pick_7 (v := z_us (clI g i) 8) rfl ?_
    refine r_iload_n d_Lw_pick_8 rfl 2 rfl ?_
    refine r_irem d_Lw_pick_9 (v := (z_us (clI g i) 8) - (z_us (clI g i) 8) / (nI m) * (nI m)) (nI_ne0 (by omega) (by omega)) rfl ?_
    refine r_iret d_Lw_pick_10 rfl rfl ?_
    exact ⟨by rw [pick_m hm h9]; rfl, rfl⟩
set_option maxHeartbeats 4000000 in
set_option maxRecDepth 100000 in
theorem C_Pr_checkIndexR (g : zG) (x sz : Int32) (z : Nat) (h0 : ¬ x < 0) (h1 : x < sz) : CT g M_Preconditions_checkIndex [.int x, .int sz, .ref z] [] (fun o cs1 => o = .inl (some (.int x)) ∧ cs1 = []) 0 0 := by
  refine z_of (by decide) rfl (Nat.le_of_ble_eq_true rfl) (fun w0 => ?_)
  refine r_lvE (lv2 := [(0, .int x), (1, .int sz), (2, .ref z)]) rfl ?_
  refine r_iload_n d_Preconditions_checkIndex_0 rfl 0 rfl ?_
  refine r_if_lt (tgt := 9) d_Preconditions_checkIndex_1 (by decide) (fun c_1 => ?_) (fun c_1 => ?_)
  · exact absurd c_1 h0
  · refine r_iload_n d_Preconditions_checkIndex_4 rfl 0 rfl ?_
    refine r_iload_n d_Preconditions_checkIndex_5 rfl 1 rfl ?_
    refine r_icmp_lt (tgt := 16) d_Preconditions_checkIndex_6 (by decide) (fun c_6 => ?_) (fun c_6 => ?_)
    · refine r_iload_n d_Preconditions_checkIndex_16 rfl 0 rfl ?_
      refine r_iret d_Preconditions_checkIndex_17 rfl rfl ?_
      exact ⟨rfl, rfl⟩
    · exact absurd h1 c_6
abbrev M_String_checkIndex : zM := (⟨"java/lang/String", "checkIndex", "(II)V"⟩, prog_29_method_155_code, 2, (Option.none : Option FieldType), 2, 42, [])
theorem d_String_checkIndex_0 : decode prog_29_method_155_code 0 = .ok (.iload_n 0, 1) := zo_26 (zd_b zq_prog_29_method_155_code_0 0 rfl rfl rfl)
theorem d_String_checkIndex_1 : decode prog_29_method_155_code 1 = .ok (.iload_n 1, 1) := zo_27 (zd_b zq_prog_29_method_155_code_0 1 rfl rfl rfl)
theorem d_String_checkIndex_2 : decode prog_29_method_155_code 2 = .ok (.getstatic 1053, 3) := zo_178 (d := 4) (e := 29) (zd_b zq_prog_29_method_155_code_0 2 rfl rfl rfl) (zd_b zq_prog_29_method_155_code_0 3 rfl rfl rfl) (zd_b zq_prog_29_method_155_code_0 4 rfl rfl rfl)
theorem ls_String_1053 : Cond.fieldLink "java/lang/String" 1053 "jdk/internal/util/Preconditions" "SIOOBE_FORMATTER" "Ljava/util/function/BiFunction;" ∈ z_gw := z_mj3 (i := 134) rfl (by decide +kernel)
theorem d_String_checkIndex_5 : decode prog_29_method_155_code 5 = .ok (.invokestatic 1059, 3) := zo_184 (d := 4) (e := 35) (zd_b zq_prog_29_method_155_code_0 5 rfl rfl rfl) (zd_b zq_prog_29_method_155_code_0 6 rfl rfl rfl) (zd_b zq_prog_29_method_155_code_0 7 rfl rfl rfl)
theorem ok_String_checkIndex_Preconditions_checkIndex : z_ok M_String_checkIndex M_Preconditions_checkIndex 3 := ⟨z_mj2 (i := 118) rfl (by decide +kernel), rfl, ⟨by decide +kernel, by decide +kernel, by decide +kernel⟩, ⟨by decide, by decide⟩, z_mj1 (i := 23) rfl (by decide +kernel), rfl⟩
theorem ln_String_1059 : Cond.methodLink "java/lang/String" 1059 M_Preconditions_checkIndex.1 ∈ z_gw := z_mj6 (i := 148) rfl (by decide +kernel)
theorem d_String_checkIndex_8 : decode prog_29_method_155_code 8 = .ok (.pop, 1) := zo_87 (zd_b zq_prog_29_method_155_code_0 8 rfl rfl rfl)
theorem d_String_checkIndex_9 : decode prog_29_method_155_code 9 = .ok (.return_, 1) := zo_177 (zd_b zq_prog_29_method_155_code_0 9 rfl rfl rfl)
set_option maxHeartbeats 4000000 in
set_option maxRecDepth 100000 in
theorem C_St_checkIndex (g : zG) (x sz : Int32) (h0 : ¬ x < 0) (h1 : x < sz) : CT g M_String_checkIndex [.int x, .int sz] [] (fun o cs1 => o = .inl none ∧ cs1 = []) 0 0 := by
  refine z_of (by decide) rfl (Nat.le_of_ble_eq_true rfl) (fun w0 => ?_)
  refine r_lvE (lv2 := [(0, .int x), (1, .int sz)]) rfl ?_
  refine r_iload_n d_String_checkIndex_0 rfl 0 rfl ?_
  refine r_iload_n d_String_checkIndex_1 rfl 1 rfl ?_
  refine r_getsQ ls_String_1053 d_String_checkIndex_2 ?_ (fun z9 => ?_)
  · refine r_callS (As := [.int x, .int sz, .null]) (rest := []) (csC := []) (is := []) ln_String_1059 w_st_Preconditions_checkIndex ok_String_checkIndex_Preconditions_checkIndex d_String_checkIndex_5 (C_Pr_checkIndex g x sz h0 h1) rfl rfl (Nat.le_of_ble_eq_true rfl) rfl (by decide) (by omega) (by omega) (fun E cs1 hx => ?_) (fun v cs1 hx => ?_)
    · exact absurd hx.1 (by simp)
    · obtain ⟨e1, rfl⟩ := hx
      cases e1
      refine ⟨rfl, ?_⟩
      refine r_st (st2 := [.int x]) rfl ?_
      refine r_cs (cs2 := []) rfl ?_
      refine r_pop d_String_checkIndex_8 rfl ?_
      refine r_vret d_String_checkIndex_9 rfl ?_
      exact ⟨rfl, rfl⟩
  · refine r_callS (As := [.int x, .int sz, .ref z9]) (rest := []) (csC := []) (is := []) ln_String_1059 w_st_Preconditions_checkIndex ok_String_checkIndex_Preconditions_checkIndex d_String_checkIndex_5 (C_Pr_checkIndexR g x sz z9 h0 h1) rfl rfl (Nat.le_of_ble_eq_true rfl) rfl (by decide) (by omega) (by omega) (fun E cs1 hx => ?_) (fun v cs1 hx => ?_)
    · exact absurd hx.1 (by simp)
    · obtain ⟨e1, rfl⟩ := hx
      cases e1
      refine ⟨rfl, ?_⟩
      refine r_st (st2 := [.int x]) rfl ?_
      refine r_cs (cs2 := []) rfl ?_
      refine r_pop d_String_checkIndex_8 rfl ?_
      refine r_vret d_String_checkIndex_9 rfl ?_
      exact ⟨rfl, rfl⟩
abbrev M_StringLatin1_charAt : zM := (⟨"java/lang/StringLatin1", "charAt", "([BI)C"⟩, prog_30_method_2_code, 2, (Option.some FieldType.char), 3, 63, [])
theorem d_StringLatin1_charAt_0 : decode prog_30_method_2_code 0 = .ok (.iload_n 1, 1) := zo_27 (zd_b zq_prog_30_method_2_code_0 0 rfl rfl rfl)
theorem d_StringLatin1_charAt_1 : decode prog_30_method_2_code 1 = .ok (.aload_n 0, 1) := zo_42 (zd_b zq_prog_30_method_2_code_0 1 rfl rfl rfl)
theorem d_StringLatin1_charAt_2 : decode prog_30_method_2_code 2 = .ok (.arraylength, 1) := zo_190 (zd_b zq_prog_30_method_2_code_0 2 rfl rfl rfl)
theorem d_StringLatin1_charAt_3 : decode prog_30_method_2_code 3 = .ok (.invokestatic 9, 3) := zo_184 (d := 0) (e := 9) (zd_b zq_prog_30_method_2_code_0 3 rfl rfl rfl) (zd_b zq_prog_30_method_2_code_0 4 rfl rfl rfl) (zd_b zq_prog_30_method_2_code_0 5 rfl rfl rfl)
theorem ok_StringLatin1_charAt_String_checkIndex : z_ok M_StringLatin1_charAt M_String_checkIndex 2 := ⟨z_mj6 (i := 147) rfl (by decide +kernel), rfl, ⟨by decide +kernel, by decide +kernel, by decide +kernel⟩, ⟨by decide, by decide⟩, z_mj1 (i := 19) rfl (by decide +kernel), rfl⟩
theorem ln_StringLatin1_9 : Cond.methodLink "java/lang/StringLatin1" 9 M_String_checkIndex.1 ∈ z_gw := z_mj6 (i := 145) rfl (by decide +kernel)
theorem w_st_String_checkIndex : Cond.static M_String_checkIndex.1 ∈ z_gw := z_mj6 (i := 146) rfl (by decide +kernel)
theorem d_StringLatin1_charAt_6 : decode prog_30_method_2_code 6 = .ok (.aload_n 0, 1) := zo_42 (zd_b zq_prog_30_method_2_code_0 6 rfl rfl rfl)
theorem d_StringLatin1_charAt_7 : decode prog_30_method_2_code 7 = .ok (.iload_n 1, 1) := zo_27 (zd_b zq_prog_30_method_2_code_0 7 rfl rfl rfl)
theorem d_StringLatin1_charAt_8 : decode prog_30_method_2_code 8 = .ok (.baload, 1) := zo_51 (zd_b zq_prog_30_method_2_code_0 8 rfl rfl rfl)
theorem d_StringLatin1_charAt_9 : decode prog_30_method_2_code 9 = .ok (.sipush 255, 3) := zo_17 (d := 0) (e := 255) (zd_b zq_prog_30_method_2_code_0 9 rfl rfl rfl) (zd_b zq_prog_30_method_2_code_0 10 rfl rfl rfl) (zd_b zq_prog_30_method_2_code_0 11 rfl rfl rfl) (by decide +kernel)
theorem d_StringLatin1_charAt_12 : decode prog_30_method_2_code 12 = .ok (.iand, 1) := zo_126 (zd_b zq_prog_30_method_2_code_0 12 rfl rfl rfl)
theorem d_StringLatin1_charAt_13 : decode prog_30_method_2_code 13 = .ok (.i2c, 1) := zo_146 (zd_b zq_prog_30_method_2_code_0 13 rfl rfl rfl)
theorem d_StringLatin1_charAt_14 : decode prog_30_method_2_code 14 = .ok (.ireturn, 1) := zo_172 (zd_b zq_prog_30_method_2_code_0 14 rfl rfl rfl)
set_option maxHeartbeats 4000000 in
set_option maxRecDepth 100000 in
theorem C_SL_charAt (g : zG) (i k : Nat) (hi : i < 6) (hk : k < (z_by i).length) : CT g M_StringLatin1_charAt [.ref (g.2.2 (20 + i)), .int (nI k)] [] (fun o cs1 => o = .inl (some (.int ((z_by i).getD k 0))) ∧ cs1 = []) 0 0 := by
  refine z_of (by decide) rfl (Nat.le_of_ble_eq_true rfl) (fun w0 => ?_)
  refine r_lvE (lv2 := [(0, .ref (g.2.2 (20 + i))), (1, .int (nI k))]) rfl ?_
  refine r_iload_n d_StringLatin1_charAt_0 rfl 1 rfl ?_
  refine r_aload_n d_StringLatin1_charAt_1 rfl 0 rfl ?_
  refine r_tlenS (i := i) (v := nI (z_by i).length) hi rfl d_StringLatin1_charAt_2 ?_
  refine r_callS (As := [.int (nI k), .int (nI (z_by i).length)]) (rest := []) (csC := []) (is := []) ln_StringLatin1_9 w_st_String_checkIndex ok_StringLatin1_charAt_String_checkIndex d_StringLatin1_charAt_3 (C_St_checkIndex g (nI k) (nI (z_by i).length) (nI_nneg (by have := (z_by5 i hi).2; omega)) ((nI_ltI (by have := (z_by5 i hi).2; omega) (by have := (z_by5 i hi).2; omega)).mpr hk)) rfl rfl (Nat.le_of_ble_eq_true rfl) rfl (by decide) (by omega) (by omega) (fun E cs1 hx => ?_) (fun v cs1 hx => ?_)
  · exact absurd hx.1 (by simp)
  · obtain ⟨e1, rfl⟩ := hx
    cases e1
    refine ⟨rfl, ?_⟩
    refine r_st (st2 := []) rfl ?_
    refine r_cs (cs2 := []) rfl ?_
    refine r_aload_n d_StringLatin1_charAt_6 rfl 0 rfl ?_
    refine r_iload_n d_StringLatin1_charAt_7 rfl 1 rfl ?_
    refine r_tbS (i := i) (v := (z_by i).getD k 0) hi (vp_in_nI hk (by have := (z_by5 i hi).2; omega)) (by rw [nI_clamp (by have := (z_by5 i hi).2; omega)]) d_StringLatin1_charAt_8 ?_
    refine r_sipush d_StringLatin1_charAt_9 (v := 255) (by decide) ?_
    refine r_iand d_StringLatin1_charAt_12 (v := (z_by i).getD k 0) ((z_byc i hi k (by have := (z_by5 i hi).2; omega)).1) ?_
    refine r_i2c d_StringLatin1_charAt_13 (v := (z_by i).getD k 0) ((z_byc i hi k (by have := (z_by5 i hi).2; omega)).2) ?_
    refine r_iret d_StringLatin1_charAt_14 rfl (congrArg Value.int (z_byc i hi k (by have := (z_by5 i hi).2; omega)).2) ?_
    exact ⟨rfl, rfl⟩
abbrev M_String_charAt : zM := (⟨"java/lang/String", "charAt", "(I)C"⟩, prog_29_method_56_code, 2, (Option.some FieldType.char), 5, 105, [])
theorem d_String_charAt_0 : decode prog_29_method_56_code 0 = .ok (.aload_n 0, 1) := zo_42 (zd_b zq_prog_29_method_56_code_0 0 rfl rfl rfl)
theorem d_String_charAt_1 : decode prog_29_method_56_code 1 = .ok (.invokevirtual 492, 3) := zo_182 (d := 1) (e := 236) (zd_b zq_prog_29_method_56_code_0 1 rfl rfl rfl) (zd_b zq_prog_29_method_56_code_0 2 rfl rfl rfl) (zd_b zq_prog_29_method_56_code_0 3 rfl rfl rfl)
theorem ok_String_charAt_String_isLatin1 : z_ok M_String_charAt M_String_isLatin1 0 := ⟨z_mj3 (i := 90) rfl (by decide +kernel), rfl, ⟨by decide +kernel, by decide +kernel, by decide +kernel⟩, ⟨by decide, by decide⟩, z_mj1 (i := 19) rfl (by decide +kernel), rfl⟩
theorem d_String_charAt_4 : decode prog_29_method_56_code 4 = .ok (.ifCond .eq 12, 3) := zo_153 (d := 0) (e := 12) (zd_b zq_prog_29_method_56_code_0 4 rfl rfl rfl) (zd_b zq_prog_29_method_56_code_0 5 rfl rfl rfl) (zd_b zq_prog_29_method_56_code_0 6 rfl rfl rfl) (by decide +kernel)
theorem d_String_charAt_7 : decode prog_29_method_56_code 7 = .ok (.aload_n 0, 1) := zo_42 (zd_b zq_prog_29_method_56_code_0 7 rfl rfl rfl)
theorem d_String_charAt_8 : decode prog_29_method_56_code 8 = .ok (.getfield 9, 3) := zo_180 (d := 0) (e := 9) (zd_b zq_prog_29_method_56_code_0 8 rfl rfl rfl) (zd_b zq_prog_29_method_56_code_0 9 rfl rfl rfl) (zd_b zq_prog_29_method_56_code_0 10 rfl rfl rfl)
theorem d_String_charAt_11 : decode prog_29_method_56_code 11 = .ok (.iload_n 1, 1) := zo_27 (zd_b zq_prog_29_method_56_code_0 11 rfl rfl rfl)
theorem d_String_charAt_12 : decode prog_29_method_56_code 12 = .ok (.invokestatic 495, 3) := zo_184 (d := 1) (e := 239) (zd_b zq_prog_29_method_56_code_0 12 rfl rfl rfl) (zd_b zq_prog_29_method_56_code_0 13 rfl rfl rfl) (zd_b zq_prog_29_method_56_code_0 14 rfl rfl rfl)
theorem ok_String_charAt_StringLatin1_charAt : z_ok M_String_charAt M_StringLatin1_charAt 2 := ⟨z_mj6 (i := 144) rfl (by decide +kernel), rfl, ⟨by decide +kernel, by decide +kernel, by decide +kernel⟩, ⟨by decide, by decide⟩, z_mj1 (i := 20) rfl (by decide +kernel), rfl⟩
theorem ln_String_495 : Cond.methodLink "java/lang/String" 495 M_StringLatin1_charAt.1 ∈ z_gw := z_mj6 (i := 142) rfl (by decide +kernel)
theorem w_st_StringLatin1_charAt : Cond.static M_StringLatin1_charAt.1 ∈ z_gw := z_mj6 (i := 143) rfl (by decide +kernel)
theorem d_String_charAt_15 : decode prog_29_method_56_code 15 = .ok (.ireturn, 1) := zo_172 (zd_b zq_prog_29_method_56_code_0 15 rfl rfl rfl)
set_option maxHeartbeats 4000000 in
set_option maxRecDepth 100000 in
theorem C_St_charAt (g : zG) (i k : Nat) (hi : i < 6) (hk : k < (z_by i).length) : CT g M_String_charAt [.ref (g.2.2 (5 + i)), .int (nI k)] [] (fun o cs1 => o = .inl (some (.int ((z_by i).getD k 0))) ∧ cs1 = []) 0 0 := by
  refine z_of (by decide) rfl (Nat.le_of_ble_eq_true rfl) (fun w0 => ?_)
  refine r_lvE (lv2 := [(0, .ref (g.2.2 (5 + i))), (1, .int (nI k))]) rfl ?_
  refine r_aload_n d_String_charAt_0 rfl 0 rfl ?_
  refine r_callVS (As := []) (rest := []) (csC := []) (is := []) (i := i) (by first | assumption | decide) rfl ln_String_492 w_im_String_isLatin1 w_se_String_isLatin1 ok_String_charAt_String_isLatin1 d_String_charAt_1 (C_St_isLatin1 g i hi) rfl rfl (Nat.le_of_ble_eq_true rfl) rfl (by decide) (by omega) (by omega) (fun E cs1 hx => ?_) (fun v cs1 hx => ?_)
  · exact absurd hx.1 (by simp)
  · obtain ⟨e1, rfl⟩ := hx
    cases e1
    refine ⟨rfl, ?_⟩
    refine r_st (st2 := [.int 1]) rfl ?_
    refine r_cs (cs2 := []) rfl ?_
    refine r_if_eq (tgt := 16) d_String_charAt_4 (by decide) (fun c_4 => ?_) (fun c_4 => ?_)
    · exact absurd c_4 (by decide)
    · refine r_aload_n d_String_charAt_7 rfl 0 rfl ?_
      refine r_getSv (i := i) hi lf_String_9 d_String_charAt_8 ?_
      refine r_iload_n d_String_charAt_11 rfl 1 rfl ?_
      refine r_callS (As := [.ref (g.2.2 (20 + i)), .int (nI k)]) (rest := []) (csC := []) (is := []) ln_String_495 w_st_StringLatin1_charAt ok_String_charAt_StringLatin1_charAt d_String_charAt_12 (C_SL_charAt g i k hi hk) rfl rfl (Nat.le_of_ble_eq_true rfl) rfl (by decide) (by omega) (by omega) (fun E cs1 hx => ?_) (fun v cs1 hx => ?_)
      · exact absurd hx.1 (by simp)
      · obtain ⟨e1, rfl⟩ := hx
        cases e1
        refine ⟨rfl, ?_⟩
        refine r_st (st2 := [.int ((z_by i).getD k 0)]) rfl ?_
        refine r_cs (cs2 := []) rfl ?_
        refine r_iret d_String_charAt_15 rfl (congrArg Value.int (z_byc i hi k (by have := (z_by5 i hi).2; omega)).2) ?_
        exact ⟨rfl, rfl⟩
