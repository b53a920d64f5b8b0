def z_obE (w : zW) (m : Nat) (f : Nat → Option Nat) (sp : Nat) : Prop := ∀ i, i < m → ∀ y, f (sp + i) = some y → ∃ ek, w y = some ek ∧ z_ob ek ∧ ¬ z_kd ek = (1, 13, 0)
theorem z_obE.ob {w w1 : zW} {m : Nat} {f : Nat → Option Nat} {sp : Nat} {L : List Nat} (h : z_obE w m f sp) (hk : z_ke (fun q => q ∈ L) w w1) (hL : ∀ q ∈ L, ∃ e, w q = some e ∧ ((z_kd e).1 = 0 ∧ (z_kd e).2.1 = 5 ∨ z_kd e = (1, 13, 0) ∨ w1 q = some e)) : z_obs w1 m f sp := fun i hi y hy => by
  obtain ⟨ek, h1, h2, h3⟩ := h i hi y hy
  refine ⟨ek, ?_, h2⟩
  by_cases hm : y ∈ L
  · obtain ⟨e, a1, a2⟩ := hL y hm
    rw [h1] at a1
    cases a1
    rcases a2 with ⟨b1, b2⟩ | b | b
    · rcases z_ob5 h2 with c | c
      · rw [b1] at c; cases c
      · rw [b2] at c; exact absurd c (by decide)
    · exact absurd b h3
    · exact b
  · exact hk y ek hm h1
theorem nI_prd (k : Nat) : nI (k + 1) - 1 = nI k := by
  rw [← nI_add k 1]
  exact Int32.add_sub_cancel _ _
theorem va_cpy0 {f g : Nat → Option Nat} {a b : Nat} : va_cpy f g a b 0 = g := by
  funext k
  unfold va_cpy
  rw [if_neg (by omega)]
def rmv (f : Nat → Option Nat) (i k : Nat) : Nat → Option Nat := va_up (va_cpy f f (i + 1) i (k - i)) k none
theorem nI_sub {a b : Nat} (h : b ≤ a) : nI a - nI b = nI (a - b) := by
  have e : nI a = nI (a - b) + nI b := by rw [nI_add]; congr 1; omega
  rw [e]
  exact Int32.add_sub_cancel _ _
theorem z_obE.obK {w w1 : zW} {m : Nat} {f : Nat → Option Nat} {sp : Nat} {L : List Nat} (h : z_obE w m f sp) (hk : z_ke (fun q => q ∈ L) w w1) (hL : ∀ q ∈ L, ∃ e, w q = some e ∧ ((z_kd e).1 = 0 ∧ (z_kd e).2.1 = 5 ∨ z_kd e = (1, 13, 0) ∨ w1 q = some e)) : z_obE w1 m f sp := fun i hi y hy => by
  obtain ⟨ek, h1, h2, h3⟩ := h i hi y hy
  refine ⟨ek, ?_, h2, h3⟩
  by_cases hm : y ∈ L
  · obtain ⟨e, a1, a2⟩ := hL y hm
    rw [h1] at a1
    cases a1
    rcases a2 with ⟨b1, b2⟩ | b | b
    · rcases z_ob5 h2 with c | c
      · rw [b1] at c; cases c
      · rw [b2] at c; exact absurd c (by decide)
    · exact absurd b h3
    · exact b
  · exact hk y ek hm h1
abbrev M_ArraysSupport_newLength : zM := (⟨"jdk/internal/util/ArraysSupport", "newLength", "(III)I"⟩, prog_48_method_27_code, 4, (Option.some FieldType.int), 2, 42, [])
theorem d_ArraysSupport_newLength_0 : decode prog_48_method_27_code 0 = .ok (.iload_n 0, 1) := zo_26 (zd_b zq_prog_48_method_27_code_0 0 rfl rfl rfl)
theorem d_ArraysSupport_newLength_1 : decode prog_48_method_27_code 1 = .ok (.iload_n 1, 1) := zo_27 (zd_b zq_prog_48_method_27_code_0 1 rfl rfl rfl)
theorem d_ArraysSupport_newLength_2 : decode prog_48_method_27_code 2 = .ok (.iload_n 2, 1) := zo_28 (zd_b zq_prog_48_method_27_code_0 2 rfl rfl rfl)
theorem d_ArraysSupport_newLength_3 : decode prog_48_method_27_code 3 = .ok (.invokestatic 194, 3) := zo_184 (d := 0) (e := 194) (zd_b zq_prog_48_method_27_code_0 3 rfl rfl rfl) (zd_b zq_prog_48_method_27_code_0 4 rfl rfl rfl) (zd_b zq_prog_48_method_27_code_0 5 rfl rfl rfl)
theorem ln_ArraysSupport_194 : Cond.methodLink "jdk/internal/util/ArraysSupport" 194 Lib.Math.max.name ∈ z_gw := z_mj6 (i := 50) rfl (by decide +kernel)
theorem d_ArraysSupport_newLength_6 : decode prog_48_method_27_code 6 = .ok (.iadd, 1) := zo_96 (zd_b zq_prog_48_method_27_code_0 6 rfl rfl rfl)
theorem d_ArraysSupport_newLength_7 : decode prog_48_method_27_code 7 = .ok (.istore_n 3, 1) := zo_62 (zd_b zq_prog_48_method_27_code_0 7 rfl rfl rfl)
theorem d_ArraysSupport_newLength_8 : decode prog_48_method_27_code 8 = .ok (.iconst 0, 1) := zo_3 (zd_b zq_prog_48_method_27_code_0 8 rfl rfl rfl)
theorem d_ArraysSupport_newLength_9 : decode prog_48_method_27_code 9 = .ok (.iload_n 3, 1) := zo_29 (zd_b zq_prog_48_method_27_code_0 9 rfl rfl rfl)
theorem d_ArraysSupport_newLength_10 : decode prog_48_method_27_code 10 = .ok (.if_icmp .ge 11, 3) := zo_162 (d := 0) (e := 11) (zd_b zq_prog_48_method_27_code_0 10 rfl rfl rfl) (zd_b zq_prog_48_method_27_code_0 11 rfl rfl rfl) (zd_b zq_prog_48_method_27_code_0 12 rfl rfl rfl) (by decide +kernel)
theorem d_ArraysSupport_newLength_13 : decode prog_48_method_27_code 13 = .ok (.iload_n 3, 1) := zo_29 (zd_b zq_prog_48_method_27_code_0 13 rfl rfl rfl)
theorem d_ArraysSupport_newLength_14 : decode prog_48_method_27_code 14 = .ok (.ldc 200, 2) := zo_18 (d := 200) (zd_b zq_prog_48_method_27_code_0 14 rfl rfl rfl) (zd_b zq_prog_48_method_27_code_0 15 rfl rfl rfl)
theorem ct_ArraysSupport_200 : Cond.constant "jdk/internal/util/ArraysSupport" 200 2147483639 ∈ z_gw := z_mj6 (i := 51) rfl (by decide +kernel)
theorem d_ArraysSupport_newLength_16 : decode prog_48_method_27_code 16 = .ok (.if_icmp .gt 5, 3) := zo_163 (d := 0) (e := 5) (zd_b zq_prog_48_method_27_code_0 16 rfl rfl rfl) (zd_b zq_prog_48_method_27_code_0 17 rfl rfl rfl) (zd_b zq_prog_48_method_27_code_0 18 rfl rfl rfl) (by decide +kernel)
theorem d_ArraysSupport_newLength_19 : decode prog_48_method_27_code 19 = .ok (.iload_n 3, 1) := zo_29 (zd_b zq_prog_48_method_27_code_0 19 rfl rfl rfl)
theorem d_ArraysSupport_newLength_20 : decode prog_48_method_27_code 20 = .ok (.ireturn, 1) := zo_172 (zd_b zq_prog_48_method_27_code_0 20 rfl rfl rfl)
set_option maxHeartbeats 4000000 in
set_option maxRecDepth 100000 in
theorem C_As_newLength10 (g : zG)  : CP g M_ArraysSupport_newLength [.int 10, .int 1, .int 5] [] (fun _ => True) (fun o cs1 => o = .inl (some (.int 15)) ∧ cs1 = []) 0 0 := by
  intro w hI hP
  refine y_ofM (by decide) rfl (Nat.le_of_ble_eq_true rfl) (y_base hI ?_)
  refine y_lvE (lv2 := [(0, .int 10), (1, .int 1), (2, .int 5)]) rfl ?_
  refine y_iload_n d_ArraysSupport_newLength_0 rfl 0 rfl ?_
  refine y_iload_n d_ArraysSupport_newLength_1 rfl 1 rfl ?_
  refine y_iload_n d_ArraysSupport_newLength_2 rfl 2 rfl ?_
  refine y_max (v := 5) ln_ArraysSupport_194 w_mmax w_mi w_cmax d_ArraysSupport_newLength_3 (by decide) (by decide) (Nat.le_of_ble_eq_true rfl) (by decide) ?_
  refine y_iadd d_ArraysSupport_newLength_6 (v := 15) (by decide) ?_
  refine y_istore_n (lv' := [(3, .int 15), (0, .int 10), (1, .int 1), (2, .int 5)]) d_ArraysSupport_newLength_7 rfl (by decide) rfl ?_
  refine y_iconst d_ArraysSupport_newLength_8 (v := 0) (by decide) ?_
  refine y_iload_n d_ArraysSupport_newLength_9 rfl 0 rfl ?_
  refine y_icmp_ge (tgt := 21) d_ArraysSupport_newLength_10 (by decide) (fun c_10 => ?_) (fun c_10 => ?_)
  · exact absurd c_10 (by decide)
  · refine y_iload_n d_ArraysSupport_newLength_13 rfl 0 rfl ?_
    refine y_ldc ct_ArraysSupport_200 d_ArraysSupport_newLength_14 ?_
    refine y_icmp_gt (tgt := 21) d_ArraysSupport_newLength_16 (by decide) (fun c_16 => ?_) (fun c_16 => ?_)
    · exact absurd c_16 (by decide)
    · refine y_iload_n d_ArraysSupport_newLength_19 rfl 0 rfl ?_
      refine y_iret d_ArraysSupport_newLength_20 rfl rfl ?_
      exact fun w1 h1 => ⟨_, ⟨rfl, rfl⟩, h1⟩
abbrev M_Arrays_copyOf_1 : zM := (⟨"java/util/Arrays", "copyOf", "([Ljava/lang/Object;ILjava/lang/Class;)[Ljava/lang/Object;"⟩, prog_41_method_120_code, 4, (Option.some (FieldType.array (FieldType.object "java/lang/Object"))), 2, 100, [])
theorem d_Arrays_copyOf_1_0 : decode prog_41_method_120_code 0 = .ok (.aload_n 2, 1) := zo_44 (zd_b zq_prog_41_method_120_code_0 0 rfl rfl rfl)
theorem d_Arrays_copyOf_1_1 : decode prog_41_method_120_code 1 = .ok (.ldc 110, 2) := zo_18 (d := 110) (zd_b zq_prog_41_method_120_code_0 1 rfl rfl rfl) (zd_b zq_prog_41_method_120_code_0 2 rfl rfl rfl)
theorem lk_Arrays_110 : Cond.classLink "java/util/Arrays" 110 "[Ljava/lang/Object;" ∈ z_gw := z_mj6 (i := 86) rfl (by decide +kernel)
theorem d_Arrays_copyOf_1_3 : decode prog_41_method_120_code 3 = .ok (.if_acmp .ne 10, 3) := zo_166 (d := 0) (e := 10) (zd_b zq_prog_41_method_120_code_0 3 rfl rfl rfl) (zd_b zq_prog_41_method_120_code_0 4 rfl rfl rfl) (zd_b zq_prog_41_method_120_code_0 5 rfl rfl rfl) (by decide +kernel)
theorem d_Arrays_copyOf_1_6 : decode prog_41_method_120_code 6 = .ok (.iload_n 1, 1) := zo_27 (zd_b zq_prog_41_method_120_code_0 6 rfl rfl rfl)
theorem d_Arrays_copyOf_1_7 : decode prog_41_method_120_code 7 = .ok (.anewarray 2, 3) := zo_189 (d := 0) (e := 2) (zd_b zq_prog_41_method_120_code_0 7 rfl rfl rfl) (zd_b zq_prog_41_method_120_code_0 8 rfl rfl rfl) (zd_b zq_prog_41_method_120_code_0 9 rfl rfl rfl)
theorem lo_Arrays_2 : Cond.classLink "java/util/Arrays" 2 "java/lang/Object" ∈ z_gw := z_mj6 (i := 88) rfl (by decide +kernel)
theorem d_Arrays_copyOf_1_10 : decode prog_41_method_120_code 10 = .ok (.goto 14, 3) := zo_167 (d := 0) (e := 14) (zd_b zq_prog_41_method_120_code_0 10 rfl rfl rfl) (zd_b zq_prog_41_method_120_code_0 11 rfl rfl rfl) (zd_b zq_prog_41_method_120_code_0 12 rfl rfl rfl) (by decide +kernel)
theorem d_Arrays_copyOf_1_24 : decode prog_41_method_120_code 24 = .ok (.astore_n 3, 1) := zo_78 (zd_b zq_prog_41_method_120_code_0 24 rfl rfl rfl)
theorem d_Arrays_copyOf_1_25 : decode prog_41_method_120_code 25 = .ok (.aload_n 0, 1) := zo_42 (zd_b zq_prog_41_method_120_code_0 25 rfl rfl rfl)
theorem d_Arrays_copyOf_1_26 : decode prog_41_method_120_code 26 = .ok (.iconst 0, 1) := zo_3 (zd_b zq_prog_41_method_120_code_0 26 rfl rfl rfl)
theorem d_Arrays_copyOf_1_27 : decode prog_41_method_120_code 27 = .ok (.aload_n 3, 1) := zo_45 (zd_b zq_prog_41_method_120_code_0 27 rfl rfl rfl)
theorem d_Arrays_copyOf_1_28 : decode prog_41_method_120_code 28 = .ok (.iconst 0, 1) := zo_3 (zd_b zq_prog_41_method_120_code_0 28 rfl rfl rfl)
theorem d_Arrays_copyOf_1_29 : decode prog_41_method_120_code 29 = .ok (.aload_n 0, 1) := zo_42 (zd_b zq_prog_41_method_120_code_0 29 rfl rfl rfl)
theorem d_Arrays_copyOf_1_30 : decode prog_41_method_120_code 30 = .ok (.arraylength, 1) := zo_190 (zd_b zq_prog_41_method_120_code_0 30 rfl rfl rfl)
theorem d_Arrays_copyOf_1_31 : decode prog_41_method_120_code 31 = .ok (.iload_n 1, 1) := zo_27 (zd_b zq_prog_41_method_120_code_0 31 rfl rfl rfl)
theorem d_Arrays_copyOf_1_32 : decode prog_41_method_120_code 32 = .ok (.invokestatic 304, 3) := zo_184 (d := 1) (e := 48) (zd_b zq_prog_41_method_120_code_1 0 rfl rfl rfl) (zd_b zq_prog_41_method_120_code_1 1 rfl rfl rfl) (zd_b zq_prog_41_method_120_code_1 2 rfl rfl rfl)
theorem ln_Arrays_304 : Cond.methodLink "java/util/Arrays" 304 Lib.Math.min.name ∈ z_gw := z_mj6 (i := 89) rfl (by decide +kernel)
theorem d_Arrays_copyOf_1_35 : decode prog_41_method_120_code 35 = .ok (.invokestatic 150, 3) := zo_184 (d := 0) (e := 150) (zd_b zq_prog_41_method_120_code_1 3 rfl rfl rfl) (zd_b zq_prog_41_method_120_code_1 4 rfl rfl rfl) (zd_b zq_prog_41_method_120_code_1 5 rfl rfl rfl)
theorem ln_Arrays_150 : Cond.methodLink "java/util/Arrays" 150 arraycopyName ∈ z_gw := z_mj6 (i := 90) rfl (by decide +kernel)
theorem d_Arrays_copyOf_1_38 : decode prog_41_method_120_code 38 = .ok (.aload_n 3, 1) := zo_45 (zd_b zq_prog_41_method_120_code_1 6 rfl rfl rfl)
theorem d_Arrays_copyOf_1_39 : decode prog_41_method_120_code 39 = .ok (.areturn, 1) := zo_176 (zd_b zq_prog_41_method_120_code_1 7 rfl rfl rfl)
set_option maxHeartbeats 4000000 in
set_option maxRecDepth 100000 in
theorem C_Ar_copyOf3_10 (g : zG) (dd : Nat) (f : Nat → Option Nat) : CP g M_Arrays_copyOf_1 [.ref dd, .int 15, .ref (g.2.2 42)] [(dd, .inl (5, 10, .inr (.inr (.inr (.inr f)))))] (fun w => z_obE w 10 f 0) (fun o cs1 => ∃ q, o = .inl (some (.ref q)) ∧ cs1 = [(dd, .inl (5, 10, .inr (.inr (.inr (.inr f))))), (q, .inl (5, 15, .inr (.inr (.inr (.inr (va_cpy f (fun _ => none) 0 0 10))))))]) 1 15 := by
  intro w hI hP
  refine y_ofM (by decide) rfl (Nat.le_of_ble_eq_true rfl) (y_base hI ?_)
  refine y_lvE (lv2 := [(0, .ref dd), (1, .int 15), (2, .ref (g.2.2 42))]) rfl ?_
  refine y_aload_n d_Arrays_copyOf_1_0 rfl 2 rfl ?_
  refine y_ldcM lk_Arrays_110 d_Arrays_copyOf_1_1 ?_
  refine y_acmp_ne (tgt := 13) d_Arrays_copyOf_1_3 (by decide) (fun c_3 => ?_) (fun c_3 => ?_)
  · exact absurd rfl c_3
  · refine y_iload_n d_Arrays_copyOf_1_6 rfl 1 rfl ?_
    refine y_anewa (N := 15) lo_Arrays_2 d_Arrays_copyOf_1_7 (by decide) (by decide) (by decide) (by omega) (by omega) (fun q => ?_)
    refine y_cs (cs2 := [(dd, .inl (5, 10, .inr (.inr (.inr (.inr f))))), (q, .inl (5, 15, .inr (.inr (.inr (.inr (fun _ => none))))))]) rfl ?_
    refine y_goto (tgt := 24) d_Arrays_copyOf_1_10 (by decide) ?_
    refine y_astore_n (lv' := [(3, .ref q), (0, .ref dd), (1, .int 15), (2, .ref (g.2.2 42))]) d_Arrays_copyOf_1_24 rfl (by decide) rfl ?_
    refine y_aload_n d_Arrays_copyOf_1_25 rfl 1 rfl ?_
    refine y_iconst d_Arrays_copyOf_1_26 (v := 0) (by decide) ?_
    refine y_aload_n d_Arrays_copyOf_1_27 rfl 0 rfl ?_
    refine y_iconst d_Arrays_copyOf_1_28 (v := 0) (by decide) ?_
    refine y_aload_n d_Arrays_copyOf_1_29 rfl 1 rfl ?_
    refine y_alen d_Arrays_copyOf_1_30 (q0 := 0) rfl rfl (v := 10) rfl ?_
    refine y_iload_n d_Arrays_copyOf_1_31 rfl 2 rfl ?_
    refine y_min (v := 10) ln_Arrays_304 w_mmin w_mi w_cmin d_Arrays_copyOf_1_32 (by decide) (by decide) (Nat.le_of_ble_eq_true rfl) (by decide) ?_
    refine y_copyq (f' := va_cpy f (fun _ => none) 0 0 10) (q0 := 0) (q1 := 1) (cs' := [(dd, .inl (5, 10, .inr (.inr (.inr (.inr f))))), (q, .inl (5, 15, .inr (.inr (.inr (.inr (va_cpy f (fun _ => none) 0 0 10))))))]) ln_Arrays_150 w_ac1 w_ac2 w_ac3 d_Arrays_copyOf_1_35 rfl rfl (by decide) (by decide) (by decide) (by decide) (by decide) (fun w9 hC => hP.ob (hC.ke (L := [dd]) rfl) (fun q8 hq8 => by rw [List.mem_singleton.mp hq8]; exact ⟨_, hI.1 _ List.mem_cons_self, Or.inl ⟨rfl, rfl⟩⟩)) rfl rfl (by decide) (by decide +kernel) (Nat.le_of_ble_eq_true rfl) ?_
    refine y_aload_n d_Arrays_copyOf_1_38 rfl 0 rfl ?_
    refine y_aret d_Arrays_copyOf_1_39 rfl (Or.inr ⟨_, rfl⟩) (Or.inr ⟨_, rfl⟩) ?_
    exact fun w1 h1 => ⟨_, ⟨q, rfl, rfl⟩, h1⟩
abbrev M_Arrays_copyOf_0 : zM := (⟨"java/util/Arrays", "copyOf", "([Ljava/lang/Object;I)[Ljava/lang/Object;"⟩, prog_41_method_119_code, 2, (Option.some (FieldType.array (FieldType.object "java/lang/Object"))), 3, 123, [])
theorem d_Arrays_copyOf_0_0 : decode prog_41_method_119_code 0 = .ok (.aload_n 0, 1) := zo_42 (zd_b zq_prog_41_method_119_code_0 0 rfl rfl rfl)
theorem d_Arrays_copyOf_0_1 : decode prog_41_method_119_code 1 = .ok (.iload_n 1, 1) := zo_27 (zd_b zq_prog_41_method_119_code_0 1 rfl rfl rfl)
theorem d_Arrays_copyOf_0_2 : decode prog_41_method_119_code 2 = .ok (.aload_n 0, 1) := zo_42 (zd_b zq_prog_41_method_119_code_0 2 rfl rfl rfl)
theorem d_Arrays_copyOf_0_3 : decode prog_41_method_119_code 3 = .ok (.invokevirtual 86, 3) := zo_182 (d := 0) (e := 86) (zd_b zq_prog_41_method_119_code_0 3 rfl rfl rfl) (zd_b zq_prog_41_method_119_code_0 4 rfl rfl rfl) (zd_b zq_prog_41_method_119_code_0 5 rfl rfl rfl)
theorem ln_Arrays_86 : Cond.methodLink "java/util/Arrays" 86 ⟨"java/lang/Object", "getClass", "()Ljava/lang/Class;"⟩ ∈ z_gw := z_mj6 (i := 58) rfl (by decide +kernel)
theorem w_gc1 : Cond.declares ⟨"java/lang/Object", "getClass", "()Ljava/lang/Class;"⟩ ∈ z_nw := z_mk9 (i := 108) rfl (by decide +kernel)
theorem w_gc2 : Cond.selects "[Ljava/lang/Object;" ⟨"java/lang/Object", "getClass", "()Ljava/lang/Class;"⟩ ⟨"java/lang/Object", "getClass", "()Ljava/lang/Class;"⟩ ∈ z_gw := z_mj9 (i := 107) rfl (by decide +kernel)
theorem w_gc3 : Cond.instanceMethod ⟨"java/lang/Object", "getClass", "()Ljava/lang/Class;"⟩ ∈ z_gw := z_mj6 (i := 59) rfl (by decide +kernel)
theorem w_gc4 : Cond.native ⟨"java/lang/Object", "getClass", "()Ljava/lang/Class;"⟩ ∈ z_gw := z_mj6 (i := 82) rfl (by decide +kernel)
theorem d_Arrays_copyOf_0_6 : decode prog_41_method_119_code 6 = .ok (.invokestatic 300, 3) := zo_184 (d := 1) (e := 44) (zd_b zq_prog_41_method_119_code_0 6 rfl rfl rfl) (zd_b zq_prog_41_method_119_code_0 7 rfl rfl rfl) (zd_b zq_prog_41_method_119_code_0 8 rfl rfl rfl)
theorem ok_Arrays_copyOf_0_Arrays_copyOf_1 : z_ok M_Arrays_copyOf_0 M_Arrays_copyOf_1 3 := ⟨z_mj6 (i := 85) rfl (by decide +kernel), rfl, ⟨by decide +kernel, by decide +kernel, by decide +kernel⟩, ⟨by decide, by decide⟩, z_mj1 (i := 28) rfl (by decide +kernel), rfl⟩
theorem ln_Arrays_300 : Cond.methodLink "java/util/Arrays" 300 M_Arrays_copyOf_1.1 ∈ z_gw := z_mj6 (i := 83) rfl (by decide +kernel)
theorem w_st_Arrays_copyOf_1 : Cond.static M_Arrays_copyOf_1.1 ∈ z_gw := z_mj6 (i := 84) rfl (by decide +kernel)
theorem d_Arrays_copyOf_0_9 : decode prog_41_method_119_code 9 = .ok (.areturn, 1) := zo_176 (zd_b zq_prog_41_method_119_code_0 9 rfl rfl rfl)
set_option maxHeartbeats 4000000 in
set_option maxRecDepth 100000 in
theorem C_Ar_copyOf2_10 (g : zG) (dd : Nat) (f : Nat → Option Nat) : CP g M_Arrays_copyOf_0 [.ref dd, .int 15] [(dd, .inl (5, 10, .inr (.inr (.inr (.inr f)))))] (fun w => z_obE w 10 f 0) (fun o cs1 => ∃ q, o = .inl (some (.ref q)) ∧ cs1 = [(dd, .inl (5, 10, .inr (.inr (.inr (.inr f))))), (q, .inl (5, 15, .inr (.inr (.inr (.inr (va_cpy f (fun _ => none) 0 0 10))))))]) 1 15 := by
  intro w hI hP
  refine y_ofM (by decide) rfl (Nat.le_of_ble_eq_true rfl) (y_base hI ?_)
  refine y_lvE (lv2 := [(0, .ref dd), (1, .int 15)]) rfl ?_
  refine y_aload_n d_Arrays_copyOf_0_0 rfl 0 rfl ?_
  refine y_iload_n d_Arrays_copyOf_0_1 rfl 1 rfl ?_
  refine y_aload_n d_Arrays_copyOf_0_2 rfl 0 rfl ?_
  refine y_getC ln_Arrays_86 w_gc1 w_gc2 w_gc3 w_gc4 d_Arrays_copyOf_0_3 (q0 := 0) rfl (by decide) (by decide) (Nat.le_of_ble_eq_true rfl) ?_
  refine yp_callS (As := [.ref dd, .int 15, .ref (g.2.2 42)]) (rest := []) (csC := [(dd, .inl (5, 10, .inr (.inr (.inr (.inr f)))))]) (is := [0]) ln_Arrays_300 w_st_Arrays_copyOf_1 ok_Arrays_copyOf_0_Arrays_copyOf_1 d_Arrays_copyOf_0_6 ((fun w9 hI9 hC9 => C_Ar_copyOf3_10 g dd f w9 hC9 (by rw [z_I.same hI hI9]; exact hP))) rfl rfl (Nat.le_of_ble_eq_true rfl) rfl (by decide) (by omega) (by omega) (fun E cs1 hx => ?_) (fun v cs1 hx => ?_)
  · obtain ⟨q, e1, -⟩ := hx
    cases e1
  · obtain ⟨q, e1, rfl⟩ := hx
    cases e1
    refine ⟨rfl, ?_⟩
    refine y_st (st2 := [.ref q]) rfl ?_
    refine y_cs (cs2 := [(dd, .inl (5, 10, .inr (.inr (.inr (.inr f))))), (q, .inl (5, 15, .inr (.inr (.inr (.inr (va_cpy f (fun _ => none) 0 0 10))))))]) rfl ?_
    refine y_aret d_Arrays_copyOf_0_9 rfl (Or.inr ⟨_, rfl⟩) (Or.inr ⟨_, rfl⟩) ?_
    exact fun w1 h1 => ⟨_, ⟨q, rfl, rfl⟩, h1⟩
theorem d_AL_grow_1_20 : decode prog_40_method_6_code 20 = .ok (.iload_n 2, 1) := zo_28 (zd_b zq_prog_40_method_6_code_0 20 rfl rfl rfl)
theorem d_AL_grow_1_21 : decode prog_40_method_6_code 21 = .ok (.iload_n 1, 1) := zo_27 (zd_b zq_prog_40_method_6_code_0 21 rfl rfl rfl)
theorem d_AL_grow_1_22 : decode prog_40_method_6_code 22 = .ok (.iload_n 2, 1) := zo_28 (zd_b zq_prog_40_method_6_code_0 22 rfl rfl rfl)
theorem d_AL_grow_1_23 : decode prog_40_method_6_code 23 = .ok (.isub, 1) := zo_100 (zd_b zq_prog_40_method_6_code_0 23 rfl rfl rfl)
theorem d_AL_grow_1_24 : decode prog_40_method_6_code 24 = .ok (.iload_n 2, 1) := zo_28 (zd_b zq_prog_40_method_6_code_0 24 rfl rfl rfl)
theorem d_AL_grow_1_25 : decode prog_40_method_6_code 25 = .ok (.iconst 1, 1) := zo_4 (zd_b zq_prog_40_method_6_code_0 25 rfl rfl rfl)
theorem d_AL_grow_1_26 : decode prog_40_method_6_code 26 = .ok (.ishr, 1) := zo_122 (zd_b zq_prog_40_method_6_code_0 26 rfl rfl rfl)
theorem d_AL_grow_1_27 : decode prog_40_method_6_code 27 = .ok (.invokestatic 73, 3) := zo_184 (d := 0) (e := 73) (zd_b zq_prog_40_method_6_code_0 27 rfl rfl rfl) (zd_b zq_prog_40_method_6_code_0 28 rfl rfl rfl) (zd_b zq_prog_40_method_6_code_0 29 rfl rfl rfl)
theorem ok_AL_grow_1_ArraysSupport_newLength : z_ok M_AL_grow_1 M_ArraysSupport_newLength 3 := ⟨z_mj6 (i := 49) rfl (by decide +kernel), rfl, ⟨by decide +kernel, by decide +kernel, by decide +kernel⟩, ⟨by decide, by decide⟩, z_mj1 (i := 31) rfl (by decide +kernel), rfl⟩
theorem ln_AL_73 : Cond.methodLink "java/util/ArrayList" 73 M_ArraysSupport_newLength.1 ∈ z_gw := z_mj6 (i := 47) rfl (by decide +kernel)
theorem w_st_ArraysSupport_newLength : Cond.static M_ArraysSupport_newLength.1 ∈ z_gw := z_mj6 (i := 48) rfl (by decide +kernel)
theorem d_AL_grow_1_30 : decode prog_40_method_6_code 30 = .ok (.istore_n 3, 1) := zo_62 (zd_b zq_prog_40_method_6_code_0 30 rfl rfl rfl)
theorem d_AL_grow_1_31 : decode prog_40_method_6_code 31 = .ok (.aload_n 0, 1) := zo_42 (zd_b zq_prog_40_method_6_code_0 31 rfl rfl rfl)
theorem d_AL_grow_1_32 : decode prog_40_method_6_code 32 = .ok (.aload_n 0, 1) := zo_42 (zd_b zq_prog_40_method_6_code_1 0 rfl rfl rfl)
theorem d_AL_grow_1_33 : decode prog_40_method_6_code 33 = .ok (.getfield 9, 3) := zo_180 (d := 0) (e := 9) (zd_b zq_prog_40_method_6_code_1 1 rfl rfl rfl) (zd_b zq_prog_40_method_6_code_1 2 rfl rfl rfl) (zd_b zq_prog_40_method_6_code_1 3 rfl rfl rfl)
theorem d_AL_grow_1_36 : decode prog_40_method_6_code 36 = .ok (.iload_n 3, 1) := zo_29 (zd_b zq_prog_40_method_6_code_1 4 rfl rfl rfl)
theorem d_AL_grow_1_37 : decode prog_40_method_6_code 37 = .ok (.invokestatic 66, 3) := zo_184 (d := 0) (e := 66) (zd_b zq_prog_40_method_6_code_1 5 rfl rfl rfl) (zd_b zq_prog_40_method_6_code_1 6 rfl rfl rfl) (zd_b zq_prog_40_method_6_code_1 7 rfl rfl rfl)
theorem ok_AL_grow_1_Arrays_copyOf_0 : z_ok M_AL_grow_1 M_Arrays_copyOf_0 2 := ⟨z_mj6 (i := 57) rfl (by decide +kernel), rfl, ⟨by decide +kernel, by decide +kernel, by decide +kernel⟩, ⟨by decide, by decide⟩, z_mj1 (i := 28) rfl (by decide +kernel), rfl⟩
theorem ln_AL_66 : Cond.methodLink "java/util/ArrayList" 66 M_Arrays_copyOf_0.1 ∈ z_gw := z_mj6 (i := 55) rfl (by decide +kernel)
theorem w_st_Arrays_copyOf_0 : Cond.static M_Arrays_copyOf_0.1 ∈ z_gw := z_mj6 (i := 56) rfl (by decide +kernel)
theorem d_AL_grow_1_40 : decode prog_40_method_6_code 40 = .ok (.dup_x1, 1) := zo_90 (zd_b zq_prog_40_method_6_code_1 8 rfl rfl rfl)
theorem d_AL_grow_1_41 : decode prog_40_method_6_code 41 = .ok (.putfield 9, 3) := zo_181 (d := 0) (e := 9) (zd_b zq_prog_40_method_6_code_1 9 rfl rfl rfl) (zd_b zq_prog_40_method_6_code_1 10 rfl rfl rfl) (zd_b zq_prog_40_method_6_code_1 11 rfl rfl rfl)
theorem d_AL_grow_1_44 : decode prog_40_method_6_code 44 = .ok (.areturn, 1) := zo_176 (zd_b zq_prog_40_method_6_code_1 12 rfl rfl rfl)
set_option maxHeartbeats 4000000 in
set_option maxRecDepth 100000 in
theorem C_AL_growI10 (g : zG) (a dd : Nat) (md : Int32) (f : Nat → Option Nat) : CP g M_AL_grow_1 [.ref a, .int 11] [(a, .inr (13, [.int md, .ref dd, .int 10])), (dd, .inl (5, 10, .inr (.inr (.inr (.inr f)))))] (fun w => z_obE w 10 f 0) (fun o cs1 => ∃ q, o = .inl (some (.ref q)) ∧ cs1 = [(a, .inr (13, [.int md, .ref q, .int 10])), (dd, .inl (5, 10, .inr (.inr (.inr (.inr f))))), (q, .inl (5, 15, .inr (.inr (.inr (.inr (va_cpy f (fun _ => none) 0 0 10))))))]) 1 15 := by
  intro w hI hP
  refine y_ofM (by decide) rfl (Nat.le_of_ble_eq_true rfl) (y_base hI ?_)
  refine y_lvE (lv2 := [(0, .ref a), (1, .int 11)]) rfl ?_
  refine y_aload_n d_AL_grow_1_0 rfl 0 rfl ?_
  refine y_get fs_AL_9 d_AL_grow_1_1 (q0 := 0) rfl rfl ?_
  refine y_alen d_AL_grow_1_4 (q0 := 1) rfl rfl (v := 10) rfl ?_
  refine y_istore_n (lv' := [(2, .int 10), (0, .ref a), (1, .int 11)]) d_AL_grow_1_5 rfl (by decide) rfl ?_
  refine y_iload_n d_AL_grow_1_6 rfl 0 rfl ?_
  refine y_if_gt (tgt := 20) d_AL_grow_1_7 (by decide) (fun c_7 => ?_) (fun c_7 => ?_)
  · refine y_iload_n d_AL_grow_1_20 rfl 0 rfl ?_
    refine y_iload_n d_AL_grow_1_21 rfl 2 rfl ?_
    refine y_iload_n d_AL_grow_1_22 rfl 0 rfl ?_
    refine y_isub d_AL_grow_1_23 (v := 1) rfl ?_
    refine y_iload_n d_AL_grow_1_24 rfl 0 rfl ?_
    refine y_iconst d_AL_grow_1_25 (v := 1) (by decide) ?_
    refine y_ishr d_AL_grow_1_26 (v := 5) (by decide) ?_
    refine yp_callS (As := [.int 10, .int 1, .int 5]) (rest := []) (csC := []) (is := []) ln_AL_73 w_st_ArraysSupport_newLength ok_AL_grow_1_ArraysSupport_newLength d_AL_grow_1_27 ((fun w9 hI9 hC9 => C_As_newLength10 g w9 hC9 trivial)) rfl rfl (Nat.le_of_ble_eq_true rfl) rfl (by decide) (by omega) (by omega) (fun E cs1 hx => ?_) (fun v cs1 hx => ?_)
    · exact absurd hx.1 (by simp)
    · obtain ⟨e1, rfl⟩ := hx
      cases e1
      refine ⟨rfl, ?_⟩
      refine y_st (st2 := [.int 15]) rfl ?_
      refine y_cs (cs2 := [(a, .inr (13, [.int md, .ref dd, .int 10])), (dd, .inl (5, 10, .inr (.inr (.inr (.inr f)))))]) rfl ?_
      refine y_istore_n (lv' := [(3, .int 15), (2, .int 10), (0, .ref a), (1, .int 11)]) d_AL_grow_1_30 rfl (by decide) rfl ?_
      refine y_aload_n d_AL_grow_1_31 rfl 2 rfl ?_
      refine y_aload_n d_AL_grow_1_32 rfl 2 rfl ?_
      refine y_get fs_AL_9 d_AL_grow_1_33 (q0 := 0) rfl rfl ?_
      refine y_iload_n d_AL_grow_1_36 rfl 0 rfl ?_
      refine yp_callS (As := [.ref dd, .int 15]) (rest := [.ref a]) (csC := [(dd, .inl (5, 10, .inr (.inr (.inr (.inr f)))))]) (is := [1]) ln_AL_66 w_st_Arrays_copyOf_0 ok_AL_grow_1_Arrays_copyOf_0 d_AL_grow_1_37 ((fun w9 hI9 hC9 => C_Ar_copyOf2_10 g dd f w9 hC9 (by rw [z_I.same hI hI9]; exact hP))) rfl rfl (Nat.le_of_ble_eq_true rfl) rfl (by decide) (by omega) (by omega) (fun E cs1 hx => ?_) (fun v cs1 hx => ?_)
      · obtain ⟨q, e1, -⟩ := hx
        cases e1
      · obtain ⟨q, e1, rfl⟩ := hx
        cases e1
        refine ⟨rfl, ?_⟩
        refine y_st (st2 := [.ref q, .ref a]) rfl ?_
        refine y_cs (cs2 := [(a, .inr (13, [.int md, .ref dd, .int 10])), (dd, .inl (5, 10, .inr (.inr (.inr (.inr f))))), (q, .inl (5, 15, .inr (.inr (.inr (.inr (va_cpy f (fun _ => none) 0 0 10))))))]) rfl ?_
        refine y_dupx1 d_AL_grow_1_40 rfl rfl ?_
        refine y_put fp_AL_9 d_AL_grow_1_41 (fun h => nomatch h) rfl rfl (q0 := 0) rfl (Nat.le_of_ble_eq_true rfl) (cs' := [(a, .inr (13, [.int md, .ref q, .int 10])), (dd, .inl (5, 10, .inr (.inr (.inr (.inr f))))), (q, .inl (5, 15, .inr (.inr (.inr (.inr (va_cpy f (fun _ => none) 0 0 10))))))]) rfl ?_
        refine y_aret d_AL_grow_1_44 rfl (Or.inr ⟨_, rfl⟩) (Or.inr ⟨_, rfl⟩) ?_
        exact fun w1 h1 => ⟨_, ⟨q, rfl, rfl⟩, h1⟩
  · exact absurd c_7 (by decide)
set_option maxHeartbeats 4000000 in
set_option maxRecDepth 100000 in
theorem C_AL_grow10 (g : zG) (a dd : Nat) (md : Int32) (f : Nat → Option Nat) : CP g M_AL_grow_0 [.ref a] [(a, .inr (13, [.int md, .ref dd, .int 10])), (dd, .inl (5, 10, .inr (.inr (.inr (.inr f)))))] (fun w => z_obE w 10 f 0) (fun o cs1 => ∃ q, o = .inl (some (.ref q)) ∧ cs1 = [(a, .inr (13, [.int md, .ref q, .int 10])), (dd, .inl (5, 10, .inr (.inr (.inr (.inr f))))), (q, .inl (5, 15, .inr (.inr (.inr (.inr (va_cpy f (fun _ => none) 0 0 10))))))]) 1 15 := by
  intro w hI hP
  refine y_ofM (by decide) rfl (Nat.le_of_ble_eq_true rfl) (y_base hI ?_)
  refine y_lvE (lv2 := [(0, .ref a)]) rfl ?_
  refine y_aload_n d_AL_grow_0_0 rfl 0 rfl ?_
  refine y_aload_n d_AL_grow_0_1 rfl 0 rfl ?_
  refine y_get fs_AL_48 d_AL_grow_0_2 (q0 := 0) rfl rfl ?_
  refine y_iconst d_AL_grow_0_5 (v := 1) (by decide) ?_
  refine y_iadd d_AL_grow_0_6 (v := 11) rfl ?_
  refine yp_callV (As := [.int 11]) (rest := []) (csC := [(a, .inr (13, [.int md, .ref dd, .int 10])), (dd, .inl (5, 10, .inr (.inr (.inr (.inr f)))))]) (is := [0, 1]) (q0 := 0) rfl rfl ln_AL_69 w_im_AL_grow_1 w_se_AL_grow_1 ok_AL_grow_0_AL_grow_1 d_AL_grow_0_7 ((fun w9 hI9 hC9 => C_AL_growI10 g a dd md f w9 hC9 (by rw [z_I.same hI hI9]; exact hP))) rfl rfl (Nat.le_of_ble_eq_true rfl) rfl (by decide) (by omega) (by omega) (fun E cs1 hx => ?_) (fun v cs1 hx => ?_)
  · obtain ⟨q, e1, -⟩ := hx
    cases e1
  · obtain ⟨q, e1, rfl⟩ := hx
    cases e1
    refine ⟨rfl, ?_⟩
    refine y_st (st2 := [.ref q]) rfl ?_
    refine y_cs (cs2 := [(a, .inr (13, [.int md, .ref q, .int 10])), (dd, .inl (5, 10, .inr (.inr (.inr (.inr f))))), (q, .inl (5, 15, .inr (.inr (.inr (.inr (va_cpy f (fun _ => none) 0 0 10))))))]) rfl ?_
    refine y_aret d_AL_grow_0_10 rfl (Or.inr ⟨_, rfl⟩) (Or.inr ⟨_, rfl⟩) ?_
    exact fun w1 h1 => ⟨_, ⟨q, rfl, rfl⟩, h1⟩
set_option maxHeartbeats 4000000 in
set_option maxRecDepth 100000 in
theorem C_AL_addAG10 (g : zG) (a v dd : Nat) (md : Int32) (f : Nat → Option Nat) (ek : zE) (ho : z_ob ek) : CP g M_AL_add_1 [.ref a, .ref v, .ref dd, .int 10] [(a, .inr (13, [.int md, .ref dd, .int 10])), (v, ek), (dd, .inl (5, 10, .inr (.inr (.inr (.inr f)))))] (fun w => z_obE w 10 f 0) (fun o cs1 => ∃ q, o = .inl none ∧ cs1 = [(a, .inr (13, [.int md, .ref q, .int 11])), (v, ek), (dd, .inl (5, 10, .inr (.inr (.inr (.inr f))))), (q, .inl (5, 15, .inr (.inr (.inr (.inr (va_up (va_cpy f (fun _ => none) 0 0 10) 10 (some v)))))))]) 1 15 := by
  intro w hI hP
  refine y_ofM (by decide) rfl (Nat.le_of_ble_eq_true rfl) (y_base hI ?_)
  refine y_lvE (lv2 := [(0, .ref a), (1, .ref v), (2, .ref dd), (3, .int 10)]) rfl ?_
  refine y_iload_n d_AL_add_1_0 rfl 3 rfl ?_
  refine y_aload_n d_AL_add_1_1 rfl 2 rfl ?_
  refine y_alen d_AL_add_1_2 (q0 := 2) rfl rfl (v := 10) rfl ?_
  refine y_icmp_ne (tgt := 11) d_AL_add_1_3 (by decide) (fun c_3 => ?_) (fun c_3 => ?_)
  · exact absurd c_3 (by decide)
  · refine y_aload_n d_AL_add_1_6 rfl 0 rfl ?_
    refine yp_callV (As := []) (rest := []) (csC := [(a, .inr (13, [.int md, .ref dd, .int 10])), (dd, .inl (5, 10, .inr (.inr (.inr (.inr f)))))]) (is := [0, 2]) (q0 := 0) rfl rfl ln_AL_129 w_im_AL_grow_0 w_se_AL_grow_0 ok_AL_add_1_AL_grow_0 d_AL_add_1_7 ((fun w9 hI9 hC9 => C_AL_grow10 g a dd md f w9 hC9 (by rw [z_I.same hI hI9]; exact hP))) rfl rfl (Nat.le_of_ble_eq_true rfl) rfl (by decide) (by omega) (by omega) (fun E cs1 hx => ?_) (fun v cs1 hx => ?_)
    · obtain ⟨q, e1, -⟩ := hx
      cases e1
    · obtain ⟨q, e1, rfl⟩ := hx
      cases e1
      refine ⟨rfl, ?_⟩
      refine y_st (st2 := [.ref q]) rfl ?_
      refine y_cs (cs2 := [(a, .inr (13, [.int md, .ref q, .int 10])), (v, ek), (dd, .inl (5, 10, .inr (.inr (.inr (.inr f))))), (q, .inl (5, 15, .inr (.inr (.inr (.inr (va_cpy f (fun _ => none) 0 0 10))))))]) rfl ?_
      refine y_astore_n (lv' := [(2, .ref q), (0, .ref a), (1, .ref v), (3, .int 10)]) d_AL_add_1_10 rfl (by decide) rfl ?_
      refine y_aload_n d_AL_add_1_11 rfl 0 rfl ?_
      refine y_iload_n d_AL_add_1_12 rfl 3 rfl ?_
      refine y_aload_n d_AL_add_1_13 rfl 2 rfl ?_
      refine y_aast d_AL_add_1_14 (q0 := 3) (qk := 1) rfl rfl ho (fun q => q.elim (by decide) (by decide)) (f' := va_up (va_cpy f (fun _ => none) 0 0 10) 10 (some v)) rfl (cs' := [(a, .inr (13, [.int md, .ref q, .int 10])), (v, ek), (dd, .inl (5, 10, .inr (.inr (.inr (.inr f))))), (q, .inl (5, 15, .inr (.inr (.inr (.inr (va_up (va_cpy f (fun _ => none) 0 0 10) 10 (some v)))))))]) rfl ?_
      refine y_aload_n d_AL_add_1_15 rfl 1 rfl ?_
      refine y_iload_n d_AL_add_1_16 rfl 3 rfl ?_
      refine y_iconst d_AL_add_1_17 (v := 1) (by decide) ?_
      refine y_iadd d_AL_add_1_18 (v := 11) rfl ?_
      refine y_put fp_AL_48 d_AL_add_1_19 (fun h => nomatch h) rfl rfl (q0 := 0) rfl (Nat.le_of_ble_eq_true rfl) (cs' := [(a, .inr (13, [.int md, .ref q, .int 11])), (v, ek), (dd, .inl (5, 10, .inr (.inr (.inr (.inr f))))), (q, .inl (5, 15, .inr (.inr (.inr (.inr (va_up (va_cpy f (fun _ => none) 0 0 10) 10 (some v)))))))]) rfl ?_
      refine y_vret d_AL_add_1_22 rfl ?_
      exact fun w1 h1 => ⟨_, ⟨q, rfl, rfl⟩, h1⟩
set_option maxHeartbeats 4000000 in
set_option maxRecDepth 100000 in
theorem C_AL_addG10 (g : zG) (a v dd : Nat) (md : Int32) (f : Nat → Option Nat) (ek : zE) (ho : z_ob ek) : CP g M_AL_add_0 [.ref a, .ref v] [(a, .inr (13, [.int md, .ref dd, .int 10])), (v, ek), (dd, .inl (5, 10, .inr (.inr (.inr (.inr f)))))] (fun w => z_obE w 10 f 0) (fun o cs1 => ∃ q, o = .inl (some (.int 1)) ∧ cs1 = [(a, .inr (13, [.int (md + 1), .ref q, .int 11])), (v, ek), (dd, .inl (5, 10, .inr (.inr (.inr (.inr f))))), (q, .inl (5, 15, .inr (.inr (.inr (.inr (va_up (va_cpy f (fun _ => none) 0 0 10) 10 (some v)))))))]) 1 15 := by
  intro w hI hP
  refine y_ofM (by decide) rfl (Nat.le_of_ble_eq_true rfl) (y_base hI ?_)
  refine y_lvE (lv2 := [(0, .ref a), (1, .ref v)]) rfl ?_
  refine y_aload_n d_AL_add_0_0 rfl 0 rfl ?_
  refine y_dup d_AL_add_0_1 rfl ?_
  refine y_get fs_AL_63 d_AL_add_0_2 (q0 := 0) rfl rfl ?_
  refine y_iconst d_AL_add_0_5 (v := 1) (by decide) ?_
  refine y_iadd d_AL_add_0_6 (v := md + 1) rfl ?_
  refine y_put fp_AL_63 d_AL_add_0_7 (fun h => nomatch h) rfl rfl (q0 := 0) rfl (Nat.le_of_ble_eq_true rfl) (cs' := [(a, .inr (13, [.int (md + 1), .ref dd, .int 10])), (v, ek), (dd, .inl (5, 10, .inr (.inr (.inr (.inr f)))))]) rfl ?_
  refine y_aload_n d_AL_add_0_10 rfl 0 rfl ?_
  refine y_aload_n d_AL_add_0_11 rfl 1 rfl ?_
  refine y_aload_n d_AL_add_0_12 rfl 0 rfl ?_
  refine y_get fs_AL_9 d_AL_add_0_13 (q0 := 0) rfl rfl ?_
  refine y_aload_n d_AL_add_0_16 rfl 0 rfl ?_
  refine y_get fs_AL_48 d_AL_add_0_17 (q0 := 0) rfl rfl ?_
  refine yp_callV (As := [.ref v, .ref dd, .int 10]) (rest := []) (csC := [(a, .inr (13, [.int (md + 1), .ref dd, .int 10])), (v, ek), (dd, .inl (5, 10, .inr (.inr (.inr (.inr f)))))]) (is := [0, 1, 2]) (q0 := 0) rfl rfl ln_AL_131 w_im_AL_add_1 w_se_AL_add_1 ok_AL_add_0_AL_add_1 d_AL_add_0_20 ((fun w9 hI9 hC9 => C_AL_addAG10 g a v dd (md + 1) f ek ho w9 hC9 (hP.obK (hI9.ke (L := [a, v, dd]) rfl) (fun q8 hq8 => by simp only [List.mem_cons, List.not_mem_nil, or_false] at hq8; rcases hq8 with rfl | rfl | rfl; exact ⟨_, hI.1 _ List.mem_cons_self, Or.inr (Or.inl rfl)⟩; exact ⟨_, hI.1 _ (List.mem_cons_of_mem _ List.mem_cons_self), Or.inr (Or.inr (hI9.1 _ (List.mem_cons_of_mem _ List.mem_cons_self)))⟩; exact ⟨_, hI.1 _ (List.mem_cons_of_mem _ (List.mem_cons_of_mem _ List.mem_cons_self)), Or.inl ⟨rfl, rfl⟩⟩)))) rfl rfl (Nat.le_of_ble_eq_true rfl) rfl (by decide) (by omega) (by omega) (fun E cs1 hx => ?_) (fun v cs1 hx => ?_)
  · obtain ⟨q, e1, -⟩ := hx
    cases e1
  · obtain ⟨q, e1, rfl⟩ := hx
    cases e1
    refine ⟨rfl, ?_⟩
    refine y_st (st2 := []) rfl ?_
    refine y_cs (cs2 := [(a, .inr (13, [.int (md + 1), .ref q, .int 11])), (v, ek), (dd, .inl (5, 10, .inr (.inr (.inr (.inr f))))), (q, .inl (5, 15, .inr (.inr (.inr (.inr (va_up (va_cpy f (fun _ => none) 0 0 10) 10 (some v)))))))]) rfl ?_
    refine y_iconst d_AL_add_0_23 (v := 1) (by decide) ?_
    refine y_iret d_AL_add_0_24 rfl rfl ?_
    exact fun w1 h1 => ⟨_, ⟨q, rfl, rfl⟩, h1⟩
set_option maxHeartbeats 4000000 in
set_option maxRecDepth 100000 in
theorem C_As_newLength15 (g : zG)  : CP g M_ArraysSupport_newLength [.int 15, .int 1, .int 7] [] (fun _ => True) (fun o cs1 => o = .inl (some (.int 22)) ∧ cs1 = []) 0 0 := by
  intro w hI hP
  refine y_ofM (by decide) rfl (Nat.le_of_ble_eq_true rfl) (y_base hI ?_)
  refine y_lvE (lv2 := [(0, .int 15), (1, .int 1), (2, .int 7)]) rfl ?_
  refine y_iload_n d_ArraysSupport_newLength_0 rfl 0 rfl ?_
  refine y_iload_n d_ArraysSupport_newLength_1 rfl 1 rfl ?_
  refine y_iload_n d_ArraysSupport_newLength_2 rfl 2 rfl ?_
  refine y_max (v := 7) ln_ArraysSupport_194 w_mmax w_mi w_cmax d_ArraysSupport_newLength_3 (by decide) (by decide) (Nat.le_of_ble_eq_true rfl) (by decide) ?_
  refine y_iadd d_ArraysSupport_newLength_6 (v := 22) (by decide) ?_
  refine y_istore_n (lv' := [(3, .int 22), (0, .int 15), (1, .int 1), (2, .int 7)]) d_ArraysSupport_newLength_7 rfl (by decide) rfl ?_
  refine y_iconst d_ArraysSupport_newLength_8 (v := 0) (by decide) ?_
  refine y_iload_n d_ArraysSupport_newLength_9 rfl 0 rfl ?_
  refine y_icmp_ge (tgt := 21) d_ArraysSupport_newLength_10 (by decide) (fun c_10 => ?_) (fun c_10 => ?_)
  · exact absurd c_10 (by decide)
  · refine y_iload_n d_ArraysSupport_newLength_13 rfl 0 rfl ?_
    refine y_ldc ct_ArraysSupport_200 d_ArraysSupport_newLength_14 ?_
    refine y_icmp_gt (tgt := 21) d_ArraysSupport_newLength_16 (by decide) (fun c_16 => ?_) (fun c_16 => ?_)
    · exact absurd c_16 (by decide)
    · refine y_iload_n d_ArraysSupport_newLength_19 rfl 0 rfl ?_
      refine y_iret d_ArraysSupport_newLength_20 rfl rfl ?_
      exact fun w1 h1 => ⟨_, ⟨rfl, rfl⟩, h1⟩
set_option maxHeartbeats 4000000 in
set_option maxRecDepth 100000 in
theorem C_Ar_copyOf3_15 (g : zG) (dd : Nat) (f : Nat → Option Nat) : CP g M_Arrays_copyOf_1 [.ref dd, .int 22, .ref (g.2.2 42)] [(dd, .inl (5, 15, .inr (.inr (.inr (.inr f)))))] (fun w => z_obE w 15 f 0) (fun o cs1 => ∃ q, o = .inl (some (.ref q)) ∧ cs1 = [(dd, .inl (5, 15, .inr (.inr (.inr (.inr f))))), (q, .inl (5, 22, .inr (.inr (.inr (.inr (va_cpy f (fun _ => none) 0 0 15))))))]) 1 22 := by
  intro w hI hP
  refine y_ofM (by decide) rfl (Nat.le_of_ble_eq_true rfl) (y_base hI ?_)
  refine y_lvE (lv2 := [(0, .ref dd), (1, .int 22), (2, .ref (g.2.2 42))]) rfl ?_
  refine y_aload_n d_Arrays_copyOf_1_0 rfl 2 rfl ?_
  refine y_ldcM lk_Arrays_110 d_Arrays_copyOf_1_1 ?_
  refine y_acmp_ne (tgt := 13) d_Arrays_copyOf_1_3 (by decide) (fun c_3 => ?_) (fun c_3 => ?_)
  · exact absurd rfl c_3
  · refine y_iload_n d_Arrays_copyOf_1_6 rfl 1 rfl ?_
    refine y_anewa (N := 22) lo_Arrays_2 d_Arrays_copyOf_1_7 (by decide) (by decide) (by decide) (by omega) (by omega) (fun q => ?_)
    refine y_cs (cs2 := [(dd, .inl (5, 15, .inr (.inr (.inr (.inr f))))), (q, .inl (5, 22, .inr (.inr (.inr (.inr (fun _ => none))))))]) rfl ?_
    refine y_goto (tgt := 24) d_Arrays_copyOf_1_10 (by decide) ?_
    refine y_astore_n (lv' := [(3, .ref q), (0, .ref dd), (1, .int 22), (2, .ref (g.2.2 42))]) d_Arrays_copyOf_1_24 rfl (by decide) rfl ?_
    refine y_aload_n d_Arrays_copyOf_1_25 rfl 1 rfl ?_
    refine y_iconst d_Arrays_copyOf_1_26 (v := 0) (by decide) ?_
    refine y_aload_n d_Arrays_copyOf_1_27 rfl 0 rfl ?_
    refine y_iconst d_Arrays_copyOf_1_28 (v := 0) (by decide) ?_
    refine y_aload_n d_Arrays_copyOf_1_29 rfl 1 rfl ?_
    refine y_alen d_Arrays_copyOf_1_30 (q0 := 0) rfl rfl (v := 15) rfl ?_
    refine y_iload_n d_Arrays_copyOf_1_31 rfl 2 rfl ?_
    refine y_min (v := 15) ln_Arrays_304 w_mmin w_mi w_cmin d_Arrays_copyOf_1_32 (by decide) (by decide) (Nat.le_of_ble_eq_true rfl) (by decide) ?_
    refine y_copyq (f' := va_cpy f (fun _ => none) 0 0 15) (q0 := 0) (q1 := 1) (cs' := [(dd, .inl (5, 15, .inr (.inr (.inr (.inr f))))), (q, .inl (5, 22, .inr (.inr (.inr (.inr (va_cpy f (fun _ => none) 0 0 15))))))]) ln_Arrays_150 w_ac1 w_ac2 w_ac3 d_Arrays_copyOf_1_35 rfl rfl (by decide) (by decide) (by decide) (by decide) (by decide) (fun w9 hC => hP.ob (hC.ke (L := [dd]) rfl) (fun q8 hq8 => by rw [List.mem_singleton.mp hq8]; exact ⟨_, hI.1 _ List.mem_cons_self, Or.inl ⟨rfl, rfl⟩⟩)) rfl rfl (by decide) (by decide +kernel) (Nat.le_of_ble_eq_true rfl) ?_
    refine y_aload_n d_Arrays_copyOf_1_38 rfl 0 rfl ?_
    refine y_aret d_Arrays_copyOf_1_39 rfl (Or.inr ⟨_, rfl⟩) (Or.inr ⟨_, rfl⟩) ?_
    exact fun w1 h1 => ⟨_, ⟨q, rfl, rfl⟩, h1⟩
set_option maxHeartbeats 4000000 in
set_option maxRecDepth 100000 in
theorem C_Ar_copyOf2_15 (g : zG) (dd : Nat) (f : Nat → Option Nat) : CP g M_Arrays_copyOf_0 [.ref dd, .int 22] [(dd, .inl (5, 15, .inr (.inr (.inr (.inr f)))))] (fun w => z_obE w 15 f 0) (fun o cs1 => ∃ q, o = .inl (some (.ref q)) ∧ cs1 = [(dd, .inl (5, 15, .inr (.inr (.inr (.inr f))))), (q, .inl (5, 22, .inr (.inr (.inr (.inr (va_cpy f (fun _ => none) 0 0 15))))))]) 1 22 := by
  intro w hI hP
  refine y_ofM (by decide) rfl (Nat.le_of_ble_eq_true rfl) (y_base hI ?_)
  refine y_lvE (lv2 := [(0, .ref dd), (1, .int 22)]) rfl ?_
  refine y_aload_n d_Arrays_copyOf_0_0 rfl 0 rfl ?_
  refine y_iload_n d_Arrays_copyOf_0_1 rfl 1 rfl ?_
  refine y_aload_n d_Arrays_copyOf_0_2 rfl 0 rfl ?_
  refine y_getC ln_Arrays_86 w_gc1 w_gc2 w_gc3 w_gc4 d_Arrays_copyOf_0_3 (q0 := 0) rfl (by decide) (by decide) (Nat.le_of_ble_eq_true rfl) ?_
  refine yp_callS (As := [.ref dd, .int 22, .ref (g.2.2 42)]) (rest := []) (csC := [(dd, .inl (5, 15, .inr (.inr (.inr (.inr f)))))]) (is := [0]) ln_Arrays_300 w_st_Arrays_copyOf_1 ok_Arrays_copyOf_0_Arrays_copyOf_1 d_Arrays_copyOf_0_6 ((fun w9 hI9 hC9 => C_Ar_copyOf3_15 g dd f w9 hC9 (by rw [z_I.same hI hI9]; exact hP))) rfl rfl (Nat.le_of_ble_eq_true rfl) rfl (by decide) (by omega) (by omega) (fun E cs1 hx => ?_) (fun v cs1 hx => ?_)
  · obtain ⟨q, e1, -⟩ := hx
    cases e1
  · obtain ⟨q, e1, rfl⟩ := hx
    cases e1
    refine ⟨rfl, ?_⟩
    refine y_st (st2 := [.ref q]) rfl ?_
    refine y_cs (cs2 := [(dd, .inl (5, 15, .inr (.inr (.inr (.inr f))))), (q, .inl (5, 22, .inr (.inr (.inr (.inr (va_cpy f (fun _ => none) 0 0 15))))))]) rfl ?_
    refine y_aret d_Arrays_copyOf_0_9 rfl (Or.inr ⟨_, rfl⟩) (Or.inr ⟨_, rfl⟩) ?_
    exact fun w1 h1 => ⟨_, ⟨q, rfl, rfl⟩, h1⟩
set_option maxHeartbeats 4000000 in
set_option maxRecDepth 100000 in
theorem C_AL_growI15 (g : zG) (a dd : Nat) (md : Int32) (f : Nat → Option Nat) : CP g M_AL_grow_1 [.ref a, .int 16] [(a, .inr (13, [.int md, .ref dd, .int 15])), (dd, .inl (5, 15, .inr (.inr (.inr (.inr f)))))] (fun w => z_obE w 15 f 0) (fun o cs1 => ∃ q, o = .inl (some (.ref q)) ∧ cs1 = [(a, .inr (13, [.int md, .ref q, .int 15])), (dd, .inl (5, 15, .inr (.inr (.inr (.inr f))))), (q, .inl (5, 22, .inr (.inr (.inr (.inr (va_cpy f (fun _ => none) 0 0 15))))))]) 1 22 := by
  intro w hI hP
  refine y_ofM (by decide) rfl (Nat.le_of_ble_eq_true rfl) (y_base hI ?_)
  refine y_lvE (lv2 := [(0, .ref a), (1, .int 16)]) rfl ?_
  refine y_aload_n d_AL_grow_1_0 rfl 0 rfl ?_
  refine y_get fs_AL_9 d_AL_grow_1_1 (q0 := 0) rfl rfl ?_
  refine y_alen d_AL_grow_1_4 (q0 := 1) rfl rfl (v := 15) rfl ?_
  refine y_istore_n (lv' := [(2, .int 15), (0, .ref a), (1, .int 16)]) d_AL_grow_1_5 rfl (by decide) rfl ?_
  refine y_iload_n d_AL_grow_1_6 rfl 0 rfl ?_
  refine y_if_gt (tgt := 20) d_AL_grow_1_7 (by decide) (fun c_7 => ?_) (fun c_7 => ?_)
  · refine y_iload_n d_AL_grow_1_20 rfl 0 rfl ?_
    refine y_iload_n d_AL_grow_1_21 rfl 2 rfl ?_
    refine y_iload_n d_AL_grow_1_22 rfl 0 rfl ?_
    refine y_isub d_AL_grow_1_23 (v := 1) rfl ?_
    refine y_iload_n d_AL_grow_1_24 rfl 0 rfl ?_
    refine y_iconst d_AL_grow_1_25 (v := 1) (by decide) ?_
    refine y_ishr d_AL_grow_1_26 (v := 7) (by decide) ?_
    refine yp_callS (As := [.int 15, .int 1, .int 7]) (rest := []) (csC := []) (is := []) ln_AL_73 w_st_ArraysSupport_newLength ok_AL_grow_1_ArraysSupport_newLength d_AL_grow_1_27 ((fun w9 hI9 hC9 => C_As_newLength15 g w9 hC9 trivial)) rfl rfl (Nat.le_of_ble_eq_true rfl) rfl (by decide) (by omega) (by omega) (fun E cs1 hx => ?_) (fun v cs1 hx => ?_)
    · exact absurd hx.1 (by simp)
    · obtain ⟨e1, rfl⟩ := hx
      cases e1
      refine ⟨rfl, ?_⟩
      refine y_st (st2 := [.int 22]) rfl ?_
      refine y_cs (cs2 := [(a, .inr (13, [.int md, .ref dd, .int 15])), (dd, .inl (5, 15, .inr (.inr (.inr (.inr f)))))]) rfl ?_
      refine y_istore_n (lv' := [(3, .int 22), (2, .int 15), (0, .ref a), (1, .int 16)]) d_AL_grow_1_30 rfl (by decide) rfl ?_
      refine y_aload_n d_AL_grow_1_31 rfl 2 rfl ?_
      refine y_aload_n d_AL_grow_1_32 rfl 2 rfl ?_
      refine y_get fs_AL_9 d_AL_grow_1_33 (q0 := 0) rfl rfl ?_
      refine y_iload_n d_AL_grow_1_36 rfl 0 rfl ?_
      refine yp_callS (As := [.ref dd, .int 22]) (rest := [.ref a]) (csC := [(dd, .inl (5, 15, .inr (.inr (.inr (.inr f)))))]) (is := [1]) ln_AL_66 w_st_Arrays_copyOf_0 ok_AL_grow_1_Arrays_copyOf_0 d_AL_grow_1_37 ((fun w9 hI9 hC9 => C_Ar_copyOf2_15 g dd f w9 hC9 (by rw [z_I.same hI hI9]; exact hP))) rfl rfl (Nat.le_of_ble_eq_true rfl) rfl (by decide) (by omega) (by omega) (fun E cs1 hx => ?_) (fun v cs1 hx => ?_)
      · obtain ⟨q, e1, -⟩ := hx
        cases e1
      · obtain ⟨q, e1, rfl⟩ := hx
        cases e1
        refine ⟨rfl, ?_⟩
        refine y_st (st2 := [.ref q, .ref a]) rfl ?_
        refine y_cs (cs2 := [(a, .inr (13, [.int md, .ref dd, .int 15])), (dd, .inl (5, 15, .inr (.inr (.inr (.inr f))))), (q, .inl (5, 22, .inr (.inr (.inr (.inr (va_cpy f (fun _ => none) 0 0 15))))))]) rfl ?_
        refine y_dupx1 d_AL_grow_1_40 rfl rfl ?_
        refine y_put fp_AL_9 d_AL_grow_1_41 (fun h => nomatch h) rfl rfl (q0 := 0) rfl (Nat.le_of_ble_eq_true rfl) (cs' := [(a, .inr (13, [.int md, .ref q, .int 15])), (dd, .inl (5, 15, .inr (.inr (.inr (.inr f))))), (q, .inl (5, 22, .inr (.inr (.inr (.inr (va_cpy f (fun _ => none) 0 0 15))))))]) rfl ?_
        refine y_aret d_AL_grow_1_44 rfl (Or.inr ⟨_, rfl⟩) (Or.inr ⟨_, rfl⟩) ?_
        exact fun w1 h1 => ⟨_, ⟨q, rfl, rfl⟩, h1⟩
  · exact absurd c_7 (by decide)
set_option maxHeartbeats 4000000 in
set_option maxRecDepth 100000 in
theorem C_AL_grow15 (g : zG) (a dd : Nat) (md : Int32) (f : Nat → Option Nat) : CP g M_AL_grow_0 [.ref a] [(a, .inr (13, [.int md, .ref dd, .int 15])), (dd, .inl (5, 15, .inr (.inr (.inr (.inr f)))))] (fun w => z_obE w 15 f 0) (fun o cs1 => ∃ q, o = .inl (some (.ref q)) ∧ cs1 = [(a, .inr (13, [.int md, .ref q, .int 15])), (dd, .inl (5, 15, .inr (.inr (.inr (.inr f))))), (q, .inl (5, 22, .inr (.inr (.inr (.inr (va_cpy f (fun _ => none) 0 0 15))))))]) 1 22 := by
  intro w hI hP
  refine y_ofM (by decide) rfl (Nat.le_of_ble_eq_true rfl) (y_base hI ?_)
  refine y_lvE (lv2 := [(0, .ref a)]) rfl ?_
  refine y_aload_n d_AL_grow_0_0 rfl 0 rfl ?_
  refine y_aload_n d_AL_grow_0_1 rfl 0 rfl ?_
  refine y_get fs_AL_48 d_AL_grow_0_2 (q0 := 0) rfl rfl ?_
  refine y_iconst d_AL_grow_0_5 (v := 1) (by decide) ?_
  refine y_iadd d_AL_grow_0_6 (v := 16) rfl ?_
  refine yp_callV (As := [.int 16]) (rest := []) (csC := [(a, .inr (13, [.int md, .ref dd, .int 15])), (dd, .inl (5, 15, .inr (.inr (.inr (.inr f)))))]) (is := [0, 1]) (q0 := 0) rfl rfl ln_AL_69 w_im_AL_grow_1 w_se_AL_grow_1 ok_AL_grow_0_AL_grow_1 d_AL_grow_0_7 ((fun w9 hI9 hC9 => C_AL_growI15 g a dd md f w9 hC9 (by rw [z_I.same hI hI9]; exact hP))) rfl rfl (Nat.le_of_ble_eq_true rfl) rfl (by decide) (by omega) (by omega) (fun E cs1 hx => ?_) (fun v cs1 hx => ?_)
  · obtain ⟨q, e1, -⟩ := hx
    cases e1
  · obtain ⟨q, e1, rfl⟩ := hx
    cases e1
    refine ⟨rfl, ?_⟩
    refine y_st (st2 := [.ref q]) rfl ?_
    refine y_cs (cs2 := [(a, .inr (13, [.int md, .ref q, .int 15])), (dd, .inl (5, 15, .inr (.inr (.inr (.inr f))))), (q, .inl (5, 22, .inr (.inr (.inr (.inr (va_cpy f (fun _ => none) 0 0 15))))))]) rfl ?_
    refine y_aret d_AL_grow_0_10 rfl (Or.inr ⟨_, rfl⟩) (Or.inr ⟨_, rfl⟩) ?_
    exact fun w1 h1 => ⟨_, ⟨q, rfl, rfl⟩, h1⟩
set_option maxHeartbeats 4000000 in
set_option maxRecDepth 100000 in
theorem C_AL_addAG15 (g : zG) (a v dd : Nat) (md : Int32) (f : Nat → Option Nat) (ek : zE) (ho : z_ob ek) : CP g M_AL_add_1 [.ref a, .ref v, .ref dd, .int 15] [(a, .inr (13, [.int md, .ref dd, .int 15])), (v, ek), (dd, .inl (5, 15, .inr (.inr (.inr (.inr f)))))] (fun w => z_obE w 15 f 0) (fun o cs1 => ∃ q, o = .inl none ∧ cs1 = [(a, .inr (13, [.int md, .ref q, .int 16])), (v, ek), (dd, .inl (5, 15, .inr (.inr (.inr (.inr f))))), (q, .inl (5, 22, .inr (.inr (.inr (.inr (va_up (va_cpy f (fun _ => none) 0 0 15) 15 (some v)))))))]) 1 22 := by
  intro w hI hP
  refine y_ofM (by decide) rfl (Nat.le_of_ble_eq_true rfl) (y_base hI ?_)
  refine y_lvE (lv2 := [(0, .ref a), (1, .ref v), (2, .ref dd), (3, .int 15)]) rfl ?_
  refine y_iload_n d_AL_add_1_0 rfl 3 rfl ?_
  refine y_aload_n d_AL_add_1_1 rfl 2 rfl ?_
  refine y_alen d_AL_add_1_2 (q0 := 2) rfl rfl (v := 15) rfl ?_
  refine y_icmp_ne (tgt := 11) d_AL_add_1_3 (by decide) (fun c_3 => ?_) (fun c_3 => ?_)
  · exact absurd c_3 (by decide)
  · refine y_aload_n d_AL_add_1_6 rfl 0 rfl ?_
    refine yp_callV (As := []) (rest := []) (csC := [(a, .inr (13, [.int md, .ref dd, .int 15])), (dd, .inl (5, 15, .inr (.inr (.inr (.inr f)))))]) (is := [0, 2]) (q0 := 0) rfl rfl ln_AL_129 w_im_AL_grow_0 w_se_AL_grow_0 ok_AL_add_1_AL_grow_0 d_AL_add_1_7 ((fun w9 hI9 hC9 => C_AL_grow15 g a dd md f w9 hC9 (by rw [z_I.same hI hI9]; exact hP))) rfl rfl (Nat.le_of_ble_eq_true rfl) rfl (by decide) (by omega) (by omega) (fun E cs1 hx => ?_) (fun v cs1 hx => ?_)
    · obtain ⟨q, e1, -⟩ := hx
      cases e1
    · obtain ⟨q, e1, rfl⟩ := hx
      cases e1
      refine ⟨rfl, ?_⟩
      refine y_st (st2 := [.ref q]) rfl ?_
      refine y_cs (cs2 := [(a, .inr (13, [.int md, .ref q, .int 15])), (v, ek), (dd, .inl (5, 15, .inr (.inr (.inr (.inr f))))), (q, .inl (5, 22, .inr (.inr (.inr (.inr (va_cpy f (fun _ => none) 0 0 15))))))]) rfl ?_
      refine y_astore_n (lv' := [(2, .ref q), (0, .ref a), (1, .ref v), (3, .int 15)]) d_AL_add_1_10 rfl (by decide) rfl ?_
      refine y_aload_n d_AL_add_1_11 rfl 0 rfl ?_
      refine y_iload_n d_AL_add_1_12 rfl 3 rfl ?_
      refine y_aload_n d_AL_add_1_13 rfl 2 rfl ?_
      refine y_aast d_AL_add_1_14 (q0 := 3) (qk := 1) rfl rfl ho (fun q => q.elim (by decide) (by decide)) (f' := va_up (va_cpy f (fun _ => none) 0 0 15) 15 (some v)) rfl (cs' := [(a, .inr (13, [.int md, .ref q, .int 15])), (v, ek), (dd, .inl (5, 15, .inr (.inr (.inr (.inr f))))), (q, .inl (5, 22, .inr (.inr (.inr (.inr (va_up (va_cpy f (fun _ => none) 0 0 15) 15 (some v)))))))]) rfl ?_
      refine y_aload_n d_AL_add_1_15 rfl 1 rfl ?_
      refine y_iload_n d_AL_add_1_16 rfl 3 rfl ?_
      refine y_iconst d_AL_add_1_17 (v := 1) (by decide) ?_
      refine y_iadd d_AL_add_1_18 (v := 16) rfl ?_
      refine y_put fp_AL_48 d_AL_add_1_19 (fun h => nomatch h) rfl rfl (q0 := 0) rfl (Nat.le_of_ble_eq_true rfl) (cs' := [(a, .inr (13, [.int md, .ref q, .int 16])), (v, ek), (dd, .inl (5, 15, .inr (.inr (.inr (.inr f))))), (q, .inl (5, 22, .inr (.inr (.inr (.inr (va_up (va_cpy f (fun _ => none) 0 0 15) 15 (some v)))))))]) rfl ?_
      refine y_vret d_AL_add_1_22 rfl ?_
      exact fun w1 h1 => ⟨_, ⟨q, rfl, rfl⟩, h1⟩
set_option maxHeartbeats 4000000 in
set_option maxRecDepth 100000 in
theorem C_AL_addG15 (g : zG) (a v dd : Nat) (md : Int32) (f : Nat → Option Nat) (ek : zE) (ho : z_ob ek) : CP g M_AL_add_0 [.ref a, .ref v] [(a, .inr (13, [.int md, .ref dd, .int 15])), (v, ek), (dd, .inl (5, 15, .inr (.inr (.inr (.inr f)))))] (fun w => z_obE w 15 f 0) (fun o cs1 => ∃ q, o = .inl (some (.int 1)) ∧ cs1 = [(a, .inr (13, [.int (md + 1), .ref q, .int 16])), (v, ek), (dd, .inl (5, 15, .inr (.inr (.inr (.inr f))))), (q, .inl (5, 22, .inr (.inr (.inr (.inr (va_up (va_cpy f (fun _ => none) 0 0 15) 15 (some v)))))))]) 1 22 := by
  intro w hI hP
  refine y_ofM (by decide) rfl (Nat.le_of_ble_eq_true rfl) (y_base hI ?_)
  refine y_lvE (lv2 := [(0, .ref a), (1, .ref v)]) rfl ?_
  refine y_aload_n d_AL_add_0_0 rfl 0 rfl ?_
  refine y_dup d_AL_add_0_1 rfl ?_
  refine y_get fs_AL_63 d_AL_add_0_2 (q0 := 0) rfl rfl ?_
  refine y_iconst d_AL_add_0_5 (v := 1) (by decide) ?_
  refine y_iadd d_AL_add_0_6 (v := md + 1) rfl ?_
  refine y_put fp_AL_63 d_AL_add_0_7 (fun h => nomatch h) rfl rfl (q0 := 0) rfl (Nat.le_of_ble_eq_true rfl) (cs' := [(a, .inr (13, [.int (md + 1), .ref dd, .int 15])), (v, ek), (dd, .inl (5, 15, .inr (.inr (.inr (.inr f)))))]) rfl ?_
  refine y_aload_n d_AL_add_0_10 rfl 0 rfl ?_
  refine y_aload_n d_AL_add_0_11 rfl 1 rfl ?_
  refine y_aload_n d_AL_add_0_12 rfl 0 rfl ?_
  refine y_get fs_AL_9 d_AL_add_0_13 (q0 := 0) rfl rfl ?_
  refine y_aload_n d_AL_add_0_16 rfl 0 rfl ?_
  refine y_get fs_AL_48 d_AL_add_0_17 (q0 := 0) rfl rfl ?_
  refine yp_callV (As := [.ref v, .ref dd, .int 15]) (rest := []) (csC := [(a, .inr (13, [.int (md + 1), .ref dd, .int 15])), (v, ek), (dd, .inl (5, 15, .inr (.inr (.inr (.inr f)))))]) (is := [0, 1, 2]) (q0 := 0) rfl rfl ln_AL_131 w_im_AL_add_1 w_se_AL_add_1 ok_AL_add_0_AL_add_1 d_AL_add_0_20 ((fun w9 hI9 hC9 => C_AL_addAG15 g a v dd (md + 1) f ek ho w9 hC9 (hP.obK (hI9.ke (L := [a, v, dd]) rfl) (fun q8 hq8 => by simp only [List.mem_cons, List.not_mem_nil, or_false] at hq8; rcases hq8 with rfl | rfl | rfl; exact ⟨_, hI.1 _ List.mem_cons_self, Or.inr (Or.inl rfl)⟩; exact ⟨_, hI.1 _ (List.mem_cons_of_mem _ List.mem_cons_self), Or.inr (Or.inr (hI9.1 _ (List.mem_cons_of_mem _ List.mem_cons_self)))⟩; exact ⟨_, hI.1 _ (List.mem_cons_of_mem _ (List.mem_cons_of_mem _ List.mem_cons_self)), Or.inl ⟨rfl, rfl⟩⟩)))) rfl rfl (Nat.le_of_ble_eq_true rfl) rfl (by decide) (by omega) (by omega) (fun E cs1 hx => ?_) (fun v cs1 hx => ?_)
  · obtain ⟨q, e1, -⟩ := hx
    cases e1
  · obtain ⟨q, e1, rfl⟩ := hx
    cases e1
    refine ⟨rfl, ?_⟩
    refine y_st (st2 := []) rfl ?_
    refine y_cs (cs2 := [(a, .inr (13, [.int (md + 1), .ref q, .int 16])), (v, ek), (dd, .inl (5, 15, .inr (.inr (.inr (.inr f))))), (q, .inl (5, 22, .inr (.inr (.inr (.inr (va_up (va_cpy f (fun _ => none) 0 0 15) 15 (some v)))))))]) rfl ?_
    refine y_iconst d_AL_add_0_23 (v := 1) (by decide) ?_
    refine y_iret d_AL_add_0_24 rfl rfl ?_
    exact fun w1 h1 => ⟨_, ⟨q, rfl, rfl⟩, h1⟩
set_option maxHeartbeats 4000000 in
set_option maxRecDepth 100000 in
theorem C_As_newLength22 (g : zG)  : CP g M_ArraysSupport_newLength [.int 22, .int 1, .int 11] [] (fun _ => True) (fun o cs1 => o = .inl (some (.int 33)) ∧ cs1 = []) 0 0 := by
  intro w hI hP
  refine y_ofM (by decide) rfl (Nat.le_of_ble_eq_true rfl) (y_base hI ?_)
  refine y_lvE (lv2 := [(0, .int 22), (1, .int 1), (2, .int 11)]) rfl ?_
  refine y_iload_n d_ArraysSupport_newLength_0 rfl 0 rfl ?_
  refine y_iload_n d_ArraysSupport_newLength_1 rfl 1 rfl ?_
  refine y_iload_n d_ArraysSupport_newLength_2 rfl 2 rfl ?_
  refine y_max (v := 11) ln_ArraysSupport_194 w_mmax w_mi w_cmax d_ArraysSupport_newLength_3 (by decide) (by decide) (Nat.le_of_ble_eq_true rfl) (by decide) ?_
  refine y_iadd d_ArraysSupport_newLength_6 (v := 33) (by decide) ?_
  refine y_istore_n (lv' := [(3, .int 33), (0, .int 22), (1, .int 1), (2, .int 11)]) d_ArraysSupport_newLength_7 rfl (by decide) rfl ?_
  refine y_iconst d_ArraysSupport_newLength_8 (v := 0) (by decide) ?_
  refine y_iload_n d_ArraysSupport_newLength_9 rfl 0 rfl ?_
  refine y_icmp_ge (tgt := 21) d_ArraysSupport_newLength_10 (by decide) (fun c_10 => ?_) (fun c_10 => ?_)
  · exact absurd c_10 (by decide)
  · refine y_iload_n d_ArraysSupport_newLength_13 rfl 0 rfl ?_
    refine y_ldc ct_ArraysSupport_200 d_ArraysSupport_newLength_14 ?_
    refine y_icmp_gt (tgt := 21) d_ArraysSupport_newLength_16 (by decide) (fun c_16 => ?_) (fun c_16 => ?_)
    · exact absurd c_16 (by decide)
    · refine y_iload_n d_ArraysSupport_newLength_19 rfl 0 rfl ?_
      refine y_iret d_ArraysSupport_newLength_20 rfl rfl ?_
      exact fun w1 h1 => ⟨_, ⟨rfl, rfl⟩, h1⟩
set_option maxHeartbeats 4000000 in
set_option maxRecDepth 100000 in
theorem C_Ar_copyOf3_22 (g : zG) (dd : Nat) (f : Nat → Option Nat) : CP g M_Arrays_copyOf_1 [.ref dd, .int 33, .ref (g.2.2 42)] [(dd, .inl (5, 22, .inr (.inr (.inr (.inr f)))))] (fun w => z_obE w 22 f 0) (fun o cs1 => ∃ q, o = .inl (some (.ref q)) ∧ cs1 = [(dd, .inl (5, 22, .inr (.inr (.inr (.inr f))))), (q, .inl (5, 33, .inr (.inr (.inr (.inr (va_cpy f (fun _ => none) 0 0 22))))))]) 1 33 := by
  intro w hI hP
  refine y_ofM (by decide) rfl (Nat.le_of_ble_eq_true rfl) (y_base hI ?_)
  refine y_lvE (lv2 := [(0, .ref dd), (1, .int 33), (2, .ref (g.2.2 42))]) rfl ?_
  refine y_aload_n d_Arrays_copyOf_1_0 rfl 2 rfl ?_
  refine y_ldcM lk_Arrays_110 d_Arrays_copyOf_1_1 ?_
  refine y_acmp_ne (tgt := 13) d_Arrays_copyOf_1_3 (by decide) (fun c_3 => ?_) (fun c_3 => ?_)
  · exact absurd rfl c_3
  · refine y_iload_n d_Arrays_copyOf_1_6 rfl 1 rfl ?_
    refine y_anewa (N := 33) lo_Arrays_2 d_Arrays_copyOf_1_7 (by decide) (by decide) (by decide) (by omega) (by omega) (fun q => ?_)
    refine y_cs (cs2 := [(dd, .inl (5, 22, .inr (.inr (.inr (.inr f))))), (q, .inl (5, 33, .inr (.inr (.inr (.inr (fun _ => none))))))]) rfl ?_
    refine y_goto (tgt := 24) d_Arrays_copyOf_1_10 (by decide) ?_
    refine y_astore_n (lv' := [(3, .ref q), (0, .ref dd), (1, .int 33), (2, .ref (g.2.2 42))]) d_Arrays_copyOf_1_24 rfl (by decide) rfl ?_
    refine y_aload_n d_Arrays_copyOf_1_25 rfl 1 rfl ?_
    refine y_iconst d_Arrays_copyOf_1_26 (v := 0) (by decide) ?_
    refine y_aload_n d_Arrays_copyOf_1_27 rfl 0 rfl ?_
    refine y_iconst d_Arrays_copyOf_1_28 (v := 0) (by decide) ?_
    refine y_aload_n d_Arrays_copyOf_1_29 rfl 1 rfl ?_
    refine y_alen d_Arrays_copyOf_1_30 (q0 := 0) rfl rfl (v := 22) rfl ?_
    refine y_iload_n d_Arrays_copyOf_1_31 rfl 2 rfl ?_
    refine y_min (v := 22) ln_Arrays_304 w_mmin w_mi w_cmin d_Arrays_copyOf_1_32 (by decide) (by decide) (Nat.le_of_ble_eq_true rfl) (by decide) ?_
    refine y_copyq (f' := va_cpy f (fun _ => none) 0 0 22) (q0 := 0) (q1 := 1) (cs' := [(dd, .inl (5, 22, .inr (.inr (.inr (.inr f))))), (q, .inl (5, 33, .inr (.inr (.inr (.inr (va_cpy f (fun _ => none) 0 0 22))))))]) ln_Arrays_150 w_ac1 w_ac2 w_ac3 d_Arrays_copyOf_1_35 rfl rfl (by decide) (by decide) (by decide) (by decide) (by decide) (fun w9 hC => hP.ob (hC.ke (L := [dd]) rfl) (fun q8 hq8 => by rw [List.mem_singleton.mp hq8]; exact ⟨_, hI.1 _ List.mem_cons_self, Or.inl ⟨rfl, rfl⟩⟩)) rfl rfl (by decide) (by decide +kernel) (Nat.le_of_ble_eq_true rfl) ?_
    refine y_aload_n d_Arrays_copyOf_1_38 rfl 0 rfl ?_
    refine y_aret d_Arrays_copyOf_1_39 rfl (Or.inr ⟨_, rfl⟩) (Or.inr ⟨_, rfl⟩) ?_
    exact fun w1 h1 => ⟨_, ⟨q, rfl, rfl⟩, h1⟩
set_option maxHeartbeats 4000000 in
set_option maxRecDepth 100000 in
theorem C_Ar_copyOf2_22 (g : zG) (dd : Nat) (f : Nat → Option Nat) : CP g M_Arrays_copyOf_0 [.ref dd, .int 33] [(dd, .inl (5, 22, .inr (.inr (.inr (.inr f)))))] (fun w => z_obE w 22 f 0) (fun o cs1 => ∃ q, o = .inl (some (.ref q)) ∧ cs1 = [(dd, .inl (5, 22, .inr (.inr (.inr (.inr f))))), (q, .inl (5, 33, .inr (.inr (.inr (.inr (va_cpy f (fun _ => none) 0 0 22))))))]) 1 33 := by
  intro w hI hP
  refine y_ofM (by decide) rfl (Nat.le_of_ble_eq_true rfl) (y_base hI ?_)
  refine y_lvE (lv2 := [(0, .ref dd), (1, .int 33)]) rfl ?_
  refine y_aload_n d_Arrays_copyOf_0_0 rfl 0 rfl ?_
  refine y_iload_n d_Arrays_copyOf_0_1 rfl 1 rfl ?_
  refine y_aload_n d_Arrays_copyOf_0_2 rfl 0 rfl ?_
  refine y_getC ln_Arrays_86 w_gc1 w_gc2 w_gc3 w_gc4 d_Arrays_copyOf_0_3 (q0 := 0) rfl (by decide) (by decide) (Nat.le_of_ble_eq_true rfl) ?_
  refine yp_callS (As := [.ref dd, .int 33, .ref (g.2.2 42)]) (rest := []) (csC := [(dd, .inl (5, 22, .inr (.inr (.inr (.inr f)))))]) (is := [0]) ln_Arrays_300 w_st_Arrays_copyOf_1 ok_Arrays_copyOf_0_Arrays_copyOf_1 d_Arrays_copyOf_0_6 ((fun w9 hI9 hC9 => C_Ar_copyOf3_22 g dd f w9 hC9 (by rw [z_I.same hI hI9]; exact hP))) rfl rfl (Nat.le_of_ble_eq_true rfl) rfl (by decide) (by omega) (by omega) (fun E cs1 hx => ?_) (fun v cs1 hx => ?_)
  · obtain ⟨q, e1, -⟩ := hx
    cases e1
  · obtain ⟨q, e1, rfl⟩ := hx
    cases e1
    refine ⟨rfl, ?_⟩
    refine y_st (st2 := [.ref q]) rfl ?_
    refine y_cs (cs2 := [(dd, .inl (5, 22, .inr (.inr (.inr (.inr f))))), (q, .inl (5, 33, .inr (.inr (.inr (.inr (va_cpy f (fun _ => none) 0 0 22))))))]) rfl ?_
    refine y_aret d_Arrays_copyOf_0_9 rfl (Or.inr ⟨_, rfl⟩) (Or.inr ⟨_, rfl⟩) ?_
    exact fun w1 h1 => ⟨_, ⟨q, rfl, rfl⟩, h1⟩
set_option maxHeartbeats 4000000 in
set_option maxRecDepth 100000 in
theorem C_AL_growI22 (g : zG) (a dd : Nat) (md : Int32) (f : Nat → Option Nat) : CP g M_AL_grow_1 [.ref a, .int 23] [(a, .inr (13, [.int md, .ref dd, .int 22])), (dd, .inl (5, 22, .inr (.inr (.inr (.inr f)))))] (fun w => z_obE w 22 f 0) (fun o cs1 => ∃ q, o = .inl (some (.ref q)) ∧ cs1 = [(a, .inr (13, [.int md, .ref q, .int 22])), (dd, .inl (5, 22, .inr (.inr (.inr (.inr f))))), (q, .inl (5, 33, .inr (.inr (.inr (.inr (va_cpy f (fun _ => none) 0 0 22))))))]) 1 33 := by
  intro w hI hP
  refine y_ofM (by decide) rfl (Nat.le_of_ble_eq_true rfl) (y_base hI ?_)
  refine y_lvE (lv2 := [(0, .ref a), (1, .int 23)]) rfl ?_
  refine y_aload_n d_AL_grow_1_0 rfl 0 rfl ?_
  refine y_get fs_AL_9 d_AL_grow_1_1 (q0 := 0) rfl rfl ?_
  refine y_alen d_AL_grow_1_4 (q0 := 1) rfl rfl (v := 22) rfl ?_
  refine y_istore_n (lv' := [(2, .int 22), (0, .ref a), (1, .int 23)]) d_AL_grow_1_5 rfl (by decide) rfl ?_
  refine y_iload_n d_AL_grow_1_6 rfl 0 rfl ?_
  refine y_if_gt (tgt := 20) d_AL_grow_1_7 (by decide) (fun c_7 => ?_) (fun c_7 => ?_)
  · refine y_iload_n d_AL_grow_1_20 rfl 0 rfl ?_
    refine y_iload_n d_AL_grow_1_21 rfl 2 rfl ?_
    refine y_iload_n d_AL_grow_1_22 rfl 0 rfl ?_
    refine y_isub d_AL_grow_1_23 (v := 1) rfl ?_
    refine y_iload_n d_AL_grow_1_24 rfl 0 rfl ?_
    refine y_iconst d_AL_grow_1_25 (v := 1) (by decide) ?_
    refine y_ishr d_AL_grow_1_26 (v := 11) (by decide) ?_
    refine yp_callS (As := [.int 22, .int 1, .int 11]) (rest := []) (csC := []) (is := []) ln_AL_73 w_st_ArraysSupport_newLength ok_AL_grow_1_ArraysSupport_newLength d_AL_grow_1_27 ((fun w9 hI9 hC9 => C_As_newLength22 g w9 hC9 trivial)) rfl rfl (Nat.le_of_ble_eq_true rfl) rfl (by decide) (by omega) (by omega) (fun E cs1 hx => ?_) (fun v cs1 hx => ?_)
    · exact absurd hx.1 (by simp)
    · obtain ⟨e1, rfl⟩ := hx
      cases e1
      refine ⟨rfl, ?_⟩
      refine y_st (st2 := [.int 33]) rfl ?_
      refine y_cs (cs2 := [(a, .inr (13, [.int md, .ref dd, .int 22])), (dd, .inl (5, 22, .inr (.inr (.inr (.inr f)))))]) rfl ?_
      refine y_istore_n (lv' := [(3, .int 33), (2, .int 22), (0, .ref a), (1, .int 23)]) d_AL_grow_1_30 rfl (by decide) rfl ?_
      refine y_aload_n d_AL_grow_1_31 rfl 2 rfl ?_
      refine y_aload_n d_AL_grow_1_32 rfl 2 rfl ?_
      refine y_get fs_AL_9 d_AL_grow_1_33 (q0 := 0) rfl rfl ?_
      refine y_iload_n d_AL_grow_1_36 rfl 0 rfl ?_
      refine yp_callS (As := [.ref dd, .int 33]) (rest := [.ref a]) (csC := [(dd, .inl (5, 22, .inr (.inr (.inr (.inr f)))))]) (is := [1]) ln_AL_66 w_st_Arrays_copyOf_0 ok_AL_grow_1_Arrays_copyOf_0 d_AL_grow_1_37 ((fun w9 hI9 hC9 => C_Ar_copyOf2_22 g dd f w9 hC9 (by rw [z_I.same hI hI9]; exact hP))) rfl rfl (Nat.le_of_ble_eq_true rfl) rfl (by decide) (by omega) (by omega) (fun E cs1 hx => ?_) (fun v cs1 hx => ?_)
      · obtain ⟨q, e1, -⟩ := hx
        cases e1
      · obtain ⟨q, e1, rfl⟩ := hx
        cases e1
        refine ⟨rfl, ?_⟩
        refine y_st (st2 := [.ref q, .ref a]) rfl ?_
        refine y_cs (cs2 := [(a, .inr (13, [.int md, .ref dd, .int 22])), (dd, .inl (5, 22, .inr (.inr (.inr (.inr f))))), (q, .inl (5, 33, .inr (.inr (.inr (.inr (va_cpy f (fun _ => none) 0 0 22))))))]) rfl ?_
        refine y_dupx1 d_AL_grow_1_40 rfl rfl ?_
        refine y_put fp_AL_9 d_AL_grow_1_41 (fun h => nomatch h) rfl rfl (q0 := 0) rfl (Nat.le_of_ble_eq_true rfl) (cs' := [(a, .inr (13, [.int md, .ref q, .int 22])), (dd, .inl (5, 22, .inr (.inr (.inr (.inr f))))), (q, .inl (5, 33, .inr (.inr (.inr (.inr (va_cpy f (fun _ => none) 0 0 22))))))]) rfl ?_
        refine y_aret d_AL_grow_1_44 rfl (Or.inr ⟨_, rfl⟩) (Or.inr ⟨_, rfl⟩) ?_
        exact fun w1 h1 => ⟨_, ⟨q, rfl, rfl⟩, h1⟩
  · exact absurd c_7 (by decide)
set_option maxHeartbeats 4000000 in
set_option maxRecDepth 100000 in
theorem C_AL_grow22 (g : zG) (a dd : Nat) (md : Int32) (f : Nat → Option Nat) : CP g M_AL_grow_0 [.ref a] [(a, .inr (13, [.int md, .ref dd, .int 22])), (dd, .inl (5, 22, .inr (.inr (.inr (.inr f)))))] (fun w => z_obE w 22 f 0) (fun o cs1 => ∃ q, o = .inl (some (.ref q)) ∧ cs1 = [(a, .inr (13, [.int md, .ref q, .int 22])), (dd, .inl (5, 22, .inr (.inr (.inr (.inr f))))), (q, .inl (5, 33, .inr (.inr (.inr (.inr (va_cpy f (fun _ => none) 0 0 22))))))]) 1 33 := by
  intro w hI hP
  refine y_ofM (by decide) rfl (Nat.le_of_ble_eq_true rfl) (y_base hI ?_)
  refine y_lvE (lv2 := [(0, .ref a)]) rfl ?_
  refine y_aload_n d_AL_grow_0_0 rfl 0 rfl ?_
  refine y_aload_n d_AL_grow_0_1 rfl 0 rfl ?_
  refine y_get fs_AL_48 d_AL_grow_0_2 (q0 := 0) rfl rfl ?_
  refine y_iconst d_AL_grow_0_5 (v := 1) (by decide) ?_
  refine y_iadd d_AL_grow_0_6 (v := 23) rfl ?_
  refine yp_callV (As := [.int 23]) (rest := []) (csC := [(a, .inr (13, [.int md, .ref dd, .int 22])), (dd, .inl (5, 22, .inr (.inr (.inr (.inr f)))))]) (is := [0, 1]) (q0 := 0) rfl rfl ln_AL_69 w_im_AL_grow_1 w_se_AL_grow_1 ok_AL_grow_0_AL_grow_1 d_AL_grow_0_7 ((fun w9 hI9 hC9 => C_AL_growI22 g a dd md f w9 hC9 (by rw [z_I.same hI hI9]; exact hP))) rfl rfl (Nat.le_of_ble_eq_true rfl) rfl (by decide) (by omega) (by omega) (fun E cs1 hx => ?_) (fun v cs1 hx => ?_)
  · obtain ⟨q, e1, -⟩ := hx
    cases e1
  · obtain ⟨q, e1, rfl⟩ := hx
    cases e1
    refine ⟨rfl, ?_⟩
    refine y_st (st2 := [.ref q]) rfl ?_
    refine y_cs (cs2 := [(a, .inr (13, [.int md, .ref q, .int 22])), (dd, .inl (5, 22, .inr (.inr (.inr (.inr f))))), (q, .inl (5, 33, .inr (.inr (.inr (.inr (va_cpy f (fun _ => none) 0 0 22))))))]) rfl ?_
    refine y_aret d_AL_grow_0_10 rfl (Or.inr ⟨_, rfl⟩) (Or.inr ⟨_, rfl⟩) ?_
    exact fun w1 h1 => ⟨_, ⟨q, rfl, rfl⟩, h1⟩
set_option maxHeartbeats 4000000 in
set_option maxRecDepth 100000 in
theorem C_AL_addAG22 (g : zG) (a v dd : Nat) (md : Int32) (f : Nat → Option Nat) (ek : zE) (ho : z_ob ek) : CP g M_AL_add_1 [.ref a, .ref v, .ref dd, .int 22] [(a, .inr (13, [.int md, .ref dd, .int 22])), (v, ek), (dd, .inl (5, 22, .inr (.inr (.inr (.inr f)))))] (fun w => z_obE w 22 f 0) (fun o cs1 => ∃ q, o = .inl none ∧ cs1 = [(a, .inr (13, [.int md, .ref q, .int 23])), (v, ek), (dd, .inl (5, 22, .inr (.inr (.inr (.inr f))))), (q, .inl (5, 33, .inr (.inr (.inr (.inr (va_up (va_cpy f (fun _ => none) 0 0 22) 22 (some v)))))))]) 1 33 := by
  intro w hI hP
  refine y_ofM (by decide) rfl (Nat.le_of_ble_eq_true rfl) (y_base hI ?_)
  refine y_lvE (lv2 := [(0, .ref a), (1, .ref v), (2, .ref dd), (3, .int 22)]) rfl ?_
  refine y_iload_n d_AL_add_1_0 rfl 3 rfl ?_
  refine y_aload_n d_AL_add_1_1 rfl 2 rfl ?_
  refine y_alen d_AL_add_1_2 (q0 := 2) rfl rfl (v := 22) rfl ?_
  refine y_icmp_ne (tgt := 11) d_AL_add_1_3 (by decide) (fun c_3 => ?_) (fun c_3 => ?_)
  · exact absurd c_3 (by decide)
  · refine y_aload_n d_AL_add_1_6 rfl 0 rfl ?_
    refine yp_callV (As := []) (rest := []) (csC := [(a, .inr (13, [.int md, .ref dd, .int 22])), (dd, .inl (5, 22, .inr (.inr (.inr (.inr f)))))]) (is := [0, 2]) (q0 := 0) rfl rfl ln_AL_129 w_im_AL_grow_0 w_se_AL_grow_0 ok_AL_add_1_AL_grow_0 d_AL_add_1_7 ((fun w9 hI9 hC9 => C_AL_grow22 g a dd md f w9 hC9 (by rw [z_I.same hI hI9]; exact hP))) rfl rfl (Nat.le_of_ble_eq_true rfl) rfl (by decide) (by omega) (by omega) (fun E cs1 hx => ?_) (fun v cs1 hx => ?_)
    · obtain ⟨q, e1, -⟩ := hx
      cases e1
    · obtain ⟨q, e1, rfl⟩ := hx
      cases e1
      refine ⟨rfl, ?_⟩
      refine y_st (st2 := [.ref q]) rfl ?_
      refine y_cs (cs2 := [(a, .inr (13, [.int md, .ref q, .int 22])), (v, ek), (dd, .inl (5, 22, .inr (.inr (.inr (.inr f))))), (q, .inl (5, 33, .inr (.inr (.inr (.inr (va_cpy f (fun _ => none) 0 0 22))))))]) rfl ?_
      refine y_astore_n (lv' := [(2, .ref q), (0, .ref a), (1, .ref v), (3, .int 22)]) d_AL_add_1_10 rfl (by decide) rfl ?_
      refine y_aload_n d_AL_add_1_11 rfl 0 rfl ?_
      refine y_iload_n d_AL_add_1_12 rfl 3 rfl ?_
      refine y_aload_n d_AL_add_1_13 rfl 2 rfl ?_
      refine y_aast d_AL_add_1_14 (q0 := 3) (qk := 1) rfl rfl ho (fun q => q.elim (by decide) (by decide)) (f' := va_up (va_cpy f (fun _ => none) 0 0 22) 22 (some v)) rfl (cs' := [(a, .inr (13, [.int md, .ref q, .int 22])), (v, ek), (dd, .inl (5, 22, .inr (.inr (.inr (.inr f))))), (q, .inl (5, 33, .inr (.inr (.inr (.inr (va_up (va_cpy f (fun _ => none) 0 0 22) 22 (some v)))))))]) rfl ?_
      refine y_aload_n d_AL_add_1_15 rfl 1 rfl ?_
      refine y_iload_n d_AL_add_1_16 rfl 3 rfl ?_
      refine y_iconst d_AL_add_1_17 (v := 1) (by decide) ?_
      refine y_iadd d_AL_add_1_18 (v := 23) rfl ?_
      refine y_put fp_AL_48 d_AL_add_1_19 (fun h => nomatch h) rfl rfl (q0 := 0) rfl (Nat.le_of_ble_eq_true rfl) (cs' := [(a, .inr (13, [.int md, .ref q, .int 23])), (v, ek), (dd, .inl (5, 22, .inr (.inr (.inr (.inr f))))), (q, .inl (5, 33, .inr (.inr (.inr (.inr (va_up (va_cpy f (fun _ => none) 0 0 22) 22 (some v)))))))]) rfl ?_
      refine y_vret d_AL_add_1_22 rfl ?_
      exact fun w1 h1 => ⟨_, ⟨q, rfl, rfl⟩, h1⟩
set_option maxHeartbeats 4000000 in
set_option maxRecDepth 100000 in
theorem C_AL_addG22 (g : zG) (a v dd : Nat) (md : Int32) (f : Nat → Option Nat) (ek : zE) (ho : z_ob ek) : CP g M_AL_add_0 [.ref a, .ref v] [(a, .inr (13, [.int md, .ref dd, .int 22])), (v, ek), (dd, .inl (5, 22, .inr (.inr (.inr (.inr f)))))] (fun w => z_obE w 22 f 0) (fun o cs1 => ∃ q, o = .inl (some (.int 1)) ∧ cs1 = [(a, .inr (13, [.int (md + 1), .ref q, .int 23])), (v, ek), (dd, .inl (5, 22, .inr (.inr (.inr (.inr f))))), (q, .inl (5, 33, .inr (.inr (.inr (.inr (va_up (va_cpy f (fun _ => none) 0 0 22) 22 (some v)))))))]) 1 33 := by
  intro w hI hP
  refine y_ofM (by decide) rfl (Nat.le_of_ble_eq_true rfl) (y_base hI ?_)
  refine y_lvE (lv2 := [(0, .ref a), (1, .ref v)]) rfl ?_
  refine y_aload_n d_AL_add_0_0 rfl 0 rfl ?_
  refine y_dup d_AL_add_0_1 rfl ?_
  refine y_get fs_AL_63 d_AL_add_0_2 (q0 := 0) rfl rfl ?_
  refine y_iconst d_AL_add_0_5 (v := 1) (by decide) ?_
  refine y_iadd d_AL_add_0_6 (v := md + 1) rfl ?_
  refine y_put fp_AL_63 d_AL_add_0_7 (fun h => nomatch h) rfl rfl (q0 := 0) rfl (Nat.le_of_ble_eq_true rfl) (cs' := [(a, .inr (13, [.int (md + 1), .ref dd, .int 22])), (v, ek), (dd, .inl (5, 22, .inr (.inr (.inr (.inr f)))))]) rfl ?_
  refine y_aload_n d_AL_add_0_10 rfl 0 rfl ?_
  refine y_aload_n d_AL_add_0_11 rfl 1 rfl ?_
  refine y_aload_n d_AL_add_0_12 rfl 0 rfl ?_
  refine y_get fs_AL_9 d_AL_add_0_13 (q0 := 0) rfl rfl ?_
  refine y_aload_n d_AL_add_0_16 rfl 0 rfl ?_
  refine y_get fs_AL_48 d_AL_add_0_17 (q0 := 0) rfl rfl ?_
  refine yp_callV (As := [.ref v, .ref dd, .int 22]) (rest := []) (csC := [(a, .inr (13, [.int (md + 1), .ref dd, .int 22])), (v, ek), (dd, .inl (5, 22, .inr (.inr (.inr (.inr f)))))]) (is := [0, 1, 2]) (q0 := 0) rfl rfl ln_AL_131 w_im_AL_add_1 w_se_AL_add_1 ok_AL_add_0_AL_add_1 d_AL_add_0_20 ((fun w9 hI9 hC9 => C_AL_addAG22 g a v dd (md + 1) f ek ho w9 hC9 (hP.obK (hI9.ke (L := [a, v, dd]) rfl) (fun q8 hq8 => by simp only [List.mem_cons, List.not_mem_nil, or_false] at hq8; rcases hq8 with rfl | rfl | rfl; exact ⟨_, hI.1 _ List.mem_cons_self, Or.inr (Or.inl rfl)⟩; exact ⟨_, hI.1 _ (List.mem_cons_of_mem _ List.mem_cons_self), Or.inr (Or.inr (hI9.1 _ (List.mem_cons_of_mem _ List.mem_cons_self)))⟩; exact ⟨_, hI.1 _ (List.mem_cons_of_mem _ (List.mem_cons_of_mem _ List.mem_cons_self)), Or.inl ⟨rfl, rfl⟩⟩)))) rfl rfl (Nat.le_of_ble_eq_true rfl) rfl (by decide) (by omega) (by omega) (fun E cs1 hx => ?_) (fun v cs1 hx => ?_)
  · obtain ⟨q, e1, -⟩ := hx
    cases e1
  · obtain ⟨q, e1, rfl⟩ := hx
    cases e1
    refine ⟨rfl, ?_⟩
    refine y_st (st2 := []) rfl ?_
    refine y_cs (cs2 := [(a, .inr (13, [.int (md + 1), .ref q, .int 23])), (v, ek), (dd, .inl (5, 22, .inr (.inr (.inr (.inr f))))), (q, .inl (5, 33, .inr (.inr (.inr (.inr (va_up (va_cpy f (fun _ => none) 0 0 22) 22 (some v)))))))]) rfl ?_
    refine y_iconst d_AL_add_0_23 (v := 1) (by decide) ?_
    refine y_iret d_AL_add_0_24 rfl rfl ?_
    exact fun w1 h1 => ⟨_, ⟨q, rfl, rfl⟩, h1⟩
abbrev M_AL_fastRemove : zM := (⟨"java/util/ArrayList", "fastRemove", "([Ljava/lang/Object;I)V"⟩, prog_40_method_39_code, 4, (Option.none : Option FieldType), 2, 100, [])
theorem d_AL_fastRemove_0 : decode prog_40_method_39_code 0 = .ok (.aload_n 0, 1) := zo_42 (zd_b zq_prog_40_method_39_code_0 0 rfl rfl rfl)
theorem d_AL_fastRemove_1 : decode prog_40_method_39_code 1 = .ok (.dup, 1) := zo_89 (zd_b zq_prog_40_method_39_code_0 1 rfl rfl rfl)
theorem d_AL_fastRemove_2 : decode prog_40_method_39_code 2 = .ok (.getfield 63, 3) := zo_180 (d := 0) (e := 63) (zd_b zq_prog_40_method_39_code_0 2 rfl rfl rfl) (zd_b zq_prog_40_method_39_code_0 3 rfl rfl rfl) (zd_b zq_prog_40_method_39_code_0 4 rfl rfl rfl)
theorem d_AL_fastRemove_5 : decode prog_40_method_39_code 5 = .ok (.iconst 1, 1) := zo_4 (zd_b zq_prog_40_method_39_code_0 5 rfl rfl rfl)
theorem d_AL_fastRemove_6 : decode prog_40_method_39_code 6 = .ok (.iadd, 1) := zo_96 (zd_b zq_prog_40_method_39_code_0 6 rfl rfl rfl)
theorem d_AL_fastRemove_7 : decode prog_40_method_39_code 7 = .ok (.putfield 63, 3) := zo_181 (d := 0) (e := 63) (zd_b zq_prog_40_method_39_code_0 7 rfl rfl rfl) (zd_b zq_prog_40_method_39_code_0 8 rfl rfl rfl) (zd_b zq_prog_40_method_39_code_0 9 rfl rfl rfl)
theorem d_AL_fastRemove_10 : decode prog_40_method_39_code 10 = .ok (.aload_n 0, 1) := zo_42 (zd_b zq_prog_40_method_39_code_0 10 rfl rfl rfl)
theorem d_AL_fastRemove_11 : decode prog_40_method_39_code 11 = .ok (.getfield 48, 3) := zo_180 (d := 0) (e := 48) (zd_b zq_prog_40_method_39_code_0 11 rfl rfl rfl) (zd_b zq_prog_40_method_39_code_0 12 rfl rfl rfl) (zd_b zq_prog_40_method_39_code_0 13 rfl rfl rfl)
theorem d_AL_fastRemove_14 : decode prog_40_method_39_code 14 = .ok (.iconst 1, 1) := zo_4 (zd_b zq_prog_40_method_39_code_0 14 rfl rfl rfl)
theorem d_AL_fastRemove_15 : decode prog_40_method_39_code 15 = .ok (.isub, 1) := zo_100 (zd_b zq_prog_40_method_39_code_0 15 rfl rfl rfl)
theorem d_AL_fastRemove_16 : decode prog_40_method_39_code 16 = .ok (.dup, 1) := zo_89 (zd_b zq_prog_40_method_39_code_0 16 rfl rfl rfl)
theorem d_AL_fastRemove_17 : decode prog_40_method_39_code 17 = .ok (.istore_n 3, 1) := zo_62 (zd_b zq_prog_40_method_39_code_0 17 rfl rfl rfl)
theorem d_AL_fastRemove_18 : decode prog_40_method_39_code 18 = .ok (.iload_n 2, 1) := zo_28 (zd_b zq_prog_40_method_39_code_0 18 rfl rfl rfl)
theorem d_AL_fastRemove_19 : decode prog_40_method_39_code 19 = .ok (.if_icmp .le 15, 3) := zo_164 (d := 0) (e := 15) (zd_b zq_prog_40_method_39_code_0 19 rfl rfl rfl) (zd_b zq_prog_40_method_39_code_0 20 rfl rfl rfl) (zd_b zq_prog_40_method_39_code_0 21 rfl rfl rfl) (by decide +kernel)
theorem d_AL_fastRemove_34 : decode prog_40_method_39_code 34 = .ok (.aload_n 1, 1) := zo_43 (zd_b zq_prog_40_method_39_code_1 2 rfl rfl rfl)
theorem d_AL_fastRemove_35 : decode prog_40_method_39_code 35 = .ok (.aload_n 0, 1) := zo_42 (zd_b zq_prog_40_method_39_code_1 3 rfl rfl rfl)
theorem d_AL_fastRemove_36 : decode prog_40_method_39_code 36 = .ok (.iload_n 3, 1) := zo_29 (zd_b zq_prog_40_method_39_code_1 4 rfl rfl rfl)
theorem d_AL_fastRemove_37 : decode prog_40_method_39_code 37 = .ok (.dup_x1, 1) := zo_90 (zd_b zq_prog_40_method_39_code_1 5 rfl rfl rfl)
theorem d_AL_fastRemove_38 : decode prog_40_method_39_code 38 = .ok (.putfield 48, 3) := zo_181 (d := 0) (e := 48) (zd_b zq_prog_40_method_39_code_1 6 rfl rfl rfl) (zd_b zq_prog_40_method_39_code_1 7 rfl rfl rfl) (zd_b zq_prog_40_method_39_code_1 8 rfl rfl rfl)
theorem d_AL_fastRemove_41 : decode prog_40_method_39_code 41 = .ok (.aconst_null, 1) := zo_1 (zd_b zq_prog_40_method_39_code_1 9 rfl rfl rfl)
theorem d_AL_fastRemove_42 : decode prog_40_method_39_code 42 = .ok (.aastore, 1) := zo_83 (zd_b zq_prog_40_method_39_code_1 10 rfl rfl rfl)
theorem d_AL_fastRemove_43 : decode prog_40_method_39_code 43 = .ok (.return_, 1) := zo_177 (zd_b zq_prog_40_method_39_code_1 11 rfl rfl rfl)
theorem d_AL_fastRemove_22 : decode prog_40_method_39_code 22 = .ok (.aload_n 1, 1) := zo_43 (zd_b zq_prog_40_method_39_code_0 22 rfl rfl rfl)
theorem d_AL_fastRemove_23 : decode prog_40_method_39_code 23 = .ok (.iload_n 2, 1) := zo_28 (zd_b zq_prog_40_method_39_code_0 23 rfl rfl rfl)
theorem d_AL_fastRemove_24 : decode prog_40_method_39_code 24 = .ok (.iconst 1, 1) := zo_4 (zd_b zq_prog_40_method_39_code_0 24 rfl rfl rfl)
theorem d_AL_fastRemove_25 : decode prog_40_method_39_code 25 = .ok (.iadd, 1) := zo_96 (zd_b zq_prog_40_method_39_code_0 25 rfl rfl rfl)
theorem d_AL_fastRemove_26 : decode prog_40_method_39_code 26 = .ok (.aload_n 1, 1) := zo_43 (zd_b zq_prog_40_method_39_code_0 26 rfl rfl rfl)
theorem d_AL_fastRemove_27 : decode prog_40_method_39_code 27 = .ok (.iload_n 2, 1) := zo_28 (zd_b zq_prog_40_method_39_code_0 27 rfl rfl rfl)
theorem d_AL_fastRemove_28 : decode prog_40_method_39_code 28 = .ok (.iload_n 3, 1) := zo_29 (zd_b zq_prog_40_method_39_code_0 28 rfl rfl rfl)
theorem d_AL_fastRemove_29 : decode prog_40_method_39_code 29 = .ok (.iload_n 2, 1) := zo_28 (zd_b zq_prog_40_method_39_code_0 29 rfl rfl rfl)
theorem d_AL_fastRemove_30 : decode prog_40_method_39_code 30 = .ok (.isub, 1) := zo_100 (zd_b zq_prog_40_method_39_code_0 30 rfl rfl rfl)
theorem d_AL_fastRemove_31 : decode prog_40_method_39_code 31 = .ok (.invokestatic 112, 3) := zo_184 (d := 0) (e := 112) (zd_b zq_prog_40_method_39_code_0 31 rfl rfl rfl) (zd_b zq_prog_40_method_39_code_1 0 rfl rfl rfl) (zd_b zq_prog_40_method_39_code_1 1 rfl rfl rfl)
theorem ln_AL_112 : Cond.methodLink "java/util/ArrayList" 112 arraycopyName ∈ z_gw := z_mj6 (i := 127) rfl (by decide +kernel)
set_option maxHeartbeats 4000000 in
set_option maxRecDepth 100000 in
theorem C_AL_fastRemove (g : zG) (a dd N : Nat) (md : Int32) (f : Nat → Option Nat) (i k : Nat) (hik : i ≤ k) (hkN : k < N) (hN : N < 1000) : CP g M_AL_fastRemove [.ref a, .ref dd, .int (nI i)] [(a, .inr (13, [.int md, .ref dd, .int (nI (k + 1))])), (dd, .inl (5, N, .inr (.inr (.inr (.inr f)))))] (fun w => z_obE w (k - i) f (i + 1)) (fun o cs1 => o = .inl none ∧ cs1 = [(a, .inr (13, [.int (md + 1), .ref dd, .int (nI k)])), (dd, .inl (5, N, .inr (.inr (.inr (.inr (rmv f i k))))))]) 0 0 := by
  intro w hI hP
  refine y_ofM (by decide) rfl (Nat.le_of_ble_eq_true rfl) (y_base hI ?_)
  refine y_lvE (lv2 := [(0, .ref a), (1, .ref dd), (2, .int (nI i))]) rfl ?_
  refine y_aload_n d_AL_fastRemove_0 rfl 0 rfl ?_
  refine y_dup d_AL_fastRemove_1 rfl ?_
  refine y_get fs_AL_63 d_AL_fastRemove_2 (q0 := 0) rfl rfl ?_
  refine y_iconst d_AL_fastRemove_5 (v := 1) (by decide) ?_
  refine y_iadd d_AL_fastRemove_6 (v := md + 1) rfl ?_
  refine y_put fp_AL_63 d_AL_fastRemove_7 (fun h => nomatch h) rfl rfl (q0 := 0) rfl (Nat.le_of_ble_eq_true rfl) (cs' := [(a, .inr (13, [.int (md + 1), .ref dd, .int (nI (k + 1))])), (dd, .inl (5, N, .inr (.inr (.inr (.inr f)))))]) rfl ?_
  refine y_aload_n d_AL_fastRemove_10 rfl 0 rfl ?_
  refine y_get fs_AL_48 d_AL_fastRemove_11 (q0 := 0) rfl rfl ?_
  refine y_iconst d_AL_fastRemove_14 (v := 1) (by decide) ?_
  refine y_isub d_AL_fastRemove_15 (v := nI k) (nI_prd k) ?_
  refine y_dup d_AL_fastRemove_16 rfl ?_
  refine y_istore_n (lv' := [(3, .int (nI k)), (0, .ref a), (1, .ref dd), (2, .int (nI i))]) d_AL_fastRemove_17 rfl (by decide) rfl ?_
  refine y_iload_n d_AL_fastRemove_18 rfl 3 rfl ?_
  refine y_icmp_le (tgt := 34) d_AL_fastRemove_19 (by decide) (fun c_19 => ?_) (fun c_19 => ?_)
  · have hik2 : k - i = 0 := by have := z_le (a := k) (b := i) (by omega) (by omega) c_19; omega
    refine y_aload_n d_AL_fastRemove_34 rfl 2 rfl ?_
    refine y_aload_n d_AL_fastRemove_35 rfl 1 rfl ?_
    refine y_iload_n d_AL_fastRemove_36 rfl 0 rfl ?_
    refine y_dupx1 d_AL_fastRemove_37 rfl rfl ?_
    refine y_put fp_AL_48 d_AL_fastRemove_38 (fun h => nomatch h) rfl rfl (q0 := 0) rfl (Nat.le_of_ble_eq_true rfl) (cs' := [(a, .inr (13, [.int (md + 1), .ref dd, .int (nI k)])), (dd, .inl (5, N, .inr (.inr (.inr (.inr f)))))]) rfl ?_
    refine y_null d_AL_fastRemove_41 ?_
    refine y_aastN d_AL_fastRemove_42 (q0 := 1) rfl (vp_in_nI (by omega) (by omega)) (f' := va_up f k none) (by rw [nI_clamp (by omega)]) (cs' := [(a, .inr (13, [.int (md + 1), .ref dd, .int (nI k)])), (dd, .inl (5, N, .inr (.inr (.inr (.inr (va_up f k none))))))]) rfl ?_
    refine y_vret d_AL_fastRemove_43 rfl ?_
    exact fun w1 h1 => ⟨_, ⟨rfl, by first | rfl | (unfold rmv; rw [hik2, va_cpy0])⟩, h1⟩
  · refine y_aload_n d_AL_fastRemove_22 rfl 2 rfl ?_
    refine y_iload_n d_AL_fastRemove_23 rfl 3 rfl ?_
    refine y_iconst d_AL_fastRemove_24 (v := 1) (by decide) ?_
    refine y_iadd d_AL_fastRemove_25 (v := nI (i + 1)) (nI_add _ _) ?_
    refine y_aload_n d_AL_fastRemove_26 rfl 2 rfl ?_
    refine y_iload_n d_AL_fastRemove_27 rfl 3 rfl ?_
    refine y_iload_n d_AL_fastRemove_28 rfl 0 rfl ?_
    refine y_iload_n d_AL_fastRemove_29 rfl 3 rfl ?_
    refine y_isub d_AL_fastRemove_30 (v := nI (k - i)) (nI_sub hik) ?_
    refine y_copyq (f' := va_cpy f f (i + 1) i (k - i)) (q0 := 1) (q1 := 1) (cs' := [(a, .inr (13, [.int (md + 1), .ref dd, .int (nI (k + 1))])), (dd, .inl (5, N, .inr (.inr (.inr (.inr (va_cpy f f (i + 1) i (k - i)))))))]) ln_AL_112 w_ac1 w_ac2 w_ac3 d_AL_fastRemove_31 rfl rfl (nI_nneg (by omega)) (nI_nneg (by omega)) (nI_nneg (by omega)) (by rw [nI_clamp (by omega), nI_clamp (by omega)]; omega) (by rw [nI_clamp (by omega), nI_clamp (by omega)]; omega) (fun w9 hC => by rw [nI_clamp (by omega), nI_clamp (by omega)]; exact (hP.ob (hC.ke (L := [a, dd]) rfl) (fun q8 hq8 => by simp only [List.mem_cons, List.not_mem_nil, or_false] at hq8; rcases hq8 with rfl | rfl; exact ⟨_, hI.1 _ List.mem_cons_self, Or.inr (Or.inl rfl)⟩; exact ⟨_, hI.1 _ (List.mem_cons_of_mem _ List.mem_cons_self), Or.inl ⟨rfl, rfl⟩⟩))) (by rw [nI_clamp (by omega), nI_clamp (by omega), nI_clamp (by omega)]) rfl (by decide) (by decide +kernel) (Nat.le_of_ble_eq_true rfl) ?_
    refine y_aload_n d_AL_fastRemove_34 rfl 2 rfl ?_
    refine y_aload_n d_AL_fastRemove_35 rfl 1 rfl ?_
    refine y_iload_n d_AL_fastRemove_36 rfl 0 rfl ?_
    refine y_dupx1 d_AL_fastRemove_37 rfl rfl ?_
    refine y_put fp_AL_48 d_AL_fastRemove_38 (fun h => nomatch h) rfl rfl (q0 := 0) rfl (Nat.le_of_ble_eq_true rfl) (cs' := [(a, .inr (13, [.int (md + 1), .ref dd, .int (nI k)])), (dd, .inl (5, N, .inr (.inr (.inr (.inr (va_cpy f f (i + 1) i (k - i)))))))]) rfl ?_
    refine y_null d_AL_fastRemove_41 ?_
    refine y_aastN d_AL_fastRemove_42 (q0 := 1) rfl (vp_in_nI (by omega) (by omega)) (f' := va_up (va_cpy f f (i + 1) i (k - i)) k none) (by rw [nI_clamp (by omega)]) (cs' := [(a, .inr (13, [.int (md + 1), .ref dd, .int (nI k)])), (dd, .inl (5, N, .inr (.inr (.inr (.inr (va_up (va_cpy f f (i + 1) i (k - i)) k none))))))]) rfl ?_
    refine y_vret d_AL_fastRemove_43 rfl ?_
    exact fun w1 h1 => ⟨_, ⟨rfl, by first | rfl | (unfold rmv; rw [hik2, va_cpy0])⟩, h1⟩
abbrev M_AL_remove : zM := (⟨"java/util/ArrayList", "remove", "(I)Ljava/lang/Object;"⟩, prog_40_method_29_code, 4, (Option.some (FieldType.object "java/lang/Object")), 3, 123, [])
theorem d_AL_remove_0 : decode prog_40_method_29_code 0 = .ok (.iload_n 1, 1) := zo_27 (zd_b zq_prog_40_method_29_code_0 0 rfl rfl rfl)
theorem d_AL_remove_1 : decode prog_40_method_29_code 1 = .ok (.aload_n 0, 1) := zo_42 (zd_b zq_prog_40_method_29_code_0 1 rfl rfl rfl)
theorem d_AL_remove_2 : decode prog_40_method_29_code 2 = .ok (.getfield 48, 3) := zo_180 (d := 0) (e := 48) (zd_b zq_prog_40_method_29_code_0 2 rfl rfl rfl) (zd_b zq_prog_40_method_29_code_0 3 rfl rfl rfl) (zd_b zq_prog_40_method_29_code_0 4 rfl rfl rfl)
theorem d_AL_remove_5 : decode prog_40_method_29_code 5 = .ok (.invokestatic 118, 3) := zo_184 (d := 0) (e := 118) (zd_b zq_prog_40_method_29_code_0 5 rfl rfl rfl) (zd_b zq_prog_40_method_29_code_0 6 rfl rfl rfl) (zd_b zq_prog_40_method_29_code_0 7 rfl rfl rfl)
theorem ok_AL_remove_Objects_checkIndex : z_ok M_AL_remove M_Objects_checkIndex 2 := ⟨z_mj2 (i := 183) rfl (by decide +kernel), rfl, ⟨by decide +kernel, by decide +kernel, by decide +kernel⟩, ⟨by decide, by decide⟩, z_mj1 (i := 32) rfl (by decide +kernel), rfl⟩
theorem d_AL_remove_8 : decode prog_40_method_29_code 8 = .ok (.pop, 1) := zo_87 (zd_b zq_prog_40_method_29_code_0 8 rfl rfl rfl)
theorem d_AL_remove_9 : decode prog_40_method_29_code 9 = .ok (.aload_n 0, 1) := zo_42 (zd_b zq_prog_40_method_29_code_0 9 rfl rfl rfl)
theorem d_AL_remove_10 : decode prog_40_method_29_code 10 = .ok (.getfield 9, 3) := zo_180 (d := 0) (e := 9) (zd_b zq_prog_40_method_29_code_0 10 rfl rfl rfl) (zd_b zq_prog_40_method_29_code_0 11 rfl rfl rfl) (zd_b zq_prog_40_method_29_code_0 12 rfl rfl rfl)
theorem d_AL_remove_13 : decode prog_40_method_29_code 13 = .ok (.astore_n 2, 1) := zo_77 (zd_b zq_prog_40_method_29_code_0 13 rfl rfl rfl)
theorem d_AL_remove_14 : decode prog_40_method_29_code 14 = .ok (.aload_n 2, 1) := zo_44 (zd_b zq_prog_40_method_29_code_0 14 rfl rfl rfl)
theorem d_AL_remove_15 : decode prog_40_method_29_code 15 = .ok (.iload_n 1, 1) := zo_27 (zd_b zq_prog_40_method_29_code_0 15 rfl rfl rfl)
theorem d_AL_remove_16 : decode prog_40_method_29_code 16 = .ok (.aaload, 1) := zo_50 (zd_b zq_prog_40_method_29_code_0 16 rfl rfl rfl)
theorem d_AL_remove_17 : decode prog_40_method_29_code 17 = .ok (.astore_n 3, 1) := zo_78 (zd_b zq_prog_40_method_29_code_0 17 rfl rfl rfl)
theorem d_AL_remove_18 : decode prog_40_method_29_code 18 = .ok (.aload_n 0, 1) := zo_42 (zd_b zq_prog_40_method_29_code_0 18 rfl rfl rfl)
theorem d_AL_remove_19 : decode prog_40_method_29_code 19 = .ok (.aload_n 2, 1) := zo_44 (zd_b zq_prog_40_method_29_code_0 19 rfl rfl rfl)
theorem d_AL_remove_20 : decode prog_40_method_29_code 20 = .ok (.iload_n 1, 1) := zo_27 (zd_b zq_prog_40_method_29_code_0 20 rfl rfl rfl)
theorem d_AL_remove_21 : decode prog_40_method_29_code 21 = .ok (.invokevirtual 144, 3) := zo_182 (d := 0) (e := 144) (zd_b zq_prog_40_method_29_code_0 21 rfl rfl rfl) (zd_b zq_prog_40_method_29_code_0 22 rfl rfl rfl) (zd_b zq_prog_40_method_29_code_0 23 rfl rfl rfl)
theorem ok_AL_remove_AL_fastRemove : z_ok M_AL_remove M_AL_fastRemove 2 := ⟨z_mj6 (i := 126) rfl (by decide +kernel), rfl, ⟨by decide +kernel, by decide +kernel, by decide +kernel⟩, ⟨by decide, by decide⟩, z_mj1 (i := 13) rfl (by decide +kernel), rfl⟩
theorem ln_AL_144 : Cond.methodLink "java/util/ArrayList" 144 M_AL_fastRemove.1 ∈ z_gw := z_mj6 (i := 123) rfl (by decide +kernel)
theorem w_im_AL_fastRemove : Cond.instanceMethod M_AL_fastRemove.1 ∈ z_gw := z_mj6 (i := 125) rfl (by decide +kernel)
theorem w_se_AL_fastRemove : Cond.selects M_AL_fastRemove.1.cls M_AL_fastRemove.1 M_AL_fastRemove.1 ∈ z_gw := z_mem (i := 25) (by decide +kernel) (by decide +kernel)
theorem d_AL_remove_24 : decode prog_40_method_29_code 24 = .ok (.aload_n 3, 1) := zo_45 (zd_b zq_prog_40_method_29_code_0 24 rfl rfl rfl)
theorem d_AL_remove_25 : decode prog_40_method_29_code 25 = .ok (.areturn, 1) := zo_176 (zd_b zq_prog_40_method_29_code_0 25 rfl rfl rfl)
set_option maxHeartbeats 4000000 in
set_option maxRecDepth 100000 in
theorem C_AL_remove (g : zG) (a dd N : Nat) (md : Int32) (f : Nat → Option Nat) (i k : Nat) (hik : i ≤ k) (hkN : k < N) (hN : N < 1000) (v : Nat) (hv : f i = some v) : CP g M_AL_remove [.ref a, .int (nI i)] [(a, .inr (13, [.int md, .ref dd, .int (nI (k + 1))])), (dd, .inl (5, N, .inr (.inr (.inr (.inr f)))))] (fun w => z_obE w (k - i) f (i + 1)) (fun o cs1 => o = .inl (some (.ref v)) ∧ cs1 = [(a, .inr (13, [.int (md + 1), .ref dd, .int (nI k)])), (dd, .inl (5, N, .inr (.inr (.inr (.inr (rmv f i k))))))]) 0 0 := by
  intro w hI hP
  refine y_ofM (by decide) rfl (Nat.le_of_ble_eq_true rfl) (y_base hI ?_)
  refine y_lvE (lv2 := [(0, .ref a), (1, .int (nI i))]) rfl ?_
  refine y_iload_n d_AL_remove_0 rfl 1 rfl ?_
  refine y_aload_n d_AL_remove_1 rfl 0 rfl ?_
  refine y_get fs_AL_48 d_AL_remove_2 (q0 := 0) rfl rfl ?_
  refine yp_callS (As := [.int (nI i), .int (nI (k + 1))]) (rest := []) (csC := []) (is := []) ln_AL_118 w_st_Objects_checkIndex ok_AL_remove_Objects_checkIndex d_AL_remove_5 ((fun w9 hI9 hC9 => C_Ob_checkIndex g (nI i) (nI (k + 1)) (nI_nneg (by omega)) ((nI_ltI (by omega) (by omega)).mpr (by omega)) w9 hC9)) rfl rfl (Nat.le_of_ble_eq_true rfl) rfl (by decide) (by omega) (by omega) (fun E cs1 hx => ?_) (fun v cs1 hx => ?_)
  · exact absurd hx.1 (by simp)
  · obtain ⟨e1, rfl⟩ := hx
    cases e1
    refine ⟨rfl, ?_⟩
    refine y_st (st2 := [.int (nI i)]) rfl ?_
    refine y_cs (cs2 := [(a, .inr (13, [.int md, .ref dd, .int (nI (k + 1))])), (dd, .inl (5, N, .inr (.inr (.inr (.inr f)))))]) rfl ?_
    refine y_pop d_AL_remove_8 rfl ?_
    refine y_aload_n d_AL_remove_9 rfl 0 rfl ?_
    refine y_get fs_AL_9 d_AL_remove_10 (q0 := 0) rfl rfl ?_
    refine y_astore_n (lv' := [(2, .ref dd), (0, .ref a), (1, .int (nI i))]) d_AL_remove_13 rfl (by decide) rfl ?_
    refine y_aload_n d_AL_remove_14 rfl 0 rfl ?_
    refine y_iload_n d_AL_remove_15 rfl 2 rfl ?_
    refine y_aald d_AL_remove_16 (q0 := 1) rfl (vp_in_nI (by omega) (by omega)) (v := .ref v) (by rw [nI_clamp (by omega), hv]; rfl) ?_
    refine y_astore_n (lv' := [(3, .ref v), (2, .ref dd), (0, .ref a), (1, .int (nI i))]) d_AL_remove_17 rfl (by decide) rfl ?_
    refine y_aload_n d_AL_remove_18 rfl 2 rfl ?_
    refine y_aload_n d_AL_remove_19 rfl 1 rfl ?_
    refine y_iload_n d_AL_remove_20 rfl 3 rfl ?_
    refine yp_callV (As := [.ref dd, .int (nI i)]) (rest := []) (csC := [(a, .inr (13, [.int md, .ref dd, .int (nI (k + 1))])), (dd, .inl (5, N, .inr (.inr (.inr (.inr f)))))]) (is := [0, 1]) (q0 := 0) rfl rfl ln_AL_144 w_im_AL_fastRemove w_se_AL_fastRemove ok_AL_remove_AL_fastRemove d_AL_remove_21 ((fun w9 hI9 hC9 => C_AL_fastRemove g a dd N md f i k hik hkN hN w9 hC9 (by rw [z_I.same hI hI9]; exact hP))) rfl rfl (Nat.le_of_ble_eq_true rfl) rfl (by decide) (by omega) (by omega) (fun E cs1 hx => ?_) (fun v cs1 hx => ?_)
    · exact absurd hx.1 (by simp)
    · obtain ⟨e1, rfl⟩ := hx
      cases e1
      refine ⟨rfl, ?_⟩
      refine y_st (st2 := []) rfl ?_
      refine y_cs (cs2 := [(a, .inr (13, [.int (md + 1), .ref dd, .int (nI k)])), (dd, .inl (5, N, .inr (.inr (.inr (.inr (rmv f i k))))))]) rfl ?_
      refine y_aload_n d_AL_remove_24 rfl 0 rfl ?_
      refine y_aret d_AL_remove_25 rfl (Or.inl ⟨_, rfl⟩) (Or.inr ⟨_, rfl⟩) ?_
      exact fun w1 h1 => ⟨_, ⟨rfl, rfl⟩, h1⟩
