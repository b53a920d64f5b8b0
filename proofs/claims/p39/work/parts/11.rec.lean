def ctS (e : Nat) (p s a : Int32) : Int32 := (p * (z_sv 0).getD e 0 + s * (z_sv 1).getD e 0 + a * (z_sv 2).getD e 0) / 100
abbrev zR : Type := Int32 × Int32 × Int32 × Int32
def prS (pp ps pa : Int32) (P A : Nat) : Int32 := nI P * pp + nI (100 - P - A) * ps + nI A * pa
def rcC (le mo si : Int32) (P A : Nat) : Prop := ¬ ctS 0 (nI P) (nI (100 - P - A)) (nI A) < le ∧ ¬ mo < ctS 0 (nI P) (nI (100 - P - A)) (nI A) ∧ ¬ ctS 1 (nI P) (nI (100 - P - A)) (nI A) < si
noncomputable def rcI (le mo si pp ps pa : Int32) (P A : Nat) (s : zR) : zR := @ite _ (rcC le mo si P A ∧ (s.1 < 0 ∨ ¬ s.1 ≤ prS pp ps pa P A)) (Classical.propDecidable _) (prS pp ps pa P A, nI P, nI A, 1) s
theorem rcI_t {le mo si pp ps pa : Int32} {P A : Nat} {s : zR} (h : rcC le mo si P A ∧ (s.1 < 0 ∨ ¬ s.1 ≤ prS pp ps pa P A)) : rcI le mo si pp ps pa P A s = (prS pp ps pa P A, nI P, nI A, 1) := if_pos h
theorem rcI_f {le mo si pp ps pa : Int32} {P A : Nat} {s : zR} (h : ¬ (rcC le mo si P A ∧ (s.1 < 0 ∨ ¬ s.1 ≤ prS pp ps pa P A))) : rcI le mo si pp ps pa P A s = s := if_neg h
noncomputable def rcR (le mo si pp ps pa : Int32) (P : Nat) (s : zR) : Nat → zR
  | 0 => s
  | A + 1 => rcI le mo si pp ps pa P A (rcR le mo si pp ps pa P s A)
def nA (P : Nat) : Nat := if P = 100 then 1 else 11
noncomputable def rcO (le mo si pp ps pa : Int32) (s : zR) : Nat → zR
  | 0 => s
  | k + 1 => rcR le mo si pp ps pa (100 - 10 * k) (rcO le mo si pp ps pa s k) (nA (100 - 10 * k))
def pgI (k : Nat) : Int32 := 100 - nI (10 * k)
theorem nA_c (P : Nat) : P = 100 ∧ nA P = 1 ∨ P ≠ 100 ∧ nA P = 11 := by
  unfold nA
  split
  · exact Or.inl ⟨by assumption, rfl⟩
  · exact Or.inr ⟨by assumption, rfl⟩
theorem pgI_n {k : Nat} (h : k < 11) : pgI k = nI (100 - 10 * k) := pk_sub (a := 100) (by omega)
theorem pgI_s : ∀ k, k < 11 → pgI k + (-10) = pgI (k + 1) := by decide
theorem pgI_neg : ∀ k, k < 12 → (pgI k < 0 ↔ k = 11) := by decide
abbrev M_Re_contentOf : zM := (⟨"Ironpour$Recipe", "contentOf", "(IIII)I"⟩, prog_11_method_4_code, 4, (Option.some FieldType.int), 1, 20, [])
theorem d_Re_contentOf_0 : decode prog_11_method_4_code 0 = .ok (.iload_n 1, 1) := zo_27 (zd_b zq_prog_11_method_4_code_0 0 rfl rfl rfl)
theorem d_Re_contentOf_1 : decode prog_11_method_4_code 1 = .ok (.getstatic 26, 3) := zo_178 (d := 0) (e := 26) (zd_b zq_prog_11_method_4_code_0 1 rfl rfl rfl) (zd_b zq_prog_11_method_4_code_0 2 rfl rfl rfl) (zd_b zq_prog_11_method_4_code_0 3 rfl rfl rfl)
theorem ls_Re_26 : Cond.fieldLinkNest "Ironpour$Recipe" 26 "Ironpour" (z_sn 0) "[I" "Ironpour" ∈ z_nw := z_mk5 (i := 194) rfl (by decide +kernel)
theorem d_Re_contentOf_4 : decode prog_11_method_4_code 4 = .ok (.iload_n 0, 1) := zo_26 (zd_b zq_prog_11_method_4_code_0 4 rfl rfl rfl)
theorem d_Re_contentOf_5 : decode prog_11_method_4_code 5 = .ok (.iaload, 1) := zo_46 (zd_b zq_prog_11_method_4_code_0 5 rfl rfl rfl)
theorem d_Re_contentOf_6 : decode prog_11_method_4_code 6 = .ok (.imul, 1) := zo_104 (zd_b zq_prog_11_method_4_code_0 6 rfl rfl rfl)
theorem d_Re_contentOf_7 : decode prog_11_method_4_code 7 = .ok (.iload_n 2, 1) := zo_28 (zd_b zq_prog_11_method_4_code_0 7 rfl rfl rfl)
theorem d_Re_contentOf_8 : decode prog_11_method_4_code 8 = .ok (.getstatic 30, 3) := zo_178 (d := 0) (e := 30) (zd_b zq_prog_11_method_4_code_0 8 rfl rfl rfl) (zd_b zq_prog_11_method_4_code_0 9 rfl rfl rfl) (zd_b zq_prog_11_method_4_code_0 10 rfl rfl rfl)
theorem ls_Re_30 : Cond.fieldLinkNest "Ironpour$Recipe" 30 "Ironpour" (z_sn 1) "[I" "Ironpour" ∈ z_nw := z_mk5 (i := 195) rfl (by decide +kernel)
theorem d_Re_contentOf_11 : decode prog_11_method_4_code 11 = .ok (.iload_n 0, 1) := zo_26 (zd_b zq_prog_11_method_4_code_0 11 rfl rfl rfl)
theorem d_Re_contentOf_12 : decode prog_11_method_4_code 12 = .ok (.iaload, 1) := zo_46 (zd_b zq_prog_11_method_4_code_0 12 rfl rfl rfl)
theorem d_Re_contentOf_13 : decode prog_11_method_4_code 13 = .ok (.imul, 1) := zo_104 (zd_b zq_prog_11_method_4_code_0 13 rfl rfl rfl)
theorem d_Re_contentOf_14 : decode prog_11_method_4_code 14 = .ok (.iadd, 1) := zo_96 (zd_b zq_prog_11_method_4_code_0 14 rfl rfl rfl)
theorem d_Re_contentOf_15 : decode prog_11_method_4_code 15 = .ok (.iload_n 3, 1) := zo_29 (zd_b zq_prog_11_method_4_code_0 15 rfl rfl rfl)
theorem d_Re_contentOf_16 : decode prog_11_method_4_code 16 = .ok (.getstatic 33, 3) := zo_178 (d := 0) (e := 33) (zd_b zq_prog_11_method_4_code_0 16 rfl rfl rfl) (zd_b zq_prog_11_method_4_code_0 17 rfl rfl rfl) (zd_b zq_prog_11_method_4_code_0 18 rfl rfl rfl)
theorem ls_Re_33 : Cond.fieldLinkNest "Ironpour$Recipe" 33 "Ironpour" (z_sn 2) "[I" "Ironpour" ∈ z_nw := z_mk5 (i := 196) rfl (by decide +kernel)
theorem d_Re_contentOf_19 : decode prog_11_method_4_code 19 = .ok (.iload_n 0, 1) := zo_26 (zd_b zq_prog_11_method_4_code_0 19 rfl rfl rfl)
theorem d_Re_contentOf_20 : decode prog_11_method_4_code 20 = .ok (.iaload, 1) := zo_46 (zd_b zq_prog_11_method_4_code_0 20 rfl rfl rfl)
theorem d_Re_contentOf_21 : decode prog_11_method_4_code 21 = .ok (.imul, 1) := zo_104 (zd_b zq_prog_11_method_4_code_0 21 rfl rfl rfl)
theorem d_Re_contentOf_22 : decode prog_11_method_4_code 22 = .ok (.iadd, 1) := zo_96 (zd_b zq_prog_11_method_4_code_0 22 rfl rfl rfl)
theorem d_Re_contentOf_23 : decode prog_11_method_4_code 23 = .ok (.bipush 100, 2) := zo_16 (d := 100) (zd_b zq_prog_11_method_4_code_0 23 rfl rfl rfl) (zd_b zq_prog_11_method_4_code_0 24 rfl rfl rfl) (by decide +kernel)
theorem d_Re_contentOf_25 : decode prog_11_method_4_code 25 = .ok (.idiv, 1) := zo_108 (zd_b zq_prog_11_method_4_code_0 25 rfl rfl rfl)
theorem d_Re_contentOf_26 : decode prog_11_method_4_code 26 = .ok (.ireturn, 1) := zo_172 (zd_b zq_prog_11_method_4_code_0 26 rfl rfl rfl)
set_option maxHeartbeats 4000000 in
set_option maxRecDepth 100000 in
theorem C_Re_contentOf (g : zG) (e : Nat) (he : e < 4) (p s a : Int32) : CT g M_Re_contentOf [.int (nI e), .int p, .int s, .int a] [] (fun o cs1 => o = .inl (some (.int (ctS e p s a))) ∧ cs1 = []) 0 0 := by
  refine z_of (by decide) rfl (Nat.le_of_ble_eq_true rfl) (fun w0 => ?_)
  refine r_lvE (lv2 := [(0, .int (nI e)), (1, .int p), (2, .int s), (3, .int a)]) rfl ?_
  refine r_iload_n d_Re_contentOf_0 rfl 1 rfl ?_
  refine r_getsAN (i := 0) (by decide) ls_Re_26 d_Re_contentOf_1 ?_
  refine r_iload_n d_Re_contentOf_4 rfl 0 rfl ?_
  refine r_taldA (v := (z_sv 0).getD e 0) (by omega) (vp_in_nI (by omega) (by omega)) (by rw [nI_clamp (by omega)]) d_Re_contentOf_5 ?_
  refine r_imul d_Re_contentOf_6 (v := p * ((z_sv 0).getD e 0)) rfl ?_
  refine r_iload_n d_Re_contentOf_7 rfl 2 rfl ?_
  refine r_getsAN (i := 1) (by decide) ls_Re_30 d_Re_contentOf_8 ?_
  refine r_iload_n d_Re_contentOf_11 rfl 0 rfl ?_
  refine r_taldA (v := (z_sv 1).getD e 0) (by omega) (vp_in_nI (by omega) (by omega)) (by rw [nI_clamp (by omega)]) d_Re_contentOf_12 ?_
  refine r_imul d_Re_contentOf_13 (v := s * ((z_sv 1).getD e 0)) rfl ?_
  refine r_iadd d_Re_contentOf_14 (v := (p * ((z_sv 0).getD e 0)) + (s * ((z_sv 1).getD e 0))) rfl ?_
  refine r_iload_n d_Re_contentOf_15 rfl 3 rfl ?_
  refine r_getsAN (i := 2) (by decide) ls_Re_33 d_Re_contentOf_16 ?_
  refine r_iload_n d_Re_contentOf_19 rfl 0 rfl ?_
  refine r_taldA (v := (z_sv 2).getD e 0) (by omega) (vp_in_nI (by omega) (by omega)) (by rw [nI_clamp (by omega)]) d_Re_contentOf_20 ?_
  refine r_imul d_Re_contentOf_21 (v := a * ((z_sv 2).getD e 0)) rfl ?_
  refine r_iadd d_Re_contentOf_22 (v := ((p * ((z_sv 0).getD e 0)) + (s * ((z_sv 1).getD e 0))) + (a * ((z_sv 2).getD e 0))) rfl ?_
  refine r_bipush d_Re_contentOf_23 (v := 100) (by decide) ?_
  refine r_idiv d_Re_contentOf_25 (v := (((p * ((z_sv 0).getD e 0)) + (s * ((z_sv 1).getD e 0))) + (a * ((z_sv 2).getD e 0))) / 100) (by decide) rfl ?_
  refine r_iret d_Re_contentOf_26 rfl rfl ?_
  exact ⟨rfl, rfl⟩
abbrev M_Re_search : zM := (⟨"Ironpour$Recipe", "search", "(IIIIII)I"⟩, prog_11_method_3_code, 14, (Option.some FieldType.int), 2, 43, [])
theorem d_Re_search_15 : decode prog_11_method_3_code 15 = .ok (.iload 9, 2) := zo_21 (d := 9) (zd_b zq_prog_11_method_3_code_0 15 rfl rfl rfl) (zd_b zq_prog_11_method_3_code_0 16 rfl rfl rfl)
theorem d_Re_search_17 : decode prog_11_method_3_code 17 = .ok (.bipush 10, 2) := zo_16 (d := 10) (zd_b zq_prog_11_method_3_code_0 17 rfl rfl rfl) (zd_b zq_prog_11_method_3_code_0 18 rfl rfl rfl) (by decide +kernel)
theorem d_Re_search_19 : decode prog_11_method_3_code 19 = .ok (.if_icmp .gt 131, 3) := zo_163 (d := 0) (e := 131) (zd_b zq_prog_11_method_3_code_0 19 rfl rfl rfl) (zd_b zq_prog_11_method_3_code_0 20 rfl rfl rfl) (zd_b zq_prog_11_method_3_code_0 21 rfl rfl rfl) (by decide +kernel)
theorem d_Re_search_22 : decode prog_11_method_3_code 22 = .ok (.iload 8, 2) := zo_21 (d := 8) (zd_b zq_prog_11_method_3_code_0 22 rfl rfl rfl) (zd_b zq_prog_11_method_3_code_0 23 rfl rfl rfl)
theorem d_Re_search_24 : decode prog_11_method_3_code 24 = .ok (.iload 9, 2) := zo_21 (d := 9) (zd_b zq_prog_11_method_3_code_0 24 rfl rfl rfl) (zd_b zq_prog_11_method_3_code_0 25 rfl rfl rfl)
theorem d_Re_search_26 : decode prog_11_method_3_code 26 = .ok (.iadd, 1) := zo_96 (zd_b zq_prog_11_method_3_code_0 26 rfl rfl rfl)
theorem d_Re_search_27 : decode prog_11_method_3_code 27 = .ok (.bipush 100, 2) := zo_16 (d := 100) (zd_b zq_prog_11_method_3_code_0 27 rfl rfl rfl) (zd_b zq_prog_11_method_3_code_0 28 rfl rfl rfl) (by decide +kernel)
theorem d_Re_search_29 : decode prog_11_method_3_code 29 = .ok (.if_icmp .gt 121, 3) := zo_163 (d := 0) (e := 121) (zd_b zq_prog_11_method_3_code_0 29 rfl rfl rfl) (zd_b zq_prog_11_method_3_code_0 30 rfl rfl rfl) (zd_b zq_prog_11_method_3_code_0 31 rfl rfl rfl) (by decide +kernel)
theorem d_Re_search_32 : decode prog_11_method_3_code 32 = .ok (.bipush 100, 2) := zo_16 (d := 100) (zd_b zq_prog_11_method_3_code_1 0 rfl rfl rfl) (zd_b zq_prog_11_method_3_code_1 1 rfl rfl rfl) (by decide +kernel)
theorem d_Re_search_34 : decode prog_11_method_3_code 34 = .ok (.iload 8, 2) := zo_21 (d := 8) (zd_b zq_prog_11_method_3_code_1 2 rfl rfl rfl) (zd_b zq_prog_11_method_3_code_1 3 rfl rfl rfl)
theorem d_Re_search_36 : decode prog_11_method_3_code 36 = .ok (.isub, 1) := zo_100 (zd_b zq_prog_11_method_3_code_1 4 rfl rfl rfl)
theorem d_Re_search_37 : decode prog_11_method_3_code 37 = .ok (.iload 9, 2) := zo_21 (d := 9) (zd_b zq_prog_11_method_3_code_1 5 rfl rfl rfl) (zd_b zq_prog_11_method_3_code_1 6 rfl rfl rfl)
theorem d_Re_search_39 : decode prog_11_method_3_code 39 = .ok (.isub, 1) := zo_100 (zd_b zq_prog_11_method_3_code_1 7 rfl rfl rfl)
theorem d_Re_search_40 : decode prog_11_method_3_code 40 = .ok (.istore 10, 2) := zo_54 (d := 10) (zd_b zq_prog_11_method_3_code_1 8 rfl rfl rfl) (zd_b zq_prog_11_method_3_code_1 9 rfl rfl rfl)
theorem d_Re_search_42 : decode prog_11_method_3_code 42 = .ok (.iload 8, 2) := zo_21 (d := 8) (zd_b zq_prog_11_method_3_code_1 10 rfl rfl rfl) (zd_b zq_prog_11_method_3_code_1 11 rfl rfl rfl)
theorem d_Re_search_44 : decode prog_11_method_3_code 44 = .ok (.iload 4, 2) := zo_21 (d := 4) (zd_b zq_prog_11_method_3_code_1 12 rfl rfl rfl) (zd_b zq_prog_11_method_3_code_1 13 rfl rfl rfl)
theorem d_Re_search_46 : decode prog_11_method_3_code 46 = .ok (.imul, 1) := zo_104 (zd_b zq_prog_11_method_3_code_1 14 rfl rfl rfl)
theorem d_Re_search_47 : decode prog_11_method_3_code 47 = .ok (.iload 10, 2) := zo_21 (d := 10) (zd_b zq_prog_11_method_3_code_1 15 rfl rfl rfl) (zd_b zq_prog_11_method_3_code_1 16 rfl rfl rfl)
theorem d_Re_search_49 : decode prog_11_method_3_code 49 = .ok (.iload 5, 2) := zo_21 (d := 5) (zd_b zq_prog_11_method_3_code_1 17 rfl rfl rfl) (zd_b zq_prog_11_method_3_code_1 18 rfl rfl rfl)
theorem d_Re_search_51 : decode prog_11_method_3_code 51 = .ok (.imul, 1) := zo_104 (zd_b zq_prog_11_method_3_code_1 19 rfl rfl rfl)
theorem d_Re_search_52 : decode prog_11_method_3_code 52 = .ok (.iadd, 1) := zo_96 (zd_b zq_prog_11_method_3_code_1 20 rfl rfl rfl)
theorem d_Re_search_53 : decode prog_11_method_3_code 53 = .ok (.iload 9, 2) := zo_21 (d := 9) (zd_b zq_prog_11_method_3_code_1 21 rfl rfl rfl) (zd_b zq_prog_11_method_3_code_1 22 rfl rfl rfl)
theorem d_Re_search_55 : decode prog_11_method_3_code 55 = .ok (.iload 6, 2) := zo_21 (d := 6) (zd_b zq_prog_11_method_3_code_1 23 rfl rfl rfl) (zd_b zq_prog_11_method_3_code_1 24 rfl rfl rfl)
theorem d_Re_search_57 : decode prog_11_method_3_code 57 = .ok (.imul, 1) := zo_104 (zd_b zq_prog_11_method_3_code_1 25 rfl rfl rfl)
theorem d_Re_search_58 : decode prog_11_method_3_code 58 = .ok (.iadd, 1) := zo_96 (zd_b zq_prog_11_method_3_code_1 26 rfl rfl rfl)
theorem d_Re_search_59 : decode prog_11_method_3_code 59 = .ok (.istore 11, 2) := zo_54 (d := 11) (zd_b zq_prog_11_method_3_code_1 27 rfl rfl rfl) (zd_b zq_prog_11_method_3_code_1 28 rfl rfl rfl)
theorem d_Re_search_61 : decode prog_11_method_3_code 61 = .ok (.iconst 0, 1) := zo_3 (zd_b zq_prog_11_method_3_code_1 29 rfl rfl rfl)
theorem d_Re_search_62 : decode prog_11_method_3_code 62 = .ok (.iload 8, 2) := zo_21 (d := 8) (zd_b zq_prog_11_method_3_code_1 30 rfl rfl rfl) (zd_b zq_prog_11_method_3_code_1 31 rfl rfl rfl)
theorem d_Re_search_64 : decode prog_11_method_3_code 64 = .ok (.iload 10, 2) := zo_21 (d := 10) (zd_b zq_prog_11_method_3_code_2 0 rfl rfl rfl) (zd_b zq_prog_11_method_3_code_2 1 rfl rfl rfl)
theorem d_Re_search_66 : decode prog_11_method_3_code 66 = .ok (.iload 9, 2) := zo_21 (d := 9) (zd_b zq_prog_11_method_3_code_2 2 rfl rfl rfl) (zd_b zq_prog_11_method_3_code_2 3 rfl rfl rfl)
theorem d_Re_search_68 : decode prog_11_method_3_code 68 = .ok (.invokestatic 18, 3) := zo_184 (d := 0) (e := 18) (zd_b zq_prog_11_method_3_code_2 4 rfl rfl rfl) (zd_b zq_prog_11_method_3_code_2 5 rfl rfl rfl) (zd_b zq_prog_11_method_3_code_2 6 rfl rfl rfl)
theorem ok_Re_search_Re_contentOf : z_ok M_Re_search M_Re_contentOf 4 := ⟨z_mj5 (i := 193) rfl (by decide +kernel), rfl, ⟨by decide +kernel, by decide +kernel, by decide +kernel⟩, ⟨by decide, by decide⟩, z_mj1 (i := 10) rfl (by decide +kernel), rfl⟩
theorem ln_Re_18 : Cond.methodLink "Ironpour$Recipe" 18 M_Re_contentOf.1 ∈ z_gw := z_mj5 (i := 191) rfl (by decide +kernel)
theorem w_st_Re_contentOf : Cond.static M_Re_contentOf.1 ∈ z_gw := z_mj5 (i := 192) rfl (by decide +kernel)
theorem d_Re_search_71 : decode prog_11_method_3_code 71 = .ok (.istore 12, 2) := zo_54 (d := 12) (zd_b zq_prog_11_method_3_code_2 7 rfl rfl rfl) (zd_b zq_prog_11_method_3_code_2 8 rfl rfl rfl)
theorem d_Re_search_73 : decode prog_11_method_3_code 73 = .ok (.iload 12, 2) := zo_21 (d := 12) (zd_b zq_prog_11_method_3_code_2 9 rfl rfl rfl) (zd_b zq_prog_11_method_3_code_2 10 rfl rfl rfl)
theorem d_Re_search_75 : decode prog_11_method_3_code 75 = .ok (.iload_n 1, 1) := zo_27 (zd_b zq_prog_11_method_3_code_2 11 rfl rfl rfl)
theorem d_Re_search_76 : decode prog_11_method_3_code 76 = .ok (.if_icmp .lt 27, 3) := zo_161 (d := 0) (e := 27) (zd_b zq_prog_11_method_3_code_2 12 rfl rfl rfl) (zd_b zq_prog_11_method_3_code_2 13 rfl rfl rfl) (zd_b zq_prog_11_method_3_code_2 14 rfl rfl rfl) (by decide +kernel)
theorem d_Re_search_103 : decode prog_11_method_3_code 103 = .ok (.iconst 0, 1) := zo_3 (zd_b zq_prog_11_method_3_code_3 7 rfl rfl rfl)
theorem d_Re_search_104 : decode prog_11_method_3_code 104 = .ok (.istore 13, 2) := zo_54 (d := 13) (zd_b zq_prog_11_method_3_code_3 8 rfl rfl rfl) (zd_b zq_prog_11_method_3_code_3 9 rfl rfl rfl)
theorem d_Re_search_106 : decode prog_11_method_3_code 106 = .ok (.iload 13, 2) := zo_21 (d := 13) (zd_b zq_prog_11_method_3_code_3 10 rfl rfl rfl) (zd_b zq_prog_11_method_3_code_3 11 rfl rfl rfl)
theorem d_Re_search_108 : decode prog_11_method_3_code 108 = .ok (.ifCond .eq 36, 3) := zo_153 (d := 0) (e := 36) (zd_b zq_prog_11_method_3_code_3 12 rfl rfl rfl) (zd_b zq_prog_11_method_3_code_3 13 rfl rfl rfl) (zd_b zq_prog_11_method_3_code_3 14 rfl rfl rfl) (by decide +kernel)
theorem d_Re_search_144 : decode prog_11_method_3_code 144 = .ok (.iinc 9 1, 3) := by decide +kernel
theorem d_Re_search_147 : decode prog_11_method_3_code 147 = .ok (.goto (-132), 3) := zo_167 (d := 255) (e := 124) (zd_b zq_prog_11_method_3_code_4 19 rfl rfl rfl) (zd_b zq_prog_11_method_3_code_4 20 rfl rfl rfl) (zd_b zq_prog_11_method_3_code_4 21 rfl rfl rfl) (by decide +kernel)
theorem d_Re_search_79 : decode prog_11_method_3_code 79 = .ok (.iload 12, 2) := zo_21 (d := 12) (zd_b zq_prog_11_method_3_code_2 15 rfl rfl rfl) (zd_b zq_prog_11_method_3_code_2 16 rfl rfl rfl)
theorem d_Re_search_81 : decode prog_11_method_3_code 81 = .ok (.iload_n 2, 1) := zo_28 (zd_b zq_prog_11_method_3_code_2 17 rfl rfl rfl)
theorem d_Re_search_82 : decode prog_11_method_3_code 82 = .ok (.if_icmp .gt 21, 3) := zo_163 (d := 0) (e := 21) (zd_b zq_prog_11_method_3_code_2 18 rfl rfl rfl) (zd_b zq_prog_11_method_3_code_2 19 rfl rfl rfl) (zd_b zq_prog_11_method_3_code_2 20 rfl rfl rfl) (by decide +kernel)
theorem d_Re_search_85 : decode prog_11_method_3_code 85 = .ok (.iconst 1, 1) := zo_4 (zd_b zq_prog_11_method_3_code_2 21 rfl rfl rfl)
theorem d_Re_search_86 : decode prog_11_method_3_code 86 = .ok (.iload 8, 2) := zo_21 (d := 8) (zd_b zq_prog_11_method_3_code_2 22 rfl rfl rfl) (zd_b zq_prog_11_method_3_code_2 23 rfl rfl rfl)
theorem d_Re_search_88 : decode prog_11_method_3_code 88 = .ok (.iload 10, 2) := zo_21 (d := 10) (zd_b zq_prog_11_method_3_code_2 24 rfl rfl rfl) (zd_b zq_prog_11_method_3_code_2 25 rfl rfl rfl)
theorem d_Re_search_90 : decode prog_11_method_3_code 90 = .ok (.iload 9, 2) := zo_21 (d := 9) (zd_b zq_prog_11_method_3_code_2 26 rfl rfl rfl) (zd_b zq_prog_11_method_3_code_2 27 rfl rfl rfl)
theorem d_Re_search_92 : decode prog_11_method_3_code 92 = .ok (.invokestatic 18, 3) := zo_184 (d := 0) (e := 18) (zd_b zq_prog_11_method_3_code_2 28 rfl rfl rfl) (zd_b zq_prog_11_method_3_code_2 29 rfl rfl rfl) (zd_b zq_prog_11_method_3_code_2 30 rfl rfl rfl)
theorem d_Re_search_95 : decode prog_11_method_3_code 95 = .ok (.iload_n 3, 1) := zo_29 (zd_b zq_prog_11_method_3_code_2 31 rfl rfl rfl)
theorem d_Re_search_96 : decode prog_11_method_3_code 96 = .ok (.if_icmp .lt 7, 3) := zo_161 (d := 0) (e := 7) (zd_b zq_prog_11_method_3_code_3 0 rfl rfl rfl) (zd_b zq_prog_11_method_3_code_3 1 rfl rfl rfl) (zd_b zq_prog_11_method_3_code_3 2 rfl rfl rfl) (by decide +kernel)
theorem d_Re_search_99 : decode prog_11_method_3_code 99 = .ok (.iconst 1, 1) := zo_4 (zd_b zq_prog_11_method_3_code_3 3 rfl rfl rfl)
theorem d_Re_search_100 : decode prog_11_method_3_code 100 = .ok (.goto 4, 3) := zo_167 (d := 0) (e := 4) (zd_b zq_prog_11_method_3_code_3 4 rfl rfl rfl) (zd_b zq_prog_11_method_3_code_3 5 rfl rfl rfl) (zd_b zq_prog_11_method_3_code_3 6 rfl rfl rfl) (by decide +kernel)
theorem d_Re_search_111 : decode prog_11_method_3_code 111 = .ok (.iload 7, 2) := zo_21 (d := 7) (zd_b zq_prog_11_method_3_code_3 15 rfl rfl rfl) (zd_b zq_prog_11_method_3_code_3 16 rfl rfl rfl)
theorem d_Re_search_113 : decode prog_11_method_3_code 113 = .ok (.ifCond .lt 10, 3) := zo_155 (d := 0) (e := 10) (zd_b zq_prog_11_method_3_code_3 17 rfl rfl rfl) (zd_b zq_prog_11_method_3_code_3 18 rfl rfl rfl) (zd_b zq_prog_11_method_3_code_3 19 rfl rfl rfl) (by decide +kernel)
theorem d_Re_search_123 : decode prog_11_method_3_code 123 = .ok (.iload 11, 2) := zo_21 (d := 11) (zd_b zq_prog_11_method_3_code_3 27 rfl rfl rfl) (zd_b zq_prog_11_method_3_code_3 28 rfl rfl rfl)
theorem d_Re_search_125 : decode prog_11_method_3_code 125 = .ok (.istore 7, 2) := zo_54 (d := 7) (zd_b zq_prog_11_method_3_code_3 29 rfl rfl rfl) (zd_b zq_prog_11_method_3_code_3 30 rfl rfl rfl)
theorem d_Re_search_127 : decode prog_11_method_3_code 127 = .ok (.aload_n 0, 1) := zo_42 (zd_b zq_prog_11_method_3_code_3 31 rfl rfl rfl)
theorem d_Re_search_128 : decode prog_11_method_3_code 128 = .ok (.iload 8, 2) := zo_21 (d := 8) (zd_b zq_prog_11_method_3_code_4 0 rfl rfl rfl) (zd_b zq_prog_11_method_3_code_4 1 rfl rfl rfl)
theorem d_Re_search_130 : decode prog_11_method_3_code 130 = .ok (.putfield 11, 3) := zo_181 (d := 0) (e := 11) (zd_b zq_prog_11_method_3_code_4 2 rfl rfl rfl) (zd_b zq_prog_11_method_3_code_4 3 rfl rfl rfl) (zd_b zq_prog_11_method_3_code_4 4 rfl rfl rfl)
theorem u_Re : ∀ x ∈ u_ws R_Re F_Re 3, x ∈ z_gw := fun x hx => List.mem_filter.mpr ⟨(z_au [(2, 30), (2, 32), (2, 34)] (by decide +kernel) : ∀ x ∈ u_ws R_Re F_Re 3, x ∈ lw_tbl) x hx, (show ∀ x ∈ u_ws R_Re F_Re 3, goodWord x = true by decide +kernel) x hx⟩
theorem fp_Re_11 : z_fp "Ironpour$Recipe" 11 9 0 false .int := ⟨R_Re, "Ironpour$Recipe", F_Re, 3, t_Re, rfl, u_Re, by decide, t_Re_ok, n_Re, rfl, rfl, Or.inl ⟨z_mj2 (i := 24) rfl (by decide +kernel), Or.inl rfl, fun h => nomatch h⟩⟩
theorem d_Re_search_133 : decode prog_11_method_3_code 133 = .ok (.aload_n 0, 1) := zo_42 (zd_b zq_prog_11_method_3_code_4 5 rfl rfl rfl)
theorem d_Re_search_134 : decode prog_11_method_3_code 134 = .ok (.iload 9, 2) := zo_21 (d := 9) (zd_b zq_prog_11_method_3_code_4 6 rfl rfl rfl) (zd_b zq_prog_11_method_3_code_4 7 rfl rfl rfl)
theorem d_Re_search_136 : decode prog_11_method_3_code 136 = .ok (.putfield 15, 3) := zo_181 (d := 0) (e := 15) (zd_b zq_prog_11_method_3_code_4 8 rfl rfl rfl) (zd_b zq_prog_11_method_3_code_4 9 rfl rfl rfl) (zd_b zq_prog_11_method_3_code_4 10 rfl rfl rfl)
theorem fp_Re_15 : z_fp "Ironpour$Recipe" 15 9 1 false .int := ⟨R_Re, "Ironpour$Recipe", F_Re, 3, t_Re, rfl, u_Re, by decide, t_Re_ok, n_Re, rfl, rfl, Or.inl ⟨z_mj2 (i := 26) rfl (by decide +kernel), Or.inl rfl, fun h => nomatch h⟩⟩
theorem d_Re_search_139 : decode prog_11_method_3_code 139 = .ok (.aload_n 0, 1) := zo_42 (zd_b zq_prog_11_method_3_code_4 11 rfl rfl rfl)
theorem d_Re_search_140 : decode prog_11_method_3_code 140 = .ok (.iconst 1, 1) := zo_4 (zd_b zq_prog_11_method_3_code_4 12 rfl rfl rfl)
theorem d_Re_search_141 : decode prog_11_method_3_code 141 = .ok (.putfield 22, 3) := zo_181 (d := 0) (e := 22) (zd_b zq_prog_11_method_3_code_4 13 rfl rfl rfl) (zd_b zq_prog_11_method_3_code_4 14 rfl rfl rfl) (zd_b zq_prog_11_method_3_code_4 15 rfl rfl rfl)
theorem fp_Re_22 : z_fp "Ironpour$Recipe" 22 9 2 false .boolean := ⟨R_Re, "Ironpour$Recipe", F_Re, 3, t_Re, rfl, u_Re, by decide, t_Re_ok, n_Re, rfl, rfl, Or.inl ⟨z_mj2 (i := 28) rfl (by decide +kernel), Or.inl rfl, fun h => nomatch h⟩⟩
theorem d_Re_search_116 : decode prog_11_method_3_code 116 = .ok (.iload 11, 2) := zo_21 (d := 11) (zd_b zq_prog_11_method_3_code_3 20 rfl rfl rfl) (zd_b zq_prog_11_method_3_code_3 21 rfl rfl rfl)
theorem d_Re_search_118 : decode prog_11_method_3_code 118 = .ok (.iload 7, 2) := zo_21 (d := 7) (zd_b zq_prog_11_method_3_code_3 22 rfl rfl rfl) (zd_b zq_prog_11_method_3_code_3 23 rfl rfl rfl)
theorem d_Re_search_120 : decode prog_11_method_3_code 120 = .ok (.if_icmp .ge 24, 3) := zo_162 (d := 0) (e := 24) (zd_b zq_prog_11_method_3_code_3 24 rfl rfl rfl) (zd_b zq_prog_11_method_3_code_3 25 rfl rfl rfl) (zd_b zq_prog_11_method_3_code_3 26 rfl rfl rfl) (by decide +kernel)
theorem d_Re_search_7 : decode prog_11_method_3_code 7 = .ok (.iload 8, 2) := zo_21 (d := 8) (zd_b zq_prog_11_method_3_code_0 7 rfl rfl rfl) (zd_b zq_prog_11_method_3_code_0 8 rfl rfl rfl)
theorem d_Re_search_9 : decode prog_11_method_3_code 9 = .ok (.ifCond .lt 147, 3) := zo_155 (d := 0) (e := 147) (zd_b zq_prog_11_method_3_code_0 9 rfl rfl rfl) (zd_b zq_prog_11_method_3_code_0 10 rfl rfl rfl) (zd_b zq_prog_11_method_3_code_0 11 rfl rfl rfl) (by decide +kernel)
theorem d_Re_search_156 : decode prog_11_method_3_code 156 = .ok (.iload 7, 2) := zo_21 (d := 7) (zd_b zq_prog_11_method_3_code_4 28 rfl rfl rfl) (zd_b zq_prog_11_method_3_code_4 29 rfl rfl rfl)
theorem d_Re_search_158 : decode prog_11_method_3_code 158 = .ok (.ireturn, 1) := zo_172 (zd_b zq_prog_11_method_3_code_4 30 rfl rfl rfl)
theorem d_Re_search_12 : decode prog_11_method_3_code 12 = .ok (.iconst 0, 1) := zo_3 (zd_b zq_prog_11_method_3_code_0 12 rfl rfl rfl)
theorem d_Re_search_13 : decode prog_11_method_3_code 13 = .ok (.istore 9, 2) := zo_54 (d := 9) (zd_b zq_prog_11_method_3_code_0 13 rfl rfl rfl) (zd_b zq_prog_11_method_3_code_0 14 rfl rfl rfl)
theorem d_Re_search_150 : decode prog_11_method_3_code 150 = .ok (.iinc 8 (-10), 3) := by decide +kernel
theorem d_Re_search_153 : decode prog_11_method_3_code 153 = .ok (.goto (-146), 3) := zo_167 (d := 255) (e := 110) (zd_b zq_prog_11_method_3_code_4 25 rfl rfl rfl) (zd_b zq_prog_11_method_3_code_4 26 rfl rfl rfl) (zd_b zq_prog_11_method_3_code_4 27 rfl rfl rfl) (by decide +kernel)
theorem d_Re_search_0 : decode prog_11_method_3_code 0 = .ok (.iconst (-1), 1) := zo_2 (zd_b zq_prog_11_method_3_code_0 0 rfl rfl rfl)
theorem d_Re_search_1 : decode prog_11_method_3_code 1 = .ok (.istore 7, 2) := zo_54 (d := 7) (zd_b zq_prog_11_method_3_code_0 1 rfl rfl rfl) (zd_b zq_prog_11_method_3_code_0 2 rfl rfl rfl)
theorem d_Re_search_3 : decode prog_11_method_3_code 3 = .ok (.bipush 100, 2) := zo_16 (d := 100) (zd_b zq_prog_11_method_3_code_0 3 rfl rfl rfl) (zd_b zq_prog_11_method_3_code_0 4 rfl rfl rfl) (by decide +kernel)
theorem d_Re_search_5 : decode prog_11_method_3_code 5 = .ok (.istore 8, 2) := zo_54 (d := 8) (zd_b zq_prog_11_method_3_code_0 5 rfl rfl rfl) (zd_b zq_prog_11_method_3_code_0 6 rfl rfl rfl)
set_option maxHeartbeats 4000000 in
set_option maxRecDepth 100000 in
theorem L_Re_search_15 (g : zG) (a : Nat) (p0 a0 f0 : Int32) (le mo si pp ps pa : Int32) (w0 : zW) (n : Nat) (k : Nat) (hk : k < 11) (K : DV g M_Re_search (fun o cs1 => o = .inl (some (.int ((rcO le mo si pp ps pa (-1, p0, a0, f0) 11).1))) ∧ cs1 = [(a, .inr (9, [.int ((rcO le mo si pp ps pa (-1, p0, a0, f0) 11).2.1), .int ((rcO le mo si pp ps pa (-1, p0, a0, f0) 11).2.2.1), .int ((rcO le mo si pp ps pa (-1, p0, a0, f0) 11).2.2.2)]))]) w0 n 150 [(9, .int (nI (nA (100 - 10 * k)))), (7, .int ((rcR le mo si pp ps pa (100 - 10 * k) (rcO le mo si pp ps pa (-1, p0, a0, f0) k) (nA (100 - 10 * k))).1)), (8, .int (nI (100 - 10 * k))), (6, .int pa), (5, .int ps), (4, .int pp), (3, .int si), (2, .int mo), (1, .int le), (0, .ref a)] [] [(a, .inr (9, [.int ((rcR le mo si pp ps pa (100 - 10 * k) (rcO le mo si pp ps pa (-1, p0, a0, f0) k) (nA (100 - 10 * k))).2.1), .int ((rcR le mo si pp ps pa (100 - 10 * k) (rcO le mo si pp ps pa (-1, p0, a0, f0) k) (nA (100 - 10 * k))).2.2.1), .int ((rcR le mo si pp ps pa (100 - 10 * k) (rcO le mo si pp ps pa (-1, p0, a0, f0) k) (nA (100 - 10 * k))).2.2.2)]))] 0 0) : ∀ (d i : Nat), i ≤ nA (100 - 10 * k) → nA (100 - 10 * k) < i + d → DV g M_Re_search (fun o cs1 => o = .inl (some (.int ((rcO le mo si pp ps pa (-1, p0, a0, f0) 11).1))) ∧ cs1 = [(a, .inr (9, [.int ((rcO le mo si pp ps pa (-1, p0, a0, f0) 11).2.1), .int ((rcO le mo si pp ps pa (-1, p0, a0, f0) 11).2.2.1), .int ((rcO le mo si pp ps pa (-1, p0, a0, f0) 11).2.2.2)]))]) w0 n 15 [(9, .int (nI i)), (7, .int ((rcR le mo si pp ps pa (100 - 10 * k) (rcO le mo si pp ps pa (-1, p0, a0, f0) k) i).1)), (8, .int (nI (100 - 10 * k))), (6, .int pa), (5, .int ps), (4, .int pp), (3, .int si), (2, .int mo), (1, .int le), (0, .ref a)] [] [(a, .inr (9, [.int ((rcR le mo si pp ps pa (100 - 10 * k) (rcO le mo si pp ps pa (-1, p0, a0, f0) k) i).2.1), .int ((rcR le mo si pp ps pa (100 - 10 * k) (rcO le mo si pp ps pa (-1, p0, a0, f0) k) i).2.2.1), .int ((rcR le mo si pp ps pa (100 - 10 * k) (rcO le mo si pp ps pa (-1, p0, a0, f0) k) i).2.2.2)]))] 0 0 := by
  intro d
  induction d with
  | zero => intro i h1 h2 ; exact absurd h2 (by omega)
  | succ d ih =>
    intro i h1 h2 
    refine r_iload d_Re_search_15 0 rfl ?_
    refine r_bipush d_Re_search_17 (v := 10) (by decide) ?_
    refine r_icmp_gt (tgt := 150) d_Re_search_19 (by decide) (fun c_19 => ?_) (fun c_19 => ?_)
    · have hn := z_lt (a := 10) (by unfold nA at h1; split at h1 <;> omega) (by decide) c_19
      have hx : i = nA (100 - 10 * k) := by rcases nA_c (100 - 10 * k) with ⟨q1, q2⟩ | ⟨q1, q2⟩ <;> omega
      refine r_lvE (lv2 := [(9, .int (nI (nA (100 - 10 * k)))), (7, .int ((rcR le mo si pp ps pa (100 - 10 * k) (rcO le mo si pp ps pa (-1, p0, a0, f0) k) (nA (100 - 10 * k))).1)), (8, .int (nI (100 - 10 * k))), (6, .int pa), (5, .int ps), (4, .int pp), (3, .int si), (2, .int mo), (1, .int le), (0, .ref a)]) (by rw [hx]) ?_
      refine r_cs (cs2 := [(a, .inr (9, [.int ((rcR le mo si pp ps pa (100 - 10 * k) (rcO le mo si pp ps pa (-1, p0, a0, f0) k) (nA (100 - 10 * k))).2.1), .int ((rcR le mo si pp ps pa (100 - 10 * k) (rcO le mo si pp ps pa (-1, p0, a0, f0) k) (nA (100 - 10 * k))).2.2.1), .int ((rcR le mo si pp ps pa (100 - 10 * k) (rcO le mo si pp ps pa (-1, p0, a0, f0) k) (nA (100 - 10 * k))).2.2.2)]))]) (by rw [hx]) ?_
      exact K
    · have hn := z_nlt (a := 10) (by unfold nA at h1; split at h1 <;> omega) (by decide) c_19
      refine r_iload d_Re_search_22 2 rfl ?_
      refine r_iload d_Re_search_24 0 rfl ?_
      refine r_iadd d_Re_search_26 (v := nI ((100 - 10 * k) + i)) (nI_add _ _) ?_
      refine r_bipush d_Re_search_27 (v := 100) (by decide) ?_
      refine r_icmp_gt (tgt := 150) d_Re_search_29 (by decide) (fun c_29 => ?_) (fun c_29 => ?_)
      · have hm := z_lt (a := 100) (by omega) (by decide) c_29
        have hx : i = nA (100 - 10 * k) := by rcases nA_c (100 - 10 * k) with ⟨q1, q2⟩ | ⟨q1, q2⟩ <;> omega
        refine r_lvE (lv2 := [(9, .int (nI (nA (100 - 10 * k)))), (7, .int ((rcR le mo si pp ps pa (100 - 10 * k) (rcO le mo si pp ps pa (-1, p0, a0, f0) k) (nA (100 - 10 * k))).1)), (8, .int (nI (100 - 10 * k))), (6, .int pa), (5, .int ps), (4, .int pp), (3, .int si), (2, .int mo), (1, .int le), (0, .ref a)]) (by rw [hx]) ?_
        refine r_cs (cs2 := [(a, .inr (9, [.int ((rcR le mo si pp ps pa (100 - 10 * k) (rcO le mo si pp ps pa (-1, p0, a0, f0) k) (nA (100 - 10 * k))).2.1), .int ((rcR le mo si pp ps pa (100 - 10 * k) (rcO le mo si pp ps pa (-1, p0, a0, f0) k) (nA (100 - 10 * k))).2.2.1), .int ((rcR le mo si pp ps pa (100 - 10 * k) (rcO le mo si pp ps pa (-1, p0, a0, f0) k) (nA (100 - 10 * k))).2.2.2)]))]) (by rw [hx]) ?_
        exact K
      · have hm := z_nlt (a := 100) (by omega) (by decide) c_29
        have hlt : i < nA (100 - 10 * k) := by unfold nA; split <;> omega
        refine r_bipush d_Re_search_32 (v := 100) (by decide) ?_
        refine r_iload d_Re_search_34 2 rfl ?_
        refine r_isub d_Re_search_36 (v := nI (100 - (100 - 10 * k))) (pk_sub (a := 100) (by omega)) ?_
        refine r_iload d_Re_search_37 0 rfl ?_
        refine r_isub d_Re_search_39 (v := nI (100 - (100 - 10 * k) - i)) (pk_sub (by omega)) ?_
        refine r_istore (lv' := [(10, .int (nI (100 - (100 - 10 * k) - i))), (9, .int (nI i)), (7, .int ((rcR le mo si pp ps pa (100 - 10 * k) (rcO le mo si pp ps pa (-1, p0, a0, f0) k) i).1)), (8, .int (nI (100 - 10 * k))), (6, .int pa), (5, .int ps), (4, .int pp), (3, .int si), (2, .int mo), (1, .int le), (0, .ref a)]) d_Re_search_40 (by decide) rfl ?_
        refine r_iload d_Re_search_42 3 rfl ?_
        refine r_iload d_Re_search_44 6 rfl ?_
        refine r_imul d_Re_search_46 (v := (nI (100 - 10 * k)) * pp) rfl ?_
        refine r_iload d_Re_search_47 0 rfl ?_
        refine r_iload d_Re_search_49 5 rfl ?_
        refine r_imul d_Re_search_51 (v := (nI (100 - (100 - 10 * k) - i)) * ps) rfl ?_
        refine r_iadd d_Re_search_52 (v := ((nI (100 - 10 * k)) * pp) + ((nI (100 - (100 - 10 * k) - i)) * ps)) rfl ?_
        refine r_iload d_Re_search_53 1 rfl ?_
        refine r_iload d_Re_search_55 4 rfl ?_
        refine r_imul d_Re_search_57 (v := (nI i) * pa) rfl ?_
        refine r_iadd d_Re_search_58 (v := prS pp ps pa (100 - 10 * k) i) rfl ?_
        refine r_istore (lv' := [(11, .int (prS pp ps pa (100 - 10 * k) i)), (10, .int (nI (100 - (100 - 10 * k) - i))), (9, .int (nI i)), (7, .int ((rcR le mo si pp ps pa (100 - 10 * k) (rcO le mo si pp ps pa (-1, p0, a0, f0) k) i).1)), (8, .int (nI (100 - 10 * k))), (6, .int pa), (5, .int ps), (4, .int pp), (3, .int si), (2, .int mo), (1, .int le), (0, .ref a)]) d_Re_search_59 (by decide) rfl ?_
        refine r_iconst d_Re_search_61 (v := 0) (by decide) ?_
        refine r_iload d_Re_search_62 4 rfl ?_
        refine r_iload d_Re_search_64 1 rfl ?_
        refine r_iload d_Re_search_66 2 rfl ?_
        refine r_callS (As := [.int 0, .int (nI (100 - 10 * k)), .int (nI (100 - (100 - 10 * k) - i)), .int (nI i)]) (rest := []) (csC := []) (is := []) ln_Re_18 w_st_Re_contentOf ok_Re_search_Re_contentOf d_Re_search_68 (C_Re_contentOf g 0 (by decide) (nI (100 - 10 * k)) (nI (100 - (100 - 10 * k) - i)) (nI i)) rfl rfl (Nat.le_of_ble_eq_true rfl) rfl (by decide) (by omega) (by omega) (fun E cs1 hx => ?_) (fun v cs1 hx => ?_)
        · exact absurd hx.1 (by simp)
        · obtain ⟨e1, rfl⟩ := hx
          cases e1
          refine ⟨rfl, ?_⟩
          refine r_st (st2 := [.int (ctS 0 (nI (100 - 10 * k)) (nI (100 - (100 - 10 * k) - i)) (nI i))]) rfl ?_
          refine r_cs (cs2 := [(a, .inr (9, [.int ((rcR le mo si pp ps pa (100 - 10 * k) (rcO le mo si pp ps pa (-1, p0, a0, f0) k) i).2.1), .int ((rcR le mo si pp ps pa (100 - 10 * k) (rcO le mo si pp ps pa (-1, p0, a0, f0) k) i).2.2.1), .int ((rcR le mo si pp ps pa (100 - 10 * k) (rcO le mo si pp ps pa (-1, p0, a0, f0) k) i).2.2.2)]))]) rfl ?_
          refine r_istore (lv' := [(12, .int (ctS 0 (nI (100 - 10 * k)) (nI (100 - (100 - 10 * k) - i)) (nI i))), (11, .int (prS pp ps pa (100 - 10 * k) i)), (10, .int (nI (100 - (100 - 10 * k) - i))), (9, .int (nI i)), (7, .int ((rcR le mo si pp ps pa (100 - 10 * k) (rcO le mo si pp ps pa (-1, p0, a0, f0) k) i).1)), (8, .int (nI (100 - 10 * k))), (6, .int pa), (5, .int ps), (4, .int pp), (3, .int si), (2, .int mo), (1, .int le), (0, .ref a)]) d_Re_search_71 (by decide) rfl ?_
          refine r_iload d_Re_search_73 0 rfl ?_
          refine r_iload_n d_Re_search_75 rfl 11 rfl ?_
          refine r_icmp_lt (tgt := 103) d_Re_search_76 (by decide) (fun c_76 => ?_) (fun c_76 => ?_)
          · refine r_iconst d_Re_search_103 (v := 0) (by decide) ?_
            refine r_istore (lv' := [(13, .int 0), (12, .int (ctS 0 (nI (100 - 10 * k)) (nI (100 - (100 - 10 * k) - i)) (nI i))), (11, .int (prS pp ps pa (100 - 10 * k) i)), (10, .int (nI (100 - (100 - 10 * k) - i))), (9, .int (nI i)), (7, .int ((rcR le mo si pp ps pa (100 - 10 * k) (rcO le mo si pp ps pa (-1, p0, a0, f0) k) i).1)), (8, .int (nI (100 - 10 * k))), (6, .int pa), (5, .int ps), (4, .int pp), (3, .int si), (2, .int mo), (1, .int le), (0, .ref a)]) d_Re_search_104 (by decide) rfl ?_
            refine r_iload d_Re_search_106 0 rfl ?_
            refine r_if_eq (tgt := 144) d_Re_search_108 (by decide) (fun c_108 => ?_) (fun c_108 => ?_)
            · refine r_iinc (lv' := [(9, .int (nI (i + 1))), (13, .int 0), (12, .int (ctS 0 (nI (100 - 10 * k)) (nI (100 - (100 - 10 * k) - i)) (nI i))), (11, .int (prS pp ps pa (100 - 10 * k) i)), (10, .int (nI (100 - (100 - 10 * k) - i))), (7, .int ((rcR le mo si pp ps pa (100 - 10 * k) (rcO le mo si pp ps pa (-1, p0, a0, f0) k) i).1)), (8, .int (nI (100 - 10 * k))), (6, .int pa), (5, .int ps), (4, .int pp), (3, .int si), (2, .int mo), (1, .int le), (0, .ref a)]) (v := nI (i + 1)) d_Re_search_144 (j := 4) rfl (nI_add _ _) (by decide) rfl ?_
              refine r_goto (tgt := 15) d_Re_search_147 (by decide) ?_
              refine r_lv (lv' := [(9, .int (nI (i + 1))), (7, .int ((rcR le mo si pp ps pa (100 - 10 * k) (rcO le mo si pp ps pa (-1, p0, a0, f0) k) i).1)), (8, .int (nI (100 - 10 * k))), (6, .int pa), (5, .int ps), (4, .int pp), (3, .int si), (2, .int mo), (1, .int le), (0, .ref a)]) [0, 5, 6, 7, 8, 9, 10, 11, 12, 13] rfl ?_
              refine r_lvE (lv2 := [(9, .int (nI (i + 1))), (7, .int ((rcR le mo si pp ps pa (100 - 10 * k) (rcO le mo si pp ps pa (-1, p0, a0, f0) k) (i + 1)).1)), (8, .int (nI (100 - 10 * k))), (6, .int pa), (5, .int ps), (4, .int pp), (3, .int si), (2, .int mo), (1, .int le), (0, .ref a)]) (by first | (rw [rcR, rcI_t ⟨⟨c_76, c_82, c_96⟩, Or.inl c_113⟩] <;> rfl) | (rw [rcR, rcI_t ⟨⟨c_76, c_82, c_96⟩, Or.inr c_120⟩] <;> rfl) | (rw [rcR, rcI_f (fun h => h.1.1 c_76)] <;> rfl) | (rw [rcR, rcI_f (fun h => h.1.2.1 c_82)] <;> rfl) | (rw [rcR, rcI_f (fun h => h.1.2.2 c_96)] <;> rfl) | (rw [rcR, rcI_f (fun h => h.2.elim c_113 (fun q => q c_120))] <;> rfl)) ?_
              refine r_cs (cs2 := [(a, .inr (9, [.int ((rcR le mo si pp ps pa (100 - 10 * k) (rcO le mo si pp ps pa (-1, p0, a0, f0) k) (i + 1)).2.1), .int ((rcR le mo si pp ps pa (100 - 10 * k) (rcO le mo si pp ps pa (-1, p0, a0, f0) k) (i + 1)).2.2.1), .int ((rcR le mo si pp ps pa (100 - 10 * k) (rcO le mo si pp ps pa (-1, p0, a0, f0) k) (i + 1)).2.2.2)]))]) (by first | (rw [rcR, rcI_t ⟨⟨c_76, c_82, c_96⟩, Or.inl c_113⟩] <;> rfl) | (rw [rcR, rcI_t ⟨⟨c_76, c_82, c_96⟩, Or.inr c_120⟩] <;> rfl) | (rw [rcR, rcI_f (fun h => h.1.1 c_76)] <;> rfl) | (rw [rcR, rcI_f (fun h => h.1.2.1 c_82)] <;> rfl) | (rw [rcR, rcI_f (fun h => h.1.2.2 c_96)] <;> rfl) | (rw [rcR, rcI_f (fun h => h.2.elim c_113 (fun q => q c_120))] <;> rfl)) ?_
              exact ih (i + 1) (by omega) (by omega)
            · exact absurd c_108 (by decide)
          · refine r_iload d_Re_search_79 0 rfl ?_
            refine r_iload_n d_Re_search_81 rfl 10 rfl ?_
            refine r_icmp_gt (tgt := 103) d_Re_search_82 (by decide) (fun c_82 => ?_) (fun c_82 => ?_)
            · refine r_iconst d_Re_search_103 (v := 0) (by decide) ?_
              refine r_istore (lv' := [(13, .int 0), (12, .int (ctS 0 (nI (100 - 10 * k)) (nI (100 - (100 - 10 * k) - i)) (nI i))), (11, .int (prS pp ps pa (100 - 10 * k) i)), (10, .int (nI (100 - (100 - 10 * k) - i))), (9, .int (nI i)), (7, .int ((rcR le mo si pp ps pa (100 - 10 * k) (rcO le mo si pp ps pa (-1, p0, a0, f0) k) i).1)), (8, .int (nI (100 - 10 * k))), (6, .int pa), (5, .int ps), (4, .int pp), (3, .int si), (2, .int mo), (1, .int le), (0, .ref a)]) d_Re_search_104 (by decide) rfl ?_
              refine r_iload d_Re_search_106 0 rfl ?_
              refine r_if_eq (tgt := 144) d_Re_search_108 (by decide) (fun c_108 => ?_) (fun c_108 => ?_)
              · refine r_iinc (lv' := [(9, .int (nI (i + 1))), (13, .int 0), (12, .int (ctS 0 (nI (100 - 10 * k)) (nI (100 - (100 - 10 * k) - i)) (nI i))), (11, .int (prS pp ps pa (100 - 10 * k) i)), (10, .int (nI (100 - (100 - 10 * k) - i))), (7, .int ((rcR le mo si pp ps pa (100 - 10 * k) (rcO le mo si pp ps pa (-1, p0, a0, f0) k) i).1)), (8, .int (nI (100 - 10 * k))), (6, .int pa), (5, .int ps), (4, .int pp), (3, .int si), (2, .int mo), (1, .int le), (0, .ref a)]) (v := nI (i + 1)) d_Re_search_144 (j := 4) rfl (nI_add _ _) (by decide) rfl ?_
                refine r_goto (tgt := 15) d_Re_search_147 (by decide) ?_
                refine r_lv (lv' := [(9, .int (nI (i + 1))), (7, .int ((rcR le mo si pp ps pa (100 - 10 * k) (rcO le mo si pp ps pa (-1, p0, a0, f0) k) i).1)), (8, .int (nI (100 - 10 * k))), (6, .int pa), (5, .int ps), (4, .int pp), (3, .int si), (2, .int mo), (1, .int le), (0, .ref a)]) [0, 5, 6, 7, 8, 9, 10, 11, 12, 13] rfl ?_
                refine r_lvE (lv2 := [(9, .int (nI (i + 1))), (7, .int ((rcR le mo si pp ps pa (100 - 10 * k) (rcO le mo si pp ps pa (-1, p0, a0, f0) k) (i + 1)).1)), (8, .int (nI (100 - 10 * k))), (6, .int pa), (5, .int ps), (4, .int pp), (3, .int si), (2, .int mo), (1, .int le), (0, .ref a)]) (by first | (rw [rcR, rcI_t ⟨⟨c_76, c_82, c_96⟩, Or.inl c_113⟩] <;> rfl) | (rw [rcR, rcI_t ⟨⟨c_76, c_82, c_96⟩, Or.inr c_120⟩] <;> rfl) | (rw [rcR, rcI_f (fun h => h.1.1 c_76)] <;> rfl) | (rw [rcR, rcI_f (fun h => h.1.2.1 c_82)] <;> rfl) | (rw [rcR, rcI_f (fun h => h.1.2.2 c_96)] <;> rfl) | (rw [rcR, rcI_f (fun h => h.2.elim c_113 (fun q => q c_120))] <;> rfl)) ?_
                refine r_cs (cs2 := [(a, .inr (9, [.int ((rcR le mo si pp ps pa (100 - 10 * k) (rcO le mo si pp ps pa (-1, p0, a0, f0) k) (i + 1)).2.1), .int ((rcR le mo si pp ps pa (100 - 10 * k) (rcO le mo si pp ps pa (-1, p0, a0, f0) k) (i + 1)).2.2.1), .int ((rcR le mo si pp ps pa (100 - 10 * k) (rcO le mo si pp ps pa (-1, p0, a0, f0) k) (i + 1)).2.2.2)]))]) (by first | (rw [rcR, rcI_t ⟨⟨c_76, c_82, c_96⟩, Or.inl c_113⟩] <;> rfl) | (rw [rcR, rcI_t ⟨⟨c_76, c_82, c_96⟩, Or.inr c_120⟩] <;> rfl) | (rw [rcR, rcI_f (fun h => h.1.1 c_76)] <;> rfl) | (rw [rcR, rcI_f (fun h => h.1.2.1 c_82)] <;> rfl) | (rw [rcR, rcI_f (fun h => h.1.2.2 c_96)] <;> rfl) | (rw [rcR, rcI_f (fun h => h.2.elim c_113 (fun q => q c_120))] <;> rfl)) ?_
                exact ih (i + 1) (by omega) (by omega)
              · exact absurd c_108 (by decide)
            · refine r_iconst d_Re_search_85 (v := 1) (by decide) ?_
              refine r_iload d_Re_search_86 5 rfl ?_
              refine r_iload d_Re_search_88 2 rfl ?_
              refine r_iload d_Re_search_90 3 rfl ?_
              refine r_callS (As := [.int 1, .int (nI (100 - 10 * k)), .int (nI (100 - (100 - 10 * k) - i)), .int (nI i)]) (rest := []) (csC := []) (is := []) ln_Re_18 w_st_Re_contentOf ok_Re_search_Re_contentOf d_Re_search_92 (C_Re_contentOf g 1 (by decide) (nI (100 - 10 * k)) (nI (100 - (100 - 10 * k) - i)) (nI i)) rfl rfl (Nat.le_of_ble_eq_true rfl) rfl (by decide) (by omega) (by omega) (fun E cs1 hx => ?_) (fun v cs1 hx => ?_)
              · exact absurd hx.1 (by simp)
              · obtain ⟨e1, rfl⟩ := hx
                cases e1
                refine ⟨rfl, ?_⟩
                refine r_st (st2 := [.int (ctS 1 (nI (100 - 10 * k)) (nI (100 - (100 - 10 * k) - i)) (nI i))]) rfl ?_
                refine r_cs (cs2 := [(a, .inr (9, [.int ((rcR le mo si pp ps pa (100 - 10 * k) (rcO le mo si pp ps pa (-1, p0, a0, f0) k) i).2.1), .int ((rcR le mo si pp ps pa (100 - 10 * k) (rcO le mo si pp ps pa (-1, p0, a0, f0) k) i).2.2.1), .int ((rcR le mo si pp ps pa (100 - 10 * k) (rcO le mo si pp ps pa (-1, p0, a0, f0) k) i).2.2.2)]))]) rfl ?_
                refine r_iload_n d_Re_search_95 rfl 9 rfl ?_
                refine r_icmp_lt (tgt := 103) d_Re_search_96 (by decide) (fun c_96 => ?_) (fun c_96 => ?_)
                · refine r_iconst d_Re_search_103 (v := 0) (by decide) ?_
                  refine r_istore (lv' := [(13, .int 0), (12, .int (ctS 0 (nI (100 - 10 * k)) (nI (100 - (100 - 10 * k) - i)) (nI i))), (11, .int (prS pp ps pa (100 - 10 * k) i)), (10, .int (nI (100 - (100 - 10 * k) - i))), (9, .int (nI i)), (7, .int ((rcR le mo si pp ps pa (100 - 10 * k) (rcO le mo si pp ps pa (-1, p0, a0, f0) k) i).1)), (8, .int (nI (100 - 10 * k))), (6, .int pa), (5, .int ps), (4, .int pp), (3, .int si), (2, .int mo), (1, .int le), (0, .ref a)]) d_Re_search_104 (by decide) rfl ?_
                  refine r_iload d_Re_search_106 0 rfl ?_
                  refine r_if_eq (tgt := 144) d_Re_search_108 (by decide) (fun c_108 => ?_) (fun c_108 => ?_)
                  · refine r_iinc (lv' := [(9, .int (nI (i + 1))), (13, .int 0), (12, .int (ctS 0 (nI (100 - 10 * k)) (nI (100 - (100 - 10 * k) - i)) (nI i))), (11, .int (prS pp ps pa (100 - 10 * k) i)), (10, .int (nI (100 - (100 - 10 * k) - i))), (7, .int ((rcR le mo si pp ps pa (100 - 10 * k) (rcO le mo si pp ps pa (-1, p0, a0, f0) k) i).1)), (8, .int (nI (100 - 10 * k))), (6, .int pa), (5, .int ps), (4, .int pp), (3, .int si), (2, .int mo), (1, .int le), (0, .ref a)]) (v := nI (i + 1)) d_Re_search_144 (j := 4) rfl (nI_add _ _) (by decide) rfl ?_
                    refine r_goto (tgt := 15) d_Re_search_147 (by decide) ?_
                    refine r_lv (lv' := [(9, .int (nI (i + 1))), (7, .int ((rcR le mo si pp ps pa (100 - 10 * k) (rcO le mo si pp ps pa (-1, p0, a0, f0) k) i).1)), (8, .int (nI (100 - 10 * k))), (6, .int pa), (5, .int ps), (4, .int pp), (3, .int si), (2, .int mo), (1, .int le), (0, .ref a)]) [0, 5, 6, 7, 8, 9, 10, 11, 12, 13] rfl ?_
                    refine r_lvE (lv2 := [(9, .int (nI (i + 1))), (7, .int ((rcR le mo si pp ps pa (100 - 10 * k) (rcO le mo si pp ps pa (-1, p0, a0, f0) k) (i + 1)).1)), (8, .int (nI (100 - 10 * k))), (6, .int pa), (5, .int ps), (4, .int pp), (3, .int si), (2, .int mo), (1, .int le), (0, .ref a)]) (by first | (rw [rcR, rcI_t ⟨⟨c_76, c_82, c_96⟩, Or.inl c_113⟩] <;> rfl) | (rw [rcR, rcI_t ⟨⟨c_76, c_82, c_96⟩, Or.inr c_120⟩] <;> rfl) | (rw [rcR, rcI_f (fun h => h.1.1 c_76)] <;> rfl) | (rw [rcR, rcI_f (fun h => h.1.2.1 c_82)] <;> rfl) | (rw [rcR, rcI_f (fun h => h.1.2.2 c_96)] <;> rfl) | (rw [rcR, rcI_f (fun h => h.2.elim c_113 (fun q => q c_120))] <;> rfl)) ?_
                    refine r_cs (cs2 := [(a, .inr (9, [.int ((rcR le mo si pp ps pa (100 - 10 * k) (rcO le mo si pp ps pa (-1, p0, a0, f0) k) (i + 1)).2.1), .int ((rcR le mo si pp ps pa (100 - 10 * k) (rcO le mo si pp ps pa (-1, p0, a0, f0) k) (i + 1)).2.2.1), .int ((rcR le mo si pp ps pa (100 - 10 * k) (rcO le mo si pp ps pa (-1, p0, a0, f0) k) (i + 1)).2.2.2)]))]) (by first | (rw [rcR, rcI_t ⟨⟨c_76, c_82, c_96⟩, Or.inl c_113⟩] <;> rfl) | (rw [rcR, rcI_t ⟨⟨c_76, c_82, c_96⟩, Or.inr c_120⟩] <;> rfl) | (rw [rcR, rcI_f (fun h => h.1.1 c_76)] <;> rfl) | (rw [rcR, rcI_f (fun h => h.1.2.1 c_82)] <;> rfl) | (rw [rcR, rcI_f (fun h => h.1.2.2 c_96)] <;> rfl) | (rw [rcR, rcI_f (fun h => h.2.elim c_113 (fun q => q c_120))] <;> rfl)) ?_
                    exact ih (i + 1) (by omega) (by omega)
                  · exact absurd c_108 (by decide)
                · refine r_iconst d_Re_search_99 (v := 1) (by decide) ?_
                  refine r_goto (tgt := 104) d_Re_search_100 (by decide) ?_
                  refine r_istore (lv' := [(13, .int 1), (12, .int (ctS 0 (nI (100 - 10 * k)) (nI (100 - (100 - 10 * k) - i)) (nI i))), (11, .int (prS pp ps pa (100 - 10 * k) i)), (10, .int (nI (100 - (100 - 10 * k) - i))), (9, .int (nI i)), (7, .int ((rcR le mo si pp ps pa (100 - 10 * k) (rcO le mo si pp ps pa (-1, p0, a0, f0) k) i).1)), (8, .int (nI (100 - 10 * k))), (6, .int pa), (5, .int ps), (4, .int pp), (3, .int si), (2, .int mo), (1, .int le), (0, .ref a)]) d_Re_search_104 (by decide) rfl ?_
                  refine r_iload d_Re_search_106 0 rfl ?_
                  refine r_if_eq (tgt := 144) d_Re_search_108 (by decide) (fun c_108 => ?_) (fun c_108 => ?_)
                  · exact absurd c_108 (by decide)
                  · refine r_iload d_Re_search_111 5 rfl ?_
                    refine r_if_lt (tgt := 123) d_Re_search_113 (by decide) (fun c_113 => ?_) (fun c_113 => ?_)
                    · refine r_iload d_Re_search_123 2 rfl ?_
                      refine r_istore (lv' := [(7, .int (prS pp ps pa (100 - 10 * k) i)), (13, .int 1), (12, .int (ctS 0 (nI (100 - 10 * k)) (nI (100 - (100 - 10 * k) - i)) (nI i))), (11, .int (prS pp ps pa (100 - 10 * k) i)), (10, .int (nI (100 - (100 - 10 * k) - i))), (9, .int (nI i)), (8, .int (nI (100 - 10 * k))), (6, .int pa), (5, .int ps), (4, .int pp), (3, .int si), (2, .int mo), (1, .int le), (0, .ref a)]) d_Re_search_125 (by decide) rfl ?_
                      refine r_aload_n d_Re_search_127 rfl 13 rfl ?_
                      refine r_iload d_Re_search_128 6 rfl ?_
                      refine r_put fp_Re_11 d_Re_search_130 (fun h => nomatch h) rfl rfl (q0 := 0) rfl (Nat.le_of_ble_eq_true rfl) (cs' := [(a, .inr (9, [.int (nI (100 - 10 * k)), .int ((rcR le mo si pp ps pa (100 - 10 * k) (rcO le mo si pp ps pa (-1, p0, a0, f0) k) i).2.2.1), .int ((rcR le mo si pp ps pa (100 - 10 * k) (rcO le mo si pp ps pa (-1, p0, a0, f0) k) i).2.2.2)]))]) rfl ?_
                      refine r_aload_n d_Re_search_133 rfl 13 rfl ?_
                      refine r_iload d_Re_search_134 5 rfl ?_
                      refine r_put fp_Re_15 d_Re_search_136 (fun h => nomatch h) rfl rfl (q0 := 0) rfl (Nat.le_of_ble_eq_true rfl) (cs' := [(a, .inr (9, [.int (nI (100 - 10 * k)), .int (nI i), .int ((rcR le mo si pp ps pa (100 - 10 * k) (rcO le mo si pp ps pa (-1, p0, a0, f0) k) i).2.2.2)]))]) rfl ?_
                      refine r_aload_n d_Re_search_139 rfl 13 rfl ?_
                      refine r_iconst d_Re_search_140 (v := 1) (by decide) ?_
                      refine r_put fp_Re_22 d_Re_search_141 (fun h => nomatch h) (by decide) (by decide) (q0 := 0) rfl (Nat.le_of_ble_eq_true rfl) (cs' := [(a, .inr (9, [.int (nI (100 - 10 * k)), .int (nI i), .int 1]))]) rfl ?_
                      refine r_iinc (lv' := [(9, .int (nI (i + 1))), (7, .int (prS pp ps pa (100 - 10 * k) i)), (13, .int 1), (12, .int (ctS 0 (nI (100 - 10 * k)) (nI (100 - (100 - 10 * k) - i)) (nI i))), (11, .int (prS pp ps pa (100 - 10 * k) i)), (10, .int (nI (100 - (100 - 10 * k) - i))), (8, .int (nI (100 - 10 * k))), (6, .int pa), (5, .int ps), (4, .int pp), (3, .int si), (2, .int mo), (1, .int le), (0, .ref a)]) (v := nI (i + 1)) d_Re_search_144 (j := 5) rfl (nI_add _ _) (by decide) rfl ?_
                      refine r_goto (tgt := 15) d_Re_search_147 (by decide) ?_
                      refine r_lv (lv' := [(9, .int (nI (i + 1))), (7, .int (prS pp ps pa (100 - 10 * k) i)), (8, .int (nI (100 - 10 * k))), (6, .int pa), (5, .int ps), (4, .int pp), (3, .int si), (2, .int mo), (1, .int le), (0, .ref a)]) [0, 1, 6, 7, 8, 9, 10, 11, 12, 13] rfl ?_
                      refine r_lvE (lv2 := [(9, .int (nI (i + 1))), (7, .int ((rcR le mo si pp ps pa (100 - 10 * k) (rcO le mo si pp ps pa (-1, p0, a0, f0) k) (i + 1)).1)), (8, .int (nI (100 - 10 * k))), (6, .int pa), (5, .int ps), (4, .int pp), (3, .int si), (2, .int mo), (1, .int le), (0, .ref a)]) (by first | (rw [rcR, rcI_t ⟨⟨c_76, c_82, c_96⟩, Or.inl c_113⟩] <;> rfl) | (rw [rcR, rcI_t ⟨⟨c_76, c_82, c_96⟩, Or.inr c_120⟩] <;> rfl) | (rw [rcR, rcI_f (fun h => h.1.1 c_76)] <;> rfl) | (rw [rcR, rcI_f (fun h => h.1.2.1 c_82)] <;> rfl) | (rw [rcR, rcI_f (fun h => h.1.2.2 c_96)] <;> rfl) | (rw [rcR, rcI_f (fun h => h.2.elim c_113 (fun q => q c_120))] <;> rfl)) ?_
                      refine r_cs (cs2 := [(a, .inr (9, [.int ((rcR le mo si pp ps pa (100 - 10 * k) (rcO le mo si pp ps pa (-1, p0, a0, f0) k) (i + 1)).2.1), .int ((rcR le mo si pp ps pa (100 - 10 * k) (rcO le mo si pp ps pa (-1, p0, a0, f0) k) (i + 1)).2.2.1), .int ((rcR le mo si pp ps pa (100 - 10 * k) (rcO le mo si pp ps pa (-1, p0, a0, f0) k) (i + 1)).2.2.2)]))]) (by first | (rw [rcR, rcI_t ⟨⟨c_76, c_82, c_96⟩, Or.inl c_113⟩] <;> rfl) | (rw [rcR, rcI_t ⟨⟨c_76, c_82, c_96⟩, Or.inr c_120⟩] <;> rfl) | (rw [rcR, rcI_f (fun h => h.1.1 c_76)] <;> rfl) | (rw [rcR, rcI_f (fun h => h.1.2.1 c_82)] <;> rfl) | (rw [rcR, rcI_f (fun h => h.1.2.2 c_96)] <;> rfl) | (rw [rcR, rcI_f (fun h => h.2.elim c_113 (fun q => q c_120))] <;> rfl)) ?_
                      exact ih (i + 1) (by omega) (by omega)
                    · refine r_iload d_Re_search_116 2 rfl ?_
                      refine r_iload d_Re_search_118 5 rfl ?_
                      refine r_icmp_ge (tgt := 144) d_Re_search_120 (by decide) (fun c_120 => ?_) (fun c_120 => ?_)
                      · refine r_iinc (lv' := [(9, .int (nI (i + 1))), (13, .int 1), (12, .int (ctS 0 (nI (100 - 10 * k)) (nI (100 - (100 - 10 * k) - i)) (nI i))), (11, .int (prS pp ps pa (100 - 10 * k) i)), (10, .int (nI (100 - (100 - 10 * k) - i))), (7, .int ((rcR le mo si pp ps pa (100 - 10 * k) (rcO le mo si pp ps pa (-1, p0, a0, f0) k) i).1)), (8, .int (nI (100 - 10 * k))), (6, .int pa), (5, .int ps), (4, .int pp), (3, .int si), (2, .int mo), (1, .int le), (0, .ref a)]) (v := nI (i + 1)) d_Re_search_144 (j := 4) rfl (nI_add _ _) (by decide) rfl ?_
                        refine r_goto (tgt := 15) d_Re_search_147 (by decide) ?_
                        refine r_lv (lv' := [(9, .int (nI (i + 1))), (7, .int ((rcR le mo si pp ps pa (100 - 10 * k) (rcO le mo si pp ps pa (-1, p0, a0, f0) k) i).1)), (8, .int (nI (100 - 10 * k))), (6, .int pa), (5, .int ps), (4, .int pp), (3, .int si), (2, .int mo), (1, .int le), (0, .ref a)]) [0, 5, 6, 7, 8, 9, 10, 11, 12, 13] rfl ?_
                        refine r_lvE (lv2 := [(9, .int (nI (i + 1))), (7, .int ((rcR le mo si pp ps pa (100 - 10 * k) (rcO le mo si pp ps pa (-1, p0, a0, f0) k) (i + 1)).1)), (8, .int (nI (100 - 10 * k))), (6, .int pa), (5, .int ps), (4, .int pp), (3, .int si), (2, .int mo), (1, .int le), (0, .ref a)]) (by first | (rw [rcR, rcI_t ⟨⟨c_76, c_82, c_96⟩, Or.inl c_113⟩] <;> rfl) | (rw [rcR, rcI_t ⟨⟨c_76, c_82, c_96⟩, Or.inr c_120⟩] <;> rfl) | (rw [rcR, rcI_f (fun h => h.1.1 c_76)] <;> rfl) | (rw [rcR, rcI_f (fun h => h.1.2.1 c_82)] <;> rfl) | (rw [rcR, rcI_f (fun h => h.1.2.2 c_96)] <;> rfl) | (rw [rcR, rcI_f (fun h => h.2.elim c_113 (fun q => q c_120))] <;> rfl)) ?_
                        refine r_cs (cs2 := [(a, .inr (9, [.int ((rcR le mo si pp ps pa (100 - 10 * k) (rcO le mo si pp ps pa (-1, p0, a0, f0) k) (i + 1)).2.1), .int ((rcR le mo si pp ps pa (100 - 10 * k) (rcO le mo si pp ps pa (-1, p0, a0, f0) k) (i + 1)).2.2.1), .int ((rcR le mo si pp ps pa (100 - 10 * k) (rcO le mo si pp ps pa (-1, p0, a0, f0) k) (i + 1)).2.2.2)]))]) (by first | (rw [rcR, rcI_t ⟨⟨c_76, c_82, c_96⟩, Or.inl c_113⟩] <;> rfl) | (rw [rcR, rcI_t ⟨⟨c_76, c_82, c_96⟩, Or.inr c_120⟩] <;> rfl) | (rw [rcR, rcI_f (fun h => h.1.1 c_76)] <;> rfl) | (rw [rcR, rcI_f (fun h => h.1.2.1 c_82)] <;> rfl) | (rw [rcR, rcI_f (fun h => h.1.2.2 c_96)] <;> rfl) | (rw [rcR, rcI_f (fun h => h.2.elim c_113 (fun q => q c_120))] <;> rfl)) ?_
                        exact ih (i + 1) (by omega) (by omega)
                      · refine r_iload d_Re_search_123 2 rfl ?_
                        refine r_istore (lv' := [(7, .int (prS pp ps pa (100 - 10 * k) i)), (13, .int 1), (12, .int (ctS 0 (nI (100 - 10 * k)) (nI (100 - (100 - 10 * k) - i)) (nI i))), (11, .int (prS pp ps pa (100 - 10 * k) i)), (10, .int (nI (100 - (100 - 10 * k) - i))), (9, .int (nI i)), (8, .int (nI (100 - 10 * k))), (6, .int pa), (5, .int ps), (4, .int pp), (3, .int si), (2, .int mo), (1, .int le), (0, .ref a)]) d_Re_search_125 (by decide) rfl ?_
                        refine r_aload_n d_Re_search_127 rfl 13 rfl ?_
                        refine r_iload d_Re_search_128 6 rfl ?_
                        refine r_put fp_Re_11 d_Re_search_130 (fun h => nomatch h) rfl rfl (q0 := 0) rfl (Nat.le_of_ble_eq_true rfl) (cs' := [(a, .inr (9, [.int (nI (100 - 10 * k)), .int ((rcR le mo si pp ps pa (100 - 10 * k) (rcO le mo si pp ps pa (-1, p0, a0, f0) k) i).2.2.1), .int ((rcR le mo si pp ps pa (100 - 10 * k) (rcO le mo si pp ps pa (-1, p0, a0, f0) k) i).2.2.2)]))]) rfl ?_
                        refine r_aload_n d_Re_search_133 rfl 13 rfl ?_
                        refine r_iload d_Re_search_134 5 rfl ?_
                        refine r_put fp_Re_15 d_Re_search_136 (fun h => nomatch h) rfl rfl (q0 := 0) rfl (Nat.le_of_ble_eq_true rfl) (cs' := [(a, .inr (9, [.int (nI (100 - 10 * k)), .int (nI i), .int ((rcR le mo si pp ps pa (100 - 10 * k) (rcO le mo si pp ps pa (-1, p0, a0, f0) k) i).2.2.2)]))]) rfl ?_
                        refine r_aload_n d_Re_search_139 rfl 13 rfl ?_
                        refine r_iconst d_Re_search_140 (v := 1) (by decide) ?_
                        refine r_put fp_Re_22 d_Re_search_141 (fun h => nomatch h) (by decide) (by decide) (q0 := 0) rfl (Nat.le_of_ble_eq_true rfl) (cs' := [(a, .inr (9, [.int (nI (100 - 10 * k)), .int (nI i), .int 1]))]) rfl ?_
                        refine r_iinc (lv' := [(9, .int (nI (i + 1))), (7, .int (prS pp ps pa (100 - 10 * k) i)), (13, .int 1), (12, .int (ctS 0 (nI (100 - 10 * k)) (nI (100 - (100 - 10 * k) - i)) (nI i))), (11, .int (prS pp ps pa (100 - 10 * k) i)), (10, .int (nI (100 - (100 - 10 * k) - i))), (8, .int (nI (100 - 10 * k))), (6, .int pa), (5, .int ps), (4, .int pp), (3, .int si), (2, .int mo), (1, .int le), (0, .ref a)]) (v := nI (i + 1)) d_Re_search_144 (j := 5) rfl (nI_add _ _) (by decide) rfl ?_
                        refine r_goto (tgt := 15) d_Re_search_147 (by decide) ?_
                        refine r_lv (lv' := [(9, .int (nI (i + 1))), (7, .int (prS pp ps pa (100 - 10 * k) i)), (8, .int (nI (100 - 10 * k))), (6, .int pa), (5, .int ps), (4, .int pp), (3, .int si), (2, .int mo), (1, .int le), (0, .ref a)]) [0, 1, 6, 7, 8, 9, 10, 11, 12, 13] rfl ?_
                        refine r_lvE (lv2 := [(9, .int (nI (i + 1))), (7, .int ((rcR le mo si pp ps pa (100 - 10 * k) (rcO le mo si pp ps pa (-1, p0, a0, f0) k) (i + 1)).1)), (8, .int (nI (100 - 10 * k))), (6, .int pa), (5, .int ps), (4, .int pp), (3, .int si), (2, .int mo), (1, .int le), (0, .ref a)]) (by first | (rw [rcR, rcI_t ⟨⟨c_76, c_82, c_96⟩, Or.inl c_113⟩] <;> rfl) | (rw [rcR, rcI_t ⟨⟨c_76, c_82, c_96⟩, Or.inr c_120⟩] <;> rfl) | (rw [rcR, rcI_f (fun h => h.1.1 c_76)] <;> rfl) | (rw [rcR, rcI_f (fun h => h.1.2.1 c_82)] <;> rfl) | (rw [rcR, rcI_f (fun h => h.1.2.2 c_96)] <;> rfl) | (rw [rcR, rcI_f (fun h => h.2.elim c_113 (fun q => q c_120))] <;> rfl)) ?_
                        refine r_cs (cs2 := [(a, .inr (9, [.int ((rcR le mo si pp ps pa (100 - 10 * k) (rcO le mo si pp ps pa (-1, p0, a0, f0) k) (i + 1)).2.1), .int ((rcR le mo si pp ps pa (100 - 10 * k) (rcO le mo si pp ps pa (-1, p0, a0, f0) k) (i + 1)).2.2.1), .int ((rcR le mo si pp ps pa (100 - 10 * k) (rcO le mo si pp ps pa (-1, p0, a0, f0) k) (i + 1)).2.2.2)]))]) (by first | (rw [rcR, rcI_t ⟨⟨c_76, c_82, c_96⟩, Or.inl c_113⟩] <;> rfl) | (rw [rcR, rcI_t ⟨⟨c_76, c_82, c_96⟩, Or.inr c_120⟩] <;> rfl) | (rw [rcR, rcI_f (fun h => h.1.1 c_76)] <;> rfl) | (rw [rcR, rcI_f (fun h => h.1.2.1 c_82)] <;> rfl) | (rw [rcR, rcI_f (fun h => h.1.2.2 c_96)] <;> rfl) | (rw [rcR, rcI_f (fun h => h.2.elim c_113 (fun q => q c_120))] <;> rfl)) ?_
                        exact ih (i + 1) (by omega) (by omega)
set_option maxHeartbeats 4000000 in
set_option maxRecDepth 100000 in
theorem L_Re_search_7 (g : zG) (a : Nat) (p0 a0 f0 : Int32) (le mo si pp ps pa : Int32) (w0 : zW) (n : Nat) : ∀ (d k : Nat), k ≤ 11 → 11 < k + d → DV g M_Re_search (fun o cs1 => o = .inl (some (.int ((rcO le mo si pp ps pa (-1, p0, a0, f0) 11).1))) ∧ cs1 = [(a, .inr (9, [.int ((rcO le mo si pp ps pa (-1, p0, a0, f0) 11).2.1), .int ((rcO le mo si pp ps pa (-1, p0, a0, f0) 11).2.2.1), .int ((rcO le mo si pp ps pa (-1, p0, a0, f0) 11).2.2.2)]))]) w0 n 7 [(7, .int ((rcO le mo si pp ps pa (-1, p0, a0, f0) k).1)), (8, .int (pgI k)), (6, .int pa), (5, .int ps), (4, .int pp), (3, .int si), (2, .int mo), (1, .int le), (0, .ref a)] [] [(a, .inr (9, [.int ((rcO le mo si pp ps pa (-1, p0, a0, f0) k).2.1), .int ((rcO le mo si pp ps pa (-1, p0, a0, f0) k).2.2.1), .int ((rcO le mo si pp ps pa (-1, p0, a0, f0) k).2.2.2)]))] 0 0 := by
  intro d
  induction d with
  | zero => intro k h1 h2 ; exact absurd h2 (by omega)
  | succ d ih =>
    intro k h1 h2 
    refine r_iload d_Re_search_7 1 rfl ?_
    refine r_if_lt (tgt := 156) d_Re_search_9 (by decide) (fun c_9 => ?_) (fun c_9 => ?_)
    · have hk := (pgI_neg k (by omega)).mp c_9
      obtain rfl : k = 11 := hk
      refine r_iload d_Re_search_156 0 rfl ?_
      refine r_iret d_Re_search_158 rfl rfl ?_
      exact ⟨rfl, rfl⟩
    · have hk : k < 11 := by have := mt (pgI_neg k (by omega)).mpr c_9; omega
      rw [pgI_n hk]
      refine r_iconst d_Re_search_12 (v := 0) (by decide) ?_
      refine r_istore (lv' := [(9, .int 0), (7, .int ((rcO le mo si pp ps pa (-1, p0, a0, f0) k).1)), (8, .int (nI (100 - 10 * k))), (6, .int pa), (5, .int ps), (4, .int pp), (3, .int si), (2, .int mo), (1, .int le), (0, .ref a)]) d_Re_search_13 (by decide) rfl ?_
      refine r_lvE (lv2 := [(9, .int (nI 0)), (7, .int ((rcR le mo si pp ps pa (100 - 10 * k) (rcO le mo si pp ps pa (-1, p0, a0, f0) k) 0).1)), (8, .int (nI (100 - 10 * k))), (6, .int pa), (5, .int ps), (4, .int pp), (3, .int si), (2, .int mo), (1, .int le), (0, .ref a)]) (rfl) ?_
      refine r_cs (cs2 := [(a, .inr (9, [.int ((rcR le mo si pp ps pa (100 - 10 * k) (rcO le mo si pp ps pa (-1, p0, a0, f0) k) 0).2.1), .int ((rcR le mo si pp ps pa (100 - 10 * k) (rcO le mo si pp ps pa (-1, p0, a0, f0) k) 0).2.2.1), .int ((rcR le mo si pp ps pa (100 - 10 * k) (rcO le mo si pp ps pa (-1, p0, a0, f0) k) 0).2.2.2)]))]) (rfl) ?_
      refine L_Re_search_15 g a p0 a0 f0 le mo si pp ps pa w0 _ k hk (?_) (nA (100 - 10 * k) + 1) 0 (Nat.zero_le _) (by omega)
      refine r_iinc (lv' := [(8, .int (pgI (k + 1))), (9, .int (nI (nA (100 - 10 * k)))), (7, .int ((rcR le mo si pp ps pa (100 - 10 * k) (rcO le mo si pp ps pa (-1, p0, a0, f0) k) (nA (100 - 10 * k))).1)), (6, .int pa), (5, .int ps), (4, .int pp), (3, .int si), (2, .int mo), (1, .int le), (0, .ref a)]) (v := pgI (k + 1)) d_Re_search_150 (j := 2) rfl (by rw [← pgI_n (by omega)]; exact pgI_s k (by omega)) (by decide) rfl ?_
      refine r_goto (tgt := 7) d_Re_search_153 (by decide) ?_
      refine r_lv (lv' := [(7, .int ((rcR le mo si pp ps pa (100 - 10 * k) (rcO le mo si pp ps pa (-1, p0, a0, f0) k) (nA (100 - 10 * k))).1)), (8, .int (pgI (k + 1))), (6, .int pa), (5, .int ps), (4, .int pp), (3, .int si), (2, .int mo), (1, .int le), (0, .ref a)]) [2, 0, 3, 4, 5, 6, 7, 8, 9] rfl ?_
      refine r_lvE (lv2 := [(7, .int ((rcO le mo si pp ps pa (-1, p0, a0, f0) (k + 1)).1)), (8, .int (pgI (k + 1))), (6, .int pa), (5, .int ps), (4, .int pp), (3, .int si), (2, .int mo), (1, .int le), (0, .ref a)]) (rfl) ?_
      refine r_cs (cs2 := [(a, .inr (9, [.int ((rcO le mo si pp ps pa (-1, p0, a0, f0) (k + 1)).2.1), .int ((rcO le mo si pp ps pa (-1, p0, a0, f0) (k + 1)).2.2.1), .int ((rcO le mo si pp ps pa (-1, p0, a0, f0) (k + 1)).2.2.2)]))]) (rfl) ?_
      exact ih (k + 1) (by omega) (by omega)
set_option maxHeartbeats 4000000 in
set_option maxRecDepth 100000 in
theorem C_Re_search (g : zG) (a : Nat) (p0 a0 f0 : Int32) (le mo si pp ps pa : Int32) : CT g M_Re_search [.ref a, .int le, .int mo, .int si, .int pp, .int ps, .int pa] [(a, .inr (9, [.int p0, .int a0, .int f0]))] (fun o cs1 => o = .inl (some (.int ((rcO le mo si pp ps pa (-1, p0, a0, f0) 11).1))) ∧ cs1 = [(a, .inr (9, [.int ((rcO le mo si pp ps pa (-1, p0, a0, f0) 11).2.1), .int ((rcO le mo si pp ps pa (-1, p0, a0, f0) 11).2.2.1), .int ((rcO le mo si pp ps pa (-1, p0, a0, f0) 11).2.2.2)]))]) 0 0 := by
  refine z_of (by decide) rfl (Nat.le_of_ble_eq_true rfl) (fun w0 => ?_)
  refine r_lvE (lv2 := [(0, .ref a), (1, .int le), (2, .int mo), (3, .int si), (4, .int pp), (5, .int ps), (6, .int pa)]) rfl ?_
  refine r_iconst d_Re_search_0 (v := (-1)) (by decide) ?_
  refine r_istore (lv' := [(7, .int (-1)), (0, .ref a), (1, .int le), (2, .int mo), (3, .int si), (4, .int pp), (5, .int ps), (6, .int pa)]) d_Re_search_1 (by decide) rfl ?_
  refine r_bipush d_Re_search_3 (v := 100) (by decide) ?_
  refine r_istore (lv' := [(8, .int 100), (7, .int (-1)), (0, .ref a), (1, .int le), (2, .int mo), (3, .int si), (4, .int pp), (5, .int ps), (6, .int pa)]) d_Re_search_5 (by decide) rfl ?_
  refine r_lv (lv' := [(7, .int (-1)), (8, .int 100), (6, .int pa), (5, .int ps), (4, .int pp), (3, .int si), (2, .int mo), (1, .int le), (0, .ref a)]) [1, 0, 8, 7, 6, 5, 4, 3, 2] rfl ?_
  refine r_lvE (lv2 := [(7, .int ((rcO le mo si pp ps pa (-1, p0, a0, f0) 0).1)), (8, .int (pgI 0)), (6, .int pa), (5, .int ps), (4, .int pp), (3, .int si), (2, .int mo), (1, .int le), (0, .ref a)]) (rfl) ?_
  refine r_cs (cs2 := [(a, .inr (9, [.int ((rcO le mo si pp ps pa (-1, p0, a0, f0) 0).2.1), .int ((rcO le mo si pp ps pa (-1, p0, a0, f0) 0).2.2.1), .int ((rcO le mo si pp ps pa (-1, p0, a0, f0) 0).2.2.2)]))]) (rfl) ?_
  exact L_Re_search_7 g a p0 a0 f0 le mo si pp ps pa w0 _  (11 + 1) 0 (Nat.zero_le _) (by omega)
abbrev M_Re_scrapParts : zM := (⟨"Ironpour$Recipe", "scrapParts", "()I"⟩, prog_11_method_2_code, 1, (Option.some FieldType.int), 1, 20, [])
theorem d_Re_scrapParts_0 : decode prog_11_method_2_code 0 = .ok (.bipush 100, 2) := zo_16 (d := 100) (zd_b zq_prog_11_method_2_code_0 0 rfl rfl rfl) (zd_b zq_prog_11_method_2_code_0 1 rfl rfl rfl) (by decide +kernel)
theorem d_Re_scrapParts_2 : decode prog_11_method_2_code 2 = .ok (.aload_n 0, 1) := zo_42 (zd_b zq_prog_11_method_2_code_0 2 rfl rfl rfl)
theorem d_Re_scrapParts_3 : decode prog_11_method_2_code 3 = .ok (.getfield 11, 3) := zo_180 (d := 0) (e := 11) (zd_b zq_prog_11_method_2_code_0 3 rfl rfl rfl) (zd_b zq_prog_11_method_2_code_0 4 rfl rfl rfl) (zd_b zq_prog_11_method_2_code_0 5 rfl rfl rfl)
theorem fs_Re_11 : z_fs "Ironpour$Recipe" 11 9 0 := ⟨R_Re, "Ironpour$Recipe", F_Re, 3, rfl, u_Re, by decide, Or.inl ⟨z_mj2 (i := 24) rfl (by decide +kernel), Or.inl rfl⟩⟩
theorem d_Re_scrapParts_6 : decode prog_11_method_2_code 6 = .ok (.isub, 1) := zo_100 (zd_b zq_prog_11_method_2_code_0 6 rfl rfl rfl)
theorem d_Re_scrapParts_7 : decode prog_11_method_2_code 7 = .ok (.aload_n 0, 1) := zo_42 (zd_b zq_prog_11_method_2_code_0 7 rfl rfl rfl)
theorem d_Re_scrapParts_8 : decode prog_11_method_2_code 8 = .ok (.getfield 15, 3) := zo_180 (d := 0) (e := 15) (zd_b zq_prog_11_method_2_code_0 8 rfl rfl rfl) (zd_b zq_prog_11_method_2_code_0 9 rfl rfl rfl) (zd_b zq_prog_11_method_2_code_0 10 rfl rfl rfl)
theorem fs_Re_15 : z_fs "Ironpour$Recipe" 15 9 1 := ⟨R_Re, "Ironpour$Recipe", F_Re, 3, rfl, u_Re, by decide, Or.inl ⟨z_mj2 (i := 26) rfl (by decide +kernel), Or.inl rfl⟩⟩
theorem d_Re_scrapParts_11 : decode prog_11_method_2_code 11 = .ok (.isub, 1) := zo_100 (zd_b zq_prog_11_method_2_code_0 11 rfl rfl rfl)
theorem d_Re_scrapParts_12 : decode prog_11_method_2_code 12 = .ok (.ireturn, 1) := zo_172 (zd_b zq_prog_11_method_2_code_0 12 rfl rfl rfl)
def S_Re_scrapParts (a : Nat) (p0 a0 f0 : Int32) : Int32 := (100 - p0) - a0
set_option maxHeartbeats 4000000 in
set_option maxRecDepth 100000 in
theorem C_Re_scrapParts (g : zG) (a : Nat) (p0 a0 f0 : Int32) : CT g M_Re_scrapParts [.ref a] [(a, .inr (9, [.int p0, .int a0, .int f0]))] (fun o cs1 => o = .inl (some (.int (S_Re_scrapParts a p0 a0 f0))) ∧ cs1 = [(a, .inr (9, [.int p0, .int a0, .int f0]))]) 0 0 := by
  refine z_of (by decide) rfl (Nat.le_of_ble_eq_true rfl) (fun w0 => ?_)
  refine r_lvE (lv2 := [(0, .ref a)]) rfl ?_
  refine r_bipush d_Re_scrapParts_0 (v := 100) (by decide) ?_
  refine r_aload_n d_Re_scrapParts_2 rfl 0 rfl ?_
  refine r_get fs_Re_11 d_Re_scrapParts_3 (q0 := 0) rfl rfl ?_
  refine r_isub d_Re_scrapParts_6 (v := 100 - p0) rfl ?_
  refine r_aload_n d_Re_scrapParts_7 rfl 0 rfl ?_
  refine r_get fs_Re_15 d_Re_scrapParts_8 (q0 := 0) rfl rfl ?_
  refine r_isub d_Re_scrapParts_11 (v := (100 - p0) - a0) rfl ?_
  refine r_iret d_Re_scrapParts_12 rfl rfl ?_
  exact ⟨rfl, rfl⟩
