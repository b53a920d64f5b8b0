section
def ctS (e : Nat) (p s a : Int32) : Int32 := (p * (z_sv 0).getD e 0 + s * (z_sv 1).getD e 0 + a * (z_sv 2).getD e 0) / 100
abbrev zR : Type := Int32 × Int32 × Int32 × Int32
def prS (pp ps pa : Int32) (P A : Nat) : Int32 := nI P * pp + nI (100 - P - A) * ps + nI A * pa
def rcC (le mo si : Int32) (P A : Nat) : Prop := ¬ ctS 0 (nI P) (nI (100 - P - A)) (nI A) < le ∧ ¬ mo < ctS 0 (nI P) (nI (100 - P - A)) (nI A) ∧ ¬ ctS 1 (nI P) (nI (100 - P - A)) (nI A) < si
noncomputable def rcI (le mo si pp ps pa : Int32) (P A : Nat) (s : zR) : zR := @ite _ (rcC le mo si P A ∧ (s.1 < 0 ∨ ¬ s.1 ≤ prS pp ps pa P A)) (Classical.propDecidable _) (prS pp ps pa P A, nI P, nI A, 1) s
theorem rcI_t {le mo si pp ps pa : Int32} {P A : Nat} {s : zR} (h : rcC le mo si P A ∧ (s.1 < 0 ∨ ¬ s.1 ≤ prS pp ps pa P A)) : rcI le mo si pp ps pa P A s = (prS pp ps pa P A, nI P, nI A, 1) := if_pos h
theorem rcI_f {le mo si pp ps pa : Int32} {P A : Nat} {s : zR} (h : ¬ (rcC le mo si P A ∧ (s.1 < 0 ∨ ¬ s.1 ≤ prS pp ps pa P A))) : rcI le mo si pp ps pa P A s = s := if_neg h
noncomputable def rcR (le mo si pp ps pa : Int32) (P : Nat) (s : zR) : Nat → zR
  | 0 => s
  | A + 1 => rcI le mo si pp ps pa P A (rcR le mo si pp ps pa P s A)
def nA (P : Nat) : Nat := if P = 100 then 1 else 11
noncomputable def rcO (le mo si pp ps pa : Int32) (s : zR) : Nat → zR
  | 0 => s
  | k + 1 => rcR le mo si pp ps pa (100 - 10 * k) (rcO le mo si pp ps pa s k) (nA (100 - 10 * k))
def pgI (k : Nat) : Int32 := 100 - nI (10 * k)
theorem nA_c (P : Nat) : P = 100 ∧ nA P = 1 ∨ P ≠ 100 ∧ nA P = 11 := by
  unfold nA
  split
  · exact Or.inl ⟨by assumption, rfl⟩
  · exact Or.inr ⟨by assumption, rfl⟩
theorem pgI_n {k : Nat} (h : k < 11) : pgI k = nI (100 - 10 * k) := pk_sub (a := 100) (by omega)
theorem pgI_s : ∀ k, k < 11 → pgI k + (-10) = pgI (k + 1) := by decide
theorem pgI_neg : ∀ k, k < 12 → (pgI k < 0 ↔ k = 11) := by decide
abbrev M_Re_contentOf : zM := (⟨"Ironpour$Recipe", "contentOf", "(IIII)I"⟩, prog_11_method_4_code, 4, (Option.some FieldType.int), 1, 20, [])
theorem d_Re_contentOf_0 : decode prog_11_method_4_code 0 = .ok (.iload_n 1, 1) := zo_27 (zd_b zq_prog_11_method_4_code_0 0 rfl rfl rfl)
theorem d_Re_contentOf_1 : decode prog_11_method_4_code 1 = .ok (.getstatic 26, 3) := zo_178 (d := 0) (e := 26) (zd_b zq_prog_11_method_4_code_0 1 rfl rfl rfl) (zd_b zq_prog_11_method_4_code_0 2 rfl rfl rfl) (zd_b zq_prog_11_method_4_code_0 3 rfl rfl rfl)
theorem ls_Re_26 : Cond.fieldLinkNest "Ironpour$Recipe" 26 "Ironpour" (z_sn 0) "[I" "Ironpour" ∈ z_nw := z_mk5 (i := 194) rfl (by decide +kernel)
theorem d_Re_contentOf_4 : decode prog_11_method_4_code 4 = .ok (.iload_n 0, 1) := zo_26 (zd_b zq_prog_11_method_4_code_0 4 rfl rfl rfl)
theorem d_Re_contentOf_5 : decode prog_11_method_4_code 5 = .ok (.iaload, 1) := zo_46 (zd_b zq_prog_11_method_4_code_0 5 rfl rfl rfl)
theorem d_Re_contentOf_6 : decode prog_11_method_4_code 6 = .ok (.imul, 1) := zo_104 (zd_b zq_prog_11_method_4_code_0 6 rfl rfl rfl)
theorem d_Re_contentOf_7 : decode prog_11_method_4_code 7 = .ok (.iload_n 2, 1) := zo_28 (zd_b zq_prog_11_method_4_code_0 7 rfl rfl rfl)
theorem d_Re_contentOf_8 : decode prog_11_method_4_code 8 = .ok (.getstatic 30, 3) := zo_178 (d := 0) (e := 30) (zd_b zq_prog_11_method_4_code_0 8 rfl rfl rfl) (zd_b zq_prog_11_method_4_code_0 9 rfl rfl rfl) (zd_b zq_prog_11_method_4_code_0 10 rfl rfl rfl)
theorem ls_Re_30 : Cond.fieldLinkNest "Ironpour$Recipe" 30 "Ironpour" (z_sn 1) "[I" "Ironpour" ∈ z_nw := z_mk5 (i := 195) rfl (by decide +kernel)
theorem d_Re_contentOf_11 : decode prog_11_method_4_code 11 = .ok (.iload_n 0, 1) := zo_26 (zd_b zq_prog_11_method_4_code_0 11 rfl rfl rfl)
theorem d_Re_contentOf_12 : decode prog_11_method_4_code 12 = .ok (.iaload, 1) := zo_46 (zd_b zq_prog_11_method_4_code_0 12 rfl rfl rfl)
theorem d_Re_contentOf_13 : decode prog_11_method_4_code 13 = .ok (.imul, 1) := zo_104 (zd_b zq_prog_11_method_4_code_0 13 rfl rfl rfl)
theorem d_Re_contentOf_14 : decode prog_11_method_4_code 14 = .ok (.iadd, 1) := zo_96 (zd_b zq_prog_11_method_4_code_0 14 rfl rfl rfl)
theorem d_Re_contentOf_15 : decode prog_11_method_4_code 15 = .ok (.iload_n 3, 1) := zo_29 (zd_b zq_prog_11_method_4_code_0 15 rfl rfl rfl)
theorem d_Re_contentOf_16 : decode prog_11_method_4_code 16 = .ok (.getstatic 33, 3) := zo_178 (d := 0) (e := 33) (zd_b zq_prog_11_method_4_code_0 16 rfl rfl rfl) (zd_b zq_prog_11_method_4_code_0 17 rfl rfl rfl) (zd_b zq_prog_11_method_4_code_0 18 rfl rfl rfl)
theorem ls_Re_33 : Cond.fieldLinkNest "Ironpour$Recipe" 33 "Ironpour" (z_sn 2) "[I" "Ironpour" ∈ z_nw := z_mk5 (i := 196) rfl (by decide +kernel)
theorem d_Re_contentOf_19 : decode prog_11_method_4_code 19 = .ok (.iload_n 0, 1) := zo_26 (zd_b zq_prog_11_method_4_code_0 19 rfl rfl rfl)
theorem d_Re_contentOf_20 : decode prog_11_method_4_code 20 = .ok (.iaload, 1) := zo_46 (zd_b zq_prog_11_method_4_code_0 20 rfl rfl rfl)
theorem d_Re_contentOf_21 : decode prog_11_method_4_code 21 = .ok (.imul, 1) := zo_104 (zd_b zq_prog_11_method_4_code_0 21 rfl rfl rfl)
theorem d_Re_contentOf_22 : decode prog_11_method_4_code 22 = .ok (.iadd, 1) := zo_96 (zd_b zq_prog_11_method_4_code_0 22 rfl rfl rfl)
theorem d_Re_contentOf_23 : decode prog_11_method_4_code 23 = .ok (.bipush 100, 2) := zo_16 (d := 100) (zd_b zq_prog_11_method_4_code_0 23 rfl rfl rfl) (zd_b zq_prog_11_method_4_code_0 24 rfl rfl rfl) (by decide +kernel)
theorem d_Re_contentOf_25 : decode prog_11_method_4_code 25 = .ok (.idiv, 1) := zo_108 (zd_b zq_prog_11_method_4_code_0 25 rfl rfl rfl)
theorem d_Re_contentOf_26 : decode prog_11_method_4_code 26 = .ok (.ireturn, 1) := zo_172 (zd_b zq_prog_11_method_4_code_0 26 rfl rfl rfl)
set_option maxHeartbeats 4000000 in
set_option maxRecDepth 100000 in
theorem C_Re_contentOf (g : zG) (e : Nat) (he : e < 4) (p s a : Int32) : CT g M_Re_contentOf [.int (nI e), .int p, .int s, .int a] [] (fun o cs1 => o = .inl (some (.int (ctS e p s a))) ∧ cs1 = []) 0 0 := by
  refine z_of (by decide) rfl (Nat.le_of_ble_eq_true rfl) (fun w0 => ?_)
  refine r_lvE (lv2 := [(0, .int (nI e)), (1, .int p), (2, .int s), (3, .int a)]) rfl ?_
  refine r_iload_n d_Re_contentOf_0 rfl 1 rfl ?_
  refine r_getsAN (i := 0) (by decide) ls_Re_26 d_Re_contentOf_1 ?_
  refine r_iload_n d_Re_contentOf_4 rfl 0 rfl ?_
  refine r_taldA (v := (z_sv 0).getD e 0) (by omega) (vp_in_nI (by omega) (by omega)) (by rw [nI_clamp (by omega)]) d_Re_contentOf_5 ?_
  refine r_imul d_Re_contentOf_6 (v := p * ((z_sv 0).getD e 0)) rfl ?_
  refine r_iload_n d_Re_contentOf_7 rfl 2 rfl ?_
  refine r_getsAN (i := 1) (by decide) ls_Re_30 d_Re_contentOf_8 ?_
  refine r_iload_n d_Re_contentOf_11 rfl 0 rfl ?_
  refine r_taldA (v := (z_sv 1).getD e 0) (by omega) (vp_in_nI (by omega) (by omega)) (by rw [nI_clamp (by omega)]) d_Re_contentOf_12 ?_
  refine r_imul d_Re_contentOf_13 (v := s * ((z_sv 1).getD e 0)) rfl ?_
  refine r_iadd d_Re_contentOf_14 (v := (p * ((z_sv 0).getD e 0)) + (s * ((z_sv 1).getD e 0))) rfl ?_
  refine r_iload_n d_Re_contentOf_15 rfl 3 rfl ?_
  refine r_getsAN (i := 2) (by decide) ls_Re_33 d_Re_contentOf_16 ?_
  refine r_iload_n d_Re_contentOf_19 rfl 0 rfl ?_
  refine r_taldA (v := (z_sv 2).getD e 0) (by omega) (vp_in_nI (by omega) (by omega)) (by rw [nI_clamp (by omega)]) d_Re_contentOf_20 ?_
  refine r_imul d_Re_contentOf_21 (v := a * ((z_sv 2).getD e 0)) rfl ?_
  refine r_iadd d_Re_contentOf_22 (v := ((p * ((z_sv 0).getD e 0)) + (s * ((z_sv 1).getD e 0))) + (a * ((z_sv 2).getD e 0))) rfl ?_
  refine r_bipush d_Re_contentOf_23 (v := 100) (by decide) ?_
  refine r_idiv d_Re_contentOf_25 (v := (((p * ((z_sv 0).getD e 0)) + (s * ((z_sv 1).getD e 0))) + (a * ((z_sv 2).getD e 0))) / 100) (by decide) rfl ?_
  refine r_iret d_Re_contentOf_26 rfl rfl ?_
  exact ⟨rfl, rfl⟩
abbrev M_Re_search : zM := (⟨"Ironpour$Recipe", "search", "(IIIIII)I"⟩, prog_11_method_3_code, 14, (Option.some FieldType.int), 2, 43, [])
theorem d_Re_search_15 : decode prog_11_method_3_code 15 = .ok (.iload 9, 2) := zo_21 (d := 9) (zd_b zq_prog_11_method_3_code_0 15 rfl rfl rfl) (zd_b zq_prog_11_method_3_code_0 16 rfl rfl rfl)
theorem d_Re_search_17 : decode prog_11_method_3_code 17 = .ok (.bipush 10, 2) := zo_16 (d := 10) (zd_b zq_prog_11_method_3_code_0 17 rfl rfl rfl) (zd_b zq_prog_11_method_3_code_0 18 rfl rfl rfl) (by decide +kernel)
theorem d_Re_search_19 : decode prog_11_method_3_code 19 = .ok (.if_icmp .gt 131, 3) := zo_163 (d := 0) (e := 131) (zd_b zq_prog_11_method_3_code_0 19 rfl rfl rfl) (zd_b zq_prog_11_method_3_code_0 20 rfl rfl rfl) (zd_b zq_prog_11_method_3_code_0 21 rfl rfl rfl) (by decide +kernel)
theorem d_Re_search_22 : decode prog_11_method_3_code 22 = .ok (.iload 8, 2) := zo_21 (d := 8) (zd_b zq_prog_11_method_3_code_0 22 rfl rfl rfl) (zd_b zq_prog_11_method_3_code_0 23 rfl rfl rfl)
theorem d_Re_search_24 : decode prog_11_method_3_code 24 = .ok (.iload 9, 2) := zo_21 (d := 9) (zd_b zq_prog_11_method_3_code_0 24 rfl rfl rfl) (zd_b zq_prog_11_method_3_code_0 25 rfl rfl rfl)
theorem d_Re_search_26 : decode prog_11_method_3_code 26 = .ok (.iadd, 1) := zo_96 (zd_b zq_prog_11_method_3_code_0 26 rfl rfl rfl)
theorem d_Re_search_27 : decode prog_11_method_3_code 27 = .ok (.bipush 100, 2) := zo_16 (d := 100) (zd_b zq_prog_11_method_3_code_0 27 rfl rfl rfl) (zd_b zq_prog_11_method_3_code_0 28 rfl rfl rfl) (by decide +kernel)
theorem d_Re_search_29 : decode prog_11_method_3_code 29 = .ok (.if_icmp .gt 121, 3) := zo_163 (d := 0) (e := 121) (zd_b zq_prog_11_method_3_code_0 29 rfl rfl rfl) (zd_b zq_prog_11_method_3_code_0 30 rfl rfl rfl) (zd_b zq_prog_11_method_3_code_0 31 rfl rfl rfl) (by decide +kernel)
theorem d_Re_search_32 : decode prog_11_method_3_code 32 = .ok (.bipush 100, 2) := zo_16 (d := 100) (zd_b zq_prog_11_method_3_code_1 0 rfl rfl rfl) (zd_b zq_prog_11_method_3_code_1 1 rfl rfl rfl) (by decide +kernel)
theorem d_Re_search_34 : decode prog_11_method_3_code 34 = .ok (.iload 8, 2) := zo_21 (d := 8) (zd_b zq_prog_11_method_3_code_1 2 rfl rfl rfl) (zd_b zq_prog_11_method_3_code_1 3 rfl rfl rfl)
theorem d_Re_search_36 : decode prog_11_method_3_code 36 = .ok (.isub, 1) := zo_100 (zd_b zq_prog_11_method_3_code_1 4 rfl rfl rfl)
theorem d_Re_search_37 : decode prog_11_method_3_code 37 = .ok (.iload 9, 2) := zo_21 (d := 9) (zd_b zq_prog_11_method_3_code_1 5 rfl rfl rfl) (zd_b zq_prog_11_method_3_code_1 6 rfl rfl rfl)
theorem d_Re_search_39 : decode prog_11_method_3_code 39 = .ok (.isub, 1) := zo_100 (zd_b zq_prog_11_method_3_code_1 7 rfl rfl rfl)
theorem d_Re_search_40 : decode prog_11_method_3_code 40 = .ok (.istore 10, 2) := zo_54 (d := 10) (zd_b zq_prog_11_method_3_code_1 8 rfl rfl rfl) (zd_b zq_prog_11_method_3_code_1 9 rfl rfl rfl)
theorem d_Re_search_42 : decode prog_11_method_3_code 42 = .ok (.iload 8, 2) := zo_21 (d := 8) (zd_b zq_prog_11_method_3_code_1 10 rfl rfl rfl) (zd_b zq_prog_11_method_3_code_1 11 rfl rfl rfl)
theorem d_Re_search_44 : decode prog_11_method_3_code 44 = .ok (.iload 4, 2) := zo_21 (d := 4) (zd_b zq_prog_11_method_3_code_1 12 rfl rfl rfl) (zd_b zq_prog_11_method_3_code_1 13 rfl rfl rfl)
theorem d_Re_search_46 : decode prog_11_method_3_code 46 = .ok (.imul, 1) := zo_104 (zd_b zq_prog_11_method_3_code_1 14 rfl rfl rfl)
theorem d_Re_search_47 : decode prog_11_method_3_code 47 = .ok (.iload 10, 2) := zo_21 (d := 10) (zd_b zq_prog_11_method_3_code_1 15 rfl rfl rfl) (zd_b zq_prog_11_method_3_code_1 16 rfl rfl rfl)
theorem d_Re_search_49 : decode prog_11_method_3_code 49 = .ok (.iload 5, 2) := zo_21 (d := 5) (zd_b zq_prog_11_method_3_code_1 17 rfl rfl rfl) (zd_b zq_prog_11_method_3_code_1 18 rfl rfl rfl)
theorem d_Re_search_51 : decode prog_11_method_3_code 51 = .ok (.imul, 1) := zo_104 (zd_b zq_prog_11_method_3_code_1 19 rfl rfl rfl)
theorem d_Re_search_52 : decode prog_11_method_3_code 52 = .ok (.iadd, 1) := zo_96 (zd_b zq_prog_11_method_3_code_1 20 rfl rfl rfl)
theorem d_Re_search_53 : decode prog_11_method_3_code 53 = .ok (.iload 9, 2) := zo_21 (d := 9) (zd_b zq_prog_11_method_3_code_1 21 rfl rfl rfl) (zd_b zq_prog_11_method_3_code_1 22 rfl rfl rfl)
theorem d_Re_search_55 : decode prog_11_method_3_code 55 = .ok (.iload 6, 2) := zo_21 (d := 6) (zd_b zq_prog_11_method_3_code_1 23 rfl rfl rfl) (zd_b zq_prog_11_method_3_code_1 24 rfl rfl rfl)
theorem d_Re_search_57 : decode prog_11_method_3_code 57 = .ok (.imul, 1) := zo_104 (zd_b zq_prog_11_method_3_code_1 25 rfl rfl rfl)
theorem d_Re_search_58 : decode prog_11_method_3_code 58 = .ok (.iadd, 1) := zo_96 (zd_b zq_prog_11_method_3_code_1 26 rfl rfl rfl)
theorem d_Re_search_59 : decode prog_11_method_3_code 59 = .ok (.istore 11, 2) := zo_54 (d := 11) (zd_b zq_prog_11_method_3_code_1 27 rfl rfl rfl) (zd_b zq_prog_11_method_3_code_1 28 rfl rfl rfl)
theorem d_Re_search_61 : decode prog_11_method_3_code 61 = .ok (.iconst 0, 1) := zo_3 (zd_b zq_prog_11_method_3_code_1 29 rfl rfl rfl)
theorem d_Re_search_62 : decode prog_11_method_3_code 62 = .ok (.iload 8, 2) := zo_21 (d := 8) (zd_b zq_prog_11_method_3_code_1 30 rfl rfl rfl) (zd_b zq_prog_11_method_3_code_1 31 rfl rfl rfl)
theorem d_Re_search_64 : decode prog_11_method_3_code 64 = .ok (.iload 10, 2) := zo_21 (d := 10) (zd_b zq_prog_11_method_3_code_2 0 rfl rfl rfl) (zd_b zq_prog_11_method_3_code_2 1 rfl rfl rfl)
theorem d_Re_search_66 : decode prog_11_method_3_code 66 = .ok (.iload 9, 2) := zo_21 (d := 9) (zd_b zq_prog_11_method_3_code_2 2 rfl rfl rfl) (zd_b zq_prog_11_method_3_code_2 3 rfl rfl rfl)
theorem d_Re_search_68 : decode prog_11_method_3_code 68 = .ok (.invokestatic 18, 3) := zo_184 (d := 0) (e := 18) (zd_b zq_prog_11_method_3_code_2 4 rfl rfl rfl) (zd_b zq_prog_11_method_3_code_2 5 rfl rfl rfl) (zd_b zq_prog_11_method_3_code_2 6 rfl rfl rfl)
theorem ok_Re_search_Re_contentOf : z_ok M_Re_search M_Re_contentOf 4 := ⟨z_mj5 (i := 193) rfl (by decide +kernel), rfl, ⟨by decide +kernel, by decide +kernel, by decide +kernel⟩, ⟨by decide, by decide⟩, z_mj1 (i := 10) rfl (by decide +kernel), rfl⟩
theorem ln_Re_18 : Cond.methodLink "Ironpour$Recipe" 18 M_Re_contentOf.1 ∈ z_gw := z_mj5 (i := 191) rfl (by decide +kernel)
theorem w_st_Re_contentOf : Cond.static M_Re_contentOf.1 ∈ z_gw := z_mj5 (i := 192) rfl (by decide +kernel)
theorem d_Re_search_71 : decode prog_11_method_3_code 71 = .ok (.istore 12, 2) := zo_54 (d := 12) (zd_b zq_prog_11_method_3_code_2 7 rfl rfl rfl) (zd_b zq_prog_11_method_3_code_2 8 rfl rfl rfl)
theorem d_Re_search_73 : decode prog_11_method_3_code 73 = .ok (.iload 12, 2) := zo_21 (d := 12) (zd_b zq_prog_11_method_3_code_2 9 rfl rfl rfl) (zd_b zq_prog_11_method_3_code_2 10 rfl rfl rfl)
theorem d_Re_search_75 : decode prog_11_method_3_code 75 = .ok (.iload_n 1, 1) := zo_27 (zd_b zq_prog_11_method_3_code_2 11 rfl rfl rfl)
theorem d_Re_search_76 : decode prog_11_method_3_code 76 = .ok (.if_icmp .lt 27, 3) := zo_161 (d := 0) (e := 27) (zd_b zq_prog_11_method_3_code_2 12 rfl rfl rfl) (zd_b zq_prog_11_method_3_code_2 13 rfl rfl rfl) (zd_b zq_prog_11_method_3_code_2 14 rfl rfl rfl) (by decide +kernel)
theorem d_Re_search_103 : decode prog_11_method_3_code 103 = .ok (.iconst 0, 1) := zo_3 (zd_b zq_prog_11_method_3_code_3 7 rfl rfl rfl)
theorem d_Re_search_104 : decode prog_11_method_3_code 104 = .ok (.istore 13, 2) := zo_54 (d := 13) (zd_b zq_prog_11_method_3_code_3 8 rfl rfl rfl) (zd_b zq_prog_11_method_3_code_3 9 rfl rfl rfl)
theorem d_Re_search_106 : decode prog_11_method_3_code 106 = .ok (.iload 13, 2) := zo_21 (d := 13) (zd_b zq_prog_11_method_3_code_3 10 rfl rfl rfl) (zd_b zq_prog_11_method_3_code_3 11 rfl rfl rfl)
theorem d_Re_search_108 : decode prog_11_method_3_code 108 = .ok (.ifCond .eq 36, 3) := zo_153 (d := 0) (e := 36) (zd_b zq_prog_11_method_3_code_3 12 rfl rfl rfl) (zd_b zq_prog_11_method_3_code_3 13 rfl rfl rfl) (zd_b zq_prog_11_method_3_code_3 14 rfl rfl rfl) (by decide +kernel)
theorem d_Re_search_144 : decode prog_11_method_3_code 144 = .ok (.iinc 9 1, 3) := by decide +kernel
theorem d_Re_search_147 : decode prog_11_method_3_code 147 = .ok (.goto (-132), 3) := zo_167 (d := 255) (e := 124) (zd_b zq_prog_11_method_3_code_4 19 rfl rfl rfl) (zd_b zq_prog_11_method_3_code_4 20 rfl rfl rfl) (zd_b zq_prog_11_method_3_code_4 21 rfl rfl rfl) (by decide +kernel)
theorem d_Re_search_79 : decode prog_11_method_3_code 79 = .ok (.iload 12, 2) := zo_21 (d := 12) (zd_b zq_prog_11_method_3_code_2 15 rfl rfl rfl) (zd_b zq_prog_11_method_3_code_2 16 rfl rfl rfl)
theorem d_Re_search_81 : decode prog_11_method_3_code 81 = .ok (.iload_n 2, 1) := zo_28 (zd_b zq_prog_11_method_3_code_2 17 rfl rfl rfl)
theorem d_Re_search_82 : decode prog_11_method_3_code 82 = .ok (.if_icmp .gt 21, 3) := zo_163 (d := 0) (e := 21) (zd_b zq_prog_11_method_3_code_2 18 rfl rfl rfl) (zd_b zq_prog_11_method_3_code_2 19 rfl rfl rfl) (zd_b zq_prog_11_method_3_code_2 20 rfl rfl rfl) (by decide +kernel)
theorem d_Re_search_85 : decode prog_11_method_3_code 85 = .ok (.iconst 1, 1) := zo_4 (zd_b zq_prog_11_method_3_code_2 21 rfl rfl rfl)
theorem d_Re_search_86 : decode prog_11_method_3_code 86 = .ok (.iload 8, 2) := zo_21 (d := 8) (zd_b zq_prog_11_method_3_code_2 22 rfl rfl rfl) (zd_b zq_prog_11_method_3_code_2 23 rfl rfl rfl)
theorem d_Re_search_88 : decode prog_11_method_3_code 88 = .ok (.iload 10, 2) := zo_21 (d := 10) (zd_b zq_prog_11_method_3_code_2 24 rfl rfl rfl) (zd_b zq_prog_11_method_3_code_2 25 rfl rfl rfl)
theorem d_Re_search_90 : decode prog_11_method_3_code 90 = .ok (.iload 9, 2) := zo_21 (d := 9) (zd_b zq_prog_11_method_3_code_2 26 rfl rfl rfl) (zd_b zq_prog_11_method_3_code_2 27 rfl rfl rfl)
theorem d_Re_search_92 : decode prog_11_method_3_code 92 = .ok (.invokestatic 18, 3) := zo_184 (d := 0) (e := 18) (zd_b zq_prog_11_method_3_code_2 28 rfl rfl rfl) (zd_b zq_prog_11_method_3_code_2 29 rfl rfl rfl) (zd_b zq_prog_11_method_3_code_2 30 rfl rfl rfl)
theorem d_Re_search_95 : decode prog_11_method_3_code 95 = .ok (.iload_n 3, 1) := zo_29 (zd_b zq_prog_11_method_3_code_2 31 rfl rfl rfl)
theorem d_Re_search_96 : decode prog_11_method_3_code 96 = .ok (.if_icmp .lt 7, 3) := zo_161 (d := 0) (e := 7) (zd_b zq_prog_11_method_3_code_3 0 rfl rfl rfl) (zd_b zq_prog_11_method_3_code_3 1 rfl rfl rfl) (zd_b zq_prog_11_method_3_code_3 2 rfl rfl rfl) (by decide +kernel)
theorem d_Re_search_99 : decode prog_11_method_3_code 99 = .ok (.iconst 1, 1) := zo_4 (zd_b zq_prog_11_method_3_code_3 3 rfl rfl rfl)
theorem d_Re_search_100 : decode prog_11_method_3_code 100 = .ok (.goto 4, 3) := zo_167 (d := 0) (e := 4) (zd_b zq_prog_11_method_3_code_3 4 rfl rfl rfl) (zd_b zq_prog_11_method_3_code_3 5 rfl rfl rfl) (zd_b zq_prog_11_method_3_code_3 6 rfl rfl rfl) (by decide +kernel)
theorem d_Re_search_111 : decode prog_11_method_3_code 111 = .ok (.iload 7, 2) := zo_21 (d := 7) (zd_b zq_prog_11_method_3_code_3 15 rfl rfl rfl) (zd_b zq_prog_11_method_3_code_3 16 rfl rfl rfl)
theorem d_Re_search_113 : decode prog_11_method_3_code 113 = .ok (.ifCond .lt 10, 3) := zo_155 (d := 0) (e := 10) (zd_b zq_prog_11_method_3_code_3 17 rfl rfl rfl) (zd_b zq_prog_11_method_3_code_3 18 rfl rfl rfl) (zd_b zq_prog_11_method_3_code_3 19 rfl rfl rfl) (by decide +kernel)
theorem d_Re_search_123 : decode prog_11_method_3_code 123 = .ok (.iload 11, 2) := zo_21 (d := 11) (zd_b zq_prog_11_method_3_code_3 27 rfl rfl rfl) (zd_b zq_prog_11_method_3_code_3 28 rfl rfl rfl)
theorem d_Re_search_125 : decode prog_11_method_3_code 125 = .ok (.istore 7, 2) := zo_54 (d := 7) (zd_b zq_prog_11_method_3_code_3 29 rfl rfl rfl) (zd_b zq_prog_11_method_3_code_3 30 rfl rfl rfl)
theorem d_Re_search_127 : decode prog_11_method_3_code 127 = .ok (.aload_n 0, 1) := zo_42 (zd_b zq_prog_11_method_3_code_3 31 rfl rfl rfl)
theorem d_Re_search_128 : decode prog_11_method_3_code 128 = .ok (.iload 8, 2) := zo_21 (d := 8) (zd_b zq_prog_11_method_3_code_4 0 rfl rfl rfl) (zd_b zq_prog_11_method_3_code_4 1 rfl rfl rfl)
theorem d_Re_search_130 : decode prog_11_method_3_code 130 = .ok (.putfield 11, 3) := zo_181 (d := 0) (e := 11) (zd_b zq_prog_11_method_3_code_4 2 rfl rfl rfl) (zd_b zq_prog_11_method_3_code_4 3 rfl rfl rfl) (zd_b zq_prog_11_method_3_code_4 4 rfl rfl rfl)
theorem u_Re : ∀ x ∈ u_ws R_Re F_Re 3, x ∈ z_gw := fun x hx => List.mem_filter.mpr ⟨(z_au [(2, 30), (2, 32), (2, 34)] (by decide +kernel) : ∀ x ∈ u_ws R_Re F_Re 3, x ∈ lw_tbl) x hx, (show ∀ x ∈ u_ws R_Re F_Re 3, goodWord x = true by decide +kernel) x hx⟩
theorem fp_Re_11 : z_fp "Ironpour$Recipe" 11 9 0 false .int := ⟨R_Re, "Ironpour$Recipe", F_Re, 3, t_Re, rfl, u_Re, by decide, t_Re_ok, n_Re, rfl, rfl, Or.inl ⟨z_mj2 (i := 24) rfl (by decide +kernel), Or.inl rfl, fun h => nomatch h⟩⟩
theorem d_Re_search_133 : decode prog_11_method_3_code 133 = .ok (.aload_n 0, 1) := zo_42 (zd_b zq_prog_11_method_3_code_4 5 rfl rfl rfl)
theorem d_Re_search_134 : decode prog_11_method_3_code 134 = .ok (.iload 9, 2) := zo_21 (d := 9) (zd_b zq_prog_11_method_3_code_4 6 rfl rfl rfl) (zd_b zq_prog_11_method_3_code_4 7 rfl rfl rfl)
theorem d_Re_search_136 : decode prog_11_method_3_code 136 = .ok (.putfield 15, 3) := zo_181 (d := 0) (e := 15) (zd_b zq_prog_11_method_3_code_4 8 rfl rfl rfl) (zd_b zq_prog_11_method_3_code_4 9 rfl rfl rfl) (zd_b zq_prog_11_method_3_code_4 10 rfl rfl rfl)
theorem fp_Re_15 : z_fp "Ironpour$Recipe" 15 9 1 false .int := ⟨R_Re, "Ironpour$Recipe", F_Re, 3, t_Re, rfl, u_Re, by decide, t_Re_ok, n_Re, rfl, rfl, Or.inl ⟨z_mj2 (i := 26) rfl (by decide +kernel), Or.inl rfl, fun h => nomatch h⟩⟩
theorem d_Re_search_139 : decode prog_11_method_3_code 139 = .ok (.aload_n 0, 1) := zo_42 (zd_b zq_prog_11_method_3_code_4 11 rfl rfl rfl)
theorem d_Re_search_140 : decode prog_11_method_3_code 140 = .ok (.iconst 1, 1) := zo_4 (zd_b zq_prog_11_method_3_code_4 12 rfl rfl rfl)
theorem d_Re_search_141 : decode prog_11_method_3_code 141 = .ok (.putfield 22, 3) := zo_181 (d := 0) (e := 22) (zd_b zq_prog_11_method_3_code_4 13 rfl rfl rfl) (zd_b zq_prog_11_method_3_code_4 14 rfl rfl rfl) (zd_b zq_prog_11_method_3_code_4 15 rfl rfl rfl)
theorem fp_Re_22 : z_fp "Ironpour$Recipe" 22 9 2 false .boolean := ⟨R_Re, "Ironpour$Recipe", F_Re, 3, t_Re, rfl, u_Re, by decide, t_Re_ok, n_Re, rfl, rfl, Or.inl ⟨z_mj2 (i := 28) rfl (by decide +kernel), Or.inl rfl, fun h => nomatch h⟩⟩
theorem d_Re_search_116 : decode prog_11_method_3_code 116 = .ok (.iload 11, 2) := zo_21 (d := 11) (zd_b zq_prog_11_method_3_code_3 20 rfl rfl rfl) (zd_b zq_prog_11_method_3_code_3 21 rfl rfl rfl)
theorem d_Re_search_118 : decode prog_11_method_3_code 118 = .ok (.iload 7, 2) := zo_21 (d := 7) (zd_b zq_prog_11_method_3_code_3 22 rfl rfl rfl) (zd_b zq_prog_11_method_3_code_3 23 rfl rfl rfl)
theorem d_Re_search_120 : decode prog_11_method_3_code 120 = .ok (.if_icmp .ge 24, 3) := zo_162 (d := 0) (e := 24) (zd_b zq_prog_11_method_3_code_3 24 rfl rfl rfl) (zd_b zq_prog_11_method_3_code_3 25 rfl rfl rfl) (zd_b zq_prog_11_method_3_code_3 26 rfl rfl rfl) (by decide +kernel)
theorem d_Re_search_7 : decode prog_11_method_3_code 7 = .ok (.iload 8, 2) := zo_21 (d := 8) (zd_b zq_prog_11_method_3_code_0 7 rfl rfl rfl) (zd_b zq_prog_11_method_3_code_0 8 rfl rfl rfl)
theorem d_Re_search_9 : decode prog_11_method_3_code 9 = .ok (.ifCond .lt 147, 3) := zo_155 (d := 0) (e := 147) (zd_b zq_prog_11_method_3_code_0 9 rfl rfl rfl) (zd_b zq_prog_11_method_3_code_0 10 rfl rfl rfl) (zd_b zq_prog_11_method_3_code_0 11 rfl rfl rfl) (by decide +kernel)
theorem d_Re_search_156 : decode prog_11_method_3_code 156 = .ok (.iload 7, 2) := zo_21 (d := 7) (zd_b zq_prog_11_method_3_code_4 28 rfl rfl rfl) (zd_b zq_prog_11_method_3_code_4 29 rfl rfl rfl)
theorem d_Re_search_158 : decode prog_11_method_3_code 158 = .ok (.ireturn, 1) := zo_172 (zd_b zq_prog_11_method_3_code_4 30 rfl rfl rfl)
theorem d_Re_search_12 : decode prog_11_method_3_code 12 = .ok (.iconst 0, 1) := zo_3 (zd_b zq_prog_11_method_3_code_0 12 rfl rfl rfl)
theorem d_Re_search_13 : decode prog_11_method_3_code 13 = .ok (.istore 9, 2) := zo_54 (d := 9) (zd_b zq_prog_11_method_3_code_0 13 rfl rfl rfl) (zd_b zq_prog_11_method_3_code_0 14 rfl rfl rfl)
theorem d_Re_search_150 : decode prog_11_method_3_code 150 = .ok (.iinc 8 (-10), 3) := by decide +kernel
theorem d_Re_search_153 : decode prog_11_method_3_code 153 = .ok (.goto (-146), 3) := zo_167 (d := 255) (e := 110) (zd_b zq_prog_11_method_3_code_4 25 rfl rfl rfl) (zd_b zq_prog_11_method_3_code_4 26 rfl rfl rfl) (zd_b zq_prog_11_method_3_code_4 27 rfl rfl rfl) (by decide +kernel)
theorem d_Re_search_0 : decode prog_11_method_3_code 0 = .ok (.iconst (-1), 1) := zo_2 (zd_b zq_prog_11_method_3_code_0 0 rfl rfl rfl)
theorem d_Re_search_1 : decode prog_11_method_3_code 1 = .ok (.istore 7, 2) := zo_54 (d := 7) (zd_b zq_prog_11_method_3_code_0 1 rfl rfl rfl) (zd_b zq_prog_11_method_3_code_0 2 rfl rfl rfl)
theorem d_Re_search_3 : decode prog_11_method_3_code 3 = .ok (.bipush 100, 2) := zo_16 (d := 100) (zd_b zq_prog_11_method_3_code_0 3 rfl rfl rfl) (zd_b zq_prog_11_method_3_code_0 4 rfl rfl rfl) (by decide +kernel)
theorem d_Re_search_5 : decode prog_11_method_3_code 5 = .ok (.istore 8, 2) := zo_54 (d := 8) (zd_b zq_prog_11_method_3_code_0 5 rfl rfl rfl) (zd_b zq_prog_11_method_3_code_0 6 rfl rfl rfl)
set_option maxHeartbeats 4000000 in
set_option maxRecDepth 100000 in
theorem L_Re_search_15 (g : zG) (a : Nat) (p0 a0 f0 : Int32) (le mo si pp ps pa : Int32) (w0 : zW) (n : Nat) (k : Nat) (hk : k < 11) (K : DV g M_Re_search (fun o cs1 => o = .inl (some (.int ((rcO le mo si pp ps pa (-1, p0, a0, f0) 11).1))) ∧ cs1 = [(a, .inr (9, [.int ((rcO le mo si pp ps pa (-1, p0, a0, f0) 11).2.1), .int ((rcO le mo si pp ps pa (-1, p0, a0, f0) 11).2.2.1), .int ((rcO le mo si pp ps pa (-1, p0, a0, f0) 11).2.2.2)]))]) w0 n 150 [(9, .int (nI (nA (100 - 10 * k)))), (7, .int ((rcR le mo si pp ps pa (100 - 10 * k) (rcO le mo si pp ps pa (-1, p0, a0, f0) k) (nA (100 - 10 * k))).1)), (8, .int (nI (100 - 10 * k))), (6, .int pa), (5, .int ps), (4, .int pp), (3, .int si), (2, .int mo), (1, .int le), (0, .ref a)] [] [(a, .inr (9, [.int ((rcR le mo si pp ps pa (100 - 10 * k) (rcO le mo si pp ps pa (-1, p0, a0, f0) k) (nA (100 - 10 * k))).2.1), .int ((rcR le mo si pp ps pa (100 - 10 * k) (rcO le mo si pp ps pa (-1, p0, a0, f0) k) (nA (100 - 10 * k))).2.2.1), .int ((rcR le mo si pp ps pa (100 - 10 * k) (rcO le mo si pp ps pa (-1, p0, a0, f0) k) (nA (100 - 10 * k))).2.2.2)]))] 0 0) : ∀ (d i : Nat), i ≤ nA (100 - 10 * k) → nA (100 - 10 * k) < i + d → DV g M_Re_search (fun o cs1 => o = .inl (some (.int ((rcO le mo si pp ps pa (-1, p0, a0, f0) 11).1))) ∧ cs1 = [(a, .inr (9, [.int ((rcO le mo si pp ps pa (-1, p0, a0, f0) 11).2.1), .int ((rcO le mo si pp ps pa (-1, p0, a0, f0) 11).2.2.1), .int ((rcO le mo si pp ps pa (-1, p0, a0, f0) 11).2.2.2)]))]) w0 n 15 [(9, .int (nI i)), (7, .int ((rcR le mo si pp ps pa (100 - 10 * k) (rcO le mo si pp ps pa (-1, p0, a0, f0) k) i).1)), (8, .int (nI (100 - 10 * k))), (6, .int pa), (5, .int ps), (4, .int pp), (3, .int si), (2, .int mo), (1, .int le), (0, .ref a)] [] [(a, .inr (9, [.int ((rcR le mo si pp ps pa (100 - 10 * k) (rcO le mo si pp ps pa (-1, p0, a0, f0) k) i).2.1), .int ((rcR le mo si pp ps pa (100 - 10 * k) (rcO le mo si pp ps pa (-1, p0, a0, f0) k) i).2.2.1), .int ((rcR le mo si pp ps pa (100 - 10 * k) (rcO le mo si pp ps pa (-1, p0, a0, f0) k) i).2.2.2)]))] 0 0 := by
  intro d
  induction d with
  | zero => intro i h1 h2 ; exact absurd h2 (by omega)
  | succ d ih =>
    intro i h1 h2 
    refine r_iload d_Re_search_15 0 rfl ?_
    refine r_bipush d_Re_search_17 (v := 10) (by decide) ?_
    refine r_icmp_gt (tgt := 150) d_Re_search_19 (by decide) (fun c_19 => ?_) (fun c_19 => ?_)
    · have hn := z_lt (a := 10) (by unfold nA at h1; split at h1 <;> omega) (by decide) c_19
      have hx : i = nA (100 - 10 * k) := by rcases nA_c (100 - 10 * k) with ⟨q1, q2⟩ | ⟨q1, q2⟩ <;> omega
      refine r_lvE (lv2 := [(9, .int (nI (nA (100 - 10 * k)))), (7, .int ((rcR le mo si pp ps pa (100 - 10 * k) (rcO le mo si pp ps pa (-1, p0, a0, f0) k) (nA (100 - 10 * k))).1)), (8, .int (nI (100 - 10 * k))), (6, .int pa), (5, .int ps), (4, .int pp), (3, .int si), (2, .int mo), (1, .int le), (0, .ref a)]) (by rw [hx]) ?_
      refine r_cs (cs2 := [(a, .inr (9, [.int ((rcR le mo si pp ps pa (100 - 10 * k) (rcO le mo si pp ps pa (-1, p0, a0, f0) k) (nA (100 - 10 * k))).2.1), .int ((rcR le mo si pp ps pa (100 - 10 * k) (rcO le mo si pp ps pa (-1, p0, a0, f0) k) (nA (100 - 10 * k))).2.2.1), .int ((rcR le mo si pp ps pa (100 - 10 * k) (rcO le mo si pp ps pa (-1, p0, a0, f0) k) (nA (100 - 10 * k))).2.2.2)]))]) (by rw [hx]) ?_
      exact K
    · have hn := z_nlt (a := 10) (by unfold nA at h1; split at h1 <;> omega) (by decide) c_19
      refine r_iload d_Re_search_22 2 rfl ?_
      refine r_iload d_Re_search_24 0 rfl ?_
      refine r_iadd d_Re_search_26 (v := nI ((100 - 10 * k) + i)) (nI_add _ _) ?_
      refine r_bipush d_Re_search_27 (v := 100) (by decide) ?_
      refine r_icmp_gt (tgt := 150) d_Re_search_29 (by decide) (fun c_29 => ?_) (fun c_29 => ?_)
      · have hm := z_lt (a := 100) (by omega) (by decide) c_29
        have hx : i = nA (100 - 10 * k) := by rcases nA_c (100 - 10 * k) with ⟨q1, q2⟩ | ⟨q1, q2⟩ <;> omega
        refine r_lvE (lv2 := [(9, .int (nI (nA (100 - 10 * k)))), (7, .int ((rcR le mo si pp ps pa (100 - 10 * k) (rcO le mo si pp ps pa (-1, p0, a0, f0) k) (nA (100 - 10 * k))).1)), (8, .int (nI (100 - 10 * k))), (6, .int pa), (5, .int ps), (4, .int pp), (3, .int si), (2, .int mo), (1, .int le), (0, .ref a)]) (by rw [hx]) ?_
        refine r_cs (cs2 := [(a, .inr (9, [.int ((rcR le mo si pp ps pa (100 - 10 * k) (rcO le mo si pp ps pa (-1, p0, a0, f0) k) (nA (100 - 10 * k))).2.1), .int ((rcR le mo si pp ps pa (100 - 10 * k) (rcO le mo si pp ps pa (-1, p0, a0, f0) k) (nA (100 - 10 * k))).2.2.1), .int ((rcR le mo si pp ps pa (100 - 10 * k) (rcO le mo si pp ps pa (-1, p0, a0, f0) k) (nA (100 - 10 * k))).2.2.2)]))]) (by rw [hx]) ?_
        exact K
      · have hm := z_nlt (a := 100) (by omega) (by decide) c_29
        have hlt : i < nA (100 - 10 * k) := by unfold nA; split <;> omega
        refine r_bipush d_Re_search_32 (v := 100) (by decide) ?_
        refine r_iload d_Re_search_34 2 rfl ?_
        refine r_isub d_Re_search_36 (v := nI (100 - (100 - 10 * k))) (pk_sub (a := 100) (by omega)) ?_
        refine r_iload d_Re_search_37 0 rfl ?_
        refine r_isub d_Re_search_39 (v := nI (100 - (100 - 10 * k) - i)) (pk_sub (by omega)) ?_
        refine r_istore (lv' := [(10, .int (nI (100 - (100 - 10 * k) - i))), (9, .int (nI i)), (7, .int ((rcR le mo si pp ps pa (100 - 10 * k) (rcO le mo si pp ps pa (-1, p0, a0, f0) k) i).1)), (8, .int (nI (100 - 10 * k))), (6, .int pa), (5, .int ps), (4, .int pp), (3, .int si), (2, .int mo), (1, .int le), (0, .ref a)]) d_Re_search_40 (by decide) rfl ?_
        refine r_iload d_Re_search_42 3 rfl ?_
        refine r_iload d_Re_search_44 6 rfl ?_
        refine r_imul d_Re_search_46 (v := (nI (100 - 10 * k)) * pp) rfl ?_
        refine r_iload d_Re_search_47 0 rfl ?_
        refine r_iload d_Re_search_49 5 rfl ?_
        refine r_imul d_Re_search_51 (v := (nI (100 - (100 - 10 * k) - i)) * ps) rfl ?_
        refine r_iadd d_Re_search_52 (v := ((nI (100 - 10 * k)) * pp) + ((nI (100 - (100 - 10 * k) - i)) * ps)) rfl ?_
        refine r_iload d_Re_search_53 1 rfl ?_
        refine r_iload d_Re_search_55 4 rfl ?_
        refine r_imul d_Re_search_57 (v := (nI i) * pa) rfl ?_
        refine r_iadd d_Re_search_58 (v := prS pp ps pa (100 - 10 * k) i) rfl ?_
        refine r_istore (lv' := [(11, .int (prS pp ps pa (100 - 10 * k) i)), (10, .int (nI (100 - (100 - 10 * k) - i))), (9, .int (nI i)), (7, .int ((rcR le mo si pp ps pa (100 - 10 * k) (rcO le mo si pp ps pa (-1, p0, a0, f0) k) i).1)), (8, .int (nI (100 - 10 * k))), (6, .int pa), (5, .int ps), (4, .int pp), (3, .int si), (2, .int mo), (1, .int le), (0, .ref a)]) d_Re_search_59 (by decide) rfl ?_
        refine r_iconst d_Re_search_61 (v := 0) (by decide) ?_
        refine r_iload d_Re_search_62 4 rfl ?_
        refine r_iload d_Re_search_64 1 rfl ?_
        refine r_iload d_Re_search_66 2 rfl ?_
        refine r_callS (As := [.int 0, .int (nI (100 - 10 * k)), .int (nI (100 - (100 - 10 * k) - i)), .int (nI i)]) (rest := []) (csC := []) (is := []) ln_Re_18 w_st_Re_contentOf ok_Re_search_Re_contentOf d_Re_search_68 (C_Re_contentOf g 0 (by decide) (nI (100 - 10 * k)) (nI (100 - (100 - 10 * k) - i)) (nI i)) rfl rfl (Nat.le_of_ble_eq_true rfl) rfl (by decide) (by omega) (by omega) (fun E cs1 hx => ?_) (fun v cs1 hx => ?_)
        · exact absurd hx.1 (by simp)
        · obtain ⟨e1, rfl⟩ := hx
          cases e1
          refine ⟨rfl, ?_⟩
          refine r_st (st2 := [.int (ctS 0 (nI (100 - 10 * k)) (nI (100 - (100 - 10 * k) - i)) (nI i))]) rfl ?_
          refine r_cs (cs2 := [(a, .inr (9, [.int ((rcR le mo si pp ps pa (100 - 10 * k) (rcO le mo si pp ps pa (-1, p0, a0, f0) k) i).2.1), .int ((rcR le mo si pp ps pa (100 - 10 * k) (rcO le mo si pp ps pa (-1, p0, a0, f0) k) i).2.2.1), .int ((rcR le mo si pp ps pa (100 - 10 * k) (rcO le mo si pp ps pa (-1, p0, a0, f0) k) i).2.2.2)]))]) rfl ?_
          refine r_istore (lv' := [(12, .int (ctS 0 (nI (100 - 10 * k)) (nI (100 - (100 - 10 * k) - i)) (nI i))), (11, .int (prS pp ps pa (100 - 10 * k) i)), (10, .int (nI (100 - (100 - 10 * k) - i))), (9, .int (nI i)), (7, .int ((rcR le mo si pp ps pa (100 - 10 * k) (rcO le mo si pp ps pa (-1, p0, a0, f0) k) i).1)), (8, .int (nI (100 - 10 * k))), (6, .int pa), (5, .int ps), (4, .int pp), (3, .int si), (2, .int mo), (1, .int le), (0, .ref a)]) d_Re_search_71 (by decide) rfl ?_
          refine r_iload d_Re_search_73 0 rfl ?_
          refine r_iload_n d_Re_search_75 rfl 11 rfl ?_
          refine r_icmp_lt (tgt := 103) d_Re_search_76 (by decide) (fun c_76 => ?_) (fun c_76 => ?_)
          · refine r_iconst d_Re_search_103 (v := 0) (by decide) ?_
            refine r_istore (lv' := [(13, .int 0), (12, .int (ctS 0 (nI (100 - 10 * k)) (nI (100 - (100 - 10 * k) - i)) (nI i))), (11, .int (prS pp ps pa (100 - 10 * k) i)), (10, .int (nI (100 - (100 - 10 * k) - i))), (9, .int (nI i)), (7, .int ((rcR le mo si pp ps pa (100 - 10 * k) (rcO le mo si pp ps pa (-1, p0, a0, f0) k) i).1)), (8, .int (nI (100 - 10 * k))), (6, .int pa), (5, .int ps), (4, .int pp), (3, .int si), (2, .int mo), (1, .int le), (0, .ref a)]) d_Re_search_104 (by decide) rfl ?_
            refine r_iload d_Re_search_106 0 rfl ?_
            refine r_if_eq (tgt := 144) d_Re_search_108 (by decide) (fun c_108 => ?_) (fun c_108 => ?_)
            · refine r_iinc (lv' := [(9, .int (nI (i + 1))), (13, .int 0), (12, .int (ctS 0 (nI (100 - 10 * k)) (nI (100 - (100 - 10 * k) - i)) (nI i))), (11, .int (prS pp ps pa (100 - 10 * k) i)), (10, .int (nI (100 - (100 - 10 * k) - i))), (7, .int ((rcR le mo si pp ps pa (100 - 10 * k) (rcO le mo si pp ps pa (-1, p0, a0, f0) k) i).1)), (8, .int (nI (100 - 10 * k))), (6, .int pa), (5, .int ps), (4, .int pp), (3, .int si), (2, .int mo), (1, .int le), (0, .ref a)]) (v := nI (i + 1)) d_Re_search_144 (j := 4) rfl (nI_add _ _) (by decide) rfl ?_
              refine r_goto (tgt := 15) d_Re_search_147 (by decide) ?_
              refine r_lv (lv' := [(9, .int (nI (i + 1))), (7, .int ((rcR le mo si pp ps pa (100 - 10 * k) (rcO le mo si pp ps pa (-1, p0, a0, f0) k) i).1)), (8, .int (nI (100 - 10 * k))), (6, .int pa), (5, .int ps), (4, .int pp), (3, .int si), (2, .int mo), (1, .int le), (0, .ref a)]) [0, 5, 6, 7, 8, 9, 10, 11, 12, 13] rfl ?_
              refine r_lvE (lv2 := [(9, .int (nI (i + 1))), (7, .int ((rcR le mo si pp ps pa (100 - 10 * k) (rcO le mo si pp ps pa (-1, p0, a0, f0) k) (i + 1)).1)), (8, .int (nI (100 - 10 * k))), (6, .int pa), (5, .int ps), (4, .int pp), (3, .int si), (2, .int mo), (1, .int le), (0, .ref a)]) (by first | (rw [rcR, rcI_t ⟨⟨c_76, c_82, c_96⟩, Or.inl c_113⟩] <;> rfl) | (rw [rcR, rcI_t ⟨⟨c_76, c_82, c_96⟩, Or.inr c_120⟩] <;> rfl) | (rw [rcR, rcI_f (fun h => h.1.1 c_76)] <;> rfl) | (rw [rcR, rcI_f (fun h => h.1.2.1 c_82)] <;> rfl) | (rw [rcR, rcI_f (fun h => h.1.2.2 c_96)] <;> rfl) | (rw [rcR, rcI_f (fun h => h.2.elim c_113 (fun q => q c_120))] <;> rfl)) ?_
              refine r_cs (cs2 := [(a, .inr (9, [.int ((rcR le mo si pp ps pa (100 - 10 * k) (rcO le mo si pp ps pa (-1, p0, a0, f0) k) (i + 1)).2.1), .int ((rcR le mo si pp ps pa (100 - 10 * k) (rcO le mo si pp ps pa (-1, p0, a0, f0) k) (i + 1)).2.2.1), .int ((rcR le mo si pp ps pa (100 - 10 * k) (rcO le mo si pp ps pa (-1, p0, a0, f0) k) (i + 1)).2.2.2)]))]) (by first | (rw [rcR, rcI_t ⟨⟨c_76, c_82, c_96⟩, Or.inl c_113⟩] <;> rfl) | (rw [rcR, rcI_t ⟨⟨c_76, c_82, c_96⟩, Or.inr c_120⟩] <;> rfl) | (rw [rcR, rcI_f (fun h => h.1.1 c_76)] <;> rfl) | (rw [rcR, rcI_f (fun h => h.1.2.1 c_82)] <;> rfl) | (rw [rcR, rcI_f (fun h => h.1.2.2 c_96)] <;> rfl) | (rw [rcR, rcI_f (fun h => h.2.elim c_113 (fun q => q c_120))] <;> rfl)) ?_
              exact ih (i + 1) (by omega) (by omega)
            · exact absurd c_108 (by decide)
          · refine r_iload d_Re_search_79 0 rfl ?_
            refine r_iload_n d_Re_search_81 rfl 10 rfl ?_
            refine r_icmp_gt (tgt := 103) d_Re_search_82 (by decide) (fun c_82 => ?_) (fun c_82 => ?_)
            · refine r_iconst d_Re_search_103 (v := 0) (by decide) ?_
              refine r_istore (lv' := [(13, .int 0), (12, .int (ctS 0 (nI (100 - 10 * k)) (nI (100 - (100 - 10 * k) - i)) (nI i))), (11, .int (prS pp ps pa (100 - 10 * k) i)), (10, .int (nI (100 - (100 - 10 * k) - i))), (9, .int (nI i)), (7, .int ((rcR le mo si pp ps pa (100 - 10 * k) (rcO le mo si pp ps pa (-1, p0, a0, f0) k) i).1)), (8, .int (nI (100 - 10 * k))), (6, .int pa), (5, .int ps), (4, .int pp), (3, .int si), (2, .int mo), (1, .int le), (0, .ref a)]) d_Re_search_104 (by decide) rfl ?_
              refine r_iload d_Re_search_106 0 rfl ?_
              refine r_if_eq (tgt := 144) d_Re_search_108 (by decide) (fun c_108 => ?_) (fun c_108 => ?_)
              · refine r_iinc (lv' := [(9, .int (nI (i + 1))), (13, .int 0), (12, .int (ctS 0 (nI (100 - 10 * k)) (nI (100 - (100 - 10 * k) - i)) (nI i))), (11, .int (prS pp ps pa (100 - 10 * k) i)), (10, .int (nI (100 - (100 - 10 * k) - i))), (7, .int ((rcR le mo si pp ps pa (100 - 10 * k) (rcO le mo si pp ps pa (-1, p0, a0, f0) k) i).1)), (8, .int (nI (100 - 10 * k))), (6, .int pa), (5, .int ps), (4, .int pp), (3, .int si), (2, .int mo), (1, .int le), (0, .ref a)]) (v := nI (i + 1)) d_Re_search_144 (j := 4) rfl (nI_add _ _) (by decide) rfl ?_
                refine r_goto (tgt := 15) d_Re_search_147 (by decide) ?_
                refine r_lv (lv' := [(9, .int (nI (i + 1))), (7, .int ((rcR le mo si pp ps pa (100 - 10 * k) (rcO le mo si pp ps pa (-1, p0, a0, f0) k) i).1)), (8, .int (nI (100 - 10 * k))), (6, .int pa), (5, .int ps), (4, .int pp), (3, .int si), (2, .int mo), (1, .int le), (0, .ref a)]) [0, 5, 6, 7, 8, 9, 10, 11, 12, 13] rfl ?_
                refine r_lvE (lv2 := [(9, .int (nI (i + 1))), (7, .int ((rcR le mo si pp ps pa (100 - 10 * k) (rcO le mo si pp ps pa (-1, p0, a0, f0) k) (i + 1)).1)), (8, .int (nI (100 - 10 * k))), (6, .int pa), (5, .int ps), (4, .int pp), (3, .int si), (2, .int mo), (1, .int le), (0, .ref a)]) (by first | (rw [rcR, rcI_t ⟨⟨c_76, c_82, c_96⟩, Or.inl c_113⟩] <;> rfl) | (rw [rcR, rcI_t ⟨⟨c_76, c_82, c_96⟩, Or.inr c_120⟩] <;> rfl) | (rw [rcR, rcI_f (fun h => h.1.1 c_76)] <;> rfl) | (rw [rcR, rcI_f (fun h => h.1.2.1 c_82)] <;> rfl) | (rw [rcR, rcI_f (fun h => h.1.2.2 c_96)] <;> rfl) | (rw [rcR, rcI_f (fun h => h.2.elim c_113 (fun q => q c_120))] <;> rfl)) ?_
                refine r_cs (cs2 := [(a, .inr (9, [.int ((rcR le mo si pp ps pa (100 - 10 * k) (rcO le mo si pp ps pa (-1, p0, a0, f0) k) (i + 1)).2.1), .int ((rcR le mo si pp ps pa (100 - 10 * k) (rcO le mo si pp ps pa (-1, p0, a0, f0) k) (i + 1)).2.2.1), .int ((rcR le mo si pp ps pa (100 - 10 * k) (rcO le mo si pp ps pa (-1, p0, a0, f0) k) (i + 1)).2.2.2)]))]) (by first | (rw [rcR, rcI_t ⟨⟨c_76, c_82, c_96⟩, Or.inl c_113⟩] <;> rfl) | (rw [rcR, rcI_t ⟨⟨c_76, c_82, c_96⟩, Or.inr c_120⟩] <;> rfl) | (rw [rcR, rcI_f (fun h => h.1.1 c_76)] <;> rfl) | (rw [rcR, rcI_f (fun h => h.1.2.1 c_82)] <;> rfl) | (rw [rcR, rcI_f (fun h => h.1.2.2 c_96)] <;> rfl) | (rw [rcR, rcI_f (fun h => h.2.elim c_113 (fun q => q c_120))] <;> rfl)) ?_
                exact ih (i + 1) (by omega) (by omega)
              · exact absurd c_108 (by decide)
            · refine r_iconst d_Re_search_85 (v := 1) (by decide) ?_
              refine r_iload d_Re_search_86 5 rfl ?_
              refine r_iload d_Re_search_88 2 rfl ?_
              refine r_iload d_Re_search_90 3 rfl ?_
              refine r_callS (As := [.int 1, .int (nI (100 - 10 * k)), .int (nI (100 - (100 - 10 * k) - i)), .int (nI i)]) (rest := []) (csC := []) (is := []) ln_Re_18 w_st_Re_contentOf ok_Re_search_Re_contentOf d_Re_search_92 (C_Re_contentOf g 1 (by decide) (nI (100 - 10 * k)) (nI (100 - (100 - 10 * k) - i)) (nI i)) rfl rfl (Nat.le_of_ble_eq_true rfl) rfl (by decide) (by omega) (by omega) (fun E cs1 hx => ?_) (fun v cs1 hx => ?_)
              · exact absurd hx.1 (by simp)
              · obtain ⟨e1, rfl⟩ := hx
                cases e1
                refine ⟨rfl, ?_⟩
                refine r_st (st2 := [.int (ctS 1 (nI (100 - 10 * k)) (nI (100 - (100 - 10 * k) - i)) (nI i))]) rfl ?_
                refine r_cs (cs2 := [(a, .inr (9, [.int ((rcR le mo si pp ps pa (100 - 10 * k) (rcO le mo si pp ps pa (-1, p0, a0, f0) k) i).2.1), .int ((rcR le mo si pp ps pa (100 - 10 * k) (rcO le mo si pp ps pa (-1, p0, a0, f0) k) i).2.2.1), .int ((rcR le mo si pp ps pa (100 - 10 * k) (rcO le mo si pp ps pa (-1, p0, a0, f0) k) i).2.2.2)]))]) rfl ?_
                refine r_iload_n d_Re_search_95 rfl 9 rfl ?_
                refine r_icmp_lt (tgt := 103) d_Re_search_96 (by decide) (fun c_96 => ?_) (fun c_96 => ?_)
                · refine r_iconst d_Re_search_103 (v := 0) (by decide) ?_
                  refine r_istore (lv' := [(13, .int 0), (12, .int (ctS 0 (nI (100 - 10 * k)) (nI (100 - (100 - 10 * k) - i)) (nI i))), (11, .int (prS pp ps pa (100 - 10 * k) i)), (10, .int (nI (100 - (100 - 10 * k) - i))), (9, .int (nI i)), (7, .int ((rcR le mo si pp ps pa (100 - 10 * k) (rcO le mo si pp ps pa (-1, p0, a0, f0) k) i).1)), (8, .int (nI (100 - 10 * k))), (6, .int pa), (5, .int ps), (4, .int pp), (3, .int si), (2, .int mo), (1, .int le), (0, .ref a)]) d_Re_search_104 (by decide) rfl ?_
                  refine r_iload d_Re_search_106 0 rfl ?_
                  refine r_if_eq (tgt := 144) d_Re_search_108 (by decide) (fun c_108 => ?_) (fun c_108 => ?_)
                  · refine r_iinc (lv' := [(9, .int (nI (i + 1))), (13, .int 0), (12, .int (ctS 0 (nI (100 - 10 * k)) (nI (100 - (100 - 10 * k) - i)) (nI i))), (11, .int (prS pp ps pa (100 - 10 * k) i)), (10, .int (nI (100 - (100 - 10 * k) - i))), (7, .int ((rcR le mo si pp ps pa (100 - 10 * k) (rcO le mo si pp ps pa (-1, p0, a0, f0) k) i).1)), (8, .int (nI (100 - 10 * k))), (6, .int pa), (5, .int ps), (4, .int pp), (3, .int si), (2, .int mo), (1, .int le), (0, .ref a)]) (v := nI (i + 1)) d_Re_search_144 (j := 4) rfl (nI_add _ _) (by decide) rfl ?_
                    refine r_goto (tgt := 15) d_Re_search_147 (by decide) ?_
                    refine r_lv (lv' := [(9, .int (nI (i + 1))), (7, .int ((rcR le mo si pp ps pa (100 - 10 * k) (rcO le mo si pp ps pa (-1, p0, a0, f0) k) i).1)), (8, .int (nI (100 - 10 * k))), (6, .int pa), (5, .int ps), (4, .int pp), (3, .int si), (2, .int mo), (1, .int le), (0, .ref a)]) [0, 5, 6, 7, 8, 9, 10, 11, 12, 13] rfl ?_
                    refine r_lvE (lv2 := [(9, .int (nI (i + 1))), (7, .int ((rcR le mo si pp ps pa (100 - 10 * k) (rcO le mo si pp ps pa (-1, p0, a0, f0) k) (i + 1)).1)), (8, .int (nI (100 - 10 * k))), (6, .int pa), (5, .int ps), (4, .int pp), (3, .int si), (2, .int mo), (1, .int le), (0, .ref a)]) (by first | (rw [rcR, rcI_t ⟨⟨c_76, c_82, c_96⟩, Or.inl c_113⟩] <;> rfl) | (rw [rcR, rcI_t ⟨⟨c_76, c_82, c_96⟩, Or.inr c_120⟩] <;> rfl) | (rw [rcR, rcI_f (fun h => h.1.1 c_76)] <;> rfl) | (rw [rcR, rcI_f (fun h => h.1.2.1 c_82)] <;> rfl) | (rw [rcR, rcI_f (fun h => h.1.2.2 c_96)] <;> rfl) | (rw [rcR, rcI_f (fun h => h.2.elim c_113 (fun q => q c_120))] <;> rfl)) ?_
                    refine r_cs (cs2 := [(a, .inr (9, [.int ((rcR le mo si pp ps pa (100 - 10 * k) (rcO le mo si pp ps pa (-1, p0, a0, f0) k) (i + 1)).2.1), .int ((rcR le mo si pp ps pa (100 - 10 * k) (rcO le mo si pp ps pa (-1, p0, a0, f0) k) (i + 1)).2.2.1), .int ((rcR le mo si pp ps pa (100 - 10 * k) (rcO le mo si pp ps pa (-1, p0, a0, f0) k) (i + 1)).2.2.2)]))]) (by first | (rw [rcR, rcI_t ⟨⟨c_76, c_82, c_96⟩, Or.inl c_113⟩] <;> rfl) | (rw [rcR, rcI_t ⟨⟨c_76, c_82, c_96⟩, Or.inr c_120⟩] <;> rfl) | (rw [rcR, rcI_f (fun h => h.1.1 c_76)] <;> rfl) | (rw [rcR, rcI_f (fun h => h.1.2.1 c_82)] <;> rfl) | (rw [rcR, rcI_f (fun h => h.1.2.2 c_96)] <;> rfl) | (rw [rcR, rcI_f (fun h => h.2.elim c_113 (fun q => q c_120))] <;> rfl)) ?_
                    exact ih (i + 1) (by omega) (by omega)
                  · exact absurd c_108 (by decide)
                · refine r_iconst d_Re_search_99 (v := 1) (by decide) ?_
                  refine r_goto (tgt := 104) d_Re_search_100 (by decide) ?_
                  refine r_istore (lv' := [(13, .int 1), (12, .int (ctS 0 (nI (100 - 10 * k)) (nI (100 - (100 - 10 * k) - i)) (nI i))), (11, .int (prS pp ps pa (100 - 10 * k) i)), (10, .int (nI (100 - (100 - 10 * k) - i))), (9, .int (nI i)), (7, .int ((rcR le mo si pp ps pa (100 - 10 * k) (rcO le mo si pp ps pa (-1, p0, a0, f0) k) i).1)), (8, .int (nI (100 - 10 * k))), (6, .int pa), (5, .int ps), (4, .int pp), (3, .int si), (2, .int mo), (1, .int le), (0, .ref a)]) d_Re_search_104 (by decide) rfl ?_
                  refine r_iload d_Re_search_106 0 rfl ?_
                  refine r_if_eq (tgt := 144) d_Re_search_108 (by decide) (fun c_108 => ?_) (fun c_108 => ?_)
                  · exact absurd c_108 (by decide)
                  · refine r_iload d_Re_search_111 5 rfl ?_
                    refine r_if_lt (tgt := 123) d_Re_search_113 (by decide) (fun c_113 => ?_) (fun c_113 => ?_)
                    · refine r_iload d_Re_search_123 2 rfl ?_
                      refine r_istore (lv' := [(7, .int (prS pp ps pa (100 - 10 * k) i)), (13, .int 1), (12, .int (ctS 0 (nI (100 - 10 * k)) (nI (100 - (100 - 10 * k) - i)) (nI i))), (11, .int (prS pp ps pa (100 - 10 * k) i)), (10, .int (nI (100 - (100 - 10 * k) - i))), (9, .int (nI i)), (8, .int (nI (100 - 10 * k))), (6, .int pa), (5, .int ps), (4, .int pp), (3, .int si), (2, .int mo), (1, .int le), (0, .ref a)]) d_Re_search_125 (by decide) rfl ?_
                      refine r_aload_n d_Re_search_127 rfl 13 rfl ?_
                      refine r_iload d_Re_search_128 6 rfl ?_
                      refine r_put fp_Re_11 d_Re_search_130 (fun h => nomatch h) rfl rfl (q0 := 0) rfl (Nat.le_of_ble_eq_true rfl) (cs' := [(a, .inr (9, [.int (nI (100 - 10 * k)), .int ((rcR le mo si pp ps pa (100 - 10 * k) (rcO le mo si pp ps pa (-1, p0, a0, f0) k) i).2.2.1), .int ((rcR le mo si pp ps pa (100 - 10 * k) (rcO le mo si pp ps pa (-1, p0, a0, f0) k) i).2.2.2)]))]) rfl ?_
                      refine r_aload_n d_Re_search_133 rfl 13 rfl ?_
                      refine r_iload d_Re_search_134 5 rfl ?_
                      refine r_put fp_Re_15 d_Re_search_136 (fun h => nomatch h) rfl rfl (q0 := 0) rfl (Nat.le_of_ble_eq_true rfl) (cs' := [(a, .inr (9, [.int (nI (100 - 10 * k)), .int (nI i), .int ((rcR le mo si pp ps pa (100 - 10 * k) (rcO le mo si pp ps pa (-1, p0, a0, f0) k) i).2.2.2)]))]) rfl ?_
                      refine r_aload_n d_Re_search_139 rfl 13 rfl ?_
                      refine r_iconst d_Re_search_140 (v := 1) (by decide) ?_
                      refine r_put fp_Re_22 d_Re_search_141 (fun h => nomatch h) (by decide) (by decide) (q0 := 0) rfl (Nat.le_of_ble_eq_true rfl) (cs' := [(a, .inr (9, [.int (nI (100 - 10 * k)), .int (nI i), .int 1]))]) rfl ?_
                      refine r_iinc (lv' := [(9, .int (nI (i + 1))), (7, .int (prS pp ps pa (100 - 10 * k) i)), (13, .int 1), (12, .int (ctS 0 (nI (100 - 10 * k)) (nI (100 - (100 - 10 * k) - i)) (nI i))), (11, .int (prS pp ps pa (100 - 10 * k) i)), (10, .int (nI (100 - (100 - 10 * k) - i))), (8, .int (nI (100 - 10 * k))), (6, .int pa), (5, .int ps), (4, .int pp), (3, .int si), (2, .int mo), (1, .int le), (0, .ref a)]) (v := nI (i + 1)) d_Re_search_144 (j := 5) rfl (nI_add _ _) (by decide) rfl ?_
                      refine r_goto (tgt := 15) d_Re_search_147 (by decide) ?_
                      refine r_lv (lv' := [(9, .int (nI (i + 1))), (7, .int (prS pp ps pa (100 - 10 * k) i)), (8, .int (nI (100 - 10 * k))), (6, .int pa), (5, .int ps), (4, .int pp), (3, .int si), (2, .int mo), (1, .int le), (0, .ref a)]) [0, 1, 6, 7, 8, 9, 10, 11, 12, 13] rfl ?_
                      refine r_lvE (lv2 := [(9, .int (nI (i + 1))), (7, .int ((rcR le mo si pp ps pa (100 - 10 * k) (rcO le mo si pp ps pa (-1, p0, a0, f0) k) (i + 1)).1)), (8, .int (nI (100 - 10 * k))), (6, .int pa), (5, .int ps), (4, .int pp), (3, .int si), (2, .int mo), (1, .int le), (0, .ref a)]) (by first | (rw [rcR, rcI_t ⟨⟨c_76, c_82, c_96⟩, Or.inl c_113⟩] <;> rfl) | (rw [rcR, rcI_t ⟨⟨c_76, c_82, c_96⟩, Or.inr c_120⟩] <;> rfl) | (rw [rcR, rcI_f (fun h => h.1.1 c_76)] <;> rfl) | (rw [rcR, rcI_f (fun h => h.1.2.1 c_82)] <;> rfl) | (rw [rcR, rcI_f (fun h => h.1.2.2 c_96)] <;> rfl) | (rw [rcR, rcI_f (fun h => h.2.elim c_113 (fun q => q c_120))] <;> rfl)) ?_
                      refine r_cs (cs2 := [(a, .inr (9, [.int ((rcR le mo si pp ps pa (100 - 10 * k) (rcO le mo si pp ps pa (-1, p0, a0, f0) k) (i + 1)).2.1), .int ((rcR le mo si pp ps pa (100 - 10 * k) (rcO le mo si pp ps pa (-1, p0, a0, f0) k) (i + 1)).2.2.1), .int ((rcR le mo si pp ps pa (100 - 10 * k) (rcO le mo si pp ps pa (-1, p0, a0, f0) k) (i + 1)).2.2.2)]))]) (by first | (rw [rcR, rcI_t ⟨⟨c_76, c_82, c_96⟩, Or.inl c_113⟩] <;> rfl) | (rw [rcR, rcI_t ⟨⟨c_76, c_82, c_96⟩, Or.inr c_120⟩] <;> rfl) | (rw [rcR, rcI_f (fun h => h.1.1 c_76)] <;> rfl) | (rw [rcR, rcI_f (fun h => h.1.2.1 c_82)] <;> rfl) | (rw [rcR, rcI_f (fun h => h.1.2.2 c_96)] <;> rfl) | (rw [rcR, rcI_f (fun h => h.2.elim c_113 (fun q => q c_120))] <;> rfl)) ?_
                      exact ih (i + 1) (by omega) (by omega)
                    · refine r_iload d_Re_search_116 2 rfl ?_
                      refine r_iload d_Re_search_118 5 rfl ?_
                      refine r_icmp_ge (tgt := 144) d_Re_search_120 (by decide) (fun c_120 => ?_) (fun c_120 => ?_)
                      · refine r_iinc (lv' := [(9, .int (nI (i + 1))), (13, .int 1), (12, .int (ctS 0 (nI (100 - 10 * k)) (nI (100 - (100 - 10 * k) - i)) (nI i))), (11, .int (prS pp ps pa (100 - 10 * k) i)), (10, .int (nI (100 - (100 - 10 * k) - i))), (7, .int ((rcR le mo si pp ps pa (100 - 10 * k) (rcO le mo si pp ps pa (-1, p0, a0, f0) k) i).1)), (8, .int (nI (100 - 10 * k))), (6, .int pa), (5, .int ps), (4, .int pp), (3, .int si), (2, .int mo), (1, .int le), (0, .ref a)]) (v := nI (i + 1)) d_Re_search_144 (j := 4) rfl (nI_add _ _) (by decide) rfl ?_
                        refine r_goto (tgt := 15) d_Re_search_147 (by decide) ?_
                        refine r_lv (lv' := [(9, .int (nI (i + 1))), (7, .int ((rcR le mo si pp ps pa (100 - 10 * k) (rcO le mo si pp ps pa (-1, p0, a0, f0) k) i).1)), (8, .int (nI (100 - 10 * k))), (6, .int pa), (5, .int ps), (4, .int pp), (3, .int si), (2, .int mo), (1, .int le), (0, .ref a)]) [0, 5, 6, 7, 8, 9, 10, 11, 12, 13] rfl ?_
                        refine r_lvE (lv2 := [(9, .int (nI (i + 1))), (7, .int ((rcR le mo si pp ps pa (100 - 10 * k) (rcO le mo si pp ps pa (-1, p0, a0, f0) k) (i + 1)).1)), (8, .int (nI (100 - 10 * k))), (6, .int pa), (5, .int ps), (4, .int pp), (3, .int si), (2, .int mo), (1, .int le), (0, .ref a)]) (by first | (rw [rcR, rcI_t ⟨⟨c_76, c_82, c_96⟩, Or.inl c_113⟩] <;> rfl) | (rw [rcR, rcI_t ⟨⟨c_76, c_82, c_96⟩, Or.inr c_120⟩] <;> rfl) | (rw [rcR, rcI_f (fun h => h.1.1 c_76)] <;> rfl) | (rw [rcR, rcI_f (fun h => h.1.2.1 c_82)] <;> rfl) | (rw [rcR, rcI_f (fun h => h.1.2.2 c_96)] <;> rfl) | (rw [rcR, rcI_f (fun h => h.2.elim c_113 (fun q => q c_120))] <;> rfl)) ?_
                        refine r_cs (cs2 := [(a, .inr (9, [.int ((rcR le mo si pp ps pa (100 - 10 * k) (rcO le mo si pp ps pa (-1, p0, a0, f0) k) (i + 1)).2.1), .int ((rcR le mo si pp ps pa (100 - 10 * k) (rcO le mo si pp ps pa (-1, p0, a0, f0) k) (i + 1)).2.2.1), .int ((rcR le mo si pp ps pa (100 - 10 * k) (rcO le mo si pp ps pa (-1, p0, a0, f0) k) (i + 1)).2.2.2)]))]) (by first | (rw [rcR, rcI_t ⟨⟨c_76, c_82, c_96⟩, Or.inl c_113⟩] <;> rfl) | (rw [rcR, rcI_t ⟨⟨c_76, c_82, c_96⟩, Or.inr c_120⟩] <;> rfl) | (rw [rcR, rcI_f (fun h => h.1.1 c_76)] <;> rfl) | (rw [rcR, rcI_f (fun h => h.1.2.1 c_82)] <;> rfl) | (rw [rcR, rcI_f (fun h => h.1.2.2 c_96)] <;> rfl) | (rw [rcR, rcI_f (fun h => h.2.elim c_113 (fun q => q c_120))] <;> rfl)) ?_
                        exact ih (i + 1) (by omega) (by omega)
                      · refine r_iload d_Re_search_123 2 rfl ?_
                        refine r_istore (lv' := [(7, .int (prS pp ps pa (100 - 10 * k) i)), (13, .int 1), (12, .int (ctS 0 (nI (100 - 10 * k)) (nI (100 - (100 - 10 * k) - i)) (nI i))), (11, .int (prS pp ps pa (100 - 10 * k) i)), (10, .int (nI (100 - (100 - 10 * k) - i))), (9, .int (nI i)), (8, .int (nI (100 - 10 * k))), (6, .int pa), (5, .int ps), (4, .int pp), (3, .int si), (2, .int mo), (1, .int le), (0, .ref a)]) d_Re_search_125 (by decide) rfl ?_
                        refine r_aload_n d_Re_search_127 rfl 13 rfl ?_
                        refine r_iload d_Re_search_128 6 rfl ?_
                        refine r_put fp_Re_11 d_Re_search_130 (fun h => nomatch h) rfl rfl (q0 := 0) rfl (Nat.le_of_ble_eq_true rfl) (cs' := [(a, .inr (9, [.int (nI (100 - 10 * k)), .int ((rcR le mo si pp ps pa (100 - 10 * k) (rcO le mo si pp ps pa (-1, p0, a0, f0) k) i).2.2.1), .int ((rcR le mo si pp ps pa (100 - 10 * k) (rcO le mo si pp ps pa (-1, p0, a0, f0) k) i).2.2.2)]))]) rfl ?_
                        refine r_aload_n d_Re_search_133 rfl 13 rfl ?_
                        refine r_iload d_Re_search_134 5 rfl ?_
                        refine r_put fp_Re_15 d_Re_search_136 (fun h => nomatch h) rfl rfl (q0 := 0) rfl (Nat.le_of_ble_eq_true rfl) (cs' := [(a, .inr (9, [.int (nI (100 - 10 * k)), .int (nI i), .int ((rcR le mo si pp ps pa (100 - 10 * k) (rcO le mo si pp ps pa (-1, p0, a0, f0) k) i).2.2.2)]))]) rfl ?_
                        refine r_aload_n d_Re_search_139 rfl 13 rfl ?_
                        refine r_iconst d_Re_search_140 (v := 1) (by decide) ?_
                        refine r_put fp_Re_22 d_Re_search_141 (fun h => nomatch h) (by decide) (by decide) (q0 := 0) rfl (Nat.le_of_ble_eq_true rfl) (cs' := [(a, .inr (9, [.int (nI (100 - 10 * k)), .int (nI i), .int 1]))]) rfl ?_
                        refine r_iinc (lv' := [(9, .int (nI (i + 1))), (7, .int (prS pp ps pa (100 - 10 * k) i)), (13, .int 1), (12, .int (ctS 0 (nI (100 - 10 * k)) (nI (100 - (100 - 10 * k) - i)) (nI i))), (11, .int (prS pp ps pa (100 - 10 * k) i)), (10, .int (nI (100 - (100 - 10 * k) - i))), (8, .int (nI (100 - 10 * k))), (6, .int pa), (5, .int ps), (4, .int pp), (3, .int si), (2, .int mo), (1, .int le), (0, .ref a)]) (v := nI (i + 1)) d_Re_search_144 (j := 5) rfl (nI_add _ _) (by decide) rfl ?_
                        refine r_goto (tgt := 15) d_Re_search_147 (by decide) ?_
                        refine r_lv (lv' := [(9, .int (nI (i + 1))), (7, .int (prS pp ps pa (100 - 10 * k) i)), (8, .int (nI (100 - 10 * k))), (6, .int pa), (5, .int ps), (4, .int pp), (3, .int si), (2, .int mo), (1, .int le), (0, .ref a)]) [0, 1, 6, 7, 8, 9, 10, 11, 12, 13] rfl ?_
                        refine r_lvE (lv2 := [(9, .int (nI (i + 1))), (7, .int ((rcR le mo si pp ps pa (100 - 10 * k) (rcO le mo si pp ps pa (-1, p0, a0, f0) k) (i + 1)).1)), (8, .int (nI (100 - 10 * k))), (6, .int pa), (5, .int ps), (4, .int pp), (3, .int si), (2, .int mo), (1, .int le), (0, .ref a)]) (by first | (rw [rcR, rcI_t ⟨⟨c_76, c_82, c_96⟩, Or.inl c_113⟩] <;> rfl) | (rw [rcR, rcI_t ⟨⟨c_76, c_82, c_96⟩, Or.inr c_120⟩] <;> rfl) | (rw [rcR, rcI_f (fun h => h.1.1 c_76)] <;> rfl) | (rw [rcR, rcI_f (fun h => h.1.2.1 c_82)] <;> rfl) | (rw [rcR, rcI_f (fun h => h.1.2.2 c_96)] <;> rfl) | (rw [rcR, rcI_f (fun h => h.2.elim c_113 (fun q => q c_120))] <;> rfl)) ?_
                        refine r_cs (cs2 := [(a, .inr (9, [.int ((rcR le mo si pp ps pa (100 - 10 * k) (rcO le mo si pp ps pa (-1, p0, a0, f0) k) (i + 1)).2.1), .int ((rcR le mo si pp ps pa (100 - 10 * k) (rcO le mo si pp ps pa (-1, p0, a0, f0) k) (i + 1)).2.2.1), .int ((rcR le mo si pp ps pa (100 - 10 * k) (rcO le mo si pp ps pa (-1, p0, a0, f0) k) (i + 1)).2.2.2)]))]) (by first | (rw [rcR, rcI_t ⟨⟨c_76, c_82, c_96⟩, Or.inl c_113⟩] <;> rfl) | (rw [rcR, rcI_t ⟨⟨c_76, c_82, c_96⟩, Or.inr c_120⟩] <;> rfl) | (rw [rcR, rcI_f (fun h => h.1.1 c_76)] <;> rfl) | (rw [rcR, rcI_f (fun h => h.1.2.1 c_82)] <;> rfl) | (rw [rcR, rcI_f (fun h => h.1.2.2 c_96)] <;> rfl) | (rw [rcR, rcI_f (fun h => h.2.elim c_113 (fun q => q c_120))] <;> rfl)) ?_
                        exact ih (i + 1) (by omega) (by omega)
set_option maxHeartbeats 4000000 in
set_option maxRecDepth 100000 in
theorem L_Re_search_7 (g : zG) (a : Nat) (p0 a0 f0 : Int32) (le mo si pp ps pa : Int32) (w0 : zW) (n : Nat) : ∀ (d k : Nat), k ≤ 11 → 11 < k + d → DV g M_Re_search (fun o cs1 => o = .inl (some (.int ((rcO le mo si pp ps pa (-1, p0, a0, f0) 11).1))) ∧ cs1 = [(a, .inr (9, [.int ((rcO le mo si pp ps pa (-1, p0, a0, f0) 11).2.1), .int ((rcO le mo si pp ps pa (-1, p0, a0, f0) 11).2.2.1), .int ((rcO le mo si pp ps pa (-1, p0, a0, f0) 11).2.2.2)]))]) w0 n 7 [(7, .int ((rcO le mo si pp ps pa (-1, p0, a0, f0) k).1)), (8, .int (pgI k)), (6, .int pa), (5, .int ps), (4, .int pp), (3, .int si), (2, .int mo), (1, .int le), (0, .ref a)] [] [(a, .inr (9, [.int ((rcO le mo si pp ps pa (-1, p0, a0, f0) k).2.1), .int ((rcO le mo si pp ps pa (-1, p0, a0, f0) k).2.2.1), .int ((rcO le mo si pp ps pa (-1, p0, a0, f0) k).2.2.2)]))] 0 0 := by
  intro d
  induction d with
  | zero => intro k h1 h2 ; exact absurd h2 (by omega)
  | succ d ih =>
    intro k h1 h2 
    refine r_iload d_Re_search_7 1 rfl ?_
    refine r_if_lt (tgt := 156) d_Re_search_9 (by decide) (fun c_9 => ?_) (fun c_9 => ?_)
    · have hk := (pgI_neg k (by omega)).mp c_9
      obtain rfl : k = 11 := hk
      refine r_iload d_Re_search_156 0 rfl ?_
      refine r_iret d_Re_search_158 rfl rfl ?_
      exact ⟨rfl, rfl⟩
    · have hk : k < 11 := by have := mt (pgI_neg k (by omega)).mpr c_9; omega
      rw [pgI_n hk]
      refine r_iconst d_Re_search_12 (v := 0) (by decide) ?_
      refine r_istore (lv' := [(9, .int 0), (7, .int ((rcO le mo si pp ps pa (-1, p0, a0, f0) k).1)), (8, .int (nI (100 - 10 * k))), (6, .int pa), (5, .int ps), (4, .int pp), (3, .int si), (2, .int mo), (1, .int le), (0, .ref a)]) d_Re_search_13 (by decide) rfl ?_
      refine r_lvE (lv2 := [(9, .int (nI 0)), (7, .int ((rcR le mo si pp ps pa (100 - 10 * k) (rcO le mo si pp ps pa (-1, p0, a0, f0) k) 0).1)), (8, .int (nI (100 - 10 * k))), (6, .int pa), (5, .int ps), (4, .int pp), (3, .int si), (2, .int mo), (1, .int le), (0, .ref a)]) (rfl) ?_
      refine r_cs (cs2 := [(a, .inr (9, [.int ((rcR le mo si pp ps pa (100 - 10 * k) (rcO le mo si pp ps pa (-1, p0, a0, f0) k) 0).2.1), .int ((rcR le mo si pp ps pa (100 - 10 * k) (rcO le mo si pp ps pa (-1, p0, a0, f0) k) 0).2.2.1), .int ((rcR le mo si pp ps pa (100 - 10 * k) (rcO le mo si pp ps pa (-1, p0, a0, f0) k) 0).2.2.2)]))]) (rfl) ?_
      refine L_Re_search_15 g a p0 a0 f0 le mo si pp ps pa w0 _ k hk (?_) (nA (100 - 10 * k) + 1) 0 (Nat.zero_le _) (by omega)
      refine r_iinc (lv' := [(8, .int (pgI (k + 1))), (9, .int (nI (nA (100 - 10 * k)))), (7, .int ((rcR le mo si pp ps pa (100 - 10 * k) (rcO le mo si pp ps pa (-1, p0, a0, f0) k) (nA (100 - 10 * k))).1)), (6, .int pa), (5, .int ps), (4, .int pp), (3, .int si), (2, .int mo), (1, .int le), (0, .ref a)]) (v := pgI (k + 1)) d_Re_search_150 (j := 2) rfl (by rw [← pgI_n (by omega)]; exact pgI_s k (by omega)) (by decide) rfl ?_
      refine r_goto (tgt := 7) d_Re_search_153 (by decide) ?_
      refine r_lv (lv' := [(7, .int ((rcR le mo si pp ps pa (100 - 10 * k) (rcO le mo si pp ps pa (-1, p0, a0, f0) k) (nA (100 - 10 * k))).1)), (8, .int (pgI (k + 1))), (6, .int pa), (5, .int ps), (4, .int pp), (3, .int si), (2, .int mo), (1, .int le), (0, .ref a)]) [2, 0, 3, 4, 5, 6, 7, 8, 9] rfl ?_
      refine r_lvE (lv2 := [(7, .int ((rcO le mo si pp ps pa (-1, p0, a0, f0) (k + 1)).1)), (8, .int (pgI (k + 1))), (6, .int pa), (5, .int ps), (4, .int pp), (3, .int si), (2, .int mo), (1, .int le), (0, .ref a)]) (rfl) ?_
      refine r_cs (cs2 := [(a, .inr (9, [.int ((rcO le mo si pp ps pa (-1, p0, a0, f0) (k + 1)).2.1), .int ((rcO le mo si pp ps pa (-1, p0, a0, f0) (k + 1)).2.2.1), .int ((rcO le mo si pp ps pa (-1, p0, a0, f0) (k + 1)).2.2.2)]))]) (rfl) ?_
      exact ih (k + 1) (by omega) (by omega)
set_option maxHeartbeats 4000000 in
set_option maxRecDepth 100000 in
theorem C_Re_search (g : zG) (a : Nat) (p0 a0 f0 : Int32) (le mo si pp ps pa : Int32) : CT g M_Re_search [.ref a, .int le, .int mo, .int si, .int pp, .int ps, .int pa] [(a, .inr (9, [.int p0, .int a0, .int f0]))] (fun o cs1 => o = .inl (some (.int ((rcO le mo si pp ps pa (-1, p0, a0, f0) 11).1))) ∧ cs1 = [(a, .inr (9, [.int ((rcO le mo si pp ps pa (-1, p0, a0, f0) 11).2.1), .int ((rcO le mo si pp ps pa (-1, p0, a0, f0) 11).2.2.1), .int ((rcO le mo si pp ps pa (-1, p0, a0, f0) 11).2.2.2)]))]) 0 0 := by
  refine z_of (by decide) rfl (Nat.le_of_ble_eq_true rfl) (fun w0 => ?_)
  refine r_lvE (lv2 := [(0, .ref a), (1, .int le), (2, .int mo), (3, .int si), (4, .int pp), (5, .int ps), (6, .int pa)]) rfl ?_
  refine r_iconst d_Re_search_0 (v := (-1)) (by decide) ?_
  refine r_istore (lv' := [(7, .int (-1)), (0, .ref a), (1, .int le), (2, .int mo), (3, .int si), (4, .int pp), (5, .int ps), (6, .int pa)]) d_Re_search_1 (by decide) rfl ?_
  refine r_bipush d_Re_search_3 (v := 100) (by decide) ?_
  refine r_istore (lv' := [(8, .int 100), (7, .int (-1)), (0, .ref a), (1, .int le), (2, .int mo), (3, .int si), (4, .int pp), (5, .int ps), (6, .int pa)]) d_Re_search_5 (by decide) rfl ?_
  refine r_lv (lv' := [(7, .int (-1)), (8, .int 100), (6, .int pa), (5, .int ps), (4, .int pp), (3, .int si), (2, .int mo), (1, .int le), (0, .ref a)]) [1, 0, 8, 7, 6, 5, 4, 3, 2] rfl ?_
  refine r_lvE (lv2 := [(7, .int ((rcO le mo si pp ps pa (-1, p0, a0, f0) 0).1)), (8, .int (pgI 0)), (6, .int pa), (5, .int ps), (4, .int pp), (3, .int si), (2, .int mo), (1, .int le), (0, .ref a)]) (rfl) ?_
  refine r_cs (cs2 := [(a, .inr (9, [.int ((rcO le mo si pp ps pa (-1, p0, a0, f0) 0).2.1), .int ((rcO le mo si pp ps pa (-1, p0, a0, f0) 0).2.2.1), .int ((rcO le mo si pp ps pa (-1, p0, a0, f0) 0).2.2.2)]))]) (rfl) ?_
  exact L_Re_search_7 g a p0 a0 f0 le mo si pp ps pa w0 _  (11 + 1) 0 (Nat.zero_le _) (by omega)
abbrev M_Re_scrapParts : zM := (⟨"Ironpour$Recipe", "scrapParts", "()I"⟩, prog_11_method_2_code, 1, (Option.some FieldType.int), 1, 20, [])
theorem d_Re_scrapParts_0 : decode prog_11_method_2_code 0 = .ok (.bipush 100, 2) := zo_16 (d := 100) (zd_b zq_prog_11_method_2_code_0 0 rfl rfl rfl) (zd_b zq_prog_11_method_2_code_0 1 rfl rfl rfl) (by decide +kernel)
theorem d_Re_scrapParts_2 : decode prog_11_method_2_code 2 = .ok (.aload_n 0, 1) := zo_42 (zd_b zq_prog_11_method_2_code_0 2 rfl rfl rfl)
theorem d_Re_scrapParts_3 : decode prog_11_method_2_code 3 = .ok (.getfield 11, 3) := zo_180 (d := 0) (e := 11) (zd_b zq_prog_11_method_2_code_0 3 rfl rfl rfl) (zd_b zq_prog_11_method_2_code_0 4 rfl rfl rfl) (zd_b zq_prog_11_method_2_code_0 5 rfl rfl rfl)
theorem fs_Re_11 : z_fs "Ironpour$Recipe" 11 9 0 := ⟨R_Re, "Ironpour$Recipe", F_Re, 3, rfl, u_Re, by decide, Or.inl ⟨z_mj2 (i := 24) rfl (by decide +kernel), Or.inl rfl⟩⟩
theorem d_Re_scrapParts_6 : decode prog_11_method_2_code 6 = .ok (.isub, 1) := zo_100 (zd_b zq_prog_11_method_2_code_0 6 rfl rfl rfl)
theorem d_Re_scrapParts_7 : decode prog_11_method_2_code 7 = .ok (.aload_n 0, 1) := zo_42 (zd_b zq_prog_11_method_2_code_0 7 rfl rfl rfl)
theorem d_Re_scrapParts_8 : decode prog_11_method_2_code 8 = .ok (.getfield 15, 3) := zo_180 (d := 0) (e := 15) (zd_b zq_prog_11_method_2_code_0 8 rfl rfl rfl) (zd_b zq_prog_11_method_2_code_0 9 rfl rfl rfl) (zd_b zq_prog_11_method_2_code_0 10 rfl rfl rfl)
theorem fs_Re_15 : z_fs "Ironpour$Recipe" 15 9 1 := ⟨R_Re, "Ironpour$Recipe", F_Re, 3, rfl, u_Re, by decide, Or.inl ⟨z_mj2 (i := 26) rfl (by decide +kernel), Or.inl rfl⟩⟩
theorem d_Re_scrapParts_11 : decode prog_11_method_2_code 11 = .ok (.isub, 1) := zo_100 (zd_b zq_prog_11_method_2_code_0 11 rfl rfl rfl)
theorem d_Re_scrapParts_12 : decode prog_11_method_2_code 12 = .ok (.ireturn, 1) := zo_172 (zd_b zq_prog_11_method_2_code_0 12 rfl rfl rfl)
def S_Re_scrapParts (a : Nat) (p0 a0 f0 : Int32) : Int32 := (100 - p0) - a0
set_option maxHeartbeats 4000000 in
set_option maxRecDepth 100000 in
theorem C_Re_scrapParts (g : zG) (a : Nat) (p0 a0 f0 : Int32) : CT g M_Re_scrapParts [.ref a] [(a, .inr (9, [.int p0, .int a0, .int f0]))] (fun o cs1 => o = .inl (some (.int (S_Re_scrapParts a p0 a0 f0))) ∧ cs1 = [(a, .inr (9, [.int p0, .int a0, .int f0]))]) 0 0 := by
  refine z_of (by decide) rfl (Nat.le_of_ble_eq_true rfl) (fun w0 => ?_)
  refine r_lvE (lv2 := [(0, .ref a)]) rfl ?_
  refine r_bipush d_Re_scrapParts_0 (v := 100) (by decide) ?_
  refine r_aload_n d_Re_scrapParts_2 rfl 0 rfl ?_
  refine r_get fs_Re_11 d_Re_scrapParts_3 (q0 := 0) rfl rfl ?_
  refine r_isub d_Re_scrapParts_6 (v := 100 - p0) rfl ?_
  refine r_aload_n d_Re_scrapParts_7 rfl 0 rfl ?_
  refine r_get fs_Re_15 d_Re_scrapParts_8 (q0 := 0) rfl rfl ?_
  refine r_isub d_Re_scrapParts_11 (v := (100 - p0) - a0) rfl ?_
  refine r_iret d_Re_scrapParts_12 rfl rfl ?_
  exact ⟨rfl, rfl⟩
end
section
def chkF (fi : Nat → Int32) (c : Nat) (st : Int32) (s : Nat) : Bool := (bs c s).elim false (fun o => decide (¬ fi o < 0 ∧ fi o < st))
def bfB (fi : Nat → Int32) (c : Nat) (st : Int32) : Nat → Bool
  | 0 => false
  | s + 1 => bfB fi c st s || chkF fi c st s
theorem bfB_mono {fi : Nat → Int32} {c : Nat} {st : Int32} {s : Nat} (h : bfB fi c st s = true) : ∀ d, bfB fi c st (s + d) = true
  | 0 => h
  | d + 1 => by show (bfB fi c st (s + d) || _) = true; rw [bfB_mono h d]; rfl
theorem bfB_hit {fi : Nat → Int32} {c : Nat} {st : Int32} {s : Nat} (hs : s < 4) (h : chkF fi c st s = true) : bfB fi c st 4 = true := by
  have h1 : bfB fi c st (s + 1) = true := by show (bfB fi c st s || chkF fi c st s) = true; rw [h, Bool.or_true]
  have := bfB_mono h1 (4 - (s + 1))
  rwa [show s + 1 + (4 - (s + 1)) = 4 by omega] at this
theorem bfB_no {fi : Nat → Int32} {c : Nat} {st : Int32} {s : Nat} (h : bfB fi c st s = false) (h2 : chkF fi c st s = false) : bfB fi c st (s + 1) = false := by
  show (bfB fi c st s || chkF fi c st s) = false
  rw [h, h2]; rfl
theorem chkF_n {fi : Nat → Int32} {c : Nat} {st : Int32} {s : Nat} (h : bs c s = none) : chkF fi c st s = false := by rw [chkF, h]; rfl
theorem chkF_s {fi : Nat → Int32} {c : Nat} {st : Int32} {s o : Nat} (h : bs c s = some o) : chkF fi c st s = decide (¬ fi o < 0 ∧ fi o < st) := by rw [chkF, h]; rfl
abbrev zF : Type := (Nat → Int32) × Nat
def ogS (ce : Nat → Int32) (f0 : Nat → Int32) : Nat → zF
  | 0 => (f0, 0)
  | i + 1 => if ce i = 103 then ((if (ogS ce f0 i).2 = 0 then upd (ogS ce f0 i).1 i 0 else (ogS ce f0 i).1), (ogS ce f0 i).2 + 1) else ogS ce f0 i
theorem ogS_le (ce f0 : Nat → Int32) : ∀ i, (ogS ce f0 i).2 ≤ i
  | 0 => Nat.le_refl 0
  | i + 1 => by
    have h := ogS_le ce f0 i
    rw [ogS]
    split
    · show _ + 1 ≤ _; omega
    · omega
def fcP (ce : Nat → Int32) (st : Int32) (mo c : Nat) (s : zF) : Prop := s.2 < mo ∧ s.1 c < 0 ∧ tmB (ce c) = true ∧ bfB s.1 c st 4 = true
noncomputable def fcS (ce : Nat → Int32) (st : Int32) (mo c : Nat) (s : zF) : zF := @ite _ (fcP ce st mo c s) (Classical.propDecidable _) (upd s.1 c st, s.2 + 1) s
theorem fcS_t {ce : Nat → Int32} {st : Int32} {mo c : Nat} {s : zF} (h : fcP ce st mo c s) : fcS ce st mo c s = (upd s.1 c st, s.2 + 1) := if_pos h
theorem fcS_f {ce : Nat → Int32} {st : Int32} {mo c : Nat} {s : zF} (h : ¬ fcP ce st mo c s) : fcS ce st mo c s = s := if_neg h
noncomputable def frS (ce : Nat → Int32) (st : Int32) (mo row : Nat) (s : zF) : Nat → zF
  | 0 => s
  | x + 1 => fcS ce st mo (12 * row + x) (frS ce st mo row s x)
theorem frS_stop {ce : Nat → Int32} {st : Int32} {mo row : Nat} {s : zF} {x : Nat} (h : mo ≤ (frS ce st mo row s x).2) : ∀ d, frS ce st mo row s (x + d) = frS ce st mo row s x
  | 0 => rfl
  | d + 1 => by
    show fcS ce st mo (12 * row + (x + d)) (frS ce st mo row s (x + d)) = _
    rw [frS_stop h d, fcS_f (fun q => absurd q.1 (Nat.not_lt.mpr h))]
noncomputable def fsS (ce : Nat → Int32) (st : Int32) (mo : Nat) (s : zF) : Nat → zF
  | 0 => s
  | r + 1 => frS ce st mo (8 - r) (fsS ce st mo s r) 12
theorem fcS_le {ce : Nat → Int32} {st : Int32} {mo c : Nat} {s : zF} (h : s.2 ≤ mo) : (fcS ce st mo c s).2 ≤ mo := by
  by_cases q : fcP ce st mo c s
  · rw [fcS_t q]; have := q.1; show _ + 1 ≤ _; omega
  · rw [fcS_f q]; exact h
theorem frS_le {ce : Nat → Int32} {st : Int32} {mo row : Nat} {s : zF} (h : s.2 ≤ mo) : ∀ x, (frS ce st mo row s x).2 ≤ mo
  | 0 => h
  | x + 1 => fcS_le (frS_le h x)
theorem fsS_le {ce : Nat → Int32} {st : Int32} {mo : Nat} {s : zF} (h : s.2 ≤ mo) : ∀ r, (fsS ce st mo s r).2 ≤ mo
  | 0 => h
  | r + 1 => frS_le (fsS_le h r) 12
def rwI (r : Nat) : Int32 := 8 - nI r
theorem rwI_n {r : Nat} (h : r < 9) : rwI r = nI (8 - r) := pk_sub (a := 8) (by omega)
theorem rwI_s : ∀ r, r < 9 → rwI r + (-1) = rwI (r + 1) := by decide
theorem rwI_neg : ∀ r, r < 10 → (rwI r < 0 ↔ r = 9) := by decide
noncomputable def fiS (ce : Nat → Int32) (mo : Nat) (f1 : Nat → Int32) : Nat → zF
  | 0 => (f1, mo)
  | T + 1 => if (fiS ce mo f1 T).2 = 0 then fiS ce mo f1 T else fsS ce (nI (T + 1)) mo ((fiS ce mo f1 T).1, 0) 9
theorem fiS_stop {ce : Nat → Int32} {mo : Nat} {f1 : Nat → Int32} {T : Nat} (h : (fiS ce mo f1 T).2 = 0) : ∀ d, fiS ce mo f1 (T + d) = fiS ce mo f1 T
  | 0 => rfl
  | d + 1 => by
    show (if (fiS ce mo f1 (T + d)).2 = 0 then fiS ce mo f1 (T + d) else _) = _
    rw [fiS_stop h d, if_pos h]
theorem fiS_le {ce : Nat → Int32} {mo : Nat} {f1 : Nat → Int32} : ∀ T, (fiS ce mo f1 T).2 ≤ mo
  | 0 => Nat.le_refl _
  | T + 1 => by
    rw [fiS]
    split
    · exact fiS_le T
    · exact fsS_le (Nat.zero_le _) 9
theorem fiS_n {ce : Nat → Int32} {mo : Nat} {f1 : Nat → Int32} {T : Nat} (h : ¬ (fiS ce mo f1 T).2 = 0) : fiS ce mo f1 (T + 1) = fsS ce (nI (T + 1)) mo ((fiS ce mo f1 T).1, 0) 9 := if_neg h
abbrev M_Tr_isBesideFilled : zM := (⟨"Ironpour$Trial", "isBesideFilled", "(II)Z"⟩, prog_12_method_6_code, 5, (Option.some FieldType.boolean), 2, 41, [])
theorem d_Tr_isBesideFilled_2 : decode prog_12_method_6_code 2 = .ok (.iload_n 3, 1) := zo_29 (zd_b zq_prog_12_method_6_code_0 2 rfl rfl rfl)
theorem d_Tr_isBesideFilled_3 : decode prog_12_method_6_code 3 = .ok (.iconst 4, 1) := zo_7 (zd_b zq_prog_12_method_6_code_0 3 rfl rfl rfl)
theorem d_Tr_isBesideFilled_4 : decode prog_12_method_6_code 4 = .ok (.if_icmp .ge 44, 3) := zo_162 (d := 0) (e := 44) (zd_b zq_prog_12_method_6_code_0 4 rfl rfl rfl) (zd_b zq_prog_12_method_6_code_0 5 rfl rfl rfl) (zd_b zq_prog_12_method_6_code_0 6 rfl rfl rfl) (by decide +kernel)
theorem d_Tr_isBesideFilled_48 : decode prog_12_method_6_code 48 = .ok (.iconst 0, 1) := zo_3 (zd_b zq_prog_12_method_6_code_1 16 rfl rfl rfl)
theorem d_Tr_isBesideFilled_49 : decode prog_12_method_6_code 49 = .ok (.ireturn, 1) := zo_172 (zd_b zq_prog_12_method_6_code_1 17 rfl rfl rfl)
theorem d_Tr_isBesideFilled_7 : decode prog_12_method_6_code 7 = .ok (.iload_n 1, 1) := zo_27 (zd_b zq_prog_12_method_6_code_0 7 rfl rfl rfl)
theorem d_Tr_isBesideFilled_8 : decode prog_12_method_6_code 8 = .ok (.iload_n 3, 1) := zo_29 (zd_b zq_prog_12_method_6_code_0 8 rfl rfl rfl)
theorem d_Tr_isBesideFilled_9 : decode prog_12_method_6_code 9 = .ok (.invokestatic 72, 3) := zo_184 (d := 0) (e := 72) (zd_b zq_prog_12_method_6_code_0 9 rfl rfl rfl) (zd_b zq_prog_12_method_6_code_0 10 rfl rfl rfl) (zd_b zq_prog_12_method_6_code_0 11 rfl rfl rfl)
theorem ok_Tr_isBesideFilled_Ip_beside : z_ok M_Tr_isBesideFilled M_Ip_beside 2 := ⟨z_mj2 (i := 133) rfl (by decide +kernel), rfl, ⟨by decide +kernel, by decide +kernel, by decide +kernel⟩, ⟨by decide, by decide⟩, z_mj1 (i := 1) rfl (by decide +kernel), rfl⟩
theorem ln_Tr_72 : Cond.methodLinkNest "Ironpour$Trial" 72 M_Ip_beside.1 "Ironpour" ∈ z_nw := z_mk2 (i := 229) rfl (by decide +kernel)
theorem d_Tr_isBesideFilled_12 : decode prog_12_method_6_code 12 = .ok (.istore 4, 2) := zo_54 (d := 4) (zd_b zq_prog_12_method_6_code_0 12 rfl rfl rfl) (zd_b zq_prog_12_method_6_code_0 13 rfl rfl rfl)
theorem d_Tr_isBesideFilled_14 : decode prog_12_method_6_code 14 = .ok (.iload 4, 2) := zo_21 (d := 4) (zd_b zq_prog_12_method_6_code_0 14 rfl rfl rfl) (zd_b zq_prog_12_method_6_code_0 15 rfl rfl rfl)
theorem d_Tr_isBesideFilled_16 : decode prog_12_method_6_code 16 = .ok (.ifCond .lt 26, 3) := zo_155 (d := 0) (e := 26) (zd_b zq_prog_12_method_6_code_0 16 rfl rfl rfl) (zd_b zq_prog_12_method_6_code_0 17 rfl rfl rfl) (zd_b zq_prog_12_method_6_code_0 18 rfl rfl rfl) (by decide +kernel)
theorem d_Tr_isBesideFilled_42 : decode prog_12_method_6_code 42 = .ok (.iinc 3 1, 3) := by decide +kernel
theorem d_Tr_isBesideFilled_45 : decode prog_12_method_6_code 45 = .ok (.goto (-43), 3) := zo_167 (d := 255) (e := 213) (zd_b zq_prog_12_method_6_code_1 13 rfl rfl rfl) (zd_b zq_prog_12_method_6_code_1 14 rfl rfl rfl) (zd_b zq_prog_12_method_6_code_1 15 rfl rfl rfl) (by decide +kernel)
theorem d_Tr_isBesideFilled_19 : decode prog_12_method_6_code 19 = .ok (.aload_n 0, 1) := zo_42 (zd_b zq_prog_12_method_6_code_0 19 rfl rfl rfl)
theorem d_Tr_isBesideFilled_20 : decode prog_12_method_6_code 20 = .ok (.getfield 15, 3) := zo_180 (d := 0) (e := 15) (zd_b zq_prog_12_method_6_code_0 20 rfl rfl rfl) (zd_b zq_prog_12_method_6_code_0 21 rfl rfl rfl) (zd_b zq_prog_12_method_6_code_0 22 rfl rfl rfl)
theorem fs_Tr_15 : z_fs "Ironpour$Trial" 15 10 1 := ⟨R_Tr, "Ironpour$Trial", F_Tr, 8, rfl, u_Tr, by decide, Or.inl ⟨z_mj1 (i := 111) rfl (by decide +kernel), Or.inl rfl⟩⟩
theorem d_Tr_isBesideFilled_23 : decode prog_12_method_6_code 23 = .ok (.iload 4, 2) := zo_21 (d := 4) (zd_b zq_prog_12_method_6_code_0 23 rfl rfl rfl) (zd_b zq_prog_12_method_6_code_0 24 rfl rfl rfl)
theorem d_Tr_isBesideFilled_25 : decode prog_12_method_6_code 25 = .ok (.iaload, 1) := zo_46 (zd_b zq_prog_12_method_6_code_0 25 rfl rfl rfl)
theorem d_Tr_isBesideFilled_26 : decode prog_12_method_6_code 26 = .ok (.ifCond .lt 16, 3) := zo_155 (d := 0) (e := 16) (zd_b zq_prog_12_method_6_code_0 26 rfl rfl rfl) (zd_b zq_prog_12_method_6_code_0 27 rfl rfl rfl) (zd_b zq_prog_12_method_6_code_0 28 rfl rfl rfl) (by decide +kernel)
theorem d_Tr_isBesideFilled_29 : decode prog_12_method_6_code 29 = .ok (.aload_n 0, 1) := zo_42 (zd_b zq_prog_12_method_6_code_0 29 rfl rfl rfl)
theorem d_Tr_isBesideFilled_30 : decode prog_12_method_6_code 30 = .ok (.getfield 15, 3) := zo_180 (d := 0) (e := 15) (zd_b zq_prog_12_method_6_code_0 30 rfl rfl rfl) (zd_b zq_prog_12_method_6_code_0 31 rfl rfl rfl) (zd_b zq_prog_12_method_6_code_1 0 rfl rfl rfl)
theorem d_Tr_isBesideFilled_33 : decode prog_12_method_6_code 33 = .ok (.iload 4, 2) := zo_21 (d := 4) (zd_b zq_prog_12_method_6_code_1 1 rfl rfl rfl) (zd_b zq_prog_12_method_6_code_1 2 rfl rfl rfl)
theorem d_Tr_isBesideFilled_35 : decode prog_12_method_6_code 35 = .ok (.iaload, 1) := zo_46 (zd_b zq_prog_12_method_6_code_1 3 rfl rfl rfl)
theorem d_Tr_isBesideFilled_36 : decode prog_12_method_6_code 36 = .ok (.iload_n 2, 1) := zo_28 (zd_b zq_prog_12_method_6_code_1 4 rfl rfl rfl)
theorem d_Tr_isBesideFilled_37 : decode prog_12_method_6_code 37 = .ok (.if_icmp .ge 5, 3) := zo_162 (d := 0) (e := 5) (zd_b zq_prog_12_method_6_code_1 5 rfl rfl rfl) (zd_b zq_prog_12_method_6_code_1 6 rfl rfl rfl) (zd_b zq_prog_12_method_6_code_1 7 rfl rfl rfl) (by decide +kernel)
theorem d_Tr_isBesideFilled_40 : decode prog_12_method_6_code 40 = .ok (.iconst 1, 1) := zo_4 (zd_b zq_prog_12_method_6_code_1 8 rfl rfl rfl)
theorem d_Tr_isBesideFilled_41 : decode prog_12_method_6_code 41 = .ok (.ireturn, 1) := zo_172 (zd_b zq_prog_12_method_6_code_1 9 rfl rfl rfl)
theorem d_Tr_isBesideFilled_0 : decode prog_12_method_6_code 0 = .ok (.iconst 0, 1) := zo_3 (zd_b zq_prog_12_method_6_code_0 0 rfl rfl rfl)
theorem d_Tr_isBesideFilled_1 : decode prog_12_method_6_code 1 = .ok (.istore_n 3, 1) := zo_62 (zd_b zq_prog_12_method_6_code_0 1 rfl rfl rfl)
set_option maxHeartbeats 4000000 in
set_option maxRecDepth 100000 in
theorem L_Tr_isBesideFilled_2 (g : zG) (a a1 a2 az a4 a5 a6 : Nat) (run fo : Int32) (ce fi : Nat → Int32) (c : Nat) (hc : c < 108) (st : Int32) (w0 : zW) (n : Nat) : ∀ (d i : Nat), i ≤ 4 → 4 < i + d → bfB fi c st i = false → DV g M_Tr_isBesideFilled (fun o cs1 => o = .inl (some (.int (z_bi (bfB fi c st 4)))) ∧ cs1 = [(a, .inr (10, [.ref a1, .ref a2, .ref az, .ref a4, .ref a5, .ref a6, .int run, .int fo])), (a1, .inl (1, 108, .inl ce)), (a2, .inl (0, 108, .inl fi))]) w0 n 2 [(3, .int (nI i)), (0, .ref a), (1, .int (nI c)), (2, .int st)] [] [(a, .inr (10, [.ref a1, .ref a2, .ref az, .ref a4, .ref a5, .ref a6, .int run, .int fo])), (a1, .inl (1, 108, .inl ce)), (a2, .inl (0, 108, .inl fi))] 0 0 := by
  intro d
  induction d with
  | zero => intro i h1 h2 h3; exact absurd h2 (by omega)
  | succ d ih =>
    intro i h1 h2 h3
    refine r_iload_n d_Tr_isBesideFilled_2 rfl 0 rfl ?_
    refine r_iconst d_Tr_isBesideFilled_3 (v := 4) (by decide) ?_
    refine r_icmp_ge (tgt := 48) d_Tr_isBesideFilled_4 (by decide) (fun c_4 => ?_) (fun c_4 => ?_)
    · have hn := z_le (a := 4) (by omega) (by decide) c_4
      obtain rfl : i = 4 := by omega
      refine r_iconst d_Tr_isBesideFilled_48 (v := 0) (by decide) ?_
      refine r_iret d_Tr_isBesideFilled_49 rfl rfl ?_
      exact ⟨by rw [h3]; rfl, rfl⟩
    · have hn := z_nle (a := 4) (by omega) (by decide) c_4
      refine r_iload_n d_Tr_isBesideFilled_7 rfl 2 rfl ?_
      refine r_iload_n d_Tr_isBesideFilled_8 rfl 0 rfl ?_
      refine r_callSN (As := [.int (nI c), .int (nI i)]) (rest := []) (csC := []) (is := []) ln_Tr_72 w_st_Ip_beside ok_Tr_isBesideFilled_Ip_beside d_Tr_isBesideFilled_9 (C_Ip_beside g c i hc (by omega)) rfl rfl (Nat.le_of_ble_eq_true rfl) rfl (by decide) (by omega) (by omega) (fun E cs1 hx => ?_) (fun v cs1 hx => ?_)
      · exact absurd hx.1 (by simp)
      · obtain ⟨e1, rfl⟩ := hx
        cases e1
        refine ⟨rfl, ?_⟩
        refine r_st (st2 := [.int (oI (bs c i))]) rfl ?_
        refine r_cs (cs2 := [(a, .inr (10, [.ref a1, .ref a2, .ref az, .ref a4, .ref a5, .ref a6, .int run, .int fo])), (a1, .inl (1, 108, .inl ce)), (a2, .inl (0, 108, .inl fi))]) rfl ?_
        refine r_istore (lv' := [(4, .int (oI (bs c i))), (3, .int (nI i)), (0, .ref a), (1, .int (nI c)), (2, .int st)]) d_Tr_isBesideFilled_12 (by decide) rfl ?_
        refine r_iload d_Tr_isBesideFilled_14 0 rfl ?_
        refine r_if_lt (tgt := 42) d_Tr_isBesideFilled_16 (by decide) (fun c_16 => ?_) (fun c_16 => ?_)
        · have ho : bs c i = none := oI_neg hc (Int32.not_le.mpr c_16)
          have hk := chkF_n (fi := fi) (st := st) ho
          refine r_iinc (lv' := [(3, .int (nI (i + 1))), (4, .int (oI (bs c i))), (0, .ref a), (1, .int (nI c)), (2, .int st)]) (v := nI (i + 1)) d_Tr_isBesideFilled_42 (j := 1) rfl (nI_add _ _) (by decide) rfl ?_
          refine r_goto (tgt := 2) d_Tr_isBesideFilled_45 (by decide) ?_
          refine r_lv (lv' := [(3, .int (nI (i + 1))), (0, .ref a), (1, .int (nI c)), (2, .int st)]) [0, 2, 3, 4] rfl ?_
          refine r_lvE (lv2 := [(3, .int (nI (i + 1))), (0, .ref a), (1, .int (nI c)), (2, .int st)]) (rfl) ?_
          refine r_cs (cs2 := [(a, .inr (10, [.ref a1, .ref a2, .ref az, .ref a4, .ref a5, .ref a6, .int run, .int fo])), (a1, .inl (1, 108, .inl ce)), (a2, .inl (0, 108, .inl fi))]) (rfl) ?_
          exact ih (i + 1) (by omega) (by omega) (bfB_no h3 hk)
        · obtain ⟨o, ho⟩ := oI_pos (Int32.not_lt.mp c_16)
          have hol := bs_lt hc ho
          have hk := chkF_s (fi := fi) (st := st) ho
          rw [ho, show oI (some o) = nI o from rfl]
          refine r_aload_n d_Tr_isBesideFilled_19 rfl 2 rfl ?_
          refine r_get fs_Tr_15 d_Tr_isBesideFilled_20 (q0 := 0) rfl rfl ?_
          refine r_iload d_Tr_isBesideFilled_23 0 rfl ?_
          refine r_iald d_Tr_isBesideFilled_25 (q0 := 2) rfl (vp_in_nI (by omega) (by omega)) (v := fi o) (by rw [nI_clamp (by omega)]) ?_
          refine r_if_lt (tgt := 42) d_Tr_isBesideFilled_26 (by decide) (fun c_26 => ?_) (fun c_26 => ?_)
          · have hk := hk.trans (decide_eq_false (fun q => q.1 c_26))
            refine r_iinc (lv' := [(3, .int (nI (i + 1))), (4, .int (nI o)), (0, .ref a), (1, .int (nI c)), (2, .int st)]) (v := nI (i + 1)) d_Tr_isBesideFilled_42 (j := 1) rfl (nI_add _ _) (by decide) rfl ?_
            refine r_goto (tgt := 2) d_Tr_isBesideFilled_45 (by decide) ?_
            refine r_lv (lv' := [(3, .int (nI (i + 1))), (0, .ref a), (1, .int (nI c)), (2, .int st)]) [0, 2, 3, 4] rfl ?_
            refine r_lvE (lv2 := [(3, .int (nI (i + 1))), (0, .ref a), (1, .int (nI c)), (2, .int st)]) (rfl) ?_
            refine r_cs (cs2 := [(a, .inr (10, [.ref a1, .ref a2, .ref az, .ref a4, .ref a5, .ref a6, .int run, .int fo])), (a1, .inl (1, 108, .inl ce)), (a2, .inl (0, 108, .inl fi))]) (rfl) ?_
            exact ih (i + 1) (by omega) (by omega) (bfB_no h3 hk)
          · refine r_aload_n d_Tr_isBesideFilled_29 rfl 2 rfl ?_
            refine r_get fs_Tr_15 d_Tr_isBesideFilled_30 (q0 := 0) rfl rfl ?_
            refine r_iload d_Tr_isBesideFilled_33 0 rfl ?_
            refine r_iald d_Tr_isBesideFilled_35 (q0 := 2) rfl (vp_in_nI (by omega) (by omega)) (v := fi o) (by rw [nI_clamp (by omega)]) ?_
            refine r_iload_n d_Tr_isBesideFilled_36 rfl 4 rfl ?_
            refine r_icmp_ge (tgt := 42) d_Tr_isBesideFilled_37 (by decide) (fun c_37 => ?_) (fun c_37 => ?_)
            · have hk := hk.trans (decide_eq_false (fun q => absurd q.2 (Int32.not_lt.mpr c_37)))
              refine r_iinc (lv' := [(3, .int (nI (i + 1))), (4, .int (nI o)), (0, .ref a), (1, .int (nI c)), (2, .int st)]) (v := nI (i + 1)) d_Tr_isBesideFilled_42 (j := 1) rfl (nI_add _ _) (by decide) rfl ?_
              refine r_goto (tgt := 2) d_Tr_isBesideFilled_45 (by decide) ?_
              refine r_lv (lv' := [(3, .int (nI (i + 1))), (0, .ref a), (1, .int (nI c)), (2, .int st)]) [0, 2, 3, 4] rfl ?_
              refine r_lvE (lv2 := [(3, .int (nI (i + 1))), (0, .ref a), (1, .int (nI c)), (2, .int st)]) (rfl) ?_
              refine r_cs (cs2 := [(a, .inr (10, [.ref a1, .ref a2, .ref az, .ref a4, .ref a5, .ref a6, .int run, .int fo])), (a1, .inl (1, 108, .inl ce)), (a2, .inl (0, 108, .inl fi))]) (rfl) ?_
              exact ih (i + 1) (by omega) (by omega) (bfB_no h3 hk)
            · have hk := hk.trans (decide_eq_true ⟨c_26, Int32.not_le.mp c_37⟩)
              refine r_iconst d_Tr_isBesideFilled_40 (v := 1) (by decide) ?_
              refine r_iret d_Tr_isBesideFilled_41 rfl rfl ?_
              exact ⟨by rw [bfB_hit hn hk]; rfl, rfl⟩
set_option maxHeartbeats 4000000 in
set_option maxRecDepth 100000 in
theorem C_Tr_isBesideFilled (g : zG) (a a1 a2 az a4 a5 a6 : Nat) (run fo : Int32) (ce fi : Nat → Int32) (c : Nat) (hc : c < 108) (st : Int32) : CT g M_Tr_isBesideFilled [.ref a, .int (nI c), .int st] [(a, .inr (10, [.ref a1, .ref a2, .ref az, .ref a4, .ref a5, .ref a6, .int run, .int fo])), (a1, .inl (1, 108, .inl ce)), (a2, .inl (0, 108, .inl fi))] (fun o cs1 => o = .inl (some (.int (z_bi (bfB fi c st 4)))) ∧ cs1 = [(a, .inr (10, [.ref a1, .ref a2, .ref az, .ref a4, .ref a5, .ref a6, .int run, .int fo])), (a1, .inl (1, 108, .inl ce)), (a2, .inl (0, 108, .inl fi))]) 0 0 := by
  refine z_of (by decide) rfl (Nat.le_of_ble_eq_true rfl) (fun w0 => ?_)
  refine r_lvE (lv2 := [(0, .ref a), (1, .int (nI c)), (2, .int st)]) rfl ?_
  refine r_iconst d_Tr_isBesideFilled_0 (v := 0) (by decide) ?_
  refine r_istore_n (lv' := [(3, .int 0), (0, .ref a), (1, .int (nI c)), (2, .int st)]) d_Tr_isBesideFilled_1 rfl (by decide) rfl ?_
  refine r_lvE (lv2 := [(3, .int (nI 0)), (0, .ref a), (1, .int (nI c)), (2, .int st)]) (rfl) ?_
  refine r_cs (cs2 := [(a, .inr (10, [.ref a1, .ref a2, .ref az, .ref a4, .ref a5, .ref a6, .int run, .int fo])), (a1, .inl (1, 108, .inl ce)), (a2, .inl (0, 108, .inl fi))]) (rfl) ?_
  exact L_Tr_isBesideFilled_2 g a a1 a2 az a4 a5 a6 run fo ce fi c hc st w0 _  (4 + 1) 0 (Nat.zero_le _) (by omega) rfl
abbrev M_Tr_openLeftmostGate : zM := (⟨"Ironpour$Trial", "openLeftmostGate", "()I"⟩, prog_12_method_4_code, 3, (Option.some FieldType.int), 1, 20, [])
theorem d_Tr_openLeftmostGate_4 : decode prog_12_method_4_code 4 = .ok (.iload_n 2, 1) := zo_28 (zd_b zq_prog_12_method_4_code_0 4 rfl rfl rfl)
theorem d_Tr_openLeftmostGate_5 : decode prog_12_method_4_code 5 = .ok (.bipush 12, 2) := zo_16 (d := 12) (zd_b zq_prog_12_method_4_code_0 5 rfl rfl rfl) (zd_b zq_prog_12_method_4_code_0 6 rfl rfl rfl) (by decide +kernel)
theorem d_Tr_openLeftmostGate_7 : decode prog_12_method_4_code 7 = .ok (.if_icmp .ge 34, 3) := zo_162 (d := 0) (e := 34) (zd_b zq_prog_12_method_4_code_0 7 rfl rfl rfl) (zd_b zq_prog_12_method_4_code_0 8 rfl rfl rfl) (zd_b zq_prog_12_method_4_code_0 9 rfl rfl rfl) (by decide +kernel)
theorem d_Tr_openLeftmostGate_41 : decode prog_12_method_4_code 41 = .ok (.iload_n 1, 1) := zo_27 (zd_b zq_prog_12_method_4_code_1 9 rfl rfl rfl)
theorem d_Tr_openLeftmostGate_42 : decode prog_12_method_4_code 42 = .ok (.ireturn, 1) := zo_172 (zd_b zq_prog_12_method_4_code_1 10 rfl rfl rfl)
theorem d_Tr_openLeftmostGate_10 : decode prog_12_method_4_code 10 = .ok (.aload_n 0, 1) := zo_42 (zd_b zq_prog_12_method_4_code_0 10 rfl rfl rfl)
theorem d_Tr_openLeftmostGate_11 : decode prog_12_method_4_code 11 = .ok (.getfield 9, 3) := zo_180 (d := 0) (e := 9) (zd_b zq_prog_12_method_4_code_0 11 rfl rfl rfl) (zd_b zq_prog_12_method_4_code_0 12 rfl rfl rfl) (zd_b zq_prog_12_method_4_code_0 13 rfl rfl rfl)
theorem d_Tr_openLeftmostGate_14 : decode prog_12_method_4_code 14 = .ok (.iload_n 2, 1) := zo_28 (zd_b zq_prog_12_method_4_code_0 14 rfl rfl rfl)
theorem d_Tr_openLeftmostGate_15 : decode prog_12_method_4_code 15 = .ok (.caload, 1) := zo_52 (zd_b zq_prog_12_method_4_code_0 15 rfl rfl rfl)
theorem d_Tr_openLeftmostGate_16 : decode prog_12_method_4_code 16 = .ok (.bipush 103, 2) := zo_16 (d := 103) (zd_b zq_prog_12_method_4_code_0 16 rfl rfl rfl) (zd_b zq_prog_12_method_4_code_0 17 rfl rfl rfl) (by decide +kernel)
theorem d_Tr_openLeftmostGate_18 : decode prog_12_method_4_code 18 = .ok (.if_icmp .ne 17, 3) := zo_160 (d := 0) (e := 17) (zd_b zq_prog_12_method_4_code_0 18 rfl rfl rfl) (zd_b zq_prog_12_method_4_code_0 19 rfl rfl rfl) (zd_b zq_prog_12_method_4_code_0 20 rfl rfl rfl) (by decide +kernel)
theorem d_Tr_openLeftmostGate_35 : decode prog_12_method_4_code 35 = .ok (.iinc 2 1, 3) := by decide +kernel
theorem d_Tr_openLeftmostGate_38 : decode prog_12_method_4_code 38 = .ok (.goto (-34), 3) := zo_167 (d := 255) (e := 222) (zd_b zq_prog_12_method_4_code_1 6 rfl rfl rfl) (zd_b zq_prog_12_method_4_code_1 7 rfl rfl rfl) (zd_b zq_prog_12_method_4_code_1 8 rfl rfl rfl) (by decide +kernel)
theorem d_Tr_openLeftmostGate_21 : decode prog_12_method_4_code 21 = .ok (.iload_n 1, 1) := zo_27 (zd_b zq_prog_12_method_4_code_0 21 rfl rfl rfl)
theorem d_Tr_openLeftmostGate_22 : decode prog_12_method_4_code 22 = .ok (.ifCond .ne 10, 3) := zo_154 (d := 0) (e := 10) (zd_b zq_prog_12_method_4_code_0 22 rfl rfl rfl) (zd_b zq_prog_12_method_4_code_0 23 rfl rfl rfl) (zd_b zq_prog_12_method_4_code_0 24 rfl rfl rfl) (by decide +kernel)
theorem d_Tr_openLeftmostGate_32 : decode prog_12_method_4_code 32 = .ok (.iinc 1 1, 3) := by decide +kernel
theorem d_Tr_openLeftmostGate_25 : decode prog_12_method_4_code 25 = .ok (.aload_n 0, 1) := zo_42 (zd_b zq_prog_12_method_4_code_0 25 rfl rfl rfl)
theorem d_Tr_openLeftmostGate_26 : decode prog_12_method_4_code 26 = .ok (.getfield 15, 3) := zo_180 (d := 0) (e := 15) (zd_b zq_prog_12_method_4_code_0 26 rfl rfl rfl) (zd_b zq_prog_12_method_4_code_0 27 rfl rfl rfl) (zd_b zq_prog_12_method_4_code_0 28 rfl rfl rfl)
theorem d_Tr_openLeftmostGate_29 : decode prog_12_method_4_code 29 = .ok (.iload_n 2, 1) := zo_28 (zd_b zq_prog_12_method_4_code_0 29 rfl rfl rfl)
theorem d_Tr_openLeftmostGate_30 : decode prog_12_method_4_code 30 = .ok (.iconst 0, 1) := zo_3 (zd_b zq_prog_12_method_4_code_0 30 rfl rfl rfl)
theorem d_Tr_openLeftmostGate_31 : decode prog_12_method_4_code 31 = .ok (.iastore, 1) := zo_79 (zd_b zq_prog_12_method_4_code_0 31 rfl rfl rfl)
theorem d_Tr_openLeftmostGate_0 : decode prog_12_method_4_code 0 = .ok (.iconst 0, 1) := zo_3 (zd_b zq_prog_12_method_4_code_0 0 rfl rfl rfl)
theorem d_Tr_openLeftmostGate_1 : decode prog_12_method_4_code 1 = .ok (.istore_n 1, 1) := zo_60 (zd_b zq_prog_12_method_4_code_0 1 rfl rfl rfl)
theorem d_Tr_openLeftmostGate_2 : decode prog_12_method_4_code 2 = .ok (.iconst 0, 1) := zo_3 (zd_b zq_prog_12_method_4_code_0 2 rfl rfl rfl)
theorem d_Tr_openLeftmostGate_3 : decode prog_12_method_4_code 3 = .ok (.istore_n 2, 1) := zo_61 (zd_b zq_prog_12_method_4_code_0 3 rfl rfl rfl)
set_option maxHeartbeats 4000000 in
set_option maxRecDepth 100000 in
theorem L_Tr_openLeftmostGate_4 (g : zG) (a a1 a2 az a4 a5 a6 : Nat) (run fo : Int32) (ce fi : Nat → Int32) (w0 : zW) (n : Nat) : ∀ (d i : Nat), i ≤ 12 → 12 < i + d → DV g M_Tr_openLeftmostGate (fun o cs1 => o = .inl (some (.int (nI (ogS ce fi 12).2))) ∧ cs1 = [(a, .inr (10, [.ref a1, .ref a2, .ref az, .ref a4, .ref a5, .ref a6, .int run, .int fo])), (a1, .inl (1, 108, .inl ce)), (a2, .inl (0, 108, .inl ((ogS ce fi 12).1)))]) w0 n 4 [(2, .int (nI i)), (1, .int (nI (ogS ce fi i).2)), (0, .ref a)] [] [(a, .inr (10, [.ref a1, .ref a2, .ref az, .ref a4, .ref a5, .ref a6, .int run, .int fo])), (a1, .inl (1, 108, .inl ce)), (a2, .inl (0, 108, .inl ((ogS ce fi i).1)))] 0 0 := by
  intro d
  induction d with
  | zero => intro i h1 h2 ; exact absurd h2 (by omega)
  | succ d ih =>
    intro i h1 h2 
    refine r_iload_n d_Tr_openLeftmostGate_4 rfl 0 rfl ?_
    refine r_bipush d_Tr_openLeftmostGate_5 (v := 12) (by decide) ?_
    refine r_icmp_ge (tgt := 41) d_Tr_openLeftmostGate_7 (by decide) (fun c_7 => ?_) (fun c_7 => ?_)
    · have hn := z_le (a := 12) (by omega) (by decide) c_7
      obtain rfl : i = 12 := by omega
      refine r_iload_n d_Tr_openLeftmostGate_41 rfl 1 rfl ?_
      refine r_iret d_Tr_openLeftmostGate_42 rfl rfl ?_
      exact ⟨rfl, rfl⟩
    · have hn := z_nle (a := 12) (by omega) (by decide) c_7
      refine r_aload_n d_Tr_openLeftmostGate_10 rfl 2 rfl ?_
      refine r_get fs_Tr_9 d_Tr_openLeftmostGate_11 (q0 := 0) rfl rfl ?_
      refine r_iload_n d_Tr_openLeftmostGate_14 rfl 0 rfl ?_
      refine r_cald d_Tr_openLeftmostGate_15 (q0 := 1) rfl (vp_in_nI (by omega) (by omega)) (v := ce i) (by rw [nI_clamp (by omega)]) ?_
      refine r_bipush d_Tr_openLeftmostGate_16 (v := 103) (by decide) ?_
      refine r_icmp_ne (tgt := 35) d_Tr_openLeftmostGate_18 (by decide) (fun c_18 => ?_) (fun c_18 => ?_)
      · refine r_iinc (lv' := [(2, .int (nI (i + 1))), (1, .int (nI (ogS ce fi i).2)), (0, .ref a)]) (v := nI (i + 1)) d_Tr_openLeftmostGate_35 (j := 0) rfl (nI_add _ _) (by decide) rfl ?_
        refine r_goto (tgt := 4) d_Tr_openLeftmostGate_38 (by decide) ?_
        refine r_lvE (lv2 := [(2, .int (nI (i + 1))), (1, .int (nI (ogS ce fi (i + 1)).2)), (0, .ref a)]) (by first | (rw [ogS, if_neg c_18] <;> rfl) | (rw [ogS, if_pos c_18, if_neg hz] <;> rfl) | (rw [ogS, if_pos c_18, if_pos hz] <;> rfl) | (rw [ogS, if_pos c_18] <;> rfl)) ?_
        refine r_cs (cs2 := [(a, .inr (10, [.ref a1, .ref a2, .ref az, .ref a4, .ref a5, .ref a6, .int run, .int fo])), (a1, .inl (1, 108, .inl ce)), (a2, .inl (0, 108, .inl ((ogS ce fi (i + 1)).1)))]) (by first | (rw [ogS, if_neg c_18] <;> rfl) | (rw [ogS, if_pos c_18, if_neg hz] <;> rfl) | (rw [ogS, if_pos c_18, if_pos hz] <;> rfl) | (rw [ogS, if_pos c_18] <;> rfl)) ?_
        exact ih (i + 1) (by omega) (by omega)
      · refine r_iload_n d_Tr_openLeftmostGate_21 rfl 1 rfl ?_
        refine r_if_ne (tgt := 32) d_Tr_openLeftmostGate_22 (by decide) (fun c_22 => ?_) (fun c_22 => ?_)
        · have hz : ¬ (ogS ce fi i).2 = 0 := fun e => c_22 (by rw [e]; rfl)
          refine r_iinc (lv' := [(1, .int (nI ((ogS ce fi i).2 + 1))), (2, .int (nI i)), (0, .ref a)]) (v := nI ((ogS ce fi i).2 + 1)) d_Tr_openLeftmostGate_32 (j := 1) rfl (nI_add _ _) (by decide) rfl ?_
          refine r_iinc (lv' := [(2, .int (nI (i + 1))), (1, .int (nI ((ogS ce fi i).2 + 1))), (0, .ref a)]) (v := nI (i + 1)) d_Tr_openLeftmostGate_35 (j := 1) rfl (nI_add _ _) (by decide) rfl ?_
          refine r_goto (tgt := 4) d_Tr_openLeftmostGate_38 (by decide) ?_
          refine r_lvE (lv2 := [(2, .int (nI (i + 1))), (1, .int (nI (ogS ce fi (i + 1)).2)), (0, .ref a)]) (by first | (rw [ogS, if_neg c_18] <;> rfl) | (rw [ogS, if_pos c_18, if_neg hz] <;> rfl) | (rw [ogS, if_pos c_18, if_pos hz] <;> rfl) | (rw [ogS, if_pos c_18] <;> rfl)) ?_
          refine r_cs (cs2 := [(a, .inr (10, [.ref a1, .ref a2, .ref az, .ref a4, .ref a5, .ref a6, .int run, .int fo])), (a1, .inl (1, 108, .inl ce)), (a2, .inl (0, 108, .inl ((ogS ce fi (i + 1)).1)))]) (by first | (rw [ogS, if_neg c_18] <;> rfl) | (rw [ogS, if_pos c_18, if_neg hz] <;> rfl) | (rw [ogS, if_pos c_18, if_pos hz] <;> rfl) | (rw [ogS, if_pos c_18] <;> rfl)) ?_
          exact ih (i + 1) (by omega) (by omega)
        · have hl := ogS_le ce fi i
          have hz : (ogS ce fi i).2 = 0 := z_eqn (b := 0) (by omega) (by decide) c_22
          refine r_aload_n d_Tr_openLeftmostGate_25 rfl 2 rfl ?_
          refine r_get fs_Tr_15 d_Tr_openLeftmostGate_26 (q0 := 0) rfl rfl ?_
          refine r_iload_n d_Tr_openLeftmostGate_29 rfl 0 rfl ?_
          refine r_iconst d_Tr_openLeftmostGate_30 (v := 0) (by decide) ?_
          refine r_iast d_Tr_openLeftmostGate_31 (q0 := 2) rfl (vp_in_nI (by omega) (by omega)) (f' := upd (ogS ce fi i).1 i 0) (by rw [nI_clamp (by omega)]) (cs' := [(a, .inr (10, [.ref a1, .ref a2, .ref az, .ref a4, .ref a5, .ref a6, .int run, .int fo])), (a1, .inl (1, 108, .inl ce)), (a2, .inl (0, 108, .inl (upd (ogS ce fi i).1 i 0)))]) rfl ?_
          refine r_iinc (lv' := [(1, .int (nI ((ogS ce fi i).2 + 1))), (2, .int (nI i)), (0, .ref a)]) (v := nI ((ogS ce fi i).2 + 1)) d_Tr_openLeftmostGate_32 (j := 1) rfl (nI_add _ _) (by decide) rfl ?_
          refine r_iinc (lv' := [(2, .int (nI (i + 1))), (1, .int (nI ((ogS ce fi i).2 + 1))), (0, .ref a)]) (v := nI (i + 1)) d_Tr_openLeftmostGate_35 (j := 1) rfl (nI_add _ _) (by decide) rfl ?_
          refine r_goto (tgt := 4) d_Tr_openLeftmostGate_38 (by decide) ?_
          refine r_lvE (lv2 := [(2, .int (nI (i + 1))), (1, .int (nI (ogS ce fi (i + 1)).2)), (0, .ref a)]) (by first | (rw [ogS, if_neg c_18] <;> rfl) | (rw [ogS, if_pos c_18, if_neg hz] <;> rfl) | (rw [ogS, if_pos c_18, if_pos hz] <;> rfl) | (rw [ogS, if_pos c_18] <;> rfl)) ?_
          refine r_cs (cs2 := [(a, .inr (10, [.ref a1, .ref a2, .ref az, .ref a4, .ref a5, .ref a6, .int run, .int fo])), (a1, .inl (1, 108, .inl ce)), (a2, .inl (0, 108, .inl ((ogS ce fi (i + 1)).1)))]) (by first | (rw [ogS, if_neg c_18] <;> rfl) | (rw [ogS, if_pos c_18, if_neg hz] <;> rfl) | (rw [ogS, if_pos c_18, if_pos hz] <;> rfl) | (rw [ogS, if_pos c_18] <;> rfl)) ?_
          exact ih (i + 1) (by omega) (by omega)
set_option maxHeartbeats 4000000 in
set_option maxRecDepth 100000 in
theorem C_Tr_openLeftmostGate (g : zG) (a a1 a2 az a4 a5 a6 : Nat) (run fo : Int32) (ce fi : Nat → Int32) : CT g M_Tr_openLeftmostGate [.ref a] [(a, .inr (10, [.ref a1, .ref a2, .ref az, .ref a4, .ref a5, .ref a6, .int run, .int fo])), (a1, .inl (1, 108, .inl ce)), (a2, .inl (0, 108, .inl fi))] (fun o cs1 => o = .inl (some (.int (nI (ogS ce fi 12).2))) ∧ cs1 = [(a, .inr (10, [.ref a1, .ref a2, .ref az, .ref a4, .ref a5, .ref a6, .int run, .int fo])), (a1, .inl (1, 108, .inl ce)), (a2, .inl (0, 108, .inl ((ogS ce fi 12).1)))]) 0 0 := by
  refine z_of (by decide) rfl (Nat.le_of_ble_eq_true rfl) (fun w0 => ?_)
  refine r_lvE (lv2 := [(0, .ref a)]) rfl ?_
  refine r_iconst d_Tr_openLeftmostGate_0 (v := 0) (by decide) ?_
  refine r_istore_n (lv' := [(1, .int 0), (0, .ref a)]) d_Tr_openLeftmostGate_1 rfl (by decide) rfl ?_
  refine r_iconst d_Tr_openLeftmostGate_2 (v := 0) (by decide) ?_
  refine r_istore_n (lv' := [(2, .int 0), (1, .int 0), (0, .ref a)]) d_Tr_openLeftmostGate_3 rfl (by decide) rfl ?_
  refine r_lvE (lv2 := [(2, .int (nI 0)), (1, .int (nI (ogS ce fi 0).2)), (0, .ref a)]) (rfl) ?_
  refine r_cs (cs2 := [(a, .inr (10, [.ref a1, .ref a2, .ref az, .ref a4, .ref a5, .ref a6, .int run, .int fo])), (a1, .inl (1, 108, .inl ce)), (a2, .inl (0, 108, .inl ((ogS ce fi 0).1)))]) (rfl) ?_
  exact L_Tr_openLeftmostGate_4 g a a1 a2 az a4 a5 a6 run fo ce fi w0 _  (12 + 1) 0 (Nat.zero_le _) (by omega)
abbrev M_Tr_fillStep : zM := (⟨"Ironpour$Trial", "fillStep", "(II)I"⟩, prog_12_method_5_code, 7, (Option.some FieldType.int), 3, 65, [])
theorem d_Tr_fillStep_14 : decode prog_12_method_5_code 14 = .ok (.iload 5, 2) := zo_21 (d := 5) (zd_b zq_prog_12_method_5_code_0 14 rfl rfl rfl) (zd_b zq_prog_12_method_5_code_0 15 rfl rfl rfl)
theorem d_Tr_fillStep_16 : decode prog_12_method_5_code 16 = .ok (.bipush 12, 2) := zo_16 (d := 12) (zd_b zq_prog_12_method_5_code_0 16 rfl rfl rfl) (zd_b zq_prog_12_method_5_code_0 17 rfl rfl rfl) (by decide +kernel)
theorem d_Tr_fillStep_18 : decode prog_12_method_5_code 18 = .ok (.if_icmp .ge 68, 3) := zo_162 (d := 0) (e := 68) (zd_b zq_prog_12_method_5_code_0 18 rfl rfl rfl) (zd_b zq_prog_12_method_5_code_0 19 rfl rfl rfl) (zd_b zq_prog_12_method_5_code_0 20 rfl rfl rfl) (by decide +kernel)
theorem d_Tr_fillStep_21 : decode prog_12_method_5_code 21 = .ok (.iload_n 3, 1) := zo_29 (zd_b zq_prog_12_method_5_code_0 21 rfl rfl rfl)
theorem d_Tr_fillStep_22 : decode prog_12_method_5_code 22 = .ok (.iload_n 2, 1) := zo_28 (zd_b zq_prog_12_method_5_code_0 22 rfl rfl rfl)
theorem d_Tr_fillStep_23 : decode prog_12_method_5_code 23 = .ok (.if_icmp .ge 63, 3) := zo_162 (d := 0) (e := 63) (zd_b zq_prog_12_method_5_code_0 23 rfl rfl rfl) (zd_b zq_prog_12_method_5_code_0 24 rfl rfl rfl) (zd_b zq_prog_12_method_5_code_0 25 rfl rfl rfl) (by decide +kernel)
theorem d_Tr_fillStep_26 : decode prog_12_method_5_code 26 = .ok (.iload 4, 2) := zo_21 (d := 4) (zd_b zq_prog_12_method_5_code_0 26 rfl rfl rfl) (zd_b zq_prog_12_method_5_code_0 27 rfl rfl rfl)
theorem d_Tr_fillStep_28 : decode prog_12_method_5_code 28 = .ok (.bipush 12, 2) := zo_16 (d := 12) (zd_b zq_prog_12_method_5_code_0 28 rfl rfl rfl) (zd_b zq_prog_12_method_5_code_0 29 rfl rfl rfl) (by decide +kernel)
theorem d_Tr_fillStep_30 : decode prog_12_method_5_code 30 = .ok (.imul, 1) := zo_104 (zd_b zq_prog_12_method_5_code_0 30 rfl rfl rfl)
theorem d_Tr_fillStep_31 : decode prog_12_method_5_code 31 = .ok (.iload 5, 2) := zo_21 (d := 5) (zd_b zq_prog_12_method_5_code_0 31 rfl rfl rfl) (zd_b zq_prog_12_method_5_code_1 0 rfl rfl rfl)
theorem d_Tr_fillStep_33 : decode prog_12_method_5_code 33 = .ok (.iadd, 1) := zo_96 (zd_b zq_prog_12_method_5_code_1 1 rfl rfl rfl)
theorem d_Tr_fillStep_34 : decode prog_12_method_5_code 34 = .ok (.istore 6, 2) := zo_54 (d := 6) (zd_b zq_prog_12_method_5_code_1 2 rfl rfl rfl) (zd_b zq_prog_12_method_5_code_1 3 rfl rfl rfl)
theorem d_Tr_fillStep_36 : decode prog_12_method_5_code 36 = .ok (.aload_n 0, 1) := zo_42 (zd_b zq_prog_12_method_5_code_1 4 rfl rfl rfl)
theorem d_Tr_fillStep_37 : decode prog_12_method_5_code 37 = .ok (.getfield 15, 3) := zo_180 (d := 0) (e := 15) (zd_b zq_prog_12_method_5_code_1 5 rfl rfl rfl) (zd_b zq_prog_12_method_5_code_1 6 rfl rfl rfl) (zd_b zq_prog_12_method_5_code_1 7 rfl rfl rfl)
theorem d_Tr_fillStep_40 : decode prog_12_method_5_code 40 = .ok (.iload 6, 2) := zo_21 (d := 6) (zd_b zq_prog_12_method_5_code_1 8 rfl rfl rfl) (zd_b zq_prog_12_method_5_code_1 9 rfl rfl rfl)
theorem d_Tr_fillStep_42 : decode prog_12_method_5_code 42 = .ok (.iaload, 1) := zo_46 (zd_b zq_prog_12_method_5_code_1 10 rfl rfl rfl)
theorem d_Tr_fillStep_43 : decode prog_12_method_5_code 43 = .ok (.ifCond .ge 37, 3) := zo_156 (d := 0) (e := 37) (zd_b zq_prog_12_method_5_code_1 11 rfl rfl rfl) (zd_b zq_prog_12_method_5_code_1 12 rfl rfl rfl) (zd_b zq_prog_12_method_5_code_1 13 rfl rfl rfl) (by decide +kernel)
theorem d_Tr_fillStep_80 : decode prog_12_method_5_code 80 = .ok (.iinc 5 1, 3) := by decide +kernel
theorem d_Tr_fillStep_83 : decode prog_12_method_5_code 83 = .ok (.goto (-69), 3) := zo_167 (d := 255) (e := 187) (zd_b zq_prog_12_method_5_code_2 19 rfl rfl rfl) (zd_b zq_prog_12_method_5_code_2 20 rfl rfl rfl) (zd_b zq_prog_12_method_5_code_2 21 rfl rfl rfl) (by decide +kernel)
theorem d_Tr_fillStep_46 : decode prog_12_method_5_code 46 = .ok (.aload_n 0, 1) := zo_42 (zd_b zq_prog_12_method_5_code_1 14 rfl rfl rfl)
theorem d_Tr_fillStep_47 : decode prog_12_method_5_code 47 = .ok (.getfield 9, 3) := zo_180 (d := 0) (e := 9) (zd_b zq_prog_12_method_5_code_1 15 rfl rfl rfl) (zd_b zq_prog_12_method_5_code_1 16 rfl rfl rfl) (zd_b zq_prog_12_method_5_code_1 17 rfl rfl rfl)
theorem d_Tr_fillStep_50 : decode prog_12_method_5_code 50 = .ok (.iload 6, 2) := zo_21 (d := 6) (zd_b zq_prog_12_method_5_code_1 18 rfl rfl rfl) (zd_b zq_prog_12_method_5_code_1 19 rfl rfl rfl)
theorem d_Tr_fillStep_52 : decode prog_12_method_5_code 52 = .ok (.caload, 1) := zo_52 (zd_b zq_prog_12_method_5_code_1 20 rfl rfl rfl)
theorem d_Tr_fillStep_53 : decode prog_12_method_5_code 53 = .ok (.invokestatic 64, 3) := zo_184 (d := 0) (e := 64) (zd_b zq_prog_12_method_5_code_1 21 rfl rfl rfl) (zd_b zq_prog_12_method_5_code_1 22 rfl rfl rfl) (zd_b zq_prog_12_method_5_code_1 23 rfl rfl rfl)
theorem ok_Tr_fillStep_Ip_takesMetal : z_ok M_Tr_fillStep M_Ip_takesMetal 1 := ⟨z_mj2 (i := 114) rfl (by decide +kernel), rfl, ⟨by decide +kernel, by decide +kernel, by decide +kernel⟩, ⟨by decide, by decide⟩, z_mj1 (i := 1) rfl (by decide +kernel), rfl⟩
theorem ln_Tr_64 : Cond.methodLinkNest "Ironpour$Trial" 64 M_Ip_takesMetal.1 "Ironpour" ∈ z_nw := z_mk2 (i := 224) rfl (by decide +kernel)
theorem d_Tr_fillStep_56 : decode prog_12_method_5_code 56 = .ok (.ifCond .eq 24, 3) := zo_153 (d := 0) (e := 24) (zd_b zq_prog_12_method_5_code_1 24 rfl rfl rfl) (zd_b zq_prog_12_method_5_code_1 25 rfl rfl rfl) (zd_b zq_prog_12_method_5_code_1 26 rfl rfl rfl) (by decide +kernel)
theorem d_Tr_fillStep_59 : decode prog_12_method_5_code 59 = .ok (.aload_n 0, 1) := zo_42 (zd_b zq_prog_12_method_5_code_1 27 rfl rfl rfl)
theorem d_Tr_fillStep_60 : decode prog_12_method_5_code 60 = .ok (.iload 6, 2) := zo_21 (d := 6) (zd_b zq_prog_12_method_5_code_1 28 rfl rfl rfl) (zd_b zq_prog_12_method_5_code_1 29 rfl rfl rfl)
theorem d_Tr_fillStep_62 : decode prog_12_method_5_code 62 = .ok (.iload_n 1, 1) := zo_27 (zd_b zq_prog_12_method_5_code_1 30 rfl rfl rfl)
theorem d_Tr_fillStep_63 : decode prog_12_method_5_code 63 = .ok (.invokevirtual 68, 3) := zo_182 (d := 0) (e := 68) (zd_b zq_prog_12_method_5_code_1 31 rfl rfl rfl) (zd_b zq_prog_12_method_5_code_2 0 rfl rfl rfl) (zd_b zq_prog_12_method_5_code_2 1 rfl rfl rfl)
theorem ok_Tr_fillStep_Tr_isBesideFilled : z_ok M_Tr_fillStep M_Tr_isBesideFilled 2 := ⟨z_mj2 (i := 228) rfl (by decide +kernel), rfl, ⟨by decide +kernel, by decide +kernel, by decide +kernel⟩, ⟨by decide, by decide⟩, z_mj1 (i := 3) rfl (by decide +kernel), rfl⟩
theorem ln_Tr_68 : Cond.methodLink "Ironpour$Trial" 68 M_Tr_isBesideFilled.1 ∈ z_gw := z_mj2 (i := 225) rfl (by decide +kernel)
theorem w_im_Tr_isBesideFilled : Cond.instanceMethod M_Tr_isBesideFilled.1 ∈ z_gw := z_mj2 (i := 227) rfl (by decide +kernel)
theorem w_se_Tr_isBesideFilled : Cond.selects M_Tr_isBesideFilled.1.cls M_Tr_isBesideFilled.1 M_Tr_isBesideFilled.1 ∈ z_gw := z_mem (i := 8) (by decide +kernel) (by decide +kernel)
theorem d_Tr_fillStep_66 : decode prog_12_method_5_code 66 = .ok (.ifCond .eq 14, 3) := zo_153 (d := 0) (e := 14) (zd_b zq_prog_12_method_5_code_2 2 rfl rfl rfl) (zd_b zq_prog_12_method_5_code_2 3 rfl rfl rfl) (zd_b zq_prog_12_method_5_code_2 4 rfl rfl rfl) (by decide +kernel)
theorem d_Tr_fillStep_69 : decode prog_12_method_5_code 69 = .ok (.aload_n 0, 1) := zo_42 (zd_b zq_prog_12_method_5_code_2 5 rfl rfl rfl)
theorem d_Tr_fillStep_70 : decode prog_12_method_5_code 70 = .ok (.getfield 15, 3) := zo_180 (d := 0) (e := 15) (zd_b zq_prog_12_method_5_code_2 6 rfl rfl rfl) (zd_b zq_prog_12_method_5_code_2 7 rfl rfl rfl) (zd_b zq_prog_12_method_5_code_2 8 rfl rfl rfl)
theorem d_Tr_fillStep_73 : decode prog_12_method_5_code 73 = .ok (.iload 6, 2) := zo_21 (d := 6) (zd_b zq_prog_12_method_5_code_2 9 rfl rfl rfl) (zd_b zq_prog_12_method_5_code_2 10 rfl rfl rfl)
theorem d_Tr_fillStep_75 : decode prog_12_method_5_code 75 = .ok (.iload_n 1, 1) := zo_27 (zd_b zq_prog_12_method_5_code_2 11 rfl rfl rfl)
theorem d_Tr_fillStep_76 : decode prog_12_method_5_code 76 = .ok (.iastore, 1) := zo_79 (zd_b zq_prog_12_method_5_code_2 12 rfl rfl rfl)
theorem d_Tr_fillStep_77 : decode prog_12_method_5_code 77 = .ok (.iinc 3 1, 3) := by decide +kernel
theorem d_Tr_fillStep_6 : decode prog_12_method_5_code 6 = .ok (.iload 4, 2) := zo_21 (d := 4) (zd_b zq_prog_12_method_5_code_0 6 rfl rfl rfl) (zd_b zq_prog_12_method_5_code_0 7 rfl rfl rfl)
theorem d_Tr_fillStep_8 : decode prog_12_method_5_code 8 = .ok (.ifCond .lt 84, 3) := zo_155 (d := 0) (e := 84) (zd_b zq_prog_12_method_5_code_0 8 rfl rfl rfl) (zd_b zq_prog_12_method_5_code_0 9 rfl rfl rfl) (zd_b zq_prog_12_method_5_code_0 10 rfl rfl rfl) (by decide +kernel)
theorem d_Tr_fillStep_92 : decode prog_12_method_5_code 92 = .ok (.iload_n 3, 1) := zo_29 (zd_b zq_prog_12_method_5_code_2 28 rfl rfl rfl)
theorem d_Tr_fillStep_93 : decode prog_12_method_5_code 93 = .ok (.ireturn, 1) := zo_172 (zd_b zq_prog_12_method_5_code_2 29 rfl rfl rfl)
theorem d_Tr_fillStep_11 : decode prog_12_method_5_code 11 = .ok (.iconst 0, 1) := zo_3 (zd_b zq_prog_12_method_5_code_0 11 rfl rfl rfl)
theorem d_Tr_fillStep_12 : decode prog_12_method_5_code 12 = .ok (.istore 5, 2) := zo_54 (d := 5) (zd_b zq_prog_12_method_5_code_0 12 rfl rfl rfl) (zd_b zq_prog_12_method_5_code_0 13 rfl rfl rfl)
theorem d_Tr_fillStep_86 : decode prog_12_method_5_code 86 = .ok (.iinc 4 (-1), 3) := by decide +kernel
theorem d_Tr_fillStep_89 : decode prog_12_method_5_code 89 = .ok (.goto (-83), 3) := zo_167 (d := 255) (e := 173) (zd_b zq_prog_12_method_5_code_2 25 rfl rfl rfl) (zd_b zq_prog_12_method_5_code_2 26 rfl rfl rfl) (zd_b zq_prog_12_method_5_code_2 27 rfl rfl rfl) (by decide +kernel)
theorem d_Tr_fillStep_0 : decode prog_12_method_5_code 0 = .ok (.iconst 0, 1) := zo_3 (zd_b zq_prog_12_method_5_code_0 0 rfl rfl rfl)
theorem d_Tr_fillStep_1 : decode prog_12_method_5_code 1 = .ok (.istore_n 3, 1) := zo_62 (zd_b zq_prog_12_method_5_code_0 1 rfl rfl rfl)
theorem d_Tr_fillStep_2 : decode prog_12_method_5_code 2 = .ok (.bipush 8, 2) := zo_16 (d := 8) (zd_b zq_prog_12_method_5_code_0 2 rfl rfl rfl) (zd_b zq_prog_12_method_5_code_0 3 rfl rfl rfl) (by decide +kernel)
theorem d_Tr_fillStep_4 : decode prog_12_method_5_code 4 = .ok (.istore 4, 2) := zo_54 (d := 4) (zd_b zq_prog_12_method_5_code_0 4 rfl rfl rfl) (zd_b zq_prog_12_method_5_code_0 5 rfl rfl rfl)
set_option maxHeartbeats 4000000 in
set_option maxRecDepth 100000 in
theorem L_Tr_fillStep_14 (g : zG) (a a1 a2 az a4 a5 a6 : Nat) (run fo : Int32) (ce fi : Nat → Int32) (st : Int32) (mo : Nat) (hmo : mo < 1000) (w0 : zW) (n : Nat) (r : Nat) (hr : r < 9) (K : DV g M_Tr_fillStep (fun o cs1 => o = .inl (some (.int (nI (fsS ce st mo (fi, 0) 9).2))) ∧ cs1 = [(a, .inr (10, [.ref a1, .ref a2, .ref az, .ref a4, .ref a5, .ref a6, .int run, .int fo])), (a1, .inl (1, 108, .inl ce)), (a2, .inl (0, 108, .inl ((fsS ce st mo (fi, 0) 9).1)))]) w0 n 86 [(4, .int (nI (8 - r))), (3, .int (nI (frS ce st mo (8 - r) (fsS ce st mo (fi, 0) r) 12).2)), (2, .int (nI mo)), (1, .int st), (0, .ref a)] [] [(a, .inr (10, [.ref a1, .ref a2, .ref az, .ref a4, .ref a5, .ref a6, .int run, .int fo])), (a1, .inl (1, 108, .inl ce)), (a2, .inl (0, 108, .inl ((frS ce st mo (8 - r) (fsS ce st mo (fi, 0) r) 12).1)))] 0 0) : ∀ (d i : Nat), i ≤ 12 → 12 < i + d → DV g M_Tr_fillStep (fun o cs1 => o = .inl (some (.int (nI (fsS ce st mo (fi, 0) 9).2))) ∧ cs1 = [(a, .inr (10, [.ref a1, .ref a2, .ref az, .ref a4, .ref a5, .ref a6, .int run, .int fo])), (a1, .inl (1, 108, .inl ce)), (a2, .inl (0, 108, .inl ((fsS ce st mo (fi, 0) 9).1)))]) w0 n 14 [(5, .int (nI i)), (4, .int (nI (8 - r))), (3, .int (nI (frS ce st mo (8 - r) (fsS ce st mo (fi, 0) r) i).2)), (2, .int (nI mo)), (1, .int st), (0, .ref a)] [] [(a, .inr (10, [.ref a1, .ref a2, .ref az, .ref a4, .ref a5, .ref a6, .int run, .int fo])), (a1, .inl (1, 108, .inl ce)), (a2, .inl (0, 108, .inl ((frS ce st mo (8 - r) (fsS ce st mo (fi, 0) r) i).1)))] 0 0 := by
  intro d
  induction d with
  | zero => intro i h1 h2 ; exact absurd h2 (by omega)
  | succ d ih =>
    intro i h1 h2 
    refine r_iload d_Tr_fillStep_14 0 rfl ?_
    refine r_bipush d_Tr_fillStep_16 (v := 12) (by decide) ?_
    refine r_icmp_ge (tgt := 86) d_Tr_fillStep_18 (by decide) (fun c_18 => ?_) (fun c_18 => ?_)
    · have hn := z_le (a := 12) (by omega) (by decide) c_18
      have hx : (frS ce st mo (8 - r) (fsS ce st mo (fi, 0) r) i) = (frS ce st mo (8 - r) (fsS ce st mo (fi, 0) r) 12) := by rw [show i = 12 by omega]
      refine r_lv (lv' := [(4, .int (nI (8 - r))), (3, .int (nI (frS ce st mo (8 - r) (fsS ce st mo (fi, 0) r) i).2)), (2, .int (nI mo)), (1, .int st), (0, .ref a)]) [1, 2, 3, 4, 5] rfl ?_
      refine r_lvE (lv2 := [(4, .int (nI (8 - r))), (3, .int (nI (frS ce st mo (8 - r) (fsS ce st mo (fi, 0) r) 12).2)), (2, .int (nI mo)), (1, .int st), (0, .ref a)]) (by rw [hx]) ?_
      refine r_cs (cs2 := [(a, .inr (10, [.ref a1, .ref a2, .ref az, .ref a4, .ref a5, .ref a6, .int run, .int fo])), (a1, .inl (1, 108, .inl ce)), (a2, .inl (0, 108, .inl ((frS ce st mo (8 - r) (fsS ce st mo (fi, 0) r) 12).1)))]) (by rw [hx]) ?_
      exact K
    · have hn := z_nle (a := 12) (by omega) (by decide) c_18
      have hle := frS_le (ce := ce) (st := st) (row := 8 - r) (fsS_le (ce := ce) (st := st) (s := (fi, 0)) (Nat.zero_le mo) r) i
      refine r_iload_n d_Tr_fillStep_21 rfl 2 rfl ?_
      refine r_iload_n d_Tr_fillStep_22 rfl 3 rfl ?_
      refine r_icmp_ge (tgt := 86) d_Tr_fillStep_23 (by decide) (fun c_23 => ?_) (fun c_23 => ?_)
      · have hm := z_le (by omega) (by omega) c_23
        have hx : (frS ce st mo (8 - r) (fsS ce st mo (fi, 0) r) i) = (frS ce st mo (8 - r) (fsS ce st mo (fi, 0) r) 12) := by have := frS_stop hm (12 - i); rw [show i + (12 - i) = 12 by omega] at this; exact this.symm
        refine r_lv (lv' := [(4, .int (nI (8 - r))), (3, .int (nI (frS ce st mo (8 - r) (fsS ce st mo (fi, 0) r) i).2)), (2, .int (nI mo)), (1, .int st), (0, .ref a)]) [1, 2, 3, 4, 5] rfl ?_
        refine r_lvE (lv2 := [(4, .int (nI (8 - r))), (3, .int (nI (frS ce st mo (8 - r) (fsS ce st mo (fi, 0) r) 12).2)), (2, .int (nI mo)), (1, .int st), (0, .ref a)]) (by rw [hx]) ?_
        refine r_cs (cs2 := [(a, .inr (10, [.ref a1, .ref a2, .ref az, .ref a4, .ref a5, .ref a6, .int run, .int fo])), (a1, .inl (1, 108, .inl ce)), (a2, .inl (0, 108, .inl ((frS ce st mo (8 - r) (fsS ce st mo (fi, 0) r) 12).1)))]) (by rw [hx]) ?_
        exact K
      · have hm := z_nle (by omega) (by omega) c_23
        refine r_iload d_Tr_fillStep_26 1 rfl ?_
        refine r_bipush d_Tr_fillStep_28 (v := 12) (by decide) ?_
        refine r_imul d_Tr_fillStep_30 (v := nI ((8 - r) * 12)) (pk_mul _ _) ?_
        refine r_iload d_Tr_fillStep_31 0 rfl ?_
        refine r_iadd d_Tr_fillStep_33 (v := nI (12 * (8 - r) + i)) (by rw [nI_add]; congr 1; omega) ?_
        refine r_istore (lv' := [(6, .int (nI (12 * (8 - r) + i))), (5, .int (nI i)), (4, .int (nI (8 - r))), (3, .int (nI (frS ce st mo (8 - r) (fsS ce st mo (fi, 0) r) i).2)), (2, .int (nI mo)), (1, .int st), (0, .ref a)]) d_Tr_fillStep_34 (by decide) rfl ?_
        refine r_aload_n d_Tr_fillStep_36 rfl 6 rfl ?_
        refine r_get fs_Tr_15 d_Tr_fillStep_37 (q0 := 0) rfl rfl ?_
        refine r_iload d_Tr_fillStep_40 0 rfl ?_
        refine r_iald d_Tr_fillStep_42 (q0 := 2) rfl (vp_in_nI (by omega) (by omega)) (v := ((frS ce st mo (8 - r) (fsS ce st mo (fi, 0) r) i).1) (12 * (8 - r) + i)) (by rw [nI_clamp (by omega)]) ?_
        refine r_if_ge (tgt := 80) d_Tr_fillStep_43 (by decide) (fun c_43 => ?_) (fun c_43 => ?_)
        · have hq : ¬ fcP ce st mo (12 * (8 - r) + i) (frS ce st mo (8 - r) (fsS ce st mo (fi, 0) r) i) := fun q => absurd q.2.1 (Int32.not_lt.mpr c_43)
          refine r_iinc (lv' := [(5, .int (nI (i + 1))), (6, .int (nI (12 * (8 - r) + i))), (4, .int (nI (8 - r))), (3, .int (nI (frS ce st mo (8 - r) (fsS ce st mo (fi, 0) r) i).2)), (2, .int (nI mo)), (1, .int st), (0, .ref a)]) (v := nI (i + 1)) d_Tr_fillStep_80 (j := 1) rfl (nI_add _ _) (by decide) rfl ?_
          refine r_goto (tgt := 14) d_Tr_fillStep_83 (by decide) ?_
          refine r_lv (lv' := [(5, .int (nI (i + 1))), (4, .int (nI (8 - r))), (3, .int (nI (frS ce st mo (8 - r) (fsS ce st mo (fi, 0) r) i).2)), (2, .int (nI mo)), (1, .int st), (0, .ref a)]) [0, 2, 3, 4, 5, 6] rfl ?_
          refine r_lvE (lv2 := [(5, .int (nI (i + 1))), (4, .int (nI (8 - r))), (3, .int (nI (frS ce st mo (8 - r) (fsS ce st mo (fi, 0) r) (i + 1)).2)), (2, .int (nI mo)), (1, .int st), (0, .ref a)]) (by first | (rw [show (frS ce st mo (8 - r) (fsS ce st mo (fi, 0) r) (i + 1)) = fcS ce st mo (12 * (8 - r) + i) (frS ce st mo (8 - r) (fsS ce st mo (fi, 0) r) i) from rfl, fcS_t hq] <;> rfl) | (rw [show (frS ce st mo (8 - r) (fsS ce st mo (fi, 0) r) (i + 1)) = fcS ce st mo (12 * (8 - r) + i) (frS ce st mo (8 - r) (fsS ce st mo (fi, 0) r) i) from rfl, fcS_f hq] <;> rfl)) ?_
          refine r_cs (cs2 := [(a, .inr (10, [.ref a1, .ref a2, .ref az, .ref a4, .ref a5, .ref a6, .int run, .int fo])), (a1, .inl (1, 108, .inl ce)), (a2, .inl (0, 108, .inl ((frS ce st mo (8 - r) (fsS ce st mo (fi, 0) r) (i + 1)).1)))]) (by first | (rw [show (frS ce st mo (8 - r) (fsS ce st mo (fi, 0) r) (i + 1)) = fcS ce st mo (12 * (8 - r) + i) (frS ce st mo (8 - r) (fsS ce st mo (fi, 0) r) i) from rfl, fcS_t hq] <;> rfl) | (rw [show (frS ce st mo (8 - r) (fsS ce st mo (fi, 0) r) (i + 1)) = fcS ce st mo (12 * (8 - r) + i) (frS ce st mo (8 - r) (fsS ce st mo (fi, 0) r) i) from rfl, fcS_f hq] <;> rfl)) ?_
          exact ih (i + 1) (by omega) (by omega)
        · have h43 := Int32.not_le.mp c_43
          refine r_aload_n d_Tr_fillStep_46 rfl 6 rfl ?_
          refine r_get fs_Tr_9 d_Tr_fillStep_47 (q0 := 0) rfl rfl ?_
          refine r_iload d_Tr_fillStep_50 0 rfl ?_
          refine r_cald d_Tr_fillStep_52 (q0 := 1) rfl (vp_in_nI (by omega) (by omega)) (v := ce (12 * (8 - r) + i)) (by rw [nI_clamp (by omega)]) ?_
          refine r_callSN (As := [.int (ce (12 * (8 - r) + i))]) (rest := []) (csC := []) (is := []) ln_Tr_64 w_st_Ip_takesMetal ok_Tr_fillStep_Ip_takesMetal d_Tr_fillStep_53 (C_Ip_takesMetal g (ce (12 * (8 - r) + i))) rfl rfl (Nat.le_of_ble_eq_true rfl) rfl (by decide) (by omega) (by omega) (fun E cs1 hx => ?_) (fun v cs1 hx => ?_)
          · exact absurd hx.1 (by simp)
          · obtain ⟨e1, rfl⟩ := hx
            cases e1
            refine ⟨rfl, ?_⟩
            refine r_st (st2 := [.int (z_bi (tmB (ce (12 * (8 - r) + i))))]) rfl ?_
            refine r_cs (cs2 := [(a, .inr (10, [.ref a1, .ref a2, .ref az, .ref a4, .ref a5, .ref a6, .int run, .int fo])), (a1, .inl (1, 108, .inl ce)), (a2, .inl (0, 108, .inl ((frS ce st mo (8 - r) (fsS ce st mo (fi, 0) r) i).1)))]) rfl ?_
            refine r_if_eq (tgt := 80) d_Tr_fillStep_56 (by decide) (fun c_56 => ?_) (fun c_56 => ?_)
            · have hq : ¬ fcP ce st mo (12 * (8 - r) + i) (frS ce st mo (8 - r) (fsS ce st mo (fi, 0) r) i) := fun q => by have := z_bi0 c_56; rw [q.2.2.1] at this; cases this
              refine r_iinc (lv' := [(5, .int (nI (i + 1))), (6, .int (nI (12 * (8 - r) + i))), (4, .int (nI (8 - r))), (3, .int (nI (frS ce st mo (8 - r) (fsS ce st mo (fi, 0) r) i).2)), (2, .int (nI mo)), (1, .int st), (0, .ref a)]) (v := nI (i + 1)) d_Tr_fillStep_80 (j := 1) rfl (nI_add _ _) (by decide) rfl ?_
              refine r_goto (tgt := 14) d_Tr_fillStep_83 (by decide) ?_
              refine r_lv (lv' := [(5, .int (nI (i + 1))), (4, .int (nI (8 - r))), (3, .int (nI (frS ce st mo (8 - r) (fsS ce st mo (fi, 0) r) i).2)), (2, .int (nI mo)), (1, .int st), (0, .ref a)]) [0, 2, 3, 4, 5, 6] rfl ?_
              refine r_lvE (lv2 := [(5, .int (nI (i + 1))), (4, .int (nI (8 - r))), (3, .int (nI (frS ce st mo (8 - r) (fsS ce st mo (fi, 0) r) (i + 1)).2)), (2, .int (nI mo)), (1, .int st), (0, .ref a)]) (by first | (rw [show (frS ce st mo (8 - r) (fsS ce st mo (fi, 0) r) (i + 1)) = fcS ce st mo (12 * (8 - r) + i) (frS ce st mo (8 - r) (fsS ce st mo (fi, 0) r) i) from rfl, fcS_t hq] <;> rfl) | (rw [show (frS ce st mo (8 - r) (fsS ce st mo (fi, 0) r) (i + 1)) = fcS ce st mo (12 * (8 - r) + i) (frS ce st mo (8 - r) (fsS ce st mo (fi, 0) r) i) from rfl, fcS_f hq] <;> rfl)) ?_
              refine r_cs (cs2 := [(a, .inr (10, [.ref a1, .ref a2, .ref az, .ref a4, .ref a5, .ref a6, .int run, .int fo])), (a1, .inl (1, 108, .inl ce)), (a2, .inl (0, 108, .inl ((frS ce st mo (8 - r) (fsS ce st mo (fi, 0) r) (i + 1)).1)))]) (by first | (rw [show (frS ce st mo (8 - r) (fsS ce st mo (fi, 0) r) (i + 1)) = fcS ce st mo (12 * (8 - r) + i) (frS ce st mo (8 - r) (fsS ce st mo (fi, 0) r) i) from rfl, fcS_t hq] <;> rfl) | (rw [show (frS ce st mo (8 - r) (fsS ce st mo (fi, 0) r) (i + 1)) = fcS ce st mo (12 * (8 - r) + i) (frS ce st mo (8 - r) (fsS ce st mo (fi, 0) r) i) from rfl, fcS_f hq] <;> rfl)) ?_
              exact ih (i + 1) (by omega) (by omega)
            · have h56 := z_bi1 c_56
              refine r_aload_n d_Tr_fillStep_59 rfl 6 rfl ?_
              refine r_iload d_Tr_fillStep_60 0 rfl ?_
              refine r_iload_n d_Tr_fillStep_62 rfl 5 rfl ?_
              refine r_callV (As := [.int (nI (12 * (8 - r) + i)), .int st]) (rest := []) (csC := [(a, .inr (10, [.ref a1, .ref a2, .ref az, .ref a4, .ref a5, .ref a6, .int run, .int fo])), (a1, .inl (1, 108, .inl ce)), (a2, .inl (0, 108, .inl ((frS ce st mo (8 - r) (fsS ce st mo (fi, 0) r) i).1)))]) (is := [0, 1, 2]) (q0 := 0) rfl rfl ln_Tr_68 w_im_Tr_isBesideFilled w_se_Tr_isBesideFilled ok_Tr_fillStep_Tr_isBesideFilled d_Tr_fillStep_63 (C_Tr_isBesideFilled g a a1 a2 az a4 a5 a6 run fo ce (frS ce st mo (8 - r) (fsS ce st mo (fi, 0) r) i).1 (12 * (8 - r) + i) (by omega) st) rfl rfl (Nat.le_of_ble_eq_true rfl) rfl (by decide) (by omega) (by omega) (fun E cs1 hx => ?_) (fun v cs1 hx => ?_)
              · exact absurd hx.1 (by simp)
              · obtain ⟨e1, rfl⟩ := hx
                cases e1
                refine ⟨rfl, ?_⟩
                refine r_st (st2 := [.int (z_bi (bfB (frS ce st mo (8 - r) (fsS ce st mo (fi, 0) r) i).1 (12 * (8 - r) + i) st 4))]) rfl ?_
                refine r_cs (cs2 := [(a, .inr (10, [.ref a1, .ref a2, .ref az, .ref a4, .ref a5, .ref a6, .int run, .int fo])), (a1, .inl (1, 108, .inl ce)), (a2, .inl (0, 108, .inl ((frS ce st mo (8 - r) (fsS ce st mo (fi, 0) r) i).1)))]) rfl ?_
                refine r_if_eq (tgt := 80) d_Tr_fillStep_66 (by decide) (fun c_66 => ?_) (fun c_66 => ?_)
                · have hq : ¬ fcP ce st mo (12 * (8 - r) + i) (frS ce st mo (8 - r) (fsS ce st mo (fi, 0) r) i) := fun q => by have := z_bi0 c_66; rw [q.2.2.2] at this; cases this
                  refine r_iinc (lv' := [(5, .int (nI (i + 1))), (6, .int (nI (12 * (8 - r) + i))), (4, .int (nI (8 - r))), (3, .int (nI (frS ce st mo (8 - r) (fsS ce st mo (fi, 0) r) i).2)), (2, .int (nI mo)), (1, .int st), (0, .ref a)]) (v := nI (i + 1)) d_Tr_fillStep_80 (j := 1) rfl (nI_add _ _) (by decide) rfl ?_
                  refine r_goto (tgt := 14) d_Tr_fillStep_83 (by decide) ?_
                  refine r_lv (lv' := [(5, .int (nI (i + 1))), (4, .int (nI (8 - r))), (3, .int (nI (frS ce st mo (8 - r) (fsS ce st mo (fi, 0) r) i).2)), (2, .int (nI mo)), (1, .int st), (0, .ref a)]) [0, 2, 3, 4, 5, 6] rfl ?_
                  refine r_lvE (lv2 := [(5, .int (nI (i + 1))), (4, .int (nI (8 - r))), (3, .int (nI (frS ce st mo (8 - r) (fsS ce st mo (fi, 0) r) (i + 1)).2)), (2, .int (nI mo)), (1, .int st), (0, .ref a)]) (by first | (rw [show (frS ce st mo (8 - r) (fsS ce st mo (fi, 0) r) (i + 1)) = fcS ce st mo (12 * (8 - r) + i) (frS ce st mo (8 - r) (fsS ce st mo (fi, 0) r) i) from rfl, fcS_t hq] <;> rfl) | (rw [show (frS ce st mo (8 - r) (fsS ce st mo (fi, 0) r) (i + 1)) = fcS ce st mo (12 * (8 - r) + i) (frS ce st mo (8 - r) (fsS ce st mo (fi, 0) r) i) from rfl, fcS_f hq] <;> rfl)) ?_
                  refine r_cs (cs2 := [(a, .inr (10, [.ref a1, .ref a2, .ref az, .ref a4, .ref a5, .ref a6, .int run, .int fo])), (a1, .inl (1, 108, .inl ce)), (a2, .inl (0, 108, .inl ((frS ce st mo (8 - r) (fsS ce st mo (fi, 0) r) (i + 1)).1)))]) (by first | (rw [show (frS ce st mo (8 - r) (fsS ce st mo (fi, 0) r) (i + 1)) = fcS ce st mo (12 * (8 - r) + i) (frS ce st mo (8 - r) (fsS ce st mo (fi, 0) r) i) from rfl, fcS_t hq] <;> rfl) | (rw [show (frS ce st mo (8 - r) (fsS ce st mo (fi, 0) r) (i + 1)) = fcS ce st mo (12 * (8 - r) + i) (frS ce st mo (8 - r) (fsS ce st mo (fi, 0) r) i) from rfl, fcS_f hq] <;> rfl)) ?_
                  exact ih (i + 1) (by omega) (by omega)
                · have hq : fcP ce st mo (12 * (8 - r) + i) (frS ce st mo (8 - r) (fsS ce st mo (fi, 0) r) i) := ⟨hm, h43, h56, z_bi1 c_66⟩
                  refine r_aload_n d_Tr_fillStep_69 rfl 6 rfl ?_
                  refine r_get fs_Tr_15 d_Tr_fillStep_70 (q0 := 0) rfl rfl ?_
                  refine r_iload d_Tr_fillStep_73 0 rfl ?_
                  refine r_iload_n d_Tr_fillStep_75 rfl 5 rfl ?_
                  refine r_iast d_Tr_fillStep_76 (q0 := 2) rfl (vp_in_nI (by omega) (by omega)) (f' := upd ((frS ce st mo (8 - r) (fsS ce st mo (fi, 0) r) i).1) (12 * (8 - r) + i) st) (by rw [nI_clamp (by omega)]) (cs' := [(a, .inr (10, [.ref a1, .ref a2, .ref az, .ref a4, .ref a5, .ref a6, .int run, .int fo])), (a1, .inl (1, 108, .inl ce)), (a2, .inl (0, 108, .inl (upd ((frS ce st mo (8 - r) (fsS ce st mo (fi, 0) r) i).1) (12 * (8 - r) + i) st)))]) rfl ?_
                  refine r_iinc (lv' := [(3, .int (nI ((frS ce st mo (8 - r) (fsS ce st mo (fi, 0) r) i).2 + 1))), (6, .int (nI (12 * (8 - r) + i))), (5, .int (nI i)), (4, .int (nI (8 - r))), (2, .int (nI mo)), (1, .int st), (0, .ref a)]) (v := nI ((frS ce st mo (8 - r) (fsS ce st mo (fi, 0) r) i).2 + 1)) d_Tr_fillStep_77 (j := 3) rfl (nI_add _ _) (by decide) rfl ?_
                  refine r_iinc (lv' := [(5, .int (nI (i + 1))), (3, .int (nI ((frS ce st mo (8 - r) (fsS ce st mo (fi, 0) r) i).2 + 1))), (6, .int (nI (12 * (8 - r) + i))), (4, .int (nI (8 - r))), (2, .int (nI mo)), (1, .int st), (0, .ref a)]) (v := nI (i + 1)) d_Tr_fillStep_80 (j := 2) rfl (nI_add _ _) (by decide) rfl ?_
                  refine r_goto (tgt := 14) d_Tr_fillStep_83 (by decide) ?_
                  refine r_lv (lv' := [(5, .int (nI (i + 1))), (4, .int (nI (8 - r))), (3, .int (nI ((frS ce st mo (8 - r) (fsS ce st mo (fi, 0) r) i).2 + 1))), (2, .int (nI mo)), (1, .int st), (0, .ref a)]) [0, 3, 1, 4, 5, 6] rfl ?_
                  refine r_lvE (lv2 := [(5, .int (nI (i + 1))), (4, .int (nI (8 - r))), (3, .int (nI (frS ce st mo (8 - r) (fsS ce st mo (fi, 0) r) (i + 1)).2)), (2, .int (nI mo)), (1, .int st), (0, .ref a)]) (by first | (rw [show (frS ce st mo (8 - r) (fsS ce st mo (fi, 0) r) (i + 1)) = fcS ce st mo (12 * (8 - r) + i) (frS ce st mo (8 - r) (fsS ce st mo (fi, 0) r) i) from rfl, fcS_t hq] <;> rfl) | (rw [show (frS ce st mo (8 - r) (fsS ce st mo (fi, 0) r) (i + 1)) = fcS ce st mo (12 * (8 - r) + i) (frS ce st mo (8 - r) (fsS ce st mo (fi, 0) r) i) from rfl, fcS_f hq] <;> rfl)) ?_
                  refine r_cs (cs2 := [(a, .inr (10, [.ref a1, .ref a2, .ref az, .ref a4, .ref a5, .ref a6, .int run, .int fo])), (a1, .inl (1, 108, .inl ce)), (a2, .inl (0, 108, .inl ((frS ce st mo (8 - r) (fsS ce st mo (fi, 0) r) (i + 1)).1)))]) (by first | (rw [show (frS ce st mo (8 - r) (fsS ce st mo (fi, 0) r) (i + 1)) = fcS ce st mo (12 * (8 - r) + i) (frS ce st mo (8 - r) (fsS ce st mo (fi, 0) r) i) from rfl, fcS_t hq] <;> rfl) | (rw [show (frS ce st mo (8 - r) (fsS ce st mo (fi, 0) r) (i + 1)) = fcS ce st mo (12 * (8 - r) + i) (frS ce st mo (8 - r) (fsS ce st mo (fi, 0) r) i) from rfl, fcS_f hq] <;> rfl)) ?_
                  exact ih (i + 1) (by omega) (by omega)
set_option maxHeartbeats 4000000 in
set_option maxRecDepth 100000 in
theorem L_Tr_fillStep_6 (g : zG) (a a1 a2 az a4 a5 a6 : Nat) (run fo : Int32) (ce fi : Nat → Int32) (st : Int32) (mo : Nat) (hmo : mo < 1000) (w0 : zW) (n : Nat) : ∀ (d r : Nat), r ≤ 9 → 9 < r + d → DV g M_Tr_fillStep (fun o cs1 => o = .inl (some (.int (nI (fsS ce st mo (fi, 0) 9).2))) ∧ cs1 = [(a, .inr (10, [.ref a1, .ref a2, .ref az, .ref a4, .ref a5, .ref a6, .int run, .int fo])), (a1, .inl (1, 108, .inl ce)), (a2, .inl (0, 108, .inl ((fsS ce st mo (fi, 0) 9).1)))]) w0 n 6 [(4, .int (rwI r)), (3, .int (nI (fsS ce st mo (fi, 0) r).2)), (2, .int (nI mo)), (1, .int st), (0, .ref a)] [] [(a, .inr (10, [.ref a1, .ref a2, .ref az, .ref a4, .ref a5, .ref a6, .int run, .int fo])), (a1, .inl (1, 108, .inl ce)), (a2, .inl (0, 108, .inl ((fsS ce st mo (fi, 0) r).1)))] 0 0 := by
  intro d
  induction d with
  | zero => intro r h1 h2 ; exact absurd h2 (by omega)
  | succ d ih =>
    intro r h1 h2 
    refine r_iload d_Tr_fillStep_6 0 rfl ?_
    refine r_if_lt (tgt := 92) d_Tr_fillStep_8 (by decide) (fun c_8 => ?_) (fun c_8 => ?_)
    · have hr := (rwI_neg r (by omega)).mp c_8
      obtain rfl : r = 9 := hr
      refine r_iload_n d_Tr_fillStep_92 rfl 1 rfl ?_
      refine r_iret d_Tr_fillStep_93 rfl rfl ?_
      exact ⟨rfl, rfl⟩
    · have hr : r < 9 := by have := mt (rwI_neg r (by omega)).mpr c_8; omega
      rw [rwI_n hr]
      refine r_iconst d_Tr_fillStep_11 (v := 0) (by decide) ?_
      refine r_istore (lv' := [(5, .int 0), (4, .int (nI (8 - r))), (3, .int (nI (fsS ce st mo (fi, 0) r).2)), (2, .int (nI mo)), (1, .int st), (0, .ref a)]) d_Tr_fillStep_12 (by decide) rfl ?_
      refine r_lvE (lv2 := [(5, .int (nI 0)), (4, .int (nI (8 - r))), (3, .int (nI (frS ce st mo (8 - r) (fsS ce st mo (fi, 0) r) 0).2)), (2, .int (nI mo)), (1, .int st), (0, .ref a)]) (rfl) ?_
      refine r_cs (cs2 := [(a, .inr (10, [.ref a1, .ref a2, .ref az, .ref a4, .ref a5, .ref a6, .int run, .int fo])), (a1, .inl (1, 108, .inl ce)), (a2, .inl (0, 108, .inl ((frS ce st mo (8 - r) (fsS ce st mo (fi, 0) r) 0).1)))]) (rfl) ?_
      refine L_Tr_fillStep_14 g a a1 a2 az a4 a5 a6 run fo ce fi st mo hmo w0 _ r hr (?_) (12 + 1) 0 (Nat.zero_le _) (by omega)
      refine r_iinc (lv' := [(4, .int (rwI (r + 1))), (3, .int (nI (frS ce st mo (8 - r) (fsS ce st mo (fi, 0) r) 12).2)), (2, .int (nI mo)), (1, .int st), (0, .ref a)]) (v := rwI (r + 1)) d_Tr_fillStep_86 (j := 0) rfl (by rw [← rwI_n hr]; exact rwI_s r hr) (by decide) rfl ?_
      refine r_goto (tgt := 6) d_Tr_fillStep_89 (by decide) ?_
      refine r_lvE (lv2 := [(4, .int (rwI (r + 1))), (3, .int (nI (fsS ce st mo (fi, 0) (r + 1)).2)), (2, .int (nI mo)), (1, .int st), (0, .ref a)]) (rfl) ?_
      refine r_cs (cs2 := [(a, .inr (10, [.ref a1, .ref a2, .ref az, .ref a4, .ref a5, .ref a6, .int run, .int fo])), (a1, .inl (1, 108, .inl ce)), (a2, .inl (0, 108, .inl ((fsS ce st mo (fi, 0) (r + 1)).1)))]) (rfl) ?_
      exact ih (r + 1) (by omega) (by omega)
set_option maxHeartbeats 4000000 in
set_option maxRecDepth 100000 in
theorem C_Tr_fillStep (g : zG) (a a1 a2 az a4 a5 a6 : Nat) (run fo : Int32) (ce fi : Nat → Int32) (st : Int32) (mo : Nat) (hmo : mo < 1000) : CT g M_Tr_fillStep [.ref a, .int st, .int (nI mo)] [(a, .inr (10, [.ref a1, .ref a2, .ref az, .ref a4, .ref a5, .ref a6, .int run, .int fo])), (a1, .inl (1, 108, .inl ce)), (a2, .inl (0, 108, .inl fi))] (fun o cs1 => o = .inl (some (.int (nI (fsS ce st mo (fi, 0) 9).2))) ∧ cs1 = [(a, .inr (10, [.ref a1, .ref a2, .ref az, .ref a4, .ref a5, .ref a6, .int run, .int fo])), (a1, .inl (1, 108, .inl ce)), (a2, .inl (0, 108, .inl ((fsS ce st mo (fi, 0) 9).1)))]) 0 0 := by
  refine z_of (by decide) rfl (Nat.le_of_ble_eq_true rfl) (fun w0 => ?_)
  refine r_lvE (lv2 := [(0, .ref a), (1, .int st), (2, .int (nI mo))]) rfl ?_
  refine r_iconst d_Tr_fillStep_0 (v := 0) (by decide) ?_
  refine r_istore_n (lv' := [(3, .int 0), (0, .ref a), (1, .int st), (2, .int (nI mo))]) d_Tr_fillStep_1 rfl (by decide) rfl ?_
  refine r_bipush d_Tr_fillStep_2 (v := 8) (by decide) ?_
  refine r_istore (lv' := [(4, .int 8), (3, .int 0), (0, .ref a), (1, .int st), (2, .int (nI mo))]) d_Tr_fillStep_4 (by decide) rfl ?_
  refine r_lv (lv' := [(4, .int 8), (3, .int 0), (2, .int (nI mo)), (1, .int st), (0, .ref a)]) [0, 1, 4, 3, 2] rfl ?_
  refine r_lvE (lv2 := [(4, .int (rwI 0)), (3, .int (nI (fsS ce st mo (fi, 0) 0).2)), (2, .int (nI mo)), (1, .int st), (0, .ref a)]) (rfl) ?_
  refine r_cs (cs2 := [(a, .inr (10, [.ref a1, .ref a2, .ref az, .ref a4, .ref a5, .ref a6, .int run, .int fo])), (a1, .inl (1, 108, .inl ce)), (a2, .inl (0, 108, .inl ((fsS ce st mo (fi, 0) 0).1)))]) (rfl) ?_
  exact L_Tr_fillStep_6 g a a1 a2 az a4 a5 a6 run fo ce fi st mo hmo w0 _  (9 + 1) 0 (Nat.zero_le _) (by omega)
abbrev M_Tr_fill : zM := (⟨"Ironpour$Trial", "fill", "()V"⟩, prog_12_method_3_code, 4, (Option.none : Option FieldType), 4, 91, [])
theorem d_Tr_fill_0 : decode prog_12_method_3_code 0 = .ok (.aload_n 0, 1) := zo_42 (zd_b zq_prog_12_method_3_code_0 0 rfl rfl rfl)
theorem d_Tr_fill_1 : decode prog_12_method_3_code 1 = .ok (.getfield 42, 3) := zo_180 (d := 0) (e := 42) (zd_b zq_prog_12_method_3_code_0 1 rfl rfl rfl) (zd_b zq_prog_12_method_3_code_0 2 rfl rfl rfl) (zd_b zq_prog_12_method_3_code_0 3 rfl rfl rfl)
theorem fs_Tr_42 : z_fs "Ironpour$Trial" 42 10 6 := ⟨R_Tr, "Ironpour$Trial", F_Tr, 8, rfl, u_Tr, by decide, Or.inl ⟨z_mj1 (i := 119) rfl (by decide +kernel), Or.inl rfl⟩⟩
theorem d_Tr_fill_4 : decode prog_12_method_3_code 4 = .ok (.ifCond .eq 4, 3) := zo_153 (d := 0) (e := 4) (zd_b zq_prog_12_method_3_code_0 4 rfl rfl rfl) (zd_b zq_prog_12_method_3_code_0 5 rfl rfl rfl) (zd_b zq_prog_12_method_3_code_0 6 rfl rfl rfl) (by decide +kernel)
theorem d_Tr_fill_7 : decode prog_12_method_3_code 7 = .ok (.return_, 1) := zo_177 (zd_b zq_prog_12_method_3_code_0 7 rfl rfl rfl)
set_option maxHeartbeats 4000000 in
set_option maxRecDepth 100000 in
theorem C_Tr_fillR (g : zG) (a a1 a2 az a4 a5 a6 : Nat) (run fo : Int32) (ce fi : Nat → Int32) (hr : ¬ run = 0) : CT g M_Tr_fill [.ref a] [(a, .inr (10, [.ref a1, .ref a2, .ref az, .ref a4, .ref a5, .ref a6, .int run, .int fo])), (a1, .inl (1, 108, .inl ce)), (a2, .inl (0, 108, .inl fi))] (fun o cs1 => o = .inl none ∧ cs1 = [(a, .inr (10, [.ref a1, .ref a2, .ref az, .ref a4, .ref a5, .ref a6, .int run, .int fo])), (a1, .inl (1, 108, .inl ce)), (a2, .inl (0, 108, .inl fi))]) 0 0 := by
  refine z_of (by decide) rfl (Nat.le_of_ble_eq_true rfl) (fun w0 => ?_)
  refine r_lvE (lv2 := [(0, .ref a)]) rfl ?_
  refine r_aload_n d_Tr_fill_0 rfl 0 rfl ?_
  refine r_get fs_Tr_42 d_Tr_fill_1 (q0 := 0) rfl rfl ?_
  refine r_if_eq (tgt := 8) d_Tr_fill_4 (by decide) (fun c_4 => ?_) (fun c_4 => ?_)
  · exact absurd c_4 hr
  · refine r_vret d_Tr_fill_7 rfl ?_
    exact ⟨rfl, rfl⟩
theorem d_Tr_fill_30 : decode prog_12_method_3_code 30 = .ok (.iload_n 3, 1) := zo_29 (zd_b zq_prog_12_method_3_code_0 30 rfl rfl rfl)
theorem d_Tr_fill_31 : decode prog_12_method_3_code 31 = .ok (.bipush 108, 2) := zo_16 (d := 108) (zd_b zq_prog_12_method_3_code_0 31 rfl rfl rfl) (zd_b zq_prog_12_method_3_code_1 0 rfl rfl rfl) (by decide +kernel)
theorem d_Tr_fill_33 : decode prog_12_method_3_code 33 = .ok (.if_icmp .ge 20, 3) := zo_162 (d := 0) (e := 20) (zd_b zq_prog_12_method_3_code_1 1 rfl rfl rfl) (zd_b zq_prog_12_method_3_code_1 2 rfl rfl rfl) (zd_b zq_prog_12_method_3_code_1 3 rfl rfl rfl) (by decide +kernel)
theorem d_Tr_fill_53 : decode prog_12_method_3_code 53 = .ok (.return_, 1) := zo_177 (zd_b zq_prog_12_method_3_code_1 21 rfl rfl rfl)
theorem d_Tr_fill_36 : decode prog_12_method_3_code 36 = .ok (.iload_n 2, 1) := zo_28 (zd_b zq_prog_12_method_3_code_1 4 rfl rfl rfl)
theorem d_Tr_fill_37 : decode prog_12_method_3_code 37 = .ok (.ifCond .le 16, 3) := zo_158 (d := 0) (e := 16) (zd_b zq_prog_12_method_3_code_1 5 rfl rfl rfl) (zd_b zq_prog_12_method_3_code_1 6 rfl rfl rfl) (zd_b zq_prog_12_method_3_code_1 7 rfl rfl rfl) (by decide +kernel)
theorem d_Tr_fill_40 : decode prog_12_method_3_code 40 = .ok (.aload_n 0, 1) := zo_42 (zd_b zq_prog_12_method_3_code_1 8 rfl rfl rfl)
theorem d_Tr_fill_41 : decode prog_12_method_3_code 41 = .ok (.iload_n 3, 1) := zo_29 (zd_b zq_prog_12_method_3_code_1 9 rfl rfl rfl)
theorem d_Tr_fill_42 : decode prog_12_method_3_code 42 = .ok (.iload_n 1, 1) := zo_27 (zd_b zq_prog_12_method_3_code_1 10 rfl rfl rfl)
theorem d_Tr_fill_43 : decode prog_12_method_3_code 43 = .ok (.invokevirtual 60, 3) := zo_182 (d := 0) (e := 60) (zd_b zq_prog_12_method_3_code_1 11 rfl rfl rfl) (zd_b zq_prog_12_method_3_code_1 12 rfl rfl rfl) (zd_b zq_prog_12_method_3_code_1 13 rfl rfl rfl)
theorem ok_Tr_fill_Tr_fillStep : z_ok M_Tr_fill M_Tr_fillStep 2 := ⟨z_mj2 (i := 223) rfl (by decide +kernel), rfl, ⟨by decide +kernel, by decide +kernel, by decide +kernel⟩, ⟨by decide, by decide⟩, z_mj1 (i := 3) rfl (by decide +kernel), rfl⟩
theorem ln_Tr_60 : Cond.methodLink "Ironpour$Trial" 60 M_Tr_fillStep.1 ∈ z_gw := z_mj2 (i := 220) rfl (by decide +kernel)
theorem w_im_Tr_fillStep : Cond.instanceMethod M_Tr_fillStep.1 ∈ z_gw := z_mj2 (i := 222) rfl (by decide +kernel)
theorem w_se_Tr_fillStep : Cond.selects M_Tr_fillStep.1.cls M_Tr_fillStep.1 M_Tr_fillStep.1 ∈ z_gw := z_mem (i := 7) (by decide +kernel) (by decide +kernel)
theorem d_Tr_fill_46 : decode prog_12_method_3_code 46 = .ok (.istore_n 2, 1) := zo_61 (zd_b zq_prog_12_method_3_code_1 14 rfl rfl rfl)
theorem d_Tr_fill_47 : decode prog_12_method_3_code 47 = .ok (.iinc 3 1, 3) := by decide +kernel
theorem d_Tr_fill_50 : decode prog_12_method_3_code 50 = .ok (.goto (-20), 3) := zo_167 (d := 255) (e := 236) (zd_b zq_prog_12_method_3_code_1 18 rfl rfl rfl) (zd_b zq_prog_12_method_3_code_1 19 rfl rfl rfl) (zd_b zq_prog_12_method_3_code_1 20 rfl rfl rfl) (by decide +kernel)
theorem d_Tr_fill_8 : decode prog_12_method_3_code 8 = .ok (.aload_n 0, 1) := zo_42 (zd_b zq_prog_12_method_3_code_0 8 rfl rfl rfl)
theorem d_Tr_fill_9 : decode prog_12_method_3_code 9 = .ok (.iconst 1, 1) := zo_4 (zd_b zq_prog_12_method_3_code_0 9 rfl rfl rfl)
theorem d_Tr_fill_10 : decode prog_12_method_3_code 10 = .ok (.putfield 42, 3) := zo_181 (d := 0) (e := 42) (zd_b zq_prog_12_method_3_code_0 10 rfl rfl rfl) (zd_b zq_prog_12_method_3_code_0 11 rfl rfl rfl) (zd_b zq_prog_12_method_3_code_0 12 rfl rfl rfl)
theorem d_Tr_fill_13 : decode prog_12_method_3_code 13 = .ok (.aload_n 0, 1) := zo_42 (zd_b zq_prog_12_method_3_code_0 13 rfl rfl rfl)
theorem d_Tr_fill_14 : decode prog_12_method_3_code 14 = .ok (.getfield 15, 3) := zo_180 (d := 0) (e := 15) (zd_b zq_prog_12_method_3_code_0 14 rfl rfl rfl) (zd_b zq_prog_12_method_3_code_0 15 rfl rfl rfl) (zd_b zq_prog_12_method_3_code_0 16 rfl rfl rfl)
theorem d_Tr_fill_17 : decode prog_12_method_3_code 17 = .ok (.iconst (-1), 1) := zo_2 (zd_b zq_prog_12_method_3_code_0 17 rfl rfl rfl)
theorem d_Tr_fill_18 : decode prog_12_method_3_code 18 = .ok (.invokestatic 50, 3) := zo_184 (d := 0) (e := 50) (zd_b zq_prog_12_method_3_code_0 18 rfl rfl rfl) (zd_b zq_prog_12_method_3_code_0 19 rfl rfl rfl) (zd_b zq_prog_12_method_3_code_0 20 rfl rfl rfl)
theorem ok_Tr_fill_Arrays_fill : z_ok M_Tr_fill M_Arrays_fill 2 := ⟨z_mj2 (i := 215) rfl (by decide +kernel), rfl, ⟨by decide +kernel, by decide +kernel, by decide +kernel⟩, ⟨by decide, by decide⟩, z_mj1 (i := 28) rfl (by decide +kernel), rfl⟩
theorem ln_Tr_50 : Cond.methodLink "Ironpour$Trial" 50 M_Arrays_fill.1 ∈ z_gw := z_mj2 (i := 213) rfl (by decide +kernel)
theorem d_Tr_fill_21 : decode prog_12_method_3_code 21 = .ok (.aload_n 0, 1) := zo_42 (zd_b zq_prog_12_method_3_code_0 21 rfl rfl rfl)
theorem d_Tr_fill_22 : decode prog_12_method_3_code 22 = .ok (.invokevirtual 56, 3) := zo_182 (d := 0) (e := 56) (zd_b zq_prog_12_method_3_code_0 22 rfl rfl rfl) (zd_b zq_prog_12_method_3_code_0 23 rfl rfl rfl) (zd_b zq_prog_12_method_3_code_0 24 rfl rfl rfl)
theorem ok_Tr_fill_Tr_openLeftmostGate : z_ok M_Tr_fill M_Tr_openLeftmostGate 0 := ⟨z_mj2 (i := 219) rfl (by decide +kernel), rfl, ⟨by decide +kernel, by decide +kernel, by decide +kernel⟩, ⟨by decide, by decide⟩, z_mj1 (i := 3) rfl (by decide +kernel), rfl⟩
theorem ln_Tr_56 : Cond.methodLink "Ironpour$Trial" 56 M_Tr_openLeftmostGate.1 ∈ z_gw := z_mj2 (i := 216) rfl (by decide +kernel)
theorem w_im_Tr_openLeftmostGate : Cond.instanceMethod M_Tr_openLeftmostGate.1 ∈ z_gw := z_mj2 (i := 218) rfl (by decide +kernel)
theorem w_se_Tr_openLeftmostGate : Cond.selects M_Tr_openLeftmostGate.1.cls M_Tr_openLeftmostGate.1 M_Tr_openLeftmostGate.1 ∈ z_gw := z_mem (i := 6) (by decide +kernel) (by decide +kernel)
theorem d_Tr_fill_25 : decode prog_12_method_3_code 25 = .ok (.istore_n 1, 1) := zo_60 (zd_b zq_prog_12_method_3_code_0 25 rfl rfl rfl)
theorem d_Tr_fill_26 : decode prog_12_method_3_code 26 = .ok (.iload_n 1, 1) := zo_27 (zd_b zq_prog_12_method_3_code_0 26 rfl rfl rfl)
theorem d_Tr_fill_27 : decode prog_12_method_3_code 27 = .ok (.istore_n 2, 1) := zo_61 (zd_b zq_prog_12_method_3_code_0 27 rfl rfl rfl)
theorem d_Tr_fill_28 : decode prog_12_method_3_code 28 = .ok (.iconst 1, 1) := zo_4 (zd_b zq_prog_12_method_3_code_0 28 rfl rfl rfl)
theorem d_Tr_fill_29 : decode prog_12_method_3_code 29 = .ok (.istore_n 3, 1) := zo_62 (zd_b zq_prog_12_method_3_code_0 29 rfl rfl rfl)
set_option maxHeartbeats 4000000 in
set_option maxRecDepth 100000 in
theorem L_Tr_fill_30 (g : zG) (a a1 a2 az a4 a5 a6 : Nat) (run fo : Int32) (ce fi : Nat → Int32) (w0 : zW) (n : Nat) : ∀ (d i : Nat), i ≤ 107 → 107 < i + d → DV g M_Tr_fill (fun o cs1 => o = .inl none ∧ cs1 = [(a, .inr (10, [.ref a1, .ref a2, .ref az, .ref a4, .ref a5, .ref a6, .int 1, .int fo])), (a1, .inl (1, 108, .inl ce)), (a2, .inl (0, 108, .inl ((fiS ce (ogS ce (fa_fill (fun _ => -1) fi 108) 12).2 (ogS ce (fa_fill (fun _ => -1) fi 108) 12).1 107).1)))]) w0 n 30 [(3, .int (nI (i + 1))), (2, .int (nI (fiS ce (ogS ce (fa_fill (fun _ => -1) fi 108) 12).2 (ogS ce (fa_fill (fun _ => -1) fi 108) 12).1 i).2)), (1, .int (nI (ogS ce (fa_fill (fun _ => -1) fi 108) 12).2)), (0, .ref a)] [] [(a, .inr (10, [.ref a1, .ref a2, .ref az, .ref a4, .ref a5, .ref a6, .int 1, .int fo])), (a1, .inl (1, 108, .inl ce)), (a2, .inl (0, 108, .inl ((fiS ce (ogS ce (fa_fill (fun _ => -1) fi 108) 12).2 (ogS ce (fa_fill (fun _ => -1) fi 108) 12).1 i).1)))] 0 0 := by
  intro d
  induction d with
  | zero => intro i h1 h2 ; exact absurd h2 (by omega)
  | succ d ih =>
    intro i h1 h2 
    refine r_iload_n d_Tr_fill_30 rfl 0 rfl ?_
    refine r_bipush d_Tr_fill_31 (v := 108) (by decide) ?_
    refine r_icmp_ge (tgt := 53) d_Tr_fill_33 (by decide) (fun c_33 => ?_) (fun c_33 => ?_)
    · have hn := z_le (a := 108) (by omega) (by decide) c_33
      have hx : (fiS ce (ogS ce (fa_fill (fun _ => -1) fi 108) 12).2 (ogS ce (fa_fill (fun _ => -1) fi 108) 12).1 i) = (fiS ce (ogS ce (fa_fill (fun _ => -1) fi 108) 12).2 (ogS ce (fa_fill (fun _ => -1) fi 108) 12).1 107) := by rw [show i = 107 by omega]
      refine r_vret d_Tr_fill_53 rfl ?_
      exact ⟨rfl, by rw [hx]⟩
    · have hn := z_nle (a := 108) (by omega) (by decide) c_33
      have hl := fiS_le (ce := ce) (mo := (ogS ce (fa_fill (fun _ => -1) fi 108) 12).2) (f1 := (ogS ce (fa_fill (fun _ => -1) fi 108) 12).1) i
      have hl2 := ogS_le ce (fa_fill (fun _ => -1) fi 108) 12
      refine r_iload_n d_Tr_fill_36 rfl 1 rfl ?_
      refine r_if_le (tgt := 53) d_Tr_fill_37 (by decide) (fun c_37 => ?_) (fun c_37 => ?_)
      · have hz : (fiS ce (ogS ce (fa_fill (fun _ => -1) fi 108) 12).2 (ogS ce (fa_fill (fun _ => -1) fi 108) 12).1 i).2 = 0 := Nat.le_zero.mp (z_le (b := 0) (by decide) (by omega) c_37)
        have hx : (fiS ce (ogS ce (fa_fill (fun _ => -1) fi 108) 12).2 (ogS ce (fa_fill (fun _ => -1) fi 108) 12).1 i) = (fiS ce (ogS ce (fa_fill (fun _ => -1) fi 108) 12).2 (ogS ce (fa_fill (fun _ => -1) fi 108) 12).1 107) := by have := fiS_stop hz (107 - i); rw [show i + (107 - i) = 107 by omega] at this; exact this.symm
        refine r_vret d_Tr_fill_53 rfl ?_
        exact ⟨rfl, by rw [hx]⟩
      · have hz : ¬ (fiS ce (ogS ce (fa_fill (fun _ => -1) fi 108) 12).2 (ogS ce (fa_fill (fun _ => -1) fi 108) 12).1 i).2 = 0 := fun e => c_37 (by rw [e]; decide)
        refine r_aload_n d_Tr_fill_40 rfl 3 rfl ?_
        refine r_iload_n d_Tr_fill_41 rfl 0 rfl ?_
        refine r_iload_n d_Tr_fill_42 rfl 2 rfl ?_
        refine r_callV (As := [.int (nI (i + 1)), .int (nI (ogS ce (fa_fill (fun _ => -1) fi 108) 12).2)]) (rest := []) (csC := [(a, .inr (10, [.ref a1, .ref a2, .ref az, .ref a4, .ref a5, .ref a6, .int 1, .int fo])), (a1, .inl (1, 108, .inl ce)), (a2, .inl (0, 108, .inl ((fiS ce (ogS ce (fa_fill (fun _ => -1) fi 108) 12).2 (ogS ce (fa_fill (fun _ => -1) fi 108) 12).1 i).1)))]) (is := [0, 1, 2]) (q0 := 0) rfl rfl ln_Tr_60 w_im_Tr_fillStep w_se_Tr_fillStep ok_Tr_fill_Tr_fillStep d_Tr_fill_43 (C_Tr_fillStep g a a1 a2 az a4 a5 a6 1 fo ce (fiS ce (ogS ce (fa_fill (fun _ => -1) fi 108) 12).2 (ogS ce (fa_fill (fun _ => -1) fi 108) 12).1 i).1 (nI (i + 1)) (ogS ce (fa_fill (fun _ => -1) fi 108) 12).2 (by have := ogS_le ce (fa_fill (fun _ => -1) fi 108) 12; omega)) rfl rfl (Nat.le_of_ble_eq_true rfl) rfl (by decide) (by omega) (by omega) (fun E cs1 hx => ?_) (fun v cs1 hx => ?_)
        · exact absurd hx.1 (by simp)
        · obtain ⟨e1, rfl⟩ := hx
          cases e1
          refine ⟨rfl, ?_⟩
          refine r_st (st2 := [.int (nI (fsS ce (nI (i + 1)) (ogS ce (fa_fill (fun _ => -1) fi 108) 12).2 ((fiS ce (ogS ce (fa_fill (fun _ => -1) fi 108) 12).2 (ogS ce (fa_fill (fun _ => -1) fi 108) 12).1 i).1, 0) 9).2)]) rfl ?_
          refine r_cs (cs2 := [(a, .inr (10, [.ref a1, .ref a2, .ref az, .ref a4, .ref a5, .ref a6, .int 1, .int fo])), (a1, .inl (1, 108, .inl ce)), (a2, .inl (0, 108, .inl ((fsS ce (nI (i + 1)) (ogS ce (fa_fill (fun _ => -1) fi 108) 12).2 ((fiS ce (ogS ce (fa_fill (fun _ => -1) fi 108) 12).2 (ogS ce (fa_fill (fun _ => -1) fi 108) 12).1 i).1, 0) 9).1)))]) rfl ?_
          refine r_istore_n (lv' := [(2, .int (nI (fsS ce (nI (i + 1)) (ogS ce (fa_fill (fun _ => -1) fi 108) 12).2 ((fiS ce (ogS ce (fa_fill (fun _ => -1) fi 108) 12).2 (ogS ce (fa_fill (fun _ => -1) fi 108) 12).1 i).1, 0) 9).2)), (3, .int (nI (i + 1))), (1, .int (nI (ogS ce (fa_fill (fun _ => -1) fi 108) 12).2)), (0, .ref a)]) d_Tr_fill_46 rfl (by decide) rfl ?_
          refine r_iinc (lv' := [(3, .int (nI ((i + 1) + 1))), (2, .int (nI (fsS ce (nI (i + 1)) (ogS ce (fa_fill (fun _ => -1) fi 108) 12).2 ((fiS ce (ogS ce (fa_fill (fun _ => -1) fi 108) 12).2 (ogS ce (fa_fill (fun _ => -1) fi 108) 12).1 i).1, 0) 9).2)), (1, .int (nI (ogS ce (fa_fill (fun _ => -1) fi 108) 12).2)), (0, .ref a)]) (v := nI ((i + 1) + 1)) d_Tr_fill_47 (j := 1) rfl (nI_add _ _) (by decide) rfl ?_
          refine r_goto (tgt := 30) d_Tr_fill_50 (by decide) ?_
          refine r_lvE (lv2 := [(3, .int (nI ((i + 1) + 1))), (2, .int (nI (fiS ce (ogS ce (fa_fill (fun _ => -1) fi 108) 12).2 (ogS ce (fa_fill (fun _ => -1) fi 108) 12).1 (i + 1)).2)), (1, .int (nI (ogS ce (fa_fill (fun _ => -1) fi 108) 12).2)), (0, .ref a)]) (by rw [fiS_n hz] <;> rfl) ?_
          refine r_cs (cs2 := [(a, .inr (10, [.ref a1, .ref a2, .ref az, .ref a4, .ref a5, .ref a6, .int 1, .int fo])), (a1, .inl (1, 108, .inl ce)), (a2, .inl (0, 108, .inl ((fiS ce (ogS ce (fa_fill (fun _ => -1) fi 108) 12).2 (ogS ce (fa_fill (fun _ => -1) fi 108) 12).1 (i + 1)).1)))]) (by rw [fiS_n hz] <;> rfl) ?_
          exact ih (i + 1) (by omega) (by omega)
set_option maxHeartbeats 4000000 in
set_option maxRecDepth 100000 in
theorem C_Tr_fill (g : zG) (a a1 a2 az a4 a5 a6 : Nat) (run fo : Int32) (ce fi : Nat → Int32) : CT g M_Tr_fill [.ref a] [(a, .inr (10, [.ref a1, .ref a2, .ref az, .ref a4, .ref a5, .ref a6, .int 0, .int fo])), (a1, .inl (1, 108, .inl ce)), (a2, .inl (0, 108, .inl fi))] (fun o cs1 => o = .inl none ∧ cs1 = [(a, .inr (10, [.ref a1, .ref a2, .ref az, .ref a4, .ref a5, .ref a6, .int 1, .int fo])), (a1, .inl (1, 108, .inl ce)), (a2, .inl (0, 108, .inl ((fiS ce (ogS ce (fa_fill (fun _ => -1) fi 108) 12).2 (ogS ce (fa_fill (fun _ => -1) fi 108) 12).1 107).1)))]) 0 0 := by
  refine z_of (by decide) rfl (Nat.le_of_ble_eq_true rfl) (fun w0 => ?_)
  refine r_lvE (lv2 := [(0, .ref a)]) rfl ?_
  refine r_aload_n d_Tr_fill_0 rfl 0 rfl ?_
  refine r_get fs_Tr_42 d_Tr_fill_1 (q0 := 0) rfl rfl ?_
  refine r_if_eq (tgt := 8) d_Tr_fill_4 (by decide) (fun c_4 => ?_) (fun c_4 => ?_)
  · refine r_aload_n d_Tr_fill_8 rfl 0 rfl ?_
    refine r_iconst d_Tr_fill_9 (v := 1) (by decide) ?_
    refine r_put fp_Tr_42 d_Tr_fill_10 (fun h => nomatch h) (by decide) (by decide) (q0 := 0) rfl (Nat.le_of_ble_eq_true rfl) (cs' := [(a, .inr (10, [.ref a1, .ref a2, .ref az, .ref a4, .ref a5, .ref a6, .int 1, .int fo])), (a1, .inl (1, 108, .inl ce)), (a2, .inl (0, 108, .inl fi))]) rfl ?_
    refine r_aload_n d_Tr_fill_13 rfl 0 rfl ?_
    refine r_get fs_Tr_15 d_Tr_fill_14 (q0 := 0) rfl rfl ?_
    refine r_iconst d_Tr_fill_17 (v := (-1)) (by decide) ?_
    refine r_callS (As := [.ref a2, .int (-1)]) (rest := []) (csC := [(a2, .inl (0, 108, .inl fi))]) (is := [2]) ln_Tr_50 w_st_Arrays_fill ok_Tr_fill_Arrays_fill d_Tr_fill_18 (C_Ar_fill g a2 (-1) fi) rfl rfl (Nat.le_of_ble_eq_true rfl) rfl (by decide) (by omega) (by omega) (fun E cs1 hx => ?_) (fun v cs1 hx => ?_)
    · exact absurd hx.1 (by simp)
    · obtain ⟨e1, rfl⟩ := hx
      cases e1
      refine ⟨rfl, ?_⟩
      refine r_st (st2 := []) rfl ?_
      refine r_cs (cs2 := [(a, .inr (10, [.ref a1, .ref a2, .ref az, .ref a4, .ref a5, .ref a6, .int 1, .int fo])), (a1, .inl (1, 108, .inl ce)), (a2, .inl (0, 108, .inl (fa_fill (fun _ => -1) fi 108)))]) rfl ?_
      refine r_aload_n d_Tr_fill_21 rfl 0 rfl ?_
      refine r_callV (As := []) (rest := []) (csC := [(a, .inr (10, [.ref a1, .ref a2, .ref az, .ref a4, .ref a5, .ref a6, .int 1, .int fo])), (a1, .inl (1, 108, .inl ce)), (a2, .inl (0, 108, .inl (fa_fill (fun _ => -1) fi 108)))]) (is := [0, 1, 2]) (q0 := 0) rfl rfl ln_Tr_56 w_im_Tr_openLeftmostGate w_se_Tr_openLeftmostGate ok_Tr_fill_Tr_openLeftmostGate d_Tr_fill_22 (C_Tr_openLeftmostGate g a a1 a2 az a4 a5 a6 1 fo ce (fa_fill (fun _ => -1) fi 108)) rfl rfl (Nat.le_of_ble_eq_true rfl) rfl (by decide) (by omega) (by omega) (fun E cs1 hx => ?_) (fun v cs1 hx => ?_)
      · exact absurd hx.1 (by simp)
      · obtain ⟨e1, rfl⟩ := hx
        cases e1
        refine ⟨rfl, ?_⟩
        refine r_st (st2 := [.int (nI (ogS ce (fa_fill (fun _ => -1) fi 108) 12).2)]) rfl ?_
        refine r_cs (cs2 := [(a, .inr (10, [.ref a1, .ref a2, .ref az, .ref a4, .ref a5, .ref a6, .int 1, .int fo])), (a1, .inl (1, 108, .inl ce)), (a2, .inl (0, 108, .inl ((ogS ce (fa_fill (fun _ => -1) fi 108) 12).1)))]) rfl ?_
        refine r_istore_n (lv' := [(1, .int (nI (ogS ce (fa_fill (fun _ => -1) fi 108) 12).2)), (0, .ref a)]) d_Tr_fill_25 rfl (by decide) rfl ?_
        refine r_iload_n d_Tr_fill_26 rfl 0 rfl ?_
        refine r_istore_n (lv' := [(2, .int (nI (ogS ce (fa_fill (fun _ => -1) fi 108) 12).2)), (1, .int (nI (ogS ce (fa_fill (fun _ => -1) fi 108) 12).2)), (0, .ref a)]) d_Tr_fill_27 rfl (by decide) rfl ?_
        refine r_iconst d_Tr_fill_28 (v := 1) (by decide) ?_
        refine r_istore_n (lv' := [(3, .int 1), (2, .int (nI (ogS ce (fa_fill (fun _ => -1) fi 108) 12).2)), (1, .int (nI (ogS ce (fa_fill (fun _ => -1) fi 108) 12).2)), (0, .ref a)]) d_Tr_fill_29 rfl (by decide) rfl ?_
        refine r_lvE (lv2 := [(3, .int (nI (0 + 1))), (2, .int (nI (fiS ce (ogS ce (fa_fill (fun _ => -1) fi 108) 12).2 (ogS ce (fa_fill (fun _ => -1) fi 108) 12).1 0).2)), (1, .int (nI (ogS ce (fa_fill (fun _ => -1) fi 108) 12).2)), (0, .ref a)]) (rfl) ?_
        refine r_cs (cs2 := [(a, .inr (10, [.ref a1, .ref a2, .ref az, .ref a4, .ref a5, .ref a6, .int 1, .int fo])), (a1, .inl (1, 108, .inl ce)), (a2, .inl (0, 108, .inl ((fiS ce (ogS ce (fa_fill (fun _ => -1) fi 108) 12).2 (ogS ce (fa_fill (fun _ => -1) fi 108) 12).1 0).1)))]) (rfl) ?_
        exact L_Tr_fill_30 g a a1 a2 az a4 a5 a6 run fo ce fi w0 _  (107 + 1) 0 (Nat.zero_le _) (by omega)
  · exact absurd c_4 (by decide)
abbrev M_Tr_isFilled : zM := (⟨"Ironpour$Trial", "isFilled", "(I)Z"⟩, prog_12_method_9_code, 2, (Option.some FieldType.boolean), 1, 20, [])
theorem d_Tr_isFilled_0 : decode prog_12_method_9_code 0 = .ok (.aload_n 0, 1) := zo_42 (zd_b zq_prog_12_method_9_code_0 0 rfl rfl rfl)
theorem d_Tr_isFilled_1 : decode prog_12_method_9_code 1 = .ok (.getfield 15, 3) := zo_180 (d := 0) (e := 15) (zd_b zq_prog_12_method_9_code_0 1 rfl rfl rfl) (zd_b zq_prog_12_method_9_code_0 2 rfl rfl rfl) (zd_b zq_prog_12_method_9_code_0 3 rfl rfl rfl)
theorem d_Tr_isFilled_4 : decode prog_12_method_9_code 4 = .ok (.iload_n 1, 1) := zo_27 (zd_b zq_prog_12_method_9_code_0 4 rfl rfl rfl)
theorem d_Tr_isFilled_5 : decode prog_12_method_9_code 5 = .ok (.iaload, 1) := zo_46 (zd_b zq_prog_12_method_9_code_0 5 rfl rfl rfl)
theorem d_Tr_isFilled_6 : decode prog_12_method_9_code 6 = .ok (.ifCond .lt 7, 3) := zo_155 (d := 0) (e := 7) (zd_b zq_prog_12_method_9_code_0 6 rfl rfl rfl) (zd_b zq_prog_12_method_9_code_0 7 rfl rfl rfl) (zd_b zq_prog_12_method_9_code_0 8 rfl rfl rfl) (by decide +kernel)
theorem d_Tr_isFilled_13 : decode prog_12_method_9_code 13 = .ok (.iconst 0, 1) := zo_3 (zd_b zq_prog_12_method_9_code_0 13 rfl rfl rfl)
theorem d_Tr_isFilled_14 : decode prog_12_method_9_code 14 = .ok (.ireturn, 1) := zo_172 (zd_b zq_prog_12_method_9_code_0 14 rfl rfl rfl)
theorem d_Tr_isFilled_9 : decode prog_12_method_9_code 9 = .ok (.iconst 1, 1) := zo_4 (zd_b zq_prog_12_method_9_code_0 9 rfl rfl rfl)
theorem d_Tr_isFilled_10 : decode prog_12_method_9_code 10 = .ok (.goto 4, 3) := zo_167 (d := 0) (e := 4) (zd_b zq_prog_12_method_9_code_0 10 rfl rfl rfl) (zd_b zq_prog_12_method_9_code_0 11 rfl rfl rfl) (zd_b zq_prog_12_method_9_code_0 12 rfl rfl rfl) (by decide +kernel)
set_option maxHeartbeats 4000000 in
set_option maxRecDepth 100000 in
theorem C_Tr_isFilled (g : zG) (a a1 a2 az a4 a5 a6 : Nat) (run fo : Int32) (ce fi : Nat → Int32) (c : Nat) (hc : c < 108) : CT g M_Tr_isFilled [.ref a, .int (nI c)] [(a, .inr (10, [.ref a1, .ref a2, .ref az, .ref a4, .ref a5, .ref a6, .int run, .int fo])), (a1, .inl (1, 108, .inl ce)), (a2, .inl (0, 108, .inl fi))] (fun o cs1 => o = .inl (some (.int (z_bi (decide (¬ fi c < 0))))) ∧ cs1 = [(a, .inr (10, [.ref a1, .ref a2, .ref az, .ref a4, .ref a5, .ref a6, .int run, .int fo])), (a1, .inl (1, 108, .inl ce)), (a2, .inl (0, 108, .inl fi))]) 0 0 := by
  refine z_of (by decide) rfl (Nat.le_of_ble_eq_true rfl) (fun w0 => ?_)
  refine r_lvE (lv2 := [(0, .ref a), (1, .int (nI c))]) rfl ?_
  refine r_aload_n d_Tr_isFilled_0 rfl 0 rfl ?_
  refine r_get fs_Tr_15 d_Tr_isFilled_1 (q0 := 0) rfl rfl ?_
  refine r_iload_n d_Tr_isFilled_4 rfl 1 rfl ?_
  refine r_iald d_Tr_isFilled_5 (q0 := 2) rfl (vp_in_nI (by omega) (by omega)) (v := fi c) (by rw [nI_clamp (by omega)]) ?_
  refine r_if_lt (tgt := 13) d_Tr_isFilled_6 (by decide) (fun c_6 => ?_) (fun c_6 => ?_)
  · refine r_iconst d_Tr_isFilled_13 (v := 0) (by decide) ?_
    refine r_iret d_Tr_isFilled_14 rfl rfl ?_
    refine ⟨?_, rfl⟩
    simp_all [z_bi]
  · refine r_iconst d_Tr_isFilled_9 (v := 1) (by decide) ?_
    refine r_goto (tgt := 14) d_Tr_isFilled_10 (by decide) ?_
    refine r_iret d_Tr_isFilled_14 rfl rfl ?_
    refine ⟨?_, rfl⟩
    simp_all [z_bi]
end
section
def updN (q : Nat → Nat) (t v : Nat) : Nat → Nat := fun k => if k = t then v else q k
theorem upd_qn {q : Nat → Nat} {t v : Nat} : upd (fun k => nI (q k)) t (nI v) = fun k => nI (updN q t v k) := by
  funext k
  unfold upd updN
  split <;> rfl
abbrev zQ : Type := Nat × (Nat → Int32) × (Nat → Nat)
def cbB (seen fi fr : Nat → Int32) (o here : Nat) : Bool := decide (seen o = 0 ∧ ¬ fi o < 0 ∧ ¬ fr o < fr here)
def cfB (fed fi fr : Nat → Int32) (here o : Nat) : Bool := decide (fed o = 0 ∧ ¬ fi o < 0 ∧ ¬ fr here < fr o)
def wyJ (fi fr : Nat → Int32) (here o : Nat) (Q : zQ) : zQ := if cbB Q.2.1 fi fr o here = true ∧ Q.1 < 108 then (Q.1 + 1, upd Q.2.1 o 1, updN Q.2.2 Q.1 o) else Q
def wyI (fi fr : Nat → Int32) (here s : Nat) (Q : zQ) : zQ := (bs here s).elim Q (fun o => wyJ fi fr here o Q)
def wyH (fi fr : Nat → Int32) (here : Nat) (Q : zQ) : Nat → zQ
  | 0 => Q
  | s + 1 => wyI fi fr here s (wyH fi fr here Q s)
def wyB (ce fi fr : Nat → Int32) (Q0 : zQ) : Nat → Bool × zQ
  | 0 => (false, Q0)
  | h + 1 => if (wyB ce fi fr Q0 h).1 = true ∨ ¬ h < (wyB ce fi fr Q0 h).2.1 then wyB ce fi fr Q0 h else
      if ce ((wyB ce fi fr Q0 h).2.2.2 h) = 114 then (true, (wyB ce fi fr Q0 h).2) else (false, wyH fi fr ((wyB ce fi fr Q0 h).2.2.2 h) (wyB ce fi fr Q0 h).2 4)
def Qok (Q : zQ) : Prop := Q.1 ≤ 108 ∧ ∀ k, k < Q.1 → Q.2.2 k < 108
theorem wyI_n {fi fr : Nat → Int32} {here s : Nat} {Q : zQ} (h : bs here s = none) : wyI fi fr here s Q = Q := by rw [wyI, h]; rfl
theorem wyI_s {fi fr : Nat → Int32} {here s o : Nat} {Q : zQ} (h : bs here s = some o) : wyI fi fr here s Q = wyJ fi fr here o Q := by rw [wyI, h]; rfl
theorem wyJ_t {fi fr : Nat → Int32} {here o : Nat} {Q : zQ} (h : cbB Q.2.1 fi fr o here = true ∧ Q.1 < 108) : wyJ fi fr here o Q = (Q.1 + 1, upd Q.2.1 o 1, updN Q.2.2 Q.1 o) := if_pos h
theorem wyJ_f {fi fr : Nat → Int32} {here o : Nat} {Q : zQ} (h : ¬ (cbB Q.2.1 fi fr o here = true ∧ Q.1 < 108)) : wyJ fi fr here o Q = Q := if_neg h
theorem wyI_ok {fi fr : Nat → Int32} {here s : Nat} {Q : zQ} (hh : here < 108) (h : Qok Q) : Qok (wyI fi fr here s Q) := by
  cases e : bs here s with
  | none => rw [wyI_n e]; exact h
  | some o =>
    rw [wyI_s e]
    by_cases q : cbB Q.2.1 fi fr o here = true ∧ Q.1 < 108
    · rw [wyJ_t q]
      refine ⟨by show Q.1 + 1 ≤ 108; omega, fun k hk => ?_⟩
      show updN Q.2.2 Q.1 o k < 108
      unfold updN
      split
      · exact bs_lt hh e
      · exact h.2 k (by have : k < Q.1 + 1 := hk; omega)
    · rw [wyJ_f q]; exact h
theorem wyH_ok {fi fr : Nat → Int32} {here : Nat} {Q : zQ} (hh : here < 108) (h : Qok Q) : ∀ s, Qok (wyH fi fr here Q s)
  | 0 => h
  | s + 1 => wyI_ok hh (wyH_ok hh h s)
theorem wyB_ok {ce fi fr : Nat → Int32} {Q0 : zQ} (h0 : Qok Q0) : ∀ h, Qok (wyB ce fi fr Q0 h).2
  | 0 => h0
  | h + 1 => by
    have ih := wyB_ok (ce := ce) (fi := fi) (fr := fr) h0 h
    rw [wyB]
    split
    · exact ih
    · split
      · exact ih
      · rename_i q _
        have hl : h < (wyB ce fi fr Q0 h).2.1 := Classical.byContradiction fun e => q (Or.inr e)
        exact wyH_ok (ih.2 h hl) ih 4
theorem wyB_stop {ce fi fr : Nat → Int32} {Q0 : zQ} {h : Nat} (q : (wyB ce fi fr Q0 h).1 = true ∨ ¬ h < (wyB ce fi fr Q0 h).2.1) : ∀ d, wyB ce fi fr Q0 (h + d) = wyB ce fi fr Q0 h
  | 0 => rfl
  | d + 1 => by
    have ih := wyB_stop q d
    show wyB ce fi fr Q0 (h + d + 1) = _
    rw [wyB, ih, if_pos (q.imp id (fun e => by omega))]
theorem wyB_r {ce fi fr : Nat → Int32} {Q0 : zQ} {h : Nat} (q : ¬ ((wyB ce fi fr Q0 h).1 = true ∨ ¬ h < (wyB ce fi fr Q0 h).2.1)) (q2 : ce ((wyB ce fi fr Q0 h).2.2.2 h) = 114) : wyB ce fi fr Q0 (h + 1) = (true, (wyB ce fi fr Q0 h).2) := by rw [wyB, if_neg q, if_pos q2]
theorem wyB_n {ce fi fr : Nat → Int32} {Q0 : zQ} {h : Nat} (q : ¬ ((wyB ce fi fr Q0 h).1 = true ∨ ¬ h < (wyB ce fi fr Q0 h).2.1)) (q2 : ¬ ce ((wyB ce fi fr Q0 h).2.2.2 h) = 114) : wyB ce fi fr Q0 (h + 1) = (false, wyH fi fr ((wyB ce fi fr Q0 h).2.2.2 h) (wyB ce fi fr Q0 h).2 4) := by rw [wyB, if_neg q, if_neg q2]
abbrev zD : Type := (Nat → Int32) × (Nat → Nat) × Nat × Int32
def fdA (ce fi : Nat → Int32) (S0 : zD) : Nat → zD
  | 0 => S0
  | i + 1 => if ce i = 114 ∧ ¬ fi i < 0 then (upd (fdA ce fi S0 i).1 i 1, updN (fdA ce fi S0 i).2.1 (fdA ce fi S0 i).2.2.1 i, (fdA ce fi S0 i).2.2.1 + 1, (fdA ce fi S0 i).2.2.2 + 10) else (upd (fdA ce fi S0 i).1 i 0, (fdA ce fi S0 i).2)
theorem fdA_t {ce fi : Nat → Int32} {S0 : zD} {i : Nat} (h : ce i = 114 ∧ ¬ fi i < 0) : fdA ce fi S0 (i + 1) = (upd (fdA ce fi S0 i).1 i 1, updN (fdA ce fi S0 i).2.1 (fdA ce fi S0 i).2.2.1 i, (fdA ce fi S0 i).2.2.1 + 1, (fdA ce fi S0 i).2.2.2 + 10) := if_pos h
theorem fdA_f {ce fi : Nat → Int32} {S0 : zD} {i : Nat} (h : ¬ (ce i = 114 ∧ ¬ fi i < 0)) : fdA ce fi S0 (i + 1) = (upd (fdA ce fi S0 i).1 i 0, (fdA ce fi S0 i).2) := if_neg h
def Dok (S : zD) (N : Nat) : Prop := S.2.2.1 ≤ N ∧ ∀ k, k < S.2.2.1 → S.2.1 k < 108
theorem fdA_ok {ce fi : Nat → Int32} {S0 : zD} (h0 : S0.2.2.1 = 0) : ∀ i, i ≤ 108 → Dok (fdA ce fi S0 i) i
  | 0, _ => ⟨by show S0.2.2.1 ≤ 0; omega, fun k hk => absurd hk (by show ¬ k < S0.2.2.1; omega)⟩
  | i + 1, hi => by
    have ih := fdA_ok (ce := ce) (fi := fi) h0 i (by omega)
    by_cases q : ce i = 114 ∧ ¬ fi i < 0
    · rw [fdA_t q]
      refine ⟨by show _ + 1 ≤ _; have := ih.1; omega, fun k hk => ?_⟩
      show updN _ _ i k < 108
      unfold updN
      split
      · omega
      · exact ih.2 k (by have : k < (fdA ce fi S0 i).2.2.1 + 1 := hk; omega)
    · rw [fdA_f q]; exact ⟨Nat.le_succ_of_le ih.1, ih.2⟩
def fdJ (ce fi fr : Nat → Int32) (here o : Nat) (S : zD) : zD := if cfB S.1 fi fr here o = true ∧ S.2.2.1 < 108 then (if ce o = 99 then (if S.2.2.2 = 0 then S else (upd S.1 o 1, updN S.2.1 S.2.2.1 o, S.2.2.1 + 1, S.2.2.2 + -1)) else (upd S.1 o 1, updN S.2.1 S.2.2.1 o, S.2.2.1 + 1, S.2.2.2)) else S
def fdI (ce fi fr : Nat → Int32) (here s : Nat) (S : zD) : zD := (bs here s).elim S (fun o => fdJ ce fi fr here o S)
theorem fdI_n {ce fi fr : Nat → Int32} {here s : Nat} {S : zD} (h : bs here s = none) : fdI ce fi fr here s S = S := by rw [fdI, h]; rfl
theorem fdI_s {ce fi fr : Nat → Int32} {here s o : Nat} {S : zD} (h : bs here s = some o) : fdI ce fi fr here s S = fdJ ce fi fr here o S := by rw [fdI, h]; rfl
theorem fdJ_0 {ce fi fr : Nat → Int32} {here o : Nat} {S : zD} (h : ¬ (cfB S.1 fi fr here o = true ∧ S.2.2.1 < 108)) : fdJ ce fi fr here o S = S := if_neg h
theorem fdJ_1 {ce fi fr : Nat → Int32} {here o : Nat} {S : zD} (h : cfB S.1 fi fr here o = true ∧ S.2.2.1 < 108) (h2 : ce o = 99) (h3 : S.2.2.2 = 0) : fdJ ce fi fr here o S = S := by rw [fdJ, if_pos h, if_pos h2, if_pos h3]
theorem fdJ_2 {ce fi fr : Nat → Int32} {here o : Nat} {S : zD} (h : cfB S.1 fi fr here o = true ∧ S.2.2.1 < 108) (h2 : ce o = 99) (h3 : ¬ S.2.2.2 = 0) : fdJ ce fi fr here o S = (upd S.1 o 1, updN S.2.1 S.2.2.1 o, S.2.2.1 + 1, S.2.2.2 + -1) := by rw [fdJ, if_pos h, if_pos h2, if_neg h3]
theorem fdJ_3 {ce fi fr : Nat → Int32} {here o : Nat} {S : zD} (h : cfB S.1 fi fr here o = true ∧ S.2.2.1 < 108) (h2 : ¬ ce o = 99) : fdJ ce fi fr here o S = (upd S.1 o 1, updN S.2.1 S.2.2.1 o, S.2.2.1 + 1, S.2.2.2) := by rw [fdJ, if_pos h, if_neg h2]
def fdH (ce fi fr : Nat → Int32) (here : Nat) (S : zD) : Nat → zD
  | 0 => S
  | s + 1 => fdI ce fi fr here s (fdH ce fi fr here S s)
def fdB (ce fi fr : Nat → Int32) (S0 : zD) : Nat → zD
  | 0 => S0
  | h + 1 => if h < (fdB ce fi fr S0 h).2.2.1 then fdH ce fi fr ((fdB ce fi fr S0 h).2.1 h) (fdB ce fi fr S0 h) 4 else fdB ce fi fr S0 h
theorem Dok_put {S : zD} {o : Nat} {l : Int32} {f : Nat → Int32} (ho : o < 108) (h : Dok S 108) (ht : S.2.2.1 < 108) : Dok (f, updN S.2.1 S.2.2.1 o, S.2.2.1 + 1, l) 108 := by
  refine ⟨by show _ + 1 ≤ _; omega, fun k hk => ?_⟩
  show updN _ _ o k < 108
  unfold updN
  split
  · exact ho
  · exact h.2 k (by have : k < S.2.2.1 + 1 := hk; omega)
theorem fdI_ok {ce fi fr : Nat → Int32} {here s : Nat} {S : zD} (hh : here < 108) (h : Dok S 108) : Dok (fdI ce fi fr here s S) 108 := by
  cases e : bs here s with
  | none => rw [fdI_n e]; exact h
  | some o =>
    rw [fdI_s e]
    by_cases q : cfB S.1 fi fr here o = true ∧ S.2.2.1 < 108
    · by_cases q2 : ce o = 99
      · by_cases q3 : S.2.2.2 = 0
        · rw [fdJ_1 q q2 q3]; exact h
        · rw [fdJ_2 q q2 q3]; exact Dok_put (bs_lt hh e) h q.2
      · rw [fdJ_3 q q2]; exact Dok_put (bs_lt hh e) h q.2
    · rw [fdJ_0 q]; exact h
theorem fdH_ok {ce fi fr : Nat → Int32} {here : Nat} {S : zD} (hh : here < 108) (h : Dok S 108) : ∀ s, Dok (fdH ce fi fr here S s) 108
  | 0 => h
  | s + 1 => fdI_ok hh (fdH_ok hh h s)
theorem fdB_ok {ce fi fr : Nat → Int32} {S0 : zD} (h0 : Dok S0 108) : ∀ h, Dok (fdB ce fi fr S0 h) 108
  | 0 => h0
  | h + 1 => by
    have ih := fdB_ok (ce := ce) (fi := fi) (fr := fr) h0 h
    rw [fdB]
    split
    · exact fdH_ok (ih.2 h (by assumption)) ih 4
    · exact ih
theorem fdB_t {ce fi fr : Nat → Int32} {S0 : zD} {h : Nat} (q : h < (fdB ce fi fr S0 h).2.2.1) : fdB ce fi fr S0 (h + 1) = fdH ce fi fr ((fdB ce fi fr S0 h).2.1 h) (fdB ce fi fr S0 h) 4 := if_pos q
theorem fdB_stop {ce fi fr : Nat → Int32} {S0 : zD} {h : Nat} (q : ¬ h < (fdB ce fi fr S0 h).2.2.1) : ∀ d, fdB ce fi fr S0 (h + d) = fdB ce fi fr S0 h
  | 0 => rfl
  | d + 1 => by
    have ih := fdB_stop q d
    show fdB ce fi fr S0 (h + d + 1) = _
    rw [fdB, ih, if_neg (by omega)]
def scP (ce fi fed : Nat → Int32) (k : Nat) : Bool := decide (ce k = 99 ∧ ¬ fi k < 0 ∧ fed k = 0)
theorem fdI_q {ce fi fr : Nat → Int32} {here s h : Nat} {S : zD} (hl : h < S.2.2.1) : (fdI ce fi fr here s S).2.1 h = S.2.1 h ∧ h < (fdI ce fi fr here s S).2.2.1 := by
  cases e : bs here s with
  | none => rw [fdI_n e]; exact ⟨rfl, hl⟩
  | some o =>
    rw [fdI_s e]
    have hu : updN S.2.1 S.2.2.1 o h = S.2.1 h := by unfold updN; rw [if_neg (by omega)]
    by_cases q : cfB S.1 fi fr here o = true ∧ S.2.2.1 < 108
    · by_cases q2 : ce o = 99
      · by_cases q3 : S.2.2.2 = 0
        · rw [fdJ_1 q q2 q3]; exact ⟨rfl, hl⟩
        · rw [fdJ_2 q q2 q3]; exact ⟨hu, Nat.lt_succ_of_lt hl⟩
      · rw [fdJ_3 q q2]; exact ⟨hu, Nat.lt_succ_of_lt hl⟩
    · rw [fdJ_0 q]; exact ⟨rfl, hl⟩
theorem fdH_q {ce fi fr : Nat → Int32} {here h : Nat} {S : zD} (hl : h < S.2.2.1) : ∀ s, (fdH ce fi fr here S s).2.1 h = S.2.1 h ∧ h < (fdH ce fi fr here S s).2.2.1
  | 0 => ⟨rfl, hl⟩
  | s + 1 => by
    have ih := fdH_q (ce := ce) (fi := fi) (fr := fr) (here := here) hl s
    have st := fdI_q (ce := ce) (fi := fi) (fr := fr) (here := here) (s := s) ih.2
    exact ⟨st.1.trans ih.1, st.2⟩
theorem upd_at {f : Nat → Int32} {i : Nat} {x : Int32} : upd f i x i = x := if_pos rfl
theorem one_z : ¬ (1 : Int32) = 0 := by decide
abbrev M_Tr_canBeFedFrom : zM := (⟨"Ironpour$Trial", "canBeFedFrom", "(II)Z"⟩, prog_12_method_15_code, 3, (Option.some FieldType.boolean), 2, 41, [])
theorem d_Tr_canBeFedFrom_0 : decode prog_12_method_15_code 0 = .ok (.aload_n 0, 1) := zo_42 (zd_b zq_prog_12_method_15_code_0 0 rfl rfl rfl)
theorem d_Tr_canBeFedFrom_1 : decode prog_12_method_15_code 1 = .ok (.getfield 30, 3) := zo_180 (d := 0) (e := 30) (zd_b zq_prog_12_method_15_code_0 1 rfl rfl rfl) (zd_b zq_prog_12_method_15_code_0 2 rfl rfl rfl) (zd_b zq_prog_12_method_15_code_0 3 rfl rfl rfl)
theorem fs_Tr_30 : z_fs "Ironpour$Trial" 30 10 4 := ⟨R_Tr, "Ironpour$Trial", F_Tr, 8, rfl, u_Tr, by decide, Or.inl ⟨z_mj1 (i := 117) rfl (by decide +kernel), Or.inl rfl⟩⟩
theorem d_Tr_canBeFedFrom_4 : decode prog_12_method_15_code 4 = .ok (.iload_n 1, 1) := zo_27 (zd_b zq_prog_12_method_15_code_0 4 rfl rfl rfl)
theorem d_Tr_canBeFedFrom_5 : decode prog_12_method_15_code 5 = .ok (.baload, 1) := zo_51 (zd_b zq_prog_12_method_15_code_0 5 rfl rfl rfl)
theorem d_Tr_canBeFedFrom_6 : decode prog_12_method_15_code 6 = .ok (.ifCond .ne 36, 3) := zo_154 (d := 0) (e := 36) (zd_b zq_prog_12_method_15_code_0 6 rfl rfl rfl) (zd_b zq_prog_12_method_15_code_0 7 rfl rfl rfl) (zd_b zq_prog_12_method_15_code_0 8 rfl rfl rfl) (by decide +kernel)
theorem d_Tr_canBeFedFrom_42 : decode prog_12_method_15_code 42 = .ok (.iconst 0, 1) := zo_3 (zd_b zq_prog_12_method_15_code_1 10 rfl rfl rfl)
theorem d_Tr_canBeFedFrom_43 : decode prog_12_method_15_code 43 = .ok (.ireturn, 1) := zo_172 (zd_b zq_prog_12_method_15_code_1 11 rfl rfl rfl)
theorem d_Tr_canBeFedFrom_9 : decode prog_12_method_15_code 9 = .ok (.aload_n 0, 1) := zo_42 (zd_b zq_prog_12_method_15_code_0 9 rfl rfl rfl)
theorem d_Tr_canBeFedFrom_10 : decode prog_12_method_15_code 10 = .ok (.iload_n 1, 1) := zo_27 (zd_b zq_prog_12_method_15_code_0 10 rfl rfl rfl)
theorem d_Tr_canBeFedFrom_11 : decode prog_12_method_15_code 11 = .ok (.invokevirtual 91, 3) := zo_182 (d := 0) (e := 91) (zd_b zq_prog_12_method_15_code_0 11 rfl rfl rfl) (zd_b zq_prog_12_method_15_code_0 12 rfl rfl rfl) (zd_b zq_prog_12_method_15_code_0 13 rfl rfl rfl)
theorem ok_Tr_canBeFedFrom_Tr_isFilled : z_ok M_Tr_canBeFedFrom M_Tr_isFilled 1 := ⟨z_mj3 (i := 25) rfl (by decide +kernel), rfl, ⟨by decide +kernel, by decide +kernel, by decide +kernel⟩, ⟨by decide, by decide⟩, z_mj1 (i := 3) rfl (by decide +kernel), rfl⟩
theorem ln_Tr_91 : Cond.methodLink "Ironpour$Trial" 91 M_Tr_isFilled.1 ∈ z_gw := z_mj3 (i := 22) rfl (by decide +kernel)
theorem w_im_Tr_isFilled : Cond.instanceMethod M_Tr_isFilled.1 ∈ z_gw := z_mj3 (i := 24) rfl (by decide +kernel)
theorem w_se_Tr_isFilled : Cond.selects M_Tr_isFilled.1.cls M_Tr_isFilled.1 M_Tr_isFilled.1 ∈ z_gw := z_mem (i := 13) (by decide +kernel) (by decide +kernel)
theorem d_Tr_canBeFedFrom_14 : decode prog_12_method_15_code 14 = .ok (.ifCond .eq 28, 3) := zo_153 (d := 0) (e := 28) (zd_b zq_prog_12_method_15_code_0 14 rfl rfl rfl) (zd_b zq_prog_12_method_15_code_0 15 rfl rfl rfl) (zd_b zq_prog_12_method_15_code_0 16 rfl rfl rfl) (by decide +kernel)
theorem d_Tr_canBeFedFrom_17 : decode prog_12_method_15_code 17 = .ok (.aload_n 0, 1) := zo_42 (zd_b zq_prog_12_method_15_code_0 17 rfl rfl rfl)
theorem d_Tr_canBeFedFrom_18 : decode prog_12_method_15_code 18 = .ok (.getfield 22, 3) := zo_180 (d := 0) (e := 22) (zd_b zq_prog_12_method_15_code_0 18 rfl rfl rfl) (zd_b zq_prog_12_method_15_code_0 19 rfl rfl rfl) (zd_b zq_prog_12_method_15_code_0 20 rfl rfl rfl)
theorem fs_Tr_22 : z_fs "Ironpour$Trial" 22 10 2 := ⟨R_Tr, "Ironpour$Trial", F_Tr, 8, rfl, u_Tr, by decide, Or.inl ⟨z_mj1 (i := 113) rfl (by decide +kernel), Or.inl rfl⟩⟩
theorem d_Tr_canBeFedFrom_21 : decode prog_12_method_15_code 21 = .ok (.getfield 98, 3) := zo_180 (d := 0) (e := 98) (zd_b zq_prog_12_method_15_code_0 21 rfl rfl rfl) (zd_b zq_prog_12_method_15_code_0 22 rfl rfl rfl) (zd_b zq_prog_12_method_15_code_0 23 rfl rfl rfl)
theorem fs_Tr_98 : z_fs "Ironpour$Trial" 98 2 3 := ⟨R_Fz, "Ironpour$Freezing", F_Fz, 7, rfl, u_Fz, by decide, Or.inr ⟨"Ironpour", z_mk1 (i := 88) rfl (by decide +kernel), rfl⟩⟩
theorem d_Tr_canBeFedFrom_24 : decode prog_12_method_15_code 24 = .ok (.iload_n 1, 1) := zo_27 (zd_b zq_prog_12_method_15_code_0 24 rfl rfl rfl)
theorem d_Tr_canBeFedFrom_25 : decode prog_12_method_15_code 25 = .ok (.iaload, 1) := zo_46 (zd_b zq_prog_12_method_15_code_0 25 rfl rfl rfl)
theorem d_Tr_canBeFedFrom_26 : decode prog_12_method_15_code 26 = .ok (.aload_n 0, 1) := zo_42 (zd_b zq_prog_12_method_15_code_0 26 rfl rfl rfl)
theorem d_Tr_canBeFedFrom_27 : decode prog_12_method_15_code 27 = .ok (.getfield 22, 3) := zo_180 (d := 0) (e := 22) (zd_b zq_prog_12_method_15_code_0 27 rfl rfl rfl) (zd_b zq_prog_12_method_15_code_0 28 rfl rfl rfl) (zd_b zq_prog_12_method_15_code_0 29 rfl rfl rfl)
theorem d_Tr_canBeFedFrom_30 : decode prog_12_method_15_code 30 = .ok (.getfield 98, 3) := zo_180 (d := 0) (e := 98) (zd_b zq_prog_12_method_15_code_0 30 rfl rfl rfl) (zd_b zq_prog_12_method_15_code_0 31 rfl rfl rfl) (zd_b zq_prog_12_method_15_code_1 0 rfl rfl rfl)
theorem d_Tr_canBeFedFrom_33 : decode prog_12_method_15_code 33 = .ok (.iload_n 2, 1) := zo_28 (zd_b zq_prog_12_method_15_code_1 1 rfl rfl rfl)
theorem d_Tr_canBeFedFrom_34 : decode prog_12_method_15_code 34 = .ok (.iaload, 1) := zo_46 (zd_b zq_prog_12_method_15_code_1 2 rfl rfl rfl)
theorem d_Tr_canBeFedFrom_35 : decode prog_12_method_15_code 35 = .ok (.if_icmp .lt 7, 3) := zo_161 (d := 0) (e := 7) (zd_b zq_prog_12_method_15_code_1 3 rfl rfl rfl) (zd_b zq_prog_12_method_15_code_1 4 rfl rfl rfl) (zd_b zq_prog_12_method_15_code_1 5 rfl rfl rfl) (by decide +kernel)
theorem d_Tr_canBeFedFrom_38 : decode prog_12_method_15_code 38 = .ok (.iconst 1, 1) := zo_4 (zd_b zq_prog_12_method_15_code_1 6 rfl rfl rfl)
theorem d_Tr_canBeFedFrom_39 : decode prog_12_method_15_code 39 = .ok (.goto 4, 3) := zo_167 (d := 0) (e := 4) (zd_b zq_prog_12_method_15_code_1 7 rfl rfl rfl) (zd_b zq_prog_12_method_15_code_1 8 rfl rfl rfl) (zd_b zq_prog_12_method_15_code_1 9 rfl rfl rfl) (by decide +kernel)
set_option maxHeartbeats 4000000 in
set_option maxRecDepth 100000 in
theorem C_Tr_canBeFedFrom (g : zG) (a a1 a2 az az1 az2 az3 az4 az5 az6 a4 a5 a6 : Nat) (run fo liq : Int32) (ce fi fr fed seen : Nat → Int32) (qn : Nat → Nat) (oo here : Nat) (ho : oo < 108) (hh : here < 108) : CT g M_Tr_canBeFedFrom [.ref a, .int (nI oo), .int (nI here)] [(a, .inr (10, [.ref a1, .ref a2, .ref az, .ref a4, .ref a5, .ref a6, .int run, .int fo])), (a1, .inl (1, 108, .inl ce)), (a2, .inl (0, 108, .inl fi)), (az, .inr (2, [.ref az1, .ref az2, .ref az3, .ref az4, .ref az5, .ref az6, .int liq])), (az4, .inl (0, 108, .inl fr)), (a4, .inl (2, 108, .inl fed)), (a5, .inl (2, 108, .inl seen)), (a6, .inl (0, 108, .inl (fun k => nI (qn k))))] (fun o cs1 => o = .inl (some (.int (z_bi (cbB seen fi fr oo here)))) ∧ cs1 = [(a, .inr (10, [.ref a1, .ref a2, .ref az, .ref a4, .ref a5, .ref a6, .int run, .int fo])), (a1, .inl (1, 108, .inl ce)), (a2, .inl (0, 108, .inl fi)), (az, .inr (2, [.ref az1, .ref az2, .ref az3, .ref az4, .ref az5, .ref az6, .int liq])), (az4, .inl (0, 108, .inl fr)), (a4, .inl (2, 108, .inl fed)), (a5, .inl (2, 108, .inl seen)), (a6, .inl (0, 108, .inl (fun k => nI (qn k))))]) 0 0 := by
  refine z_of (by decide) rfl (Nat.le_of_ble_eq_true rfl) (fun w0 => ?_)
  refine r_lvE (lv2 := [(0, .ref a), (1, .int (nI oo)), (2, .int (nI here))]) rfl ?_
  refine r_aload_n d_Tr_canBeFedFrom_0 rfl 0 rfl ?_
  refine r_get fs_Tr_30 d_Tr_canBeFedFrom_1 (q0 := 0) rfl rfl ?_
  refine r_iload_n d_Tr_canBeFedFrom_4 rfl 1 rfl ?_
  refine r_zald d_Tr_canBeFedFrom_5 (q0 := 6) rfl (vp_in_nI (by omega) (by omega)) (v := seen oo) (by rw [nI_clamp (by omega)]) ?_
  refine r_if_ne (tgt := 42) d_Tr_canBeFedFrom_6 (by decide) (fun c_6 => ?_) (fun c_6 => ?_)
  · refine r_iconst d_Tr_canBeFedFrom_42 (v := 0) (by decide) ?_
    refine r_iret d_Tr_canBeFedFrom_43 rfl rfl ?_
    refine ⟨?_, rfl⟩
    simp_all [cbB, z_bi]
  · refine r_aload_n d_Tr_canBeFedFrom_9 rfl 0 rfl ?_
    refine r_iload_n d_Tr_canBeFedFrom_10 rfl 1 rfl ?_
    refine r_callV (As := [.int (nI oo)]) (rest := []) (csC := [(a, .inr (10, [.ref a1, .ref a2, .ref az, .ref a4, .ref a5, .ref a6, .int run, .int fo])), (a1, .inl (1, 108, .inl ce)), (a2, .inl (0, 108, .inl fi))]) (is := [0, 1, 2]) (q0 := 0) rfl rfl ln_Tr_91 w_im_Tr_isFilled w_se_Tr_isFilled ok_Tr_canBeFedFrom_Tr_isFilled d_Tr_canBeFedFrom_11 (C_Tr_isFilled g a a1 a2 az a4 a5 a6 run fo ce fi oo (by omega)) rfl rfl (Nat.le_of_ble_eq_true rfl) rfl (by decide) (by omega) (by omega) (fun E cs1 hx => ?_) (fun v cs1 hx => ?_)
    · exact absurd hx.1 (by simp)
    · obtain ⟨e1, rfl⟩ := hx
      cases e1
      refine ⟨rfl, ?_⟩
      refine r_st (st2 := [.int (z_bi (decide (¬ fi oo < 0)))]) rfl ?_
      refine r_cs (cs2 := [(a, .inr (10, [.ref a1, .ref a2, .ref az, .ref a4, .ref a5, .ref a6, .int run, .int fo])), (a1, .inl (1, 108, .inl ce)), (a2, .inl (0, 108, .inl fi)), (az, .inr (2, [.ref az1, .ref az2, .ref az3, .ref az4, .ref az5, .ref az6, .int liq])), (az4, .inl (0, 108, .inl fr)), (a4, .inl (2, 108, .inl fed)), (a5, .inl (2, 108, .inl seen)), (a6, .inl (0, 108, .inl (fun k => nI (qn k))))]) rfl ?_
      refine r_if_eq (tgt := 42) d_Tr_canBeFedFrom_14 (by decide) (fun c_14 => ?_) (fun c_14 => ?_)
      · refine r_iconst d_Tr_canBeFedFrom_42 (v := 0) (by decide) ?_
        refine r_iret d_Tr_canBeFedFrom_43 rfl rfl ?_
        refine ⟨?_, rfl⟩
        simp_all [cbB, z_bi]
      · refine r_aload_n d_Tr_canBeFedFrom_17 rfl 0 rfl ?_
        refine r_get fs_Tr_22 d_Tr_canBeFedFrom_18 (q0 := 0) rfl rfl ?_
        refine r_get fs_Tr_98 d_Tr_canBeFedFrom_21 (q0 := 3) rfl rfl ?_
        refine r_iload_n d_Tr_canBeFedFrom_24 rfl 1 rfl ?_
        refine r_iald d_Tr_canBeFedFrom_25 (q0 := 4) rfl (vp_in_nI (by omega) (by omega)) (v := fr oo) (by rw [nI_clamp (by omega)]) ?_
        refine r_aload_n d_Tr_canBeFedFrom_26 rfl 0 rfl ?_
        refine r_get fs_Tr_22 d_Tr_canBeFedFrom_27 (q0 := 0) rfl rfl ?_
        refine r_get fs_Tr_98 d_Tr_canBeFedFrom_30 (q0 := 3) rfl rfl ?_
        refine r_iload_n d_Tr_canBeFedFrom_33 rfl 2 rfl ?_
        refine r_iald d_Tr_canBeFedFrom_34 (q0 := 4) rfl (vp_in_nI (by omega) (by omega)) (v := fr here) (by rw [nI_clamp (by omega)]) ?_
        refine r_icmp_lt (tgt := 42) d_Tr_canBeFedFrom_35 (by decide) (fun c_35 => ?_) (fun c_35 => ?_)
        · refine r_iconst d_Tr_canBeFedFrom_42 (v := 0) (by decide) ?_
          refine r_iret d_Tr_canBeFedFrom_43 rfl rfl ?_
          refine ⟨?_, rfl⟩
          simp_all [cbB, z_bi]
        · refine r_iconst d_Tr_canBeFedFrom_38 (v := 1) (by decide) ?_
          refine r_goto (tgt := 43) d_Tr_canBeFedFrom_39 (by decide) ?_
          refine r_iret d_Tr_canBeFedFrom_43 rfl rfl ?_
          refine ⟨?_, rfl⟩
          simp_all [cbB, z_bi]
abbrev M_Tr_canFeed : zM := (⟨"Ironpour$Trial", "canFeed", "(II)Z"⟩, prog_12_method_11_code, 3, (Option.some FieldType.boolean), 2, 41, [])
theorem d_Tr_canFeed_0 : decode prog_12_method_11_code 0 = .ok (.aload_n 0, 1) := zo_42 (zd_b zq_prog_12_method_11_code_0 0 rfl rfl rfl)
theorem d_Tr_canFeed_1 : decode prog_12_method_11_code 1 = .ok (.getfield 26, 3) := zo_180 (d := 0) (e := 26) (zd_b zq_prog_12_method_11_code_0 1 rfl rfl rfl) (zd_b zq_prog_12_method_11_code_0 2 rfl rfl rfl) (zd_b zq_prog_12_method_11_code_0 3 rfl rfl rfl)
theorem fs_Tr_26 : z_fs "Ironpour$Trial" 26 10 3 := ⟨R_Tr, "Ironpour$Trial", F_Tr, 8, rfl, u_Tr, by decide, Or.inl ⟨z_mj1 (i := 115) rfl (by decide +kernel), Or.inl rfl⟩⟩
theorem d_Tr_canFeed_4 : decode prog_12_method_11_code 4 = .ok (.iload_n 2, 1) := zo_28 (zd_b zq_prog_12_method_11_code_0 4 rfl rfl rfl)
theorem d_Tr_canFeed_5 : decode prog_12_method_11_code 5 = .ok (.baload, 1) := zo_51 (zd_b zq_prog_12_method_11_code_0 5 rfl rfl rfl)
theorem d_Tr_canFeed_6 : decode prog_12_method_11_code 6 = .ok (.ifCond .ne 36, 3) := zo_154 (d := 0) (e := 36) (zd_b zq_prog_12_method_11_code_0 6 rfl rfl rfl) (zd_b zq_prog_12_method_11_code_0 7 rfl rfl rfl) (zd_b zq_prog_12_method_11_code_0 8 rfl rfl rfl) (by decide +kernel)
theorem d_Tr_canFeed_42 : decode prog_12_method_11_code 42 = .ok (.iconst 0, 1) := zo_3 (zd_b zq_prog_12_method_11_code_1 10 rfl rfl rfl)
theorem d_Tr_canFeed_43 : decode prog_12_method_11_code 43 = .ok (.ireturn, 1) := zo_172 (zd_b zq_prog_12_method_11_code_1 11 rfl rfl rfl)
theorem d_Tr_canFeed_9 : decode prog_12_method_11_code 9 = .ok (.aload_n 0, 1) := zo_42 (zd_b zq_prog_12_method_11_code_0 9 rfl rfl rfl)
theorem d_Tr_canFeed_10 : decode prog_12_method_11_code 10 = .ok (.iload_n 2, 1) := zo_28 (zd_b zq_prog_12_method_11_code_0 10 rfl rfl rfl)
theorem d_Tr_canFeed_11 : decode prog_12_method_11_code 11 = .ok (.invokevirtual 91, 3) := zo_182 (d := 0) (e := 91) (zd_b zq_prog_12_method_11_code_0 11 rfl rfl rfl) (zd_b zq_prog_12_method_11_code_0 12 rfl rfl rfl) (zd_b zq_prog_12_method_11_code_0 13 rfl rfl rfl)
theorem ok_Tr_canFeed_Tr_isFilled : z_ok M_Tr_canFeed M_Tr_isFilled 1 := ⟨z_mj3 (i := 25) rfl (by decide +kernel), rfl, ⟨by decide +kernel, by decide +kernel, by decide +kernel⟩, ⟨by decide, by decide⟩, z_mj1 (i := 3) rfl (by decide +kernel), rfl⟩
theorem d_Tr_canFeed_14 : decode prog_12_method_11_code 14 = .ok (.ifCond .eq 28, 3) := zo_153 (d := 0) (e := 28) (zd_b zq_prog_12_method_11_code_0 14 rfl rfl rfl) (zd_b zq_prog_12_method_11_code_0 15 rfl rfl rfl) (zd_b zq_prog_12_method_11_code_0 16 rfl rfl rfl) (by decide +kernel)
theorem d_Tr_canFeed_17 : decode prog_12_method_11_code 17 = .ok (.aload_n 0, 1) := zo_42 (zd_b zq_prog_12_method_11_code_0 17 rfl rfl rfl)
theorem d_Tr_canFeed_18 : decode prog_12_method_11_code 18 = .ok (.getfield 22, 3) := zo_180 (d := 0) (e := 22) (zd_b zq_prog_12_method_11_code_0 18 rfl rfl rfl) (zd_b zq_prog_12_method_11_code_0 19 rfl rfl rfl) (zd_b zq_prog_12_method_11_code_0 20 rfl rfl rfl)
theorem d_Tr_canFeed_21 : decode prog_12_method_11_code 21 = .ok (.getfield 98, 3) := zo_180 (d := 0) (e := 98) (zd_b zq_prog_12_method_11_code_0 21 rfl rfl rfl) (zd_b zq_prog_12_method_11_code_0 22 rfl rfl rfl) (zd_b zq_prog_12_method_11_code_0 23 rfl rfl rfl)
theorem d_Tr_canFeed_24 : decode prog_12_method_11_code 24 = .ok (.iload_n 2, 1) := zo_28 (zd_b zq_prog_12_method_11_code_0 24 rfl rfl rfl)
theorem d_Tr_canFeed_25 : decode prog_12_method_11_code 25 = .ok (.iaload, 1) := zo_46 (zd_b zq_prog_12_method_11_code_0 25 rfl rfl rfl)
theorem d_Tr_canFeed_26 : decode prog_12_method_11_code 26 = .ok (.aload_n 0, 1) := zo_42 (zd_b zq_prog_12_method_11_code_0 26 rfl rfl rfl)
theorem d_Tr_canFeed_27 : decode prog_12_method_11_code 27 = .ok (.getfield 22, 3) := zo_180 (d := 0) (e := 22) (zd_b zq_prog_12_method_11_code_0 27 rfl rfl rfl) (zd_b zq_prog_12_method_11_code_0 28 rfl rfl rfl) (zd_b zq_prog_12_method_11_code_0 29 rfl rfl rfl)
theorem d_Tr_canFeed_30 : decode prog_12_method_11_code 30 = .ok (.getfield 98, 3) := zo_180 (d := 0) (e := 98) (zd_b zq_prog_12_method_11_code_0 30 rfl rfl rfl) (zd_b zq_prog_12_method_11_code_0 31 rfl rfl rfl) (zd_b zq_prog_12_method_11_code_1 0 rfl rfl rfl)
theorem d_Tr_canFeed_33 : decode prog_12_method_11_code 33 = .ok (.iload_n 1, 1) := zo_27 (zd_b zq_prog_12_method_11_code_1 1 rfl rfl rfl)
theorem d_Tr_canFeed_34 : decode prog_12_method_11_code 34 = .ok (.iaload, 1) := zo_46 (zd_b zq_prog_12_method_11_code_1 2 rfl rfl rfl)
theorem d_Tr_canFeed_35 : decode prog_12_method_11_code 35 = .ok (.if_icmp .gt 7, 3) := zo_163 (d := 0) (e := 7) (zd_b zq_prog_12_method_11_code_1 3 rfl rfl rfl) (zd_b zq_prog_12_method_11_code_1 4 rfl rfl rfl) (zd_b zq_prog_12_method_11_code_1 5 rfl rfl rfl) (by decide +kernel)
theorem d_Tr_canFeed_38 : decode prog_12_method_11_code 38 = .ok (.iconst 1, 1) := zo_4 (zd_b zq_prog_12_method_11_code_1 6 rfl rfl rfl)
theorem d_Tr_canFeed_39 : decode prog_12_method_11_code 39 = .ok (.goto 4, 3) := zo_167 (d := 0) (e := 4) (zd_b zq_prog_12_method_11_code_1 7 rfl rfl rfl) (zd_b zq_prog_12_method_11_code_1 8 rfl rfl rfl) (zd_b zq_prog_12_method_11_code_1 9 rfl rfl rfl) (by decide +kernel)
set_option maxHeartbeats 4000000 in
set_option maxRecDepth 100000 in
theorem C_Tr_canFeed (g : zG) (a a1 a2 az az1 az2 az3 az4 az5 az6 a4 a5 a6 : Nat) (run fo liq : Int32) (ce fi fr fed seen : Nat → Int32) (qn : Nat → Nat) (here oo : Nat) (hh : here < 108) (ho : oo < 108) : CT g M_Tr_canFeed [.ref a, .int (nI here), .int (nI oo)] [(a, .inr (10, [.ref a1, .ref a2, .ref az, .ref a4, .ref a5, .ref a6, .int run, .int fo])), (a1, .inl (1, 108, .inl ce)), (a2, .inl (0, 108, .inl fi)), (az, .inr (2, [.ref az1, .ref az2, .ref az3, .ref az4, .ref az5, .ref az6, .int liq])), (az4, .inl (0, 108, .inl fr)), (a4, .inl (2, 108, .inl fed)), (a5, .inl (2, 108, .inl seen)), (a6, .inl (0, 108, .inl (fun k => nI (qn k))))] (fun o cs1 => o = .inl (some (.int (z_bi (cfB fed fi fr here oo)))) ∧ cs1 = [(a, .inr (10, [.ref a1, .ref a2, .ref az, .ref a4, .ref a5, .ref a6, .int run, .int fo])), (a1, .inl (1, 108, .inl ce)), (a2, .inl (0, 108, .inl fi)), (az, .inr (2, [.ref az1, .ref az2, .ref az3, .ref az4, .ref az5, .ref az6, .int liq])), (az4, .inl (0, 108, .inl fr)), (a4, .inl (2, 108, .inl fed)), (a5, .inl (2, 108, .inl seen)), (a6, .inl (0, 108, .inl (fun k => nI (qn k))))]) 0 0 := by
  refine z_of (by decide) rfl (Nat.le_of_ble_eq_true rfl) (fun w0 => ?_)
  refine r_lvE (lv2 := [(0, .ref a), (1, .int (nI here)), (2, .int (nI oo))]) rfl ?_
  refine r_aload_n d_Tr_canFeed_0 rfl 0 rfl ?_
  refine r_get fs_Tr_26 d_Tr_canFeed_1 (q0 := 0) rfl rfl ?_
  refine r_iload_n d_Tr_canFeed_4 rfl 2 rfl ?_
  refine r_zald d_Tr_canFeed_5 (q0 := 5) rfl (vp_in_nI (by omega) (by omega)) (v := fed oo) (by rw [nI_clamp (by omega)]) ?_
  refine r_if_ne (tgt := 42) d_Tr_canFeed_6 (by decide) (fun c_6 => ?_) (fun c_6 => ?_)
  · refine r_iconst d_Tr_canFeed_42 (v := 0) (by decide) ?_
    refine r_iret d_Tr_canFeed_43 rfl rfl ?_
    refine ⟨?_, rfl⟩
    simp_all [cfB, z_bi]
  · refine r_aload_n d_Tr_canFeed_9 rfl 0 rfl ?_
    refine r_iload_n d_Tr_canFeed_10 rfl 2 rfl ?_
    refine r_callV (As := [.int (nI oo)]) (rest := []) (csC := [(a, .inr (10, [.ref a1, .ref a2, .ref az, .ref a4, .ref a5, .ref a6, .int run, .int fo])), (a1, .inl (1, 108, .inl ce)), (a2, .inl (0, 108, .inl fi))]) (is := [0, 1, 2]) (q0 := 0) rfl rfl ln_Tr_91 w_im_Tr_isFilled w_se_Tr_isFilled ok_Tr_canFeed_Tr_isFilled d_Tr_canFeed_11 (C_Tr_isFilled g a a1 a2 az a4 a5 a6 run fo ce fi oo (by omega)) rfl rfl (Nat.le_of_ble_eq_true rfl) rfl (by decide) (by omega) (by omega) (fun E cs1 hx => ?_) (fun v cs1 hx => ?_)
    · exact absurd hx.1 (by simp)
    · obtain ⟨e1, rfl⟩ := hx
      cases e1
      refine ⟨rfl, ?_⟩
      refine r_st (st2 := [.int (z_bi (decide (¬ fi oo < 0)))]) rfl ?_
      refine r_cs (cs2 := [(a, .inr (10, [.ref a1, .ref a2, .ref az, .ref a4, .ref a5, .ref a6, .int run, .int fo])), (a1, .inl (1, 108, .inl ce)), (a2, .inl (0, 108, .inl fi)), (az, .inr (2, [.ref az1, .ref az2, .ref az3, .ref az4, .ref az5, .ref az6, .int liq])), (az4, .inl (0, 108, .inl fr)), (a4, .inl (2, 108, .inl fed)), (a5, .inl (2, 108, .inl seen)), (a6, .inl (0, 108, .inl (fun k => nI (qn k))))]) rfl ?_
      refine r_if_eq (tgt := 42) d_Tr_canFeed_14 (by decide) (fun c_14 => ?_) (fun c_14 => ?_)
      · refine r_iconst d_Tr_canFeed_42 (v := 0) (by decide) ?_
        refine r_iret d_Tr_canFeed_43 rfl rfl ?_
        refine ⟨?_, rfl⟩
        simp_all [cfB, z_bi]
      · refine r_aload_n d_Tr_canFeed_17 rfl 0 rfl ?_
        refine r_get fs_Tr_22 d_Tr_canFeed_18 (q0 := 0) rfl rfl ?_
        refine r_get fs_Tr_98 d_Tr_canFeed_21 (q0 := 3) rfl rfl ?_
        refine r_iload_n d_Tr_canFeed_24 rfl 2 rfl ?_
        refine r_iald d_Tr_canFeed_25 (q0 := 4) rfl (vp_in_nI (by omega) (by omega)) (v := fr oo) (by rw [nI_clamp (by omega)]) ?_
        refine r_aload_n d_Tr_canFeed_26 rfl 0 rfl ?_
        refine r_get fs_Tr_22 d_Tr_canFeed_27 (q0 := 0) rfl rfl ?_
        refine r_get fs_Tr_98 d_Tr_canFeed_30 (q0 := 3) rfl rfl ?_
        refine r_iload_n d_Tr_canFeed_33 rfl 1 rfl ?_
        refine r_iald d_Tr_canFeed_34 (q0 := 4) rfl (vp_in_nI (by omega) (by omega)) (v := fr here) (by rw [nI_clamp (by omega)]) ?_
        refine r_icmp_gt (tgt := 42) d_Tr_canFeed_35 (by decide) (fun c_35 => ?_) (fun c_35 => ?_)
        · refine r_iconst d_Tr_canFeed_42 (v := 0) (by decide) ?_
          refine r_iret d_Tr_canFeed_43 rfl rfl ?_
          refine ⟨?_, rfl⟩
          simp_all [cfB, z_bi]
        · refine r_iconst d_Tr_canFeed_38 (v := 1) (by decide) ?_
          refine r_goto (tgt := 43) d_Tr_canFeed_39 (by decide) ?_
          refine r_iret d_Tr_canFeed_43 rfl rfl ?_
          refine ⟨?_, rfl⟩
          simp_all [cfB, z_bi]
abbrev M_Tr_shrunkCells : zM := (⟨"Ironpour$Trial", "shrunkCells", "()I"⟩, prog_12_method_12_code, 3, (Option.some FieldType.int), 2, 41, [])
theorem d_Tr_shrunkCells_4 : decode prog_12_method_12_code 4 = .ok (.iload_n 2, 1) := zo_28 (zd_b zq_prog_12_method_12_code_0 4 rfl rfl rfl)
theorem d_Tr_shrunkCells_5 : decode prog_12_method_12_code 5 = .ok (.bipush 108, 2) := zo_16 (d := 108) (zd_b zq_prog_12_method_12_code_0 5 rfl rfl rfl) (zd_b zq_prog_12_method_12_code_0 6 rfl rfl rfl) (by decide +kernel)
theorem d_Tr_shrunkCells_7 : decode prog_12_method_12_code 7 = .ok (.if_icmp .ge 40, 3) := zo_162 (d := 0) (e := 40) (zd_b zq_prog_12_method_12_code_0 7 rfl rfl rfl) (zd_b zq_prog_12_method_12_code_0 8 rfl rfl rfl) (zd_b zq_prog_12_method_12_code_0 9 rfl rfl rfl) (by decide +kernel)
theorem d_Tr_shrunkCells_47 : decode prog_12_method_12_code 47 = .ok (.iload_n 1, 1) := zo_27 (zd_b zq_prog_12_method_12_code_1 15 rfl rfl rfl)
theorem d_Tr_shrunkCells_48 : decode prog_12_method_12_code 48 = .ok (.ireturn, 1) := zo_172 (zd_b zq_prog_12_method_12_code_1 16 rfl rfl rfl)
theorem d_Tr_shrunkCells_10 : decode prog_12_method_12_code 10 = .ok (.aload_n 0, 1) := zo_42 (zd_b zq_prog_12_method_12_code_0 10 rfl rfl rfl)
theorem d_Tr_shrunkCells_11 : decode prog_12_method_12_code 11 = .ok (.getfield 9, 3) := zo_180 (d := 0) (e := 9) (zd_b zq_prog_12_method_12_code_0 11 rfl rfl rfl) (zd_b zq_prog_12_method_12_code_0 12 rfl rfl rfl) (zd_b zq_prog_12_method_12_code_0 13 rfl rfl rfl)
theorem d_Tr_shrunkCells_14 : decode prog_12_method_12_code 14 = .ok (.iload_n 2, 1) := zo_28 (zd_b zq_prog_12_method_12_code_0 14 rfl rfl rfl)
theorem d_Tr_shrunkCells_15 : decode prog_12_method_12_code 15 = .ok (.caload, 1) := zo_52 (zd_b zq_prog_12_method_12_code_0 15 rfl rfl rfl)
theorem d_Tr_shrunkCells_16 : decode prog_12_method_12_code 16 = .ok (.bipush 99, 2) := zo_16 (d := 99) (zd_b zq_prog_12_method_12_code_0 16 rfl rfl rfl) (zd_b zq_prog_12_method_12_code_0 17 rfl rfl rfl) (by decide +kernel)
theorem d_Tr_shrunkCells_18 : decode prog_12_method_12_code 18 = .ok (.if_icmp .ne 23, 3) := zo_160 (d := 0) (e := 23) (zd_b zq_prog_12_method_12_code_0 18 rfl rfl rfl) (zd_b zq_prog_12_method_12_code_0 19 rfl rfl rfl) (zd_b zq_prog_12_method_12_code_0 20 rfl rfl rfl) (by decide +kernel)
theorem d_Tr_shrunkCells_41 : decode prog_12_method_12_code 41 = .ok (.iinc 2 1, 3) := by decide +kernel
theorem d_Tr_shrunkCells_44 : decode prog_12_method_12_code 44 = .ok (.goto (-40), 3) := zo_167 (d := 255) (e := 216) (zd_b zq_prog_12_method_12_code_1 12 rfl rfl rfl) (zd_b zq_prog_12_method_12_code_1 13 rfl rfl rfl) (zd_b zq_prog_12_method_12_code_1 14 rfl rfl rfl) (by decide +kernel)
theorem d_Tr_shrunkCells_21 : decode prog_12_method_12_code 21 = .ok (.aload_n 0, 1) := zo_42 (zd_b zq_prog_12_method_12_code_0 21 rfl rfl rfl)
theorem d_Tr_shrunkCells_22 : decode prog_12_method_12_code 22 = .ok (.iload_n 2, 1) := zo_28 (zd_b zq_prog_12_method_12_code_0 22 rfl rfl rfl)
theorem d_Tr_shrunkCells_23 : decode prog_12_method_12_code 23 = .ok (.invokevirtual 91, 3) := zo_182 (d := 0) (e := 91) (zd_b zq_prog_12_method_12_code_0 23 rfl rfl rfl) (zd_b zq_prog_12_method_12_code_0 24 rfl rfl rfl) (zd_b zq_prog_12_method_12_code_0 25 rfl rfl rfl)
theorem ok_Tr_shrunkCells_Tr_isFilled : z_ok M_Tr_shrunkCells M_Tr_isFilled 1 := ⟨z_mj3 (i := 25) rfl (by decide +kernel), rfl, ⟨by decide +kernel, by decide +kernel, by decide +kernel⟩, ⟨by decide, by decide⟩, z_mj1 (i := 3) rfl (by decide +kernel), rfl⟩
theorem d_Tr_shrunkCells_26 : decode prog_12_method_12_code 26 = .ok (.ifCond .eq 15, 3) := zo_153 (d := 0) (e := 15) (zd_b zq_prog_12_method_12_code_0 26 rfl rfl rfl) (zd_b zq_prog_12_method_12_code_0 27 rfl rfl rfl) (zd_b zq_prog_12_method_12_code_0 28 rfl rfl rfl) (by decide +kernel)
theorem d_Tr_shrunkCells_29 : decode prog_12_method_12_code 29 = .ok (.aload_n 0, 1) := zo_42 (zd_b zq_prog_12_method_12_code_0 29 rfl rfl rfl)
theorem d_Tr_shrunkCells_30 : decode prog_12_method_12_code 30 = .ok (.getfield 26, 3) := zo_180 (d := 0) (e := 26) (zd_b zq_prog_12_method_12_code_0 30 rfl rfl rfl) (zd_b zq_prog_12_method_12_code_0 31 rfl rfl rfl) (zd_b zq_prog_12_method_12_code_1 0 rfl rfl rfl)
theorem d_Tr_shrunkCells_33 : decode prog_12_method_12_code 33 = .ok (.iload_n 2, 1) := zo_28 (zd_b zq_prog_12_method_12_code_1 1 rfl rfl rfl)
theorem d_Tr_shrunkCells_34 : decode prog_12_method_12_code 34 = .ok (.baload, 1) := zo_51 (zd_b zq_prog_12_method_12_code_1 2 rfl rfl rfl)
theorem d_Tr_shrunkCells_35 : decode prog_12_method_12_code 35 = .ok (.ifCond .ne 6, 3) := zo_154 (d := 0) (e := 6) (zd_b zq_prog_12_method_12_code_1 3 rfl rfl rfl) (zd_b zq_prog_12_method_12_code_1 4 rfl rfl rfl) (zd_b zq_prog_12_method_12_code_1 5 rfl rfl rfl) (by decide +kernel)
theorem d_Tr_shrunkCells_38 : decode prog_12_method_12_code 38 = .ok (.iinc 1 1, 3) := by decide +kernel
theorem d_Tr_shrunkCells_0 : decode prog_12_method_12_code 0 = .ok (.iconst 0, 1) := zo_3 (zd_b zq_prog_12_method_12_code_0 0 rfl rfl rfl)
theorem d_Tr_shrunkCells_1 : decode prog_12_method_12_code 1 = .ok (.istore_n 1, 1) := zo_60 (zd_b zq_prog_12_method_12_code_0 1 rfl rfl rfl)
theorem d_Tr_shrunkCells_2 : decode prog_12_method_12_code 2 = .ok (.iconst 0, 1) := zo_3 (zd_b zq_prog_12_method_12_code_0 2 rfl rfl rfl)
theorem d_Tr_shrunkCells_3 : decode prog_12_method_12_code 3 = .ok (.istore_n 2, 1) := zo_61 (zd_b zq_prog_12_method_12_code_0 3 rfl rfl rfl)
set_option maxHeartbeats 4000000 in
set_option maxRecDepth 100000 in
theorem L_Tr_shrunkCells_4 (g : zG) (a a1 a2 az az1 az2 az3 az4 az5 az6 a4 a5 a6 : Nat) (run fo liq : Int32) (ce fi fr fed seen : Nat → Int32) (qn : Nat → Nat) (w0 : zW) (n : Nat) : ∀ (d i : Nat), i ≤ 108 → 108 < i + d → DV g M_Tr_shrunkCells (fun o cs1 => o = .inl (some (.int (nI (fa_cnt (scP ce fi fed) 108)))) ∧ cs1 = [(a, .inr (10, [.ref a1, .ref a2, .ref az, .ref a4, .ref a5, .ref a6, .int run, .int fo])), (a1, .inl (1, 108, .inl ce)), (a2, .inl (0, 108, .inl fi)), (az, .inr (2, [.ref az1, .ref az2, .ref az3, .ref az4, .ref az5, .ref az6, .int liq])), (az4, .inl (0, 108, .inl fr)), (a4, .inl (2, 108, .inl fed)), (a5, .inl (2, 108, .inl seen)), (a6, .inl (0, 108, .inl (fun k => nI (qn k))))]) w0 n 4 [(2, .int (nI i)), (1, .int (nI (fa_cnt (scP ce fi fed) i))), (0, .ref a)] [] [(a, .inr (10, [.ref a1, .ref a2, .ref az, .ref a4, .ref a5, .ref a6, .int run, .int fo])), (a1, .inl (1, 108, .inl ce)), (a2, .inl (0, 108, .inl fi)), (az, .inr (2, [.ref az1, .ref az2, .ref az3, .ref az4, .ref az5, .ref az6, .int liq])), (az4, .inl (0, 108, .inl fr)), (a4, .inl (2, 108, .inl fed)), (a5, .inl (2, 108, .inl seen)), (a6, .inl (0, 108, .inl (fun k => nI (qn k))))] 0 0 := by
  intro d
  induction d with
  | zero => intro i h1 h2 ; exact absurd h2 (by omega)
  | succ d ih =>
    intro i h1 h2 
    refine r_iload_n d_Tr_shrunkCells_4 rfl 0 rfl ?_
    refine r_bipush d_Tr_shrunkCells_5 (v := 108) (by decide) ?_
    refine r_icmp_ge (tgt := 47) d_Tr_shrunkCells_7 (by decide) (fun c_7 => ?_) (fun c_7 => ?_)
    · have hn := z_le (a := 108) (by omega) (by decide) c_7
      obtain rfl : i = 108 := by omega
      refine r_iload_n d_Tr_shrunkCells_47 rfl 1 rfl ?_
      refine r_iret d_Tr_shrunkCells_48 rfl rfl ?_
      exact ⟨rfl, rfl⟩
    · have hn := z_nle (a := 108) (by omega) (by decide) c_7
      refine r_aload_n d_Tr_shrunkCells_10 rfl 2 rfl ?_
      refine r_get fs_Tr_9 d_Tr_shrunkCells_11 (q0 := 0) rfl rfl ?_
      refine r_iload_n d_Tr_shrunkCells_14 rfl 0 rfl ?_
      refine r_cald d_Tr_shrunkCells_15 (q0 := 1) rfl (vp_in_nI (by omega) (by omega)) (v := ce i) (by rw [nI_clamp (by omega)]) ?_
      refine r_bipush d_Tr_shrunkCells_16 (v := 99) (by decide) ?_
      refine r_icmp_ne (tgt := 41) d_Tr_shrunkCells_18 (by decide) (fun c_18 => ?_) (fun c_18 => ?_)
      · have hq : scP ce fi fed i = false := decide_eq_false (fun q => c_18 q.1)
        refine r_iinc (lv' := [(2, .int (nI (i + 1))), (1, .int (nI (fa_cnt (scP ce fi fed) i))), (0, .ref a)]) (v := nI (i + 1)) d_Tr_shrunkCells_41 (j := 0) rfl (nI_add _ _) (by decide) rfl ?_
        refine r_goto (tgt := 4) d_Tr_shrunkCells_44 (by decide) ?_
        refine r_lvE (lv2 := [(2, .int (nI (i + 1))), (1, .int (nI (fa_cnt (scP ce fi fed) (i + 1)))), (0, .ref a)]) (by first | rw [fa_cnt_yes (p := scP ce fi fed) hq] | rw [fa_cnt_no (p := scP ce fi fed) hq]) ?_
        refine r_cs (cs2 := [(a, .inr (10, [.ref a1, .ref a2, .ref az, .ref a4, .ref a5, .ref a6, .int run, .int fo])), (a1, .inl (1, 108, .inl ce)), (a2, .inl (0, 108, .inl fi)), (az, .inr (2, [.ref az1, .ref az2, .ref az3, .ref az4, .ref az5, .ref az6, .int liq])), (az4, .inl (0, 108, .inl fr)), (a4, .inl (2, 108, .inl fed)), (a5, .inl (2, 108, .inl seen)), (a6, .inl (0, 108, .inl (fun k => nI (qn k))))]) (rfl) ?_
        exact ih (i + 1) (by omega) (by omega)
      · refine r_aload_n d_Tr_shrunkCells_21 rfl 2 rfl ?_
        refine r_iload_n d_Tr_shrunkCells_22 rfl 0 rfl ?_
        refine r_callV (As := [.int (nI i)]) (rest := []) (csC := [(a, .inr (10, [.ref a1, .ref a2, .ref az, .ref a4, .ref a5, .ref a6, .int run, .int fo])), (a1, .inl (1, 108, .inl ce)), (a2, .inl (0, 108, .inl fi))]) (is := [0, 1, 2]) (q0 := 0) rfl rfl ln_Tr_91 w_im_Tr_isFilled w_se_Tr_isFilled ok_Tr_shrunkCells_Tr_isFilled d_Tr_shrunkCells_23 (C_Tr_isFilled g a a1 a2 az a4 a5 a6 run fo ce fi i (by omega)) rfl rfl (Nat.le_of_ble_eq_true rfl) rfl (by decide) (by omega) (by omega) (fun E cs1 hx => ?_) (fun v cs1 hx => ?_)
        · exact absurd hx.1 (by simp)
        · obtain ⟨e1, rfl⟩ := hx
          cases e1
          refine ⟨rfl, ?_⟩
          refine r_st (st2 := [.int (z_bi (decide (¬ fi i < 0)))]) rfl ?_
          refine r_cs (cs2 := [(a, .inr (10, [.ref a1, .ref a2, .ref az, .ref a4, .ref a5, .ref a6, .int run, .int fo])), (a1, .inl (1, 108, .inl ce)), (a2, .inl (0, 108, .inl fi)), (az, .inr (2, [.ref az1, .ref az2, .ref az3, .ref az4, .ref az5, .ref az6, .int liq])), (az4, .inl (0, 108, .inl fr)), (a4, .inl (2, 108, .inl fed)), (a5, .inl (2, 108, .inl seen)), (a6, .inl (0, 108, .inl (fun k => nI (qn k))))]) rfl ?_
          refine r_if_eq (tgt := 41) d_Tr_shrunkCells_26 (by decide) (fun c_26 => ?_) (fun c_26 => ?_)
          · have hq : scP ce fi fed i = false := decide_eq_false (fun q => by have := z_bi0 c_26; rw [decide_eq_true q.2.1] at this; cases this)
            refine r_iinc (lv' := [(2, .int (nI (i + 1))), (1, .int (nI (fa_cnt (scP ce fi fed) i))), (0, .ref a)]) (v := nI (i + 1)) d_Tr_shrunkCells_41 (j := 0) rfl (nI_add _ _) (by decide) rfl ?_
            refine r_goto (tgt := 4) d_Tr_shrunkCells_44 (by decide) ?_
            refine r_lvE (lv2 := [(2, .int (nI (i + 1))), (1, .int (nI (fa_cnt (scP ce fi fed) (i + 1)))), (0, .ref a)]) (by first | rw [fa_cnt_yes (p := scP ce fi fed) hq] | rw [fa_cnt_no (p := scP ce fi fed) hq]) ?_
            refine r_cs (cs2 := [(a, .inr (10, [.ref a1, .ref a2, .ref az, .ref a4, .ref a5, .ref a6, .int run, .int fo])), (a1, .inl (1, 108, .inl ce)), (a2, .inl (0, 108, .inl fi)), (az, .inr (2, [.ref az1, .ref az2, .ref az3, .ref az4, .ref az5, .ref az6, .int liq])), (az4, .inl (0, 108, .inl fr)), (a4, .inl (2, 108, .inl fed)), (a5, .inl (2, 108, .inl seen)), (a6, .inl (0, 108, .inl (fun k => nI (qn k))))]) (rfl) ?_
            exact ih (i + 1) (by omega) (by omega)
          · refine r_aload_n d_Tr_shrunkCells_29 rfl 2 rfl ?_
            refine r_get fs_Tr_26 d_Tr_shrunkCells_30 (q0 := 0) rfl rfl ?_
            refine r_iload_n d_Tr_shrunkCells_33 rfl 0 rfl ?_
            refine r_zald d_Tr_shrunkCells_34 (q0 := 5) rfl (vp_in_nI (by omega) (by omega)) (v := fed i) (by rw [nI_clamp (by omega)]) ?_
            refine r_if_ne (tgt := 41) d_Tr_shrunkCells_35 (by decide) (fun c_35 => ?_) (fun c_35 => ?_)
            · have hq : scP ce fi fed i = false := decide_eq_false (fun q => c_35 q.2.2)
              refine r_iinc (lv' := [(2, .int (nI (i + 1))), (1, .int (nI (fa_cnt (scP ce fi fed) i))), (0, .ref a)]) (v := nI (i + 1)) d_Tr_shrunkCells_41 (j := 0) rfl (nI_add _ _) (by decide) rfl ?_
              refine r_goto (tgt := 4) d_Tr_shrunkCells_44 (by decide) ?_
              refine r_lvE (lv2 := [(2, .int (nI (i + 1))), (1, .int (nI (fa_cnt (scP ce fi fed) (i + 1)))), (0, .ref a)]) (by first | rw [fa_cnt_yes (p := scP ce fi fed) hq] | rw [fa_cnt_no (p := scP ce fi fed) hq]) ?_
              refine r_cs (cs2 := [(a, .inr (10, [.ref a1, .ref a2, .ref az, .ref a4, .ref a5, .ref a6, .int run, .int fo])), (a1, .inl (1, 108, .inl ce)), (a2, .inl (0, 108, .inl fi)), (az, .inr (2, [.ref az1, .ref az2, .ref az3, .ref az4, .ref az5, .ref az6, .int liq])), (az4, .inl (0, 108, .inl fr)), (a4, .inl (2, 108, .inl fed)), (a5, .inl (2, 108, .inl seen)), (a6, .inl (0, 108, .inl (fun k => nI (qn k))))]) (rfl) ?_
              exact ih (i + 1) (by omega) (by omega)
            · have hq : scP ce fi fed i = true := decide_eq_true ⟨c_18, of_decide_eq_true (z_bi1 c_26), c_35⟩
              refine r_iinc (lv' := [(1, .int (nI ((fa_cnt (scP ce fi fed) i) + 1))), (2, .int (nI i)), (0, .ref a)]) (v := nI ((fa_cnt (scP ce fi fed) i) + 1)) d_Tr_shrunkCells_38 (j := 1) rfl (nI_add _ _) (by decide) rfl ?_
              refine r_iinc (lv' := [(2, .int (nI (i + 1))), (1, .int (nI ((fa_cnt (scP ce fi fed) i) + 1))), (0, .ref a)]) (v := nI (i + 1)) d_Tr_shrunkCells_41 (j := 1) rfl (nI_add _ _) (by decide) rfl ?_
              refine r_goto (tgt := 4) d_Tr_shrunkCells_44 (by decide) ?_
              refine r_lvE (lv2 := [(2, .int (nI (i + 1))), (1, .int (nI (fa_cnt (scP ce fi fed) (i + 1)))), (0, .ref a)]) (by first | rw [fa_cnt_yes (p := scP ce fi fed) hq] | rw [fa_cnt_no (p := scP ce fi fed) hq]) ?_
              refine r_cs (cs2 := [(a, .inr (10, [.ref a1, .ref a2, .ref az, .ref a4, .ref a5, .ref a6, .int run, .int fo])), (a1, .inl (1, 108, .inl ce)), (a2, .inl (0, 108, .inl fi)), (az, .inr (2, [.ref az1, .ref az2, .ref az3, .ref az4, .ref az5, .ref az6, .int liq])), (az4, .inl (0, 108, .inl fr)), (a4, .inl (2, 108, .inl fed)), (a5, .inl (2, 108, .inl seen)), (a6, .inl (0, 108, .inl (fun k => nI (qn k))))]) (rfl) ?_
              exact ih (i + 1) (by omega) (by omega)
set_option maxHeartbeats 4000000 in
set_option maxRecDepth 100000 in
theorem C_Tr_shrunkCells (g : zG) (a a1 a2 az az1 az2 az3 az4 az5 az6 a4 a5 a6 : Nat) (run fo liq : Int32) (ce fi fr fed seen : Nat → Int32) (qn : Nat → Nat) : CT g M_Tr_shrunkCells [.ref a] [(a, .inr (10, [.ref a1, .ref a2, .ref az, .ref a4, .ref a5, .ref a6, .int run, .int fo])), (a1, .inl (1, 108, .inl ce)), (a2, .inl (0, 108, .inl fi)), (az, .inr (2, [.ref az1, .ref az2, .ref az3, .ref az4, .ref az5, .ref az6, .int liq])), (az4, .inl (0, 108, .inl fr)), (a4, .inl (2, 108, .inl fed)), (a5, .inl (2, 108, .inl seen)), (a6, .inl (0, 108, .inl (fun k => nI (qn k))))] (fun o cs1 => o = .inl (some (.int (nI (fa_cnt (scP ce fi fed) 108)))) ∧ cs1 = [(a, .inr (10, [.ref a1, .ref a2, .ref az, .ref a4, .ref a5, .ref a6, .int run, .int fo])), (a1, .inl (1, 108, .inl ce)), (a2, .inl (0, 108, .inl fi)), (az, .inr (2, [.ref az1, .ref az2, .ref az3, .ref az4, .ref az5, .ref az6, .int liq])), (az4, .inl (0, 108, .inl fr)), (a4, .inl (2, 108, .inl fed)), (a5, .inl (2, 108, .inl seen)), (a6, .inl (0, 108, .inl (fun k => nI (qn k))))]) 0 0 := by
  refine z_of (by decide) rfl (Nat.le_of_ble_eq_true rfl) (fun w0 => ?_)
  refine r_lvE (lv2 := [(0, .ref a)]) rfl ?_
  refine r_iconst d_Tr_shrunkCells_0 (v := 0) (by decide) ?_
  refine r_istore_n (lv' := [(1, .int 0), (0, .ref a)]) d_Tr_shrunkCells_1 rfl (by decide) rfl ?_
  refine r_iconst d_Tr_shrunkCells_2 (v := 0) (by decide) ?_
  refine r_istore_n (lv' := [(2, .int 0), (1, .int 0), (0, .ref a)]) d_Tr_shrunkCells_3 rfl (by decide) rfl ?_
  refine r_lvE (lv2 := [(2, .int (nI 0)), (1, .int (nI (fa_cnt (scP ce fi fed) 0))), (0, .ref a)]) (rfl) ?_
  refine r_cs (cs2 := [(a, .inr (10, [.ref a1, .ref a2, .ref az, .ref a4, .ref a5, .ref a6, .int run, .int fo])), (a1, .inl (1, 108, .inl ce)), (a2, .inl (0, 108, .inl fi)), (az, .inr (2, [.ref az1, .ref az2, .ref az3, .ref az4, .ref az5, .ref az6, .int liq])), (az4, .inl (0, 108, .inl fr)), (a4, .inl (2, 108, .inl fed)), (a5, .inl (2, 108, .inl seen)), (a6, .inl (0, 108, .inl (fun k => nI (qn k))))]) (rfl) ?_
  exact L_Tr_shrunkCells_4 g a a1 a2 az az1 az2 az3 az4 az5 az6 a4 a5 a6 run fo liq ce fi fr fed seen qn w0 _  (108 + 1) 0 (Nat.zero_le _) (by omega)
abbrev M_Tr_hasWayToFeeder : zM := (⟨"Ironpour$Trial", "hasWayToFeeder", "(I)Z"⟩, prog_12_method_14_code, 7, (Option.some FieldType.boolean), 3, 63, [])
theorem d_Tr_hasWayToFeeder_75 : decode prog_12_method_14_code 75 = .ok (.iload 5, 2) := zo_21 (d := 5) (zd_b zq_prog_12_method_14_code_2 11 rfl rfl rfl) (zd_b zq_prog_12_method_14_code_2 12 rfl rfl rfl)
theorem d_Tr_hasWayToFeeder_77 : decode prog_12_method_14_code 77 = .ok (.iconst 4, 1) := zo_7 (zd_b zq_prog_12_method_14_code_2 13 rfl rfl rfl)
theorem d_Tr_hasWayToFeeder_78 : decode prog_12_method_14_code 78 = .ok (.if_icmp .ge 59, 3) := zo_162 (d := 0) (e := 59) (zd_b zq_prog_12_method_14_code_2 14 rfl rfl rfl) (zd_b zq_prog_12_method_14_code_2 15 rfl rfl rfl) (zd_b zq_prog_12_method_14_code_2 16 rfl rfl rfl) (by decide +kernel)
theorem d_Tr_hasWayToFeeder_81 : decode prog_12_method_14_code 81 = .ok (.iload 4, 2) := zo_21 (d := 4) (zd_b zq_prog_12_method_14_code_2 17 rfl rfl rfl) (zd_b zq_prog_12_method_14_code_2 18 rfl rfl rfl)
theorem d_Tr_hasWayToFeeder_83 : decode prog_12_method_14_code 83 = .ok (.iload 5, 2) := zo_21 (d := 5) (zd_b zq_prog_12_method_14_code_2 19 rfl rfl rfl) (zd_b zq_prog_12_method_14_code_2 20 rfl rfl rfl)
theorem d_Tr_hasWayToFeeder_85 : decode prog_12_method_14_code 85 = .ok (.invokestatic 72, 3) := zo_184 (d := 0) (e := 72) (zd_b zq_prog_12_method_14_code_2 21 rfl rfl rfl) (zd_b zq_prog_12_method_14_code_2 22 rfl rfl rfl) (zd_b zq_prog_12_method_14_code_2 23 rfl rfl rfl)
theorem ok_Tr_hasWayToFeeder_Ip_beside : z_ok M_Tr_hasWayToFeeder M_Ip_beside 2 := ⟨z_mj2 (i := 133) rfl (by decide +kernel), rfl, ⟨by decide +kernel, by decide +kernel, by decide +kernel⟩, ⟨by decide, by decide⟩, z_mj1 (i := 1) rfl (by decide +kernel), rfl⟩
theorem d_Tr_hasWayToFeeder_88 : decode prog_12_method_14_code 88 = .ok (.istore 6, 2) := zo_54 (d := 6) (zd_b zq_prog_12_method_14_code_2 24 rfl rfl rfl) (zd_b zq_prog_12_method_14_code_2 25 rfl rfl rfl)
theorem d_Tr_hasWayToFeeder_90 : decode prog_12_method_14_code 90 = .ok (.iload 6, 2) := zo_21 (d := 6) (zd_b zq_prog_12_method_14_code_2 26 rfl rfl rfl) (zd_b zq_prog_12_method_14_code_2 27 rfl rfl rfl)
theorem d_Tr_hasWayToFeeder_92 : decode prog_12_method_14_code 92 = .ok (.ifCond .lt 39, 3) := zo_155 (d := 0) (e := 39) (zd_b zq_prog_12_method_14_code_2 28 rfl rfl rfl) (zd_b zq_prog_12_method_14_code_2 29 rfl rfl rfl) (zd_b zq_prog_12_method_14_code_2 30 rfl rfl rfl) (by decide +kernel)
theorem d_Tr_hasWayToFeeder_131 : decode prog_12_method_14_code 131 = .ok (.iinc 5 1, 3) := by decide +kernel
theorem d_Tr_hasWayToFeeder_134 : decode prog_12_method_14_code 134 = .ok (.goto (-59), 3) := zo_167 (d := 255) (e := 197) (zd_b zq_prog_12_method_14_code_4 6 rfl rfl rfl) (zd_b zq_prog_12_method_14_code_4 7 rfl rfl rfl) (zd_b zq_prog_12_method_14_code_4 8 rfl rfl rfl) (by decide +kernel)
theorem d_Tr_hasWayToFeeder_95 : decode prog_12_method_14_code 95 = .ok (.aload_n 0, 1) := zo_42 (zd_b zq_prog_12_method_14_code_2 31 rfl rfl rfl)
theorem d_Tr_hasWayToFeeder_96 : decode prog_12_method_14_code 96 = .ok (.iload 6, 2) := zo_21 (d := 6) (zd_b zq_prog_12_method_14_code_3 0 rfl rfl rfl) (zd_b zq_prog_12_method_14_code_3 1 rfl rfl rfl)
theorem d_Tr_hasWayToFeeder_98 : decode prog_12_method_14_code 98 = .ok (.iload 4, 2) := zo_21 (d := 4) (zd_b zq_prog_12_method_14_code_3 2 rfl rfl rfl) (zd_b zq_prog_12_method_14_code_3 3 rfl rfl rfl)
theorem d_Tr_hasWayToFeeder_100 : decode prog_12_method_14_code 100 = .ok (.invokevirtual 104, 3) := zo_182 (d := 0) (e := 104) (zd_b zq_prog_12_method_14_code_3 4 rfl rfl rfl) (zd_b zq_prog_12_method_14_code_3 5 rfl rfl rfl) (zd_b zq_prog_12_method_14_code_3 6 rfl rfl rfl)
theorem ok_Tr_hasWayToFeeder_Tr_canBeFedFrom : z_ok M_Tr_hasWayToFeeder M_Tr_canBeFedFrom 2 := ⟨z_mj3 (i := 45) rfl (by decide +kernel), rfl, ⟨by decide +kernel, by decide +kernel, by decide +kernel⟩, ⟨by decide, by decide⟩, z_mj1 (i := 3) rfl (by decide +kernel), rfl⟩
theorem ln_Tr_104 : Cond.methodLink "Ironpour$Trial" 104 M_Tr_canBeFedFrom.1 ∈ z_gw := z_mj3 (i := 42) rfl (by decide +kernel)
theorem w_im_Tr_canBeFedFrom : Cond.instanceMethod M_Tr_canBeFedFrom.1 ∈ z_gw := z_mj3 (i := 44) rfl (by decide +kernel)
theorem w_se_Tr_canBeFedFrom : Cond.selects M_Tr_canBeFedFrom.1.cls M_Tr_canBeFedFrom.1 M_Tr_canBeFedFrom.1 ∈ z_gw := z_mem (i := 16) (by decide +kernel) (by decide +kernel)
theorem d_Tr_hasWayToFeeder_103 : decode prog_12_method_14_code 103 = .ok (.ifCond .eq 28, 3) := zo_153 (d := 0) (e := 28) (zd_b zq_prog_12_method_14_code_3 7 rfl rfl rfl) (zd_b zq_prog_12_method_14_code_3 8 rfl rfl rfl) (zd_b zq_prog_12_method_14_code_3 9 rfl rfl rfl) (by decide +kernel)
theorem d_Tr_hasWayToFeeder_106 : decode prog_12_method_14_code 106 = .ok (.iload_n 2, 1) := zo_28 (zd_b zq_prog_12_method_14_code_3 10 rfl rfl rfl)
theorem d_Tr_hasWayToFeeder_107 : decode prog_12_method_14_code 107 = .ok (.bipush 108, 2) := zo_16 (d := 108) (zd_b zq_prog_12_method_14_code_3 11 rfl rfl rfl) (zd_b zq_prog_12_method_14_code_3 12 rfl rfl rfl) (by decide +kernel)
theorem d_Tr_hasWayToFeeder_109 : decode prog_12_method_14_code 109 = .ok (.if_icmp .ge 22, 3) := zo_162 (d := 0) (e := 22) (zd_b zq_prog_12_method_14_code_3 13 rfl rfl rfl) (zd_b zq_prog_12_method_14_code_3 14 rfl rfl rfl) (zd_b zq_prog_12_method_14_code_3 15 rfl rfl rfl) (by decide +kernel)
theorem d_Tr_hasWayToFeeder_112 : decode prog_12_method_14_code 112 = .ok (.aload_n 0, 1) := zo_42 (zd_b zq_prog_12_method_14_code_3 16 rfl rfl rfl)
theorem d_Tr_hasWayToFeeder_113 : decode prog_12_method_14_code 113 = .ok (.getfield 30, 3) := zo_180 (d := 0) (e := 30) (zd_b zq_prog_12_method_14_code_3 17 rfl rfl rfl) (zd_b zq_prog_12_method_14_code_3 18 rfl rfl rfl) (zd_b zq_prog_12_method_14_code_3 19 rfl rfl rfl)
theorem d_Tr_hasWayToFeeder_116 : decode prog_12_method_14_code 116 = .ok (.iload 6, 2) := zo_21 (d := 6) (zd_b zq_prog_12_method_14_code_3 20 rfl rfl rfl) (zd_b zq_prog_12_method_14_code_3 21 rfl rfl rfl)
theorem d_Tr_hasWayToFeeder_118 : decode prog_12_method_14_code 118 = .ok (.iconst 1, 1) := zo_4 (zd_b zq_prog_12_method_14_code_3 22 rfl rfl rfl)
theorem d_Tr_hasWayToFeeder_119 : decode prog_12_method_14_code 119 = .ok (.bastore, 1) := zo_84 (zd_b zq_prog_12_method_14_code_3 23 rfl rfl rfl)
theorem d_Tr_hasWayToFeeder_120 : decode prog_12_method_14_code 120 = .ok (.aload_n 0, 1) := zo_42 (zd_b zq_prog_12_method_14_code_3 24 rfl rfl rfl)
theorem d_Tr_hasWayToFeeder_121 : decode prog_12_method_14_code 121 = .ok (.getfield 33, 3) := zo_180 (d := 0) (e := 33) (zd_b zq_prog_12_method_14_code_3 25 rfl rfl rfl) (zd_b zq_prog_12_method_14_code_3 26 rfl rfl rfl) (zd_b zq_prog_12_method_14_code_3 27 rfl rfl rfl)
theorem fs_Tr_33 : z_fs "Ironpour$Trial" 33 10 5 := ⟨R_Tr, "Ironpour$Trial", F_Tr, 8, rfl, u_Tr, by decide, Or.inl ⟨z_mj1 (i := 118) rfl (by decide +kernel), Or.inl rfl⟩⟩
theorem d_Tr_hasWayToFeeder_124 : decode prog_12_method_14_code 124 = .ok (.iload_n 2, 1) := zo_28 (zd_b zq_prog_12_method_14_code_3 28 rfl rfl rfl)
theorem d_Tr_hasWayToFeeder_125 : decode prog_12_method_14_code 125 = .ok (.iload 6, 2) := zo_21 (d := 6) (zd_b zq_prog_12_method_14_code_3 29 rfl rfl rfl) (zd_b zq_prog_12_method_14_code_3 30 rfl rfl rfl)
theorem d_Tr_hasWayToFeeder_127 : decode prog_12_method_14_code 127 = .ok (.iastore, 1) := zo_79 (zd_b zq_prog_12_method_14_code_3 31 rfl rfl rfl)
theorem d_Tr_hasWayToFeeder_128 : decode prog_12_method_14_code 128 = .ok (.iinc 2 1, 3) := by decide +kernel
theorem d_Tr_hasWayToFeeder_39 : decode prog_12_method_14_code 39 = .ok (.iload_n 3, 1) := zo_29 (zd_b zq_prog_12_method_14_code_1 7 rfl rfl rfl)
theorem d_Tr_hasWayToFeeder_40 : decode prog_12_method_14_code 40 = .ok (.iload_n 2, 1) := zo_28 (zd_b zq_prog_12_method_14_code_1 8 rfl rfl rfl)
theorem d_Tr_hasWayToFeeder_41 : decode prog_12_method_14_code 41 = .ok (.if_icmp .ge 102, 3) := zo_162 (d := 0) (e := 102) (zd_b zq_prog_12_method_14_code_1 9 rfl rfl rfl) (zd_b zq_prog_12_method_14_code_1 10 rfl rfl rfl) (zd_b zq_prog_12_method_14_code_1 11 rfl rfl rfl) (by decide +kernel)
theorem d_Tr_hasWayToFeeder_143 : decode prog_12_method_14_code 143 = .ok (.iconst 0, 1) := zo_3 (zd_b zq_prog_12_method_14_code_4 15 rfl rfl rfl)
theorem d_Tr_hasWayToFeeder_144 : decode prog_12_method_14_code 144 = .ok (.ireturn, 1) := zo_172 (zd_b zq_prog_12_method_14_code_4 16 rfl rfl rfl)
theorem d_Tr_hasWayToFeeder_44 : decode prog_12_method_14_code 44 = .ok (.iload_n 3, 1) := zo_29 (zd_b zq_prog_12_method_14_code_1 12 rfl rfl rfl)
theorem d_Tr_hasWayToFeeder_45 : decode prog_12_method_14_code 45 = .ok (.bipush 108, 2) := zo_16 (d := 108) (zd_b zq_prog_12_method_14_code_1 13 rfl rfl rfl) (zd_b zq_prog_12_method_14_code_1 14 rfl rfl rfl) (by decide +kernel)
theorem d_Tr_hasWayToFeeder_47 : decode prog_12_method_14_code 47 = .ok (.if_icmp .ge 96, 3) := zo_162 (d := 0) (e := 96) (zd_b zq_prog_12_method_14_code_1 15 rfl rfl rfl) (zd_b zq_prog_12_method_14_code_1 16 rfl rfl rfl) (zd_b zq_prog_12_method_14_code_1 17 rfl rfl rfl) (by decide +kernel)
theorem d_Tr_hasWayToFeeder_50 : decode prog_12_method_14_code 50 = .ok (.aload_n 0, 1) := zo_42 (zd_b zq_prog_12_method_14_code_1 18 rfl rfl rfl)
theorem d_Tr_hasWayToFeeder_51 : decode prog_12_method_14_code 51 = .ok (.getfield 33, 3) := zo_180 (d := 0) (e := 33) (zd_b zq_prog_12_method_14_code_1 19 rfl rfl rfl) (zd_b zq_prog_12_method_14_code_1 20 rfl rfl rfl) (zd_b zq_prog_12_method_14_code_1 21 rfl rfl rfl)
theorem d_Tr_hasWayToFeeder_54 : decode prog_12_method_14_code 54 = .ok (.iload_n 3, 1) := zo_29 (zd_b zq_prog_12_method_14_code_1 22 rfl rfl rfl)
theorem d_Tr_hasWayToFeeder_55 : decode prog_12_method_14_code 55 = .ok (.iaload, 1) := zo_46 (zd_b zq_prog_12_method_14_code_1 23 rfl rfl rfl)
theorem d_Tr_hasWayToFeeder_56 : decode prog_12_method_14_code 56 = .ok (.istore 4, 2) := zo_54 (d := 4) (zd_b zq_prog_12_method_14_code_1 24 rfl rfl rfl) (zd_b zq_prog_12_method_14_code_1 25 rfl rfl rfl)
theorem d_Tr_hasWayToFeeder_58 : decode prog_12_method_14_code 58 = .ok (.aload_n 0, 1) := zo_42 (zd_b zq_prog_12_method_14_code_1 26 rfl rfl rfl)
theorem d_Tr_hasWayToFeeder_59 : decode prog_12_method_14_code 59 = .ok (.getfield 9, 3) := zo_180 (d := 0) (e := 9) (zd_b zq_prog_12_method_14_code_1 27 rfl rfl rfl) (zd_b zq_prog_12_method_14_code_1 28 rfl rfl rfl) (zd_b zq_prog_12_method_14_code_1 29 rfl rfl rfl)
theorem d_Tr_hasWayToFeeder_62 : decode prog_12_method_14_code 62 = .ok (.iload 4, 2) := zo_21 (d := 4) (zd_b zq_prog_12_method_14_code_1 30 rfl rfl rfl) (zd_b zq_prog_12_method_14_code_1 31 rfl rfl rfl)
theorem d_Tr_hasWayToFeeder_64 : decode prog_12_method_14_code 64 = .ok (.caload, 1) := zo_52 (zd_b zq_prog_12_method_14_code_2 0 rfl rfl rfl)
theorem d_Tr_hasWayToFeeder_65 : decode prog_12_method_14_code 65 = .ok (.bipush 114, 2) := zo_16 (d := 114) (zd_b zq_prog_12_method_14_code_2 1 rfl rfl rfl) (zd_b zq_prog_12_method_14_code_2 2 rfl rfl rfl) (by decide +kernel)
theorem d_Tr_hasWayToFeeder_67 : decode prog_12_method_14_code 67 = .ok (.if_icmp .ne 5, 3) := zo_160 (d := 0) (e := 5) (zd_b zq_prog_12_method_14_code_2 3 rfl rfl rfl) (zd_b zq_prog_12_method_14_code_2 4 rfl rfl rfl) (zd_b zq_prog_12_method_14_code_2 5 rfl rfl rfl) (by decide +kernel)
theorem d_Tr_hasWayToFeeder_72 : decode prog_12_method_14_code 72 = .ok (.iconst 0, 1) := zo_3 (zd_b zq_prog_12_method_14_code_2 8 rfl rfl rfl)
theorem d_Tr_hasWayToFeeder_73 : decode prog_12_method_14_code 73 = .ok (.istore 5, 2) := zo_54 (d := 5) (zd_b zq_prog_12_method_14_code_2 9 rfl rfl rfl) (zd_b zq_prog_12_method_14_code_2 10 rfl rfl rfl)
theorem d_Tr_hasWayToFeeder_137 : decode prog_12_method_14_code 137 = .ok (.iinc 3 1, 3) := by decide +kernel
theorem d_Tr_hasWayToFeeder_140 : decode prog_12_method_14_code 140 = .ok (.goto (-101), 3) := zo_167 (d := 255) (e := 155) (zd_b zq_prog_12_method_14_code_4 12 rfl rfl rfl) (zd_b zq_prog_12_method_14_code_4 13 rfl rfl rfl) (zd_b zq_prog_12_method_14_code_4 14 rfl rfl rfl) (by decide +kernel)
theorem d_Tr_hasWayToFeeder_70 : decode prog_12_method_14_code 70 = .ok (.iconst 1, 1) := zo_4 (zd_b zq_prog_12_method_14_code_2 6 rfl rfl rfl)
theorem d_Tr_hasWayToFeeder_71 : decode prog_12_method_14_code 71 = .ok (.ireturn, 1) := zo_172 (zd_b zq_prog_12_method_14_code_2 7 rfl rfl rfl)
theorem d_Tr_hasWayToFeeder_2 : decode prog_12_method_14_code 2 = .ok (.iload_n 2, 1) := zo_28 (zd_b zq_prog_12_method_14_code_0 2 rfl rfl rfl)
theorem d_Tr_hasWayToFeeder_3 : decode prog_12_method_14_code 3 = .ok (.bipush 108, 2) := zo_16 (d := 108) (zd_b zq_prog_12_method_14_code_0 3 rfl rfl rfl) (zd_b zq_prog_12_method_14_code_0 4 rfl rfl rfl) (by decide +kernel)
theorem d_Tr_hasWayToFeeder_5 : decode prog_12_method_14_code 5 = .ok (.if_icmp .ge 16, 3) := zo_162 (d := 0) (e := 16) (zd_b zq_prog_12_method_14_code_0 5 rfl rfl rfl) (zd_b zq_prog_12_method_14_code_0 6 rfl rfl rfl) (zd_b zq_prog_12_method_14_code_0 7 rfl rfl rfl) (by decide +kernel)
theorem d_Tr_hasWayToFeeder_21 : decode prog_12_method_14_code 21 = .ok (.iconst 1, 1) := zo_4 (zd_b zq_prog_12_method_14_code_0 21 rfl rfl rfl)
theorem d_Tr_hasWayToFeeder_22 : decode prog_12_method_14_code 22 = .ok (.istore_n 2, 1) := zo_61 (zd_b zq_prog_12_method_14_code_0 22 rfl rfl rfl)
theorem d_Tr_hasWayToFeeder_23 : decode prog_12_method_14_code 23 = .ok (.aload_n 0, 1) := zo_42 (zd_b zq_prog_12_method_14_code_0 23 rfl rfl rfl)
theorem d_Tr_hasWayToFeeder_24 : decode prog_12_method_14_code 24 = .ok (.getfield 33, 3) := zo_180 (d := 0) (e := 33) (zd_b zq_prog_12_method_14_code_0 24 rfl rfl rfl) (zd_b zq_prog_12_method_14_code_0 25 rfl rfl rfl) (zd_b zq_prog_12_method_14_code_0 26 rfl rfl rfl)
theorem d_Tr_hasWayToFeeder_27 : decode prog_12_method_14_code 27 = .ok (.iconst 0, 1) := zo_3 (zd_b zq_prog_12_method_14_code_0 27 rfl rfl rfl)
theorem d_Tr_hasWayToFeeder_28 : decode prog_12_method_14_code 28 = .ok (.iload_n 1, 1) := zo_27 (zd_b zq_prog_12_method_14_code_0 28 rfl rfl rfl)
theorem d_Tr_hasWayToFeeder_29 : decode prog_12_method_14_code 29 = .ok (.iastore, 1) := zo_79 (zd_b zq_prog_12_method_14_code_0 29 rfl rfl rfl)
theorem d_Tr_hasWayToFeeder_30 : decode prog_12_method_14_code 30 = .ok (.aload_n 0, 1) := zo_42 (zd_b zq_prog_12_method_14_code_0 30 rfl rfl rfl)
theorem d_Tr_hasWayToFeeder_31 : decode prog_12_method_14_code 31 = .ok (.getfield 30, 3) := zo_180 (d := 0) (e := 30) (zd_b zq_prog_12_method_14_code_0 31 rfl rfl rfl) (zd_b zq_prog_12_method_14_code_1 0 rfl rfl rfl) (zd_b zq_prog_12_method_14_code_1 1 rfl rfl rfl)
theorem d_Tr_hasWayToFeeder_34 : decode prog_12_method_14_code 34 = .ok (.iload_n 1, 1) := zo_27 (zd_b zq_prog_12_method_14_code_1 2 rfl rfl rfl)
theorem d_Tr_hasWayToFeeder_35 : decode prog_12_method_14_code 35 = .ok (.iconst 1, 1) := zo_4 (zd_b zq_prog_12_method_14_code_1 3 rfl rfl rfl)
theorem d_Tr_hasWayToFeeder_36 : decode prog_12_method_14_code 36 = .ok (.bastore, 1) := zo_84 (zd_b zq_prog_12_method_14_code_1 4 rfl rfl rfl)
theorem d_Tr_hasWayToFeeder_37 : decode prog_12_method_14_code 37 = .ok (.iconst 0, 1) := zo_3 (zd_b zq_prog_12_method_14_code_1 5 rfl rfl rfl)
theorem d_Tr_hasWayToFeeder_38 : decode prog_12_method_14_code 38 = .ok (.istore_n 3, 1) := zo_62 (zd_b zq_prog_12_method_14_code_1 6 rfl rfl rfl)
theorem d_Tr_hasWayToFeeder_8 : decode prog_12_method_14_code 8 = .ok (.aload_n 0, 1) := zo_42 (zd_b zq_prog_12_method_14_code_0 8 rfl rfl rfl)
theorem d_Tr_hasWayToFeeder_9 : decode prog_12_method_14_code 9 = .ok (.getfield 30, 3) := zo_180 (d := 0) (e := 30) (zd_b zq_prog_12_method_14_code_0 9 rfl rfl rfl) (zd_b zq_prog_12_method_14_code_0 10 rfl rfl rfl) (zd_b zq_prog_12_method_14_code_0 11 rfl rfl rfl)
theorem d_Tr_hasWayToFeeder_12 : decode prog_12_method_14_code 12 = .ok (.iload_n 2, 1) := zo_28 (zd_b zq_prog_12_method_14_code_0 12 rfl rfl rfl)
theorem d_Tr_hasWayToFeeder_13 : decode prog_12_method_14_code 13 = .ok (.iconst 0, 1) := zo_3 (zd_b zq_prog_12_method_14_code_0 13 rfl rfl rfl)
theorem d_Tr_hasWayToFeeder_14 : decode prog_12_method_14_code 14 = .ok (.bastore, 1) := zo_84 (zd_b zq_prog_12_method_14_code_0 14 rfl rfl rfl)
theorem d_Tr_hasWayToFeeder_15 : decode prog_12_method_14_code 15 = .ok (.iinc 2 1, 3) := by decide +kernel
theorem d_Tr_hasWayToFeeder_18 : decode prog_12_method_14_code 18 = .ok (.goto (-16), 3) := zo_167 (d := 255) (e := 240) (zd_b zq_prog_12_method_14_code_0 18 rfl rfl rfl) (zd_b zq_prog_12_method_14_code_0 19 rfl rfl rfl) (zd_b zq_prog_12_method_14_code_0 20 rfl rfl rfl) (by decide +kernel)
theorem d_Tr_hasWayToFeeder_0 : decode prog_12_method_14_code 0 = .ok (.iconst 0, 1) := zo_3 (zd_b zq_prog_12_method_14_code_0 0 rfl rfl rfl)
theorem d_Tr_hasWayToFeeder_1 : decode prog_12_method_14_code 1 = .ok (.istore_n 2, 1) := zo_61 (zd_b zq_prog_12_method_14_code_0 1 rfl rfl rfl)
set_option maxHeartbeats 4000000 in
set_option maxRecDepth 100000 in
theorem L_Tr_hasWayToFeeder_75 (g : zG) (a a1 a2 az az1 az2 az3 az4 az5 az6 a4 a5 a6 : Nat) (run fo liq : Int32) (ce fi fr fed seen : Nat → Int32) (qn : Nat → Nat) (st : Nat) (hst : st < 108) (w0 : zW) (n : Nat) (h : Nat) (hh : h < 108) (hok : Qok (wyB ce fi fr (1, upd (fa_fill (fun _ => 0) seen 108) st 1, updN qn 0 st) h).2) (hhere : (wyB ce fi fr (1, upd (fa_fill (fun _ => 0) seen 108) st 1, updN qn 0 st) h).2.2.2 h < 108) (K : DV g M_Tr_hasWayToFeeder (fun o cs1 => o = .inl (some (.int (z_bi (wyB ce fi fr (1, upd (fa_fill (fun _ => 0) seen 108) st 1, updN qn 0 st) 108).1))) ∧ cs1 = [(a, .inr (10, [.ref a1, .ref a2, .ref az, .ref a4, .ref a5, .ref a6, .int run, .int fo])), (a1, .inl (1, 108, .inl ce)), (a2, .inl (0, 108, .inl fi)), (az, .inr (2, [.ref az1, .ref az2, .ref az3, .ref az4, .ref az5, .ref az6, .int liq])), (az4, .inl (0, 108, .inl fr)), (a4, .inl (2, 108, .inl fed)), (a5, .inl (2, 108, .inl ((wyB ce fi fr (1, upd (fa_fill (fun _ => 0) seen 108) st 1, updN qn 0 st) 108).2.2.1))), (a6, .inl (0, 108, .inl (fun k => nI ((wyB ce fi fr (1, upd (fa_fill (fun _ => 0) seen 108) st 1, updN qn 0 st) 108).2.2.2 k))))]) w0 n 137 [(3, .int (nI h)), (2, .int (nI (wyH fi fr ((wyB ce fi fr (1, upd (fa_fill (fun _ => 0) seen 108) st 1, updN qn 0 st) h).2.2.2 h) (wyB ce fi fr (1, upd (fa_fill (fun _ => 0) seen 108) st 1, updN qn 0 st) h).2 4).1)), (0, .ref a), (1, .int (nI st))] [] [(a, .inr (10, [.ref a1, .ref a2, .ref az, .ref a4, .ref a5, .ref a6, .int run, .int fo])), (a1, .inl (1, 108, .inl ce)), (a2, .inl (0, 108, .inl fi)), (az, .inr (2, [.ref az1, .ref az2, .ref az3, .ref az4, .ref az5, .ref az6, .int liq])), (az4, .inl (0, 108, .inl fr)), (a4, .inl (2, 108, .inl fed)), (a5, .inl (2, 108, .inl ((wyH fi fr ((wyB ce fi fr (1, upd (fa_fill (fun _ => 0) seen 108) st 1, updN qn 0 st) h).2.2.2 h) (wyB ce fi fr (1, upd (fa_fill (fun _ => 0) seen 108) st 1, updN qn 0 st) h).2 4).2.1))), (a6, .inl (0, 108, .inl (fun k => nI ((wyH fi fr ((wyB ce fi fr (1, upd (fa_fill (fun _ => 0) seen 108) st 1, updN qn 0 st) h).2.2.2 h) (wyB ce fi fr (1, upd (fa_fill (fun _ => 0) seen 108) st 1, updN qn 0 st) h).2 4).2.2 k))))] 0 0) : ∀ (d i : Nat), i ≤ 4 → 4 < i + d → DV g M_Tr_hasWayToFeeder (fun o cs1 => o = .inl (some (.int (z_bi (wyB ce fi fr (1, upd (fa_fill (fun _ => 0) seen 108) st 1, updN qn 0 st) 108).1))) ∧ cs1 = [(a, .inr (10, [.ref a1, .ref a2, .ref az, .ref a4, .ref a5, .ref a6, .int run, .int fo])), (a1, .inl (1, 108, .inl ce)), (a2, .inl (0, 108, .inl fi)), (az, .inr (2, [.ref az1, .ref az2, .ref az3, .ref az4, .ref az5, .ref az6, .int liq])), (az4, .inl (0, 108, .inl fr)), (a4, .inl (2, 108, .inl fed)), (a5, .inl (2, 108, .inl ((wyB ce fi fr (1, upd (fa_fill (fun _ => 0) seen 108) st 1, updN qn 0 st) 108).2.2.1))), (a6, .inl (0, 108, .inl (fun k => nI ((wyB ce fi fr (1, upd (fa_fill (fun _ => 0) seen 108) st 1, updN qn 0 st) 108).2.2.2 k))))]) w0 n 75 [(5, .int (nI i)), (4, .int (nI ((wyB ce fi fr (1, upd (fa_fill (fun _ => 0) seen 108) st 1, updN qn 0 st) h).2.2.2 h))), (3, .int (nI h)), (2, .int (nI (wyH fi fr ((wyB ce fi fr (1, upd (fa_fill (fun _ => 0) seen 108) st 1, updN qn 0 st) h).2.2.2 h) (wyB ce fi fr (1, upd (fa_fill (fun _ => 0) seen 108) st 1, updN qn 0 st) h).2 i).1)), (0, .ref a), (1, .int (nI st))] [] [(a, .inr (10, [.ref a1, .ref a2, .ref az, .ref a4, .ref a5, .ref a6, .int run, .int fo])), (a1, .inl (1, 108, .inl ce)), (a2, .inl (0, 108, .inl fi)), (az, .inr (2, [.ref az1, .ref az2, .ref az3, .ref az4, .ref az5, .ref az6, .int liq])), (az4, .inl (0, 108, .inl fr)), (a4, .inl (2, 108, .inl fed)), (a5, .inl (2, 108, .inl ((wyH fi fr ((wyB ce fi fr (1, upd (fa_fill (fun _ => 0) seen 108) st 1, updN qn 0 st) h).2.2.2 h) (wyB ce fi fr (1, upd (fa_fill (fun _ => 0) seen 108) st 1, updN qn 0 st) h).2 i).2.1))), (a6, .inl (0, 108, .inl (fun k => nI ((wyH fi fr ((wyB ce fi fr (1, upd (fa_fill (fun _ => 0) seen 108) st 1, updN qn 0 st) h).2.2.2 h) (wyB ce fi fr (1, upd (fa_fill (fun _ => 0) seen 108) st 1, updN qn 0 st) h).2 i).2.2 k))))] 0 0 := by
  intro d
  induction d with
  | zero => intro i h1 h2 ; exact absurd h2 (by omega)
  | succ d ih =>
    intro i h1 h2 
    refine r_iload d_Tr_hasWayToFeeder_75 0 rfl ?_
    refine r_iconst d_Tr_hasWayToFeeder_77 (v := 4) (by decide) ?_
    refine r_icmp_ge (tgt := 137) d_Tr_hasWayToFeeder_78 (by decide) (fun c_78 => ?_) (fun c_78 => ?_)
    · have hi4 := z_le (a := 4) (by omega) (by decide) c_78
      obtain rfl : i = 4 := by omega
      refine r_lv (lv' := [(3, .int (nI h)), (2, .int (nI (wyH fi fr ((wyB ce fi fr (1, upd (fa_fill (fun _ => 0) seen 108) st 1, updN qn 0 st) h).2.2.2 h) (wyB ce fi fr (1, upd (fa_fill (fun _ => 0) seen 108) st 1, updN qn 0 st) h).2 4).1)), (0, .ref a), (1, .int (nI st))]) [2, 3, 4, 5] rfl ?_
      exact K
    · have hi4 := z_nle (a := 4) (by omega) (by decide) c_78
      have hqo := wyH_ok (fi := fi) (fr := fr) hhere hok i
      refine r_iload d_Tr_hasWayToFeeder_81 1 rfl ?_
      refine r_iload d_Tr_hasWayToFeeder_83 0 rfl ?_
      refine r_callSN (As := [.int (nI ((wyB ce fi fr (1, upd (fa_fill (fun _ => 0) seen 108) st 1, updN qn 0 st) h).2.2.2 h)), .int (nI i)]) (rest := []) (csC := []) (is := []) ln_Tr_72 w_st_Ip_beside ok_Tr_hasWayToFeeder_Ip_beside d_Tr_hasWayToFeeder_85 (C_Ip_beside g ((wyB ce fi fr (1, upd (fa_fill (fun _ => 0) seen 108) st 1, updN qn 0 st) h).2.2.2 h) i hhere (by omega)) rfl rfl (Nat.le_of_ble_eq_true rfl) rfl (by decide) (by omega) (by omega) (fun E cs1 hx => ?_) (fun v cs1 hx => ?_)
      · exact absurd hx.1 (by simp)
      · obtain ⟨e1, rfl⟩ := hx
        cases e1
        refine ⟨rfl, ?_⟩
        refine r_st (st2 := [.int (oI (bs ((wyB ce fi fr (1, upd (fa_fill (fun _ => 0) seen 108) st 1, updN qn 0 st) h).2.2.2 h) i))]) rfl ?_
        refine r_cs (cs2 := [(a, .inr (10, [.ref a1, .ref a2, .ref az, .ref a4, .ref a5, .ref a6, .int run, .int fo])), (a1, .inl (1, 108, .inl ce)), (a2, .inl (0, 108, .inl fi)), (az, .inr (2, [.ref az1, .ref az2, .ref az3, .ref az4, .ref az5, .ref az6, .int liq])), (az4, .inl (0, 108, .inl fr)), (a4, .inl (2, 108, .inl fed)), (a5, .inl (2, 108, .inl ((wyH fi fr ((wyB ce fi fr (1, upd (fa_fill (fun _ => 0) seen 108) st 1, updN qn 0 st) h).2.2.2 h) (wyB ce fi fr (1, upd (fa_fill (fun _ => 0) seen 108) st 1, updN qn 0 st) h).2 i).2.1))), (a6, .inl (0, 108, .inl (fun k => nI ((wyH fi fr ((wyB ce fi fr (1, upd (fa_fill (fun _ => 0) seen 108) st 1, updN qn 0 st) h).2.2.2 h) (wyB ce fi fr (1, upd (fa_fill (fun _ => 0) seen 108) st 1, updN qn 0 st) h).2 i).2.2 k))))]) rfl ?_
        refine r_istore (lv' := [(6, .int (oI (bs ((wyB ce fi fr (1, upd (fa_fill (fun _ => 0) seen 108) st 1, updN qn 0 st) h).2.2.2 h) i))), (5, .int (nI i)), (4, .int (nI ((wyB ce fi fr (1, upd (fa_fill (fun _ => 0) seen 108) st 1, updN qn 0 st) h).2.2.2 h))), (3, .int (nI h)), (2, .int (nI (wyH fi fr ((wyB ce fi fr (1, upd (fa_fill (fun _ => 0) seen 108) st 1, updN qn 0 st) h).2.2.2 h) (wyB ce fi fr (1, upd (fa_fill (fun _ => 0) seen 108) st 1, updN qn 0 st) h).2 i).1)), (0, .ref a), (1, .int (nI st))]) d_Tr_hasWayToFeeder_88 (by decide) rfl ?_
        refine r_iload d_Tr_hasWayToFeeder_90 0 rfl ?_
        refine r_if_lt (tgt := 131) d_Tr_hasWayToFeeder_92 (by decide) (fun c_92 => ?_) (fun c_92 => ?_)
        · have ho : bs ((wyB ce fi fr (1, upd (fa_fill (fun _ => 0) seen 108) st 1, updN qn 0 st) h).2.2.2 h) i = none := oI_neg hhere (Int32.not_le.mpr c_92)
          have hk := wyI_n (fi := fi) (fr := fr) (Q := (wyH fi fr ((wyB ce fi fr (1, upd (fa_fill (fun _ => 0) seen 108) st 1, updN qn 0 st) h).2.2.2 h) (wyB ce fi fr (1, upd (fa_fill (fun _ => 0) seen 108) st 1, updN qn 0 st) h).2 i)) ho
          refine r_iinc (lv' := [(5, .int (nI (i + 1))), (6, .int (oI (bs ((wyB ce fi fr (1, upd (fa_fill (fun _ => 0) seen 108) st 1, updN qn 0 st) h).2.2.2 h) i))), (4, .int (nI ((wyB ce fi fr (1, upd (fa_fill (fun _ => 0) seen 108) st 1, updN qn 0 st) h).2.2.2 h))), (3, .int (nI h)), (2, .int (nI (wyH fi fr ((wyB ce fi fr (1, upd (fa_fill (fun _ => 0) seen 108) st 1, updN qn 0 st) h).2.2.2 h) (wyB ce fi fr (1, upd (fa_fill (fun _ => 0) seen 108) st 1, updN qn 0 st) h).2 i).1)), (0, .ref a), (1, .int (nI st))]) (v := nI (i + 1)) d_Tr_hasWayToFeeder_131 (j := 1) rfl (nI_add _ _) (by decide) rfl ?_
          refine r_goto (tgt := 75) d_Tr_hasWayToFeeder_134 (by decide) ?_
          refine r_lv (lv' := [(5, .int (nI (i + 1))), (4, .int (nI ((wyB ce fi fr (1, upd (fa_fill (fun _ => 0) seen 108) st 1, updN qn 0 st) h).2.2.2 h))), (3, .int (nI h)), (2, .int (nI (wyH fi fr ((wyB ce fi fr (1, upd (fa_fill (fun _ => 0) seen 108) st 1, updN qn 0 st) h).2.2.2 h) (wyB ce fi fr (1, upd (fa_fill (fun _ => 0) seen 108) st 1, updN qn 0 st) h).2 i).1)), (0, .ref a), (1, .int (nI st))]) [0, 2, 3, 4, 5, 6] rfl ?_
          refine r_lvE (lv2 := [(5, .int (nI (i + 1))), (4, .int (nI ((wyB ce fi fr (1, upd (fa_fill (fun _ => 0) seen 108) st 1, updN qn 0 st) h).2.2.2 h))), (3, .int (nI h)), (2, .int (nI (wyH fi fr ((wyB ce fi fr (1, upd (fa_fill (fun _ => 0) seen 108) st 1, updN qn 0 st) h).2.2.2 h) (wyB ce fi fr (1, upd (fa_fill (fun _ => 0) seen 108) st 1, updN qn 0 st) h).2 (i + 1)).1)), (0, .ref a), (1, .int (nI st))]) (by rw [show (wyH fi fr ((wyB ce fi fr (1, upd (fa_fill (fun _ => 0) seen 108) st 1, updN qn 0 st) h).2.2.2 h) (wyB ce fi fr (1, upd (fa_fill (fun _ => 0) seen 108) st 1, updN qn 0 st) h).2 (i + 1)) = wyI fi fr ((wyB ce fi fr (1, upd (fa_fill (fun _ => 0) seen 108) st 1, updN qn 0 st) h).2.2.2 h) i (wyH fi fr ((wyB ce fi fr (1, upd (fa_fill (fun _ => 0) seen 108) st 1, updN qn 0 st) h).2.2.2 h) (wyB ce fi fr (1, upd (fa_fill (fun _ => 0) seen 108) st 1, updN qn 0 st) h).2 i) from rfl, hk] <;> rfl) ?_
          refine r_cs (cs2 := [(a, .inr (10, [.ref a1, .ref a2, .ref az, .ref a4, .ref a5, .ref a6, .int run, .int fo])), (a1, .inl (1, 108, .inl ce)), (a2, .inl (0, 108, .inl fi)), (az, .inr (2, [.ref az1, .ref az2, .ref az3, .ref az4, .ref az5, .ref az6, .int liq])), (az4, .inl (0, 108, .inl fr)), (a4, .inl (2, 108, .inl fed)), (a5, .inl (2, 108, .inl ((wyH fi fr ((wyB ce fi fr (1, upd (fa_fill (fun _ => 0) seen 108) st 1, updN qn 0 st) h).2.2.2 h) (wyB ce fi fr (1, upd (fa_fill (fun _ => 0) seen 108) st 1, updN qn 0 st) h).2 (i + 1)).2.1))), (a6, .inl (0, 108, .inl (fun k => nI ((wyH fi fr ((wyB ce fi fr (1, upd (fa_fill (fun _ => 0) seen 108) st 1, updN qn 0 st) h).2.2.2 h) (wyB ce fi fr (1, upd (fa_fill (fun _ => 0) seen 108) st 1, updN qn 0 st) h).2 (i + 1)).2.2 k))))]) (by rw [show (wyH fi fr ((wyB ce fi fr (1, upd (fa_fill (fun _ => 0) seen 108) st 1, updN qn 0 st) h).2.2.2 h) (wyB ce fi fr (1, upd (fa_fill (fun _ => 0) seen 108) st 1, updN qn 0 st) h).2 (i + 1)) = wyI fi fr ((wyB ce fi fr (1, upd (fa_fill (fun _ => 0) seen 108) st 1, updN qn 0 st) h).2.2.2 h) i (wyH fi fr ((wyB ce fi fr (1, upd (fa_fill (fun _ => 0) seen 108) st 1, updN qn 0 st) h).2.2.2 h) (wyB ce fi fr (1, upd (fa_fill (fun _ => 0) seen 108) st 1, updN qn 0 st) h).2 i) from rfl, hk] <;> rfl) ?_
          exact ih (i + 1) (by omega) (by omega)
        · obtain ⟨o, ho⟩ := oI_pos (Int32.not_lt.mp c_92)
          have hol := bs_lt hhere ho
          rw [ho, show oI (some o) = nI o from rfl]
          refine r_aload_n d_Tr_hasWayToFeeder_95 rfl 5 rfl ?_
          refine r_iload d_Tr_hasWayToFeeder_96 0 rfl ?_
          refine r_iload d_Tr_hasWayToFeeder_98 2 rfl ?_
          refine r_callV (As := [.int (nI o), .int (nI ((wyB ce fi fr (1, upd (fa_fill (fun _ => 0) seen 108) st 1, updN qn 0 st) h).2.2.2 h))]) (rest := []) (csC := [(a, .inr (10, [.ref a1, .ref a2, .ref az, .ref a4, .ref a5, .ref a6, .int run, .int fo])), (a1, .inl (1, 108, .inl ce)), (a2, .inl (0, 108, .inl fi)), (az, .inr (2, [.ref az1, .ref az2, .ref az3, .ref az4, .ref az5, .ref az6, .int liq])), (az4, .inl (0, 108, .inl fr)), (a4, .inl (2, 108, .inl fed)), (a5, .inl (2, 108, .inl ((wyH fi fr ((wyB ce fi fr (1, upd (fa_fill (fun _ => 0) seen 108) st 1, updN qn 0 st) h).2.2.2 h) (wyB ce fi fr (1, upd (fa_fill (fun _ => 0) seen 108) st 1, updN qn 0 st) h).2 i).2.1))), (a6, .inl (0, 108, .inl (fun k => nI ((wyH fi fr ((wyB ce fi fr (1, upd (fa_fill (fun _ => 0) seen 108) st 1, updN qn 0 st) h).2.2.2 h) (wyB ce fi fr (1, upd (fa_fill (fun _ => 0) seen 108) st 1, updN qn 0 st) h).2 i).2.2 k))))]) (is := [0, 1, 2, 3, 4, 5, 6, 7]) (q0 := 0) rfl rfl ln_Tr_104 w_im_Tr_canBeFedFrom w_se_Tr_canBeFedFrom ok_Tr_hasWayToFeeder_Tr_canBeFedFrom d_Tr_hasWayToFeeder_100 (C_Tr_canBeFedFrom g a a1 a2 az az1 az2 az3 az4 az5 az6 a4 a5 a6 run fo liq ce fi fr fed (wyH fi fr ((wyB ce fi fr (1, upd (fa_fill (fun _ => 0) seen 108) st 1, updN qn 0 st) h).2.2.2 h) (wyB ce fi fr (1, upd (fa_fill (fun _ => 0) seen 108) st 1, updN qn 0 st) h).2 i).2.1 (wyH fi fr ((wyB ce fi fr (1, upd (fa_fill (fun _ => 0) seen 108) st 1, updN qn 0 st) h).2.2.2 h) (wyB ce fi fr (1, upd (fa_fill (fun _ => 0) seen 108) st 1, updN qn 0 st) h).2 i).2.2 o ((wyB ce fi fr (1, upd (fa_fill (fun _ => 0) seen 108) st 1, updN qn 0 st) h).2.2.2 h) hol hhere) rfl rfl (Nat.le_of_ble_eq_true rfl) rfl (by decide) (by omega) (by omega) (fun E cs1 hx => ?_) (fun v cs1 hx => ?_)
          · exact absurd hx.1 (by simp)
          · obtain ⟨e1, rfl⟩ := hx
            cases e1
            refine ⟨rfl, ?_⟩
            refine r_st (st2 := [.int (z_bi (cbB (wyH fi fr ((wyB ce fi fr (1, upd (fa_fill (fun _ => 0) seen 108) st 1, updN qn 0 st) h).2.2.2 h) (wyB ce fi fr (1, upd (fa_fill (fun _ => 0) seen 108) st 1, updN qn 0 st) h).2 i).2.1 fi fr o ((wyB ce fi fr (1, upd (fa_fill (fun _ => 0) seen 108) st 1, updN qn 0 st) h).2.2.2 h)))]) rfl ?_
            refine r_cs (cs2 := [(a, .inr (10, [.ref a1, .ref a2, .ref az, .ref a4, .ref a5, .ref a6, .int run, .int fo])), (a1, .inl (1, 108, .inl ce)), (a2, .inl (0, 108, .inl fi)), (az, .inr (2, [.ref az1, .ref az2, .ref az3, .ref az4, .ref az5, .ref az6, .int liq])), (az4, .inl (0, 108, .inl fr)), (a4, .inl (2, 108, .inl fed)), (a5, .inl (2, 108, .inl ((wyH fi fr ((wyB ce fi fr (1, upd (fa_fill (fun _ => 0) seen 108) st 1, updN qn 0 st) h).2.2.2 h) (wyB ce fi fr (1, upd (fa_fill (fun _ => 0) seen 108) st 1, updN qn 0 st) h).2 i).2.1))), (a6, .inl (0, 108, .inl (fun k => nI ((wyH fi fr ((wyB ce fi fr (1, upd (fa_fill (fun _ => 0) seen 108) st 1, updN qn 0 st) h).2.2.2 h) (wyB ce fi fr (1, upd (fa_fill (fun _ => 0) seen 108) st 1, updN qn 0 st) h).2 i).2.2 k))))]) rfl ?_
            refine r_if_eq (tgt := 131) d_Tr_hasWayToFeeder_103 (by decide) (fun c_103 => ?_) (fun c_103 => ?_)
            · have hk := (wyI_s (fi := fi) (fr := fr) ho).trans (wyJ_f (fi := fi) (fr := fr) (Q := (wyH fi fr ((wyB ce fi fr (1, upd (fa_fill (fun _ => 0) seen 108) st 1, updN qn 0 st) h).2.2.2 h) (wyB ce fi fr (1, upd (fa_fill (fun _ => 0) seen 108) st 1, updN qn 0 st) h).2 i)) (fun q => by have := z_bi0 c_103; rw [q.1] at this; cases this))
              refine r_iinc (lv' := [(5, .int (nI (i + 1))), (6, .int (nI o)), (4, .int (nI ((wyB ce fi fr (1, upd (fa_fill (fun _ => 0) seen 108) st 1, updN qn 0 st) h).2.2.2 h))), (3, .int (nI h)), (2, .int (nI (wyH fi fr ((wyB ce fi fr (1, upd (fa_fill (fun _ => 0) seen 108) st 1, updN qn 0 st) h).2.2.2 h) (wyB ce fi fr (1, upd (fa_fill (fun _ => 0) seen 108) st 1, updN qn 0 st) h).2 i).1)), (0, .ref a), (1, .int (nI st))]) (v := nI (i + 1)) d_Tr_hasWayToFeeder_131 (j := 1) rfl (nI_add _ _) (by decide) rfl ?_
              refine r_goto (tgt := 75) d_Tr_hasWayToFeeder_134 (by decide) ?_
              refine r_lv (lv' := [(5, .int (nI (i + 1))), (4, .int (nI ((wyB ce fi fr (1, upd (fa_fill (fun _ => 0) seen 108) st 1, updN qn 0 st) h).2.2.2 h))), (3, .int (nI h)), (2, .int (nI (wyH fi fr ((wyB ce fi fr (1, upd (fa_fill (fun _ => 0) seen 108) st 1, updN qn 0 st) h).2.2.2 h) (wyB ce fi fr (1, upd (fa_fill (fun _ => 0) seen 108) st 1, updN qn 0 st) h).2 i).1)), (0, .ref a), (1, .int (nI st))]) [0, 2, 3, 4, 5, 6] rfl ?_
              refine r_lvE (lv2 := [(5, .int (nI (i + 1))), (4, .int (nI ((wyB ce fi fr (1, upd (fa_fill (fun _ => 0) seen 108) st 1, updN qn 0 st) h).2.2.2 h))), (3, .int (nI h)), (2, .int (nI (wyH fi fr ((wyB ce fi fr (1, upd (fa_fill (fun _ => 0) seen 108) st 1, updN qn 0 st) h).2.2.2 h) (wyB ce fi fr (1, upd (fa_fill (fun _ => 0) seen 108) st 1, updN qn 0 st) h).2 (i + 1)).1)), (0, .ref a), (1, .int (nI st))]) (by rw [show (wyH fi fr ((wyB ce fi fr (1, upd (fa_fill (fun _ => 0) seen 108) st 1, updN qn 0 st) h).2.2.2 h) (wyB ce fi fr (1, upd (fa_fill (fun _ => 0) seen 108) st 1, updN qn 0 st) h).2 (i + 1)) = wyI fi fr ((wyB ce fi fr (1, upd (fa_fill (fun _ => 0) seen 108) st 1, updN qn 0 st) h).2.2.2 h) i (wyH fi fr ((wyB ce fi fr (1, upd (fa_fill (fun _ => 0) seen 108) st 1, updN qn 0 st) h).2.2.2 h) (wyB ce fi fr (1, upd (fa_fill (fun _ => 0) seen 108) st 1, updN qn 0 st) h).2 i) from rfl, hk] <;> rfl) ?_
              refine r_cs (cs2 := [(a, .inr (10, [.ref a1, .ref a2, .ref az, .ref a4, .ref a5, .ref a6, .int run, .int fo])), (a1, .inl (1, 108, .inl ce)), (a2, .inl (0, 108, .inl fi)), (az, .inr (2, [.ref az1, .ref az2, .ref az3, .ref az4, .ref az5, .ref az6, .int liq])), (az4, .inl (0, 108, .inl fr)), (a4, .inl (2, 108, .inl fed)), (a5, .inl (2, 108, .inl ((wyH fi fr ((wyB ce fi fr (1, upd (fa_fill (fun _ => 0) seen 108) st 1, updN qn 0 st) h).2.2.2 h) (wyB ce fi fr (1, upd (fa_fill (fun _ => 0) seen 108) st 1, updN qn 0 st) h).2 (i + 1)).2.1))), (a6, .inl (0, 108, .inl (fun k => nI ((wyH fi fr ((wyB ce fi fr (1, upd (fa_fill (fun _ => 0) seen 108) st 1, updN qn 0 st) h).2.2.2 h) (wyB ce fi fr (1, upd (fa_fill (fun _ => 0) seen 108) st 1, updN qn 0 st) h).2 (i + 1)).2.2 k))))]) (by rw [show (wyH fi fr ((wyB ce fi fr (1, upd (fa_fill (fun _ => 0) seen 108) st 1, updN qn 0 st) h).2.2.2 h) (wyB ce fi fr (1, upd (fa_fill (fun _ => 0) seen 108) st 1, updN qn 0 st) h).2 (i + 1)) = wyI fi fr ((wyB ce fi fr (1, upd (fa_fill (fun _ => 0) seen 108) st 1, updN qn 0 st) h).2.2.2 h) i (wyH fi fr ((wyB ce fi fr (1, upd (fa_fill (fun _ => 0) seen 108) st 1, updN qn 0 st) h).2.2.2 h) (wyB ce fi fr (1, upd (fa_fill (fun _ => 0) seen 108) st 1, updN qn 0 st) h).2 i) from rfl, hk] <;> rfl) ?_
              exact ih (i + 1) (by omega) (by omega)
            · refine r_iload_n d_Tr_hasWayToFeeder_106 rfl 4 rfl ?_
              refine r_bipush d_Tr_hasWayToFeeder_107 (v := 108) (by decide) ?_
              refine r_icmp_ge (tgt := 131) d_Tr_hasWayToFeeder_109 (by decide) (fun c_109 => ?_) (fun c_109 => ?_)
              · have hq1 := hqo.1
                have hk := (wyI_s (fi := fi) (fr := fr) ho).trans (wyJ_f (fi := fi) (fr := fr) (Q := (wyH fi fr ((wyB ce fi fr (1, upd (fa_fill (fun _ => 0) seen 108) st 1, updN qn 0 st) h).2.2.2 h) (wyB ce fi fr (1, upd (fa_fill (fun _ => 0) seen 108) st 1, updN qn 0 st) h).2 i)) (fun q => absurd q.2 (by have := z_le (a := 108) (by omega) (by decide) c_109; omega)))
                refine r_iinc (lv' := [(5, .int (nI (i + 1))), (6, .int (nI o)), (4, .int (nI ((wyB ce fi fr (1, upd (fa_fill (fun _ => 0) seen 108) st 1, updN qn 0 st) h).2.2.2 h))), (3, .int (nI h)), (2, .int (nI (wyH fi fr ((wyB ce fi fr (1, upd (fa_fill (fun _ => 0) seen 108) st 1, updN qn 0 st) h).2.2.2 h) (wyB ce fi fr (1, upd (fa_fill (fun _ => 0) seen 108) st 1, updN qn 0 st) h).2 i).1)), (0, .ref a), (1, .int (nI st))]) (v := nI (i + 1)) d_Tr_hasWayToFeeder_131 (j := 1) rfl (nI_add _ _) (by decide) rfl ?_
                refine r_goto (tgt := 75) d_Tr_hasWayToFeeder_134 (by decide) ?_
                refine r_lv (lv' := [(5, .int (nI (i + 1))), (4, .int (nI ((wyB ce fi fr (1, upd (fa_fill (fun _ => 0) seen 108) st 1, updN qn 0 st) h).2.2.2 h))), (3, .int (nI h)), (2, .int (nI (wyH fi fr ((wyB ce fi fr (1, upd (fa_fill (fun _ => 0) seen 108) st 1, updN qn 0 st) h).2.2.2 h) (wyB ce fi fr (1, upd (fa_fill (fun _ => 0) seen 108) st 1, updN qn 0 st) h).2 i).1)), (0, .ref a), (1, .int (nI st))]) [0, 2, 3, 4, 5, 6] rfl ?_
                refine r_lvE (lv2 := [(5, .int (nI (i + 1))), (4, .int (nI ((wyB ce fi fr (1, upd (fa_fill (fun _ => 0) seen 108) st 1, updN qn 0 st) h).2.2.2 h))), (3, .int (nI h)), (2, .int (nI (wyH fi fr ((wyB ce fi fr (1, upd (fa_fill (fun _ => 0) seen 108) st 1, updN qn 0 st) h).2.2.2 h) (wyB ce fi fr (1, upd (fa_fill (fun _ => 0) seen 108) st 1, updN qn 0 st) h).2 (i + 1)).1)), (0, .ref a), (1, .int (nI st))]) (by rw [show (wyH fi fr ((wyB ce fi fr (1, upd (fa_fill (fun _ => 0) seen 108) st 1, updN qn 0 st) h).2.2.2 h) (wyB ce fi fr (1, upd (fa_fill (fun _ => 0) seen 108) st 1, updN qn 0 st) h).2 (i + 1)) = wyI fi fr ((wyB ce fi fr (1, upd (fa_fill (fun _ => 0) seen 108) st 1, updN qn 0 st) h).2.2.2 h) i (wyH fi fr ((wyB ce fi fr (1, upd (fa_fill (fun _ => 0) seen 108) st 1, updN qn 0 st) h).2.2.2 h) (wyB ce fi fr (1, upd (fa_fill (fun _ => 0) seen 108) st 1, updN qn 0 st) h).2 i) from rfl, hk] <;> rfl) ?_
                refine r_cs (cs2 := [(a, .inr (10, [.ref a1, .ref a2, .ref az, .ref a4, .ref a5, .ref a6, .int run, .int fo])), (a1, .inl (1, 108, .inl ce)), (a2, .inl (0, 108, .inl fi)), (az, .inr (2, [.ref az1, .ref az2, .ref az3, .ref az4, .ref az5, .ref az6, .int liq])), (az4, .inl (0, 108, .inl fr)), (a4, .inl (2, 108, .inl fed)), (a5, .inl (2, 108, .inl ((wyH fi fr ((wyB ce fi fr (1, upd (fa_fill (fun _ => 0) seen 108) st 1, updN qn 0 st) h).2.2.2 h) (wyB ce fi fr (1, upd (fa_fill (fun _ => 0) seen 108) st 1, updN qn 0 st) h).2 (i + 1)).2.1))), (a6, .inl (0, 108, .inl (fun k => nI ((wyH fi fr ((wyB ce fi fr (1, upd (fa_fill (fun _ => 0) seen 108) st 1, updN qn 0 st) h).2.2.2 h) (wyB ce fi fr (1, upd (fa_fill (fun _ => 0) seen 108) st 1, updN qn 0 st) h).2 (i + 1)).2.2 k))))]) (by rw [show (wyH fi fr ((wyB ce fi fr (1, upd (fa_fill (fun _ => 0) seen 108) st 1, updN qn 0 st) h).2.2.2 h) (wyB ce fi fr (1, upd (fa_fill (fun _ => 0) seen 108) st 1, updN qn 0 st) h).2 (i + 1)) = wyI fi fr ((wyB ce fi fr (1, upd (fa_fill (fun _ => 0) seen 108) st 1, updN qn 0 st) h).2.2.2 h) i (wyH fi fr ((wyB ce fi fr (1, upd (fa_fill (fun _ => 0) seen 108) st 1, updN qn 0 st) h).2.2.2 h) (wyB ce fi fr (1, upd (fa_fill (fun _ => 0) seen 108) st 1, updN qn 0 st) h).2 i) from rfl, hk] <;> rfl) ?_
                exact ih (i + 1) (by omega) (by omega)
              · have hq1 := hqo.1
                have htl := z_nle (a := 108) (by omega) (by decide) c_109
                have hk := (wyI_s (fi := fi) (fr := fr) ho).trans (wyJ_t (fi := fi) (fr := fr) (Q := (wyH fi fr ((wyB ce fi fr (1, upd (fa_fill (fun _ => 0) seen 108) st 1, updN qn 0 st) h).2.2.2 h) (wyB ce fi fr (1, upd (fa_fill (fun _ => 0) seen 108) st 1, updN qn 0 st) h).2 i)) ⟨z_bi1 c_103, htl⟩)
                refine r_aload_n d_Tr_hasWayToFeeder_112 rfl 5 rfl ?_
                refine r_get fs_Tr_30 d_Tr_hasWayToFeeder_113 (q0 := 0) rfl rfl ?_
                refine r_iload d_Tr_hasWayToFeeder_116 0 rfl ?_
                refine r_iconst d_Tr_hasWayToFeeder_118 (v := 1) (by decide) ?_
                refine r_zast d_Tr_hasWayToFeeder_119 (q0 := 6) rfl (vp_in_nI (by omega) (by omega)) (f' := upd (wyH fi fr ((wyB ce fi fr (1, upd (fa_fill (fun _ => 0) seen 108) st 1, updN qn 0 st) h).2.2.2 h) (wyB ce fi fr (1, upd (fa_fill (fun _ => 0) seen 108) st 1, updN qn 0 st) h).2 i).2.1 o 1) (by rw [nI_clamp (by omega)] <;> rfl) (cs' := [(a, .inr (10, [.ref a1, .ref a2, .ref az, .ref a4, .ref a5, .ref a6, .int run, .int fo])), (a1, .inl (1, 108, .inl ce)), (a2, .inl (0, 108, .inl fi)), (az, .inr (2, [.ref az1, .ref az2, .ref az3, .ref az4, .ref az5, .ref az6, .int liq])), (az4, .inl (0, 108, .inl fr)), (a4, .inl (2, 108, .inl fed)), (a5, .inl (2, 108, .inl (upd (wyH fi fr ((wyB ce fi fr (1, upd (fa_fill (fun _ => 0) seen 108) st 1, updN qn 0 st) h).2.2.2 h) (wyB ce fi fr (1, upd (fa_fill (fun _ => 0) seen 108) st 1, updN qn 0 st) h).2 i).2.1 o 1))), (a6, .inl (0, 108, .inl (fun k => nI ((wyH fi fr ((wyB ce fi fr (1, upd (fa_fill (fun _ => 0) seen 108) st 1, updN qn 0 st) h).2.2.2 h) (wyB ce fi fr (1, upd (fa_fill (fun _ => 0) seen 108) st 1, updN qn 0 st) h).2 i).2.2 k))))]) rfl ?_
                refine r_aload_n d_Tr_hasWayToFeeder_120 rfl 5 rfl ?_
                refine r_get fs_Tr_33 d_Tr_hasWayToFeeder_121 (q0 := 0) rfl rfl ?_
                refine r_iload_n d_Tr_hasWayToFeeder_124 rfl 4 rfl ?_
                refine r_iload d_Tr_hasWayToFeeder_125 0 rfl ?_
                refine r_iast d_Tr_hasWayToFeeder_127 (q0 := 7) rfl (vp_in_nI (by omega) (by omega)) (f' := fun k => nI (updN (wyH fi fr ((wyB ce fi fr (1, upd (fa_fill (fun _ => 0) seen 108) st 1, updN qn 0 st) h).2.2.2 h) (wyB ce fi fr (1, upd (fa_fill (fun _ => 0) seen 108) st 1, updN qn 0 st) h).2 i).2.2 (wyH fi fr ((wyB ce fi fr (1, upd (fa_fill (fun _ => 0) seen 108) st 1, updN qn 0 st) h).2.2.2 h) (wyB ce fi fr (1, upd (fa_fill (fun _ => 0) seen 108) st 1, updN qn 0 st) h).2 i).1 o k)) (by rw [nI_clamp (by omega)]; exact upd_qn) (cs' := [(a, .inr (10, [.ref a1, .ref a2, .ref az, .ref a4, .ref a5, .ref a6, .int run, .int fo])), (a1, .inl (1, 108, .inl ce)), (a2, .inl (0, 108, .inl fi)), (az, .inr (2, [.ref az1, .ref az2, .ref az3, .ref az4, .ref az5, .ref az6, .int liq])), (az4, .inl (0, 108, .inl fr)), (a4, .inl (2, 108, .inl fed)), (a5, .inl (2, 108, .inl (upd (wyH fi fr ((wyB ce fi fr (1, upd (fa_fill (fun _ => 0) seen 108) st 1, updN qn 0 st) h).2.2.2 h) (wyB ce fi fr (1, upd (fa_fill (fun _ => 0) seen 108) st 1, updN qn 0 st) h).2 i).2.1 o 1))), (a6, .inl (0, 108, .inl (fun k => nI (updN (wyH fi fr ((wyB ce fi fr (1, upd (fa_fill (fun _ => 0) seen 108) st 1, updN qn 0 st) h).2.2.2 h) (wyB ce fi fr (1, upd (fa_fill (fun _ => 0) seen 108) st 1, updN qn 0 st) h).2 i).2.2 (wyH fi fr ((wyB ce fi fr (1, upd (fa_fill (fun _ => 0) seen 108) st 1, updN qn 0 st) h).2.2.2 h) (wyB ce fi fr (1, upd (fa_fill (fun _ => 0) seen 108) st 1, updN qn 0 st) h).2 i).1 o k))))]) rfl ?_
                refine r_iinc (lv' := [(2, .int (nI ((wyH fi fr ((wyB ce fi fr (1, upd (fa_fill (fun _ => 0) seen 108) st 1, updN qn 0 st) h).2.2.2 h) (wyB ce fi fr (1, upd (fa_fill (fun _ => 0) seen 108) st 1, updN qn 0 st) h).2 i).1 + 1))), (6, .int (nI o)), (5, .int (nI i)), (4, .int (nI ((wyB ce fi fr (1, upd (fa_fill (fun _ => 0) seen 108) st 1, updN qn 0 st) h).2.2.2 h))), (3, .int (nI h)), (0, .ref a), (1, .int (nI st))]) (v := nI ((wyH fi fr ((wyB ce fi fr (1, upd (fa_fill (fun _ => 0) seen 108) st 1, updN qn 0 st) h).2.2.2 h) (wyB ce fi fr (1, upd (fa_fill (fun _ => 0) seen 108) st 1, updN qn 0 st) h).2 i).1 + 1)) d_Tr_hasWayToFeeder_128 (j := 4) rfl (nI_add _ _) (by decide) rfl ?_
                refine r_iinc (lv' := [(5, .int (nI (i + 1))), (2, .int (nI ((wyH fi fr ((wyB ce fi fr (1, upd (fa_fill (fun _ => 0) seen 108) st 1, updN qn 0 st) h).2.2.2 h) (wyB ce fi fr (1, upd (fa_fill (fun _ => 0) seen 108) st 1, updN qn 0 st) h).2 i).1 + 1))), (6, .int (nI o)), (4, .int (nI ((wyB ce fi fr (1, upd (fa_fill (fun _ => 0) seen 108) st 1, updN qn 0 st) h).2.2.2 h))), (3, .int (nI h)), (0, .ref a), (1, .int (nI st))]) (v := nI (i + 1)) d_Tr_hasWayToFeeder_131 (j := 2) rfl (nI_add _ _) (by decide) rfl ?_
                refine r_goto (tgt := 75) d_Tr_hasWayToFeeder_134 (by decide) ?_
                refine r_lv (lv' := [(5, .int (nI (i + 1))), (4, .int (nI ((wyB ce fi fr (1, upd (fa_fill (fun _ => 0) seen 108) st 1, updN qn 0 st) h).2.2.2 h))), (3, .int (nI h)), (2, .int (nI ((wyH fi fr ((wyB ce fi fr (1, upd (fa_fill (fun _ => 0) seen 108) st 1, updN qn 0 st) h).2.2.2 h) (wyB ce fi fr (1, upd (fa_fill (fun _ => 0) seen 108) st 1, updN qn 0 st) h).2 i).1 + 1))), (0, .ref a), (1, .int (nI st))]) [0, 3, 4, 1, 5, 6] rfl ?_
                refine r_lvE (lv2 := [(5, .int (nI (i + 1))), (4, .int (nI ((wyB ce fi fr (1, upd (fa_fill (fun _ => 0) seen 108) st 1, updN qn 0 st) h).2.2.2 h))), (3, .int (nI h)), (2, .int (nI (wyH fi fr ((wyB ce fi fr (1, upd (fa_fill (fun _ => 0) seen 108) st 1, updN qn 0 st) h).2.2.2 h) (wyB ce fi fr (1, upd (fa_fill (fun _ => 0) seen 108) st 1, updN qn 0 st) h).2 (i + 1)).1)), (0, .ref a), (1, .int (nI st))]) (by rw [show (wyH fi fr ((wyB ce fi fr (1, upd (fa_fill (fun _ => 0) seen 108) st 1, updN qn 0 st) h).2.2.2 h) (wyB ce fi fr (1, upd (fa_fill (fun _ => 0) seen 108) st 1, updN qn 0 st) h).2 (i + 1)) = wyI fi fr ((wyB ce fi fr (1, upd (fa_fill (fun _ => 0) seen 108) st 1, updN qn 0 st) h).2.2.2 h) i (wyH fi fr ((wyB ce fi fr (1, upd (fa_fill (fun _ => 0) seen 108) st 1, updN qn 0 st) h).2.2.2 h) (wyB ce fi fr (1, upd (fa_fill (fun _ => 0) seen 108) st 1, updN qn 0 st) h).2 i) from rfl, hk] <;> rfl) ?_
                refine r_cs (cs2 := [(a, .inr (10, [.ref a1, .ref a2, .ref az, .ref a4, .ref a5, .ref a6, .int run, .int fo])), (a1, .inl (1, 108, .inl ce)), (a2, .inl (0, 108, .inl fi)), (az, .inr (2, [.ref az1, .ref az2, .ref az3, .ref az4, .ref az5, .ref az6, .int liq])), (az4, .inl (0, 108, .inl fr)), (a4, .inl (2, 108, .inl fed)), (a5, .inl (2, 108, .inl ((wyH fi fr ((wyB ce fi fr (1, upd (fa_fill (fun _ => 0) seen 108) st 1, updN qn 0 st) h).2.2.2 h) (wyB ce fi fr (1, upd (fa_fill (fun _ => 0) seen 108) st 1, updN qn 0 st) h).2 (i + 1)).2.1))), (a6, .inl (0, 108, .inl (fun k => nI ((wyH fi fr ((wyB ce fi fr (1, upd (fa_fill (fun _ => 0) seen 108) st 1, updN qn 0 st) h).2.2.2 h) (wyB ce fi fr (1, upd (fa_fill (fun _ => 0) seen 108) st 1, updN qn 0 st) h).2 (i + 1)).2.2 k))))]) (by rw [show (wyH fi fr ((wyB ce fi fr (1, upd (fa_fill (fun _ => 0) seen 108) st 1, updN qn 0 st) h).2.2.2 h) (wyB ce fi fr (1, upd (fa_fill (fun _ => 0) seen 108) st 1, updN qn 0 st) h).2 (i + 1)) = wyI fi fr ((wyB ce fi fr (1, upd (fa_fill (fun _ => 0) seen 108) st 1, updN qn 0 st) h).2.2.2 h) i (wyH fi fr ((wyB ce fi fr (1, upd (fa_fill (fun _ => 0) seen 108) st 1, updN qn 0 st) h).2.2.2 h) (wyB ce fi fr (1, upd (fa_fill (fun _ => 0) seen 108) st 1, updN qn 0 st) h).2 i) from rfl, hk] <;> rfl) ?_
                exact ih (i + 1) (by omega) (by omega)
set_option maxHeartbeats 4000000 in
set_option maxRecDepth 100000 in
theorem L_Tr_hasWayToFeeder_39 (g : zG) (a a1 a2 az az1 az2 az3 az4 az5 az6 a4 a5 a6 : Nat) (run fo liq : Int32) (ce fi fr fed seen : Nat → Int32) (qn : Nat → Nat) (st : Nat) (hst : st < 108) (w0 : zW) (n : Nat) (hQ : Qok (1, upd (fa_fill (fun _ => 0) seen 108) st 1, updN qn 0 st)) : ∀ (d h : Nat), h ≤ 108 → 108 < h + d → (wyB ce fi fr (1, upd (fa_fill (fun _ => 0) seen 108) st 1, updN qn 0 st) h).1 = false → DV g M_Tr_hasWayToFeeder (fun o cs1 => o = .inl (some (.int (z_bi (wyB ce fi fr (1, upd (fa_fill (fun _ => 0) seen 108) st 1, updN qn 0 st) 108).1))) ∧ cs1 = [(a, .inr (10, [.ref a1, .ref a2, .ref az, .ref a4, .ref a5, .ref a6, .int run, .int fo])), (a1, .inl (1, 108, .inl ce)), (a2, .inl (0, 108, .inl fi)), (az, .inr (2, [.ref az1, .ref az2, .ref az3, .ref az4, .ref az5, .ref az6, .int liq])), (az4, .inl (0, 108, .inl fr)), (a4, .inl (2, 108, .inl fed)), (a5, .inl (2, 108, .inl ((wyB ce fi fr (1, upd (fa_fill (fun _ => 0) seen 108) st 1, updN qn 0 st) 108).2.2.1))), (a6, .inl (0, 108, .inl (fun k => nI ((wyB ce fi fr (1, upd (fa_fill (fun _ => 0) seen 108) st 1, updN qn 0 st) 108).2.2.2 k))))]) w0 n 39 [(3, .int (nI h)), (2, .int (nI (wyB ce fi fr (1, upd (fa_fill (fun _ => 0) seen 108) st 1, updN qn 0 st) h).2.1)), (0, .ref a), (1, .int (nI st))] [] [(a, .inr (10, [.ref a1, .ref a2, .ref az, .ref a4, .ref a5, .ref a6, .int run, .int fo])), (a1, .inl (1, 108, .inl ce)), (a2, .inl (0, 108, .inl fi)), (az, .inr (2, [.ref az1, .ref az2, .ref az3, .ref az4, .ref az5, .ref az6, .int liq])), (az4, .inl (0, 108, .inl fr)), (a4, .inl (2, 108, .inl fed)), (a5, .inl (2, 108, .inl ((wyB ce fi fr (1, upd (fa_fill (fun _ => 0) seen 108) st 1, updN qn 0 st) h).2.2.1))), (a6, .inl (0, 108, .inl (fun k => nI ((wyB ce fi fr (1, upd (fa_fill (fun _ => 0) seen 108) st 1, updN qn 0 st) h).2.2.2 k))))] 0 0 := by
  intro d
  induction d with
  | zero => intro h h1 h2 h3; exact absurd h2 (by omega)
  | succ d ih =>
    intro h h1 h2 h3
    have hok := wyB_ok (ce := ce) (fi := fi) (fr := fr) (Q0 := (1, upd (fa_fill (fun _ => 0) seen 108) st 1, updN qn 0 st)) hQ h
    refine r_iload_n d_Tr_hasWayToFeeder_39 rfl 0 rfl ?_
    refine r_iload_n d_Tr_hasWayToFeeder_40 rfl 1 rfl ?_
    refine r_icmp_ge (tgt := 143) d_Tr_hasWayToFeeder_41 (by decide) (fun c_41 => ?_) (fun c_41 => ?_)
    · have hq1 := hok.1
      have hn := z_le (by omega) (by omega) c_41
      have hf : (wyB ce fi fr (1, upd (fa_fill (fun _ => 0) seen 108) st 1, updN qn 0 st) h).1 = false ∨ True := Or.inr trivial
      have hx : (wyB ce fi fr (1, upd (fa_fill (fun _ => 0) seen 108) st 1, updN qn 0 st) 108) = (wyB ce fi fr (1, upd (fa_fill (fun _ => 0) seen 108) st 1, updN qn 0 st) h) := by have := wyB_stop (Or.inr (Nat.not_lt.mpr hn)) (108 - h); rw [show h + (108 - h) = 108 by omega] at this; exact this
      refine r_iconst d_Tr_hasWayToFeeder_143 (v := 0) (by decide) ?_
      refine r_iret d_Tr_hasWayToFeeder_144 rfl rfl ?_
      exact ⟨by rw [hx, h3]; rfl, by rw [hx]⟩
    · have hq1 := hok.1
      have hn := z_nle (by omega) (by omega) c_41
      have hhere := hok.2 h hn
      refine r_iload_n d_Tr_hasWayToFeeder_44 rfl 0 rfl ?_
      refine r_bipush d_Tr_hasWayToFeeder_45 (v := 108) (by decide) ?_
      refine r_icmp_ge (tgt := 143) d_Tr_hasWayToFeeder_47 (by decide) (fun c_47 => ?_) (fun c_47 => ?_)
      · exact absurd (z_le (a := 108) (by omega) (by decide) c_47) (by have := hok.1; omega)
      · refine r_aload_n d_Tr_hasWayToFeeder_50 rfl 2 rfl ?_
        refine r_get fs_Tr_33 d_Tr_hasWayToFeeder_51 (q0 := 0) rfl rfl ?_
        refine r_iload_n d_Tr_hasWayToFeeder_54 rfl 0 rfl ?_
        refine r_iald d_Tr_hasWayToFeeder_55 (q0 := 7) rfl (vp_in_nI (by omega) (by omega)) (v := nI ((wyB ce fi fr (1, upd (fa_fill (fun _ => 0) seen 108) st 1, updN qn 0 st) h).2.2.2 h)) (by rw [nI_clamp (by omega)]) ?_
        refine r_istore (lv' := [(4, .int (nI ((wyB ce fi fr (1, upd (fa_fill (fun _ => 0) seen 108) st 1, updN qn 0 st) h).2.2.2 h))), (3, .int (nI h)), (2, .int (nI (wyB ce fi fr (1, upd (fa_fill (fun _ => 0) seen 108) st 1, updN qn 0 st) h).2.1)), (0, .ref a), (1, .int (nI st))]) d_Tr_hasWayToFeeder_56 (by decide) rfl ?_
        refine r_aload_n d_Tr_hasWayToFeeder_58 rfl 3 rfl ?_
        refine r_get fs_Tr_9 d_Tr_hasWayToFeeder_59 (q0 := 0) rfl rfl ?_
        refine r_iload d_Tr_hasWayToFeeder_62 0 rfl ?_
        refine r_cald d_Tr_hasWayToFeeder_64 (q0 := 1) rfl (vp_in_nI (by omega) (by omega)) (v := ce ((wyB ce fi fr (1, upd (fa_fill (fun _ => 0) seen 108) st 1, updN qn 0 st) h).2.2.2 h)) (by rw [nI_clamp (by omega)]) ?_
        refine r_bipush d_Tr_hasWayToFeeder_65 (v := 114) (by decide) ?_
        refine r_icmp_ne (tgt := 72) d_Tr_hasWayToFeeder_67 (by decide) (fun c_67 => ?_) (fun c_67 => ?_)
        · have hw2 := wyB_n (fun q => q.elim (fun e => by rw [h3] at e; cases e) (fun e => e hn)) c_67
          refine r_iconst d_Tr_hasWayToFeeder_72 (v := 0) (by decide) ?_
          refine r_istore (lv' := [(5, .int 0), (4, .int (nI ((wyB ce fi fr (1, upd (fa_fill (fun _ => 0) seen 108) st 1, updN qn 0 st) h).2.2.2 h))), (3, .int (nI h)), (2, .int (nI (wyB ce fi fr (1, upd (fa_fill (fun _ => 0) seen 108) st 1, updN qn 0 st) h).2.1)), (0, .ref a), (1, .int (nI st))]) d_Tr_hasWayToFeeder_73 (by decide) rfl ?_
          refine r_lvE (lv2 := [(5, .int (nI 0)), (4, .int (nI ((wyB ce fi fr (1, upd (fa_fill (fun _ => 0) seen 108) st 1, updN qn 0 st) h).2.2.2 h))), (3, .int (nI h)), (2, .int (nI (wyH fi fr ((wyB ce fi fr (1, upd (fa_fill (fun _ => 0) seen 108) st 1, updN qn 0 st) h).2.2.2 h) (wyB ce fi fr (1, upd (fa_fill (fun _ => 0) seen 108) st 1, updN qn 0 st) h).2 0).1)), (0, .ref a), (1, .int (nI st))]) (rfl) ?_
          refine r_cs (cs2 := [(a, .inr (10, [.ref a1, .ref a2, .ref az, .ref a4, .ref a5, .ref a6, .int run, .int fo])), (a1, .inl (1, 108, .inl ce)), (a2, .inl (0, 108, .inl fi)), (az, .inr (2, [.ref az1, .ref az2, .ref az3, .ref az4, .ref az5, .ref az6, .int liq])), (az4, .inl (0, 108, .inl fr)), (a4, .inl (2, 108, .inl fed)), (a5, .inl (2, 108, .inl ((wyH fi fr ((wyB ce fi fr (1, upd (fa_fill (fun _ => 0) seen 108) st 1, updN qn 0 st) h).2.2.2 h) (wyB ce fi fr (1, upd (fa_fill (fun _ => 0) seen 108) st 1, updN qn 0 st) h).2 0).2.1))), (a6, .inl (0, 108, .inl (fun k => nI ((wyH fi fr ((wyB ce fi fr (1, upd (fa_fill (fun _ => 0) seen 108) st 1, updN qn 0 st) h).2.2.2 h) (wyB ce fi fr (1, upd (fa_fill (fun _ => 0) seen 108) st 1, updN qn 0 st) h).2 0).2.2 k))))]) (rfl) ?_
          refine L_Tr_hasWayToFeeder_75 g a a1 a2 az az1 az2 az3 az4 az5 az6 a4 a5 a6 run fo liq ce fi fr fed seen qn st hst w0 _ h (by have := hok.1; omega) hok hhere (?_) (4 + 1) 0 (Nat.zero_le _) (by omega)
          refine r_iinc (lv' := [(3, .int (nI (h + 1))), (2, .int (nI (wyH fi fr ((wyB ce fi fr (1, upd (fa_fill (fun _ => 0) seen 108) st 1, updN qn 0 st) h).2.2.2 h) (wyB ce fi fr (1, upd (fa_fill (fun _ => 0) seen 108) st 1, updN qn 0 st) h).2 4).1)), (0, .ref a), (1, .int (nI st))]) (v := nI (h + 1)) d_Tr_hasWayToFeeder_137 (j := 0) rfl (nI_add _ _) (by decide) rfl ?_
          refine r_goto (tgt := 39) d_Tr_hasWayToFeeder_140 (by decide) ?_
          refine r_lvE (lv2 := [(3, .int (nI (h + 1))), (2, .int (nI (wyB ce fi fr (1, upd (fa_fill (fun _ => 0) seen 108) st 1, updN qn 0 st) (h + 1)).2.1)), (0, .ref a), (1, .int (nI st))]) (by rw [hw2] <;> rfl) ?_
          refine r_cs (cs2 := [(a, .inr (10, [.ref a1, .ref a2, .ref az, .ref a4, .ref a5, .ref a6, .int run, .int fo])), (a1, .inl (1, 108, .inl ce)), (a2, .inl (0, 108, .inl fi)), (az, .inr (2, [.ref az1, .ref az2, .ref az3, .ref az4, .ref az5, .ref az6, .int liq])), (az4, .inl (0, 108, .inl fr)), (a4, .inl (2, 108, .inl fed)), (a5, .inl (2, 108, .inl ((wyB ce fi fr (1, upd (fa_fill (fun _ => 0) seen 108) st 1, updN qn 0 st) (h + 1)).2.2.1))), (a6, .inl (0, 108, .inl (fun k => nI ((wyB ce fi fr (1, upd (fa_fill (fun _ => 0) seen 108) st 1, updN qn 0 st) (h + 1)).2.2.2 k))))]) (by rw [hw2] <;> rfl) ?_
          exact ih (h + 1) (by omega) (by omega) (by rw [hw2])
        · have hx : (wyB ce fi fr (1, upd (fa_fill (fun _ => 0) seen 108) st 1, updN qn 0 st) 108) = (true, (wyB ce fi fr (1, upd (fa_fill (fun _ => 0) seen 108) st 1, updN qn 0 st) h).2) := by have e := wyB_r (fun q => q.elim (fun e => by rw [h3] at e; cases e) (fun e => e hn)) c_67; have := wyB_stop (h := h + 1) (Or.inl (by rw [e])) (108 - (h + 1)); rw [show h + 1 + (108 - (h + 1)) = 108 by have := hok.1; omega] at this; exact this.trans e
          refine r_iconst d_Tr_hasWayToFeeder_70 (v := 1) (by decide) ?_
          refine r_iret d_Tr_hasWayToFeeder_71 rfl rfl ?_
          exact ⟨by rw [hx]; rfl, by rw [hx]⟩
set_option maxHeartbeats 4000000 in
set_option maxRecDepth 100000 in
theorem L_Tr_hasWayToFeeder_2 (g : zG) (a a1 a2 az az1 az2 az3 az4 az5 az6 a4 a5 a6 : Nat) (run fo liq : Int32) (ce fi fr fed seen : Nat → Int32) (qn : Nat → Nat) (st : Nat) (hst : st < 108) (w0 : zW) (n : Nat) : ∀ (d i : Nat), i ≤ 108 → 108 < i + d → DV g M_Tr_hasWayToFeeder (fun o cs1 => o = .inl (some (.int (z_bi (wyB ce fi fr (1, upd (fa_fill (fun _ => 0) seen 108) st 1, updN qn 0 st) 108).1))) ∧ cs1 = [(a, .inr (10, [.ref a1, .ref a2, .ref az, .ref a4, .ref a5, .ref a6, .int run, .int fo])), (a1, .inl (1, 108, .inl ce)), (a2, .inl (0, 108, .inl fi)), (az, .inr (2, [.ref az1, .ref az2, .ref az3, .ref az4, .ref az5, .ref az6, .int liq])), (az4, .inl (0, 108, .inl fr)), (a4, .inl (2, 108, .inl fed)), (a5, .inl (2, 108, .inl ((wyB ce fi fr (1, upd (fa_fill (fun _ => 0) seen 108) st 1, updN qn 0 st) 108).2.2.1))), (a6, .inl (0, 108, .inl (fun k => nI ((wyB ce fi fr (1, upd (fa_fill (fun _ => 0) seen 108) st 1, updN qn 0 st) 108).2.2.2 k))))]) w0 n 2 [(2, .int (nI i)), (0, .ref a), (1, .int (nI st))] [] [(a, .inr (10, [.ref a1, .ref a2, .ref az, .ref a4, .ref a5, .ref a6, .int run, .int fo])), (a1, .inl (1, 108, .inl ce)), (a2, .inl (0, 108, .inl fi)), (az, .inr (2, [.ref az1, .ref az2, .ref az3, .ref az4, .ref az5, .ref az6, .int liq])), (az4, .inl (0, 108, .inl fr)), (a4, .inl (2, 108, .inl fed)), (a5, .inl (2, 108, .inl (fa_fill (fun _ => 0) seen i))), (a6, .inl (0, 108, .inl (fun k => nI (qn k))))] 0 0 := by
  intro d
  induction d with
  | zero => intro i h1 h2 ; exact absurd h2 (by omega)
  | succ d ih =>
    intro i h1 h2 
    refine r_iload_n d_Tr_hasWayToFeeder_2 rfl 0 rfl ?_
    refine r_bipush d_Tr_hasWayToFeeder_3 (v := 108) (by decide) ?_
    refine r_icmp_ge (tgt := 21) d_Tr_hasWayToFeeder_5 (by decide) (fun c_5 => ?_) (fun c_5 => ?_)
    · have hn := z_le (a := 108) (by omega) (by decide) c_5
      obtain rfl : i = 108 := by omega
      refine r_iconst d_Tr_hasWayToFeeder_21 (v := 1) (by decide) ?_
      refine r_istore_n (lv' := [(2, .int 1), (0, .ref a), (1, .int (nI st))]) d_Tr_hasWayToFeeder_22 rfl (by decide) rfl ?_
      refine r_aload_n d_Tr_hasWayToFeeder_23 rfl 1 rfl ?_
      refine r_get fs_Tr_33 d_Tr_hasWayToFeeder_24 (q0 := 0) rfl rfl ?_
      refine r_iconst d_Tr_hasWayToFeeder_27 (v := 0) (by decide) ?_
      refine r_iload_n d_Tr_hasWayToFeeder_28 rfl 2 rfl ?_
      refine r_iast d_Tr_hasWayToFeeder_29 (q0 := 7) rfl (fun q => q.elim (by decide) (by decide)) (f' := fun k => nI (updN qn 0 st k)) upd_qn (cs' := [(a, .inr (10, [.ref a1, .ref a2, .ref az, .ref a4, .ref a5, .ref a6, .int run, .int fo])), (a1, .inl (1, 108, .inl ce)), (a2, .inl (0, 108, .inl fi)), (az, .inr (2, [.ref az1, .ref az2, .ref az3, .ref az4, .ref az5, .ref az6, .int liq])), (az4, .inl (0, 108, .inl fr)), (a4, .inl (2, 108, .inl fed)), (a5, .inl (2, 108, .inl (fa_fill (fun _ => 0) seen 108))), (a6, .inl (0, 108, .inl (fun k => nI (updN qn 0 st k))))]) rfl ?_
      refine r_aload_n d_Tr_hasWayToFeeder_30 rfl 1 rfl ?_
      refine r_get fs_Tr_30 d_Tr_hasWayToFeeder_31 (q0 := 0) rfl rfl ?_
      refine r_iload_n d_Tr_hasWayToFeeder_34 rfl 2 rfl ?_
      refine r_iconst d_Tr_hasWayToFeeder_35 (v := 1) (by decide) ?_
      refine r_zast d_Tr_hasWayToFeeder_36 (q0 := 6) rfl (vp_in_nI (by omega) (by omega)) (f' := upd (fa_fill (fun _ => 0) seen 108) st 1) (by rw [nI_clamp (by omega)] <;> rfl) (cs' := [(a, .inr (10, [.ref a1, .ref a2, .ref az, .ref a4, .ref a5, .ref a6, .int run, .int fo])), (a1, .inl (1, 108, .inl ce)), (a2, .inl (0, 108, .inl fi)), (az, .inr (2, [.ref az1, .ref az2, .ref az3, .ref az4, .ref az5, .ref az6, .int liq])), (az4, .inl (0, 108, .inl fr)), (a4, .inl (2, 108, .inl fed)), (a5, .inl (2, 108, .inl (upd (fa_fill (fun _ => 0) seen 108) st 1))), (a6, .inl (0, 108, .inl (fun k => nI (updN qn 0 st k))))]) rfl ?_
      refine r_iconst d_Tr_hasWayToFeeder_37 (v := 0) (by decide) ?_
      refine r_istore_n (lv' := [(3, .int 0), (2, .int 1), (0, .ref a), (1, .int (nI st))]) d_Tr_hasWayToFeeder_38 rfl (by decide) rfl ?_
      have hQ : Qok (1, upd (fa_fill (fun _ => 0) seen 108) st 1, updN qn 0 st) := ⟨by show 1 ≤ 108; omega, fun k hk => by have e : k = 0 := Nat.lt_one_iff.mp hk; show updN qn 0 st k < 108; unfold updN; rw [if_pos e]; exact hst⟩
      refine r_lvE (lv2 := [(3, .int (nI 0)), (2, .int (nI (wyB ce fi fr (1, upd (fa_fill (fun _ => 0) seen 108) st 1, updN qn 0 st) 0).2.1)), (0, .ref a), (1, .int (nI st))]) (rfl) ?_
      refine r_cs (cs2 := [(a, .inr (10, [.ref a1, .ref a2, .ref az, .ref a4, .ref a5, .ref a6, .int run, .int fo])), (a1, .inl (1, 108, .inl ce)), (a2, .inl (0, 108, .inl fi)), (az, .inr (2, [.ref az1, .ref az2, .ref az3, .ref az4, .ref az5, .ref az6, .int liq])), (az4, .inl (0, 108, .inl fr)), (a4, .inl (2, 108, .inl fed)), (a5, .inl (2, 108, .inl ((wyB ce fi fr (1, upd (fa_fill (fun _ => 0) seen 108) st 1, updN qn 0 st) 0).2.2.1))), (a6, .inl (0, 108, .inl (fun k => nI ((wyB ce fi fr (1, upd (fa_fill (fun _ => 0) seen 108) st 1, updN qn 0 st) 0).2.2.2 k))))]) (rfl) ?_
      exact L_Tr_hasWayToFeeder_39 g a a1 a2 az az1 az2 az3 az4 az5 az6 a4 a5 a6 run fo liq ce fi fr fed seen qn st hst w0 _ hQ (108 + 1) 0 (Nat.zero_le _) (by omega) rfl
    · have hn := z_nle (a := 108) (by omega) (by decide) c_5
      refine r_aload_n d_Tr_hasWayToFeeder_8 rfl 1 rfl ?_
      refine r_get fs_Tr_30 d_Tr_hasWayToFeeder_9 (q0 := 0) rfl rfl ?_
      refine r_iload_n d_Tr_hasWayToFeeder_12 rfl 0 rfl ?_
      refine r_iconst d_Tr_hasWayToFeeder_13 (v := 0) (by decide) ?_
      refine r_zast d_Tr_hasWayToFeeder_14 (q0 := 6) rfl (vp_in_nI (by omega) (by omega)) (f' := fa_fill (fun _ => 0) seen (i + 1)) (by rw [nI_clamp (by omega)]; exact fill_nI 0 seen i) (cs' := [(a, .inr (10, [.ref a1, .ref a2, .ref az, .ref a4, .ref a5, .ref a6, .int run, .int fo])), (a1, .inl (1, 108, .inl ce)), (a2, .inl (0, 108, .inl fi)), (az, .inr (2, [.ref az1, .ref az2, .ref az3, .ref az4, .ref az5, .ref az6, .int liq])), (az4, .inl (0, 108, .inl fr)), (a4, .inl (2, 108, .inl fed)), (a5, .inl (2, 108, .inl (fa_fill (fun _ => 0) seen (i + 1)))), (a6, .inl (0, 108, .inl (fun k => nI (qn k))))]) rfl ?_
      refine r_iinc (lv' := [(2, .int (nI (i + 1))), (0, .ref a), (1, .int (nI st))]) (v := nI (i + 1)) d_Tr_hasWayToFeeder_15 (j := 0) rfl (nI_add _ _) (by decide) rfl ?_
      refine r_goto (tgt := 2) d_Tr_hasWayToFeeder_18 (by decide) ?_
      refine r_lvE (lv2 := [(2, .int (nI (i + 1))), (0, .ref a), (1, .int (nI st))]) (rfl) ?_
      refine r_cs (cs2 := [(a, .inr (10, [.ref a1, .ref a2, .ref az, .ref a4, .ref a5, .ref a6, .int run, .int fo])), (a1, .inl (1, 108, .inl ce)), (a2, .inl (0, 108, .inl fi)), (az, .inr (2, [.ref az1, .ref az2, .ref az3, .ref az4, .ref az5, .ref az6, .int liq])), (az4, .inl (0, 108, .inl fr)), (a4, .inl (2, 108, .inl fed)), (a5, .inl (2, 108, .inl (fa_fill (fun _ => 0) seen (i + 1)))), (a6, .inl (0, 108, .inl (fun k => nI (qn k))))]) (rfl) ?_
      exact ih (i + 1) (by omega) (by omega)
set_option maxHeartbeats 4000000 in
set_option maxRecDepth 100000 in
theorem C_Tr_hasWayToFeeder (g : zG) (a a1 a2 az az1 az2 az3 az4 az5 az6 a4 a5 a6 : Nat) (run fo liq : Int32) (ce fi fr fed seen : Nat → Int32) (qn : Nat → Nat) (st : Nat) (hst : st < 108) : CT g M_Tr_hasWayToFeeder [.ref a, .int (nI st)] [(a, .inr (10, [.ref a1, .ref a2, .ref az, .ref a4, .ref a5, .ref a6, .int run, .int fo])), (a1, .inl (1, 108, .inl ce)), (a2, .inl (0, 108, .inl fi)), (az, .inr (2, [.ref az1, .ref az2, .ref az3, .ref az4, .ref az5, .ref az6, .int liq])), (az4, .inl (0, 108, .inl fr)), (a4, .inl (2, 108, .inl fed)), (a5, .inl (2, 108, .inl seen)), (a6, .inl (0, 108, .inl (fun k => nI (qn k))))] (fun o cs1 => o = .inl (some (.int (z_bi (wyB ce fi fr (1, upd (fa_fill (fun _ => 0) seen 108) st 1, updN qn 0 st) 108).1))) ∧ cs1 = [(a, .inr (10, [.ref a1, .ref a2, .ref az, .ref a4, .ref a5, .ref a6, .int run, .int fo])), (a1, .inl (1, 108, .inl ce)), (a2, .inl (0, 108, .inl fi)), (az, .inr (2, [.ref az1, .ref az2, .ref az3, .ref az4, .ref az5, .ref az6, .int liq])), (az4, .inl (0, 108, .inl fr)), (a4, .inl (2, 108, .inl fed)), (a5, .inl (2, 108, .inl ((wyB ce fi fr (1, upd (fa_fill (fun _ => 0) seen 108) st 1, updN qn 0 st) 108).2.2.1))), (a6, .inl (0, 108, .inl (fun k => nI ((wyB ce fi fr (1, upd (fa_fill (fun _ => 0) seen 108) st 1, updN qn 0 st) 108).2.2.2 k))))]) 0 0 := by
  refine z_of (by decide) rfl (Nat.le_of_ble_eq_true rfl) (fun w0 => ?_)
  refine r_lvE (lv2 := [(0, .ref a), (1, .int (nI st))]) rfl ?_
  refine r_iconst d_Tr_hasWayToFeeder_0 (v := 0) (by decide) ?_
  refine r_istore_n (lv' := [(2, .int 0), (0, .ref a), (1, .int (nI st))]) d_Tr_hasWayToFeeder_1 rfl (by decide) rfl ?_
  refine r_lvE (lv2 := [(2, .int (nI 0)), (0, .ref a), (1, .int (nI st))]) (rfl) ?_
  refine r_cs (cs2 := [(a, .inr (10, [.ref a1, .ref a2, .ref az, .ref a4, .ref a5, .ref a6, .int run, .int fo])), (a1, .inl (1, 108, .inl ce)), (a2, .inl (0, 108, .inl fi)), (az, .inr (2, [.ref az1, .ref az2, .ref az3, .ref az4, .ref az5, .ref az6, .int liq])), (az4, .inl (0, 108, .inl fr)), (a4, .inl (2, 108, .inl fed)), (a5, .inl (2, 108, .inl (fa_fill (fun _ => 0) seen 0))), (a6, .inl (0, 108, .inl (fun k => nI (qn k))))]) (rfl) ?_
  exact L_Tr_hasWayToFeeder_2 g a a1 a2 az az1 az2 az3 az4 az5 az6 a4 a5 a6 run fo liq ce fi fr fed seen qn st hst w0 _  (108 + 1) 0 (Nat.zero_le _) (by omega)
abbrev M_Tr_feed : zM := (⟨"Ironpour$Trial", "feed", "()V"⟩, prog_12_method_10_code, 6, (Option.none : Option FieldType), 3, 63, [])
theorem d_Tr_feed_86 : decode prog_12_method_10_code 86 = .ok (.iload 4, 2) := zo_21 (d := 4) (zd_b zq_prog_12_method_10_code_2 22 rfl rfl rfl) (zd_b zq_prog_12_method_10_code_2 23 rfl rfl rfl)
theorem d_Tr_feed_88 : decode prog_12_method_10_code 88 = .ok (.iconst 4, 1) := zo_7 (zd_b zq_prog_12_method_10_code_2 24 rfl rfl rfl)
theorem d_Tr_feed_89 : decode prog_12_method_10_code 89 = .ok (.if_icmp .ge 92, 3) := zo_162 (d := 0) (e := 92) (zd_b zq_prog_12_method_10_code_2 25 rfl rfl rfl) (zd_b zq_prog_12_method_10_code_2 26 rfl rfl rfl) (zd_b zq_prog_12_method_10_code_2 27 rfl rfl rfl) (by decide +kernel)
theorem d_Tr_feed_92 : decode prog_12_method_10_code 92 = .ok (.aload_n 0, 1) := zo_42 (zd_b zq_prog_12_method_10_code_2 28 rfl rfl rfl)
theorem d_Tr_feed_93 : decode prog_12_method_10_code 93 = .ok (.getfield 33, 3) := zo_180 (d := 0) (e := 33) (zd_b zq_prog_12_method_10_code_2 29 rfl rfl rfl) (zd_b zq_prog_12_method_10_code_2 30 rfl rfl rfl) (zd_b zq_prog_12_method_10_code_2 31 rfl rfl rfl)
theorem d_Tr_feed_96 : decode prog_12_method_10_code 96 = .ok (.iload_n 3, 1) := zo_29 (zd_b zq_prog_12_method_10_code_3 0 rfl rfl rfl)
theorem d_Tr_feed_97 : decode prog_12_method_10_code 97 = .ok (.iaload, 1) := zo_46 (zd_b zq_prog_12_method_10_code_3 1 rfl rfl rfl)
theorem d_Tr_feed_98 : decode prog_12_method_10_code 98 = .ok (.iload 4, 2) := zo_21 (d := 4) (zd_b zq_prog_12_method_10_code_3 2 rfl rfl rfl) (zd_b zq_prog_12_method_10_code_3 3 rfl rfl rfl)
theorem d_Tr_feed_100 : decode prog_12_method_10_code 100 = .ok (.invokestatic 72, 3) := zo_184 (d := 0) (e := 72) (zd_b zq_prog_12_method_10_code_3 4 rfl rfl rfl) (zd_b zq_prog_12_method_10_code_3 5 rfl rfl rfl) (zd_b zq_prog_12_method_10_code_3 6 rfl rfl rfl)
theorem ok_Tr_feed_Ip_beside : z_ok M_Tr_feed M_Ip_beside 2 := ⟨z_mj2 (i := 133) rfl (by decide +kernel), rfl, ⟨by decide +kernel, by decide +kernel, by decide +kernel⟩, ⟨by decide, by decide⟩, z_mj1 (i := 1) rfl (by decide +kernel), rfl⟩
theorem d_Tr_feed_103 : decode prog_12_method_10_code 103 = .ok (.istore 5, 2) := zo_54 (d := 5) (zd_b zq_prog_12_method_10_code_3 7 rfl rfl rfl) (zd_b zq_prog_12_method_10_code_3 8 rfl rfl rfl)
theorem d_Tr_feed_105 : decode prog_12_method_10_code 105 = .ok (.iload 5, 2) := zo_21 (d := 5) (zd_b zq_prog_12_method_10_code_3 9 rfl rfl rfl) (zd_b zq_prog_12_method_10_code_3 10 rfl rfl rfl)
theorem d_Tr_feed_107 : decode prog_12_method_10_code 107 = .ok (.ifCond .lt 68, 3) := zo_155 (d := 0) (e := 68) (zd_b zq_prog_12_method_10_code_3 11 rfl rfl rfl) (zd_b zq_prog_12_method_10_code_3 12 rfl rfl rfl) (zd_b zq_prog_12_method_10_code_3 13 rfl rfl rfl) (by decide +kernel)
theorem d_Tr_feed_175 : decode prog_12_method_10_code 175 = .ok (.iinc 4 1, 3) := by decide +kernel
theorem d_Tr_feed_178 : decode prog_12_method_10_code 178 = .ok (.goto (-92), 3) := zo_167 (d := 255) (e := 164) (zd_b zq_prog_12_method_10_code_5 18 rfl rfl rfl) (zd_b zq_prog_12_method_10_code_5 19 rfl rfl rfl) (zd_b zq_prog_12_method_10_code_5 20 rfl rfl rfl) (by decide +kernel)
theorem d_Tr_feed_110 : decode prog_12_method_10_code 110 = .ok (.aload_n 0, 1) := zo_42 (zd_b zq_prog_12_method_10_code_3 14 rfl rfl rfl)
theorem d_Tr_feed_111 : decode prog_12_method_10_code 111 = .ok (.aload_n 0, 1) := zo_42 (zd_b zq_prog_12_method_10_code_3 15 rfl rfl rfl)
theorem d_Tr_feed_112 : decode prog_12_method_10_code 112 = .ok (.getfield 33, 3) := zo_180 (d := 0) (e := 33) (zd_b zq_prog_12_method_10_code_3 16 rfl rfl rfl) (zd_b zq_prog_12_method_10_code_3 17 rfl rfl rfl) (zd_b zq_prog_12_method_10_code_3 18 rfl rfl rfl)
theorem d_Tr_feed_115 : decode prog_12_method_10_code 115 = .ok (.iload_n 3, 1) := zo_29 (zd_b zq_prog_12_method_10_code_3 19 rfl rfl rfl)
theorem d_Tr_feed_116 : decode prog_12_method_10_code 116 = .ok (.iaload, 1) := zo_46 (zd_b zq_prog_12_method_10_code_3 20 rfl rfl rfl)
theorem d_Tr_feed_117 : decode prog_12_method_10_code 117 = .ok (.iload 5, 2) := zo_21 (d := 5) (zd_b zq_prog_12_method_10_code_3 21 rfl rfl rfl) (zd_b zq_prog_12_method_10_code_3 22 rfl rfl rfl)
theorem d_Tr_feed_119 : decode prog_12_method_10_code 119 = .ok (.invokevirtual 95, 3) := zo_182 (d := 0) (e := 95) (zd_b zq_prog_12_method_10_code_3 23 rfl rfl rfl) (zd_b zq_prog_12_method_10_code_3 24 rfl rfl rfl) (zd_b zq_prog_12_method_10_code_3 25 rfl rfl rfl)
theorem ok_Tr_feed_Tr_canFeed : z_ok M_Tr_feed M_Tr_canFeed 2 := ⟨z_mj3 (i := 29) rfl (by decide +kernel), rfl, ⟨by decide +kernel, by decide +kernel, by decide +kernel⟩, ⟨by decide, by decide⟩, z_mj1 (i := 3) rfl (by decide +kernel), rfl⟩
theorem ln_Tr_95 : Cond.methodLink "Ironpour$Trial" 95 M_Tr_canFeed.1 ∈ z_gw := z_mj3 (i := 26) rfl (by decide +kernel)
theorem w_im_Tr_canFeed : Cond.instanceMethod M_Tr_canFeed.1 ∈ z_gw := z_mj3 (i := 28) rfl (by decide +kernel)
theorem w_se_Tr_canFeed : Cond.selects M_Tr_canFeed.1.cls M_Tr_canFeed.1 M_Tr_canFeed.1 ∈ z_gw := z_mem (i := 14) (by decide +kernel) (by decide +kernel)
theorem d_Tr_feed_122 : decode prog_12_method_10_code 122 = .ok (.ifCond .eq 53, 3) := zo_153 (d := 0) (e := 53) (zd_b zq_prog_12_method_10_code_3 26 rfl rfl rfl) (zd_b zq_prog_12_method_10_code_3 27 rfl rfl rfl) (zd_b zq_prog_12_method_10_code_3 28 rfl rfl rfl) (by decide +kernel)
theorem d_Tr_feed_125 : decode prog_12_method_10_code 125 = .ok (.iload_n 1, 1) := zo_27 (zd_b zq_prog_12_method_10_code_3 29 rfl rfl rfl)
theorem d_Tr_feed_126 : decode prog_12_method_10_code 126 = .ok (.bipush 108, 2) := zo_16 (d := 108) (zd_b zq_prog_12_method_10_code_3 30 rfl rfl rfl) (zd_b zq_prog_12_method_10_code_3 31 rfl rfl rfl) (by decide +kernel)
theorem d_Tr_feed_128 : decode prog_12_method_10_code 128 = .ok (.if_icmp .lt 6, 3) := zo_161 (d := 0) (e := 6) (zd_b zq_prog_12_method_10_code_4 0 rfl rfl rfl) (zd_b zq_prog_12_method_10_code_4 1 rfl rfl rfl) (zd_b zq_prog_12_method_10_code_4 2 rfl rfl rfl) (by decide +kernel)
theorem d_Tr_feed_134 : decode prog_12_method_10_code 134 = .ok (.aload_n 0, 1) := zo_42 (zd_b zq_prog_12_method_10_code_4 6 rfl rfl rfl)
theorem d_Tr_feed_135 : decode prog_12_method_10_code 135 = .ok (.getfield 9, 3) := zo_180 (d := 0) (e := 9) (zd_b zq_prog_12_method_10_code_4 7 rfl rfl rfl) (zd_b zq_prog_12_method_10_code_4 8 rfl rfl rfl) (zd_b zq_prog_12_method_10_code_4 9 rfl rfl rfl)
theorem d_Tr_feed_138 : decode prog_12_method_10_code 138 = .ok (.iload 5, 2) := zo_21 (d := 5) (zd_b zq_prog_12_method_10_code_4 10 rfl rfl rfl) (zd_b zq_prog_12_method_10_code_4 11 rfl rfl rfl)
theorem d_Tr_feed_140 : decode prog_12_method_10_code 140 = .ok (.caload, 1) := zo_52 (zd_b zq_prog_12_method_10_code_4 12 rfl rfl rfl)
theorem d_Tr_feed_141 : decode prog_12_method_10_code 141 = .ok (.bipush 99, 2) := zo_16 (d := 99) (zd_b zq_prog_12_method_10_code_4 13 rfl rfl rfl) (zd_b zq_prog_12_method_10_code_4 14 rfl rfl rfl) (by decide +kernel)
theorem d_Tr_feed_143 : decode prog_12_method_10_code 143 = .ok (.if_icmp .ne 13, 3) := zo_160 (d := 0) (e := 13) (zd_b zq_prog_12_method_10_code_4 15 rfl rfl rfl) (zd_b zq_prog_12_method_10_code_4 16 rfl rfl rfl) (zd_b zq_prog_12_method_10_code_4 17 rfl rfl rfl) (by decide +kernel)
theorem d_Tr_feed_156 : decode prog_12_method_10_code 156 = .ok (.aload_n 0, 1) := zo_42 (zd_b zq_prog_12_method_10_code_4 28 rfl rfl rfl)
theorem d_Tr_feed_157 : decode prog_12_method_10_code 157 = .ok (.getfield 26, 3) := zo_180 (d := 0) (e := 26) (zd_b zq_prog_12_method_10_code_4 29 rfl rfl rfl) (zd_b zq_prog_12_method_10_code_4 30 rfl rfl rfl) (zd_b zq_prog_12_method_10_code_4 31 rfl rfl rfl)
theorem d_Tr_feed_160 : decode prog_12_method_10_code 160 = .ok (.iload 5, 2) := zo_21 (d := 5) (zd_b zq_prog_12_method_10_code_5 0 rfl rfl rfl) (zd_b zq_prog_12_method_10_code_5 1 rfl rfl rfl)
theorem d_Tr_feed_162 : decode prog_12_method_10_code 162 = .ok (.iconst 1, 1) := zo_4 (zd_b zq_prog_12_method_10_code_5 2 rfl rfl rfl)
theorem d_Tr_feed_163 : decode prog_12_method_10_code 163 = .ok (.bastore, 1) := zo_84 (zd_b zq_prog_12_method_10_code_5 3 rfl rfl rfl)
theorem d_Tr_feed_164 : decode prog_12_method_10_code 164 = .ok (.aload_n 0, 1) := zo_42 (zd_b zq_prog_12_method_10_code_5 4 rfl rfl rfl)
theorem d_Tr_feed_165 : decode prog_12_method_10_code 165 = .ok (.getfield 33, 3) := zo_180 (d := 0) (e := 33) (zd_b zq_prog_12_method_10_code_5 5 rfl rfl rfl) (zd_b zq_prog_12_method_10_code_5 6 rfl rfl rfl) (zd_b zq_prog_12_method_10_code_5 7 rfl rfl rfl)
theorem d_Tr_feed_168 : decode prog_12_method_10_code 168 = .ok (.iload_n 1, 1) := zo_27 (zd_b zq_prog_12_method_10_code_5 8 rfl rfl rfl)
theorem d_Tr_feed_169 : decode prog_12_method_10_code 169 = .ok (.iload 5, 2) := zo_21 (d := 5) (zd_b zq_prog_12_method_10_code_5 9 rfl rfl rfl) (zd_b zq_prog_12_method_10_code_5 10 rfl rfl rfl)
theorem d_Tr_feed_171 : decode prog_12_method_10_code 171 = .ok (.iastore, 1) := zo_79 (zd_b zq_prog_12_method_10_code_5 11 rfl rfl rfl)
theorem d_Tr_feed_172 : decode prog_12_method_10_code 172 = .ok (.iinc 1 1, 3) := by decide +kernel
theorem d_Tr_feed_146 : decode prog_12_method_10_code 146 = .ok (.iload_n 2, 1) := zo_28 (zd_b zq_prog_12_method_10_code_4 18 rfl rfl rfl)
theorem d_Tr_feed_147 : decode prog_12_method_10_code 147 = .ok (.ifCond .ne 6, 3) := zo_154 (d := 0) (e := 6) (zd_b zq_prog_12_method_10_code_4 19 rfl rfl rfl) (zd_b zq_prog_12_method_10_code_4 20 rfl rfl rfl) (zd_b zq_prog_12_method_10_code_4 21 rfl rfl rfl) (by decide +kernel)
theorem d_Tr_feed_153 : decode prog_12_method_10_code 153 = .ok (.iinc 2 (-1), 3) := by decide +kernel
theorem d_Tr_feed_150 : decode prog_12_method_10_code 150 = .ok (.goto 25, 3) := zo_167 (d := 0) (e := 25) (zd_b zq_prog_12_method_10_code_4 22 rfl rfl rfl) (zd_b zq_prog_12_method_10_code_4 23 rfl rfl rfl) (zd_b zq_prog_12_method_10_code_4 24 rfl rfl rfl) (by decide +kernel)
theorem d_Tr_feed_131 : decode prog_12_method_10_code 131 = .ok (.goto 44, 3) := zo_167 (d := 0) (e := 44) (zd_b zq_prog_12_method_10_code_4 3 rfl rfl rfl) (zd_b zq_prog_12_method_10_code_4 4 rfl rfl rfl) (zd_b zq_prog_12_method_10_code_4 5 rfl rfl rfl) (by decide +kernel)
theorem d_Tr_feed_72 : decode prog_12_method_10_code 72 = .ok (.iload_n 3, 1) := zo_29 (zd_b zq_prog_12_method_10_code_2 8 rfl rfl rfl)
theorem d_Tr_feed_73 : decode prog_12_method_10_code 73 = .ok (.iload_n 1, 1) := zo_27 (zd_b zq_prog_12_method_10_code_2 9 rfl rfl rfl)
theorem d_Tr_feed_74 : decode prog_12_method_10_code 74 = .ok (.if_icmp .ge 113, 3) := zo_162 (d := 0) (e := 113) (zd_b zq_prog_12_method_10_code_2 10 rfl rfl rfl) (zd_b zq_prog_12_method_10_code_2 11 rfl rfl rfl) (zd_b zq_prog_12_method_10_code_2 12 rfl rfl rfl) (by decide +kernel)
theorem d_Tr_feed_187 : decode prog_12_method_10_code 187 = .ok (.return_, 1) := zo_177 (zd_b zq_prog_12_method_10_code_5 27 rfl rfl rfl)
theorem d_Tr_feed_77 : decode prog_12_method_10_code 77 = .ok (.iload_n 3, 1) := zo_29 (zd_b zq_prog_12_method_10_code_2 13 rfl rfl rfl)
theorem d_Tr_feed_78 : decode prog_12_method_10_code 78 = .ok (.bipush 108, 2) := zo_16 (d := 108) (zd_b zq_prog_12_method_10_code_2 14 rfl rfl rfl) (zd_b zq_prog_12_method_10_code_2 15 rfl rfl rfl) (by decide +kernel)
theorem d_Tr_feed_80 : decode prog_12_method_10_code 80 = .ok (.if_icmp .ge 107, 3) := zo_162 (d := 0) (e := 107) (zd_b zq_prog_12_method_10_code_2 16 rfl rfl rfl) (zd_b zq_prog_12_method_10_code_2 17 rfl rfl rfl) (zd_b zq_prog_12_method_10_code_2 18 rfl rfl rfl) (by decide +kernel)
theorem d_Tr_feed_83 : decode prog_12_method_10_code 83 = .ok (.iconst 0, 1) := zo_3 (zd_b zq_prog_12_method_10_code_2 19 rfl rfl rfl)
theorem d_Tr_feed_84 : decode prog_12_method_10_code 84 = .ok (.istore 4, 2) := zo_54 (d := 4) (zd_b zq_prog_12_method_10_code_2 20 rfl rfl rfl) (zd_b zq_prog_12_method_10_code_2 21 rfl rfl rfl)
theorem d_Tr_feed_181 : decode prog_12_method_10_code 181 = .ok (.iinc 3 1, 3) := by decide +kernel
theorem d_Tr_feed_184 : decode prog_12_method_10_code 184 = .ok (.goto (-112), 3) := zo_167 (d := 255) (e := 144) (zd_b zq_prog_12_method_10_code_5 24 rfl rfl rfl) (zd_b zq_prog_12_method_10_code_5 25 rfl rfl rfl) (zd_b zq_prog_12_method_10_code_5 26 rfl rfl rfl) (by decide +kernel)
theorem d_Tr_feed_6 : decode prog_12_method_10_code 6 = .ok (.iload_n 3, 1) := zo_29 (zd_b zq_prog_12_method_10_code_0 6 rfl rfl rfl)
theorem d_Tr_feed_7 : decode prog_12_method_10_code 7 = .ok (.bipush 108, 2) := zo_16 (d := 108) (zd_b zq_prog_12_method_10_code_0 7 rfl rfl rfl) (zd_b zq_prog_12_method_10_code_0 8 rfl rfl rfl) (by decide +kernel)
theorem d_Tr_feed_9 : decode prog_12_method_10_code 9 = .ok (.if_icmp .ge 61, 3) := zo_162 (d := 0) (e := 61) (zd_b zq_prog_12_method_10_code_0 9 rfl rfl rfl) (zd_b zq_prog_12_method_10_code_0 10 rfl rfl rfl) (zd_b zq_prog_12_method_10_code_0 11 rfl rfl rfl) (by decide +kernel)
theorem d_Tr_feed_70 : decode prog_12_method_10_code 70 = .ok (.iconst 0, 1) := zo_3 (zd_b zq_prog_12_method_10_code_2 6 rfl rfl rfl)
theorem d_Tr_feed_71 : decode prog_12_method_10_code 71 = .ok (.istore_n 3, 1) := zo_62 (zd_b zq_prog_12_method_10_code_2 7 rfl rfl rfl)
theorem d_Tr_feed_12 : decode prog_12_method_10_code 12 = .ok (.aload_n 0, 1) := zo_42 (zd_b zq_prog_12_method_10_code_0 12 rfl rfl rfl)
theorem d_Tr_feed_13 : decode prog_12_method_10_code 13 = .ok (.getfield 26, 3) := zo_180 (d := 0) (e := 26) (zd_b zq_prog_12_method_10_code_0 13 rfl rfl rfl) (zd_b zq_prog_12_method_10_code_0 14 rfl rfl rfl) (zd_b zq_prog_12_method_10_code_0 15 rfl rfl rfl)
theorem d_Tr_feed_16 : decode prog_12_method_10_code 16 = .ok (.iload_n 3, 1) := zo_29 (zd_b zq_prog_12_method_10_code_0 16 rfl rfl rfl)
theorem d_Tr_feed_17 : decode prog_12_method_10_code 17 = .ok (.aload_n 0, 1) := zo_42 (zd_b zq_prog_12_method_10_code_0 17 rfl rfl rfl)
theorem d_Tr_feed_18 : decode prog_12_method_10_code 18 = .ok (.getfield 9, 3) := zo_180 (d := 0) (e := 9) (zd_b zq_prog_12_method_10_code_0 18 rfl rfl rfl) (zd_b zq_prog_12_method_10_code_0 19 rfl rfl rfl) (zd_b zq_prog_12_method_10_code_0 20 rfl rfl rfl)
theorem d_Tr_feed_21 : decode prog_12_method_10_code 21 = .ok (.iload_n 3, 1) := zo_29 (zd_b zq_prog_12_method_10_code_0 21 rfl rfl rfl)
theorem d_Tr_feed_22 : decode prog_12_method_10_code 22 = .ok (.caload, 1) := zo_52 (zd_b zq_prog_12_method_10_code_0 22 rfl rfl rfl)
theorem d_Tr_feed_23 : decode prog_12_method_10_code 23 = .ok (.bipush 114, 2) := zo_16 (d := 114) (zd_b zq_prog_12_method_10_code_0 23 rfl rfl rfl) (zd_b zq_prog_12_method_10_code_0 24 rfl rfl rfl) (by decide +kernel)
theorem d_Tr_feed_25 : decode prog_12_method_10_code 25 = .ok (.if_icmp .ne 15, 3) := zo_160 (d := 0) (e := 15) (zd_b zq_prog_12_method_10_code_0 25 rfl rfl rfl) (zd_b zq_prog_12_method_10_code_0 26 rfl rfl rfl) (zd_b zq_prog_12_method_10_code_0 27 rfl rfl rfl) (by decide +kernel)
theorem d_Tr_feed_40 : decode prog_12_method_10_code 40 = .ok (.iconst 0, 1) := zo_3 (zd_b zq_prog_12_method_10_code_1 8 rfl rfl rfl)
theorem d_Tr_feed_41 : decode prog_12_method_10_code 41 = .ok (.bastore, 1) := zo_84 (zd_b zq_prog_12_method_10_code_1 9 rfl rfl rfl)
theorem d_Tr_feed_42 : decode prog_12_method_10_code 42 = .ok (.aload_n 0, 1) := zo_42 (zd_b zq_prog_12_method_10_code_1 10 rfl rfl rfl)
theorem d_Tr_feed_43 : decode prog_12_method_10_code 43 = .ok (.getfield 26, 3) := zo_180 (d := 0) (e := 26) (zd_b zq_prog_12_method_10_code_1 11 rfl rfl rfl) (zd_b zq_prog_12_method_10_code_1 12 rfl rfl rfl) (zd_b zq_prog_12_method_10_code_1 13 rfl rfl rfl)
theorem d_Tr_feed_46 : decode prog_12_method_10_code 46 = .ok (.iload_n 3, 1) := zo_29 (zd_b zq_prog_12_method_10_code_1 14 rfl rfl rfl)
theorem d_Tr_feed_47 : decode prog_12_method_10_code 47 = .ok (.baload, 1) := zo_51 (zd_b zq_prog_12_method_10_code_1 15 rfl rfl rfl)
theorem d_Tr_feed_48 : decode prog_12_method_10_code 48 = .ok (.ifCond .eq 16, 3) := zo_153 (d := 0) (e := 16) (zd_b zq_prog_12_method_10_code_1 16 rfl rfl rfl) (zd_b zq_prog_12_method_10_code_1 17 rfl rfl rfl) (zd_b zq_prog_12_method_10_code_1 18 rfl rfl rfl) (by decide +kernel)
theorem d_Tr_feed_64 : decode prog_12_method_10_code 64 = .ok (.iinc 3 1, 3) := by decide +kernel
theorem d_Tr_feed_67 : decode prog_12_method_10_code 67 = .ok (.goto (-61), 3) := zo_167 (d := 255) (e := 195) (zd_b zq_prog_12_method_10_code_2 3 rfl rfl rfl) (zd_b zq_prog_12_method_10_code_2 4 rfl rfl rfl) (zd_b zq_prog_12_method_10_code_2 5 rfl rfl rfl) (by decide +kernel)
theorem d_Tr_feed_51 : decode prog_12_method_10_code 51 = .ok (.iinc 2 10, 3) := by decide +kernel
theorem d_Tr_feed_54 : decode prog_12_method_10_code 54 = .ok (.aload_n 0, 1) := zo_42 (zd_b zq_prog_12_method_10_code_1 22 rfl rfl rfl)
theorem d_Tr_feed_55 : decode prog_12_method_10_code 55 = .ok (.getfield 33, 3) := zo_180 (d := 0) (e := 33) (zd_b zq_prog_12_method_10_code_1 23 rfl rfl rfl) (zd_b zq_prog_12_method_10_code_1 24 rfl rfl rfl) (zd_b zq_prog_12_method_10_code_1 25 rfl rfl rfl)
theorem d_Tr_feed_58 : decode prog_12_method_10_code 58 = .ok (.iload_n 1, 1) := zo_27 (zd_b zq_prog_12_method_10_code_1 26 rfl rfl rfl)
theorem d_Tr_feed_59 : decode prog_12_method_10_code 59 = .ok (.iload_n 3, 1) := zo_29 (zd_b zq_prog_12_method_10_code_1 27 rfl rfl rfl)
theorem d_Tr_feed_60 : decode prog_12_method_10_code 60 = .ok (.iastore, 1) := zo_79 (zd_b zq_prog_12_method_10_code_1 28 rfl rfl rfl)
theorem d_Tr_feed_61 : decode prog_12_method_10_code 61 = .ok (.iinc 1 1, 3) := by decide +kernel
theorem d_Tr_feed_28 : decode prog_12_method_10_code 28 = .ok (.aload_n 0, 1) := zo_42 (zd_b zq_prog_12_method_10_code_0 28 rfl rfl rfl)
theorem d_Tr_feed_29 : decode prog_12_method_10_code 29 = .ok (.iload_n 3, 1) := zo_29 (zd_b zq_prog_12_method_10_code_0 29 rfl rfl rfl)
theorem d_Tr_feed_30 : decode prog_12_method_10_code 30 = .ok (.invokevirtual 91, 3) := zo_182 (d := 0) (e := 91) (zd_b zq_prog_12_method_10_code_0 30 rfl rfl rfl) (zd_b zq_prog_12_method_10_code_0 31 rfl rfl rfl) (zd_b zq_prog_12_method_10_code_1 0 rfl rfl rfl)
theorem ok_Tr_feed_Tr_isFilled : z_ok M_Tr_feed M_Tr_isFilled 1 := ⟨z_mj3 (i := 25) rfl (by decide +kernel), rfl, ⟨by decide +kernel, by decide +kernel, by decide +kernel⟩, ⟨by decide, by decide⟩, z_mj1 (i := 3) rfl (by decide +kernel), rfl⟩
theorem d_Tr_feed_33 : decode prog_12_method_10_code 33 = .ok (.ifCond .eq 7, 3) := zo_153 (d := 0) (e := 7) (zd_b zq_prog_12_method_10_code_1 1 rfl rfl rfl) (zd_b zq_prog_12_method_10_code_1 2 rfl rfl rfl) (zd_b zq_prog_12_method_10_code_1 3 rfl rfl rfl) (by decide +kernel)
theorem d_Tr_feed_36 : decode prog_12_method_10_code 36 = .ok (.iconst 1, 1) := zo_4 (zd_b zq_prog_12_method_10_code_1 4 rfl rfl rfl)
theorem d_Tr_feed_37 : decode prog_12_method_10_code 37 = .ok (.goto 4, 3) := zo_167 (d := 0) (e := 4) (zd_b zq_prog_12_method_10_code_1 5 rfl rfl rfl) (zd_b zq_prog_12_method_10_code_1 6 rfl rfl rfl) (zd_b zq_prog_12_method_10_code_1 7 rfl rfl rfl) (by decide +kernel)
theorem d_Tr_feed_0 : decode prog_12_method_10_code 0 = .ok (.iconst 0, 1) := zo_3 (zd_b zq_prog_12_method_10_code_0 0 rfl rfl rfl)
theorem d_Tr_feed_1 : decode prog_12_method_10_code 1 = .ok (.istore_n 1, 1) := zo_60 (zd_b zq_prog_12_method_10_code_0 1 rfl rfl rfl)
theorem d_Tr_feed_2 : decode prog_12_method_10_code 2 = .ok (.iconst 0, 1) := zo_3 (zd_b zq_prog_12_method_10_code_0 2 rfl rfl rfl)
theorem d_Tr_feed_3 : decode prog_12_method_10_code 3 = .ok (.istore_n 2, 1) := zo_61 (zd_b zq_prog_12_method_10_code_0 3 rfl rfl rfl)
theorem d_Tr_feed_4 : decode prog_12_method_10_code 4 = .ok (.iconst 0, 1) := zo_3 (zd_b zq_prog_12_method_10_code_0 4 rfl rfl rfl)
theorem d_Tr_feed_5 : decode prog_12_method_10_code 5 = .ok (.istore_n 3, 1) := zo_62 (zd_b zq_prog_12_method_10_code_0 5 rfl rfl rfl)
set_option maxHeartbeats 4000000 in
set_option maxRecDepth 100000 in
theorem L_Tr_feed_86 (g : zG) (a a1 a2 az az1 az2 az3 az4 az5 az6 a4 a5 a6 : Nat) (run fo liq : Int32) (ce fi fr fed seen : Nat → Int32) (qn : Nat → Nat) (w0 : zW) (n : Nat) (h : Nat) (hok : Dok (fdB ce fi fr (fdA ce fi (fed, qn, 0, 0) 108) h) 108) (hn : h < (fdB ce fi fr (fdA ce fi (fed, qn, 0, 0) 108) h).2.2.1) (hh : h < 108) (hhere : ((fdB ce fi fr (fdA ce fi (fed, qn, 0, 0) 108) h).2.1 h) < 108) (K : DV g M_Tr_feed (fun o cs1 => o = .inl none ∧ cs1 = [(a, .inr (10, [.ref a1, .ref a2, .ref az, .ref a4, .ref a5, .ref a6, .int run, .int fo])), (a1, .inl (1, 108, .inl ce)), (a2, .inl (0, 108, .inl fi)), (az, .inr (2, [.ref az1, .ref az2, .ref az3, .ref az4, .ref az5, .ref az6, .int liq])), (az4, .inl (0, 108, .inl fr)), (a4, .inl (2, 108, .inl ((fdB ce fi fr (fdA ce fi (fed, qn, 0, 0) 108) 108).1))), (a5, .inl (2, 108, .inl seen)), (a6, .inl (0, 108, .inl (fun k => nI ((fdB ce fi fr (fdA ce fi (fed, qn, 0, 0) 108) 108).2.1 k))))]) w0 n 181 [(3, .int (nI h)), (1, .int (nI (fdH ce fi fr ((fdB ce fi fr (fdA ce fi (fed, qn, 0, 0) 108) h).2.1 h) (fdB ce fi fr (fdA ce fi (fed, qn, 0, 0) 108) h) 4).2.2.1)), (2, .int ((fdH ce fi fr ((fdB ce fi fr (fdA ce fi (fed, qn, 0, 0) 108) h).2.1 h) (fdB ce fi fr (fdA ce fi (fed, qn, 0, 0) 108) h) 4).2.2.2)), (0, .ref a)] [] [(a, .inr (10, [.ref a1, .ref a2, .ref az, .ref a4, .ref a5, .ref a6, .int run, .int fo])), (a1, .inl (1, 108, .inl ce)), (a2, .inl (0, 108, .inl fi)), (az, .inr (2, [.ref az1, .ref az2, .ref az3, .ref az4, .ref az5, .ref az6, .int liq])), (az4, .inl (0, 108, .inl fr)), (a4, .inl (2, 108, .inl ((fdH ce fi fr ((fdB ce fi fr (fdA ce fi (fed, qn, 0, 0) 108) h).2.1 h) (fdB ce fi fr (fdA ce fi (fed, qn, 0, 0) 108) h) 4).1))), (a5, .inl (2, 108, .inl seen)), (a6, .inl (0, 108, .inl (fun k => nI ((fdH ce fi fr ((fdB ce fi fr (fdA ce fi (fed, qn, 0, 0) 108) h).2.1 h) (fdB ce fi fr (fdA ce fi (fed, qn, 0, 0) 108) h) 4).2.1 k))))] 0 0) : ∀ (d i : Nat), i ≤ 4 → 4 < i + d → DV g M_Tr_feed (fun o cs1 => o = .inl none ∧ cs1 = [(a, .inr (10, [.ref a1, .ref a2, .ref az, .ref a4, .ref a5, .ref a6, .int run, .int fo])), (a1, .inl (1, 108, .inl ce)), (a2, .inl (0, 108, .inl fi)), (az, .inr (2, [.ref az1, .ref az2, .ref az3, .ref az4, .ref az5, .ref az6, .int liq])), (az4, .inl (0, 108, .inl fr)), (a4, .inl (2, 108, .inl ((fdB ce fi fr (fdA ce fi (fed, qn, 0, 0) 108) 108).1))), (a5, .inl (2, 108, .inl seen)), (a6, .inl (0, 108, .inl (fun k => nI ((fdB ce fi fr (fdA ce fi (fed, qn, 0, 0) 108) 108).2.1 k))))]) w0 n 86 [(4, .int (nI i)), (3, .int (nI h)), (1, .int (nI (fdH ce fi fr ((fdB ce fi fr (fdA ce fi (fed, qn, 0, 0) 108) h).2.1 h) (fdB ce fi fr (fdA ce fi (fed, qn, 0, 0) 108) h) i).2.2.1)), (2, .int ((fdH ce fi fr ((fdB ce fi fr (fdA ce fi (fed, qn, 0, 0) 108) h).2.1 h) (fdB ce fi fr (fdA ce fi (fed, qn, 0, 0) 108) h) i).2.2.2)), (0, .ref a)] [] [(a, .inr (10, [.ref a1, .ref a2, .ref az, .ref a4, .ref a5, .ref a6, .int run, .int fo])), (a1, .inl (1, 108, .inl ce)), (a2, .inl (0, 108, .inl fi)), (az, .inr (2, [.ref az1, .ref az2, .ref az3, .ref az4, .ref az5, .ref az6, .int liq])), (az4, .inl (0, 108, .inl fr)), (a4, .inl (2, 108, .inl ((fdH ce fi fr ((fdB ce fi fr (fdA ce fi (fed, qn, 0, 0) 108) h).2.1 h) (fdB ce fi fr (fdA ce fi (fed, qn, 0, 0) 108) h) i).1))), (a5, .inl (2, 108, .inl seen)), (a6, .inl (0, 108, .inl (fun k => nI ((fdH ce fi fr ((fdB ce fi fr (fdA ce fi (fed, qn, 0, 0) 108) h).2.1 h) (fdB ce fi fr (fdA ce fi (fed, qn, 0, 0) 108) h) i).2.1 k))))] 0 0 := by
  intro d
  induction d with
  | zero => intro i h1 h2 ; exact absurd h2 (by omega)
  | succ d ih =>
    intro i h1 h2 
    refine r_iload d_Tr_feed_86 0 rfl ?_
    refine r_iconst d_Tr_feed_88 (v := 4) (by decide) ?_
    refine r_icmp_ge (tgt := 181) d_Tr_feed_89 (by decide) (fun c_89 => ?_) (fun c_89 => ?_)
    · have hi4 := z_le (a := 4) (by omega) (by decide) c_89
      obtain rfl : i = 4 := by omega
      refine r_lv (lv' := [(3, .int (nI h)), (1, .int (nI (fdH ce fi fr ((fdB ce fi fr (fdA ce fi (fed, qn, 0, 0) 108) h).2.1 h) (fdB ce fi fr (fdA ce fi (fed, qn, 0, 0) 108) h) 4).2.2.1)), (2, .int ((fdH ce fi fr ((fdB ce fi fr (fdA ce fi (fed, qn, 0, 0) 108) h).2.1 h) (fdB ce fi fr (fdA ce fi (fed, qn, 0, 0) 108) h) 4).2.2.2)), (0, .ref a)]) [1, 2, 3, 4] rfl ?_
      exact K
    · have hi4 := z_nle (a := 4) (by omega) (by decide) c_89
      have hok2 := fdH_ok (ce := ce) (fi := fi) (fr := fr) hhere hok i
      have hqq := fdH_q (ce := ce) (fi := fi) (fr := fr) (here := ((fdB ce fi fr (fdA ce fi (fed, qn, 0, 0) 108) h).2.1 h)) hn i
      have hq2 := hok2.1
      refine r_aload_n d_Tr_feed_92 rfl 4 rfl ?_
      refine r_get fs_Tr_33 d_Tr_feed_93 (q0 := 0) rfl rfl ?_
      refine r_iload_n d_Tr_feed_96 rfl 1 rfl ?_
      refine r_iald d_Tr_feed_97 (q0 := 7) rfl (vp_in_nI (by omega) (by omega)) (v := nI ((fdB ce fi fr (fdA ce fi (fed, qn, 0, 0) 108) h).2.1 h)) (by rw [nI_clamp (by omega)]; exact congrArg nI hqq.1) ?_
      refine r_iload d_Tr_feed_98 0 rfl ?_
      refine r_callSN (As := [.int (nI ((fdB ce fi fr (fdA ce fi (fed, qn, 0, 0) 108) h).2.1 h)), .int (nI i)]) (rest := []) (csC := []) (is := []) ln_Tr_72 w_st_Ip_beside ok_Tr_feed_Ip_beside d_Tr_feed_100 (C_Ip_beside g ((fdB ce fi fr (fdA ce fi (fed, qn, 0, 0) 108) h).2.1 h) i hhere (by omega)) rfl rfl (Nat.le_of_ble_eq_true rfl) rfl (by decide) (by omega) (by omega) (fun E cs1 hx => ?_) (fun v cs1 hx => ?_)
      · exact absurd hx.1 (by simp)
      · obtain ⟨e1, rfl⟩ := hx
        cases e1
        refine ⟨rfl, ?_⟩
        refine r_st (st2 := [.int (oI (bs ((fdB ce fi fr (fdA ce fi (fed, qn, 0, 0) 108) h).2.1 h) i))]) rfl ?_
        refine r_cs (cs2 := [(a, .inr (10, [.ref a1, .ref a2, .ref az, .ref a4, .ref a5, .ref a6, .int run, .int fo])), (a1, .inl (1, 108, .inl ce)), (a2, .inl (0, 108, .inl fi)), (az, .inr (2, [.ref az1, .ref az2, .ref az3, .ref az4, .ref az5, .ref az6, .int liq])), (az4, .inl (0, 108, .inl fr)), (a4, .inl (2, 108, .inl ((fdH ce fi fr ((fdB ce fi fr (fdA ce fi (fed, qn, 0, 0) 108) h).2.1 h) (fdB ce fi fr (fdA ce fi (fed, qn, 0, 0) 108) h) i).1))), (a5, .inl (2, 108, .inl seen)), (a6, .inl (0, 108, .inl (fun k => nI ((fdH ce fi fr ((fdB ce fi fr (fdA ce fi (fed, qn, 0, 0) 108) h).2.1 h) (fdB ce fi fr (fdA ce fi (fed, qn, 0, 0) 108) h) i).2.1 k))))]) rfl ?_
        refine r_istore (lv' := [(5, .int (oI (bs ((fdB ce fi fr (fdA ce fi (fed, qn, 0, 0) 108) h).2.1 h) i))), (4, .int (nI i)), (3, .int (nI h)), (1, .int (nI (fdH ce fi fr ((fdB ce fi fr (fdA ce fi (fed, qn, 0, 0) 108) h).2.1 h) (fdB ce fi fr (fdA ce fi (fed, qn, 0, 0) 108) h) i).2.2.1)), (2, .int ((fdH ce fi fr ((fdB ce fi fr (fdA ce fi (fed, qn, 0, 0) 108) h).2.1 h) (fdB ce fi fr (fdA ce fi (fed, qn, 0, 0) 108) h) i).2.2.2)), (0, .ref a)]) d_Tr_feed_103 (by decide) rfl ?_
        refine r_iload d_Tr_feed_105 0 rfl ?_
        refine r_if_lt (tgt := 175) d_Tr_feed_107 (by decide) (fun c_107 => ?_) (fun c_107 => ?_)
        · have ho : bs ((fdB ce fi fr (fdA ce fi (fed, qn, 0, 0) 108) h).2.1 h) i = none := oI_neg hhere (Int32.not_le.mpr c_107)
          have hk := fdI_n (ce := ce) (fi := fi) (fr := fr) (S := (fdH ce fi fr ((fdB ce fi fr (fdA ce fi (fed, qn, 0, 0) 108) h).2.1 h) (fdB ce fi fr (fdA ce fi (fed, qn, 0, 0) 108) h) i)) ho
          refine r_iinc (lv' := [(4, .int (nI (i + 1))), (5, .int (oI (bs ((fdB ce fi fr (fdA ce fi (fed, qn, 0, 0) 108) h).2.1 h) i))), (3, .int (nI h)), (1, .int (nI (fdH ce fi fr ((fdB ce fi fr (fdA ce fi (fed, qn, 0, 0) 108) h).2.1 h) (fdB ce fi fr (fdA ce fi (fed, qn, 0, 0) 108) h) i).2.2.1)), (2, .int ((fdH ce fi fr ((fdB ce fi fr (fdA ce fi (fed, qn, 0, 0) 108) h).2.1 h) (fdB ce fi fr (fdA ce fi (fed, qn, 0, 0) 108) h) i).2.2.2)), (0, .ref a)]) (v := nI (i + 1)) d_Tr_feed_175 (j := 1) rfl (nI_add _ _) (by decide) rfl ?_
          refine r_goto (tgt := 86) d_Tr_feed_178 (by decide) ?_
          refine r_lv (lv' := [(4, .int (nI (i + 1))), (3, .int (nI h)), (1, .int (nI (fdH ce fi fr ((fdB ce fi fr (fdA ce fi (fed, qn, 0, 0) 108) h).2.1 h) (fdB ce fi fr (fdA ce fi (fed, qn, 0, 0) 108) h) i).2.2.1)), (2, .int ((fdH ce fi fr ((fdB ce fi fr (fdA ce fi (fed, qn, 0, 0) 108) h).2.1 h) (fdB ce fi fr (fdA ce fi (fed, qn, 0, 0) 108) h) i).2.2.2)), (0, .ref a)]) [0, 2, 3, 4, 5] rfl ?_
          refine r_lvE (lv2 := [(4, .int (nI (i + 1))), (3, .int (nI h)), (1, .int (nI (fdH ce fi fr ((fdB ce fi fr (fdA ce fi (fed, qn, 0, 0) 108) h).2.1 h) (fdB ce fi fr (fdA ce fi (fed, qn, 0, 0) 108) h) (i + 1)).2.2.1)), (2, .int ((fdH ce fi fr ((fdB ce fi fr (fdA ce fi (fed, qn, 0, 0) 108) h).2.1 h) (fdB ce fi fr (fdA ce fi (fed, qn, 0, 0) 108) h) (i + 1)).2.2.2)), (0, .ref a)]) (by rw [show (fdH ce fi fr ((fdB ce fi fr (fdA ce fi (fed, qn, 0, 0) 108) h).2.1 h) (fdB ce fi fr (fdA ce fi (fed, qn, 0, 0) 108) h) (i + 1)) = fdI ce fi fr ((fdB ce fi fr (fdA ce fi (fed, qn, 0, 0) 108) h).2.1 h) i (fdH ce fi fr ((fdB ce fi fr (fdA ce fi (fed, qn, 0, 0) 108) h).2.1 h) (fdB ce fi fr (fdA ce fi (fed, qn, 0, 0) 108) h) i) from rfl, hk] <;> rfl) ?_
          refine r_cs (cs2 := [(a, .inr (10, [.ref a1, .ref a2, .ref az, .ref a4, .ref a5, .ref a6, .int run, .int fo])), (a1, .inl (1, 108, .inl ce)), (a2, .inl (0, 108, .inl fi)), (az, .inr (2, [.ref az1, .ref az2, .ref az3, .ref az4, .ref az5, .ref az6, .int liq])), (az4, .inl (0, 108, .inl fr)), (a4, .inl (2, 108, .inl ((fdH ce fi fr ((fdB ce fi fr (fdA ce fi (fed, qn, 0, 0) 108) h).2.1 h) (fdB ce fi fr (fdA ce fi (fed, qn, 0, 0) 108) h) (i + 1)).1))), (a5, .inl (2, 108, .inl seen)), (a6, .inl (0, 108, .inl (fun k => nI ((fdH ce fi fr ((fdB ce fi fr (fdA ce fi (fed, qn, 0, 0) 108) h).2.1 h) (fdB ce fi fr (fdA ce fi (fed, qn, 0, 0) 108) h) (i + 1)).2.1 k))))]) (by rw [show (fdH ce fi fr ((fdB ce fi fr (fdA ce fi (fed, qn, 0, 0) 108) h).2.1 h) (fdB ce fi fr (fdA ce fi (fed, qn, 0, 0) 108) h) (i + 1)) = fdI ce fi fr ((fdB ce fi fr (fdA ce fi (fed, qn, 0, 0) 108) h).2.1 h) i (fdH ce fi fr ((fdB ce fi fr (fdA ce fi (fed, qn, 0, 0) 108) h).2.1 h) (fdB ce fi fr (fdA ce fi (fed, qn, 0, 0) 108) h) i) from rfl, hk] <;> rfl) ?_
          exact ih (i + 1) (by omega) (by omega)
        · obtain ⟨o, ho⟩ := oI_pos (Int32.not_lt.mp c_107)
          have hol := bs_lt hhere ho
          rw [ho, show oI (some o) = nI o from rfl]
          have hk0 := fdI_s (ce := ce) (fi := fi) (fr := fr) (S := (fdH ce fi fr ((fdB ce fi fr (fdA ce fi (fed, qn, 0, 0) 108) h).2.1 h) (fdB ce fi fr (fdA ce fi (fed, qn, 0, 0) 108) h) i)) ho
          refine r_aload_n d_Tr_feed_110 rfl 5 rfl ?_
          refine r_aload_n d_Tr_feed_111 rfl 5 rfl ?_
          refine r_get fs_Tr_33 d_Tr_feed_112 (q0 := 0) rfl rfl ?_
          refine r_iload_n d_Tr_feed_115 rfl 2 rfl ?_
          refine r_iald d_Tr_feed_116 (q0 := 7) rfl (vp_in_nI (by omega) (by omega)) (v := nI ((fdB ce fi fr (fdA ce fi (fed, qn, 0, 0) 108) h).2.1 h)) (by rw [nI_clamp (by omega)]; exact congrArg nI hqq.1) ?_
          refine r_iload d_Tr_feed_117 0 rfl ?_
          refine r_callV (As := [.int (nI ((fdB ce fi fr (fdA ce fi (fed, qn, 0, 0) 108) h).2.1 h)), .int (nI o)]) (rest := []) (csC := [(a, .inr (10, [.ref a1, .ref a2, .ref az, .ref a4, .ref a5, .ref a6, .int run, .int fo])), (a1, .inl (1, 108, .inl ce)), (a2, .inl (0, 108, .inl fi)), (az, .inr (2, [.ref az1, .ref az2, .ref az3, .ref az4, .ref az5, .ref az6, .int liq])), (az4, .inl (0, 108, .inl fr)), (a4, .inl (2, 108, .inl ((fdH ce fi fr ((fdB ce fi fr (fdA ce fi (fed, qn, 0, 0) 108) h).2.1 h) (fdB ce fi fr (fdA ce fi (fed, qn, 0, 0) 108) h) i).1))), (a5, .inl (2, 108, .inl seen)), (a6, .inl (0, 108, .inl (fun k => nI ((fdH ce fi fr ((fdB ce fi fr (fdA ce fi (fed, qn, 0, 0) 108) h).2.1 h) (fdB ce fi fr (fdA ce fi (fed, qn, 0, 0) 108) h) i).2.1 k))))]) (is := [0, 1, 2, 3, 4, 5, 6, 7]) (q0 := 0) rfl rfl ln_Tr_95 w_im_Tr_canFeed w_se_Tr_canFeed ok_Tr_feed_Tr_canFeed d_Tr_feed_119 (C_Tr_canFeed g a a1 a2 az az1 az2 az3 az4 az5 az6 a4 a5 a6 run fo liq ce fi fr (fdH ce fi fr ((fdB ce fi fr (fdA ce fi (fed, qn, 0, 0) 108) h).2.1 h) (fdB ce fi fr (fdA ce fi (fed, qn, 0, 0) 108) h) i).1 seen (fdH ce fi fr ((fdB ce fi fr (fdA ce fi (fed, qn, 0, 0) 108) h).2.1 h) (fdB ce fi fr (fdA ce fi (fed, qn, 0, 0) 108) h) i).2.1 ((fdB ce fi fr (fdA ce fi (fed, qn, 0, 0) 108) h).2.1 h) o hhere hol) rfl rfl (Nat.le_of_ble_eq_true rfl) rfl (by decide) (by omega) (by omega) (fun E cs1 hx => ?_) (fun v cs1 hx => ?_)
          · exact absurd hx.1 (by simp)
          · obtain ⟨e1, rfl⟩ := hx
            cases e1
            refine ⟨rfl, ?_⟩
            refine r_st (st2 := [.int (z_bi (cfB (fdH ce fi fr ((fdB ce fi fr (fdA ce fi (fed, qn, 0, 0) 108) h).2.1 h) (fdB ce fi fr (fdA ce fi (fed, qn, 0, 0) 108) h) i).1 fi fr ((fdB ce fi fr (fdA ce fi (fed, qn, 0, 0) 108) h).2.1 h) o))]) rfl ?_
            refine r_cs (cs2 := [(a, .inr (10, [.ref a1, .ref a2, .ref az, .ref a4, .ref a5, .ref a6, .int run, .int fo])), (a1, .inl (1, 108, .inl ce)), (a2, .inl (0, 108, .inl fi)), (az, .inr (2, [.ref az1, .ref az2, .ref az3, .ref az4, .ref az5, .ref az6, .int liq])), (az4, .inl (0, 108, .inl fr)), (a4, .inl (2, 108, .inl ((fdH ce fi fr ((fdB ce fi fr (fdA ce fi (fed, qn, 0, 0) 108) h).2.1 h) (fdB ce fi fr (fdA ce fi (fed, qn, 0, 0) 108) h) i).1))), (a5, .inl (2, 108, .inl seen)), (a6, .inl (0, 108, .inl (fun k => nI ((fdH ce fi fr ((fdB ce fi fr (fdA ce fi (fed, qn, 0, 0) 108) h).2.1 h) (fdB ce fi fr (fdA ce fi (fed, qn, 0, 0) 108) h) i).2.1 k))))]) rfl ?_
            refine r_if_eq (tgt := 175) d_Tr_feed_122 (by decide) (fun c_122 => ?_) (fun c_122 => ?_)
            · have hk := hk0.trans (fdJ_0 (fun q => by have := z_bi0 c_122; rw [q.1] at this; cases this))
              refine r_iinc (lv' := [(4, .int (nI (i + 1))), (5, .int (nI o)), (3, .int (nI h)), (1, .int (nI (fdH ce fi fr ((fdB ce fi fr (fdA ce fi (fed, qn, 0, 0) 108) h).2.1 h) (fdB ce fi fr (fdA ce fi (fed, qn, 0, 0) 108) h) i).2.2.1)), (2, .int ((fdH ce fi fr ((fdB ce fi fr (fdA ce fi (fed, qn, 0, 0) 108) h).2.1 h) (fdB ce fi fr (fdA ce fi (fed, qn, 0, 0) 108) h) i).2.2.2)), (0, .ref a)]) (v := nI (i + 1)) d_Tr_feed_175 (j := 1) rfl (nI_add _ _) (by decide) rfl ?_
              refine r_goto (tgt := 86) d_Tr_feed_178 (by decide) ?_
              refine r_lv (lv' := [(4, .int (nI (i + 1))), (3, .int (nI h)), (1, .int (nI (fdH ce fi fr ((fdB ce fi fr (fdA ce fi (fed, qn, 0, 0) 108) h).2.1 h) (fdB ce fi fr (fdA ce fi (fed, qn, 0, 0) 108) h) i).2.2.1)), (2, .int ((fdH ce fi fr ((fdB ce fi fr (fdA ce fi (fed, qn, 0, 0) 108) h).2.1 h) (fdB ce fi fr (fdA ce fi (fed, qn, 0, 0) 108) h) i).2.2.2)), (0, .ref a)]) [0, 2, 3, 4, 5] rfl ?_
              refine r_lvE (lv2 := [(4, .int (nI (i + 1))), (3, .int (nI h)), (1, .int (nI (fdH ce fi fr ((fdB ce fi fr (fdA ce fi (fed, qn, 0, 0) 108) h).2.1 h) (fdB ce fi fr (fdA ce fi (fed, qn, 0, 0) 108) h) (i + 1)).2.2.1)), (2, .int ((fdH ce fi fr ((fdB ce fi fr (fdA ce fi (fed, qn, 0, 0) 108) h).2.1 h) (fdB ce fi fr (fdA ce fi (fed, qn, 0, 0) 108) h) (i + 1)).2.2.2)), (0, .ref a)]) (by rw [show (fdH ce fi fr ((fdB ce fi fr (fdA ce fi (fed, qn, 0, 0) 108) h).2.1 h) (fdB ce fi fr (fdA ce fi (fed, qn, 0, 0) 108) h) (i + 1)) = fdI ce fi fr ((fdB ce fi fr (fdA ce fi (fed, qn, 0, 0) 108) h).2.1 h) i (fdH ce fi fr ((fdB ce fi fr (fdA ce fi (fed, qn, 0, 0) 108) h).2.1 h) (fdB ce fi fr (fdA ce fi (fed, qn, 0, 0) 108) h) i) from rfl, hk] <;> rfl) ?_
              refine r_cs (cs2 := [(a, .inr (10, [.ref a1, .ref a2, .ref az, .ref a4, .ref a5, .ref a6, .int run, .int fo])), (a1, .inl (1, 108, .inl ce)), (a2, .inl (0, 108, .inl fi)), (az, .inr (2, [.ref az1, .ref az2, .ref az3, .ref az4, .ref az5, .ref az6, .int liq])), (az4, .inl (0, 108, .inl fr)), (a4, .inl (2, 108, .inl ((fdH ce fi fr ((fdB ce fi fr (fdA ce fi (fed, qn, 0, 0) 108) h).2.1 h) (fdB ce fi fr (fdA ce fi (fed, qn, 0, 0) 108) h) (i + 1)).1))), (a5, .inl (2, 108, .inl seen)), (a6, .inl (0, 108, .inl (fun k => nI ((fdH ce fi fr ((fdB ce fi fr (fdA ce fi (fed, qn, 0, 0) 108) h).2.1 h) (fdB ce fi fr (fdA ce fi (fed, qn, 0, 0) 108) h) (i + 1)).2.1 k))))]) (by rw [show (fdH ce fi fr ((fdB ce fi fr (fdA ce fi (fed, qn, 0, 0) 108) h).2.1 h) (fdB ce fi fr (fdA ce fi (fed, qn, 0, 0) 108) h) (i + 1)) = fdI ce fi fr ((fdB ce fi fr (fdA ce fi (fed, qn, 0, 0) 108) h).2.1 h) i (fdH ce fi fr ((fdB ce fi fr (fdA ce fi (fed, qn, 0, 0) 108) h).2.1 h) (fdB ce fi fr (fdA ce fi (fed, qn, 0, 0) 108) h) i) from rfl, hk] <;> rfl) ?_
              exact ih (i + 1) (by omega) (by omega)
            · refine r_iload_n d_Tr_feed_125 rfl 3 rfl ?_
              refine r_bipush d_Tr_feed_126 (v := 108) (by decide) ?_
              refine r_icmp_lt (tgt := 134) d_Tr_feed_128 (by decide) (fun c_128 => ?_) (fun c_128 => ?_)
              · have htl := z_lt (b := 108) (by decide) (by omega) c_128
                have hcf : cfB (fdH ce fi fr ((fdB ce fi fr (fdA ce fi (fed, qn, 0, 0) 108) h).2.1 h) (fdB ce fi fr (fdA ce fi (fed, qn, 0, 0) 108) h) i).1 fi fr ((fdB ce fi fr (fdA ce fi (fed, qn, 0, 0) 108) h).2.1 h) o = true ∧ (fdH ce fi fr ((fdB ce fi fr (fdA ce fi (fed, qn, 0, 0) 108) h).2.1 h) (fdB ce fi fr (fdA ce fi (fed, qn, 0, 0) 108) h) i).2.2.1 < 108 := ⟨z_bi1 c_122, htl⟩
                refine r_aload_n d_Tr_feed_134 rfl 5 rfl ?_
                refine r_get fs_Tr_9 d_Tr_feed_135 (q0 := 0) rfl rfl ?_
                refine r_iload d_Tr_feed_138 0 rfl ?_
                refine r_cald d_Tr_feed_140 (q0 := 1) rfl (vp_in_nI (by omega) (by omega)) (v := ce o) (by rw [nI_clamp (by omega)]) ?_
                refine r_bipush d_Tr_feed_141 (v := 99) (by decide) ?_
                refine r_icmp_ne (tgt := 156) d_Tr_feed_143 (by decide) (fun c_143 => ?_) (fun c_143 => ?_)
                · have hk := hk0.trans (fdJ_3 hcf c_143)
                  refine r_aload_n d_Tr_feed_156 rfl 5 rfl ?_
                  refine r_get fs_Tr_26 d_Tr_feed_157 (q0 := 0) rfl rfl ?_
                  refine r_iload d_Tr_feed_160 0 rfl ?_
                  refine r_iconst d_Tr_feed_162 (v := 1) (by decide) ?_
                  refine r_zast d_Tr_feed_163 (q0 := 5) rfl (vp_in_nI (by omega) (by omega)) (f' := upd (fdH ce fi fr ((fdB ce fi fr (fdA ce fi (fed, qn, 0, 0) 108) h).2.1 h) (fdB ce fi fr (fdA ce fi (fed, qn, 0, 0) 108) h) i).1 o 1) (by rw [nI_clamp (by omega)] <;> rfl) (cs' := [(a, .inr (10, [.ref a1, .ref a2, .ref az, .ref a4, .ref a5, .ref a6, .int run, .int fo])), (a1, .inl (1, 108, .inl ce)), (a2, .inl (0, 108, .inl fi)), (az, .inr (2, [.ref az1, .ref az2, .ref az3, .ref az4, .ref az5, .ref az6, .int liq])), (az4, .inl (0, 108, .inl fr)), (a4, .inl (2, 108, .inl (upd (fdH ce fi fr ((fdB ce fi fr (fdA ce fi (fed, qn, 0, 0) 108) h).2.1 h) (fdB ce fi fr (fdA ce fi (fed, qn, 0, 0) 108) h) i).1 o 1))), (a5, .inl (2, 108, .inl seen)), (a6, .inl (0, 108, .inl (fun k => nI ((fdH ce fi fr ((fdB ce fi fr (fdA ce fi (fed, qn, 0, 0) 108) h).2.1 h) (fdB ce fi fr (fdA ce fi (fed, qn, 0, 0) 108) h) i).2.1 k))))]) rfl ?_
                  refine r_aload_n d_Tr_feed_164 rfl 5 rfl ?_
                  refine r_get fs_Tr_33 d_Tr_feed_165 (q0 := 0) rfl rfl ?_
                  refine r_iload_n d_Tr_feed_168 rfl 3 rfl ?_
                  refine r_iload d_Tr_feed_169 0 rfl ?_
                  refine r_iast d_Tr_feed_171 (q0 := 7) rfl (vp_in_nI (by omega) (by omega)) (f' := fun k => nI (updN (fdH ce fi fr ((fdB ce fi fr (fdA ce fi (fed, qn, 0, 0) 108) h).2.1 h) (fdB ce fi fr (fdA ce fi (fed, qn, 0, 0) 108) h) i).2.1 (fdH ce fi fr ((fdB ce fi fr (fdA ce fi (fed, qn, 0, 0) 108) h).2.1 h) (fdB ce fi fr (fdA ce fi (fed, qn, 0, 0) 108) h) i).2.2.1 o k)) (by rw [nI_clamp (by omega)]; exact upd_qn) (cs' := [(a, .inr (10, [.ref a1, .ref a2, .ref az, .ref a4, .ref a5, .ref a6, .int run, .int fo])), (a1, .inl (1, 108, .inl ce)), (a2, .inl (0, 108, .inl fi)), (az, .inr (2, [.ref az1, .ref az2, .ref az3, .ref az4, .ref az5, .ref az6, .int liq])), (az4, .inl (0, 108, .inl fr)), (a4, .inl (2, 108, .inl (upd (fdH ce fi fr ((fdB ce fi fr (fdA ce fi (fed, qn, 0, 0) 108) h).2.1 h) (fdB ce fi fr (fdA ce fi (fed, qn, 0, 0) 108) h) i).1 o 1))), (a5, .inl (2, 108, .inl seen)), (a6, .inl (0, 108, .inl (fun k => nI (updN (fdH ce fi fr ((fdB ce fi fr (fdA ce fi (fed, qn, 0, 0) 108) h).2.1 h) (fdB ce fi fr (fdA ce fi (fed, qn, 0, 0) 108) h) i).2.1 (fdH ce fi fr ((fdB ce fi fr (fdA ce fi (fed, qn, 0, 0) 108) h).2.1 h) (fdB ce fi fr (fdA ce fi (fed, qn, 0, 0) 108) h) i).2.2.1 o k))))]) rfl ?_
                  refine r_iinc (lv' := [(1, .int (nI ((fdH ce fi fr ((fdB ce fi fr (fdA ce fi (fed, qn, 0, 0) 108) h).2.1 h) (fdB ce fi fr (fdA ce fi (fed, qn, 0, 0) 108) h) i).2.2.1 + 1))), (5, .int (nI o)), (4, .int (nI i)), (3, .int (nI h)), (2, .int ((fdH ce fi fr ((fdB ce fi fr (fdA ce fi (fed, qn, 0, 0) 108) h).2.1 h) (fdB ce fi fr (fdA ce fi (fed, qn, 0, 0) 108) h) i).2.2.2)), (0, .ref a)]) (v := nI ((fdH ce fi fr ((fdB ce fi fr (fdA ce fi (fed, qn, 0, 0) 108) h).2.1 h) (fdB ce fi fr (fdA ce fi (fed, qn, 0, 0) 108) h) i).2.2.1 + 1)) d_Tr_feed_172 (j := 3) rfl (nI_add _ _) (by decide) rfl ?_
                  refine r_iinc (lv' := [(4, .int (nI (i + 1))), (1, .int (nI ((fdH ce fi fr ((fdB ce fi fr (fdA ce fi (fed, qn, 0, 0) 108) h).2.1 h) (fdB ce fi fr (fdA ce fi (fed, qn, 0, 0) 108) h) i).2.2.1 + 1))), (5, .int (nI o)), (3, .int (nI h)), (2, .int ((fdH ce fi fr ((fdB ce fi fr (fdA ce fi (fed, qn, 0, 0) 108) h).2.1 h) (fdB ce fi fr (fdA ce fi (fed, qn, 0, 0) 108) h) i).2.2.2)), (0, .ref a)]) (v := nI (i + 1)) d_Tr_feed_175 (j := 2) rfl (nI_add _ _) (by decide) rfl ?_
                  refine r_goto (tgt := 86) d_Tr_feed_178 (by decide) ?_
                  refine r_lv (lv' := [(4, .int (nI (i + 1))), (3, .int (nI h)), (1, .int (nI ((fdH ce fi fr ((fdB ce fi fr (fdA ce fi (fed, qn, 0, 0) 108) h).2.1 h) (fdB ce fi fr (fdA ce fi (fed, qn, 0, 0) 108) h) i).2.2.1 + 1))), (2, .int ((fdH ce fi fr ((fdB ce fi fr (fdA ce fi (fed, qn, 0, 0) 108) h).2.1 h) (fdB ce fi fr (fdA ce fi (fed, qn, 0, 0) 108) h) i).2.2.2)), (0, .ref a)]) [0, 3, 1, 4, 5] rfl ?_
                  refine r_lvE (lv2 := [(4, .int (nI (i + 1))), (3, .int (nI h)), (1, .int (nI (fdH ce fi fr ((fdB ce fi fr (fdA ce fi (fed, qn, 0, 0) 108) h).2.1 h) (fdB ce fi fr (fdA ce fi (fed, qn, 0, 0) 108) h) (i + 1)).2.2.1)), (2, .int ((fdH ce fi fr ((fdB ce fi fr (fdA ce fi (fed, qn, 0, 0) 108) h).2.1 h) (fdB ce fi fr (fdA ce fi (fed, qn, 0, 0) 108) h) (i + 1)).2.2.2)), (0, .ref a)]) (by rw [show (fdH ce fi fr ((fdB ce fi fr (fdA ce fi (fed, qn, 0, 0) 108) h).2.1 h) (fdB ce fi fr (fdA ce fi (fed, qn, 0, 0) 108) h) (i + 1)) = fdI ce fi fr ((fdB ce fi fr (fdA ce fi (fed, qn, 0, 0) 108) h).2.1 h) i (fdH ce fi fr ((fdB ce fi fr (fdA ce fi (fed, qn, 0, 0) 108) h).2.1 h) (fdB ce fi fr (fdA ce fi (fed, qn, 0, 0) 108) h) i) from rfl, hk] <;> rfl) ?_
                  refine r_cs (cs2 := [(a, .inr (10, [.ref a1, .ref a2, .ref az, .ref a4, .ref a5, .ref a6, .int run, .int fo])), (a1, .inl (1, 108, .inl ce)), (a2, .inl (0, 108, .inl fi)), (az, .inr (2, [.ref az1, .ref az2, .ref az3, .ref az4, .ref az5, .ref az6, .int liq])), (az4, .inl (0, 108, .inl fr)), (a4, .inl (2, 108, .inl ((fdH ce fi fr ((fdB ce fi fr (fdA ce fi (fed, qn, 0, 0) 108) h).2.1 h) (fdB ce fi fr (fdA ce fi (fed, qn, 0, 0) 108) h) (i + 1)).1))), (a5, .inl (2, 108, .inl seen)), (a6, .inl (0, 108, .inl (fun k => nI ((fdH ce fi fr ((fdB ce fi fr (fdA ce fi (fed, qn, 0, 0) 108) h).2.1 h) (fdB ce fi fr (fdA ce fi (fed, qn, 0, 0) 108) h) (i + 1)).2.1 k))))]) (by rw [show (fdH ce fi fr ((fdB ce fi fr (fdA ce fi (fed, qn, 0, 0) 108) h).2.1 h) (fdB ce fi fr (fdA ce fi (fed, qn, 0, 0) 108) h) (i + 1)) = fdI ce fi fr ((fdB ce fi fr (fdA ce fi (fed, qn, 0, 0) 108) h).2.1 h) i (fdH ce fi fr ((fdB ce fi fr (fdA ce fi (fed, qn, 0, 0) 108) h).2.1 h) (fdB ce fi fr (fdA ce fi (fed, qn, 0, 0) 108) h) i) from rfl, hk] <;> rfl) ?_
                  exact ih (i + 1) (by omega) (by omega)
                · refine r_iload_n d_Tr_feed_146 rfl 4 rfl ?_
                  refine r_if_ne (tgt := 153) d_Tr_feed_147 (by decide) (fun c_147 => ?_) (fun c_147 => ?_)
                  · have hk := hk0.trans (fdJ_2 hcf c_143 c_147)
                    refine r_iinc (lv' := [(2, .int (((fdH ce fi fr ((fdB ce fi fr (fdA ce fi (fed, qn, 0, 0) 108) h).2.1 h) (fdB ce fi fr (fdA ce fi (fed, qn, 0, 0) 108) h) i).2.2.2) + (-1))), (5, .int (nI o)), (4, .int (nI i)), (3, .int (nI h)), (1, .int (nI (fdH ce fi fr ((fdB ce fi fr (fdA ce fi (fed, qn, 0, 0) 108) h).2.1 h) (fdB ce fi fr (fdA ce fi (fed, qn, 0, 0) 108) h) i).2.2.1)), (0, .ref a)]) (v := ((fdH ce fi fr ((fdB ce fi fr (fdA ce fi (fed, qn, 0, 0) 108) h).2.1 h) (fdB ce fi fr (fdA ce fi (fed, qn, 0, 0) 108) h) i).2.2.2) + (-1)) d_Tr_feed_153 (j := 4) rfl rfl (by decide) rfl ?_
                    refine r_aload_n d_Tr_feed_156 rfl 5 rfl ?_
                    refine r_get fs_Tr_26 d_Tr_feed_157 (q0 := 0) rfl rfl ?_
                    refine r_iload d_Tr_feed_160 1 rfl ?_
                    refine r_iconst d_Tr_feed_162 (v := 1) (by decide) ?_
                    refine r_zast d_Tr_feed_163 (q0 := 5) rfl (vp_in_nI (by omega) (by omega)) (f' := upd (fdH ce fi fr ((fdB ce fi fr (fdA ce fi (fed, qn, 0, 0) 108) h).2.1 h) (fdB ce fi fr (fdA ce fi (fed, qn, 0, 0) 108) h) i).1 o 1) (by rw [nI_clamp (by omega)] <;> rfl) (cs' := [(a, .inr (10, [.ref a1, .ref a2, .ref az, .ref a4, .ref a5, .ref a6, .int run, .int fo])), (a1, .inl (1, 108, .inl ce)), (a2, .inl (0, 108, .inl fi)), (az, .inr (2, [.ref az1, .ref az2, .ref az3, .ref az4, .ref az5, .ref az6, .int liq])), (az4, .inl (0, 108, .inl fr)), (a4, .inl (2, 108, .inl (upd (fdH ce fi fr ((fdB ce fi fr (fdA ce fi (fed, qn, 0, 0) 108) h).2.1 h) (fdB ce fi fr (fdA ce fi (fed, qn, 0, 0) 108) h) i).1 o 1))), (a5, .inl (2, 108, .inl seen)), (a6, .inl (0, 108, .inl (fun k => nI ((fdH ce fi fr ((fdB ce fi fr (fdA ce fi (fed, qn, 0, 0) 108) h).2.1 h) (fdB ce fi fr (fdA ce fi (fed, qn, 0, 0) 108) h) i).2.1 k))))]) rfl ?_
                    refine r_aload_n d_Tr_feed_164 rfl 5 rfl ?_
                    refine r_get fs_Tr_33 d_Tr_feed_165 (q0 := 0) rfl rfl ?_
                    refine r_iload_n d_Tr_feed_168 rfl 4 rfl ?_
                    refine r_iload d_Tr_feed_169 1 rfl ?_
                    refine r_iast d_Tr_feed_171 (q0 := 7) rfl (vp_in_nI (by omega) (by omega)) (f' := fun k => nI (updN (fdH ce fi fr ((fdB ce fi fr (fdA ce fi (fed, qn, 0, 0) 108) h).2.1 h) (fdB ce fi fr (fdA ce fi (fed, qn, 0, 0) 108) h) i).2.1 (fdH ce fi fr ((fdB ce fi fr (fdA ce fi (fed, qn, 0, 0) 108) h).2.1 h) (fdB ce fi fr (fdA ce fi (fed, qn, 0, 0) 108) h) i).2.2.1 o k)) (by rw [nI_clamp (by omega)]; exact upd_qn) (cs' := [(a, .inr (10, [.ref a1, .ref a2, .ref az, .ref a4, .ref a5, .ref a6, .int run, .int fo])), (a1, .inl (1, 108, .inl ce)), (a2, .inl (0, 108, .inl fi)), (az, .inr (2, [.ref az1, .ref az2, .ref az3, .ref az4, .ref az5, .ref az6, .int liq])), (az4, .inl (0, 108, .inl fr)), (a4, .inl (2, 108, .inl (upd (fdH ce fi fr ((fdB ce fi fr (fdA ce fi (fed, qn, 0, 0) 108) h).2.1 h) (fdB ce fi fr (fdA ce fi (fed, qn, 0, 0) 108) h) i).1 o 1))), (a5, .inl (2, 108, .inl seen)), (a6, .inl (0, 108, .inl (fun k => nI (updN (fdH ce fi fr ((fdB ce fi fr (fdA ce fi (fed, qn, 0, 0) 108) h).2.1 h) (fdB ce fi fr (fdA ce fi (fed, qn, 0, 0) 108) h) i).2.1 (fdH ce fi fr ((fdB ce fi fr (fdA ce fi (fed, qn, 0, 0) 108) h).2.1 h) (fdB ce fi fr (fdA ce fi (fed, qn, 0, 0) 108) h) i).2.2.1 o k))))]) rfl ?_
                    refine r_iinc (lv' := [(1, .int (nI ((fdH ce fi fr ((fdB ce fi fr (fdA ce fi (fed, qn, 0, 0) 108) h).2.1 h) (fdB ce fi fr (fdA ce fi (fed, qn, 0, 0) 108) h) i).2.2.1 + 1))), (2, .int (((fdH ce fi fr ((fdB ce fi fr (fdA ce fi (fed, qn, 0, 0) 108) h).2.1 h) (fdB ce fi fr (fdA ce fi (fed, qn, 0, 0) 108) h) i).2.2.2) + (-1))), (5, .int (nI o)), (4, .int (nI i)), (3, .int (nI h)), (0, .ref a)]) (v := nI ((fdH ce fi fr ((fdB ce fi fr (fdA ce fi (fed, qn, 0, 0) 108) h).2.1 h) (fdB ce fi fr (fdA ce fi (fed, qn, 0, 0) 108) h) i).2.2.1 + 1)) d_Tr_feed_172 (j := 4) rfl (nI_add _ _) (by decide) rfl ?_
                    refine r_iinc (lv' := [(4, .int (nI (i + 1))), (1, .int (nI ((fdH ce fi fr ((fdB ce fi fr (fdA ce fi (fed, qn, 0, 0) 108) h).2.1 h) (fdB ce fi fr (fdA ce fi (fed, qn, 0, 0) 108) h) i).2.2.1 + 1))), (2, .int (((fdH ce fi fr ((fdB ce fi fr (fdA ce fi (fed, qn, 0, 0) 108) h).2.1 h) (fdB ce fi fr (fdA ce fi (fed, qn, 0, 0) 108) h) i).2.2.2) + (-1))), (5, .int (nI o)), (3, .int (nI h)), (0, .ref a)]) (v := nI (i + 1)) d_Tr_feed_175 (j := 3) rfl (nI_add _ _) (by decide) rfl ?_
                    refine r_goto (tgt := 86) d_Tr_feed_178 (by decide) ?_
                    refine r_lv (lv' := [(4, .int (nI (i + 1))), (3, .int (nI h)), (1, .int (nI ((fdH ce fi fr ((fdB ce fi fr (fdA ce fi (fed, qn, 0, 0) 108) h).2.1 h) (fdB ce fi fr (fdA ce fi (fed, qn, 0, 0) 108) h) i).2.2.1 + 1))), (2, .int (((fdH ce fi fr ((fdB ce fi fr (fdA ce fi (fed, qn, 0, 0) 108) h).2.1 h) (fdB ce fi fr (fdA ce fi (fed, qn, 0, 0) 108) h) i).2.2.2) + (-1))), (0, .ref a)]) [0, 4, 1, 2, 5] rfl ?_
                    refine r_lvE (lv2 := [(4, .int (nI (i + 1))), (3, .int (nI h)), (1, .int (nI (fdH ce fi fr ((fdB ce fi fr (fdA ce fi (fed, qn, 0, 0) 108) h).2.1 h) (fdB ce fi fr (fdA ce fi (fed, qn, 0, 0) 108) h) (i + 1)).2.2.1)), (2, .int ((fdH ce fi fr ((fdB ce fi fr (fdA ce fi (fed, qn, 0, 0) 108) h).2.1 h) (fdB ce fi fr (fdA ce fi (fed, qn, 0, 0) 108) h) (i + 1)).2.2.2)), (0, .ref a)]) (by rw [show (fdH ce fi fr ((fdB ce fi fr (fdA ce fi (fed, qn, 0, 0) 108) h).2.1 h) (fdB ce fi fr (fdA ce fi (fed, qn, 0, 0) 108) h) (i + 1)) = fdI ce fi fr ((fdB ce fi fr (fdA ce fi (fed, qn, 0, 0) 108) h).2.1 h) i (fdH ce fi fr ((fdB ce fi fr (fdA ce fi (fed, qn, 0, 0) 108) h).2.1 h) (fdB ce fi fr (fdA ce fi (fed, qn, 0, 0) 108) h) i) from rfl, hk] <;> rfl) ?_
                    refine r_cs (cs2 := [(a, .inr (10, [.ref a1, .ref a2, .ref az, .ref a4, .ref a5, .ref a6, .int run, .int fo])), (a1, .inl (1, 108, .inl ce)), (a2, .inl (0, 108, .inl fi)), (az, .inr (2, [.ref az1, .ref az2, .ref az3, .ref az4, .ref az5, .ref az6, .int liq])), (az4, .inl (0, 108, .inl fr)), (a4, .inl (2, 108, .inl ((fdH ce fi fr ((fdB ce fi fr (fdA ce fi (fed, qn, 0, 0) 108) h).2.1 h) (fdB ce fi fr (fdA ce fi (fed, qn, 0, 0) 108) h) (i + 1)).1))), (a5, .inl (2, 108, .inl seen)), (a6, .inl (0, 108, .inl (fun k => nI ((fdH ce fi fr ((fdB ce fi fr (fdA ce fi (fed, qn, 0, 0) 108) h).2.1 h) (fdB ce fi fr (fdA ce fi (fed, qn, 0, 0) 108) h) (i + 1)).2.1 k))))]) (by rw [show (fdH ce fi fr ((fdB ce fi fr (fdA ce fi (fed, qn, 0, 0) 108) h).2.1 h) (fdB ce fi fr (fdA ce fi (fed, qn, 0, 0) 108) h) (i + 1)) = fdI ce fi fr ((fdB ce fi fr (fdA ce fi (fed, qn, 0, 0) 108) h).2.1 h) i (fdH ce fi fr ((fdB ce fi fr (fdA ce fi (fed, qn, 0, 0) 108) h).2.1 h) (fdB ce fi fr (fdA ce fi (fed, qn, 0, 0) 108) h) i) from rfl, hk] <;> rfl) ?_
                    exact ih (i + 1) (by omega) (by omega)
                  · have hk := hk0.trans (fdJ_1 hcf c_143 c_147)
                    refine r_goto (tgt := 175) d_Tr_feed_150 (by decide) ?_
                    refine r_iinc (lv' := [(4, .int (nI (i + 1))), (5, .int (nI o)), (3, .int (nI h)), (1, .int (nI (fdH ce fi fr ((fdB ce fi fr (fdA ce fi (fed, qn, 0, 0) 108) h).2.1 h) (fdB ce fi fr (fdA ce fi (fed, qn, 0, 0) 108) h) i).2.2.1)), (2, .int ((fdH ce fi fr ((fdB ce fi fr (fdA ce fi (fed, qn, 0, 0) 108) h).2.1 h) (fdB ce fi fr (fdA ce fi (fed, qn, 0, 0) 108) h) i).2.2.2)), (0, .ref a)]) (v := nI (i + 1)) d_Tr_feed_175 (j := 1) rfl (nI_add _ _) (by decide) rfl ?_
                    refine r_goto (tgt := 86) d_Tr_feed_178 (by decide) ?_
                    refine r_lv (lv' := [(4, .int (nI (i + 1))), (3, .int (nI h)), (1, .int (nI (fdH ce fi fr ((fdB ce fi fr (fdA ce fi (fed, qn, 0, 0) 108) h).2.1 h) (fdB ce fi fr (fdA ce fi (fed, qn, 0, 0) 108) h) i).2.2.1)), (2, .int ((fdH ce fi fr ((fdB ce fi fr (fdA ce fi (fed, qn, 0, 0) 108) h).2.1 h) (fdB ce fi fr (fdA ce fi (fed, qn, 0, 0) 108) h) i).2.2.2)), (0, .ref a)]) [0, 2, 3, 4, 5] rfl ?_
                    refine r_lvE (lv2 := [(4, .int (nI (i + 1))), (3, .int (nI h)), (1, .int (nI (fdH ce fi fr ((fdB ce fi fr (fdA ce fi (fed, qn, 0, 0) 108) h).2.1 h) (fdB ce fi fr (fdA ce fi (fed, qn, 0, 0) 108) h) (i + 1)).2.2.1)), (2, .int ((fdH ce fi fr ((fdB ce fi fr (fdA ce fi (fed, qn, 0, 0) 108) h).2.1 h) (fdB ce fi fr (fdA ce fi (fed, qn, 0, 0) 108) h) (i + 1)).2.2.2)), (0, .ref a)]) (by rw [show (fdH ce fi fr ((fdB ce fi fr (fdA ce fi (fed, qn, 0, 0) 108) h).2.1 h) (fdB ce fi fr (fdA ce fi (fed, qn, 0, 0) 108) h) (i + 1)) = fdI ce fi fr ((fdB ce fi fr (fdA ce fi (fed, qn, 0, 0) 108) h).2.1 h) i (fdH ce fi fr ((fdB ce fi fr (fdA ce fi (fed, qn, 0, 0) 108) h).2.1 h) (fdB ce fi fr (fdA ce fi (fed, qn, 0, 0) 108) h) i) from rfl, hk] <;> rfl) ?_
                    refine r_cs (cs2 := [(a, .inr (10, [.ref a1, .ref a2, .ref az, .ref a4, .ref a5, .ref a6, .int run, .int fo])), (a1, .inl (1, 108, .inl ce)), (a2, .inl (0, 108, .inl fi)), (az, .inr (2, [.ref az1, .ref az2, .ref az3, .ref az4, .ref az5, .ref az6, .int liq])), (az4, .inl (0, 108, .inl fr)), (a4, .inl (2, 108, .inl ((fdH ce fi fr ((fdB ce fi fr (fdA ce fi (fed, qn, 0, 0) 108) h).2.1 h) (fdB ce fi fr (fdA ce fi (fed, qn, 0, 0) 108) h) (i + 1)).1))), (a5, .inl (2, 108, .inl seen)), (a6, .inl (0, 108, .inl (fun k => nI ((fdH ce fi fr ((fdB ce fi fr (fdA ce fi (fed, qn, 0, 0) 108) h).2.1 h) (fdB ce fi fr (fdA ce fi (fed, qn, 0, 0) 108) h) (i + 1)).2.1 k))))]) (by rw [show (fdH ce fi fr ((fdB ce fi fr (fdA ce fi (fed, qn, 0, 0) 108) h).2.1 h) (fdB ce fi fr (fdA ce fi (fed, qn, 0, 0) 108) h) (i + 1)) = fdI ce fi fr ((fdB ce fi fr (fdA ce fi (fed, qn, 0, 0) 108) h).2.1 h) i (fdH ce fi fr ((fdB ce fi fr (fdA ce fi (fed, qn, 0, 0) 108) h).2.1 h) (fdB ce fi fr (fdA ce fi (fed, qn, 0, 0) 108) h) i) from rfl, hk] <;> rfl) ?_
                    exact ih (i + 1) (by omega) (by omega)
              · have hk := hk0.trans (fdJ_0 (fun q => absurd q.2 (by have := z_nlt (b := 108) (by decide) (by omega) c_128; omega)))
                refine r_goto (tgt := 175) d_Tr_feed_131 (by decide) ?_
                refine r_iinc (lv' := [(4, .int (nI (i + 1))), (5, .int (nI o)), (3, .int (nI h)), (1, .int (nI (fdH ce fi fr ((fdB ce fi fr (fdA ce fi (fed, qn, 0, 0) 108) h).2.1 h) (fdB ce fi fr (fdA ce fi (fed, qn, 0, 0) 108) h) i).2.2.1)), (2, .int ((fdH ce fi fr ((fdB ce fi fr (fdA ce fi (fed, qn, 0, 0) 108) h).2.1 h) (fdB ce fi fr (fdA ce fi (fed, qn, 0, 0) 108) h) i).2.2.2)), (0, .ref a)]) (v := nI (i + 1)) d_Tr_feed_175 (j := 1) rfl (nI_add _ _) (by decide) rfl ?_
                refine r_goto (tgt := 86) d_Tr_feed_178 (by decide) ?_
                refine r_lv (lv' := [(4, .int (nI (i + 1))), (3, .int (nI h)), (1, .int (nI (fdH ce fi fr ((fdB ce fi fr (fdA ce fi (fed, qn, 0, 0) 108) h).2.1 h) (fdB ce fi fr (fdA ce fi (fed, qn, 0, 0) 108) h) i).2.2.1)), (2, .int ((fdH ce fi fr ((fdB ce fi fr (fdA ce fi (fed, qn, 0, 0) 108) h).2.1 h) (fdB ce fi fr (fdA ce fi (fed, qn, 0, 0) 108) h) i).2.2.2)), (0, .ref a)]) [0, 2, 3, 4, 5] rfl ?_
                refine r_lvE (lv2 := [(4, .int (nI (i + 1))), (3, .int (nI h)), (1, .int (nI (fdH ce fi fr ((fdB ce fi fr (fdA ce fi (fed, qn, 0, 0) 108) h).2.1 h) (fdB ce fi fr (fdA ce fi (fed, qn, 0, 0) 108) h) (i + 1)).2.2.1)), (2, .int ((fdH ce fi fr ((fdB ce fi fr (fdA ce fi (fed, qn, 0, 0) 108) h).2.1 h) (fdB ce fi fr (fdA ce fi (fed, qn, 0, 0) 108) h) (i + 1)).2.2.2)), (0, .ref a)]) (by rw [show (fdH ce fi fr ((fdB ce fi fr (fdA ce fi (fed, qn, 0, 0) 108) h).2.1 h) (fdB ce fi fr (fdA ce fi (fed, qn, 0, 0) 108) h) (i + 1)) = fdI ce fi fr ((fdB ce fi fr (fdA ce fi (fed, qn, 0, 0) 108) h).2.1 h) i (fdH ce fi fr ((fdB ce fi fr (fdA ce fi (fed, qn, 0, 0) 108) h).2.1 h) (fdB ce fi fr (fdA ce fi (fed, qn, 0, 0) 108) h) i) from rfl, hk] <;> rfl) ?_
                refine r_cs (cs2 := [(a, .inr (10, [.ref a1, .ref a2, .ref az, .ref a4, .ref a5, .ref a6, .int run, .int fo])), (a1, .inl (1, 108, .inl ce)), (a2, .inl (0, 108, .inl fi)), (az, .inr (2, [.ref az1, .ref az2, .ref az3, .ref az4, .ref az5, .ref az6, .int liq])), (az4, .inl (0, 108, .inl fr)), (a4, .inl (2, 108, .inl ((fdH ce fi fr ((fdB ce fi fr (fdA ce fi (fed, qn, 0, 0) 108) h).2.1 h) (fdB ce fi fr (fdA ce fi (fed, qn, 0, 0) 108) h) (i + 1)).1))), (a5, .inl (2, 108, .inl seen)), (a6, .inl (0, 108, .inl (fun k => nI ((fdH ce fi fr ((fdB ce fi fr (fdA ce fi (fed, qn, 0, 0) 108) h).2.1 h) (fdB ce fi fr (fdA ce fi (fed, qn, 0, 0) 108) h) (i + 1)).2.1 k))))]) (by rw [show (fdH ce fi fr ((fdB ce fi fr (fdA ce fi (fed, qn, 0, 0) 108) h).2.1 h) (fdB ce fi fr (fdA ce fi (fed, qn, 0, 0) 108) h) (i + 1)) = fdI ce fi fr ((fdB ce fi fr (fdA ce fi (fed, qn, 0, 0) 108) h).2.1 h) i (fdH ce fi fr ((fdB ce fi fr (fdA ce fi (fed, qn, 0, 0) 108) h).2.1 h) (fdB ce fi fr (fdA ce fi (fed, qn, 0, 0) 108) h) i) from rfl, hk] <;> rfl) ?_
                exact ih (i + 1) (by omega) (by omega)
set_option maxHeartbeats 4000000 in
set_option maxRecDepth 100000 in
theorem L_Tr_feed_72 (g : zG) (a a1 a2 az az1 az2 az3 az4 az5 az6 a4 a5 a6 : Nat) (run fo liq : Int32) (ce fi fr fed seen : Nat → Int32) (qn : Nat → Nat) (w0 : zW) (n : Nat) (hokA : ∀ h, Dok (fdB ce fi fr (fdA ce fi (fed, qn, 0, 0) 108) h) 108) : ∀ (d h : Nat), h ≤ 108 → 108 < h + d → DV g M_Tr_feed (fun o cs1 => o = .inl none ∧ cs1 = [(a, .inr (10, [.ref a1, .ref a2, .ref az, .ref a4, .ref a5, .ref a6, .int run, .int fo])), (a1, .inl (1, 108, .inl ce)), (a2, .inl (0, 108, .inl fi)), (az, .inr (2, [.ref az1, .ref az2, .ref az3, .ref az4, .ref az5, .ref az6, .int liq])), (az4, .inl (0, 108, .inl fr)), (a4, .inl (2, 108, .inl ((fdB ce fi fr (fdA ce fi (fed, qn, 0, 0) 108) 108).1))), (a5, .inl (2, 108, .inl seen)), (a6, .inl (0, 108, .inl (fun k => nI ((fdB ce fi fr (fdA ce fi (fed, qn, 0, 0) 108) 108).2.1 k))))]) w0 n 72 [(3, .int (nI h)), (1, .int (nI (fdB ce fi fr (fdA ce fi (fed, qn, 0, 0) 108) h).2.2.1)), (2, .int ((fdB ce fi fr (fdA ce fi (fed, qn, 0, 0) 108) h).2.2.2)), (0, .ref a)] [] [(a, .inr (10, [.ref a1, .ref a2, .ref az, .ref a4, .ref a5, .ref a6, .int run, .int fo])), (a1, .inl (1, 108, .inl ce)), (a2, .inl (0, 108, .inl fi)), (az, .inr (2, [.ref az1, .ref az2, .ref az3, .ref az4, .ref az5, .ref az6, .int liq])), (az4, .inl (0, 108, .inl fr)), (a4, .inl (2, 108, .inl ((fdB ce fi fr (fdA ce fi (fed, qn, 0, 0) 108) h).1))), (a5, .inl (2, 108, .inl seen)), (a6, .inl (0, 108, .inl (fun k => nI ((fdB ce fi fr (fdA ce fi (fed, qn, 0, 0) 108) h).2.1 k))))] 0 0 := by
  intro d
  induction d with
  | zero => intro h h1 h2 ; exact absurd h2 (by omega)
  | succ d ih =>
    intro h h1 h2 
    refine r_iload_n d_Tr_feed_72 rfl 0 rfl ?_
    refine r_iload_n d_Tr_feed_73 rfl 1 rfl ?_
    refine r_icmp_ge (tgt := 187) d_Tr_feed_74 (by decide) (fun c_74 => ?_) (fun c_74 => ?_)
    · have hq1 := (hokA h).1
      have hn := z_le (by omega) (by omega) c_74
      have hx : (fdB ce fi fr (fdA ce fi (fed, qn, 0, 0) 108) 108) = (fdB ce fi fr (fdA ce fi (fed, qn, 0, 0) 108) h) := by have := fdB_stop (ce := ce) (fi := fi) (fr := fr) (Nat.not_lt.mpr hn) (108 - h); rw [show h + (108 - h) = 108 by omega] at this; exact this
      refine r_vret d_Tr_feed_187 rfl ?_
      exact ⟨rfl, by rw [hx]⟩
    · have hok := hokA h
      have hq1 := hok.1
      have hn := z_nle (by omega) (by omega) c_74
      have hhere := hok.2 h hn
      refine r_iload_n d_Tr_feed_77 rfl 0 rfl ?_
      refine r_bipush d_Tr_feed_78 (v := 108) (by decide) ?_
      refine r_icmp_ge (tgt := 187) d_Tr_feed_80 (by decide) (fun c_80 => ?_) (fun c_80 => ?_)
      · exact absurd (z_le (a := 108) (by omega) (by decide) c_80) (by omega)
      · refine r_iconst d_Tr_feed_83 (v := 0) (by decide) ?_
        refine r_istore (lv' := [(4, .int 0), (3, .int (nI h)), (1, .int (nI (fdB ce fi fr (fdA ce fi (fed, qn, 0, 0) 108) h).2.2.1)), (2, .int ((fdB ce fi fr (fdA ce fi (fed, qn, 0, 0) 108) h).2.2.2)), (0, .ref a)]) d_Tr_feed_84 (by decide) rfl ?_
        refine r_lvE (lv2 := [(4, .int (nI 0)), (3, .int (nI h)), (1, .int (nI (fdH ce fi fr ((fdB ce fi fr (fdA ce fi (fed, qn, 0, 0) 108) h).2.1 h) (fdB ce fi fr (fdA ce fi (fed, qn, 0, 0) 108) h) 0).2.2.1)), (2, .int ((fdH ce fi fr ((fdB ce fi fr (fdA ce fi (fed, qn, 0, 0) 108) h).2.1 h) (fdB ce fi fr (fdA ce fi (fed, qn, 0, 0) 108) h) 0).2.2.2)), (0, .ref a)]) (rfl) ?_
        refine r_cs (cs2 := [(a, .inr (10, [.ref a1, .ref a2, .ref az, .ref a4, .ref a5, .ref a6, .int run, .int fo])), (a1, .inl (1, 108, .inl ce)), (a2, .inl (0, 108, .inl fi)), (az, .inr (2, [.ref az1, .ref az2, .ref az3, .ref az4, .ref az5, .ref az6, .int liq])), (az4, .inl (0, 108, .inl fr)), (a4, .inl (2, 108, .inl ((fdH ce fi fr ((fdB ce fi fr (fdA ce fi (fed, qn, 0, 0) 108) h).2.1 h) (fdB ce fi fr (fdA ce fi (fed, qn, 0, 0) 108) h) 0).1))), (a5, .inl (2, 108, .inl seen)), (a6, .inl (0, 108, .inl (fun k => nI ((fdH ce fi fr ((fdB ce fi fr (fdA ce fi (fed, qn, 0, 0) 108) h).2.1 h) (fdB ce fi fr (fdA ce fi (fed, qn, 0, 0) 108) h) 0).2.1 k))))]) (rfl) ?_
        refine L_Tr_feed_86 g a a1 a2 az az1 az2 az3 az4 az5 az6 a4 a5 a6 run fo liq ce fi fr fed seen qn w0 _ h hok hn (by omega) hhere (?_) (4 + 1) 0 (Nat.zero_le _) (by omega)
        refine r_iinc (lv' := [(3, .int (nI (h + 1))), (1, .int (nI (fdH ce fi fr ((fdB ce fi fr (fdA ce fi (fed, qn, 0, 0) 108) h).2.1 h) (fdB ce fi fr (fdA ce fi (fed, qn, 0, 0) 108) h) 4).2.2.1)), (2, .int ((fdH ce fi fr ((fdB ce fi fr (fdA ce fi (fed, qn, 0, 0) 108) h).2.1 h) (fdB ce fi fr (fdA ce fi (fed, qn, 0, 0) 108) h) 4).2.2.2)), (0, .ref a)]) (v := nI (h + 1)) d_Tr_feed_181 (j := 0) rfl (nI_add _ _) (by decide) rfl ?_
        refine r_goto (tgt := 72) d_Tr_feed_184 (by decide) ?_
        refine r_lvE (lv2 := [(3, .int (nI (h + 1))), (1, .int (nI (fdB ce fi fr (fdA ce fi (fed, qn, 0, 0) 108) (h + 1)).2.2.1)), (2, .int ((fdB ce fi fr (fdA ce fi (fed, qn, 0, 0) 108) (h + 1)).2.2.2)), (0, .ref a)]) (by rw [fdB_t hn] <;> rfl) ?_
        refine r_cs (cs2 := [(a, .inr (10, [.ref a1, .ref a2, .ref az, .ref a4, .ref a5, .ref a6, .int run, .int fo])), (a1, .inl (1, 108, .inl ce)), (a2, .inl (0, 108, .inl fi)), (az, .inr (2, [.ref az1, .ref az2, .ref az3, .ref az4, .ref az5, .ref az6, .int liq])), (az4, .inl (0, 108, .inl fr)), (a4, .inl (2, 108, .inl ((fdB ce fi fr (fdA ce fi (fed, qn, 0, 0) 108) (h + 1)).1))), (a5, .inl (2, 108, .inl seen)), (a6, .inl (0, 108, .inl (fun k => nI ((fdB ce fi fr (fdA ce fi (fed, qn, 0, 0) 108) (h + 1)).2.1 k))))]) (by rw [fdB_t hn] <;> rfl) ?_
        exact ih (h + 1) (by omega) (by omega)
set_option maxHeartbeats 4000000 in
set_option maxRecDepth 100000 in
theorem L_Tr_feed_6 (g : zG) (a a1 a2 az az1 az2 az3 az4 az5 az6 a4 a5 a6 : Nat) (run fo liq : Int32) (ce fi fr fed seen : Nat → Int32) (qn : Nat → Nat) (w0 : zW) (n : Nat) : ∀ (d i : Nat), i ≤ 108 → 108 < i + d → DV g M_Tr_feed (fun o cs1 => o = .inl none ∧ cs1 = [(a, .inr (10, [.ref a1, .ref a2, .ref az, .ref a4, .ref a5, .ref a6, .int run, .int fo])), (a1, .inl (1, 108, .inl ce)), (a2, .inl (0, 108, .inl fi)), (az, .inr (2, [.ref az1, .ref az2, .ref az3, .ref az4, .ref az5, .ref az6, .int liq])), (az4, .inl (0, 108, .inl fr)), (a4, .inl (2, 108, .inl ((fdB ce fi fr (fdA ce fi (fed, qn, 0, 0) 108) 108).1))), (a5, .inl (2, 108, .inl seen)), (a6, .inl (0, 108, .inl (fun k => nI ((fdB ce fi fr (fdA ce fi (fed, qn, 0, 0) 108) 108).2.1 k))))]) w0 n 6 [(3, .int (nI i)), (1, .int (nI (fdA ce fi (fed, qn, 0, 0) i).2.2.1)), (2, .int ((fdA ce fi (fed, qn, 0, 0) i).2.2.2)), (0, .ref a)] [] [(a, .inr (10, [.ref a1, .ref a2, .ref az, .ref a4, .ref a5, .ref a6, .int run, .int fo])), (a1, .inl (1, 108, .inl ce)), (a2, .inl (0, 108, .inl fi)), (az, .inr (2, [.ref az1, .ref az2, .ref az3, .ref az4, .ref az5, .ref az6, .int liq])), (az4, .inl (0, 108, .inl fr)), (a4, .inl (2, 108, .inl ((fdA ce fi (fed, qn, 0, 0) i).1))), (a5, .inl (2, 108, .inl seen)), (a6, .inl (0, 108, .inl (fun k => nI ((fdA ce fi (fed, qn, 0, 0) i).2.1 k))))] 0 0 := by
  intro d
  induction d with
  | zero => intro i h1 h2 ; exact absurd h2 (by omega)
  | succ d ih =>
    intro i h1 h2 
    refine r_iload_n d_Tr_feed_6 rfl 0 rfl ?_
    refine r_bipush d_Tr_feed_7 (v := 108) (by decide) ?_
    refine r_icmp_ge (tgt := 70) d_Tr_feed_9 (by decide) (fun c_9 => ?_) (fun c_9 => ?_)
    · have hn := z_le (a := 108) (by omega) (by decide) c_9
      obtain rfl : i = 108 := by omega
      refine r_iconst d_Tr_feed_70 (v := 0) (by decide) ?_
      refine r_istore_n (lv' := [(3, .int 0), (1, .int (nI (fdA ce fi (fed, qn, 0, 0) 108).2.2.1)), (2, .int ((fdA ce fi (fed, qn, 0, 0) 108).2.2.2)), (0, .ref a)]) d_Tr_feed_71 rfl (by decide) rfl ?_
      have hokA := fun h => fdB_ok (ce := ce) (fi := fi) (fr := fr) (S0 := (fdA ce fi (fed, qn, 0, 0) 108)) (fdA_ok (ce := ce) (fi := fi) (S0 := (fed, qn, 0, 0)) rfl 108 (by omega)) h
      refine r_lvE (lv2 := [(3, .int (nI 0)), (1, .int (nI (fdB ce fi fr (fdA ce fi (fed, qn, 0, 0) 108) 0).2.2.1)), (2, .int ((fdB ce fi fr (fdA ce fi (fed, qn, 0, 0) 108) 0).2.2.2)), (0, .ref a)]) (rfl) ?_
      refine r_cs (cs2 := [(a, .inr (10, [.ref a1, .ref a2, .ref az, .ref a4, .ref a5, .ref a6, .int run, .int fo])), (a1, .inl (1, 108, .inl ce)), (a2, .inl (0, 108, .inl fi)), (az, .inr (2, [.ref az1, .ref az2, .ref az3, .ref az4, .ref az5, .ref az6, .int liq])), (az4, .inl (0, 108, .inl fr)), (a4, .inl (2, 108, .inl ((fdB ce fi fr (fdA ce fi (fed, qn, 0, 0) 108) 0).1))), (a5, .inl (2, 108, .inl seen)), (a6, .inl (0, 108, .inl (fun k => nI ((fdB ce fi fr (fdA ce fi (fed, qn, 0, 0) 108) 0).2.1 k))))]) (rfl) ?_
      exact L_Tr_feed_72 g a a1 a2 az az1 az2 az3 az4 az5 az6 a4 a5 a6 run fo liq ce fi fr fed seen qn w0 _ hokA (108 + 1) 0 (Nat.zero_le _) (by omega)
    · have hn := z_nle (a := 108) (by omega) (by decide) c_9
      have hok := fdA_ok (ce := ce) (fi := fi) (S0 := (fed, qn, 0, 0)) rfl i (by omega)
      have hq1 := hok.1
      refine r_aload_n d_Tr_feed_12 rfl 3 rfl ?_
      refine r_get fs_Tr_26 d_Tr_feed_13 (q0 := 0) rfl rfl ?_
      refine r_iload_n d_Tr_feed_16 rfl 0 rfl ?_
      refine r_aload_n d_Tr_feed_17 rfl 3 rfl ?_
      refine r_get fs_Tr_9 d_Tr_feed_18 (q0 := 0) rfl rfl ?_
      refine r_iload_n d_Tr_feed_21 rfl 0 rfl ?_
      refine r_cald d_Tr_feed_22 (q0 := 1) rfl (vp_in_nI (by omega) (by omega)) (v := ce i) (by rw [nI_clamp (by omega)]) ?_
      refine r_bipush d_Tr_feed_23 (v := 114) (by decide) ?_
      refine r_icmp_ne (tgt := 40) d_Tr_feed_25 (by decide) (fun c_25 => ?_) (fun c_25 => ?_)
      · have hq : ¬ (ce i = 114 ∧ ¬ fi i < 0) := fun q => c_25 q.1
        refine r_iconst d_Tr_feed_40 (v := 0) (by decide) ?_
        refine r_zast d_Tr_feed_41 (q0 := 5) rfl (vp_in_nI (by omega) (by omega)) (f' := upd ((fdA ce fi (fed, qn, 0, 0) i).1) i 0) (by rw [nI_clamp (by omega)] <;> rfl) (cs' := [(a, .inr (10, [.ref a1, .ref a2, .ref az, .ref a4, .ref a5, .ref a6, .int run, .int fo])), (a1, .inl (1, 108, .inl ce)), (a2, .inl (0, 108, .inl fi)), (az, .inr (2, [.ref az1, .ref az2, .ref az3, .ref az4, .ref az5, .ref az6, .int liq])), (az4, .inl (0, 108, .inl fr)), (a4, .inl (2, 108, .inl (upd ((fdA ce fi (fed, qn, 0, 0) i).1) i 0))), (a5, .inl (2, 108, .inl seen)), (a6, .inl (0, 108, .inl (fun k => nI ((fdA ce fi (fed, qn, 0, 0) i).2.1 k))))]) rfl ?_
        refine r_aload_n d_Tr_feed_42 rfl 3 rfl ?_
        refine r_get fs_Tr_26 d_Tr_feed_43 (q0 := 0) rfl rfl ?_
        refine r_iload_n d_Tr_feed_46 rfl 0 rfl ?_
        refine r_zald d_Tr_feed_47 (q0 := 5) rfl (vp_in_nI (by omega) (by omega)) (v := (upd ((fdA ce fi (fed, qn, 0, 0) i).1) i 0) i) (by rw [nI_clamp (by omega)]) ?_
        refine r_if_eq (tgt := 64) d_Tr_feed_48 (by decide) (fun c_48 => ?_) (fun c_48 => ?_)
        · refine r_iinc (lv' := [(3, .int (nI (i + 1))), (1, .int (nI (fdA ce fi (fed, qn, 0, 0) i).2.2.1)), (2, .int ((fdA ce fi (fed, qn, 0, 0) i).2.2.2)), (0, .ref a)]) (v := nI (i + 1)) d_Tr_feed_64 (j := 0) rfl (nI_add _ _) (by decide) rfl ?_
          refine r_goto (tgt := 6) d_Tr_feed_67 (by decide) ?_
          refine r_lvE (lv2 := [(3, .int (nI (i + 1))), (1, .int (nI (fdA ce fi (fed, qn, 0, 0) (i + 1)).2.2.1)), (2, .int ((fdA ce fi (fed, qn, 0, 0) (i + 1)).2.2.2)), (0, .ref a)]) (by first | (rw [fdA_t hq] <;> rfl) | (rw [fdA_f hq] <;> rfl) | exact absurd (upd_at.symm.trans c_48) one_z | exact absurd upd_at c_48) ?_
          refine r_cs (cs2 := [(a, .inr (10, [.ref a1, .ref a2, .ref az, .ref a4, .ref a5, .ref a6, .int run, .int fo])), (a1, .inl (1, 108, .inl ce)), (a2, .inl (0, 108, .inl fi)), (az, .inr (2, [.ref az1, .ref az2, .ref az3, .ref az4, .ref az5, .ref az6, .int liq])), (az4, .inl (0, 108, .inl fr)), (a4, .inl (2, 108, .inl ((fdA ce fi (fed, qn, 0, 0) (i + 1)).1))), (a5, .inl (2, 108, .inl seen)), (a6, .inl (0, 108, .inl (fun k => nI ((fdA ce fi (fed, qn, 0, 0) (i + 1)).2.1 k))))]) (by first | (rw [fdA_t hq] <;> rfl) | (rw [fdA_f hq] <;> rfl) | exact absurd (upd_at.symm.trans c_48) one_z | exact absurd upd_at c_48) ?_
          exact ih (i + 1) (by omega) (by omega)
        · refine r_iinc (lv' := [(2, .int (((fdA ce fi (fed, qn, 0, 0) i).2.2.2) + 10)), (3, .int (nI i)), (1, .int (nI (fdA ce fi (fed, qn, 0, 0) i).2.2.1)), (0, .ref a)]) (v := ((fdA ce fi (fed, qn, 0, 0) i).2.2.2) + 10) d_Tr_feed_51 (j := 2) rfl rfl (by decide) rfl ?_
          refine r_aload_n d_Tr_feed_54 rfl 3 rfl ?_
          refine r_get fs_Tr_33 d_Tr_feed_55 (q0 := 0) rfl rfl ?_
          refine r_iload_n d_Tr_feed_58 rfl 2 rfl ?_
          refine r_iload_n d_Tr_feed_59 rfl 1 rfl ?_
          refine r_iast d_Tr_feed_60 (q0 := 7) rfl (vp_in_nI (by omega) (by omega)) (f' := fun k => nI (updN (fdA ce fi (fed, qn, 0, 0) i).2.1 (fdA ce fi (fed, qn, 0, 0) i).2.2.1 i k)) (by rw [nI_clamp (by omega)]; exact upd_qn) (cs' := [(a, .inr (10, [.ref a1, .ref a2, .ref az, .ref a4, .ref a5, .ref a6, .int run, .int fo])), (a1, .inl (1, 108, .inl ce)), (a2, .inl (0, 108, .inl fi)), (az, .inr (2, [.ref az1, .ref az2, .ref az3, .ref az4, .ref az5, .ref az6, .int liq])), (az4, .inl (0, 108, .inl fr)), (a4, .inl (2, 108, .inl (upd ((fdA ce fi (fed, qn, 0, 0) i).1) i 0))), (a5, .inl (2, 108, .inl seen)), (a6, .inl (0, 108, .inl (fun k => nI (updN (fdA ce fi (fed, qn, 0, 0) i).2.1 (fdA ce fi (fed, qn, 0, 0) i).2.2.1 i k))))]) rfl ?_
          refine r_iinc (lv' := [(1, .int (nI ((fdA ce fi (fed, qn, 0, 0) i).2.2.1 + 1))), (2, .int (((fdA ce fi (fed, qn, 0, 0) i).2.2.2) + 10)), (3, .int (nI i)), (0, .ref a)]) (v := nI ((fdA ce fi (fed, qn, 0, 0) i).2.2.1 + 1)) d_Tr_feed_61 (j := 2) rfl (nI_add _ _) (by decide) rfl ?_
          refine r_iinc (lv' := [(3, .int (nI (i + 1))), (1, .int (nI ((fdA ce fi (fed, qn, 0, 0) i).2.2.1 + 1))), (2, .int (((fdA ce fi (fed, qn, 0, 0) i).2.2.2) + 10)), (0, .ref a)]) (v := nI (i + 1)) d_Tr_feed_64 (j := 2) rfl (nI_add _ _) (by decide) rfl ?_
          refine r_goto (tgt := 6) d_Tr_feed_67 (by decide) ?_
          refine r_lvE (lv2 := [(3, .int (nI (i + 1))), (1, .int (nI (fdA ce fi (fed, qn, 0, 0) (i + 1)).2.2.1)), (2, .int ((fdA ce fi (fed, qn, 0, 0) (i + 1)).2.2.2)), (0, .ref a)]) (by first | (rw [fdA_t hq] <;> rfl) | (rw [fdA_f hq] <;> rfl) | exact absurd (upd_at.symm.trans c_48) one_z | exact absurd upd_at c_48) ?_
          refine r_cs (cs2 := [(a, .inr (10, [.ref a1, .ref a2, .ref az, .ref a4, .ref a5, .ref a6, .int run, .int fo])), (a1, .inl (1, 108, .inl ce)), (a2, .inl (0, 108, .inl fi)), (az, .inr (2, [.ref az1, .ref az2, .ref az3, .ref az4, .ref az5, .ref az6, .int liq])), (az4, .inl (0, 108, .inl fr)), (a4, .inl (2, 108, .inl ((fdA ce fi (fed, qn, 0, 0) (i + 1)).1))), (a5, .inl (2, 108, .inl seen)), (a6, .inl (0, 108, .inl (fun k => nI ((fdA ce fi (fed, qn, 0, 0) (i + 1)).2.1 k))))]) (by first | (rw [fdA_t hq] <;> rfl) | (rw [fdA_f hq] <;> rfl) | exact absurd (upd_at.symm.trans c_48) one_z | exact absurd upd_at c_48) ?_
          exact ih (i + 1) (by omega) (by omega)
      · refine r_aload_n d_Tr_feed_28 rfl 3 rfl ?_
        refine r_iload_n d_Tr_feed_29 rfl 0 rfl ?_
        refine r_callV (As := [.int (nI i)]) (rest := [.int (nI i), .ref a4]) (csC := [(a, .inr (10, [.ref a1, .ref a2, .ref az, .ref a4, .ref a5, .ref a6, .int run, .int fo])), (a1, .inl (1, 108, .inl ce)), (a2, .inl (0, 108, .inl fi))]) (is := [0, 1, 2]) (q0 := 0) rfl rfl ln_Tr_91 w_im_Tr_isFilled w_se_Tr_isFilled ok_Tr_feed_Tr_isFilled d_Tr_feed_30 (C_Tr_isFilled g a a1 a2 az a4 a5 a6 run fo ce fi i (by omega)) rfl rfl (Nat.le_of_ble_eq_true rfl) rfl (by decide) (by omega) (by omega) (fun E cs1 hx => ?_) (fun v cs1 hx => ?_)
        · exact absurd hx.1 (by simp)
        · obtain ⟨e1, rfl⟩ := hx
          cases e1
          refine ⟨rfl, ?_⟩
          refine r_st (st2 := [.int (z_bi (decide (¬ fi i < 0))), .int (nI i), .ref a4]) rfl ?_
          refine r_cs (cs2 := [(a, .inr (10, [.ref a1, .ref a2, .ref az, .ref a4, .ref a5, .ref a6, .int run, .int fo])), (a1, .inl (1, 108, .inl ce)), (a2, .inl (0, 108, .inl fi)), (az, .inr (2, [.ref az1, .ref az2, .ref az3, .ref az4, .ref az5, .ref az6, .int liq])), (az4, .inl (0, 108, .inl fr)), (a4, .inl (2, 108, .inl ((fdA ce fi (fed, qn, 0, 0) i).1))), (a5, .inl (2, 108, .inl seen)), (a6, .inl (0, 108, .inl (fun k => nI ((fdA ce fi (fed, qn, 0, 0) i).2.1 k))))]) rfl ?_
          refine r_if_eq (tgt := 40) d_Tr_feed_33 (by decide) (fun c_33 => ?_) (fun c_33 => ?_)
          · have hq : ¬ (ce i = 114 ∧ ¬ fi i < 0) := fun q => by have := z_bi0 c_33; rw [decide_eq_true q.2] at this; cases this
            refine r_iconst d_Tr_feed_40 (v := 0) (by decide) ?_
            refine r_zast d_Tr_feed_41 (q0 := 5) rfl (vp_in_nI (by omega) (by omega)) (f' := upd ((fdA ce fi (fed, qn, 0, 0) i).1) i 0) (by rw [nI_clamp (by omega)] <;> rfl) (cs' := [(a, .inr (10, [.ref a1, .ref a2, .ref az, .ref a4, .ref a5, .ref a6, .int run, .int fo])), (a1, .inl (1, 108, .inl ce)), (a2, .inl (0, 108, .inl fi)), (az, .inr (2, [.ref az1, .ref az2, .ref az3, .ref az4, .ref az5, .ref az6, .int liq])), (az4, .inl (0, 108, .inl fr)), (a4, .inl (2, 108, .inl (upd ((fdA ce fi (fed, qn, 0, 0) i).1) i 0))), (a5, .inl (2, 108, .inl seen)), (a6, .inl (0, 108, .inl (fun k => nI ((fdA ce fi (fed, qn, 0, 0) i).2.1 k))))]) rfl ?_
            refine r_aload_n d_Tr_feed_42 rfl 3 rfl ?_
            refine r_get fs_Tr_26 d_Tr_feed_43 (q0 := 0) rfl rfl ?_
            refine r_iload_n d_Tr_feed_46 rfl 0 rfl ?_
            refine r_zald d_Tr_feed_47 (q0 := 5) rfl (vp_in_nI (by omega) (by omega)) (v := (upd ((fdA ce fi (fed, qn, 0, 0) i).1) i 0) i) (by rw [nI_clamp (by omega)]) ?_
            refine r_if_eq (tgt := 64) d_Tr_feed_48 (by decide) (fun c_48 => ?_) (fun c_48 => ?_)
            · refine r_iinc (lv' := [(3, .int (nI (i + 1))), (1, .int (nI (fdA ce fi (fed, qn, 0, 0) i).2.2.1)), (2, .int ((fdA ce fi (fed, qn, 0, 0) i).2.2.2)), (0, .ref a)]) (v := nI (i + 1)) d_Tr_feed_64 (j := 0) rfl (nI_add _ _) (by decide) rfl ?_
              refine r_goto (tgt := 6) d_Tr_feed_67 (by decide) ?_
              refine r_lvE (lv2 := [(3, .int (nI (i + 1))), (1, .int (nI (fdA ce fi (fed, qn, 0, 0) (i + 1)).2.2.1)), (2, .int ((fdA ce fi (fed, qn, 0, 0) (i + 1)).2.2.2)), (0, .ref a)]) (by first | (rw [fdA_t hq] <;> rfl) | (rw [fdA_f hq] <;> rfl) | exact absurd (upd_at.symm.trans c_48) one_z | exact absurd upd_at c_48) ?_
              refine r_cs (cs2 := [(a, .inr (10, [.ref a1, .ref a2, .ref az, .ref a4, .ref a5, .ref a6, .int run, .int fo])), (a1, .inl (1, 108, .inl ce)), (a2, .inl (0, 108, .inl fi)), (az, .inr (2, [.ref az1, .ref az2, .ref az3, .ref az4, .ref az5, .ref az6, .int liq])), (az4, .inl (0, 108, .inl fr)), (a4, .inl (2, 108, .inl ((fdA ce fi (fed, qn, 0, 0) (i + 1)).1))), (a5, .inl (2, 108, .inl seen)), (a6, .inl (0, 108, .inl (fun k => nI ((fdA ce fi (fed, qn, 0, 0) (i + 1)).2.1 k))))]) (by first | (rw [fdA_t hq] <;> rfl) | (rw [fdA_f hq] <;> rfl) | exact absurd (upd_at.symm.trans c_48) one_z | exact absurd upd_at c_48) ?_
              exact ih (i + 1) (by omega) (by omega)
            · refine r_iinc (lv' := [(2, .int (((fdA ce fi (fed, qn, 0, 0) i).2.2.2) + 10)), (3, .int (nI i)), (1, .int (nI (fdA ce fi (fed, qn, 0, 0) i).2.2.1)), (0, .ref a)]) (v := ((fdA ce fi (fed, qn, 0, 0) i).2.2.2) + 10) d_Tr_feed_51 (j := 2) rfl rfl (by decide) rfl ?_
              refine r_aload_n d_Tr_feed_54 rfl 3 rfl ?_
              refine r_get fs_Tr_33 d_Tr_feed_55 (q0 := 0) rfl rfl ?_
              refine r_iload_n d_Tr_feed_58 rfl 2 rfl ?_
              refine r_iload_n d_Tr_feed_59 rfl 1 rfl ?_
              refine r_iast d_Tr_feed_60 (q0 := 7) rfl (vp_in_nI (by omega) (by omega)) (f' := fun k => nI (updN (fdA ce fi (fed, qn, 0, 0) i).2.1 (fdA ce fi (fed, qn, 0, 0) i).2.2.1 i k)) (by rw [nI_clamp (by omega)]; exact upd_qn) (cs' := [(a, .inr (10, [.ref a1, .ref a2, .ref az, .ref a4, .ref a5, .ref a6, .int run, .int fo])), (a1, .inl (1, 108, .inl ce)), (a2, .inl (0, 108, .inl fi)), (az, .inr (2, [.ref az1, .ref az2, .ref az3, .ref az4, .ref az5, .ref az6, .int liq])), (az4, .inl (0, 108, .inl fr)), (a4, .inl (2, 108, .inl (upd ((fdA ce fi (fed, qn, 0, 0) i).1) i 0))), (a5, .inl (2, 108, .inl seen)), (a6, .inl (0, 108, .inl (fun k => nI (updN (fdA ce fi (fed, qn, 0, 0) i).2.1 (fdA ce fi (fed, qn, 0, 0) i).2.2.1 i k))))]) rfl ?_
              refine r_iinc (lv' := [(1, .int (nI ((fdA ce fi (fed, qn, 0, 0) i).2.2.1 + 1))), (2, .int (((fdA ce fi (fed, qn, 0, 0) i).2.2.2) + 10)), (3, .int (nI i)), (0, .ref a)]) (v := nI ((fdA ce fi (fed, qn, 0, 0) i).2.2.1 + 1)) d_Tr_feed_61 (j := 2) rfl (nI_add _ _) (by decide) rfl ?_
              refine r_iinc (lv' := [(3, .int (nI (i + 1))), (1, .int (nI ((fdA ce fi (fed, qn, 0, 0) i).2.2.1 + 1))), (2, .int (((fdA ce fi (fed, qn, 0, 0) i).2.2.2) + 10)), (0, .ref a)]) (v := nI (i + 1)) d_Tr_feed_64 (j := 2) rfl (nI_add _ _) (by decide) rfl ?_
              refine r_goto (tgt := 6) d_Tr_feed_67 (by decide) ?_
              refine r_lvE (lv2 := [(3, .int (nI (i + 1))), (1, .int (nI (fdA ce fi (fed, qn, 0, 0) (i + 1)).2.2.1)), (2, .int ((fdA ce fi (fed, qn, 0, 0) (i + 1)).2.2.2)), (0, .ref a)]) (by first | (rw [fdA_t hq] <;> rfl) | (rw [fdA_f hq] <;> rfl) | exact absurd (upd_at.symm.trans c_48) one_z | exact absurd upd_at c_48) ?_
              refine r_cs (cs2 := [(a, .inr (10, [.ref a1, .ref a2, .ref az, .ref a4, .ref a5, .ref a6, .int run, .int fo])), (a1, .inl (1, 108, .inl ce)), (a2, .inl (0, 108, .inl fi)), (az, .inr (2, [.ref az1, .ref az2, .ref az3, .ref az4, .ref az5, .ref az6, .int liq])), (az4, .inl (0, 108, .inl fr)), (a4, .inl (2, 108, .inl ((fdA ce fi (fed, qn, 0, 0) (i + 1)).1))), (a5, .inl (2, 108, .inl seen)), (a6, .inl (0, 108, .inl (fun k => nI ((fdA ce fi (fed, qn, 0, 0) (i + 1)).2.1 k))))]) (by first | (rw [fdA_t hq] <;> rfl) | (rw [fdA_f hq] <;> rfl) | exact absurd (upd_at.symm.trans c_48) one_z | exact absurd upd_at c_48) ?_
              exact ih (i + 1) (by omega) (by omega)
          · have hq : ce i = 114 ∧ ¬ fi i < 0 := ⟨c_25, of_decide_eq_true (z_bi1 c_33)⟩
            refine r_iconst d_Tr_feed_36 (v := 1) (by decide) ?_
            refine r_goto (tgt := 41) d_Tr_feed_37 (by decide) ?_
            refine r_zast d_Tr_feed_41 (q0 := 5) rfl (vp_in_nI (by omega) (by omega)) (f' := upd ((fdA ce fi (fed, qn, 0, 0) i).1) i 1) (by rw [nI_clamp (by omega)] <;> rfl) (cs' := [(a, .inr (10, [.ref a1, .ref a2, .ref az, .ref a4, .ref a5, .ref a6, .int run, .int fo])), (a1, .inl (1, 108, .inl ce)), (a2, .inl (0, 108, .inl fi)), (az, .inr (2, [.ref az1, .ref az2, .ref az3, .ref az4, .ref az5, .ref az6, .int liq])), (az4, .inl (0, 108, .inl fr)), (a4, .inl (2, 108, .inl (upd ((fdA ce fi (fed, qn, 0, 0) i).1) i 1))), (a5, .inl (2, 108, .inl seen)), (a6, .inl (0, 108, .inl (fun k => nI ((fdA ce fi (fed, qn, 0, 0) i).2.1 k))))]) rfl ?_
            refine r_aload_n d_Tr_feed_42 rfl 3 rfl ?_
            refine r_get fs_Tr_26 d_Tr_feed_43 (q0 := 0) rfl rfl ?_
            refine r_iload_n d_Tr_feed_46 rfl 0 rfl ?_
            refine r_zald d_Tr_feed_47 (q0 := 5) rfl (vp_in_nI (by omega) (by omega)) (v := (upd ((fdA ce fi (fed, qn, 0, 0) i).1) i 1) i) (by rw [nI_clamp (by omega)]) ?_
            refine r_if_eq (tgt := 64) d_Tr_feed_48 (by decide) (fun c_48 => ?_) (fun c_48 => ?_)
            · refine r_iinc (lv' := [(3, .int (nI (i + 1))), (1, .int (nI (fdA ce fi (fed, qn, 0, 0) i).2.2.1)), (2, .int ((fdA ce fi (fed, qn, 0, 0) i).2.2.2)), (0, .ref a)]) (v := nI (i + 1)) d_Tr_feed_64 (j := 0) rfl (nI_add _ _) (by decide) rfl ?_
              refine r_goto (tgt := 6) d_Tr_feed_67 (by decide) ?_
              refine r_lvE (lv2 := [(3, .int (nI (i + 1))), (1, .int (nI (fdA ce fi (fed, qn, 0, 0) (i + 1)).2.2.1)), (2, .int ((fdA ce fi (fed, qn, 0, 0) (i + 1)).2.2.2)), (0, .ref a)]) (by first | (rw [fdA_t hq] <;> rfl) | (rw [fdA_f hq] <;> rfl) | exact absurd (upd_at.symm.trans c_48) one_z | exact absurd upd_at c_48) ?_
              refine r_cs (cs2 := [(a, .inr (10, [.ref a1, .ref a2, .ref az, .ref a4, .ref a5, .ref a6, .int run, .int fo])), (a1, .inl (1, 108, .inl ce)), (a2, .inl (0, 108, .inl fi)), (az, .inr (2, [.ref az1, .ref az2, .ref az3, .ref az4, .ref az5, .ref az6, .int liq])), (az4, .inl (0, 108, .inl fr)), (a4, .inl (2, 108, .inl ((fdA ce fi (fed, qn, 0, 0) (i + 1)).1))), (a5, .inl (2, 108, .inl seen)), (a6, .inl (0, 108, .inl (fun k => nI ((fdA ce fi (fed, qn, 0, 0) (i + 1)).2.1 k))))]) (by first | (rw [fdA_t hq] <;> rfl) | (rw [fdA_f hq] <;> rfl) | exact absurd (upd_at.symm.trans c_48) one_z | exact absurd upd_at c_48) ?_
              exact ih (i + 1) (by omega) (by omega)
            · refine r_iinc (lv' := [(2, .int (((fdA ce fi (fed, qn, 0, 0) i).2.2.2) + 10)), (3, .int (nI i)), (1, .int (nI (fdA ce fi (fed, qn, 0, 0) i).2.2.1)), (0, .ref a)]) (v := ((fdA ce fi (fed, qn, 0, 0) i).2.2.2) + 10) d_Tr_feed_51 (j := 2) rfl rfl (by decide) rfl ?_
              refine r_aload_n d_Tr_feed_54 rfl 3 rfl ?_
              refine r_get fs_Tr_33 d_Tr_feed_55 (q0 := 0) rfl rfl ?_
              refine r_iload_n d_Tr_feed_58 rfl 2 rfl ?_
              refine r_iload_n d_Tr_feed_59 rfl 1 rfl ?_
              refine r_iast d_Tr_feed_60 (q0 := 7) rfl (vp_in_nI (by omega) (by omega)) (f' := fun k => nI (updN (fdA ce fi (fed, qn, 0, 0) i).2.1 (fdA ce fi (fed, qn, 0, 0) i).2.2.1 i k)) (by rw [nI_clamp (by omega)]; exact upd_qn) (cs' := [(a, .inr (10, [.ref a1, .ref a2, .ref az, .ref a4, .ref a5, .ref a6, .int run, .int fo])), (a1, .inl (1, 108, .inl ce)), (a2, .inl (0, 108, .inl fi)), (az, .inr (2, [.ref az1, .ref az2, .ref az3, .ref az4, .ref az5, .ref az6, .int liq])), (az4, .inl (0, 108, .inl fr)), (a4, .inl (2, 108, .inl (upd ((fdA ce fi (fed, qn, 0, 0) i).1) i 1))), (a5, .inl (2, 108, .inl seen)), (a6, .inl (0, 108, .inl (fun k => nI (updN (fdA ce fi (fed, qn, 0, 0) i).2.1 (fdA ce fi (fed, qn, 0, 0) i).2.2.1 i k))))]) rfl ?_
              refine r_iinc (lv' := [(1, .int (nI ((fdA ce fi (fed, qn, 0, 0) i).2.2.1 + 1))), (2, .int (((fdA ce fi (fed, qn, 0, 0) i).2.2.2) + 10)), (3, .int (nI i)), (0, .ref a)]) (v := nI ((fdA ce fi (fed, qn, 0, 0) i).2.2.1 + 1)) d_Tr_feed_61 (j := 2) rfl (nI_add _ _) (by decide) rfl ?_
              refine r_iinc (lv' := [(3, .int (nI (i + 1))), (1, .int (nI ((fdA ce fi (fed, qn, 0, 0) i).2.2.1 + 1))), (2, .int (((fdA ce fi (fed, qn, 0, 0) i).2.2.2) + 10)), (0, .ref a)]) (v := nI (i + 1)) d_Tr_feed_64 (j := 2) rfl (nI_add _ _) (by decide) rfl ?_
              refine r_goto (tgt := 6) d_Tr_feed_67 (by decide) ?_
              refine r_lvE (lv2 := [(3, .int (nI (i + 1))), (1, .int (nI (fdA ce fi (fed, qn, 0, 0) (i + 1)).2.2.1)), (2, .int ((fdA ce fi (fed, qn, 0, 0) (i + 1)).2.2.2)), (0, .ref a)]) (by first | (rw [fdA_t hq] <;> rfl) | (rw [fdA_f hq] <;> rfl) | exact absurd (upd_at.symm.trans c_48) one_z | exact absurd upd_at c_48) ?_
              refine r_cs (cs2 := [(a, .inr (10, [.ref a1, .ref a2, .ref az, .ref a4, .ref a5, .ref a6, .int run, .int fo])), (a1, .inl (1, 108, .inl ce)), (a2, .inl (0, 108, .inl fi)), (az, .inr (2, [.ref az1, .ref az2, .ref az3, .ref az4, .ref az5, .ref az6, .int liq])), (az4, .inl (0, 108, .inl fr)), (a4, .inl (2, 108, .inl ((fdA ce fi (fed, qn, 0, 0) (i + 1)).1))), (a5, .inl (2, 108, .inl seen)), (a6, .inl (0, 108, .inl (fun k => nI ((fdA ce fi (fed, qn, 0, 0) (i + 1)).2.1 k))))]) (by first | (rw [fdA_t hq] <;> rfl) | (rw [fdA_f hq] <;> rfl) | exact absurd (upd_at.symm.trans c_48) one_z | exact absurd upd_at c_48) ?_
              exact ih (i + 1) (by omega) (by omega)
set_option maxHeartbeats 4000000 in
set_option maxRecDepth 100000 in
theorem C_Tr_feed (g : zG) (a a1 a2 az az1 az2 az3 az4 az5 az6 a4 a5 a6 : Nat) (run fo liq : Int32) (ce fi fr fed seen : Nat → Int32) (qn : Nat → Nat) : CT g M_Tr_feed [.ref a] [(a, .inr (10, [.ref a1, .ref a2, .ref az, .ref a4, .ref a5, .ref a6, .int run, .int fo])), (a1, .inl (1, 108, .inl ce)), (a2, .inl (0, 108, .inl fi)), (az, .inr (2, [.ref az1, .ref az2, .ref az3, .ref az4, .ref az5, .ref az6, .int liq])), (az4, .inl (0, 108, .inl fr)), (a4, .inl (2, 108, .inl fed)), (a5, .inl (2, 108, .inl seen)), (a6, .inl (0, 108, .inl (fun k => nI (qn k))))] (fun o cs1 => o = .inl none ∧ cs1 = [(a, .inr (10, [.ref a1, .ref a2, .ref az, .ref a4, .ref a5, .ref a6, .int run, .int fo])), (a1, .inl (1, 108, .inl ce)), (a2, .inl (0, 108, .inl fi)), (az, .inr (2, [.ref az1, .ref az2, .ref az3, .ref az4, .ref az5, .ref az6, .int liq])), (az4, .inl (0, 108, .inl fr)), (a4, .inl (2, 108, .inl ((fdB ce fi fr (fdA ce fi (fed, qn, 0, 0) 108) 108).1))), (a5, .inl (2, 108, .inl seen)), (a6, .inl (0, 108, .inl (fun k => nI ((fdB ce fi fr (fdA ce fi (fed, qn, 0, 0) 108) 108).2.1 k))))]) 0 0 := by
  refine z_of (by decide) rfl (Nat.le_of_ble_eq_true rfl) (fun w0 => ?_)
  refine r_lvE (lv2 := [(0, .ref a)]) rfl ?_
  refine r_iconst d_Tr_feed_0 (v := 0) (by decide) ?_
  refine r_istore_n (lv' := [(1, .int 0), (0, .ref a)]) d_Tr_feed_1 rfl (by decide) rfl ?_
  refine r_iconst d_Tr_feed_2 (v := 0) (by decide) ?_
  refine r_istore_n (lv' := [(2, .int 0), (1, .int 0), (0, .ref a)]) d_Tr_feed_3 rfl (by decide) rfl ?_
  refine r_iconst d_Tr_feed_4 (v := 0) (by decide) ?_
  refine r_istore_n (lv' := [(3, .int 0), (2, .int 0), (1, .int 0), (0, .ref a)]) d_Tr_feed_5 rfl (by decide) rfl ?_
  refine r_lv (lv' := [(3, .int 0), (1, .int 0), (2, .int 0), (0, .ref a)]) [0, 2, 1, 3] rfl ?_
  refine r_lvE (lv2 := [(3, .int (nI 0)), (1, .int (nI (fdA ce fi (fed, qn, 0, 0) 0).2.2.1)), (2, .int ((fdA ce fi (fed, qn, 0, 0) 0).2.2.2)), (0, .ref a)]) (rfl) ?_
  refine r_cs (cs2 := [(a, .inr (10, [.ref a1, .ref a2, .ref az, .ref a4, .ref a5, .ref a6, .int run, .int fo])), (a1, .inl (1, 108, .inl ce)), (a2, .inl (0, 108, .inl fi)), (az, .inr (2, [.ref az1, .ref az2, .ref az3, .ref az4, .ref az5, .ref az6, .int liq])), (az4, .inl (0, 108, .inl fr)), (a4, .inl (2, 108, .inl ((fdA ce fi (fed, qn, 0, 0) 0).1))), (a5, .inl (2, 108, .inl seen)), (a6, .inl (0, 108, .inl (fun k => nI ((fdA ce fi (fed, qn, 0, 0) 0).2.1 k))))]) (rfl) ?_
  exact L_Tr_feed_6 g a a1 a2 az az1 az2 az3 az4 az5 az6 a4 a5 a6 run fo liq ce fi fr fed seen qn w0 _  (108 + 1) 0 (Nat.zero_le _) (by omega)
end
section
noncomputable def flP (ce fi : Nat → Int32) (run : Int32) : Nat → Int32 := if run = 0 then (fiS ce (ogS ce (fa_fill (fun _ => -1) fi 108) 12).2 (ogS ce (fa_fill (fun _ => -1) fi 108) 12).1 107).1 else fi
def flR (run : Int32) : Int32 := if run = 0 then 1 else run
theorem C_Tr_fillU (g : zG) (a a1 a2 az a4 a5 a6 : Nat) (run fo : Int32) (ce fi : Nat → Int32) : CT g M_Tr_fill [.ref a] [(a, .inr (10, [.ref a1, .ref a2, .ref az, .ref a4, .ref a5, .ref a6, .int run, .int fo])), (a1, .inl (1, 108, .inl ce)), (a2, .inl (0, 108, .inl fi))] (fun o cs1 => o = .inl none ∧ cs1 = [(a, .inr (10, [.ref a1, .ref a2, .ref az, .ref a4, .ref a5, .ref a6, .int (flR run), .int fo])), (a1, .inl (1, 108, .inl ce)), (a2, .inl (0, 108, .inl (flP ce fi run)))]) 0 0 := by
  by_cases h : run = 0
  · subst h
    rw [show flP ce fi 0 = (fiS ce (ogS ce (fa_fill (fun _ => -1) fi 108) 12).2 (ogS ce (fa_fill (fun _ => -1) fi 108) 12).1 107).1 from if_pos rfl, show flR 0 = 1 from if_pos rfl]
    exact C_Tr_fill g a a1 a2 az a4 a5 a6 0 fo ce fi
  · rw [show flP ce fi run = fi from if_neg h, show flR run = run from if_neg h]
    exact C_Tr_fillR g a a1 a2 az a4 a5 a6 run fo ce fi h
abbrev zS5 : Type := zS4 × (Nat → Int32)
noncomputable def psG (F5 F6 : Nat → Int32) (Q : zS5) : Nat → Int32 := gnS Q.1.1 F5 F6 (fa_fill (fun _ => 0) Q.2 108) 108
noncomputable def psT (F5 F6 : Nat → Int32) (st : Int32) (Q : zS5) : zS5 := (stS (psG F5 F6 Q) st Q.1 108, psG F5 F6 Q)
noncomputable def pzS (F5 F6 : Nat → Int32) (Q0 : zS5) : Nat → zS5
  | 0 => Q0
  | t + 1 => if 0 < (pzS F5 F6 Q0 t).1.2.2.2 then psT F5 F6 (nI (t + 1)) (pzS F5 F6 Q0 t) else pzS F5 F6 Q0 t
noncomputable def pcS (F5 F6 : Nat → Int32) (Q0 : zS5) : Nat → zS5
  | 0 => Q0
  | t + 1 => psT F5 F6 (nI (t + 1)) (pcS F5 F6 Q0 t)
theorem pz_n {F5 F6 : Nat → Int32} {Q0 : zS5} {t : Nat} (h : 0 < (pzS F5 F6 Q0 t).1.2.2.2) : pzS F5 F6 Q0 (t + 1) = psT F5 F6 (nI (t + 1)) (pzS F5 F6 Q0 t) := if_pos h
theorem pz_stop {F5 F6 : Nat → Int32} {Q0 : zS5} {t : Nat} (h : ¬ 0 < (pzS F5 F6 Q0 t).1.2.2.2) : ∀ d, pzS F5 F6 Q0 (t + d) = pzS F5 F6 Q0 t
  | 0 => rfl
  | d + 1 => by
    have ih := pz_stop h d
    show pzS F5 F6 Q0 (t + d + 1) = _
    rw [pzS, ih, if_neg h]
theorem pz_0 {F5 F6 : Nat → Int32} {Q0 : zS5} : pzS F5 F6 Q0 0 = Q0 := rfl
theorem pc_0 {F5 F6 : Nat → Int32} {Q0 : zS5} : pcS F5 F6 Q0 0 = Q0 := rfl
theorem pc_n {F5 F6 : Nat → Int32} {Q0 : zS5} {t : Nat} : pcS F5 F6 Q0 (t + 1) = psT F5 F6 (nI (t + 1)) (pcS F5 F6 Q0 t) := rfl
noncomputable def bgQ (ce fi : Nat → Int32) (h : Int32) (F1 F2 F3 F4 : Nat → Int32) (liq : Int32) : zS5 := (bgS ce fi h (F1, F3, F4, liq) 108, F2)
theorem C_Fz_passQ (g : zG) (a a1 a2 a3 a4 a5 a6 : Nat) (F5 F6 : Nat → Int32) (st : Int32) (Q : zS5) : CT g M_Fz_pass [.ref a, .int st] [(a, .inr (2, [.ref a1, .ref a2, .ref a3, .ref a4, .ref a5, .ref a6, .int Q.1.2.2.2])), (a1, .inl (0, 108, .inl Q.1.1)), (a2, .inl (0, 108, .inl Q.2)), (a3, .inl (0, 108, .inl Q.1.2.1)), (a4, .inl (0, 108, .inl Q.1.2.2.1)), (a5, .inl (0, 108, .inl F5)), (a6, .inl (0, 108, .inl F6))] (fun o cs1 => o = .inl none ∧ cs1 = [(a, .inr (2, [.ref a1, .ref a2, .ref a3, .ref a4, .ref a5, .ref a6, .int ((psT F5 F6 st Q).1.2.2.2)])), (a1, .inl (0, 108, .inl ((psT F5 F6 st Q).1.1))), (a2, .inl (0, 108, .inl ((psT F5 F6 st Q).2))), (a3, .inl (0, 108, .inl ((psT F5 F6 st Q).1.2.1))), (a4, .inl (0, 108, .inl ((psT F5 F6 st Q).1.2.2.1))), (a5, .inl (0, 108, .inl F5)), (a6, .inl (0, 108, .inl F6))]) 0 0 := by
  obtain ⟨⟨F1, F3, F4, liq⟩, F2⟩ := Q
  have e : psT F5 F6 st ((F1, F3, F4, liq), F2) = (stS (gnS F1 F5 F6 (fa_fill (fun _ => 0) F2 108) 108) st (F1, F3, F4, liq) 108, gnS F1 F5 F6 (fa_fill (fun _ => 0) F2 108) 108) := by rw [psT, psG]
  rw [e]
  dsimp only
  exact C_Fz_pass g a a1 a2 a3 a4 a5 a6 F1 F2 F3 F4 F5 F6 liq st
theorem C_Fz_beginQ (g : zG) (a a1 a2 a3 a4 a5 a6 : Nat) (F1 F2 F3 F4 F5 F6 : Nat → Int32) (liq : Int32) (b c : Nat) (ce fi : Nat → Int32) (h : Int32) : CT g M_Fz_begin [.ref a, .ref b, .ref c, .int h] [(a, .inr (2, [.ref a1, .ref a2, .ref a3, .ref a4, .ref a5, .ref a6, .int liq])), (a1, .inl (0, 108, .inl F1)), (a2, .inl (0, 108, .inl F2)), (a3, .inl (0, 108, .inl F3)), (a4, .inl (0, 108, .inl F4)), (a5, .inl (0, 108, .inl F5)), (a6, .inl (0, 108, .inl F6)), (b, .inl (1, 108, .inl ce)), (c, .inl (0, 108, .inl fi))] (fun o cs1 => o = .inl none ∧ cs1 = [(a, .inr (2, [.ref a1, .ref a2, .ref a3, .ref a4, .ref a5, .ref a6, .int ((bgQ ce fi h F1 F2 F3 F4 liq).1.2.2.2)])), (a1, .inl (0, 108, .inl ((bgQ ce fi h F1 F2 F3 F4 liq).1.1))), (a2, .inl (0, 108, .inl ((bgQ ce fi h F1 F2 F3 F4 liq).2))), (a3, .inl (0, 108, .inl ((bgQ ce fi h F1 F2 F3 F4 liq).1.2.1))), (a4, .inl (0, 108, .inl ((bgQ ce fi h F1 F2 F3 F4 liq).1.2.2.1))), (a5, .inl (0, 108, .inl (toS ce fi 2 F5 108))), (a6, .inl (0, 108, .inl (toS ce fi 3 F6 108))), (b, .inl (1, 108, .inl ce)), (c, .inl (0, 108, .inl fi))]) 0 0 :=
  C_Fz_begin g a a1 a2 a3 a4 a5 a6 F1 F2 F3 F4 F5 F6 liq b c ce fi h
abbrev M_Tr_freeze : zM := (⟨"Ironpour$Trial", "freeze", "(I)V"⟩, prog_12_method_7_code, 3, (Option.none : Option FieldType), 5, 114, [])
theorem d_Tr_freeze_0 : decode prog_12_method_7_code 0 = .ok (.aload_n 0, 1) := zo_42 (zd_b zq_prog_12_method_7_code_0 0 rfl rfl rfl)
theorem d_Tr_freeze_1 : decode prog_12_method_7_code 1 = .ok (.getfield 46, 3) := zo_180 (d := 0) (e := 46) (zd_b zq_prog_12_method_7_code_0 1 rfl rfl rfl) (zd_b zq_prog_12_method_7_code_0 2 rfl rfl rfl) (zd_b zq_prog_12_method_7_code_0 3 rfl rfl rfl)
theorem fs_Tr_46 : z_fs "Ironpour$Trial" 46 10 7 := ⟨R_Tr, "Ironpour$Trial", F_Tr, 8, rfl, u_Tr, by decide, Or.inl ⟨z_mj1 (i := 120) rfl (by decide +kernel), Or.inl rfl⟩⟩
theorem d_Tr_freeze_4 : decode prog_12_method_7_code 4 = .ok (.iload_n 1, 1) := zo_27 (zd_b zq_prog_12_method_7_code_0 4 rfl rfl rfl)
theorem d_Tr_freeze_5 : decode prog_12_method_7_code 5 = .ok (.if_icmp .ne 4, 3) := zo_160 (d := 0) (e := 4) (zd_b zq_prog_12_method_7_code_0 5 rfl rfl rfl) (zd_b zq_prog_12_method_7_code_0 6 rfl rfl rfl) (zd_b zq_prog_12_method_7_code_0 7 rfl rfl rfl) (by decide +kernel)
theorem d_Tr_freeze_8 : decode prog_12_method_7_code 8 = .ok (.return_, 1) := zo_177 (zd_b zq_prog_12_method_7_code_0 8 rfl rfl rfl)
set_option maxHeartbeats 4000000 in
set_option maxRecDepth 100000 in
theorem C_Tr_freezeK (g : zG) (a a1 a2 az az1 az2 az3 az4 az5 az6 a4 a5 a6 : Nat) (run fo liq : Int32) (ce fi F1 F2 F3 F4 F5 F6 fed seen : Nat → Int32) (qn : Nat → Nat) (h : Int32) (hf : fo = h) : CT g M_Tr_freeze [.ref a, .int h] [(a, .inr (10, [.ref a1, .ref a2, .ref az, .ref a4, .ref a5, .ref a6, .int run, .int fo])), (a1, .inl (1, 108, .inl ce)), (a2, .inl (0, 108, .inl fi)), (az, .inr (2, [.ref az1, .ref az2, .ref az3, .ref az4, .ref az5, .ref az6, .int liq])), (az1, .inl (0, 108, .inl F1)), (az2, .inl (0, 108, .inl F2)), (az3, .inl (0, 108, .inl F3)), (az4, .inl (0, 108, .inl F4)), (az5, .inl (0, 108, .inl F5)), (az6, .inl (0, 108, .inl F6)), (a4, .inl (2, 108, .inl fed)), (a5, .inl (2, 108, .inl seen)), (a6, .inl (0, 108, .inl (fun k => nI (qn k))))] (fun o cs1 => o = .inl none ∧ cs1 = [(a, .inr (10, [.ref a1, .ref a2, .ref az, .ref a4, .ref a5, .ref a6, .int run, .int fo])), (a1, .inl (1, 108, .inl ce)), (a2, .inl (0, 108, .inl fi)), (az, .inr (2, [.ref az1, .ref az2, .ref az3, .ref az4, .ref az5, .ref az6, .int liq])), (az1, .inl (0, 108, .inl F1)), (az2, .inl (0, 108, .inl F2)), (az3, .inl (0, 108, .inl F3)), (az4, .inl (0, 108, .inl F4)), (az5, .inl (0, 108, .inl F5)), (az6, .inl (0, 108, .inl F6)), (a4, .inl (2, 108, .inl fed)), (a5, .inl (2, 108, .inl seen)), (a6, .inl (0, 108, .inl (fun k => nI (qn k))))]) 0 0 := by
  refine z_of (by decide) rfl (Nat.le_of_ble_eq_true rfl) (fun w0 => ?_)
  refine r_lvE (lv2 := [(0, .ref a), (1, .int h)]) rfl ?_
  refine r_aload_n d_Tr_freeze_0 rfl 0 rfl ?_
  refine r_get fs_Tr_46 d_Tr_freeze_1 (q0 := 0) rfl rfl ?_
  refine r_iload_n d_Tr_freeze_4 rfl 1 rfl ?_
  refine r_icmp_ne (tgt := 9) d_Tr_freeze_5 (by decide) (fun c_5 => ?_) (fun c_5 => ?_)
  · exact absurd hf c_5
  · refine r_vret d_Tr_freeze_8 rfl ?_
    exact ⟨rfl, rfl⟩
theorem d_Tr_freeze_31 : decode prog_12_method_7_code 31 = .ok (.iload_n 2, 1) := zo_28 (zd_b zq_prog_12_method_7_code_0 31 rfl rfl rfl)
theorem d_Tr_freeze_32 : decode prog_12_method_7_code 32 = .ok (.sipush 400, 3) := zo_17 (d := 1) (e := 144) (zd_b zq_prog_12_method_7_code_1 0 rfl rfl rfl) (zd_b zq_prog_12_method_7_code_1 1 rfl rfl rfl) (zd_b zq_prog_12_method_7_code_1 2 rfl rfl rfl) (by decide +kernel)
theorem d_Tr_freeze_35 : decode prog_12_method_7_code 35 = .ok (.if_icmp .gt 27, 3) := zo_163 (d := 0) (e := 27) (zd_b zq_prog_12_method_7_code_1 3 rfl rfl rfl) (zd_b zq_prog_12_method_7_code_1 4 rfl rfl rfl) (zd_b zq_prog_12_method_7_code_1 5 rfl rfl rfl) (by decide +kernel)
theorem d_Tr_freeze_62 : decode prog_12_method_7_code 62 = .ok (.aload_n 0, 1) := zo_42 (zd_b zq_prog_12_method_7_code_1 30 rfl rfl rfl)
theorem d_Tr_freeze_63 : decode prog_12_method_7_code 63 = .ok (.invokevirtual 88, 3) := zo_182 (d := 0) (e := 88) (zd_b zq_prog_12_method_7_code_1 31 rfl rfl rfl) (zd_b zq_prog_12_method_7_code_2 0 rfl rfl rfl) (zd_b zq_prog_12_method_7_code_2 1 rfl rfl rfl)
theorem ok_Tr_freeze_Tr_feed : z_ok M_Tr_freeze M_Tr_feed 0 := ⟨z_mj3 (i := 21) rfl (by decide +kernel), rfl, ⟨by decide +kernel, by decide +kernel, by decide +kernel⟩, ⟨by decide, by decide⟩, z_mj1 (i := 3) rfl (by decide +kernel), rfl⟩
theorem ln_Tr_88 : Cond.methodLink "Ironpour$Trial" 88 M_Tr_feed.1 ∈ z_gw := z_mj3 (i := 18) rfl (by decide +kernel)
theorem w_im_Tr_feed : Cond.instanceMethod M_Tr_feed.1 ∈ z_gw := z_mj3 (i := 20) rfl (by decide +kernel)
theorem w_se_Tr_feed : Cond.selects M_Tr_feed.1.cls M_Tr_feed.1 M_Tr_feed.1 ∈ z_gw := z_mem (i := 12) (by decide +kernel) (by decide +kernel)
theorem d_Tr_freeze_66 : decode prog_12_method_7_code 66 = .ok (.aload_n 0, 1) := zo_42 (zd_b zq_prog_12_method_7_code_2 2 rfl rfl rfl)
theorem d_Tr_freeze_67 : decode prog_12_method_7_code 67 = .ok (.iload_n 1, 1) := zo_27 (zd_b zq_prog_12_method_7_code_2 3 rfl rfl rfl)
theorem d_Tr_freeze_68 : decode prog_12_method_7_code 68 = .ok (.putfield 46, 3) := zo_181 (d := 0) (e := 46) (zd_b zq_prog_12_method_7_code_2 4 rfl rfl rfl) (zd_b zq_prog_12_method_7_code_2 5 rfl rfl rfl) (zd_b zq_prog_12_method_7_code_2 6 rfl rfl rfl)
theorem d_Tr_freeze_71 : decode prog_12_method_7_code 71 = .ok (.return_, 1) := zo_177 (zd_b zq_prog_12_method_7_code_2 7 rfl rfl rfl)
theorem d_Tr_freeze_38 : decode prog_12_method_7_code 38 = .ok (.aload_n 0, 1) := zo_42 (zd_b zq_prog_12_method_7_code_1 6 rfl rfl rfl)
theorem d_Tr_freeze_39 : decode prog_12_method_7_code 39 = .ok (.getfield 22, 3) := zo_180 (d := 0) (e := 22) (zd_b zq_prog_12_method_7_code_1 7 rfl rfl rfl) (zd_b zq_prog_12_method_7_code_1 8 rfl rfl rfl) (zd_b zq_prog_12_method_7_code_1 9 rfl rfl rfl)
theorem d_Tr_freeze_42 : decode prog_12_method_7_code 42 = .ok (.getfield 81, 3) := zo_180 (d := 0) (e := 81) (zd_b zq_prog_12_method_7_code_1 10 rfl rfl rfl) (zd_b zq_prog_12_method_7_code_1 11 rfl rfl rfl) (zd_b zq_prog_12_method_7_code_1 12 rfl rfl rfl)
theorem fs_Tr_81 : z_fs "Ironpour$Trial" 81 2 6 := ⟨R_Fz, "Ironpour$Freezing", F_Fz, 7, rfl, u_Fz, by decide, Or.inr ⟨"Ironpour", z_mk1 (i := 93) rfl (by decide +kernel), rfl⟩⟩
theorem d_Tr_freeze_45 : decode prog_12_method_7_code 45 = .ok (.ifCond .le 17, 3) := zo_158 (d := 0) (e := 17) (zd_b zq_prog_12_method_7_code_1 13 rfl rfl rfl) (zd_b zq_prog_12_method_7_code_1 14 rfl rfl rfl) (zd_b zq_prog_12_method_7_code_1 15 rfl rfl rfl) (by decide +kernel)
theorem d_Tr_freeze_48 : decode prog_12_method_7_code 48 = .ok (.aload_n 0, 1) := zo_42 (zd_b zq_prog_12_method_7_code_1 16 rfl rfl rfl)
theorem d_Tr_freeze_49 : decode prog_12_method_7_code 49 = .ok (.getfield 22, 3) := zo_180 (d := 0) (e := 22) (zd_b zq_prog_12_method_7_code_1 17 rfl rfl rfl) (zd_b zq_prog_12_method_7_code_1 18 rfl rfl rfl) (zd_b zq_prog_12_method_7_code_1 19 rfl rfl rfl)
theorem d_Tr_freeze_52 : decode prog_12_method_7_code 52 = .ok (.iload_n 2, 1) := zo_28 (zd_b zq_prog_12_method_7_code_1 20 rfl rfl rfl)
theorem d_Tr_freeze_53 : decode prog_12_method_7_code 53 = .ok (.invokevirtual 84, 3) := zo_182 (d := 0) (e := 84) (zd_b zq_prog_12_method_7_code_1 21 rfl rfl rfl) (zd_b zq_prog_12_method_7_code_1 22 rfl rfl rfl) (zd_b zq_prog_12_method_7_code_1 23 rfl rfl rfl)
theorem ok_Tr_freeze_Fz_pass : z_ok M_Tr_freeze M_Fz_pass 1 := ⟨z_mj3 (i := 8) rfl (by decide +kernel), rfl, ⟨by decide +kernel, by decide +kernel, by decide +kernel⟩, ⟨by decide, by decide⟩, z_mj1 (i := 4) rfl (by decide +kernel), rfl⟩
theorem ln_Tr_84 : Cond.methodLink "Ironpour$Trial" 84 M_Fz_pass.1 ∈ z_gw := z_mj3 (i := 5) rfl (by decide +kernel)
theorem w_im_Fz_pass : Cond.instanceMethod M_Fz_pass.1 ∈ z_gw := z_mj3 (i := 6) rfl (by decide +kernel)
theorem w_se_Fz_pass : Cond.selects M_Fz_pass.1.cls M_Fz_pass.1 M_Fz_pass.1 ∈ z_gw := z_mj3 (i := 7) rfl (by decide +kernel)
theorem d_Tr_freeze_56 : decode prog_12_method_7_code 56 = .ok (.iinc 2 1, 3) := by decide +kernel
theorem d_Tr_freeze_59 : decode prog_12_method_7_code 59 = .ok (.goto (-28), 3) := zo_167 (d := 255) (e := 228) (zd_b zq_prog_12_method_7_code_1 27 rfl rfl rfl) (zd_b zq_prog_12_method_7_code_1 28 rfl rfl rfl) (zd_b zq_prog_12_method_7_code_1 29 rfl rfl rfl) (by decide +kernel)
theorem d_Tr_freeze_9 : decode prog_12_method_7_code 9 = .ok (.aload_n 0, 1) := zo_42 (zd_b zq_prog_12_method_7_code_0 9 rfl rfl rfl)
theorem d_Tr_freeze_10 : decode prog_12_method_7_code 10 = .ok (.invokevirtual 75, 3) := zo_182 (d := 0) (e := 75) (zd_b zq_prog_12_method_7_code_0 10 rfl rfl rfl) (zd_b zq_prog_12_method_7_code_0 11 rfl rfl rfl) (zd_b zq_prog_12_method_7_code_0 12 rfl rfl rfl)
theorem ok_Tr_freeze_Tr_fill : z_ok M_Tr_freeze M_Tr_fill 0 := ⟨z_mj2 (i := 212) rfl (by decide +kernel), rfl, ⟨by decide +kernel, by decide +kernel, by decide +kernel⟩, ⟨by decide, by decide⟩, z_mj1 (i := 3) rfl (by decide +kernel), rfl⟩
theorem ln_Tr_75 : Cond.methodLink "Ironpour$Trial" 75 M_Tr_fill.1 ∈ z_gw := z_mj2 (i := 209) rfl (by decide +kernel)
theorem w_im_Tr_fill : Cond.instanceMethod M_Tr_fill.1 ∈ z_gw := z_mj2 (i := 210) rfl (by decide +kernel)
theorem w_se_Tr_fill : Cond.selects M_Tr_fill.1.cls M_Tr_fill.1 M_Tr_fill.1 ∈ z_gw := z_mj2 (i := 211) rfl (by decide +kernel)
theorem d_Tr_freeze_13 : decode prog_12_method_7_code 13 = .ok (.aload_n 0, 1) := zo_42 (zd_b zq_prog_12_method_7_code_0 13 rfl rfl rfl)
theorem d_Tr_freeze_14 : decode prog_12_method_7_code 14 = .ok (.getfield 22, 3) := zo_180 (d := 0) (e := 22) (zd_b zq_prog_12_method_7_code_0 14 rfl rfl rfl) (zd_b zq_prog_12_method_7_code_0 15 rfl rfl rfl) (zd_b zq_prog_12_method_7_code_0 16 rfl rfl rfl)
theorem d_Tr_freeze_17 : decode prog_12_method_7_code 17 = .ok (.aload_n 0, 1) := zo_42 (zd_b zq_prog_12_method_7_code_0 17 rfl rfl rfl)
theorem d_Tr_freeze_18 : decode prog_12_method_7_code 18 = .ok (.getfield 9, 3) := zo_180 (d := 0) (e := 9) (zd_b zq_prog_12_method_7_code_0 18 rfl rfl rfl) (zd_b zq_prog_12_method_7_code_0 19 rfl rfl rfl) (zd_b zq_prog_12_method_7_code_0 20 rfl rfl rfl)
theorem d_Tr_freeze_21 : decode prog_12_method_7_code 21 = .ok (.aload_n 0, 1) := zo_42 (zd_b zq_prog_12_method_7_code_0 21 rfl rfl rfl)
theorem d_Tr_freeze_22 : decode prog_12_method_7_code 22 = .ok (.getfield 15, 3) := zo_180 (d := 0) (e := 15) (zd_b zq_prog_12_method_7_code_0 22 rfl rfl rfl) (zd_b zq_prog_12_method_7_code_0 23 rfl rfl rfl) (zd_b zq_prog_12_method_7_code_0 24 rfl rfl rfl)
theorem d_Tr_freeze_25 : decode prog_12_method_7_code 25 = .ok (.iload_n 1, 1) := zo_27 (zd_b zq_prog_12_method_7_code_0 25 rfl rfl rfl)
theorem d_Tr_freeze_26 : decode prog_12_method_7_code 26 = .ok (.invokevirtual 77, 3) := zo_182 (d := 0) (e := 77) (zd_b zq_prog_12_method_7_code_0 26 rfl rfl rfl) (zd_b zq_prog_12_method_7_code_0 27 rfl rfl rfl) (zd_b zq_prog_12_method_7_code_0 28 rfl rfl rfl)
theorem ok_Tr_freeze_Fz_begin : z_ok M_Tr_freeze M_Fz_begin 3 := ⟨z_mj2 (i := 233) rfl (by decide +kernel), rfl, ⟨by decide +kernel, by decide +kernel, by decide +kernel⟩, ⟨by decide, by decide⟩, z_mj1 (i := 4) rfl (by decide +kernel), rfl⟩
theorem ln_Tr_77 : Cond.methodLink "Ironpour$Trial" 77 M_Fz_begin.1 ∈ z_gw := z_mj2 (i := 230) rfl (by decide +kernel)
theorem w_im_Fz_begin : Cond.instanceMethod M_Fz_begin.1 ∈ z_gw := z_mj2 (i := 231) rfl (by decide +kernel)
theorem w_se_Fz_begin : Cond.selects M_Fz_begin.1.cls M_Fz_begin.1 M_Fz_begin.1 ∈ z_gw := z_mj2 (i := 232) rfl (by decide +kernel)
theorem d_Tr_freeze_29 : decode prog_12_method_7_code 29 = .ok (.iconst 1, 1) := zo_4 (zd_b zq_prog_12_method_7_code_0 29 rfl rfl rfl)
theorem d_Tr_freeze_30 : decode prog_12_method_7_code 30 = .ok (.istore_n 2, 1) := zo_61 (zd_b zq_prog_12_method_7_code_0 30 rfl rfl rfl)
set_option maxHeartbeats 4000000 in
set_option maxRecDepth 100000 in
theorem L_Tr_freezeN_31 (g : zG) (a a1 a2 az az1 az2 az3 az4 az5 az6 a4 a5 a6 : Nat) (run fo liq : Int32) (ce fi F1 F2 F3 F4 F5 F6 fed seen : Nat → Int32) (qn : Nat → Nat) (h : Int32) (hf : ¬ fo = h) (w0 : zW) (n : Nat) : ∀ (d i : Nat), i ≤ 400 → 400 < i + d → DV g M_Tr_freeze (fun o cs1 => o = .inl none ∧ cs1 = [(a, .inr (10, [.ref a1, .ref a2, .ref az, .ref a4, .ref a5, .ref a6, .int (flR run), .int h])), (a1, .inl (1, 108, .inl ce)), (a2, .inl (0, 108, .inl (flP ce fi run))), (az, .inr (2, [.ref az1, .ref az2, .ref az3, .ref az4, .ref az5, .ref az6, .int ((pzS (toS ce (flP ce fi run) 2 F5 108) (toS ce (flP ce fi run) 3 F6 108) (bgQ ce (flP ce fi run) h F1 F2 F3 F4 liq) 400).1.2.2.2)])), (az1, .inl (0, 108, .inl ((pzS (toS ce (flP ce fi run) 2 F5 108) (toS ce (flP ce fi run) 3 F6 108) (bgQ ce (flP ce fi run) h F1 F2 F3 F4 liq) 400).1.1))), (az2, .inl (0, 108, .inl ((pzS (toS ce (flP ce fi run) 2 F5 108) (toS ce (flP ce fi run) 3 F6 108) (bgQ ce (flP ce fi run) h F1 F2 F3 F4 liq) 400).2))), (az3, .inl (0, 108, .inl ((pzS (toS ce (flP ce fi run) 2 F5 108) (toS ce (flP ce fi run) 3 F6 108) (bgQ ce (flP ce fi run) h F1 F2 F3 F4 liq) 400).1.2.1))), (az4, .inl (0, 108, .inl ((pzS (toS ce (flP ce fi run) 2 F5 108) (toS ce (flP ce fi run) 3 F6 108) (bgQ ce (flP ce fi run) h F1 F2 F3 F4 liq) 400).1.2.2.1))), (az5, .inl (0, 108, .inl (toS ce (flP ce fi run) 2 F5 108))), (az6, .inl (0, 108, .inl (toS ce (flP ce fi run) 3 F6 108))), (a4, .inl (2, 108, .inl ((fdB ce (flP ce fi run) (pzS (toS ce (flP ce fi run) 2 F5 108) (toS ce (flP ce fi run) 3 F6 108) (bgQ ce (flP ce fi run) h F1 F2 F3 F4 liq) 400).1.2.2.1 (fdA ce (flP ce fi run) (fed, qn, 0, 0) 108) 108).1))), (a5, .inl (2, 108, .inl seen)), (a6, .inl (0, 108, .inl (fun k => nI ((fdB ce (flP ce fi run) (pzS (toS ce (flP ce fi run) 2 F5 108) (toS ce (flP ce fi run) 3 F6 108) (bgQ ce (flP ce fi run) h F1 F2 F3 F4 liq) 400).1.2.2.1 (fdA ce (flP ce fi run) (fed, qn, 0, 0) 108) 108).2.1 k))))]) w0 n 31 [(2, .int (nI (i + 1))), (0, .ref a), (1, .int h)] [] [(a, .inr (10, [.ref a1, .ref a2, .ref az, .ref a4, .ref a5, .ref a6, .int (flR run), .int fo])), (a1, .inl (1, 108, .inl ce)), (a2, .inl (0, 108, .inl (flP ce fi run))), (az, .inr (2, [.ref az1, .ref az2, .ref az3, .ref az4, .ref az5, .ref az6, .int ((pzS (toS ce (flP ce fi run) 2 F5 108) (toS ce (flP ce fi run) 3 F6 108) (bgQ ce (flP ce fi run) h F1 F2 F3 F4 liq) i).1.2.2.2)])), (az1, .inl (0, 108, .inl ((pzS (toS ce (flP ce fi run) 2 F5 108) (toS ce (flP ce fi run) 3 F6 108) (bgQ ce (flP ce fi run) h F1 F2 F3 F4 liq) i).1.1))), (az2, .inl (0, 108, .inl ((pzS (toS ce (flP ce fi run) 2 F5 108) (toS ce (flP ce fi run) 3 F6 108) (bgQ ce (flP ce fi run) h F1 F2 F3 F4 liq) i).2))), (az3, .inl (0, 108, .inl ((pzS (toS ce (flP ce fi run) 2 F5 108) (toS ce (flP ce fi run) 3 F6 108) (bgQ ce (flP ce fi run) h F1 F2 F3 F4 liq) i).1.2.1))), (az4, .inl (0, 108, .inl ((pzS (toS ce (flP ce fi run) 2 F5 108) (toS ce (flP ce fi run) 3 F6 108) (bgQ ce (flP ce fi run) h F1 F2 F3 F4 liq) i).1.2.2.1))), (az5, .inl (0, 108, .inl (toS ce (flP ce fi run) 2 F5 108))), (az6, .inl (0, 108, .inl (toS ce (flP ce fi run) 3 F6 108))), (a4, .inl (2, 108, .inl fed)), (a5, .inl (2, 108, .inl seen)), (a6, .inl (0, 108, .inl (fun k => nI (qn k))))] 0 0 := by
  intro d
  induction d with
  | zero => intro i h1 h2 ; exact absurd h2 (by omega)
  | succ d ih =>
    intro i h1 h2 
    refine r_iload_n d_Tr_freeze_31 rfl 0 rfl ?_
    refine r_sipush d_Tr_freeze_32 (v := 400) (by decide) ?_
    refine r_icmp_gt (tgt := 62) d_Tr_freeze_35 (by decide) (fun c_35 => ?_) (fun c_35 => ?_)
    · have hn := z_lt (a := 400) (by omega) (by decide) c_35
      have hx : (pzS (toS ce (flP ce fi run) 2 F5 108) (toS ce (flP ce fi run) 3 F6 108) (bgQ ce (flP ce fi run) h F1 F2 F3 F4 liq) 400) = (pzS (toS ce (flP ce fi run) 2 F5 108) (toS ce (flP ce fi run) 3 F6 108) (bgQ ce (flP ce fi run) h F1 F2 F3 F4 liq) i) := by rw [show i = 400 by omega]
      refine r_aload_n d_Tr_freeze_62 rfl 1 rfl ?_
      refine r_callV (As := []) (rest := []) (csC := [(a, .inr (10, [.ref a1, .ref a2, .ref az, .ref a4, .ref a5, .ref a6, .int (flR run), .int fo])), (a1, .inl (1, 108, .inl ce)), (a2, .inl (0, 108, .inl (flP ce fi run))), (az, .inr (2, [.ref az1, .ref az2, .ref az3, .ref az4, .ref az5, .ref az6, .int ((pzS (toS ce (flP ce fi run) 2 F5 108) (toS ce (flP ce fi run) 3 F6 108) (bgQ ce (flP ce fi run) h F1 F2 F3 F4 liq) i).1.2.2.2)])), (az4, .inl (0, 108, .inl ((pzS (toS ce (flP ce fi run) 2 F5 108) (toS ce (flP ce fi run) 3 F6 108) (bgQ ce (flP ce fi run) h F1 F2 F3 F4 liq) i).1.2.2.1))), (a4, .inl (2, 108, .inl fed)), (a5, .inl (2, 108, .inl seen)), (a6, .inl (0, 108, .inl (fun k => nI (qn k))))]) (is := [0, 1, 2, 3, 7, 10, 11, 12]) (q0 := 0) rfl rfl ln_Tr_88 w_im_Tr_feed w_se_Tr_feed ok_Tr_freeze_Tr_feed d_Tr_freeze_63 (C_Tr_feed g a a1 a2 az az1 az2 az3 az4 az5 az6 a4 a5 a6 (flR run) fo (pzS (toS ce (flP ce fi run) 2 F5 108) (toS ce (flP ce fi run) 3 F6 108) (bgQ ce (flP ce fi run) h F1 F2 F3 F4 liq) i).1.2.2.2 ce (flP ce fi run) (pzS (toS ce (flP ce fi run) 2 F5 108) (toS ce (flP ce fi run) 3 F6 108) (bgQ ce (flP ce fi run) h F1 F2 F3 F4 liq) i).1.2.2.1 fed seen qn) rfl rfl (Nat.le_of_ble_eq_true rfl) rfl (by decide) (by omega) (by omega) (fun E cs1 hx => ?_) (fun v cs1 hx => ?_)
      · exact absurd hx.1 (by simp)
      · obtain ⟨e1, rfl⟩ := hx
        cases e1
        refine ⟨rfl, ?_⟩
        refine r_st (st2 := []) rfl ?_
        refine r_cs (cs2 := [(a, .inr (10, [.ref a1, .ref a2, .ref az, .ref a4, .ref a5, .ref a6, .int (flR run), .int fo])), (a1, .inl (1, 108, .inl ce)), (a2, .inl (0, 108, .inl (flP ce fi run))), (az, .inr (2, [.ref az1, .ref az2, .ref az3, .ref az4, .ref az5, .ref az6, .int ((pzS (toS ce (flP ce fi run) 2 F5 108) (toS ce (flP ce fi run) 3 F6 108) (bgQ ce (flP ce fi run) h F1 F2 F3 F4 liq) i).1.2.2.2)])), (az1, .inl (0, 108, .inl ((pzS (toS ce (flP ce fi run) 2 F5 108) (toS ce (flP ce fi run) 3 F6 108) (bgQ ce (flP ce fi run) h F1 F2 F3 F4 liq) i).1.1))), (az2, .inl (0, 108, .inl ((pzS (toS ce (flP ce fi run) 2 F5 108) (toS ce (flP ce fi run) 3 F6 108) (bgQ ce (flP ce fi run) h F1 F2 F3 F4 liq) i).2))), (az3, .inl (0, 108, .inl ((pzS (toS ce (flP ce fi run) 2 F5 108) (toS ce (flP ce fi run) 3 F6 108) (bgQ ce (flP ce fi run) h F1 F2 F3 F4 liq) i).1.2.1))), (az4, .inl (0, 108, .inl ((pzS (toS ce (flP ce fi run) 2 F5 108) (toS ce (flP ce fi run) 3 F6 108) (bgQ ce (flP ce fi run) h F1 F2 F3 F4 liq) i).1.2.2.1))), (az5, .inl (0, 108, .inl (toS ce (flP ce fi run) 2 F5 108))), (az6, .inl (0, 108, .inl (toS ce (flP ce fi run) 3 F6 108))), (a4, .inl (2, 108, .inl ((fdB ce (flP ce fi run) (pzS (toS ce (flP ce fi run) 2 F5 108) (toS ce (flP ce fi run) 3 F6 108) (bgQ ce (flP ce fi run) h F1 F2 F3 F4 liq) i).1.2.2.1 (fdA ce (flP ce fi run) (fed, qn, 0, 0) 108) 108).1))), (a5, .inl (2, 108, .inl seen)), (a6, .inl (0, 108, .inl (fun k => nI ((fdB ce (flP ce fi run) (pzS (toS ce (flP ce fi run) 2 F5 108) (toS ce (flP ce fi run) 3 F6 108) (bgQ ce (flP ce fi run) h F1 F2 F3 F4 liq) i).1.2.2.1 (fdA ce (flP ce fi run) (fed, qn, 0, 0) 108) 108).2.1 k))))]) rfl ?_
        refine r_aload_n d_Tr_freeze_66 rfl 1 rfl ?_
        refine r_iload_n d_Tr_freeze_67 rfl 2 rfl ?_
        refine r_put fp_Tr_46 d_Tr_freeze_68 (fun h => nomatch h) rfl rfl (q0 := 0) rfl (Nat.le_of_ble_eq_true rfl) (cs' := [(a, .inr (10, [.ref a1, .ref a2, .ref az, .ref a4, .ref a5, .ref a6, .int (flR run), .int h])), (a1, .inl (1, 108, .inl ce)), (a2, .inl (0, 108, .inl (flP ce fi run))), (az, .inr (2, [.ref az1, .ref az2, .ref az3, .ref az4, .ref az5, .ref az6, .int ((pzS (toS ce (flP ce fi run) 2 F5 108) (toS ce (flP ce fi run) 3 F6 108) (bgQ ce (flP ce fi run) h F1 F2 F3 F4 liq) i).1.2.2.2)])), (az1, .inl (0, 108, .inl ((pzS (toS ce (flP ce fi run) 2 F5 108) (toS ce (flP ce fi run) 3 F6 108) (bgQ ce (flP ce fi run) h F1 F2 F3 F4 liq) i).1.1))), (az2, .inl (0, 108, .inl ((pzS (toS ce (flP ce fi run) 2 F5 108) (toS ce (flP ce fi run) 3 F6 108) (bgQ ce (flP ce fi run) h F1 F2 F3 F4 liq) i).2))), (az3, .inl (0, 108, .inl ((pzS (toS ce (flP ce fi run) 2 F5 108) (toS ce (flP ce fi run) 3 F6 108) (bgQ ce (flP ce fi run) h F1 F2 F3 F4 liq) i).1.2.1))), (az4, .inl (0, 108, .inl ((pzS (toS ce (flP ce fi run) 2 F5 108) (toS ce (flP ce fi run) 3 F6 108) (bgQ ce (flP ce fi run) h F1 F2 F3 F4 liq) i).1.2.2.1))), (az5, .inl (0, 108, .inl (toS ce (flP ce fi run) 2 F5 108))), (az6, .inl (0, 108, .inl (toS ce (flP ce fi run) 3 F6 108))), (a4, .inl (2, 108, .inl ((fdB ce (flP ce fi run) (pzS (toS ce (flP ce fi run) 2 F5 108) (toS ce (flP ce fi run) 3 F6 108) (bgQ ce (flP ce fi run) h F1 F2 F3 F4 liq) i).1.2.2.1 (fdA ce (flP ce fi run) (fed, qn, 0, 0) 108) 108).1))), (a5, .inl (2, 108, .inl seen)), (a6, .inl (0, 108, .inl (fun k => nI ((fdB ce (flP ce fi run) (pzS (toS ce (flP ce fi run) 2 F5 108) (toS ce (flP ce fi run) 3 F6 108) (bgQ ce (flP ce fi run) h F1 F2 F3 F4 liq) i).1.2.2.1 (fdA ce (flP ce fi run) (fed, qn, 0, 0) 108) 108).2.1 k))))]) rfl ?_
        refine r_vret d_Tr_freeze_71 rfl ?_
        exact ⟨rfl, by rw [hx]⟩
    · have hn := z_nlt (a := 400) (by omega) (by decide) c_35
      refine r_aload_n d_Tr_freeze_38 rfl 1 rfl ?_
      refine r_get fs_Tr_22 d_Tr_freeze_39 (q0 := 0) rfl rfl ?_
      refine r_get fs_Tr_81 d_Tr_freeze_42 (q0 := 3) rfl rfl ?_
      refine r_if_le (tgt := 62) d_Tr_freeze_45 (by decide) (fun c_45 => ?_) (fun c_45 => ?_)
      · have hx : (pzS (toS ce (flP ce fi run) 2 F5 108) (toS ce (flP ce fi run) 3 F6 108) (bgQ ce (flP ce fi run) h F1 F2 F3 F4 liq) 400) = (pzS (toS ce (flP ce fi run) 2 F5 108) (toS ce (flP ce fi run) 3 F6 108) (bgQ ce (flP ce fi run) h F1 F2 F3 F4 liq) i) := by have := pz_stop (Int32.not_lt.mpr c_45) (400 - i); rw [show i + (400 - i) = 400 by omega] at this; exact this
        refine r_aload_n d_Tr_freeze_62 rfl 1 rfl ?_
        refine r_callV (As := []) (rest := []) (csC := [(a, .inr (10, [.ref a1, .ref a2, .ref az, .ref a4, .ref a5, .ref a6, .int (flR run), .int fo])), (a1, .inl (1, 108, .inl ce)), (a2, .inl (0, 108, .inl (flP ce fi run))), (az, .inr (2, [.ref az1, .ref az2, .ref az3, .ref az4, .ref az5, .ref az6, .int ((pzS (toS ce (flP ce fi run) 2 F5 108) (toS ce (flP ce fi run) 3 F6 108) (bgQ ce (flP ce fi run) h F1 F2 F3 F4 liq) i).1.2.2.2)])), (az4, .inl (0, 108, .inl ((pzS (toS ce (flP ce fi run) 2 F5 108) (toS ce (flP ce fi run) 3 F6 108) (bgQ ce (flP ce fi run) h F1 F2 F3 F4 liq) i).1.2.2.1))), (a4, .inl (2, 108, .inl fed)), (a5, .inl (2, 108, .inl seen)), (a6, .inl (0, 108, .inl (fun k => nI (qn k))))]) (is := [0, 1, 2, 3, 7, 10, 11, 12]) (q0 := 0) rfl rfl ln_Tr_88 w_im_Tr_feed w_se_Tr_feed ok_Tr_freeze_Tr_feed d_Tr_freeze_63 (C_Tr_feed g a a1 a2 az az1 az2 az3 az4 az5 az6 a4 a5 a6 (flR run) fo (pzS (toS ce (flP ce fi run) 2 F5 108) (toS ce (flP ce fi run) 3 F6 108) (bgQ ce (flP ce fi run) h F1 F2 F3 F4 liq) i).1.2.2.2 ce (flP ce fi run) (pzS (toS ce (flP ce fi run) 2 F5 108) (toS ce (flP ce fi run) 3 F6 108) (bgQ ce (flP ce fi run) h F1 F2 F3 F4 liq) i).1.2.2.1 fed seen qn) rfl rfl (Nat.le_of_ble_eq_true rfl) rfl (by decide) (by omega) (by omega) (fun E cs1 hx => ?_) (fun v cs1 hx => ?_)
        · exact absurd hx.1 (by simp)
        · obtain ⟨e1, rfl⟩ := hx
          cases e1
          refine ⟨rfl, ?_⟩
          refine r_st (st2 := []) rfl ?_
          refine r_cs (cs2 := [(a, .inr (10, [.ref a1, .ref a2, .ref az, .ref a4, .ref a5, .ref a6, .int (flR run), .int fo])), (a1, .inl (1, 108, .inl ce)), (a2, .inl (0, 108, .inl (flP ce fi run))), (az, .inr (2, [.ref az1, .ref az2, .ref az3, .ref az4, .ref az5, .ref az6, .int ((pzS (toS ce (flP ce fi run) 2 F5 108) (toS ce (flP ce fi run) 3 F6 108) (bgQ ce (flP ce fi run) h F1 F2 F3 F4 liq) i).1.2.2.2)])), (az1, .inl (0, 108, .inl ((pzS (toS ce (flP ce fi run) 2 F5 108) (toS ce (flP ce fi run) 3 F6 108) (bgQ ce (flP ce fi run) h F1 F2 F3 F4 liq) i).1.1))), (az2, .inl (0, 108, .inl ((pzS (toS ce (flP ce fi run) 2 F5 108) (toS ce (flP ce fi run) 3 F6 108) (bgQ ce (flP ce fi run) h F1 F2 F3 F4 liq) i).2))), (az3, .inl (0, 108, .inl ((pzS (toS ce (flP ce fi run) 2 F5 108) (toS ce (flP ce fi run) 3 F6 108) (bgQ ce (flP ce fi run) h F1 F2 F3 F4 liq) i).1.2.1))), (az4, .inl (0, 108, .inl ((pzS (toS ce (flP ce fi run) 2 F5 108) (toS ce (flP ce fi run) 3 F6 108) (bgQ ce (flP ce fi run) h F1 F2 F3 F4 liq) i).1.2.2.1))), (az5, .inl (0, 108, .inl (toS ce (flP ce fi run) 2 F5 108))), (az6, .inl (0, 108, .inl (toS ce (flP ce fi run) 3 F6 108))), (a4, .inl (2, 108, .inl ((fdB ce (flP ce fi run) (pzS (toS ce (flP ce fi run) 2 F5 108) (toS ce (flP ce fi run) 3 F6 108) (bgQ ce (flP ce fi run) h F1 F2 F3 F4 liq) i).1.2.2.1 (fdA ce (flP ce fi run) (fed, qn, 0, 0) 108) 108).1))), (a5, .inl (2, 108, .inl seen)), (a6, .inl (0, 108, .inl (fun k => nI ((fdB ce (flP ce fi run) (pzS (toS ce (flP ce fi run) 2 F5 108) (toS ce (flP ce fi run) 3 F6 108) (bgQ ce (flP ce fi run) h F1 F2 F3 F4 liq) i).1.2.2.1 (fdA ce (flP ce fi run) (fed, qn, 0, 0) 108) 108).2.1 k))))]) rfl ?_
          refine r_aload_n d_Tr_freeze_66 rfl 1 rfl ?_
          refine r_iload_n d_Tr_freeze_67 rfl 2 rfl ?_
          refine r_put fp_Tr_46 d_Tr_freeze_68 (fun h => nomatch h) rfl rfl (q0 := 0) rfl (Nat.le_of_ble_eq_true rfl) (cs' := [(a, .inr (10, [.ref a1, .ref a2, .ref az, .ref a4, .ref a5, .ref a6, .int (flR run), .int h])), (a1, .inl (1, 108, .inl ce)), (a2, .inl (0, 108, .inl (flP ce fi run))), (az, .inr (2, [.ref az1, .ref az2, .ref az3, .ref az4, .ref az5, .ref az6, .int ((pzS (toS ce (flP ce fi run) 2 F5 108) (toS ce (flP ce fi run) 3 F6 108) (bgQ ce (flP ce fi run) h F1 F2 F3 F4 liq) i).1.2.2.2)])), (az1, .inl (0, 108, .inl ((pzS (toS ce (flP ce fi run) 2 F5 108) (toS ce (flP ce fi run) 3 F6 108) (bgQ ce (flP ce fi run) h F1 F2 F3 F4 liq) i).1.1))), (az2, .inl (0, 108, .inl ((pzS (toS ce (flP ce fi run) 2 F5 108) (toS ce (flP ce fi run) 3 F6 108) (bgQ ce (flP ce fi run) h F1 F2 F3 F4 liq) i).2))), (az3, .inl (0, 108, .inl ((pzS (toS ce (flP ce fi run) 2 F5 108) (toS ce (flP ce fi run) 3 F6 108) (bgQ ce (flP ce fi run) h F1 F2 F3 F4 liq) i).1.2.1))), (az4, .inl (0, 108, .inl ((pzS (toS ce (flP ce fi run) 2 F5 108) (toS ce (flP ce fi run) 3 F6 108) (bgQ ce (flP ce fi run) h F1 F2 F3 F4 liq) i).1.2.2.1))), (az5, .inl (0, 108, .inl (toS ce (flP ce fi run) 2 F5 108))), (az6, .inl (0, 108, .inl (toS ce (flP ce fi run) 3 F6 108))), (a4, .inl (2, 108, .inl ((fdB ce (flP ce fi run) (pzS (toS ce (flP ce fi run) 2 F5 108) (toS ce (flP ce fi run) 3 F6 108) (bgQ ce (flP ce fi run) h F1 F2 F3 F4 liq) i).1.2.2.1 (fdA ce (flP ce fi run) (fed, qn, 0, 0) 108) 108).1))), (a5, .inl (2, 108, .inl seen)), (a6, .inl (0, 108, .inl (fun k => nI ((fdB ce (flP ce fi run) (pzS (toS ce (flP ce fi run) 2 F5 108) (toS ce (flP ce fi run) 3 F6 108) (bgQ ce (flP ce fi run) h F1 F2 F3 F4 liq) i).1.2.2.1 (fdA ce (flP ce fi run) (fed, qn, 0, 0) 108) 108).2.1 k))))]) rfl ?_
          refine r_vret d_Tr_freeze_71 rfl ?_
          exact ⟨rfl, by rw [hx]⟩
      · have hz := Int32.not_le.mp c_45
        refine r_aload_n d_Tr_freeze_48 rfl 1 rfl ?_
        refine r_get fs_Tr_22 d_Tr_freeze_49 (q0 := 0) rfl rfl ?_
        refine r_iload_n d_Tr_freeze_52 rfl 0 rfl ?_
        refine r_callV (As := [.int (nI (i + 1))]) (rest := []) (csC := [(az, .inr (2, [.ref az1, .ref az2, .ref az3, .ref az4, .ref az5, .ref az6, .int ((pzS (toS ce (flP ce fi run) 2 F5 108) (toS ce (flP ce fi run) 3 F6 108) (bgQ ce (flP ce fi run) h F1 F2 F3 F4 liq) i).1.2.2.2)])), (az1, .inl (0, 108, .inl ((pzS (toS ce (flP ce fi run) 2 F5 108) (toS ce (flP ce fi run) 3 F6 108) (bgQ ce (flP ce fi run) h F1 F2 F3 F4 liq) i).1.1))), (az2, .inl (0, 108, .inl ((pzS (toS ce (flP ce fi run) 2 F5 108) (toS ce (flP ce fi run) 3 F6 108) (bgQ ce (flP ce fi run) h F1 F2 F3 F4 liq) i).2))), (az3, .inl (0, 108, .inl ((pzS (toS ce (flP ce fi run) 2 F5 108) (toS ce (flP ce fi run) 3 F6 108) (bgQ ce (flP ce fi run) h F1 F2 F3 F4 liq) i).1.2.1))), (az4, .inl (0, 108, .inl ((pzS (toS ce (flP ce fi run) 2 F5 108) (toS ce (flP ce fi run) 3 F6 108) (bgQ ce (flP ce fi run) h F1 F2 F3 F4 liq) i).1.2.2.1))), (az5, .inl (0, 108, .inl (toS ce (flP ce fi run) 2 F5 108))), (az6, .inl (0, 108, .inl (toS ce (flP ce fi run) 3 F6 108)))]) (is := [3, 4, 5, 6, 7, 8, 9]) (q0 := 3) rfl rfl ln_Tr_84 w_im_Fz_pass w_se_Fz_pass ok_Tr_freeze_Fz_pass d_Tr_freeze_53 (C_Fz_passQ g az az1 az2 az3 az4 az5 az6 (toS ce (flP ce fi run) 2 F5 108) (toS ce (flP ce fi run) 3 F6 108) (nI (i + 1)) (pzS (toS ce (flP ce fi run) 2 F5 108) (toS ce (flP ce fi run) 3 F6 108) (bgQ ce (flP ce fi run) h F1 F2 F3 F4 liq) i)) rfl rfl (Nat.le_of_ble_eq_true rfl) rfl (by decide) (by omega) (by omega) (fun E cs1 hx => ?_) (fun v cs1 hx => ?_)
        · exact absurd hx.1 (by simp)
        · obtain ⟨e1, rfl⟩ := hx
          cases e1
          refine ⟨rfl, ?_⟩
          refine r_st (st2 := []) rfl ?_
          refine r_cs (cs2 := [(a, .inr (10, [.ref a1, .ref a2, .ref az, .ref a4, .ref a5, .ref a6, .int (flR run), .int fo])), (a1, .inl (1, 108, .inl ce)), (a2, .inl (0, 108, .inl (flP ce fi run))), (az, .inr (2, [.ref az1, .ref az2, .ref az3, .ref az4, .ref az5, .ref az6, .int ((psT (toS ce (flP ce fi run) 2 F5 108) (toS ce (flP ce fi run) 3 F6 108) (nI (i + 1)) (pzS (toS ce (flP ce fi run) 2 F5 108) (toS ce (flP ce fi run) 3 F6 108) (bgQ ce (flP ce fi run) h F1 F2 F3 F4 liq) i)).1.2.2.2)])), (az1, .inl (0, 108, .inl ((psT (toS ce (flP ce fi run) 2 F5 108) (toS ce (flP ce fi run) 3 F6 108) (nI (i + 1)) (pzS (toS ce (flP ce fi run) 2 F5 108) (toS ce (flP ce fi run) 3 F6 108) (bgQ ce (flP ce fi run) h F1 F2 F3 F4 liq) i)).1.1))), (az2, .inl (0, 108, .inl ((psT (toS ce (flP ce fi run) 2 F5 108) (toS ce (flP ce fi run) 3 F6 108) (nI (i + 1)) (pzS (toS ce (flP ce fi run) 2 F5 108) (toS ce (flP ce fi run) 3 F6 108) (bgQ ce (flP ce fi run) h F1 F2 F3 F4 liq) i)).2))), (az3, .inl (0, 108, .inl ((psT (toS ce (flP ce fi run) 2 F5 108) (toS ce (flP ce fi run) 3 F6 108) (nI (i + 1)) (pzS (toS ce (flP ce fi run) 2 F5 108) (toS ce (flP ce fi run) 3 F6 108) (bgQ ce (flP ce fi run) h F1 F2 F3 F4 liq) i)).1.2.1))), (az4, .inl (0, 108, .inl ((psT (toS ce (flP ce fi run) 2 F5 108) (toS ce (flP ce fi run) 3 F6 108) (nI (i + 1)) (pzS (toS ce (flP ce fi run) 2 F5 108) (toS ce (flP ce fi run) 3 F6 108) (bgQ ce (flP ce fi run) h F1 F2 F3 F4 liq) i)).1.2.2.1))), (az5, .inl (0, 108, .inl (toS ce (flP ce fi run) 2 F5 108))), (az6, .inl (0, 108, .inl (toS ce (flP ce fi run) 3 F6 108))), (a4, .inl (2, 108, .inl fed)), (a5, .inl (2, 108, .inl seen)), (a6, .inl (0, 108, .inl (fun k => nI (qn k))))]) rfl ?_
          refine r_iinc (lv' := [(2, .int (nI ((i + 1) + 1))), (0, .ref a), (1, .int h)]) (v := nI ((i + 1) + 1)) d_Tr_freeze_56 (j := 0) rfl (nI_add _ _) (by decide) rfl ?_
          refine r_goto (tgt := 31) d_Tr_freeze_59 (by decide) ?_
          refine r_lvE (lv2 := [(2, .int (nI ((i + 1) + 1))), (0, .ref a), (1, .int h)]) (rfl) ?_
          refine r_cs (cs2 := [(a, .inr (10, [.ref a1, .ref a2, .ref az, .ref a4, .ref a5, .ref a6, .int (flR run), .int fo])), (a1, .inl (1, 108, .inl ce)), (a2, .inl (0, 108, .inl (flP ce fi run))), (az, .inr (2, [.ref az1, .ref az2, .ref az3, .ref az4, .ref az5, .ref az6, .int ((pzS (toS ce (flP ce fi run) 2 F5 108) (toS ce (flP ce fi run) 3 F6 108) (bgQ ce (flP ce fi run) h F1 F2 F3 F4 liq) (i + 1)).1.2.2.2)])), (az1, .inl (0, 108, .inl ((pzS (toS ce (flP ce fi run) 2 F5 108) (toS ce (flP ce fi run) 3 F6 108) (bgQ ce (flP ce fi run) h F1 F2 F3 F4 liq) (i + 1)).1.1))), (az2, .inl (0, 108, .inl ((pzS (toS ce (flP ce fi run) 2 F5 108) (toS ce (flP ce fi run) 3 F6 108) (bgQ ce (flP ce fi run) h F1 F2 F3 F4 liq) (i + 1)).2))), (az3, .inl (0, 108, .inl ((pzS (toS ce (flP ce fi run) 2 F5 108) (toS ce (flP ce fi run) 3 F6 108) (bgQ ce (flP ce fi run) h F1 F2 F3 F4 liq) (i + 1)).1.2.1))), (az4, .inl (0, 108, .inl ((pzS (toS ce (flP ce fi run) 2 F5 108) (toS ce (flP ce fi run) 3 F6 108) (bgQ ce (flP ce fi run) h F1 F2 F3 F4 liq) (i + 1)).1.2.2.1))), (az5, .inl (0, 108, .inl (toS ce (flP ce fi run) 2 F5 108))), (az6, .inl (0, 108, .inl (toS ce (flP ce fi run) 3 F6 108))), (a4, .inl (2, 108, .inl fed)), (a5, .inl (2, 108, .inl seen)), (a6, .inl (0, 108, .inl (fun k => nI (qn k))))]) (by rw [pz_n hz]) ?_
          exact ih (i + 1) (by omega) (by omega)
set_option maxHeartbeats 4000000 in
set_option maxRecDepth 100000 in
theorem C_Tr_freezeN (g : zG) (a a1 a2 az az1 az2 az3 az4 az5 az6 a4 a5 a6 : Nat) (run fo liq : Int32) (ce fi F1 F2 F3 F4 F5 F6 fed seen : Nat → Int32) (qn : Nat → Nat) (h : Int32) (hf : ¬ fo = h) : CT g M_Tr_freeze [.ref a, .int h] [(a, .inr (10, [.ref a1, .ref a2, .ref az, .ref a4, .ref a5, .ref a6, .int run, .int fo])), (a1, .inl (1, 108, .inl ce)), (a2, .inl (0, 108, .inl fi)), (az, .inr (2, [.ref az1, .ref az2, .ref az3, .ref az4, .ref az5, .ref az6, .int liq])), (az1, .inl (0, 108, .inl F1)), (az2, .inl (0, 108, .inl F2)), (az3, .inl (0, 108, .inl F3)), (az4, .inl (0, 108, .inl F4)), (az5, .inl (0, 108, .inl F5)), (az6, .inl (0, 108, .inl F6)), (a4, .inl (2, 108, .inl fed)), (a5, .inl (2, 108, .inl seen)), (a6, .inl (0, 108, .inl (fun k => nI (qn k))))] (fun o cs1 => o = .inl none ∧ cs1 = [(a, .inr (10, [.ref a1, .ref a2, .ref az, .ref a4, .ref a5, .ref a6, .int (flR run), .int h])), (a1, .inl (1, 108, .inl ce)), (a2, .inl (0, 108, .inl (flP ce fi run))), (az, .inr (2, [.ref az1, .ref az2, .ref az3, .ref az4, .ref az5, .ref az6, .int ((pzS (toS ce (flP ce fi run) 2 F5 108) (toS ce (flP ce fi run) 3 F6 108) (bgQ ce (flP ce fi run) h F1 F2 F3 F4 liq) 400).1.2.2.2)])), (az1, .inl (0, 108, .inl ((pzS (toS ce (flP ce fi run) 2 F5 108) (toS ce (flP ce fi run) 3 F6 108) (bgQ ce (flP ce fi run) h F1 F2 F3 F4 liq) 400).1.1))), (az2, .inl (0, 108, .inl ((pzS (toS ce (flP ce fi run) 2 F5 108) (toS ce (flP ce fi run) 3 F6 108) (bgQ ce (flP ce fi run) h F1 F2 F3 F4 liq) 400).2))), (az3, .inl (0, 108, .inl ((pzS (toS ce (flP ce fi run) 2 F5 108) (toS ce (flP ce fi run) 3 F6 108) (bgQ ce (flP ce fi run) h F1 F2 F3 F4 liq) 400).1.2.1))), (az4, .inl (0, 108, .inl ((pzS (toS ce (flP ce fi run) 2 F5 108) (toS ce (flP ce fi run) 3 F6 108) (bgQ ce (flP ce fi run) h F1 F2 F3 F4 liq) 400).1.2.2.1))), (az5, .inl (0, 108, .inl (toS ce (flP ce fi run) 2 F5 108))), (az6, .inl (0, 108, .inl (toS ce (flP ce fi run) 3 F6 108))), (a4, .inl (2, 108, .inl ((fdB ce (flP ce fi run) (pzS (toS ce (flP ce fi run) 2 F5 108) (toS ce (flP ce fi run) 3 F6 108) (bgQ ce (flP ce fi run) h F1 F2 F3 F4 liq) 400).1.2.2.1 (fdA ce (flP ce fi run) (fed, qn, 0, 0) 108) 108).1))), (a5, .inl (2, 108, .inl seen)), (a6, .inl (0, 108, .inl (fun k => nI ((fdB ce (flP ce fi run) (pzS (toS ce (flP ce fi run) 2 F5 108) (toS ce (flP ce fi run) 3 F6 108) (bgQ ce (flP ce fi run) h F1 F2 F3 F4 liq) 400).1.2.2.1 (fdA ce (flP ce fi run) (fed, qn, 0, 0) 108) 108).2.1 k))))]) 0 0 := by
  refine z_of (by decide) rfl (Nat.le_of_ble_eq_true rfl) (fun w0 => ?_)
  refine r_lvE (lv2 := [(0, .ref a), (1, .int h)]) rfl ?_
  refine r_aload_n d_Tr_freeze_0 rfl 0 rfl ?_
  refine r_get fs_Tr_46 d_Tr_freeze_1 (q0 := 0) rfl rfl ?_
  refine r_iload_n d_Tr_freeze_4 rfl 1 rfl ?_
  refine r_icmp_ne (tgt := 9) d_Tr_freeze_5 (by decide) (fun c_5 => ?_) (fun c_5 => ?_)
  · refine r_aload_n d_Tr_freeze_9 rfl 0 rfl ?_
    refine r_callV (As := []) (rest := []) (csC := [(a, .inr (10, [.ref a1, .ref a2, .ref az, .ref a4, .ref a5, .ref a6, .int run, .int fo])), (a1, .inl (1, 108, .inl ce)), (a2, .inl (0, 108, .inl fi))]) (is := [0, 1, 2]) (q0 := 0) rfl rfl ln_Tr_75 w_im_Tr_fill w_se_Tr_fill ok_Tr_freeze_Tr_fill d_Tr_freeze_10 (C_Tr_fillU g a a1 a2 az a4 a5 a6 run fo ce fi) rfl rfl (Nat.le_of_ble_eq_true rfl) rfl (by decide) (by omega) (by omega) (fun E cs1 hx => ?_) (fun v cs1 hx => ?_)
    · exact absurd hx.1 (by simp)
    · obtain ⟨e1, rfl⟩ := hx
      cases e1
      refine ⟨rfl, ?_⟩
      refine r_st (st2 := []) rfl ?_
      refine r_cs (cs2 := [(a, .inr (10, [.ref a1, .ref a2, .ref az, .ref a4, .ref a5, .ref a6, .int (flR run), .int fo])), (a1, .inl (1, 108, .inl ce)), (a2, .inl (0, 108, .inl (flP ce fi run))), (az, .inr (2, [.ref az1, .ref az2, .ref az3, .ref az4, .ref az5, .ref az6, .int liq])), (az1, .inl (0, 108, .inl F1)), (az2, .inl (0, 108, .inl F2)), (az3, .inl (0, 108, .inl F3)), (az4, .inl (0, 108, .inl F4)), (az5, .inl (0, 108, .inl F5)), (az6, .inl (0, 108, .inl F6)), (a4, .inl (2, 108, .inl fed)), (a5, .inl (2, 108, .inl seen)), (a6, .inl (0, 108, .inl (fun k => nI (qn k))))]) rfl ?_
      refine r_aload_n d_Tr_freeze_13 rfl 0 rfl ?_
      refine r_get fs_Tr_22 d_Tr_freeze_14 (q0 := 0) rfl rfl ?_
      refine r_aload_n d_Tr_freeze_17 rfl 0 rfl ?_
      refine r_get fs_Tr_9 d_Tr_freeze_18 (q0 := 0) rfl rfl ?_
      refine r_aload_n d_Tr_freeze_21 rfl 0 rfl ?_
      refine r_get fs_Tr_15 d_Tr_freeze_22 (q0 := 0) rfl rfl ?_
      refine r_iload_n d_Tr_freeze_25 rfl 1 rfl ?_
      refine r_callV (As := [.ref a1, .ref a2, .int h]) (rest := []) (csC := [(az, .inr (2, [.ref az1, .ref az2, .ref az3, .ref az4, .ref az5, .ref az6, .int liq])), (az1, .inl (0, 108, .inl F1)), (az2, .inl (0, 108, .inl F2)), (az3, .inl (0, 108, .inl F3)), (az4, .inl (0, 108, .inl F4)), (az5, .inl (0, 108, .inl F5)), (az6, .inl (0, 108, .inl F6)), (a1, .inl (1, 108, .inl ce)), (a2, .inl (0, 108, .inl (flP ce fi run)))]) (is := [3, 4, 5, 6, 7, 8, 9, 1, 2]) (q0 := 3) rfl rfl ln_Tr_77 w_im_Fz_begin w_se_Fz_begin ok_Tr_freeze_Fz_begin d_Tr_freeze_26 (C_Fz_beginQ g az az1 az2 az3 az4 az5 az6 F1 F2 F3 F4 F5 F6 liq a1 a2 ce (flP ce fi run) h) rfl rfl (Nat.le_of_ble_eq_true rfl) rfl (by decide) (by omega) (by omega) (fun E cs1 hx => ?_) (fun v cs1 hx => ?_)
      · exact absurd hx.1 (by simp)
      · obtain ⟨e1, rfl⟩ := hx
        cases e1
        refine ⟨rfl, ?_⟩
        refine r_st (st2 := []) rfl ?_
        refine r_cs (cs2 := [(a, .inr (10, [.ref a1, .ref a2, .ref az, .ref a4, .ref a5, .ref a6, .int (flR run), .int fo])), (a1, .inl (1, 108, .inl ce)), (a2, .inl (0, 108, .inl (flP ce fi run))), (az, .inr (2, [.ref az1, .ref az2, .ref az3, .ref az4, .ref az5, .ref az6, .int ((bgQ ce (flP ce fi run) h F1 F2 F3 F4 liq).1.2.2.2)])), (az1, .inl (0, 108, .inl ((bgQ ce (flP ce fi run) h F1 F2 F3 F4 liq).1.1))), (az2, .inl (0, 108, .inl ((bgQ ce (flP ce fi run) h F1 F2 F3 F4 liq).2))), (az3, .inl (0, 108, .inl ((bgQ ce (flP ce fi run) h F1 F2 F3 F4 liq).1.2.1))), (az4, .inl (0, 108, .inl ((bgQ ce (flP ce fi run) h F1 F2 F3 F4 liq).1.2.2.1))), (az5, .inl (0, 108, .inl (toS ce (flP ce fi run) 2 F5 108))), (az6, .inl (0, 108, .inl (toS ce (flP ce fi run) 3 F6 108))), (a4, .inl (2, 108, .inl fed)), (a5, .inl (2, 108, .inl seen)), (a6, .inl (0, 108, .inl (fun k => nI (qn k))))]) rfl ?_
        refine r_iconst d_Tr_freeze_29 (v := 1) (by decide) ?_
        refine r_istore_n (lv' := [(2, .int 1), (0, .ref a), (1, .int h)]) d_Tr_freeze_30 rfl (by decide) rfl ?_
        refine r_lvE (lv2 := [(2, .int (nI (0 + 1))), (0, .ref a), (1, .int h)]) (rfl) ?_
        refine r_cs (cs2 := [(a, .inr (10, [.ref a1, .ref a2, .ref az, .ref a4, .ref a5, .ref a6, .int (flR run), .int fo])), (a1, .inl (1, 108, .inl ce)), (a2, .inl (0, 108, .inl (flP ce fi run))), (az, .inr (2, [.ref az1, .ref az2, .ref az3, .ref az4, .ref az5, .ref az6, .int ((pzS (toS ce (flP ce fi run) 2 F5 108) (toS ce (flP ce fi run) 3 F6 108) (bgQ ce (flP ce fi run) h F1 F2 F3 F4 liq) 0).1.2.2.2)])), (az1, .inl (0, 108, .inl ((pzS (toS ce (flP ce fi run) 2 F5 108) (toS ce (flP ce fi run) 3 F6 108) (bgQ ce (flP ce fi run) h F1 F2 F3 F4 liq) 0).1.1))), (az2, .inl (0, 108, .inl ((pzS (toS ce (flP ce fi run) 2 F5 108) (toS ce (flP ce fi run) 3 F6 108) (bgQ ce (flP ce fi run) h F1 F2 F3 F4 liq) 0).2))), (az3, .inl (0, 108, .inl ((pzS (toS ce (flP ce fi run) 2 F5 108) (toS ce (flP ce fi run) 3 F6 108) (bgQ ce (flP ce fi run) h F1 F2 F3 F4 liq) 0).1.2.1))), (az4, .inl (0, 108, .inl ((pzS (toS ce (flP ce fi run) 2 F5 108) (toS ce (flP ce fi run) 3 F6 108) (bgQ ce (flP ce fi run) h F1 F2 F3 F4 liq) 0).1.2.2.1))), (az5, .inl (0, 108, .inl (toS ce (flP ce fi run) 2 F5 108))), (az6, .inl (0, 108, .inl (toS ce (flP ce fi run) 3 F6 108))), (a4, .inl (2, 108, .inl fed)), (a5, .inl (2, 108, .inl seen)), (a6, .inl (0, 108, .inl (fun k => nI (qn k))))]) (by rw [pz_0]) ?_
        exact L_Tr_freezeN_31 g a a1 a2 az az1 az2 az3 az4 az5 az6 a4 a5 a6 run fo liq ce fi F1 F2 F3 F4 F5 F6 fed seen qn h hf w0 _  (400 + 1) 0 (Nat.zero_le _) (by omega)
  · exact absurd c_5 hf
abbrev M_Tr_cool : zM := (⟨"Ironpour$Trial", "cool", "(II)V"⟩, prog_12_method_8_code, 4, (Option.none : Option FieldType), 5, 114, [])
theorem d_Tr_cool_27 : decode prog_12_method_8_code 27 = .ok (.iload_n 3, 1) := zo_29 (zd_b zq_prog_12_method_8_code_0 27 rfl rfl rfl)
theorem d_Tr_cool_28 : decode prog_12_method_8_code 28 = .ok (.iload_n 2, 1) := zo_28 (zd_b zq_prog_12_method_8_code_0 28 rfl rfl rfl)
theorem d_Tr_cool_29 : decode prog_12_method_8_code 29 = .ok (.if_icmp .gt 24, 3) := zo_163 (d := 0) (e := 24) (zd_b zq_prog_12_method_8_code_0 29 rfl rfl rfl) (zd_b zq_prog_12_method_8_code_0 30 rfl rfl rfl) (zd_b zq_prog_12_method_8_code_0 31 rfl rfl rfl) (by decide +kernel)
theorem d_Tr_cool_53 : decode prog_12_method_8_code 53 = .ok (.return_, 1) := zo_177 (zd_b zq_prog_12_method_8_code_1 21 rfl rfl rfl)
theorem d_Tr_cool_32 : decode prog_12_method_8_code 32 = .ok (.iload_n 3, 1) := zo_29 (zd_b zq_prog_12_method_8_code_1 0 rfl rfl rfl)
theorem d_Tr_cool_33 : decode prog_12_method_8_code 33 = .ok (.sipush 400, 3) := zo_17 (d := 1) (e := 144) (zd_b zq_prog_12_method_8_code_1 1 rfl rfl rfl) (zd_b zq_prog_12_method_8_code_1 2 rfl rfl rfl) (zd_b zq_prog_12_method_8_code_1 3 rfl rfl rfl) (by decide +kernel)
theorem d_Tr_cool_36 : decode prog_12_method_8_code 36 = .ok (.if_icmp .gt 17, 3) := zo_163 (d := 0) (e := 17) (zd_b zq_prog_12_method_8_code_1 4 rfl rfl rfl) (zd_b zq_prog_12_method_8_code_1 5 rfl rfl rfl) (zd_b zq_prog_12_method_8_code_1 6 rfl rfl rfl) (by decide +kernel)
theorem d_Tr_cool_39 : decode prog_12_method_8_code 39 = .ok (.aload_n 0, 1) := zo_42 (zd_b zq_prog_12_method_8_code_1 7 rfl rfl rfl)
theorem d_Tr_cool_40 : decode prog_12_method_8_code 40 = .ok (.getfield 22, 3) := zo_180 (d := 0) (e := 22) (zd_b zq_prog_12_method_8_code_1 8 rfl rfl rfl) (zd_b zq_prog_12_method_8_code_1 9 rfl rfl rfl) (zd_b zq_prog_12_method_8_code_1 10 rfl rfl rfl)
theorem d_Tr_cool_43 : decode prog_12_method_8_code 43 = .ok (.iload_n 3, 1) := zo_29 (zd_b zq_prog_12_method_8_code_1 11 rfl rfl rfl)
theorem d_Tr_cool_44 : decode prog_12_method_8_code 44 = .ok (.invokevirtual 84, 3) := zo_182 (d := 0) (e := 84) (zd_b zq_prog_12_method_8_code_1 12 rfl rfl rfl) (zd_b zq_prog_12_method_8_code_1 13 rfl rfl rfl) (zd_b zq_prog_12_method_8_code_1 14 rfl rfl rfl)
theorem ok_Tr_cool_Fz_pass : z_ok M_Tr_cool M_Fz_pass 1 := ⟨z_mj3 (i := 8) rfl (by decide +kernel), rfl, ⟨by decide +kernel, by decide +kernel, by decide +kernel⟩, ⟨by decide, by decide⟩, z_mj1 (i := 4) rfl (by decide +kernel), rfl⟩
theorem d_Tr_cool_47 : decode prog_12_method_8_code 47 = .ok (.iinc 3 1, 3) := by decide +kernel
theorem d_Tr_cool_50 : decode prog_12_method_8_code 50 = .ok (.goto (-23), 3) := zo_167 (d := 255) (e := 233) (zd_b zq_prog_12_method_8_code_1 18 rfl rfl rfl) (zd_b zq_prog_12_method_8_code_1 19 rfl rfl rfl) (zd_b zq_prog_12_method_8_code_1 20 rfl rfl rfl) (by decide +kernel)
theorem d_Tr_cool_0 : decode prog_12_method_8_code 0 = .ok (.aload_n 0, 1) := zo_42 (zd_b zq_prog_12_method_8_code_0 0 rfl rfl rfl)
theorem d_Tr_cool_1 : decode prog_12_method_8_code 1 = .ok (.iconst 0, 1) := zo_3 (zd_b zq_prog_12_method_8_code_0 1 rfl rfl rfl)
theorem d_Tr_cool_2 : decode prog_12_method_8_code 2 = .ok (.putfield 46, 3) := zo_181 (d := 0) (e := 46) (zd_b zq_prog_12_method_8_code_0 2 rfl rfl rfl) (zd_b zq_prog_12_method_8_code_0 3 rfl rfl rfl) (zd_b zq_prog_12_method_8_code_0 4 rfl rfl rfl)
theorem d_Tr_cool_5 : decode prog_12_method_8_code 5 = .ok (.aload_n 0, 1) := zo_42 (zd_b zq_prog_12_method_8_code_0 5 rfl rfl rfl)
theorem d_Tr_cool_6 : decode prog_12_method_8_code 6 = .ok (.invokevirtual 75, 3) := zo_182 (d := 0) (e := 75) (zd_b zq_prog_12_method_8_code_0 6 rfl rfl rfl) (zd_b zq_prog_12_method_8_code_0 7 rfl rfl rfl) (zd_b zq_prog_12_method_8_code_0 8 rfl rfl rfl)
theorem ok_Tr_cool_Tr_fill : z_ok M_Tr_cool M_Tr_fill 0 := ⟨z_mj2 (i := 212) rfl (by decide +kernel), rfl, ⟨by decide +kernel, by decide +kernel, by decide +kernel⟩, ⟨by decide, by decide⟩, z_mj1 (i := 3) rfl (by decide +kernel), rfl⟩
theorem d_Tr_cool_9 : decode prog_12_method_8_code 9 = .ok (.aload_n 0, 1) := zo_42 (zd_b zq_prog_12_method_8_code_0 9 rfl rfl rfl)
theorem d_Tr_cool_10 : decode prog_12_method_8_code 10 = .ok (.getfield 22, 3) := zo_180 (d := 0) (e := 22) (zd_b zq_prog_12_method_8_code_0 10 rfl rfl rfl) (zd_b zq_prog_12_method_8_code_0 11 rfl rfl rfl) (zd_b zq_prog_12_method_8_code_0 12 rfl rfl rfl)
theorem d_Tr_cool_13 : decode prog_12_method_8_code 13 = .ok (.aload_n 0, 1) := zo_42 (zd_b zq_prog_12_method_8_code_0 13 rfl rfl rfl)
theorem d_Tr_cool_14 : decode prog_12_method_8_code 14 = .ok (.getfield 9, 3) := zo_180 (d := 0) (e := 9) (zd_b zq_prog_12_method_8_code_0 14 rfl rfl rfl) (zd_b zq_prog_12_method_8_code_0 15 rfl rfl rfl) (zd_b zq_prog_12_method_8_code_0 16 rfl rfl rfl)
theorem d_Tr_cool_17 : decode prog_12_method_8_code 17 = .ok (.aload_n 0, 1) := zo_42 (zd_b zq_prog_12_method_8_code_0 17 rfl rfl rfl)
theorem d_Tr_cool_18 : decode prog_12_method_8_code 18 = .ok (.getfield 15, 3) := zo_180 (d := 0) (e := 15) (zd_b zq_prog_12_method_8_code_0 18 rfl rfl rfl) (zd_b zq_prog_12_method_8_code_0 19 rfl rfl rfl) (zd_b zq_prog_12_method_8_code_0 20 rfl rfl rfl)
theorem d_Tr_cool_21 : decode prog_12_method_8_code 21 = .ok (.iload_n 1, 1) := zo_27 (zd_b zq_prog_12_method_8_code_0 21 rfl rfl rfl)
theorem d_Tr_cool_22 : decode prog_12_method_8_code 22 = .ok (.invokevirtual 77, 3) := zo_182 (d := 0) (e := 77) (zd_b zq_prog_12_method_8_code_0 22 rfl rfl rfl) (zd_b zq_prog_12_method_8_code_0 23 rfl rfl rfl) (zd_b zq_prog_12_method_8_code_0 24 rfl rfl rfl)
theorem ok_Tr_cool_Fz_begin : z_ok M_Tr_cool M_Fz_begin 3 := ⟨z_mj2 (i := 233) rfl (by decide +kernel), rfl, ⟨by decide +kernel, by decide +kernel, by decide +kernel⟩, ⟨by decide, by decide⟩, z_mj1 (i := 4) rfl (by decide +kernel), rfl⟩
theorem d_Tr_cool_25 : decode prog_12_method_8_code 25 = .ok (.iconst 1, 1) := zo_4 (zd_b zq_prog_12_method_8_code_0 25 rfl rfl rfl)
theorem d_Tr_cool_26 : decode prog_12_method_8_code 26 = .ok (.istore_n 3, 1) := zo_62 (zd_b zq_prog_12_method_8_code_0 26 rfl rfl rfl)
set_option maxHeartbeats 4000000 in
set_option maxRecDepth 100000 in
theorem L_Tr_cool_27 (g : zG) (a a1 a2 az az1 az2 az3 az4 az5 az6 a4 a5 a6 : Nat) (run fo liq : Int32) (ce fi F1 F2 F3 F4 F5 F6 fed seen : Nat → Int32) (qn : Nat → Nat) (h : Int32) (k : Nat) (hk : k ≤ 400) (w0 : zW) (n : Nat) : ∀ (d i : Nat), i ≤ k → k < i + d → DV g M_Tr_cool (fun o cs1 => o = .inl none ∧ cs1 = [(a, .inr (10, [.ref a1, .ref a2, .ref az, .ref a4, .ref a5, .ref a6, .int (flR run), .int 0])), (a1, .inl (1, 108, .inl ce)), (a2, .inl (0, 108, .inl (flP ce fi run))), (az, .inr (2, [.ref az1, .ref az2, .ref az3, .ref az4, .ref az5, .ref az6, .int ((pcS (toS ce (flP ce fi run) 2 F5 108) (toS ce (flP ce fi run) 3 F6 108) (bgQ ce (flP ce fi run) h F1 F2 F3 F4 liq) k).1.2.2.2)])), (az1, .inl (0, 108, .inl ((pcS (toS ce (flP ce fi run) 2 F5 108) (toS ce (flP ce fi run) 3 F6 108) (bgQ ce (flP ce fi run) h F1 F2 F3 F4 liq) k).1.1))), (az2, .inl (0, 108, .inl ((pcS (toS ce (flP ce fi run) 2 F5 108) (toS ce (flP ce fi run) 3 F6 108) (bgQ ce (flP ce fi run) h F1 F2 F3 F4 liq) k).2))), (az3, .inl (0, 108, .inl ((pcS (toS ce (flP ce fi run) 2 F5 108) (toS ce (flP ce fi run) 3 F6 108) (bgQ ce (flP ce fi run) h F1 F2 F3 F4 liq) k).1.2.1))), (az4, .inl (0, 108, .inl ((pcS (toS ce (flP ce fi run) 2 F5 108) (toS ce (flP ce fi run) 3 F6 108) (bgQ ce (flP ce fi run) h F1 F2 F3 F4 liq) k).1.2.2.1))), (az5, .inl (0, 108, .inl (toS ce (flP ce fi run) 2 F5 108))), (az6, .inl (0, 108, .inl (toS ce (flP ce fi run) 3 F6 108))), (a4, .inl (2, 108, .inl fed)), (a5, .inl (2, 108, .inl seen)), (a6, .inl (0, 108, .inl (fun k => nI (qn k))))]) w0 n 27 [(3, .int (nI (i + 1))), (0, .ref a), (1, .int h), (2, .int (nI k))] [] [(a, .inr (10, [.ref a1, .ref a2, .ref az, .ref a4, .ref a5, .ref a6, .int (flR run), .int 0])), (a1, .inl (1, 108, .inl ce)), (a2, .inl (0, 108, .inl (flP ce fi run))), (az, .inr (2, [.ref az1, .ref az2, .ref az3, .ref az4, .ref az5, .ref az6, .int ((pcS (toS ce (flP ce fi run) 2 F5 108) (toS ce (flP ce fi run) 3 F6 108) (bgQ ce (flP ce fi run) h F1 F2 F3 F4 liq) i).1.2.2.2)])), (az1, .inl (0, 108, .inl ((pcS (toS ce (flP ce fi run) 2 F5 108) (toS ce (flP ce fi run) 3 F6 108) (bgQ ce (flP ce fi run) h F1 F2 F3 F4 liq) i).1.1))), (az2, .inl (0, 108, .inl ((pcS (toS ce (flP ce fi run) 2 F5 108) (toS ce (flP ce fi run) 3 F6 108) (bgQ ce (flP ce fi run) h F1 F2 F3 F4 liq) i).2))), (az3, .inl (0, 108, .inl ((pcS (toS ce (flP ce fi run) 2 F5 108) (toS ce (flP ce fi run) 3 F6 108) (bgQ ce (flP ce fi run) h F1 F2 F3 F4 liq) i).1.2.1))), (az4, .inl (0, 108, .inl ((pcS (toS ce (flP ce fi run) 2 F5 108) (toS ce (flP ce fi run) 3 F6 108) (bgQ ce (flP ce fi run) h F1 F2 F3 F4 liq) i).1.2.2.1))), (az5, .inl (0, 108, .inl (toS ce (flP ce fi run) 2 F5 108))), (az6, .inl (0, 108, .inl (toS ce (flP ce fi run) 3 F6 108))), (a4, .inl (2, 108, .inl fed)), (a5, .inl (2, 108, .inl seen)), (a6, .inl (0, 108, .inl (fun k => nI (qn k))))] 0 0 := by
  intro d
  induction d with
  | zero => intro i h1 h2 ; exact absurd h2 (by omega)
  | succ d ih =>
    intro i h1 h2 
    refine r_iload_n d_Tr_cool_27 rfl 0 rfl ?_
    refine r_iload_n d_Tr_cool_28 rfl 3 rfl ?_
    refine r_icmp_gt (tgt := 53) d_Tr_cool_29 (by decide) (fun c_29 => ?_) (fun c_29 => ?_)
    · have hn := z_lt (by omega) (by omega) c_29
      obtain rfl : i = k := by omega
      refine r_vret d_Tr_cool_53 rfl ?_
      exact ⟨rfl, rfl⟩
    · have hn := z_nlt (by omega) (by omega) c_29
      refine r_iload_n d_Tr_cool_32 rfl 0 rfl ?_
      refine r_sipush d_Tr_cool_33 (v := 400) (by decide) ?_
      refine r_icmp_gt (tgt := 53) d_Tr_cool_36 (by decide) (fun c_36 => ?_) (fun c_36 => ?_)
      · exact absurd (z_lt (a := 400) (by omega) (by decide) c_36) (by omega)
      · refine r_aload_n d_Tr_cool_39 rfl 1 rfl ?_
        refine r_get fs_Tr_22 d_Tr_cool_40 (q0 := 0) rfl rfl ?_
        refine r_iload_n d_Tr_cool_43 rfl 0 rfl ?_
        refine r_callV (As := [.int (nI (i + 1))]) (rest := []) (csC := [(az, .inr (2, [.ref az1, .ref az2, .ref az3, .ref az4, .ref az5, .ref az6, .int ((pcS (toS ce (flP ce fi run) 2 F5 108) (toS ce (flP ce fi run) 3 F6 108) (bgQ ce (flP ce fi run) h F1 F2 F3 F4 liq) i).1.2.2.2)])), (az1, .inl (0, 108, .inl ((pcS (toS ce (flP ce fi run) 2 F5 108) (toS ce (flP ce fi run) 3 F6 108) (bgQ ce (flP ce fi run) h F1 F2 F3 F4 liq) i).1.1))), (az2, .inl (0, 108, .inl ((pcS (toS ce (flP ce fi run) 2 F5 108) (toS ce (flP ce fi run) 3 F6 108) (bgQ ce (flP ce fi run) h F1 F2 F3 F4 liq) i).2))), (az3, .inl (0, 108, .inl ((pcS (toS ce (flP ce fi run) 2 F5 108) (toS ce (flP ce fi run) 3 F6 108) (bgQ ce (flP ce fi run) h F1 F2 F3 F4 liq) i).1.2.1))), (az4, .inl (0, 108, .inl ((pcS (toS ce (flP ce fi run) 2 F5 108) (toS ce (flP ce fi run) 3 F6 108) (bgQ ce (flP ce fi run) h F1 F2 F3 F4 liq) i).1.2.2.1))), (az5, .inl (0, 108, .inl (toS ce (flP ce fi run) 2 F5 108))), (az6, .inl (0, 108, .inl (toS ce (flP ce fi run) 3 F6 108)))]) (is := [3, 4, 5, 6, 7, 8, 9]) (q0 := 3) rfl rfl ln_Tr_84 w_im_Fz_pass w_se_Fz_pass ok_Tr_cool_Fz_pass d_Tr_cool_44 (C_Fz_passQ g az az1 az2 az3 az4 az5 az6 (toS ce (flP ce fi run) 2 F5 108) (toS ce (flP ce fi run) 3 F6 108) (nI (i + 1)) (pcS (toS ce (flP ce fi run) 2 F5 108) (toS ce (flP ce fi run) 3 F6 108) (bgQ ce (flP ce fi run) h F1 F2 F3 F4 liq) i)) rfl rfl (Nat.le_of_ble_eq_true rfl) rfl (by decide) (by omega) (by omega) (fun E cs1 hx => ?_) (fun v cs1 hx => ?_)
        · exact absurd hx.1 (by simp)
        · obtain ⟨e1, rfl⟩ := hx
          cases e1
          refine ⟨rfl, ?_⟩
          refine r_st (st2 := []) rfl ?_
          refine r_cs (cs2 := [(a, .inr (10, [.ref a1, .ref a2, .ref az, .ref a4, .ref a5, .ref a6, .int (flR run), .int 0])), (a1, .inl (1, 108, .inl ce)), (a2, .inl (0, 108, .inl (flP ce fi run))), (az, .inr (2, [.ref az1, .ref az2, .ref az3, .ref az4, .ref az5, .ref az6, .int ((psT (toS ce (flP ce fi run) 2 F5 108) (toS ce (flP ce fi run) 3 F6 108) (nI (i + 1)) (pcS (toS ce (flP ce fi run) 2 F5 108) (toS ce (flP ce fi run) 3 F6 108) (bgQ ce (flP ce fi run) h F1 F2 F3 F4 liq) i)).1.2.2.2)])), (az1, .inl (0, 108, .inl ((psT (toS ce (flP ce fi run) 2 F5 108) (toS ce (flP ce fi run) 3 F6 108) (nI (i + 1)) (pcS (toS ce (flP ce fi run) 2 F5 108) (toS ce (flP ce fi run) 3 F6 108) (bgQ ce (flP ce fi run) h F1 F2 F3 F4 liq) i)).1.1))), (az2, .inl (0, 108, .inl ((psT (toS ce (flP ce fi run) 2 F5 108) (toS ce (flP ce fi run) 3 F6 108) (nI (i + 1)) (pcS (toS ce (flP ce fi run) 2 F5 108) (toS ce (flP ce fi run) 3 F6 108) (bgQ ce (flP ce fi run) h F1 F2 F3 F4 liq) i)).2))), (az3, .inl (0, 108, .inl ((psT (toS ce (flP ce fi run) 2 F5 108) (toS ce (flP ce fi run) 3 F6 108) (nI (i + 1)) (pcS (toS ce (flP ce fi run) 2 F5 108) (toS ce (flP ce fi run) 3 F6 108) (bgQ ce (flP ce fi run) h F1 F2 F3 F4 liq) i)).1.2.1))), (az4, .inl (0, 108, .inl ((psT (toS ce (flP ce fi run) 2 F5 108) (toS ce (flP ce fi run) 3 F6 108) (nI (i + 1)) (pcS (toS ce (flP ce fi run) 2 F5 108) (toS ce (flP ce fi run) 3 F6 108) (bgQ ce (flP ce fi run) h F1 F2 F3 F4 liq) i)).1.2.2.1))), (az5, .inl (0, 108, .inl (toS ce (flP ce fi run) 2 F5 108))), (az6, .inl (0, 108, .inl (toS ce (flP ce fi run) 3 F6 108))), (a4, .inl (2, 108, .inl fed)), (a5, .inl (2, 108, .inl seen)), (a6, .inl (0, 108, .inl (fun k => nI (qn k))))]) rfl ?_
          refine r_iinc (lv' := [(3, .int (nI ((i + 1) + 1))), (0, .ref a), (1, .int h), (2, .int (nI k))]) (v := nI ((i + 1) + 1)) d_Tr_cool_47 (j := 0) rfl (nI_add _ _) (by decide) rfl ?_
          refine r_goto (tgt := 27) d_Tr_cool_50 (by decide) ?_
          refine r_lvE (lv2 := [(3, .int (nI ((i + 1) + 1))), (0, .ref a), (1, .int h), (2, .int (nI k))]) (rfl) ?_
          refine r_cs (cs2 := [(a, .inr (10, [.ref a1, .ref a2, .ref az, .ref a4, .ref a5, .ref a6, .int (flR run), .int 0])), (a1, .inl (1, 108, .inl ce)), (a2, .inl (0, 108, .inl (flP ce fi run))), (az, .inr (2, [.ref az1, .ref az2, .ref az3, .ref az4, .ref az5, .ref az6, .int ((pcS (toS ce (flP ce fi run) 2 F5 108) (toS ce (flP ce fi run) 3 F6 108) (bgQ ce (flP ce fi run) h F1 F2 F3 F4 liq) (i + 1)).1.2.2.2)])), (az1, .inl (0, 108, .inl ((pcS (toS ce (flP ce fi run) 2 F5 108) (toS ce (flP ce fi run) 3 F6 108) (bgQ ce (flP ce fi run) h F1 F2 F3 F4 liq) (i + 1)).1.1))), (az2, .inl (0, 108, .inl ((pcS (toS ce (flP ce fi run) 2 F5 108) (toS ce (flP ce fi run) 3 F6 108) (bgQ ce (flP ce fi run) h F1 F2 F3 F4 liq) (i + 1)).2))), (az3, .inl (0, 108, .inl ((pcS (toS ce (flP ce fi run) 2 F5 108) (toS ce (flP ce fi run) 3 F6 108) (bgQ ce (flP ce fi run) h F1 F2 F3 F4 liq) (i + 1)).1.2.1))), (az4, .inl (0, 108, .inl ((pcS (toS ce (flP ce fi run) 2 F5 108) (toS ce (flP ce fi run) 3 F6 108) (bgQ ce (flP ce fi run) h F1 F2 F3 F4 liq) (i + 1)).1.2.2.1))), (az5, .inl (0, 108, .inl (toS ce (flP ce fi run) 2 F5 108))), (az6, .inl (0, 108, .inl (toS ce (flP ce fi run) 3 F6 108))), (a4, .inl (2, 108, .inl fed)), (a5, .inl (2, 108, .inl seen)), (a6, .inl (0, 108, .inl (fun k => nI (qn k))))]) (by rw [pc_n]) ?_
          exact ih (i + 1) (by omega) (by omega)
set_option maxHeartbeats 4000000 in
set_option maxRecDepth 100000 in
theorem C_Tr_cool (g : zG) (a a1 a2 az az1 az2 az3 az4 az5 az6 a4 a5 a6 : Nat) (run fo liq : Int32) (ce fi F1 F2 F3 F4 F5 F6 fed seen : Nat → Int32) (qn : Nat → Nat) (h : Int32) (k : Nat) (hk : k ≤ 400) : CT g M_Tr_cool [.ref a, .int h, .int (nI k)] [(a, .inr (10, [.ref a1, .ref a2, .ref az, .ref a4, .ref a5, .ref a6, .int run, .int fo])), (a1, .inl (1, 108, .inl ce)), (a2, .inl (0, 108, .inl fi)), (az, .inr (2, [.ref az1, .ref az2, .ref az3, .ref az4, .ref az5, .ref az6, .int liq])), (az1, .inl (0, 108, .inl F1)), (az2, .inl (0, 108, .inl F2)), (az3, .inl (0, 108, .inl F3)), (az4, .inl (0, 108, .inl F4)), (az5, .inl (0, 108, .inl F5)), (az6, .inl (0, 108, .inl F6)), (a4, .inl (2, 108, .inl fed)), (a5, .inl (2, 108, .inl seen)), (a6, .inl (0, 108, .inl (fun k => nI (qn k))))] (fun o cs1 => o = .inl none ∧ cs1 = [(a, .inr (10, [.ref a1, .ref a2, .ref az, .ref a4, .ref a5, .ref a6, .int (flR run), .int 0])), (a1, .inl (1, 108, .inl ce)), (a2, .inl (0, 108, .inl (flP ce fi run))), (az, .inr (2, [.ref az1, .ref az2, .ref az3, .ref az4, .ref az5, .ref az6, .int ((pcS (toS ce (flP ce fi run) 2 F5 108) (toS ce (flP ce fi run) 3 F6 108) (bgQ ce (flP ce fi run) h F1 F2 F3 F4 liq) k).1.2.2.2)])), (az1, .inl (0, 108, .inl ((pcS (toS ce (flP ce fi run) 2 F5 108) (toS ce (flP ce fi run) 3 F6 108) (bgQ ce (flP ce fi run) h F1 F2 F3 F4 liq) k).1.1))), (az2, .inl (0, 108, .inl ((pcS (toS ce (flP ce fi run) 2 F5 108) (toS ce (flP ce fi run) 3 F6 108) (bgQ ce (flP ce fi run) h F1 F2 F3 F4 liq) k).2))), (az3, .inl (0, 108, .inl ((pcS (toS ce (flP ce fi run) 2 F5 108) (toS ce (flP ce fi run) 3 F6 108) (bgQ ce (flP ce fi run) h F1 F2 F3 F4 liq) k).1.2.1))), (az4, .inl (0, 108, .inl ((pcS (toS ce (flP ce fi run) 2 F5 108) (toS ce (flP ce fi run) 3 F6 108) (bgQ ce (flP ce fi run) h F1 F2 F3 F4 liq) k).1.2.2.1))), (az5, .inl (0, 108, .inl (toS ce (flP ce fi run) 2 F5 108))), (az6, .inl (0, 108, .inl (toS ce (flP ce fi run) 3 F6 108))), (a4, .inl (2, 108, .inl fed)), (a5, .inl (2, 108, .inl seen)), (a6, .inl (0, 108, .inl (fun k => nI (qn k))))]) 0 0 := by
  refine z_of (by decide) rfl (Nat.le_of_ble_eq_true rfl) (fun w0 => ?_)
  refine r_lvE (lv2 := [(0, .ref a), (1, .int h), (2, .int (nI k))]) rfl ?_
  refine r_aload_n d_Tr_cool_0 rfl 0 rfl ?_
  refine r_iconst d_Tr_cool_1 (v := 0) (by decide) ?_
  refine r_put fp_Tr_46 d_Tr_cool_2 (fun h => nomatch h) rfl rfl (q0 := 0) rfl (Nat.le_of_ble_eq_true rfl) (cs' := [(a, .inr (10, [.ref a1, .ref a2, .ref az, .ref a4, .ref a5, .ref a6, .int run, .int 0])), (a1, .inl (1, 108, .inl ce)), (a2, .inl (0, 108, .inl fi)), (az, .inr (2, [.ref az1, .ref az2, .ref az3, .ref az4, .ref az5, .ref az6, .int liq])), (az1, .inl (0, 108, .inl F1)), (az2, .inl (0, 108, .inl F2)), (az3, .inl (0, 108, .inl F3)), (az4, .inl (0, 108, .inl F4)), (az5, .inl (0, 108, .inl F5)), (az6, .inl (0, 108, .inl F6)), (a4, .inl (2, 108, .inl fed)), (a5, .inl (2, 108, .inl seen)), (a6, .inl (0, 108, .inl (fun k => nI (qn k))))]) rfl ?_
  refine r_aload_n d_Tr_cool_5 rfl 0 rfl ?_
  refine r_callV (As := []) (rest := []) (csC := [(a, .inr (10, [.ref a1, .ref a2, .ref az, .ref a4, .ref a5, .ref a6, .int run, .int 0])), (a1, .inl (1, 108, .inl ce)), (a2, .inl (0, 108, .inl fi))]) (is := [0, 1, 2]) (q0 := 0) rfl rfl ln_Tr_75 w_im_Tr_fill w_se_Tr_fill ok_Tr_cool_Tr_fill d_Tr_cool_6 (C_Tr_fillU g a a1 a2 az a4 a5 a6 run 0 ce fi) rfl rfl (Nat.le_of_ble_eq_true rfl) rfl (by decide) (by omega) (by omega) (fun E cs1 hx => ?_) (fun v cs1 hx => ?_)
  · exact absurd hx.1 (by simp)
  · obtain ⟨e1, rfl⟩ := hx
    cases e1
    refine ⟨rfl, ?_⟩
    refine r_st (st2 := []) rfl ?_
    refine r_cs (cs2 := [(a, .inr (10, [.ref a1, .ref a2, .ref az, .ref a4, .ref a5, .ref a6, .int (flR run), .int 0])), (a1, .inl (1, 108, .inl ce)), (a2, .inl (0, 108, .inl (flP ce fi run))), (az, .inr (2, [.ref az1, .ref az2, .ref az3, .ref az4, .ref az5, .ref az6, .int liq])), (az1, .inl (0, 108, .inl F1)), (az2, .inl (0, 108, .inl F2)), (az3, .inl (0, 108, .inl F3)), (az4, .inl (0, 108, .inl F4)), (az5, .inl (0, 108, .inl F5)), (az6, .inl (0, 108, .inl F6)), (a4, .inl (2, 108, .inl fed)), (a5, .inl (2, 108, .inl seen)), (a6, .inl (0, 108, .inl (fun k => nI (qn k))))]) rfl ?_
    refine r_aload_n d_Tr_cool_9 rfl 0 rfl ?_
    refine r_get fs_Tr_22 d_Tr_cool_10 (q0 := 0) rfl rfl ?_
    refine r_aload_n d_Tr_cool_13 rfl 0 rfl ?_
    refine r_get fs_Tr_9 d_Tr_cool_14 (q0 := 0) rfl rfl ?_
    refine r_aload_n d_Tr_cool_17 rfl 0 rfl ?_
    refine r_get fs_Tr_15 d_Tr_cool_18 (q0 := 0) rfl rfl ?_
    refine r_iload_n d_Tr_cool_21 rfl 1 rfl ?_
    refine r_callV (As := [.ref a1, .ref a2, .int h]) (rest := []) (csC := [(az, .inr (2, [.ref az1, .ref az2, .ref az3, .ref az4, .ref az5, .ref az6, .int liq])), (az1, .inl (0, 108, .inl F1)), (az2, .inl (0, 108, .inl F2)), (az3, .inl (0, 108, .inl F3)), (az4, .inl (0, 108, .inl F4)), (az5, .inl (0, 108, .inl F5)), (az6, .inl (0, 108, .inl F6)), (a1, .inl (1, 108, .inl ce)), (a2, .inl (0, 108, .inl (flP ce fi run)))]) (is := [3, 4, 5, 6, 7, 8, 9, 1, 2]) (q0 := 3) rfl rfl ln_Tr_77 w_im_Fz_begin w_se_Fz_begin ok_Tr_cool_Fz_begin d_Tr_cool_22 (C_Fz_beginQ g az az1 az2 az3 az4 az5 az6 F1 F2 F3 F4 F5 F6 liq a1 a2 ce (flP ce fi run) h) rfl rfl (Nat.le_of_ble_eq_true rfl) rfl (by decide) (by omega) (by omega) (fun E cs1 hx => ?_) (fun v cs1 hx => ?_)
    · exact absurd hx.1 (by simp)
    · obtain ⟨e1, rfl⟩ := hx
      cases e1
      refine ⟨rfl, ?_⟩
      refine r_st (st2 := []) rfl ?_
      refine r_cs (cs2 := [(a, .inr (10, [.ref a1, .ref a2, .ref az, .ref a4, .ref a5, .ref a6, .int (flR run), .int 0])), (a1, .inl (1, 108, .inl ce)), (a2, .inl (0, 108, .inl (flP ce fi run))), (az, .inr (2, [.ref az1, .ref az2, .ref az3, .ref az4, .ref az5, .ref az6, .int ((bgQ ce (flP ce fi run) h F1 F2 F3 F4 liq).1.2.2.2)])), (az1, .inl (0, 108, .inl ((bgQ ce (flP ce fi run) h F1 F2 F3 F4 liq).1.1))), (az2, .inl (0, 108, .inl ((bgQ ce (flP ce fi run) h F1 F2 F3 F4 liq).2))), (az3, .inl (0, 108, .inl ((bgQ ce (flP ce fi run) h F1 F2 F3 F4 liq).1.2.1))), (az4, .inl (0, 108, .inl ((bgQ ce (flP ce fi run) h F1 F2 F3 F4 liq).1.2.2.1))), (az5, .inl (0, 108, .inl (toS ce (flP ce fi run) 2 F5 108))), (az6, .inl (0, 108, .inl (toS ce (flP ce fi run) 3 F6 108))), (a4, .inl (2, 108, .inl fed)), (a5, .inl (2, 108, .inl seen)), (a6, .inl (0, 108, .inl (fun k => nI (qn k))))]) rfl ?_
      refine r_iconst d_Tr_cool_25 (v := 1) (by decide) ?_
      refine r_istore_n (lv' := [(3, .int 1), (0, .ref a), (1, .int h), (2, .int (nI k))]) d_Tr_cool_26 rfl (by decide) rfl ?_
      refine r_lvE (lv2 := [(3, .int (nI (0 + 1))), (0, .ref a), (1, .int h), (2, .int (nI k))]) (rfl) ?_
      refine r_cs (cs2 := [(a, .inr (10, [.ref a1, .ref a2, .ref az, .ref a4, .ref a5, .ref a6, .int (flR run), .int 0])), (a1, .inl (1, 108, .inl ce)), (a2, .inl (0, 108, .inl (flP ce fi run))), (az, .inr (2, [.ref az1, .ref az2, .ref az3, .ref az4, .ref az5, .ref az6, .int ((pcS (toS ce (flP ce fi run) 2 F5 108) (toS ce (flP ce fi run) 3 F6 108) (bgQ ce (flP ce fi run) h F1 F2 F3 F4 liq) 0).1.2.2.2)])), (az1, .inl (0, 108, .inl ((pcS (toS ce (flP ce fi run) 2 F5 108) (toS ce (flP ce fi run) 3 F6 108) (bgQ ce (flP ce fi run) h F1 F2 F3 F4 liq) 0).1.1))), (az2, .inl (0, 108, .inl ((pcS (toS ce (flP ce fi run) 2 F5 108) (toS ce (flP ce fi run) 3 F6 108) (bgQ ce (flP ce fi run) h F1 F2 F3 F4 liq) 0).2))), (az3, .inl (0, 108, .inl ((pcS (toS ce (flP ce fi run) 2 F5 108) (toS ce (flP ce fi run) 3 F6 108) (bgQ ce (flP ce fi run) h F1 F2 F3 F4 liq) 0).1.2.1))), (az4, .inl (0, 108, .inl ((pcS (toS ce (flP ce fi run) 2 F5 108) (toS ce (flP ce fi run) 3 F6 108) (bgQ ce (flP ce fi run) h F1 F2 F3 F4 liq) 0).1.2.2.1))), (az5, .inl (0, 108, .inl (toS ce (flP ce fi run) 2 F5 108))), (az6, .inl (0, 108, .inl (toS ce (flP ce fi run) 3 F6 108))), (a4, .inl (2, 108, .inl fed)), (a5, .inl (2, 108, .inl seen)), (a6, .inl (0, 108, .inl (fun k => nI (qn k))))]) (by rw [pc_0]) ?_
      exact L_Tr_cool_27 g a a1 a2 az az1 az2 az3 az4 az5 az6 a4 a5 a6 run fo liq ce fi F1 F2 F3 F4 F5 F6 fed seen qn h k hk w0 _  (k + 1) 0 (Nat.zero_le _) (by omega)
end
