def ctS (e : Nat) (p s a : Int32) : Int32 := (p * (z_sv 0).getD e 0 + s * (z_sv 1).getD e 0 + a * (z_sv 2).getD e 0) / 100
abbrev zR : Type := Int32 × Int32 × Int32 × Int32
def prS (pp ps pa : Int32) (P A : Nat) : Int32 := nI P * pp + nI (100 - P - A) * ps + nI A * pa
def rcC (le mo si : Int32) (P A : Nat) : Prop := ¬ ctS 0 (nI P) (nI (100 - P - A)) (nI A) < le ∧ ¬ mo < ctS 0 (nI P) (nI (100 - P - A)) (nI A) ∧ ¬ ctS 1 (nI P) (nI (100 - P - A)) (nI A) < si
noncomputable def rcI (le mo si pp ps pa : Int32) (P A : Nat) (s : zR) : zR := @ite _ (rcC le mo si P A ∧ (s.1 < 0 ∨ ¬ s.1 ≤ prS pp ps pa P A)) (Classical.propDecidable _) (prS pp ps pa P A, nI P, nI A, 1) s
theorem rcI_t {le mo si pp ps pa : Int32} {P A : Nat} {s : zR} (h : rcC le mo si P A ∧ (s.1 < 0 ∨ ¬ s.1 ≤ prS pp ps pa P A)) : rcI le mo si pp ps pa P A s = (prS pp ps pa P A, nI P, nI A, 1) := if_pos h
theorem rcI_f {le mo si pp ps pa : Int32} {P A : Nat} {s : zR} (h : ¬ (rcC le mo si P A ∧ (s.1 < 0 ∨ ¬ s.1 ≤ prS pp ps pa P A))) : rcI le mo si pp ps pa P A s = s := if_neg h
noncomputable def rcR (le mo si pp ps pa : Int32) (P : Nat) (s : zR) : Nat → zR
  | 0 => s
  | A + 1 => rcI le mo si pp ps pa P A (rcR le mo si pp ps pa P s A)
def nA (P : Nat) : Nat := if P = 100 then 1 else 11
noncomputable def rcO (le mo si pp ps pa : Int32) (s : zR) : Nat → zR
  | 0 => s
  | k + 1 => rcR le mo si pp ps pa (100 - 10 * k) (rcO le mo si pp ps pa s k) (nA (100 - 10 * k))
def pgI (k : Nat) : Int32 := 100 - nI (10 * k)
theorem nA_c (P : Nat) : P = 100 ∧ nA P = 1 ∨ P ≠ 100 ∧ nA P = 11 := by
  unfold nA
  split
  · exact Or.inl ⟨by assumption, rfl⟩
  · exact Or.inr ⟨by assumption, rfl⟩
theorem pgI_n {k : Nat} (h : k < 11) : pgI k = nI (100 - 10 * k) := pk_sub (a := 100) (by omega)
theorem pgI_s : ∀ k, k < 11 → pgI k + (-10) = pgI (k + 1) := by decide
theorem pgI_neg : ∀ k, k < 12 → (pgI k < 0 ↔ k = 11) := by decide
abbrev M_Re_scrapParts : zM := (⟨"Ironpour$Recipe", "scrapParts", "()I"⟩, prog_11_method_2_code, 1, (Option.some FieldType.int), 1, 20, [])
theorem d_Re_scrapParts_0 : decode prog_11_method_2_code 0 = .ok (.bipush 100, 2) := zo_16 (d := 100) (zd_b zq_prog_11_method_2_code_0 0 rfl rfl rfl) (zd_b zq_prog_11_method_2_code_0 1 rfl rfl rfl) (by decide +kernel)
theorem d_Re_scrapParts_2 : decode prog_11_method_2_code 2 = .ok (.aload_n 0, 1) := zo_42 (zd_b zq_prog_11_method_2_code_0 2 rfl rfl rfl)
theorem d_Re_scrapParts_3 : decode prog_11_method_2_code 3 = .ok (.getfield 11, 3) := zo_180 (d := 0) (e := 11) (zd_b zq_prog_11_method_2_code_0 3 rfl rfl rfl) (zd_b zq_prog_11_method_2_code_0 4 rfl rfl rfl) (zd_b zq_prog_11_method_2_code_0 5 rfl rfl rfl)
theorem u_Re : ∀ x ∈ u_ws R_Re F_Re 3, x ∈ z_gw := fun x hx => List.mem_filter.mpr ⟨(z_au [(2, 27), (2, 29), (2, 31)] (by decide +kernel) : ∀ x ∈ u_ws R_Re F_Re 3, x ∈ lw_tbl) x hx, (show ∀ x ∈ u_ws R_Re F_Re 3, goodWord x = true by decide +kernel) x hx⟩
theorem fs_Re_11 : z_fs "Ironpour$Recipe" 11 9 0 := ⟨R_Re, "Ironpour$Recipe", F_Re, 3, rfl, u_Re, by decide, Or.inl ⟨z_mj2 (i := 22) rfl (by decide +kernel), Or.inl rfl⟩⟩
theorem d_Re_scrapParts_6 : decode prog_11_method_2_code 6 = .ok (.isub, 1) := zo_100 (zd_b zq_prog_11_method_2_code_0 6 rfl rfl rfl)
theorem d_Re_scrapParts_7 : decode prog_11_method_2_code 7 = .ok (.aload_n 0, 1) := zo_42 (zd_b zq_prog_11_method_2_code_0 7 rfl rfl rfl)
theorem d_Re_scrapParts_8 : decode prog_11_method_2_code 8 = .ok (.getfield 15, 3) := zo_180 (d := 0) (e := 15) (zd_b zq_prog_11_method_2_code_0 8 rfl rfl rfl) (zd_b zq_prog_11_method_2_code_0 9 rfl rfl rfl) (zd_b zq_prog_11_method_2_code_0 10 rfl rfl rfl)
theorem fs_Re_15 : z_fs "Ironpour$Recipe" 15 9 1 := ⟨R_Re, "Ironpour$Recipe", F_Re, 3, rfl, u_Re, by decide, Or.inl ⟨z_mj2 (i := 24) rfl (by decide +kernel), Or.inl rfl⟩⟩
theorem d_Re_scrapParts_11 : decode prog_11_method_2_code 11 = .ok (.isub, 1) := zo_100 (zd_b zq_prog_11_method_2_code_0 11 rfl rfl rfl)
theorem d_Re_scrapParts_12 : decode prog_11_method_2_code 12 = .ok (.ireturn, 1) := zo_172 (zd_b zq_prog_11_method_2_code_0 12 rfl rfl rfl)
def S_Re_scrapParts (a : Nat) (p0 a0 f0 : Int32) : Int32 := (100 - p0) - a0
set_option maxHeartbeats 4000000 in
set_option maxRecDepth 100000 in
theorem C_Re_scrapParts (g : zG) (a : Nat) (p0 a0 f0 : Int32) : CT g M_Re_scrapParts [.ref a] [(a, .inr (9, [.int p0, .int a0, .int f0]))] (fun o cs1 => o = .inl (some (.int (S_Re_scrapParts a p0 a0 f0))) ∧ cs1 = [(a, .inr (9, [.int p0, .int a0, .int f0]))]) 0 0 := by
  refine z_of (by decide) rfl (Nat.le_of_ble_eq_true rfl) (fun w0 => ?_)
  refine r_lvE (lv2 := [(0, .ref a)]) rfl ?_
  refine r_bipush d_Re_scrapParts_0 (v := 100) (by decide) ?_
  refine r_aload_n d_Re_scrapParts_2 rfl 0 rfl ?_
  refine r_get fs_Re_11 d_Re_scrapParts_3 (q0 := 0) rfl rfl ?_
  refine r_isub d_Re_scrapParts_6 (v := 100 - p0) rfl ?_
  refine r_aload_n d_Re_scrapParts_7 rfl 0 rfl ?_
  refine r_get fs_Re_15 d_Re_scrapParts_8 (q0 := 0) rfl rfl ?_
  refine r_isub d_Re_scrapParts_11 (v := (100 - p0) - a0) rfl ?_
  refine r_iret d_Re_scrapParts_12 rfl rfl ?_
  exact ⟨rfl, rfl⟩
