section
def moB (f sn : Nat → Int32) (qn : Nat → Nat) (p : Nat) : Int32 := if 0 < (grS f 2 (fa_fill (fun _ => 0) sn 108, qn, 0) 108).2.2 ∨ 0 < ucT f p 12 then 1 else 0
theorem grS_le {f : Nat → Int32} {m : Nat} {S0 : zT} (h0 : S0.2.2 = 0) : ∀ i, (grS f m S0 i).2.2 ≤ i
  | 0 => by show S0.2.2 ≤ 0; omega
  | i + 1 => by
    have ih := grS_le (f := f) (m := m) h0 i
    by_cases q : f i = 111 ∧ (grS f m S0 i).1 i = 0
    · by_cases q2 : (bgB f (grS f m S0 i).1 (grS f m S0 i).2.1 i).2 < m
      · rw [grS_t q q2]; show _ + 1 ≤ _; omega
      · rw [grS_n q q2]; show (grS f m S0 i).2.2 ≤ i + 1; omega
    · rw [grS_f q]; omega
theorem ucT_le {f : Nat → Int32} {p : Nat} (hp : p < 9) : ∀ x, ucT f p x ≤ 9 * x
  | 0 => Nat.zero_le _
  | x + 1 => by
    have ih := ucT_le (f := f) hp x
    have h1 := ucS_le (ks := fun k => f ((p - 1 - k) * 12 + x)) p
    have h2 := ucS_le (ks := fun k => f ((p + k) * 12 + x)) (9 - p)
    show ucT f p x + ((ucS (fun k => f ((p - 1 - k) * 12 + x)) p).2 + (ucS (fun k => f ((p + k) * 12 + x)) (9 - p)).2) ≤ _
    omega
def mo1 (bad sp sr : Int32) : Int32 := if sp ≤ sr then (if bad = 0 then 0 else 16) else (if bad = 0 then 0 else 16) ||| 4
def moF (bad sp sr dr wa wt : Int32) : Int32 := if 80 ≤ dr then (if wt ≤ 60 then mo1 bad sp sr else mo1 bad sp sr ||| 8) else if 40 < wa then mo1 bad sp sr ||| 8 else (if wt ≤ 60 then mo1 bad sp sr else mo1 bad sp sr ||| 8)
def beI (mg : Int32) (gr : Nat → Int64) (ir : Int32) : Int32 := if mg < 20 then 500 - 2 * (if 0 < caI gr ir - 300 then caI gr ir - 300 else 0) else 400 + 2 * mg
def bbI (mg : Int32) (gr : Nat → Int64) (ir fb : Int32) : Int32 := if 0 < beI mg gr ir - 30 * S_In_bitCount fb then beI mg gr ir - 30 * S_In_bitCount fb else 0
def ihB (mg : Int32) (gr : Nat → Int64) (ir : Int32) : Bool := decide (caI gr ir < 370 ∨ (¬ mg ≤ 0 ∧ mg < 20))
def hfB (fb k : Int32) : Bool := decide (¬ fb &&& k = 0)
abbrev M_Mo_init : zM := (⟨"Ironpour$Mould", "<init>", "(LIronpour$Pattern;LIronpour$GreenSand;)V"⟩, prog_9_method_1_code, 3, (Option.none : Option FieldType), 5, 111, [])
theorem d_Mo_init_0 : decode prog_9_method_1_code 0 = .ok (.aload_n 0, 1) := zo_42 (zd_b zq_prog_9_method_1_code_0 0 rfl rfl rfl)
theorem d_Mo_init_1 : decode prog_9_method_1_code 1 = .ok (.invokespecial 3, 3) := zo_183 (d := 0) (e := 3) (zd_b zq_prog_9_method_1_code_0 1 rfl rfl rfl) (zd_b zq_prog_9_method_1_code_0 2 rfl rfl rfl) (zd_b zq_prog_9_method_1_code_0 3 rfl rfl rfl)
theorem ln_Mo_3 : Cond.methodLink "Ironpour$Mould" 3 Lib.objectInit ∈ z_gw := z_mj5 (i := 235) rfl (by decide +kernel)
theorem d_Mo_init_4 : decode prog_9_method_1_code 4 = .ok (.aload_n 0, 1) := zo_42 (zd_b zq_prog_9_method_1_code_0 4 rfl rfl rfl)
theorem d_Mo_init_5 : decode prog_9_method_1_code 5 = .ok (.bipush 108, 2) := zo_16 (d := 108) (zd_b zq_prog_9_method_1_code_0 5 rfl rfl rfl) (zd_b zq_prog_9_method_1_code_0 6 rfl rfl rfl) (by decide +kernel)
theorem d_Mo_init_7 : decode prog_9_method_1_code 7 = .ok (.newarray .char, 2) := by decide +kernel
theorem d_Mo_init_9 : decode prog_9_method_1_code 9 = .ok (.putfield 9, 3) := zo_181 (d := 0) (e := 9) (zd_b zq_prog_9_method_1_code_0 9 rfl rfl rfl) (zd_b zq_prog_9_method_1_code_0 10 rfl rfl rfl) (zd_b zq_prog_9_method_1_code_0 11 rfl rfl rfl)
theorem u_Mo : ∀ x ∈ u_ws R_Mo F_Mo 8, x ∈ z_gw := fun x hx => List.mem_filter.mpr ⟨(z_au [(6, 14), (6, 16), (6, 18), (6, 20), (6, 22), (6, 24), (6, 26), (6, 28)] (by decide +kernel) : ∀ x ∈ u_ws R_Mo F_Mo 8, x ∈ lw_tbl) x hx, (show ∀ x ∈ u_ws R_Mo F_Mo 8, goodWord x = true by decide +kernel) x hx⟩
theorem fp_Mo_9 : z_fp "Ironpour$Mould" 9 7 0 true (t_Mo 0) := ⟨R_Mo, "Ironpour$Mould", F_Mo, 8, t_Mo, rfl, u_Mo, by decide, t_Mo_ok, n_Mo, rfl, rfl, Or.inl ⟨z_mj6 (i := 3) rfl (by decide +kernel), Or.inl rfl, fun _ => ⟨rfl, rfl⟩⟩⟩
theorem d_Mo_init_12 : decode prog_9_method_1_code 12 = .ok (.aload_n 1, 1) := zo_43 (zd_b zq_prog_9_method_1_code_0 12 rfl rfl rfl)
theorem d_Mo_init_13 : decode prog_9_method_1_code 13 = .ok (.getfield 15, 3) := zo_180 (d := 0) (e := 15) (zd_b zq_prog_9_method_1_code_0 13 rfl rfl rfl) (zd_b zq_prog_9_method_1_code_0 14 rfl rfl rfl) (zd_b zq_prog_9_method_1_code_0 15 rfl rfl rfl)
theorem fs_Mo_15 : z_fs "Ironpour$Mould" 15 8 0 := ⟨R_Pa, "Ironpour$Pattern", F_Pa, 4, rfl, u_Pa, by decide, Or.inr ⟨"Ironpour", z_mk1 (i := 53) rfl (by decide +kernel), rfl⟩⟩
theorem d_Mo_init_16 : decode prog_9_method_1_code 16 = .ok (.iconst 0, 1) := zo_3 (zd_b zq_prog_9_method_1_code_0 16 rfl rfl rfl)
theorem d_Mo_init_17 : decode prog_9_method_1_code 17 = .ok (.aload_n 0, 1) := zo_42 (zd_b zq_prog_9_method_1_code_0 17 rfl rfl rfl)
theorem d_Mo_init_18 : decode prog_9_method_1_code 18 = .ok (.getfield 9, 3) := zo_180 (d := 0) (e := 9) (zd_b zq_prog_9_method_1_code_0 18 rfl rfl rfl) (zd_b zq_prog_9_method_1_code_0 19 rfl rfl rfl) (zd_b zq_prog_9_method_1_code_0 20 rfl rfl rfl)
theorem fs_Mo_9 : z_fs "Ironpour$Mould" 9 7 0 := ⟨R_Mo, "Ironpour$Mould", F_Mo, 8, rfl, u_Mo, by decide, Or.inl ⟨z_mj6 (i := 3) rfl (by decide +kernel), Or.inl rfl⟩⟩
theorem d_Mo_init_21 : decode prog_9_method_1_code 21 = .ok (.iconst 0, 1) := zo_3 (zd_b zq_prog_9_method_1_code_0 21 rfl rfl rfl)
theorem d_Mo_init_22 : decode prog_9_method_1_code 22 = .ok (.bipush 108, 2) := zo_16 (d := 108) (zd_b zq_prog_9_method_1_code_0 22 rfl rfl rfl) (zd_b zq_prog_9_method_1_code_0 23 rfl rfl rfl) (by decide +kernel)
theorem d_Mo_init_24 : decode prog_9_method_1_code 24 = .ok (.invokestatic 18, 3) := zo_184 (d := 0) (e := 18) (zd_b zq_prog_9_method_1_code_0 24 rfl rfl rfl) (zd_b zq_prog_9_method_1_code_0 25 rfl rfl rfl) (zd_b zq_prog_9_method_1_code_0 26 rfl rfl rfl)
theorem ln_Mo_18 : Cond.methodLink "Ironpour$Mould" 18 arraycopyName ∈ z_gw := z_mj5 (i := 236) rfl (by decide +kernel)
theorem d_Mo_init_27 : decode prog_9_method_1_code 27 = .ok (.aload_n 0, 1) := zo_42 (zd_b zq_prog_9_method_1_code_0 27 rfl rfl rfl)
theorem d_Mo_init_28 : decode prog_9_method_1_code 28 = .ok (.aload_n 1, 1) := zo_43 (zd_b zq_prog_9_method_1_code_0 28 rfl rfl rfl)
theorem d_Mo_init_29 : decode prog_9_method_1_code 29 = .ok (.invokevirtual 24, 3) := zo_182 (d := 0) (e := 24) (zd_b zq_prog_9_method_1_code_0 29 rfl rfl rfl) (zd_b zq_prog_9_method_1_code_0 30 rfl rfl rfl) (zd_b zq_prog_9_method_1_code_0 31 rfl rfl rfl)
theorem ok_Mo_init_Pa_metalCells : z_ok M_Mo_init M_Pa_metalCells 0 := ⟨z_mj2 (i := 149) rfl (by decide +kernel), rfl, ⟨by decide +kernel, by decide +kernel, by decide +kernel⟩, ⟨by decide, by decide⟩, z_mj1 (i := 2) rfl (by decide +kernel), rfl⟩
theorem ln_Mo_24 : Cond.methodLink "Ironpour$Mould" 24 M_Pa_metalCells.1 ∈ z_gw := z_mj5 (i := 237) rfl (by decide +kernel)
theorem w_im_Pa_metalCells : Cond.instanceMethod M_Pa_metalCells.1 ∈ z_gw := z_mj2 (i := 147) rfl (by decide +kernel)
theorem w_se_Pa_metalCells : Cond.selects M_Pa_metalCells.1.cls M_Pa_metalCells.1 M_Pa_metalCells.1 ∈ z_gw := z_mj2 (i := 148) rfl (by decide +kernel)
theorem d_Mo_init_32 : decode prog_9_method_1_code 32 = .ok (.putfield 28, 3) := zo_181 (d := 0) (e := 28) (zd_b zq_prog_9_method_1_code_1 0 rfl rfl rfl) (zd_b zq_prog_9_method_1_code_1 1 rfl rfl rfl) (zd_b zq_prog_9_method_1_code_1 2 rfl rfl rfl)
theorem fp_Mo_28 : z_fp "Ironpour$Mould" 28 7 1 true .int := ⟨R_Mo, "Ironpour$Mould", F_Mo, 8, t_Mo, rfl, u_Mo, by decide, t_Mo_ok, n_Mo, rfl, rfl, Or.inl ⟨z_mj6 (i := 5) rfl (by decide +kernel), Or.inl rfl, fun _ => ⟨rfl, rfl⟩⟩⟩
theorem d_Mo_init_35 : decode prog_9_method_1_code 35 = .ok (.aload_n 0, 1) := zo_42 (zd_b zq_prog_9_method_1_code_1 3 rfl rfl rfl)
theorem d_Mo_init_36 : decode prog_9_method_1_code 36 = .ok (.aload_n 1, 1) := zo_43 (zd_b zq_prog_9_method_1_code_1 4 rfl rfl rfl)
theorem d_Mo_init_37 : decode prog_9_method_1_code 37 = .ok (.invokevirtual 31, 3) := zo_182 (d := 0) (e := 31) (zd_b zq_prog_9_method_1_code_1 5 rfl rfl rfl) (zd_b zq_prog_9_method_1_code_1 6 rfl rfl rfl) (zd_b zq_prog_9_method_1_code_1 7 rfl rfl rfl)
theorem ok_Mo_init_Pa_runningSpeed : z_ok M_Mo_init M_Pa_runningSpeed 0 := ⟨z_mj4 (i := 83) rfl (by decide +kernel), rfl, ⟨by decide +kernel, by decide +kernel, by decide +kernel⟩, ⟨by decide, by decide⟩, z_mj1 (i := 2) rfl (by decide +kernel), rfl⟩
theorem ln_Mo_31 : Cond.methodLink "Ironpour$Mould" 31 M_Pa_runningSpeed.1 ∈ z_gw := z_mj5 (i := 238) rfl (by decide +kernel)
theorem w_im_Pa_runningSpeed : Cond.instanceMethod M_Pa_runningSpeed.1 ∈ z_gw := z_mj4 (i := 81) rfl (by decide +kernel)
theorem w_se_Pa_runningSpeed : Cond.selects M_Pa_runningSpeed.1.cls M_Pa_runningSpeed.1 M_Pa_runningSpeed.1 ∈ z_gw := z_mj4 (i := 82) rfl (by decide +kernel)
theorem d_Mo_init_40 : decode prog_9_method_1_code 40 = .ok (.putfield 34, 3) := zo_181 (d := 0) (e := 34) (zd_b zq_prog_9_method_1_code_1 8 rfl rfl rfl) (zd_b zq_prog_9_method_1_code_1 9 rfl rfl rfl) (zd_b zq_prog_9_method_1_code_1 10 rfl rfl rfl)
theorem fp_Mo_34 : z_fp "Ironpour$Mould" 34 7 2 true .int := ⟨R_Mo, "Ironpour$Mould", F_Mo, 8, t_Mo, rfl, u_Mo, by decide, t_Mo_ok, n_Mo, rfl, rfl, Or.inl ⟨z_mj6 (i := 7) rfl (by decide +kernel), Or.inl rfl, fun _ => ⟨rfl, rfl⟩⟩⟩
theorem d_Mo_init_43 : decode prog_9_method_1_code 43 = .ok (.aload_n 0, 1) := zo_42 (zd_b zq_prog_9_method_1_code_1 11 rfl rfl rfl)
theorem d_Mo_init_44 : decode prog_9_method_1_code 44 = .ok (.aload_n 1, 1) := zo_43 (zd_b zq_prog_9_method_1_code_1 12 rfl rfl rfl)
theorem d_Mo_init_45 : decode prog_9_method_1_code 45 = .ok (.invokevirtual 37, 3) := zo_182 (d := 0) (e := 37) (zd_b zq_prog_9_method_1_code_1 13 rfl rfl rfl) (zd_b zq_prog_9_method_1_code_1 14 rfl rfl rfl) (zd_b zq_prog_9_method_1_code_1 15 rfl rfl rfl)
theorem ok_Mo_init_Pa_looseGroups : z_ok M_Mo_init M_Pa_looseGroups 0 := ⟨z_mj2 (i := 141) rfl (by decide +kernel), rfl, ⟨by decide +kernel, by decide +kernel, by decide +kernel⟩, ⟨by decide, by decide⟩, z_mj1 (i := 2) rfl (by decide +kernel), rfl⟩
theorem ln_Mo_37 : Cond.methodLink "Ironpour$Mould" 37 M_Pa_looseGroups.1 ∈ z_gw := z_mj5 (i := 239) rfl (by decide +kernel)
theorem w_im_Pa_looseGroups : Cond.instanceMethod M_Pa_looseGroups.1 ∈ z_gw := z_mj2 (i := 139) rfl (by decide +kernel)
theorem w_se_Pa_looseGroups : Cond.selects M_Pa_looseGroups.1.cls M_Pa_looseGroups.1 M_Pa_looseGroups.1 ∈ z_gw := z_mj2 (i := 140) rfl (by decide +kernel)
theorem d_Mo_init_48 : decode prog_9_method_1_code 48 = .ok (.ifCond .gt 10, 3) := zo_157 (d := 0) (e := 10) (zd_b zq_prog_9_method_1_code_1 16 rfl rfl rfl) (zd_b zq_prog_9_method_1_code_1 17 rfl rfl rfl) (zd_b zq_prog_9_method_1_code_1 18 rfl rfl rfl) (by decide +kernel)
theorem d_Mo_init_58 : decode prog_9_method_1_code 58 = .ok (.iconst 1, 1) := zo_4 (zd_b zq_prog_9_method_1_code_1 26 rfl rfl rfl)
theorem d_Mo_init_59 : decode prog_9_method_1_code 59 = .ok (.goto 4, 3) := zo_167 (d := 0) (e := 4) (zd_b zq_prog_9_method_1_code_1 27 rfl rfl rfl) (zd_b zq_prog_9_method_1_code_1 28 rfl rfl rfl) (zd_b zq_prog_9_method_1_code_1 29 rfl rfl rfl) (by decide +kernel)
theorem d_Mo_init_63 : decode prog_9_method_1_code 63 = .ok (.putfield 43, 3) := zo_181 (d := 0) (e := 43) (zd_b zq_prog_9_method_1_code_1 31 rfl rfl rfl) (zd_b zq_prog_9_method_1_code_2 0 rfl rfl rfl) (zd_b zq_prog_9_method_1_code_2 1 rfl rfl rfl)
theorem fp_Mo_43 : z_fp "Ironpour$Mould" 43 7 3 true .boolean := ⟨R_Mo, "Ironpour$Mould", F_Mo, 8, t_Mo, rfl, u_Mo, by decide, t_Mo_ok, n_Mo, rfl, rfl, Or.inl ⟨z_mj6 (i := 8) rfl (by decide +kernel), Or.inl rfl, fun _ => ⟨rfl, rfl⟩⟩⟩
theorem d_Mo_init_66 : decode prog_9_method_1_code 66 = .ok (.aload_n 0, 1) := zo_42 (zd_b zq_prog_9_method_1_code_2 2 rfl rfl rfl)
theorem d_Mo_init_67 : decode prog_9_method_1_code 67 = .ok (.aload_n 2, 1) := zo_44 (zd_b zq_prog_9_method_1_code_2 3 rfl rfl rfl)
theorem d_Mo_init_68 : decode prog_9_method_1_code 68 = .ok (.invokevirtual 47, 3) := zo_182 (d := 0) (e := 47) (zd_b zq_prog_9_method_1_code_2 4 rfl rfl rfl) (zd_b zq_prog_9_method_1_code_2 5 rfl rfl rfl) (zd_b zq_prog_9_method_1_code_2 6 rfl rfl rfl)
theorem ok_Mo_init_GS_strength : z_ok M_Mo_init M_GS_strength 0 := ⟨z_mj4 (i := 184) rfl (by decide +kernel), rfl, ⟨by decide +kernel, by decide +kernel, by decide +kernel⟩, ⟨by decide, by decide⟩, z_mj1 (i := 5) rfl (by decide +kernel), rfl⟩
theorem ln_Mo_47 : Cond.methodLink "Ironpour$Mould" 47 M_GS_strength.1 ∈ z_gw := z_mj6 (i := 1) rfl (by decide +kernel)
theorem w_im_GS_strength : Cond.instanceMethod M_GS_strength.1 ∈ z_gw := z_mj4 (i := 182) rfl (by decide +kernel)
theorem w_se_GS_strength : Cond.selects M_GS_strength.1.cls M_GS_strength.1 M_GS_strength.1 ∈ z_gw := z_mj4 (i := 183) rfl (by decide +kernel)
theorem d_Mo_init_71 : decode prog_9_method_1_code 71 = .ok (.putfield 52, 3) := zo_181 (d := 0) (e := 52) (zd_b zq_prog_9_method_1_code_2 7 rfl rfl rfl) (zd_b zq_prog_9_method_1_code_2 8 rfl rfl rfl) (zd_b zq_prog_9_method_1_code_2 9 rfl rfl rfl)
theorem fp_Mo_52 : z_fp "Ironpour$Mould" 52 7 4 true .int := ⟨R_Mo, "Ironpour$Mould", F_Mo, 8, t_Mo, rfl, u_Mo, by decide, t_Mo_ok, n_Mo, rfl, rfl, Or.inl ⟨z_mj6 (i := 9) rfl (by decide +kernel), Or.inl rfl, fun _ => ⟨rfl, rfl⟩⟩⟩
theorem d_Mo_init_74 : decode prog_9_method_1_code 74 = .ok (.aload_n 0, 1) := zo_42 (zd_b zq_prog_9_method_1_code_2 10 rfl rfl rfl)
theorem d_Mo_init_75 : decode prog_9_method_1_code 75 = .ok (.aload_n 2, 1) := zo_44 (zd_b zq_prog_9_method_1_code_2 11 rfl rfl rfl)
theorem d_Mo_init_76 : decode prog_9_method_1_code 76 = .ok (.invokevirtual 54, 3) := zo_182 (d := 0) (e := 54) (zd_b zq_prog_9_method_1_code_2 12 rfl rfl rfl) (zd_b zq_prog_9_method_1_code_2 13 rfl rfl rfl) (zd_b zq_prog_9_method_1_code_2 14 rfl rfl rfl)
theorem ok_Mo_init_GS_draught : z_ok M_Mo_init M_GS_draught 0 := ⟨z_mj4 (i := 199) rfl (by decide +kernel), rfl, ⟨by decide +kernel, by decide +kernel, by decide +kernel⟩, ⟨by decide, by decide⟩, z_mj1 (i := 5) rfl (by decide +kernel), rfl⟩
theorem ln_Mo_54 : Cond.methodLink "Ironpour$Mould" 54 M_GS_draught.1 ∈ z_gw := z_mj6 (i := 2) rfl (by decide +kernel)
theorem w_im_GS_draught : Cond.instanceMethod M_GS_draught.1 ∈ z_gw := z_mj4 (i := 197) rfl (by decide +kernel)
theorem w_se_GS_draught : Cond.selects M_GS_draught.1.cls M_GS_draught.1 M_GS_draught.1 ∈ z_gw := z_mj4 (i := 198) rfl (by decide +kernel)
theorem d_Mo_init_79 : decode prog_9_method_1_code 79 = .ok (.putfield 57, 3) := zo_181 (d := 0) (e := 57) (zd_b zq_prog_9_method_1_code_2 15 rfl rfl rfl) (zd_b zq_prog_9_method_1_code_2 16 rfl rfl rfl) (zd_b zq_prog_9_method_1_code_2 17 rfl rfl rfl)
theorem fp_Mo_57 : z_fp "Ironpour$Mould" 57 7 5 true .int := ⟨R_Mo, "Ironpour$Mould", F_Mo, 8, t_Mo, rfl, u_Mo, by decide, t_Mo_ok, n_Mo, rfl, rfl, Or.inl ⟨z_mj6 (i := 10) rfl (by decide +kernel), Or.inl rfl, fun _ => ⟨rfl, rfl⟩⟩⟩
theorem d_Mo_init_82 : decode prog_9_method_1_code 82 = .ok (.aload_n 0, 1) := zo_42 (zd_b zq_prog_9_method_1_code_2 18 rfl rfl rfl)
theorem d_Mo_init_83 : decode prog_9_method_1_code 83 = .ok (.aload_n 2, 1) := zo_44 (zd_b zq_prog_9_method_1_code_2 19 rfl rfl rfl)
theorem d_Mo_init_84 : decode prog_9_method_1_code 84 = .ok (.getfield 59, 3) := zo_180 (d := 0) (e := 59) (zd_b zq_prog_9_method_1_code_2 20 rfl rfl rfl) (zd_b zq_prog_9_method_1_code_2 21 rfl rfl rfl) (zd_b zq_prog_9_method_1_code_2 22 rfl rfl rfl)
theorem fs_Mo_59 : z_fs "Ironpour$Mould" 59 4 1 := ⟨R_GS, "Ironpour$GreenSand", F_GS, 5, rfl, u_GS, by decide, Or.inr ⟨"Ironpour", z_mk1 (i := 147) rfl (by decide +kernel), rfl⟩⟩
theorem d_Mo_init_87 : decode prog_9_method_1_code 87 = .ok (.putfield 62, 3) := zo_181 (d := 0) (e := 62) (zd_b zq_prog_9_method_1_code_2 23 rfl rfl rfl) (zd_b zq_prog_9_method_1_code_2 24 rfl rfl rfl) (zd_b zq_prog_9_method_1_code_2 25 rfl rfl rfl)
theorem fp_Mo_62 : z_fp "Ironpour$Mould" 62 7 6 true .int := ⟨R_Mo, "Ironpour$Mould", F_Mo, 8, t_Mo, rfl, u_Mo, by decide, t_Mo_ok, n_Mo, rfl, rfl, Or.inl ⟨z_mj6 (i := 11) rfl (by decide +kernel), Or.inl rfl, fun _ => ⟨rfl, rfl⟩⟩⟩
theorem d_Mo_init_90 : decode prog_9_method_1_code 90 = .ok (.return_, 1) := zo_177 (zd_b zq_prog_9_method_1_code_2 26 rfl rfl rfl)
theorem d_Mo_init_51 : decode prog_9_method_1_code 51 = .ok (.aload_n 1, 1) := zo_43 (zd_b zq_prog_9_method_1_code_1 19 rfl rfl rfl)
theorem d_Mo_init_52 : decode prog_9_method_1_code 52 = .ok (.invokevirtual 40, 3) := zo_182 (d := 0) (e := 40) (zd_b zq_prog_9_method_1_code_1 20 rfl rfl rfl) (zd_b zq_prog_9_method_1_code_1 21 rfl rfl rfl) (zd_b zq_prog_9_method_1_code_1 22 rfl rfl rfl)
theorem ok_Mo_init_Pa_undercutCells : z_ok M_Mo_init M_Pa_undercutCells 0 := ⟨z_mj2 (i := 107) rfl (by decide +kernel), rfl, ⟨by decide +kernel, by decide +kernel, by decide +kernel⟩, ⟨by decide, by decide⟩, z_mj1 (i := 2) rfl (by decide +kernel), rfl⟩
theorem ln_Mo_40 : Cond.methodLink "Ironpour$Mould" 40 M_Pa_undercutCells.1 ∈ z_gw := z_mj6 (i := 0) rfl (by decide +kernel)
theorem w_im_Pa_undercutCells : Cond.instanceMethod M_Pa_undercutCells.1 ∈ z_gw := z_mj2 (i := 105) rfl (by decide +kernel)
theorem w_se_Pa_undercutCells : Cond.selects M_Pa_undercutCells.1.cls M_Pa_undercutCells.1 M_Pa_undercutCells.1 ∈ z_gw := z_mj2 (i := 106) rfl (by decide +kernel)
theorem d_Mo_init_55 : decode prog_9_method_1_code 55 = .ok (.ifCond .le 7, 3) := zo_158 (d := 0) (e := 7) (zd_b zq_prog_9_method_1_code_1 23 rfl rfl rfl) (zd_b zq_prog_9_method_1_code_1 24 rfl rfl rfl) (zd_b zq_prog_9_method_1_code_1 25 rfl rfl rfl) (by decide +kernel)
theorem d_Mo_init_62 : decode prog_9_method_1_code 62 = .ok (.iconst 0, 1) := zo_3 (zd_b zq_prog_9_method_1_code_1 30 rfl rfl rfl)
set_option maxHeartbeats 4000000 in
set_option maxRecDepth 100000 in
theorem C_Mo_init (g : zG) (a b b1 b2 b3 c : Nat) (f sn : Nat → Int32) (qn : Nat → Nat) (p : Nat) (hp1 : 1 ≤ p) (hp : p < 9) (cl wa co fi bu : Int32) (hf : z_ch f) : CT g M_Mo_init [.ref a, .ref b, .ref c] [(a, .inr (7, [.null, .int 0, .int 0, .int 0, .int 0, .int 0, .int 0, .int 0])), (b, .inr (8, [.ref b1, .ref b2, .ref b3, .int (nI p)])), (b1, .inl (1, 108, .inl f)), (b2, .inl (2, 108, .inl sn)), (b3, .inl (0, 108, .inl (fun k => nI (qn k)))), (c, .inr (4, [.int cl, .int wa, .int co, .int fi, .int bu]))] (fun o cs1 => ∃ a1, o = .inl none ∧ cs1 = [(a, .inr (7, [.ref a1, .int (nI (fa_cnt (fun k => tmB (f k)) 108)), .int (rsR f), .int (moB f sn qn p), .int (S_GS_strength c cl wa co fi bu), .int (S_GS_draught c cl wa co fi bu), .int wa, .int 0])), (b, .inr (8, [.ref b1, .ref b2, .ref b3, .int (nI p)])), (b1, .inl (1, 108, .inl f)), (b2, .inl (2, 108, .inl ((grS f 2 (fa_fill (fun _ => 0) sn 108, qn, 0) 108).1))), (b3, .inl (0, 108, .inl (fun k => nI ((grS f 2 (fa_fill (fun _ => 0) sn 108, qn, 0) 108).2.1 k)))), (c, .inr (4, [.int cl, .int wa, .int co, .int fi, .int bu])), (a1, .inl (1, 108, .inl (fa_fill f (fun _ => 0) 108)))]) 1 108 := by
  refine z_of (by decide) rfl (Nat.le_of_ble_eq_true rfl) (fun w0 => ?_)
  refine r_lvE (lv2 := [(0, .ref a), (1, .ref b), (2, .ref c)]) rfl ?_
  refine r_aload_n d_Mo_init_0 rfl 0 rfl ?_
  refine r_objInit ln_Mo_3 w_oi1 w_oi2 d_Mo_init_1 (by decide) (by decide) (Nat.le_of_ble_eq_true rfl) ?_
  refine r_aload_n d_Mo_init_4 rfl 0 rfl ?_
  refine r_bipush d_Mo_init_5 (v := 108) (by decide) ?_
  refine r_newa_char (N := 108) ac_char d_Mo_init_7 (by decide) (by decide) (by decide) (by omega) (by omega) (fun a1 => ?_)
  refine r_cs (cs2 := [(a, .inr (7, [.null, .int 0, .int 0, .int 0, .int 0, .int 0, .int 0, .int 0])), (b, .inr (8, [.ref b1, .ref b2, .ref b3, .int (nI p)])), (b1, .inl (1, 108, .inl f)), (b2, .inl (2, 108, .inl sn)), (b3, .inl (0, 108, .inl (fun k => nI (qn k)))), (c, .inr (4, [.int cl, .int wa, .int co, .int fi, .int bu])), (a1, .inl (1, 108, .inl (fun _ => 0)))]) rfl ?_
  refine r_put fp_Mo_9 d_Mo_init_9 (fun _ => rfl) rfl rfl (q0 := 0) rfl (Nat.le_of_ble_eq_true rfl) (cs' := [(a, .inr (7, [.ref a1, .int 0, .int 0, .int 0, .int 0, .int 0, .int 0, .int 0])), (b, .inr (8, [.ref b1, .ref b2, .ref b3, .int (nI p)])), (b1, .inl (1, 108, .inl f)), (b2, .inl (2, 108, .inl sn)), (b3, .inl (0, 108, .inl (fun k => nI (qn k)))), (c, .inr (4, [.int cl, .int wa, .int co, .int fi, .int bu])), (a1, .inl (1, 108, .inl (fun _ => 0)))]) rfl ?_
  refine r_aload_n d_Mo_init_12 rfl 1 rfl ?_
  refine r_get fs_Mo_15 d_Mo_init_13 (q0 := 1) rfl rfl ?_
  refine r_iconst d_Mo_init_16 (v := 0) (by decide) ?_
  refine r_aload_n d_Mo_init_17 rfl 0 rfl ?_
  refine r_get fs_Mo_9 d_Mo_init_18 (q0 := 0) rfl rfl ?_
  refine r_iconst d_Mo_init_21 (v := 0) (by decide) ?_
  refine r_bipush d_Mo_init_22 (v := 108) (by decide) ?_
  refine r_copyc (m := 108) (f' := fa_fill f (fun _ => 0) 108) (q0 := 2) (q1 := 6) (cs' := [(a, .inr (7, [.ref a1, .int 0, .int 0, .int 0, .int 0, .int 0, .int 0, .int 0])), (b, .inr (8, [.ref b1, .ref b2, .ref b3, .int (nI p)])), (b1, .inl (1, 108, .inl f)), (b2, .inl (2, 108, .inl sn)), (b3, .inl (0, 108, .inl (fun k => nI (qn k)))), (c, .inr (4, [.int cl, .int wa, .int co, .int fi, .int bu])), (a1, .inl (1, 108, .inl (fa_fill f (fun _ => 0) 108)))]) rfl ln_Mo_18 w_ac1 w_ac2 w_ac3 d_Mo_init_24 rfl rfl (by decide) (by decide) (by decide) (fun i hi => z_kind_f (hf i hi)) rfl rfl (by decide) (by decide +kernel) (Nat.le_of_ble_eq_true rfl) ?_
  refine r_aload_n d_Mo_init_27 rfl 0 rfl ?_
  refine r_aload_n d_Mo_init_28 rfl 1 rfl ?_
  refine r_callV (As := []) (rest := [.ref a]) (csC := [(b, .inr (8, [.ref b1, .ref b2, .ref b3, .int (nI p)])), (b1, .inl (1, 108, .inl f)), (b2, .inl (2, 108, .inl sn)), (b3, .inl (0, 108, .inl (fun k => nI (qn k))))]) (is := [1, 2, 3, 4]) (q0 := 1) rfl rfl ln_Mo_24 w_im_Pa_metalCells w_se_Pa_metalCells ok_Mo_init_Pa_metalCells d_Mo_init_29 (C_Pa_metalCells g b b1 b2 b3 f sn (fun k => nI (qn k)) (nI p)) rfl rfl (Nat.le_of_ble_eq_true rfl) rfl (by decide) (by omega) (by omega) (fun E cs1 hx => ?_) (fun v cs1 hx => ?_)
  · exact absurd hx.1 (by simp)
  · obtain ⟨e1, rfl⟩ := hx
    cases e1
    refine ⟨rfl, ?_⟩
    refine r_st (st2 := [.int (nI (fa_cnt (fun k => tmB (f k)) 108)), .ref a]) rfl ?_
    refine r_cs (cs2 := [(a, .inr (7, [.ref a1, .int 0, .int 0, .int 0, .int 0, .int 0, .int 0, .int 0])), (b, .inr (8, [.ref b1, .ref b2, .ref b3, .int (nI p)])), (b1, .inl (1, 108, .inl f)), (b2, .inl (2, 108, .inl sn)), (b3, .inl (0, 108, .inl (fun k => nI (qn k)))), (c, .inr (4, [.int cl, .int wa, .int co, .int fi, .int bu])), (a1, .inl (1, 108, .inl (fa_fill f (fun _ => 0) 108)))]) rfl ?_
    refine r_put fp_Mo_28 d_Mo_init_32 (fun _ => rfl) rfl rfl (q0 := 0) rfl (Nat.le_of_ble_eq_true rfl) (cs' := [(a, .inr (7, [.ref a1, .int (nI (fa_cnt (fun k => tmB (f k)) 108)), .int 0, .int 0, .int 0, .int 0, .int 0, .int 0])), (b, .inr (8, [.ref b1, .ref b2, .ref b3, .int (nI p)])), (b1, .inl (1, 108, .inl f)), (b2, .inl (2, 108, .inl sn)), (b3, .inl (0, 108, .inl (fun k => nI (qn k)))), (c, .inr (4, [.int cl, .int wa, .int co, .int fi, .int bu])), (a1, .inl (1, 108, .inl (fa_fill f (fun _ => 0) 108)))]) rfl ?_
    refine r_aload_n d_Mo_init_35 rfl 0 rfl ?_
    refine r_aload_n d_Mo_init_36 rfl 1 rfl ?_
    refine r_callV (As := []) (rest := [.ref a]) (csC := [(b, .inr (8, [.ref b1, .ref b2, .ref b3, .int (nI p)])), (b1, .inl (1, 108, .inl f)), (b2, .inl (2, 108, .inl sn)), (b3, .inl (0, 108, .inl (fun k => nI (qn k))))]) (is := [1, 2, 3, 4]) (q0 := 1) rfl rfl ln_Mo_31 w_im_Pa_runningSpeed w_se_Pa_runningSpeed ok_Mo_init_Pa_runningSpeed d_Mo_init_37 (C_Pa_runningSpeed g b b1 b2 b3 f sn (fun k => nI (qn k)) (nI p)) rfl rfl (Nat.le_of_ble_eq_true rfl) rfl (by decide) (by omega) (by omega) (fun E cs1 hx => ?_) (fun v cs1 hx => ?_)
    · exact absurd hx.1 (by simp)
    · obtain ⟨e1, rfl⟩ := hx
      cases e1
      refine ⟨rfl, ?_⟩
      refine r_st (st2 := [.int (rsR f), .ref a]) rfl ?_
      refine r_cs (cs2 := [(a, .inr (7, [.ref a1, .int (nI (fa_cnt (fun k => tmB (f k)) 108)), .int 0, .int 0, .int 0, .int 0, .int 0, .int 0])), (b, .inr (8, [.ref b1, .ref b2, .ref b3, .int (nI p)])), (b1, .inl (1, 108, .inl f)), (b2, .inl (2, 108, .inl sn)), (b3, .inl (0, 108, .inl (fun k => nI (qn k)))), (c, .inr (4, [.int cl, .int wa, .int co, .int fi, .int bu])), (a1, .inl (1, 108, .inl (fa_fill f (fun _ => 0) 108)))]) rfl ?_
      refine r_put fp_Mo_34 d_Mo_init_40 (fun _ => rfl) rfl rfl (q0 := 0) rfl (Nat.le_of_ble_eq_true rfl) (cs' := [(a, .inr (7, [.ref a1, .int (nI (fa_cnt (fun k => tmB (f k)) 108)), .int (rsR f), .int 0, .int 0, .int 0, .int 0, .int 0])), (b, .inr (8, [.ref b1, .ref b2, .ref b3, .int (nI p)])), (b1, .inl (1, 108, .inl f)), (b2, .inl (2, 108, .inl sn)), (b3, .inl (0, 108, .inl (fun k => nI (qn k)))), (c, .inr (4, [.int cl, .int wa, .int co, .int fi, .int bu])), (a1, .inl (1, 108, .inl (fa_fill f (fun _ => 0) 108)))]) rfl ?_
      refine r_aload_n d_Mo_init_43 rfl 0 rfl ?_
      refine r_aload_n d_Mo_init_44 rfl 1 rfl ?_
      refine r_callV (As := []) (rest := [.ref a]) (csC := [(b, .inr (8, [.ref b1, .ref b2, .ref b3, .int (nI p)])), (b1, .inl (1, 108, .inl f)), (b2, .inl (2, 108, .inl sn)), (b3, .inl (0, 108, .inl (fun k => nI (qn k))))]) (is := [1, 2, 3, 4]) (q0 := 1) rfl rfl ln_Mo_37 w_im_Pa_looseGroups w_se_Pa_looseGroups ok_Mo_init_Pa_looseGroups d_Mo_init_45 (C_Pa_looseGroups g b b1 b2 b3 f sn qn (nI p)) rfl rfl (Nat.le_of_ble_eq_true rfl) rfl (by decide) (by omega) (by omega) (fun E cs1 hx => ?_) (fun v cs1 hx => ?_)
      · exact absurd hx.1 (by simp)
      · obtain ⟨e1, rfl⟩ := hx
        cases e1
        refine ⟨rfl, ?_⟩
        refine r_st (st2 := [.int (nI (grS f 2 (fa_fill (fun _ => 0) sn 108, qn, 0) 108).2.2), .ref a]) rfl ?_
        refine r_cs (cs2 := [(a, .inr (7, [.ref a1, .int (nI (fa_cnt (fun k => tmB (f k)) 108)), .int (rsR f), .int 0, .int 0, .int 0, .int 0, .int 0])), (b, .inr (8, [.ref b1, .ref b2, .ref b3, .int (nI p)])), (b1, .inl (1, 108, .inl f)), (b2, .inl (2, 108, .inl ((grS f 2 (fa_fill (fun _ => 0) sn 108, qn, 0) 108).1))), (b3, .inl (0, 108, .inl (fun k => nI ((grS f 2 (fa_fill (fun _ => 0) sn 108, qn, 0) 108).2.1 k)))), (c, .inr (4, [.int cl, .int wa, .int co, .int fi, .int bu])), (a1, .inl (1, 108, .inl (fa_fill f (fun _ => 0) 108)))]) rfl ?_
        refine r_if_gt (tgt := 58) d_Mo_init_48 (by decide) (fun c_48 => ?_) (fun c_48 => ?_)
        · have hm : moB f sn qn p = 1 := if_pos (Or.inl (z_lt (a := 0) (by have := grS_le (f := f) (m := 2) (S0 := (fa_fill (fun _ => 0) sn 108, qn, 0)) rfl 108; omega) (by decide) c_48))
          refine r_iconst d_Mo_init_58 (v := 1) (by decide) ?_
          refine r_goto (tgt := 63) d_Mo_init_59 (by decide) ?_
          refine r_put fp_Mo_43 d_Mo_init_63 (fun _ => rfl) (by decide) (by decide) (q0 := 0) rfl (Nat.le_of_ble_eq_true rfl) (cs' := [(a, .inr (7, [.ref a1, .int (nI (fa_cnt (fun k => tmB (f k)) 108)), .int (rsR f), .int 1, .int 0, .int 0, .int 0, .int 0])), (b, .inr (8, [.ref b1, .ref b2, .ref b3, .int (nI p)])), (b1, .inl (1, 108, .inl f)), (b2, .inl (2, 108, .inl ((grS f 2 (fa_fill (fun _ => 0) sn 108, qn, 0) 108).1))), (b3, .inl (0, 108, .inl (fun k => nI ((grS f 2 (fa_fill (fun _ => 0) sn 108, qn, 0) 108).2.1 k)))), (c, .inr (4, [.int cl, .int wa, .int co, .int fi, .int bu])), (a1, .inl (1, 108, .inl (fa_fill f (fun _ => 0) 108)))]) rfl ?_
          refine r_aload_n d_Mo_init_66 rfl 0 rfl ?_
          refine r_aload_n d_Mo_init_67 rfl 2 rfl ?_
          refine r_callV (As := []) (rest := [.ref a]) (csC := [(c, .inr (4, [.int cl, .int wa, .int co, .int fi, .int bu]))]) (is := [5]) (q0 := 5) rfl rfl ln_Mo_47 w_im_GS_strength w_se_GS_strength ok_Mo_init_GS_strength d_Mo_init_68 (C_GS_strength g c cl wa co fi bu) rfl rfl (Nat.le_of_ble_eq_true rfl) rfl (by decide) (by omega) (by omega) (fun E cs1 hx => ?_) (fun v cs1 hx => ?_)
          · exact absurd hx.1 (by simp)
          · obtain ⟨e1, rfl⟩ := hx
            cases e1
            refine ⟨rfl, ?_⟩
            refine r_st (st2 := [.int (S_GS_strength c cl wa co fi bu), .ref a]) rfl ?_
            refine r_cs (cs2 := [(a, .inr (7, [.ref a1, .int (nI (fa_cnt (fun k => tmB (f k)) 108)), .int (rsR f), .int 1, .int 0, .int 0, .int 0, .int 0])), (b, .inr (8, [.ref b1, .ref b2, .ref b3, .int (nI p)])), (b1, .inl (1, 108, .inl f)), (b2, .inl (2, 108, .inl ((grS f 2 (fa_fill (fun _ => 0) sn 108, qn, 0) 108).1))), (b3, .inl (0, 108, .inl (fun k => nI ((grS f 2 (fa_fill (fun _ => 0) sn 108, qn, 0) 108).2.1 k)))), (c, .inr (4, [.int cl, .int wa, .int co, .int fi, .int bu])), (a1, .inl (1, 108, .inl (fa_fill f (fun _ => 0) 108)))]) rfl ?_
            refine r_put fp_Mo_52 d_Mo_init_71 (fun _ => rfl) rfl rfl (q0 := 0) rfl (Nat.le_of_ble_eq_true rfl) (cs' := [(a, .inr (7, [.ref a1, .int (nI (fa_cnt (fun k => tmB (f k)) 108)), .int (rsR f), .int 1, .int (S_GS_strength c cl wa co fi bu), .int 0, .int 0, .int 0])), (b, .inr (8, [.ref b1, .ref b2, .ref b3, .int (nI p)])), (b1, .inl (1, 108, .inl f)), (b2, .inl (2, 108, .inl ((grS f 2 (fa_fill (fun _ => 0) sn 108, qn, 0) 108).1))), (b3, .inl (0, 108, .inl (fun k => nI ((grS f 2 (fa_fill (fun _ => 0) sn 108, qn, 0) 108).2.1 k)))), (c, .inr (4, [.int cl, .int wa, .int co, .int fi, .int bu])), (a1, .inl (1, 108, .inl (fa_fill f (fun _ => 0) 108)))]) rfl ?_
            refine r_aload_n d_Mo_init_74 rfl 0 rfl ?_
            refine r_aload_n d_Mo_init_75 rfl 2 rfl ?_
            refine r_callV (As := []) (rest := [.ref a]) (csC := [(c, .inr (4, [.int cl, .int wa, .int co, .int fi, .int bu]))]) (is := [5]) (q0 := 5) rfl rfl ln_Mo_54 w_im_GS_draught w_se_GS_draught ok_Mo_init_GS_draught d_Mo_init_76 (C_GS_draught g c cl wa co fi bu) rfl rfl (Nat.le_of_ble_eq_true rfl) rfl (by decide) (by omega) (by omega) (fun E cs1 hx => ?_) (fun v cs1 hx => ?_)
            · exact absurd hx.1 (by simp)
            · obtain ⟨e1, rfl⟩ := hx
              cases e1
              refine ⟨rfl, ?_⟩
              refine r_st (st2 := [.int (S_GS_draught c cl wa co fi bu), .ref a]) rfl ?_
              refine r_cs (cs2 := [(a, .inr (7, [.ref a1, .int (nI (fa_cnt (fun k => tmB (f k)) 108)), .int (rsR f), .int 1, .int (S_GS_strength c cl wa co fi bu), .int 0, .int 0, .int 0])), (b, .inr (8, [.ref b1, .ref b2, .ref b3, .int (nI p)])), (b1, .inl (1, 108, .inl f)), (b2, .inl (2, 108, .inl ((grS f 2 (fa_fill (fun _ => 0) sn 108, qn, 0) 108).1))), (b3, .inl (0, 108, .inl (fun k => nI ((grS f 2 (fa_fill (fun _ => 0) sn 108, qn, 0) 108).2.1 k)))), (c, .inr (4, [.int cl, .int wa, .int co, .int fi, .int bu])), (a1, .inl (1, 108, .inl (fa_fill f (fun _ => 0) 108)))]) rfl ?_
              refine r_put fp_Mo_57 d_Mo_init_79 (fun _ => rfl) rfl rfl (q0 := 0) rfl (Nat.le_of_ble_eq_true rfl) (cs' := [(a, .inr (7, [.ref a1, .int (nI (fa_cnt (fun k => tmB (f k)) 108)), .int (rsR f), .int 1, .int (S_GS_strength c cl wa co fi bu), .int (S_GS_draught c cl wa co fi bu), .int 0, .int 0])), (b, .inr (8, [.ref b1, .ref b2, .ref b3, .int (nI p)])), (b1, .inl (1, 108, .inl f)), (b2, .inl (2, 108, .inl ((grS f 2 (fa_fill (fun _ => 0) sn 108, qn, 0) 108).1))), (b3, .inl (0, 108, .inl (fun k => nI ((grS f 2 (fa_fill (fun _ => 0) sn 108, qn, 0) 108).2.1 k)))), (c, .inr (4, [.int cl, .int wa, .int co, .int fi, .int bu])), (a1, .inl (1, 108, .inl (fa_fill f (fun _ => 0) 108)))]) rfl ?_
              refine r_aload_n d_Mo_init_82 rfl 0 rfl ?_
              refine r_aload_n d_Mo_init_83 rfl 2 rfl ?_
              refine r_get fs_Mo_59 d_Mo_init_84 (q0 := 5) rfl rfl ?_
              refine r_put fp_Mo_62 d_Mo_init_87 (fun _ => rfl) rfl rfl (q0 := 0) rfl (Nat.le_of_ble_eq_true rfl) (cs' := [(a, .inr (7, [.ref a1, .int (nI (fa_cnt (fun k => tmB (f k)) 108)), .int (rsR f), .int 1, .int (S_GS_strength c cl wa co fi bu), .int (S_GS_draught c cl wa co fi bu), .int wa, .int 0])), (b, .inr (8, [.ref b1, .ref b2, .ref b3, .int (nI p)])), (b1, .inl (1, 108, .inl f)), (b2, .inl (2, 108, .inl ((grS f 2 (fa_fill (fun _ => 0) sn 108, qn, 0) 108).1))), (b3, .inl (0, 108, .inl (fun k => nI ((grS f 2 (fa_fill (fun _ => 0) sn 108, qn, 0) 108).2.1 k)))), (c, .inr (4, [.int cl, .int wa, .int co, .int fi, .int bu])), (a1, .inl (1, 108, .inl (fa_fill f (fun _ => 0) 108)))]) rfl ?_
              refine r_vret d_Mo_init_90 rfl ?_
              exact ⟨a1, rfl, by rw [hm]⟩
        · have hg := z_nlt (a := 0) (by have := grS_le (f := f) (m := 2) (S0 := (fa_fill (fun _ => 0) sn 108, qn, 0)) rfl 108; omega) (by decide) c_48
          refine r_aload_n d_Mo_init_51 rfl 1 rfl ?_
          refine r_callV (As := []) (rest := [.ref a]) (csC := [(b, .inr (8, [.ref b1, .ref b2, .ref b3, .int (nI p)])), (b1, .inl (1, 108, .inl f)), (b2, .inl (2, 108, .inl ((grS f 2 (fa_fill (fun _ => 0) sn 108, qn, 0) 108).1))), (b3, .inl (0, 108, .inl (fun k => nI ((grS f 2 (fa_fill (fun _ => 0) sn 108, qn, 0) 108).2.1 k))))]) (is := [1, 2, 3, 4]) (q0 := 1) rfl rfl ln_Mo_40 w_im_Pa_undercutCells w_se_Pa_undercutCells ok_Mo_init_Pa_undercutCells d_Mo_init_52 (C_Pa_undercutCells g b b1 b2 b3 f ((grS f 2 (fa_fill (fun _ => 0) sn 108, qn, 0) 108).1) (fun k => nI ((grS f 2 (fa_fill (fun _ => 0) sn 108, qn, 0) 108).2.1 k)) p hp1 hp) rfl rfl (Nat.le_of_ble_eq_true rfl) rfl (by decide) (by omega) (by omega) (fun E cs1 hx => ?_) (fun v cs1 hx => ?_)
          · exact absurd hx.1 (by simp)
          · obtain ⟨e1, rfl⟩ := hx
            cases e1
            refine ⟨rfl, ?_⟩
            refine r_st (st2 := [.int (nI (ucT f p 12)), .ref a]) rfl ?_
            refine r_cs (cs2 := [(a, .inr (7, [.ref a1, .int (nI (fa_cnt (fun k => tmB (f k)) 108)), .int (rsR f), .int 0, .int 0, .int 0, .int 0, .int 0])), (b, .inr (8, [.ref b1, .ref b2, .ref b3, .int (nI p)])), (b1, .inl (1, 108, .inl f)), (b2, .inl (2, 108, .inl ((grS f 2 (fa_fill (fun _ => 0) sn 108, qn, 0) 108).1))), (b3, .inl (0, 108, .inl (fun k => nI ((grS f 2 (fa_fill (fun _ => 0) sn 108, qn, 0) 108).2.1 k)))), (c, .inr (4, [.int cl, .int wa, .int co, .int fi, .int bu])), (a1, .inl (1, 108, .inl (fa_fill f (fun _ => 0) 108)))]) rfl ?_
            refine r_if_le (tgt := 62) d_Mo_init_55 (by decide) (fun c_55 => ?_) (fun c_55 => ?_)
            · have hu := z_le (b := 0) (by decide) (by have := ucT_le (f := f) hp 12; omega) c_55
              have hm : moB f sn qn p = 0 := if_neg (by omega)
              refine r_iconst d_Mo_init_62 (v := 0) (by decide) ?_
              refine r_put fp_Mo_43 d_Mo_init_63 (fun _ => rfl) (by decide) (by decide) (q0 := 0) rfl (Nat.le_of_ble_eq_true rfl) (cs' := [(a, .inr (7, [.ref a1, .int (nI (fa_cnt (fun k => tmB (f k)) 108)), .int (rsR f), .int 0, .int 0, .int 0, .int 0, .int 0])), (b, .inr (8, [.ref b1, .ref b2, .ref b3, .int (nI p)])), (b1, .inl (1, 108, .inl f)), (b2, .inl (2, 108, .inl ((grS f 2 (fa_fill (fun _ => 0) sn 108, qn, 0) 108).1))), (b3, .inl (0, 108, .inl (fun k => nI ((grS f 2 (fa_fill (fun _ => 0) sn 108, qn, 0) 108).2.1 k)))), (c, .inr (4, [.int cl, .int wa, .int co, .int fi, .int bu])), (a1, .inl (1, 108, .inl (fa_fill f (fun _ => 0) 108)))]) rfl ?_
              refine r_aload_n d_Mo_init_66 rfl 0 rfl ?_
              refine r_aload_n d_Mo_init_67 rfl 2 rfl ?_
              refine r_callV (As := []) (rest := [.ref a]) (csC := [(c, .inr (4, [.int cl, .int wa, .int co, .int fi, .int bu]))]) (is := [5]) (q0 := 5) rfl rfl ln_Mo_47 w_im_GS_strength w_se_GS_strength ok_Mo_init_GS_strength d_Mo_init_68 (C_GS_strength g c cl wa co fi bu) rfl rfl (Nat.le_of_ble_eq_true rfl) rfl (by decide) (by omega) (by omega) (fun E cs1 hx => ?_) (fun v cs1 hx => ?_)
              · exact absurd hx.1 (by simp)
              · obtain ⟨e1, rfl⟩ := hx
                cases e1
                refine ⟨rfl, ?_⟩
                refine r_st (st2 := [.int (S_GS_strength c cl wa co fi bu), .ref a]) rfl ?_
                refine r_cs (cs2 := [(a, .inr (7, [.ref a1, .int (nI (fa_cnt (fun k => tmB (f k)) 108)), .int (rsR f), .int 0, .int 0, .int 0, .int 0, .int 0])), (b, .inr (8, [.ref b1, .ref b2, .ref b3, .int (nI p)])), (b1, .inl (1, 108, .inl f)), (b2, .inl (2, 108, .inl ((grS f 2 (fa_fill (fun _ => 0) sn 108, qn, 0) 108).1))), (b3, .inl (0, 108, .inl (fun k => nI ((grS f 2 (fa_fill (fun _ => 0) sn 108, qn, 0) 108).2.1 k)))), (c, .inr (4, [.int cl, .int wa, .int co, .int fi, .int bu])), (a1, .inl (1, 108, .inl (fa_fill f (fun _ => 0) 108)))]) rfl ?_
                refine r_put fp_Mo_52 d_Mo_init_71 (fun _ => rfl) rfl rfl (q0 := 0) rfl (Nat.le_of_ble_eq_true rfl) (cs' := [(a, .inr (7, [.ref a1, .int (nI (fa_cnt (fun k => tmB (f k)) 108)), .int (rsR f), .int 0, .int (S_GS_strength c cl wa co fi bu), .int 0, .int 0, .int 0])), (b, .inr (8, [.ref b1, .ref b2, .ref b3, .int (nI p)])), (b1, .inl (1, 108, .inl f)), (b2, .inl (2, 108, .inl ((grS f 2 (fa_fill (fun _ => 0) sn 108, qn, 0) 108).1))), (b3, .inl (0, 108, .inl (fun k => nI ((grS f 2 (fa_fill (fun _ => 0) sn 108, qn, 0) 108).2.1 k)))), (c, .inr (4, [.int cl, .int wa, .int co, .int fi, .int bu])), (a1, .inl (1, 108, .inl (fa_fill f (fun _ => 0) 108)))]) rfl ?_
                refine r_aload_n d_Mo_init_74 rfl 0 rfl ?_
                refine r_aload_n d_Mo_init_75 rfl 2 rfl ?_
                refine r_callV (As := []) (rest := [.ref a]) (csC := [(c, .inr (4, [.int cl, .int wa, .int co, .int fi, .int bu]))]) (is := [5]) (q0 := 5) rfl rfl ln_Mo_54 w_im_GS_draught w_se_GS_draught ok_Mo_init_GS_draught d_Mo_init_76 (C_GS_draught g c cl wa co fi bu) rfl rfl (Nat.le_of_ble_eq_true rfl) rfl (by decide) (by omega) (by omega) (fun E cs1 hx => ?_) (fun v cs1 hx => ?_)
                · exact absurd hx.1 (by simp)
                · obtain ⟨e1, rfl⟩ := hx
                  cases e1
                  refine ⟨rfl, ?_⟩
                  refine r_st (st2 := [.int (S_GS_draught c cl wa co fi bu), .ref a]) rfl ?_
                  refine r_cs (cs2 := [(a, .inr (7, [.ref a1, .int (nI (fa_cnt (fun k => tmB (f k)) 108)), .int (rsR f), .int 0, .int (S_GS_strength c cl wa co fi bu), .int 0, .int 0, .int 0])), (b, .inr (8, [.ref b1, .ref b2, .ref b3, .int (nI p)])), (b1, .inl (1, 108, .inl f)), (b2, .inl (2, 108, .inl ((grS f 2 (fa_fill (fun _ => 0) sn 108, qn, 0) 108).1))), (b3, .inl (0, 108, .inl (fun k => nI ((grS f 2 (fa_fill (fun _ => 0) sn 108, qn, 0) 108).2.1 k)))), (c, .inr (4, [.int cl, .int wa, .int co, .int fi, .int bu])), (a1, .inl (1, 108, .inl (fa_fill f (fun _ => 0) 108)))]) rfl ?_
                  refine r_put fp_Mo_57 d_Mo_init_79 (fun _ => rfl) rfl rfl (q0 := 0) rfl (Nat.le_of_ble_eq_true rfl) (cs' := [(a, .inr (7, [.ref a1, .int (nI (fa_cnt (fun k => tmB (f k)) 108)), .int (rsR f), .int 0, .int (S_GS_strength c cl wa co fi bu), .int (S_GS_draught c cl wa co fi bu), .int 0, .int 0])), (b, .inr (8, [.ref b1, .ref b2, .ref b3, .int (nI p)])), (b1, .inl (1, 108, .inl f)), (b2, .inl (2, 108, .inl ((grS f 2 (fa_fill (fun _ => 0) sn 108, qn, 0) 108).1))), (b3, .inl (0, 108, .inl (fun k => nI ((grS f 2 (fa_fill (fun _ => 0) sn 108, qn, 0) 108).2.1 k)))), (c, .inr (4, [.int cl, .int wa, .int co, .int fi, .int bu])), (a1, .inl (1, 108, .inl (fa_fill f (fun _ => 0) 108)))]) rfl ?_
                  refine r_aload_n d_Mo_init_82 rfl 0 rfl ?_
                  refine r_aload_n d_Mo_init_83 rfl 2 rfl ?_
                  refine r_get fs_Mo_59 d_Mo_init_84 (q0 := 5) rfl rfl ?_
                  refine r_put fp_Mo_62 d_Mo_init_87 (fun _ => rfl) rfl rfl (q0 := 0) rfl (Nat.le_of_ble_eq_true rfl) (cs' := [(a, .inr (7, [.ref a1, .int (nI (fa_cnt (fun k => tmB (f k)) 108)), .int (rsR f), .int 0, .int (S_GS_strength c cl wa co fi bu), .int (S_GS_draught c cl wa co fi bu), .int wa, .int 0])), (b, .inr (8, [.ref b1, .ref b2, .ref b3, .int (nI p)])), (b1, .inl (1, 108, .inl f)), (b2, .inl (2, 108, .inl ((grS f 2 (fa_fill (fun _ => 0) sn 108, qn, 0) 108).1))), (b3, .inl (0, 108, .inl (fun k => nI ((grS f 2 (fa_fill (fun _ => 0) sn 108, qn, 0) 108).2.1 k)))), (c, .inr (4, [.int cl, .int wa, .int co, .int fi, .int bu])), (a1, .inl (1, 108, .inl (fa_fill f (fun _ => 0) 108)))]) rfl ?_
                  refine r_vret d_Mo_init_90 rfl ?_
                  exact ⟨a1, rfl, by rw [hm]⟩
            · have hu := z_nle (b := 0) (by decide) (by have := ucT_le (f := f) hp 12; omega) c_55
              have hm : moB f sn qn p = 1 := if_pos (Or.inr hu)
              refine r_iconst d_Mo_init_58 (v := 1) (by decide) ?_
              refine r_goto (tgt := 63) d_Mo_init_59 (by decide) ?_
              refine r_put fp_Mo_43 d_Mo_init_63 (fun _ => rfl) (by decide) (by decide) (q0 := 0) rfl (Nat.le_of_ble_eq_true rfl) (cs' := [(a, .inr (7, [.ref a1, .int (nI (fa_cnt (fun k => tmB (f k)) 108)), .int (rsR f), .int 1, .int 0, .int 0, .int 0, .int 0])), (b, .inr (8, [.ref b1, .ref b2, .ref b3, .int (nI p)])), (b1, .inl (1, 108, .inl f)), (b2, .inl (2, 108, .inl ((grS f 2 (fa_fill (fun _ => 0) sn 108, qn, 0) 108).1))), (b3, .inl (0, 108, .inl (fun k => nI ((grS f 2 (fa_fill (fun _ => 0) sn 108, qn, 0) 108).2.1 k)))), (c, .inr (4, [.int cl, .int wa, .int co, .int fi, .int bu])), (a1, .inl (1, 108, .inl (fa_fill f (fun _ => 0) 108)))]) rfl ?_
              refine r_aload_n d_Mo_init_66 rfl 0 rfl ?_
              refine r_aload_n d_Mo_init_67 rfl 2 rfl ?_
              refine r_callV (As := []) (rest := [.ref a]) (csC := [(c, .inr (4, [.int cl, .int wa, .int co, .int fi, .int bu]))]) (is := [5]) (q0 := 5) rfl rfl ln_Mo_47 w_im_GS_strength w_se_GS_strength ok_Mo_init_GS_strength d_Mo_init_68 (C_GS_strength g c cl wa co fi bu) rfl rfl (Nat.le_of_ble_eq_true rfl) rfl (by decide) (by omega) (by omega) (fun E cs1 hx => ?_) (fun v cs1 hx => ?_)
              · exact absurd hx.1 (by simp)
              · obtain ⟨e1, rfl⟩ := hx
                cases e1
                refine ⟨rfl, ?_⟩
                refine r_st (st2 := [.int (S_GS_strength c cl wa co fi bu), .ref a]) rfl ?_
                refine r_cs (cs2 := [(a, .inr (7, [.ref a1, .int (nI (fa_cnt (fun k => tmB (f k)) 108)), .int (rsR f), .int 1, .int 0, .int 0, .int 0, .int 0])), (b, .inr (8, [.ref b1, .ref b2, .ref b3, .int (nI p)])), (b1, .inl (1, 108, .inl f)), (b2, .inl (2, 108, .inl ((grS f 2 (fa_fill (fun _ => 0) sn 108, qn, 0) 108).1))), (b3, .inl (0, 108, .inl (fun k => nI ((grS f 2 (fa_fill (fun _ => 0) sn 108, qn, 0) 108).2.1 k)))), (c, .inr (4, [.int cl, .int wa, .int co, .int fi, .int bu])), (a1, .inl (1, 108, .inl (fa_fill f (fun _ => 0) 108)))]) rfl ?_
                refine r_put fp_Mo_52 d_Mo_init_71 (fun _ => rfl) rfl rfl (q0 := 0) rfl (Nat.le_of_ble_eq_true rfl) (cs' := [(a, .inr (7, [.ref a1, .int (nI (fa_cnt (fun k => tmB (f k)) 108)), .int (rsR f), .int 1, .int (S_GS_strength c cl wa co fi bu), .int 0, .int 0, .int 0])), (b, .inr (8, [.ref b1, .ref b2, .ref b3, .int (nI p)])), (b1, .inl (1, 108, .inl f)), (b2, .inl (2, 108, .inl ((grS f 2 (fa_fill (fun _ => 0) sn 108, qn, 0) 108).1))), (b3, .inl (0, 108, .inl (fun k => nI ((grS f 2 (fa_fill (fun _ => 0) sn 108, qn, 0) 108).2.1 k)))), (c, .inr (4, [.int cl, .int wa, .int co, .int fi, .int bu])), (a1, .inl (1, 108, .inl (fa_fill f (fun _ => 0) 108)))]) rfl ?_
                refine r_aload_n d_Mo_init_74 rfl 0 rfl ?_
                refine r_aload_n d_Mo_init_75 rfl 2 rfl ?_
                refine r_callV (As := []) (rest := [.ref a]) (csC := [(c, .inr (4, [.int cl, .int wa, .int co, .int fi, .int bu]))]) (is := [5]) (q0 := 5) rfl rfl ln_Mo_54 w_im_GS_draught w_se_GS_draught ok_Mo_init_GS_draught d_Mo_init_76 (C_GS_draught g c cl wa co fi bu) rfl rfl (Nat.le_of_ble_eq_true rfl) rfl (by decide) (by omega) (by omega) (fun E cs1 hx => ?_) (fun v cs1 hx => ?_)
                · exact absurd hx.1 (by simp)
                · obtain ⟨e1, rfl⟩ := hx
                  cases e1
                  refine ⟨rfl, ?_⟩
                  refine r_st (st2 := [.int (S_GS_draught c cl wa co fi bu), .ref a]) rfl ?_
                  refine r_cs (cs2 := [(a, .inr (7, [.ref a1, .int (nI (fa_cnt (fun k => tmB (f k)) 108)), .int (rsR f), .int 1, .int (S_GS_strength c cl wa co fi bu), .int 0, .int 0, .int 0])), (b, .inr (8, [.ref b1, .ref b2, .ref b3, .int (nI p)])), (b1, .inl (1, 108, .inl f)), (b2, .inl (2, 108, .inl ((grS f 2 (fa_fill (fun _ => 0) sn 108, qn, 0) 108).1))), (b3, .inl (0, 108, .inl (fun k => nI ((grS f 2 (fa_fill (fun _ => 0) sn 108, qn, 0) 108).2.1 k)))), (c, .inr (4, [.int cl, .int wa, .int co, .int fi, .int bu])), (a1, .inl (1, 108, .inl (fa_fill f (fun _ => 0) 108)))]) rfl ?_
                  refine r_put fp_Mo_57 d_Mo_init_79 (fun _ => rfl) rfl rfl (q0 := 0) rfl (Nat.le_of_ble_eq_true rfl) (cs' := [(a, .inr (7, [.ref a1, .int (nI (fa_cnt (fun k => tmB (f k)) 108)), .int (rsR f), .int 1, .int (S_GS_strength c cl wa co fi bu), .int (S_GS_draught c cl wa co fi bu), .int 0, .int 0])), (b, .inr (8, [.ref b1, .ref b2, .ref b3, .int (nI p)])), (b1, .inl (1, 108, .inl f)), (b2, .inl (2, 108, .inl ((grS f 2 (fa_fill (fun _ => 0) sn 108, qn, 0) 108).1))), (b3, .inl (0, 108, .inl (fun k => nI ((grS f 2 (fa_fill (fun _ => 0) sn 108, qn, 0) 108).2.1 k)))), (c, .inr (4, [.int cl, .int wa, .int co, .int fi, .int bu])), (a1, .inl (1, 108, .inl (fa_fill f (fun _ => 0) 108)))]) rfl ?_
                  refine r_aload_n d_Mo_init_82 rfl 0 rfl ?_
                  refine r_aload_n d_Mo_init_83 rfl 2 rfl ?_
                  refine r_get fs_Mo_59 d_Mo_init_84 (q0 := 5) rfl rfl ?_
                  refine r_put fp_Mo_62 d_Mo_init_87 (fun _ => rfl) rfl rfl (q0 := 0) rfl (Nat.le_of_ble_eq_true rfl) (cs' := [(a, .inr (7, [.ref a1, .int (nI (fa_cnt (fun k => tmB (f k)) 108)), .int (rsR f), .int 1, .int (S_GS_strength c cl wa co fi bu), .int (S_GS_draught c cl wa co fi bu), .int wa, .int 0])), (b, .inr (8, [.ref b1, .ref b2, .ref b3, .int (nI p)])), (b1, .inl (1, 108, .inl f)), (b2, .inl (2, 108, .inl ((grS f 2 (fa_fill (fun _ => 0) sn 108, qn, 0) 108).1))), (b3, .inl (0, 108, .inl (fun k => nI ((grS f 2 (fa_fill (fun _ => 0) sn 108, qn, 0) 108).2.1 k)))), (c, .inr (4, [.int cl, .int wa, .int co, .int fi, .int bu])), (a1, .inl (1, 108, .inl (fa_fill f (fun _ => 0) 108)))]) rfl ?_
                  refine r_vret d_Mo_init_90 rfl ?_
                  exact ⟨a1, rfl, by rw [hm]⟩
abbrev M_Mo_faultBits : zM := (⟨"Ironpour$Mould", "faultBits", "()I"⟩, prog_9_method_2_code, 2, (Option.some FieldType.int), 1, 20, [])
theorem d_Mo_faultBits_0 : decode prog_9_method_2_code 0 = .ok (.aload_n 0, 1) := zo_42 (zd_b zq_prog_9_method_2_code_0 0 rfl rfl rfl)
theorem d_Mo_faultBits_1 : decode prog_9_method_2_code 1 = .ok (.getfield 43, 3) := zo_180 (d := 0) (e := 43) (zd_b zq_prog_9_method_2_code_0 1 rfl rfl rfl) (zd_b zq_prog_9_method_2_code_0 2 rfl rfl rfl) (zd_b zq_prog_9_method_2_code_0 3 rfl rfl rfl)
theorem fs_Mo_43 : z_fs "Ironpour$Mould" 43 7 3 := ⟨R_Mo, "Ironpour$Mould", F_Mo, 8, rfl, u_Mo, by decide, Or.inl ⟨z_mj6 (i := 8) rfl (by decide +kernel), Or.inl rfl⟩⟩
theorem d_Mo_faultBits_4 : decode prog_9_method_2_code 4 = .ok (.ifCond .eq 8, 3) := zo_153 (d := 0) (e := 8) (zd_b zq_prog_9_method_2_code_0 4 rfl rfl rfl) (zd_b zq_prog_9_method_2_code_0 5 rfl rfl rfl) (zd_b zq_prog_9_method_2_code_0 6 rfl rfl rfl) (by decide +kernel)
theorem d_Mo_faultBits_12 : decode prog_9_method_2_code 12 = .ok (.iconst 0, 1) := zo_3 (zd_b zq_prog_9_method_2_code_0 12 rfl rfl rfl)
theorem d_Mo_faultBits_13 : decode prog_9_method_2_code 13 = .ok (.istore_n 1, 1) := zo_60 (zd_b zq_prog_9_method_2_code_0 13 rfl rfl rfl)
theorem d_Mo_faultBits_14 : decode prog_9_method_2_code 14 = .ok (.aload_n 0, 1) := zo_42 (zd_b zq_prog_9_method_2_code_0 14 rfl rfl rfl)
theorem d_Mo_faultBits_15 : decode prog_9_method_2_code 15 = .ok (.getfield 34, 3) := zo_180 (d := 0) (e := 34) (zd_b zq_prog_9_method_2_code_0 15 rfl rfl rfl) (zd_b zq_prog_9_method_2_code_0 16 rfl rfl rfl) (zd_b zq_prog_9_method_2_code_0 17 rfl rfl rfl)
theorem fs_Mo_34 : z_fs "Ironpour$Mould" 34 7 2 := ⟨R_Mo, "Ironpour$Mould", F_Mo, 8, rfl, u_Mo, by decide, Or.inl ⟨z_mj6 (i := 7) rfl (by decide +kernel), Or.inl rfl⟩⟩
theorem d_Mo_faultBits_18 : decode prog_9_method_2_code 18 = .ok (.aload_n 0, 1) := zo_42 (zd_b zq_prog_9_method_2_code_0 18 rfl rfl rfl)
theorem d_Mo_faultBits_19 : decode prog_9_method_2_code 19 = .ok (.getfield 52, 3) := zo_180 (d := 0) (e := 52) (zd_b zq_prog_9_method_2_code_0 19 rfl rfl rfl) (zd_b zq_prog_9_method_2_code_0 20 rfl rfl rfl) (zd_b zq_prog_9_method_2_code_0 21 rfl rfl rfl)
theorem fs_Mo_52 : z_fs "Ironpour$Mould" 52 7 4 := ⟨R_Mo, "Ironpour$Mould", F_Mo, 8, rfl, u_Mo, by decide, Or.inl ⟨z_mj6 (i := 9) rfl (by decide +kernel), Or.inl rfl⟩⟩
theorem d_Mo_faultBits_22 : decode prog_9_method_2_code 22 = .ok (.if_icmp .le 7, 3) := zo_164 (d := 0) (e := 7) (zd_b zq_prog_9_method_2_code_0 22 rfl rfl rfl) (zd_b zq_prog_9_method_2_code_0 23 rfl rfl rfl) (zd_b zq_prog_9_method_2_code_0 24 rfl rfl rfl) (by decide +kernel)
theorem d_Mo_faultBits_29 : decode prog_9_method_2_code 29 = .ok (.aload_n 0, 1) := zo_42 (zd_b zq_prog_9_method_2_code_0 29 rfl rfl rfl)
theorem d_Mo_faultBits_30 : decode prog_9_method_2_code 30 = .ok (.getfield 57, 3) := zo_180 (d := 0) (e := 57) (zd_b zq_prog_9_method_2_code_0 30 rfl rfl rfl) (zd_b zq_prog_9_method_2_code_0 31 rfl rfl rfl) (zd_b zq_prog_9_method_2_code_1 0 rfl rfl rfl)
theorem fs_Mo_57 : z_fs "Ironpour$Mould" 57 7 5 := ⟨R_Mo, "Ironpour$Mould", F_Mo, 8, rfl, u_Mo, by decide, Or.inl ⟨z_mj6 (i := 10) rfl (by decide +kernel), Or.inl rfl⟩⟩
theorem d_Mo_faultBits_33 : decode prog_9_method_2_code 33 = .ok (.bipush 80, 2) := zo_16 (d := 80) (zd_b zq_prog_9_method_2_code_1 1 rfl rfl rfl) (zd_b zq_prog_9_method_2_code_1 2 rfl rfl rfl) (by decide +kernel)
theorem d_Mo_faultBits_35 : decode prog_9_method_2_code 35 = .ok (.if_icmp .ge 12, 3) := zo_162 (d := 0) (e := 12) (zd_b zq_prog_9_method_2_code_1 3 rfl rfl rfl) (zd_b zq_prog_9_method_2_code_1 4 rfl rfl rfl) (zd_b zq_prog_9_method_2_code_1 5 rfl rfl rfl) (by decide +kernel)
theorem d_Mo_faultBits_47 : decode prog_9_method_2_code 47 = .ok (.aload_n 0, 1) := zo_42 (zd_b zq_prog_9_method_2_code_1 15 rfl rfl rfl)
theorem d_Mo_faultBits_48 : decode prog_9_method_2_code 48 = .ok (.getfield 63, 3) := zo_180 (d := 0) (e := 63) (zd_b zq_prog_9_method_2_code_1 16 rfl rfl rfl) (zd_b zq_prog_9_method_2_code_1 17 rfl rfl rfl) (zd_b zq_prog_9_method_2_code_1 18 rfl rfl rfl)
theorem fs_Mo_63 : z_fs "Ironpour$Mould" 63 7 7 := ⟨R_Mo, "Ironpour$Mould", F_Mo, 8, rfl, u_Mo, by decide, Or.inl ⟨z_mj6 (i := 12) rfl (by decide +kernel), Or.inl rfl⟩⟩
theorem d_Mo_faultBits_51 : decode prog_9_method_2_code 51 = .ok (.bipush 60, 2) := zo_16 (d := 60) (zd_b zq_prog_9_method_2_code_1 19 rfl rfl rfl) (zd_b zq_prog_9_method_2_code_1 20 rfl rfl rfl) (by decide +kernel)
theorem d_Mo_faultBits_53 : decode prog_9_method_2_code 53 = .ok (.if_icmp .le 8, 3) := zo_164 (d := 0) (e := 8) (zd_b zq_prog_9_method_2_code_1 21 rfl rfl rfl) (zd_b zq_prog_9_method_2_code_1 22 rfl rfl rfl) (zd_b zq_prog_9_method_2_code_1 23 rfl rfl rfl) (by decide +kernel)
theorem d_Mo_faultBits_61 : decode prog_9_method_2_code 61 = .ok (.iload_n 1, 1) := zo_27 (zd_b zq_prog_9_method_2_code_1 29 rfl rfl rfl)
theorem d_Mo_faultBits_62 : decode prog_9_method_2_code 62 = .ok (.ireturn, 1) := zo_172 (zd_b zq_prog_9_method_2_code_1 30 rfl rfl rfl)
theorem d_Mo_faultBits_56 : decode prog_9_method_2_code 56 = .ok (.iload_n 1, 1) := zo_27 (zd_b zq_prog_9_method_2_code_1 24 rfl rfl rfl)
theorem d_Mo_faultBits_57 : decode prog_9_method_2_code 57 = .ok (.bipush 8, 2) := zo_16 (d := 8) (zd_b zq_prog_9_method_2_code_1 25 rfl rfl rfl) (zd_b zq_prog_9_method_2_code_1 26 rfl rfl rfl) (by decide +kernel)
theorem d_Mo_faultBits_59 : decode prog_9_method_2_code 59 = .ok (.ior, 1) := zo_128 (zd_b zq_prog_9_method_2_code_1 27 rfl rfl rfl)
theorem d_Mo_faultBits_60 : decode prog_9_method_2_code 60 = .ok (.istore_n 1, 1) := zo_60 (zd_b zq_prog_9_method_2_code_1 28 rfl rfl rfl)
theorem d_Mo_faultBits_38 : decode prog_9_method_2_code 38 = .ok (.aload_n 0, 1) := zo_42 (zd_b zq_prog_9_method_2_code_1 6 rfl rfl rfl)
theorem d_Mo_faultBits_39 : decode prog_9_method_2_code 39 = .ok (.getfield 62, 3) := zo_180 (d := 0) (e := 62) (zd_b zq_prog_9_method_2_code_1 7 rfl rfl rfl) (zd_b zq_prog_9_method_2_code_1 8 rfl rfl rfl) (zd_b zq_prog_9_method_2_code_1 9 rfl rfl rfl)
theorem fs_Mo_62 : z_fs "Ironpour$Mould" 62 7 6 := ⟨R_Mo, "Ironpour$Mould", F_Mo, 8, rfl, u_Mo, by decide, Or.inl ⟨z_mj6 (i := 11) rfl (by decide +kernel), Or.inl rfl⟩⟩
theorem d_Mo_faultBits_42 : decode prog_9_method_2_code 42 = .ok (.bipush 40, 2) := zo_16 (d := 40) (zd_b zq_prog_9_method_2_code_1 10 rfl rfl rfl) (zd_b zq_prog_9_method_2_code_1 11 rfl rfl rfl) (by decide +kernel)
theorem d_Mo_faultBits_44 : decode prog_9_method_2_code 44 = .ok (.if_icmp .gt 12, 3) := zo_163 (d := 0) (e := 12) (zd_b zq_prog_9_method_2_code_1 12 rfl rfl rfl) (zd_b zq_prog_9_method_2_code_1 13 rfl rfl rfl) (zd_b zq_prog_9_method_2_code_1 14 rfl rfl rfl) (by decide +kernel)
theorem d_Mo_faultBits_25 : decode prog_9_method_2_code 25 = .ok (.iload_n 1, 1) := zo_27 (zd_b zq_prog_9_method_2_code_0 25 rfl rfl rfl)
theorem d_Mo_faultBits_26 : decode prog_9_method_2_code 26 = .ok (.iconst 4, 1) := zo_7 (zd_b zq_prog_9_method_2_code_0 26 rfl rfl rfl)
theorem d_Mo_faultBits_27 : decode prog_9_method_2_code 27 = .ok (.ior, 1) := zo_128 (zd_b zq_prog_9_method_2_code_0 27 rfl rfl rfl)
theorem d_Mo_faultBits_28 : decode prog_9_method_2_code 28 = .ok (.istore_n 1, 1) := zo_60 (zd_b zq_prog_9_method_2_code_0 28 rfl rfl rfl)
theorem d_Mo_faultBits_7 : decode prog_9_method_2_code 7 = .ok (.bipush 16, 2) := zo_16 (d := 16) (zd_b zq_prog_9_method_2_code_0 7 rfl rfl rfl) (zd_b zq_prog_9_method_2_code_0 8 rfl rfl rfl) (by decide +kernel)
theorem d_Mo_faultBits_9 : decode prog_9_method_2_code 9 = .ok (.goto 4, 3) := zo_167 (d := 0) (e := 4) (zd_b zq_prog_9_method_2_code_0 9 rfl rfl rfl) (zd_b zq_prog_9_method_2_code_0 10 rfl rfl rfl) (zd_b zq_prog_9_method_2_code_0 11 rfl rfl rfl) (by decide +kernel)
set_option maxHeartbeats 4000000 in
set_option maxRecDepth 100000 in
theorem C_Mo_faultBits (g : zG) (a a1 : Nat) (f : Nat → Int32) (mc sp bad sr dr wa wt : Int32) : CT g M_Mo_faultBits [.ref a] [(a, .inr (7, [.ref a1, .int mc, .int sp, .int bad, .int sr, .int dr, .int wa, .int wt])), (a1, .inl (1, 108, .inl f))] (fun o cs1 => o = .inl (some (.int (moF bad sp sr dr wa wt))) ∧ cs1 = [(a, .inr (7, [.ref a1, .int mc, .int sp, .int bad, .int sr, .int dr, .int wa, .int wt])), (a1, .inl (1, 108, .inl f))]) 0 0 := by
  refine z_of (by decide) rfl (Nat.le_of_ble_eq_true rfl) (fun w0 => ?_)
  refine r_lvE (lv2 := [(0, .ref a)]) rfl ?_
  refine r_aload_n d_Mo_faultBits_0 rfl 0 rfl ?_
  refine r_get fs_Mo_43 d_Mo_faultBits_1 (q0 := 0) rfl rfl ?_
  refine r_if_eq (tgt := 12) d_Mo_faultBits_4 (by decide) (fun c_4 => ?_) (fun c_4 => ?_)
  · refine r_iconst d_Mo_faultBits_12 (v := 0) (by decide) ?_
    refine r_istore_n (lv' := [(1, .int 0), (0, .ref a)]) d_Mo_faultBits_13 rfl (by decide) rfl ?_
    refine r_aload_n d_Mo_faultBits_14 rfl 1 rfl ?_
    refine r_get fs_Mo_34 d_Mo_faultBits_15 (q0 := 0) rfl rfl ?_
    refine r_aload_n d_Mo_faultBits_18 rfl 1 rfl ?_
    refine r_get fs_Mo_52 d_Mo_faultBits_19 (q0 := 0) rfl rfl ?_
    refine r_icmp_le (tgt := 29) d_Mo_faultBits_22 (by decide) (fun c_22 => ?_) (fun c_22 => ?_)
    · refine r_aload_n d_Mo_faultBits_29 rfl 1 rfl ?_
      refine r_get fs_Mo_57 d_Mo_faultBits_30 (q0 := 0) rfl rfl ?_
      refine r_bipush d_Mo_faultBits_33 (v := 80) (by decide) ?_
      refine r_icmp_ge (tgt := 47) d_Mo_faultBits_35 (by decide) (fun c_35 => ?_) (fun c_35 => ?_)
      · refine r_aload_n d_Mo_faultBits_47 rfl 1 rfl ?_
        refine r_get fs_Mo_63 d_Mo_faultBits_48 (q0 := 0) rfl rfl ?_
        refine r_bipush d_Mo_faultBits_51 (v := 60) (by decide) ?_
        refine r_icmp_le (tgt := 61) d_Mo_faultBits_53 (by decide) (fun c_53 => ?_) (fun c_53 => ?_)
        · refine r_iload_n d_Mo_faultBits_61 rfl 0 rfl ?_
          refine r_iret d_Mo_faultBits_62 rfl rfl ?_
          refine ⟨?_, rfl⟩
          unfold moF mo1
          repeat (first | rw [if_pos (by assumption)] | rw [if_neg (by assumption)])
        · refine r_iload_n d_Mo_faultBits_56 rfl 0 rfl ?_
          refine r_bipush d_Mo_faultBits_57 (v := 8) (by decide) ?_
          refine r_ior d_Mo_faultBits_59 (v := 0 ||| 8) rfl ?_
          refine r_istore_n (lv' := [(1, .int (0 ||| 8)), (0, .ref a)]) d_Mo_faultBits_60 rfl (by decide) rfl ?_
          refine r_iload_n d_Mo_faultBits_61 rfl 0 rfl ?_
          refine r_iret d_Mo_faultBits_62 rfl rfl ?_
          refine ⟨?_, rfl⟩
          unfold moF mo1
          repeat (first | rw [if_pos (by assumption)] | rw [if_neg (by assumption)])
      · refine r_aload_n d_Mo_faultBits_38 rfl 1 rfl ?_
        refine r_get fs_Mo_62 d_Mo_faultBits_39 (q0 := 0) rfl rfl ?_
        refine r_bipush d_Mo_faultBits_42 (v := 40) (by decide) ?_
        refine r_icmp_gt (tgt := 56) d_Mo_faultBits_44 (by decide) (fun c_44 => ?_) (fun c_44 => ?_)
        · refine r_iload_n d_Mo_faultBits_56 rfl 0 rfl ?_
          refine r_bipush d_Mo_faultBits_57 (v := 8) (by decide) ?_
          refine r_ior d_Mo_faultBits_59 (v := 0 ||| 8) rfl ?_
          refine r_istore_n (lv' := [(1, .int (0 ||| 8)), (0, .ref a)]) d_Mo_faultBits_60 rfl (by decide) rfl ?_
          refine r_iload_n d_Mo_faultBits_61 rfl 0 rfl ?_
          refine r_iret d_Mo_faultBits_62 rfl rfl ?_
          refine ⟨?_, rfl⟩
          unfold moF mo1
          repeat (first | rw [if_pos (by assumption)] | rw [if_neg (by assumption)])
        · refine r_aload_n d_Mo_faultBits_47 rfl 1 rfl ?_
          refine r_get fs_Mo_63 d_Mo_faultBits_48 (q0 := 0) rfl rfl ?_
          refine r_bipush d_Mo_faultBits_51 (v := 60) (by decide) ?_
          refine r_icmp_le (tgt := 61) d_Mo_faultBits_53 (by decide) (fun c_53 => ?_) (fun c_53 => ?_)
          · refine r_iload_n d_Mo_faultBits_61 rfl 0 rfl ?_
            refine r_iret d_Mo_faultBits_62 rfl rfl ?_
            refine ⟨?_, rfl⟩
            unfold moF mo1
            repeat (first | rw [if_pos (by assumption)] | rw [if_neg (by assumption)])
          · refine r_iload_n d_Mo_faultBits_56 rfl 0 rfl ?_
            refine r_bipush d_Mo_faultBits_57 (v := 8) (by decide) ?_
            refine r_ior d_Mo_faultBits_59 (v := 0 ||| 8) rfl ?_
            refine r_istore_n (lv' := [(1, .int (0 ||| 8)), (0, .ref a)]) d_Mo_faultBits_60 rfl (by decide) rfl ?_
            refine r_iload_n d_Mo_faultBits_61 rfl 0 rfl ?_
            refine r_iret d_Mo_faultBits_62 rfl rfl ?_
            refine ⟨?_, rfl⟩
            unfold moF mo1
            repeat (first | rw [if_pos (by assumption)] | rw [if_neg (by assumption)])
    · refine r_iload_n d_Mo_faultBits_25 rfl 0 rfl ?_
      refine r_iconst d_Mo_faultBits_26 (v := 4) (by decide) ?_
      refine r_ior d_Mo_faultBits_27 (v := 0 ||| 4) rfl ?_
      refine r_istore_n (lv' := [(1, .int (0 ||| 4)), (0, .ref a)]) d_Mo_faultBits_28 rfl (by decide) rfl ?_
      refine r_aload_n d_Mo_faultBits_29 rfl 1 rfl ?_
      refine r_get fs_Mo_57 d_Mo_faultBits_30 (q0 := 0) rfl rfl ?_
      refine r_bipush d_Mo_faultBits_33 (v := 80) (by decide) ?_
      refine r_icmp_ge (tgt := 47) d_Mo_faultBits_35 (by decide) (fun c_35 => ?_) (fun c_35 => ?_)
      · refine r_aload_n d_Mo_faultBits_47 rfl 1 rfl ?_
        refine r_get fs_Mo_63 d_Mo_faultBits_48 (q0 := 0) rfl rfl ?_
        refine r_bipush d_Mo_faultBits_51 (v := 60) (by decide) ?_
        refine r_icmp_le (tgt := 61) d_Mo_faultBits_53 (by decide) (fun c_53 => ?_) (fun c_53 => ?_)
        · refine r_iload_n d_Mo_faultBits_61 rfl 0 rfl ?_
          refine r_iret d_Mo_faultBits_62 rfl rfl ?_
          refine ⟨?_, rfl⟩
          unfold moF mo1
          repeat (first | rw [if_pos (by assumption)] | rw [if_neg (by assumption)])
        · refine r_iload_n d_Mo_faultBits_56 rfl 0 rfl ?_
          refine r_bipush d_Mo_faultBits_57 (v := 8) (by decide) ?_
          refine r_ior d_Mo_faultBits_59 (v := (0 ||| 4) ||| 8) rfl ?_
          refine r_istore_n (lv' := [(1, .int ((0 ||| 4) ||| 8)), (0, .ref a)]) d_Mo_faultBits_60 rfl (by decide) rfl ?_
          refine r_iload_n d_Mo_faultBits_61 rfl 0 rfl ?_
          refine r_iret d_Mo_faultBits_62 rfl rfl ?_
          refine ⟨?_, rfl⟩
          unfold moF mo1
          repeat (first | rw [if_pos (by assumption)] | rw [if_neg (by assumption)])
      · refine r_aload_n d_Mo_faultBits_38 rfl 1 rfl ?_
        refine r_get fs_Mo_62 d_Mo_faultBits_39 (q0 := 0) rfl rfl ?_
        refine r_bipush d_Mo_faultBits_42 (v := 40) (by decide) ?_
        refine r_icmp_gt (tgt := 56) d_Mo_faultBits_44 (by decide) (fun c_44 => ?_) (fun c_44 => ?_)
        · refine r_iload_n d_Mo_faultBits_56 rfl 0 rfl ?_
          refine r_bipush d_Mo_faultBits_57 (v := 8) (by decide) ?_
          refine r_ior d_Mo_faultBits_59 (v := (0 ||| 4) ||| 8) rfl ?_
          refine r_istore_n (lv' := [(1, .int ((0 ||| 4) ||| 8)), (0, .ref a)]) d_Mo_faultBits_60 rfl (by decide) rfl ?_
          refine r_iload_n d_Mo_faultBits_61 rfl 0 rfl ?_
          refine r_iret d_Mo_faultBits_62 rfl rfl ?_
          refine ⟨?_, rfl⟩
          unfold moF mo1
          repeat (first | rw [if_pos (by assumption)] | rw [if_neg (by assumption)])
        · refine r_aload_n d_Mo_faultBits_47 rfl 1 rfl ?_
          refine r_get fs_Mo_63 d_Mo_faultBits_48 (q0 := 0) rfl rfl ?_
          refine r_bipush d_Mo_faultBits_51 (v := 60) (by decide) ?_
          refine r_icmp_le (tgt := 61) d_Mo_faultBits_53 (by decide) (fun c_53 => ?_) (fun c_53 => ?_)
          · refine r_iload_n d_Mo_faultBits_61 rfl 0 rfl ?_
            refine r_iret d_Mo_faultBits_62 rfl rfl ?_
            refine ⟨?_, rfl⟩
            unfold moF mo1
            repeat (first | rw [if_pos (by assumption)] | rw [if_neg (by assumption)])
          · refine r_iload_n d_Mo_faultBits_56 rfl 0 rfl ?_
            refine r_bipush d_Mo_faultBits_57 (v := 8) (by decide) ?_
            refine r_ior d_Mo_faultBits_59 (v := (0 ||| 4) ||| 8) rfl ?_
            refine r_istore_n (lv' := [(1, .int ((0 ||| 4) ||| 8)), (0, .ref a)]) d_Mo_faultBits_60 rfl (by decide) rfl ?_
            refine r_iload_n d_Mo_faultBits_61 rfl 0 rfl ?_
            refine r_iret d_Mo_faultBits_62 rfl rfl ?_
            refine ⟨?_, rfl⟩
            unfold moF mo1
            repeat (first | rw [if_pos (by assumption)] | rw [if_neg (by assumption)])
  · refine r_bipush d_Mo_faultBits_7 (v := 16) (by decide) ?_
    refine r_goto (tgt := 13) d_Mo_faultBits_9 (by decide) ?_
    refine r_istore_n (lv' := [(1, .int 16), (0, .ref a)]) d_Mo_faultBits_13 rfl (by decide) rfl ?_
    refine r_aload_n d_Mo_faultBits_14 rfl 1 rfl ?_
    refine r_get fs_Mo_34 d_Mo_faultBits_15 (q0 := 0) rfl rfl ?_
    refine r_aload_n d_Mo_faultBits_18 rfl 1 rfl ?_
    refine r_get fs_Mo_52 d_Mo_faultBits_19 (q0 := 0) rfl rfl ?_
    refine r_icmp_le (tgt := 29) d_Mo_faultBits_22 (by decide) (fun c_22 => ?_) (fun c_22 => ?_)
    · refine r_aload_n d_Mo_faultBits_29 rfl 1 rfl ?_
      refine r_get fs_Mo_57 d_Mo_faultBits_30 (q0 := 0) rfl rfl ?_
      refine r_bipush d_Mo_faultBits_33 (v := 80) (by decide) ?_
      refine r_icmp_ge (tgt := 47) d_Mo_faultBits_35 (by decide) (fun c_35 => ?_) (fun c_35 => ?_)
      · refine r_aload_n d_Mo_faultBits_47 rfl 1 rfl ?_
        refine r_get fs_Mo_63 d_Mo_faultBits_48 (q0 := 0) rfl rfl ?_
        refine r_bipush d_Mo_faultBits_51 (v := 60) (by decide) ?_
        refine r_icmp_le (tgt := 61) d_Mo_faultBits_53 (by decide) (fun c_53 => ?_) (fun c_53 => ?_)
        · refine r_iload_n d_Mo_faultBits_61 rfl 0 rfl ?_
          refine r_iret d_Mo_faultBits_62 rfl rfl ?_
          refine ⟨?_, rfl⟩
          unfold moF mo1
          repeat (first | rw [if_pos (by assumption)] | rw [if_neg (by assumption)])
        · refine r_iload_n d_Mo_faultBits_56 rfl 0 rfl ?_
          refine r_bipush d_Mo_faultBits_57 (v := 8) (by decide) ?_
          refine r_ior d_Mo_faultBits_59 (v := 16 ||| 8) rfl ?_
          refine r_istore_n (lv' := [(1, .int (16 ||| 8)), (0, .ref a)]) d_Mo_faultBits_60 rfl (by decide) rfl ?_
          refine r_iload_n d_Mo_faultBits_61 rfl 0 rfl ?_
          refine r_iret d_Mo_faultBits_62 rfl rfl ?_
          refine ⟨?_, rfl⟩
          unfold moF mo1
          repeat (first | rw [if_pos (by assumption)] | rw [if_neg (by assumption)])
      · refine r_aload_n d_Mo_faultBits_38 rfl 1 rfl ?_
        refine r_get fs_Mo_62 d_Mo_faultBits_39 (q0 := 0) rfl rfl ?_
        refine r_bipush d_Mo_faultBits_42 (v := 40) (by decide) ?_
        refine r_icmp_gt (tgt := 56) d_Mo_faultBits_44 (by decide) (fun c_44 => ?_) (fun c_44 => ?_)
        · refine r_iload_n d_Mo_faultBits_56 rfl 0 rfl ?_
          refine r_bipush d_Mo_faultBits_57 (v := 8) (by decide) ?_
          refine r_ior d_Mo_faultBits_59 (v := 16 ||| 8) rfl ?_
          refine r_istore_n (lv' := [(1, .int (16 ||| 8)), (0, .ref a)]) d_Mo_faultBits_60 rfl (by decide) rfl ?_
          refine r_iload_n d_Mo_faultBits_61 rfl 0 rfl ?_
          refine r_iret d_Mo_faultBits_62 rfl rfl ?_
          refine ⟨?_, rfl⟩
          unfold moF mo1
          repeat (first | rw [if_pos (by assumption)] | rw [if_neg (by assumption)])
        · refine r_aload_n d_Mo_faultBits_47 rfl 1 rfl ?_
          refine r_get fs_Mo_63 d_Mo_faultBits_48 (q0 := 0) rfl rfl ?_
          refine r_bipush d_Mo_faultBits_51 (v := 60) (by decide) ?_
          refine r_icmp_le (tgt := 61) d_Mo_faultBits_53 (by decide) (fun c_53 => ?_) (fun c_53 => ?_)
          · refine r_iload_n d_Mo_faultBits_61 rfl 0 rfl ?_
            refine r_iret d_Mo_faultBits_62 rfl rfl ?_
            refine ⟨?_, rfl⟩
            unfold moF mo1
            repeat (first | rw [if_pos (by assumption)] | rw [if_neg (by assumption)])
          · refine r_iload_n d_Mo_faultBits_56 rfl 0 rfl ?_
            refine r_bipush d_Mo_faultBits_57 (v := 8) (by decide) ?_
            refine r_ior d_Mo_faultBits_59 (v := 16 ||| 8) rfl ?_
            refine r_istore_n (lv' := [(1, .int (16 ||| 8)), (0, .ref a)]) d_Mo_faultBits_60 rfl (by decide) rfl ?_
            refine r_iload_n d_Mo_faultBits_61 rfl 0 rfl ?_
            refine r_iret d_Mo_faultBits_62 rfl rfl ?_
            refine ⟨?_, rfl⟩
            unfold moF mo1
            repeat (first | rw [if_pos (by assumption)] | rw [if_neg (by assumption)])
    · refine r_iload_n d_Mo_faultBits_25 rfl 0 rfl ?_
      refine r_iconst d_Mo_faultBits_26 (v := 4) (by decide) ?_
      refine r_ior d_Mo_faultBits_27 (v := 16 ||| 4) rfl ?_
      refine r_istore_n (lv' := [(1, .int (16 ||| 4)), (0, .ref a)]) d_Mo_faultBits_28 rfl (by decide) rfl ?_
      refine r_aload_n d_Mo_faultBits_29 rfl 1 rfl ?_
      refine r_get fs_Mo_57 d_Mo_faultBits_30 (q0 := 0) rfl rfl ?_
      refine r_bipush d_Mo_faultBits_33 (v := 80) (by decide) ?_
      refine r_icmp_ge (tgt := 47) d_Mo_faultBits_35 (by decide) (fun c_35 => ?_) (fun c_35 => ?_)
      · refine r_aload_n d_Mo_faultBits_47 rfl 1 rfl ?_
        refine r_get fs_Mo_63 d_Mo_faultBits_48 (q0 := 0) rfl rfl ?_
        refine r_bipush d_Mo_faultBits_51 (v := 60) (by decide) ?_
        refine r_icmp_le (tgt := 61) d_Mo_faultBits_53 (by decide) (fun c_53 => ?_) (fun c_53 => ?_)
        · refine r_iload_n d_Mo_faultBits_61 rfl 0 rfl ?_
          refine r_iret d_Mo_faultBits_62 rfl rfl ?_
          refine ⟨?_, rfl⟩
          unfold moF mo1
          repeat (first | rw [if_pos (by assumption)] | rw [if_neg (by assumption)])
        · refine r_iload_n d_Mo_faultBits_56 rfl 0 rfl ?_
          refine r_bipush d_Mo_faultBits_57 (v := 8) (by decide) ?_
          refine r_ior d_Mo_faultBits_59 (v := (16 ||| 4) ||| 8) rfl ?_
          refine r_istore_n (lv' := [(1, .int ((16 ||| 4) ||| 8)), (0, .ref a)]) d_Mo_faultBits_60 rfl (by decide) rfl ?_
          refine r_iload_n d_Mo_faultBits_61 rfl 0 rfl ?_
          refine r_iret d_Mo_faultBits_62 rfl rfl ?_
          refine ⟨?_, rfl⟩
          unfold moF mo1
          repeat (first | rw [if_pos (by assumption)] | rw [if_neg (by assumption)])
      · refine r_aload_n d_Mo_faultBits_38 rfl 1 rfl ?_
        refine r_get fs_Mo_62 d_Mo_faultBits_39 (q0 := 0) rfl rfl ?_
        refine r_bipush d_Mo_faultBits_42 (v := 40) (by decide) ?_
        refine r_icmp_gt (tgt := 56) d_Mo_faultBits_44 (by decide) (fun c_44 => ?_) (fun c_44 => ?_)
        · refine r_iload_n d_Mo_faultBits_56 rfl 0 rfl ?_
          refine r_bipush d_Mo_faultBits_57 (v := 8) (by decide) ?_
          refine r_ior d_Mo_faultBits_59 (v := (16 ||| 4) ||| 8) rfl ?_
          refine r_istore_n (lv' := [(1, .int ((16 ||| 4) ||| 8)), (0, .ref a)]) d_Mo_faultBits_60 rfl (by decide) rfl ?_
          refine r_iload_n d_Mo_faultBits_61 rfl 0 rfl ?_
          refine r_iret d_Mo_faultBits_62 rfl rfl ?_
          refine ⟨?_, rfl⟩
          unfold moF mo1
          repeat (first | rw [if_pos (by assumption)] | rw [if_neg (by assumption)])
        · refine r_aload_n d_Mo_faultBits_47 rfl 1 rfl ?_
          refine r_get fs_Mo_63 d_Mo_faultBits_48 (q0 := 0) rfl rfl ?_
          refine r_bipush d_Mo_faultBits_51 (v := 60) (by decide) ?_
          refine r_icmp_le (tgt := 61) d_Mo_faultBits_53 (by decide) (fun c_53 => ?_) (fun c_53 => ?_)
          · refine r_iload_n d_Mo_faultBits_61 rfl 0 rfl ?_
            refine r_iret d_Mo_faultBits_62 rfl rfl ?_
            refine ⟨?_, rfl⟩
            unfold moF mo1
            repeat (first | rw [if_pos (by assumption)] | rw [if_neg (by assumption)])
          · refine r_iload_n d_Mo_faultBits_56 rfl 0 rfl ?_
            refine r_bipush d_Mo_faultBits_57 (v := 8) (by decide) ?_
            refine r_ior d_Mo_faultBits_59 (v := (16 ||| 4) ||| 8) rfl ?_
            refine r_istore_n (lv' := [(1, .int ((16 ||| 4) ||| 8)), (0, .ref a)]) d_Mo_faultBits_60 rfl (by decide) rfl ?_
            refine r_iload_n d_Mo_faultBits_61 rfl 0 rfl ?_
            refine r_iret d_Mo_faultBits_62 rfl rfl ?_
            refine ⟨?_, rfl⟩
            unfold moF mo1
            repeat (first | rw [if_pos (by assumption)] | rw [if_neg (by assumption)])
abbrev M_Ca_init : zM := (⟨"Ironpour$Casting", "<init>", "(I)V"⟩, prog_2_method_1_code, 2, (Option.none : Option FieldType), 2, 40, [])
theorem d_Ca_init_0 : decode prog_2_method_1_code 0 = .ok (.aload_n 0, 1) := zo_42 (zd_b zq_prog_2_method_1_code_0 0 rfl rfl rfl)
theorem d_Ca_init_1 : decode prog_2_method_1_code 1 = .ok (.invokespecial 3, 3) := zo_183 (d := 0) (e := 3) (zd_b zq_prog_2_method_1_code_0 1 rfl rfl rfl) (zd_b zq_prog_2_method_1_code_0 2 rfl rfl rfl) (zd_b zq_prog_2_method_1_code_0 3 rfl rfl rfl)
theorem ln_Ca_3 : Cond.methodLink "Ironpour$Casting" 3 Lib.objectInit ∈ z_gw := z_mj6 (i := 137) rfl (by decide +kernel)
theorem d_Ca_init_4 : decode prog_2_method_1_code 4 = .ok (.aload_n 0, 1) := zo_42 (zd_b zq_prog_2_method_1_code_0 4 rfl rfl rfl)
theorem d_Ca_init_5 : decode prog_2_method_1_code 5 = .ok (.new 9, 3) := zo_187 (d := 0) (e := 9) (zd_b zq_prog_2_method_1_code_0 5 rfl rfl rfl) (zd_b zq_prog_2_method_1_code_0 6 rfl rfl rfl) (zd_b zq_prog_2_method_1_code_0 7 rfl rfl rfl)
theorem nc_Ca_9 : z_nc "Ironpour$Casting" 9 6 2 [.null, .int 0] := ⟨R_Me, F_Me, t_Me, rfl, u_Me, t_Me_ok, z_mj6 (i := 138) rfl (by decide +kernel), z_mj1 (i := 192) rfl (by decide +kernel), z_mj1 (i := 8) rfl (by decide +kernel), by decide +kernel⟩
theorem d_Ca_init_8 : decode prog_2_method_1_code 8 = .ok (.dup, 1) := zo_89 (zd_b zq_prog_2_method_1_code_0 8 rfl rfl rfl)
theorem d_Ca_init_9 : decode prog_2_method_1_code 9 = .ok (.invokespecial 11, 3) := zo_183 (d := 0) (e := 11) (zd_b zq_prog_2_method_1_code_0 9 rfl rfl rfl) (zd_b zq_prog_2_method_1_code_0 10 rfl rfl rfl) (zd_b zq_prog_2_method_1_code_0 11 rfl rfl rfl)
theorem ok_Ca_init_Me_init : z_ok M_Ca_init M_Me_init 0 := ⟨z_mj1 (i := 195) rfl (by decide +kernel), rfl, ⟨by decide +kernel, by decide +kernel, by decide +kernel⟩, ⟨by decide, by decide⟩, z_mj1 (i := 8) rfl (by decide +kernel), rfl⟩
theorem ln_Ca_11 : Cond.methodLinkNest "Ironpour$Casting" 11 M_Me_init.1 "Ironpour" ∈ z_nw := z_mk6 (i := 139) rfl (by decide +kernel)
theorem d_Ca_init_12 : decode prog_2_method_1_code 12 = .ok (.putfield 12, 3) := zo_181 (d := 0) (e := 12) (zd_b zq_prog_2_method_1_code_0 12 rfl rfl rfl) (zd_b zq_prog_2_method_1_code_0 13 rfl rfl rfl) (zd_b zq_prog_2_method_1_code_0 14 rfl rfl rfl)
theorem u_Ca : ∀ x ∈ u_ws R_Ca F_Ca 6, x ∈ z_gw := fun x hx => List.mem_filter.mpr ⟨(z_au [(6, 148), (6, 150), (6, 152), (6, 154), (6, 156), (6, 158)] (by decide +kernel) : ∀ x ∈ u_ws R_Ca F_Ca 6, x ∈ lw_tbl) x hx, (show ∀ x ∈ u_ws R_Ca F_Ca 6, goodWord x = true by decide +kernel) x hx⟩
theorem fp_Ca_12 : z_fp "Ironpour$Casting" 12 0 0 true (t_Ca 0) := ⟨R_Ca, "Ironpour$Casting", F_Ca, 6, t_Ca, rfl, u_Ca, by decide, t_Ca_ok, n_Ca, rfl, rfl, Or.inl ⟨z_mj6 (i := 140) rfl (by decide +kernel), Or.inl rfl, fun _ => ⟨rfl, rfl⟩⟩⟩
theorem d_Ca_init_15 : decode prog_2_method_1_code 15 = .ok (.aload_n 0, 1) := zo_42 (zd_b zq_prog_2_method_1_code_0 15 rfl rfl rfl)
theorem d_Ca_init_16 : decode prog_2_method_1_code 16 = .ok (.iload_n 1, 1) := zo_27 (zd_b zq_prog_2_method_1_code_0 16 rfl rfl rfl)
theorem d_Ca_init_17 : decode prog_2_method_1_code 17 = .ok (.putfield 18, 3) := zo_181 (d := 0) (e := 18) (zd_b zq_prog_2_method_1_code_0 17 rfl rfl rfl) (zd_b zq_prog_2_method_1_code_0 18 rfl rfl rfl) (zd_b zq_prog_2_method_1_code_0 19 rfl rfl rfl)
theorem fp_Ca_18 : z_fp "Ironpour$Casting" 18 0 1 true .int := ⟨R_Ca, "Ironpour$Casting", F_Ca, 6, t_Ca, rfl, u_Ca, by decide, t_Ca_ok, n_Ca, rfl, rfl, Or.inl ⟨z_mj6 (i := 142) rfl (by decide +kernel), Or.inl rfl, fun _ => ⟨rfl, rfl⟩⟩⟩
theorem d_Ca_init_20 : decode prog_2_method_1_code 20 = .ok (.return_, 1) := zo_177 (zd_b zq_prog_2_method_1_code_0 20 rfl rfl rfl)
set_option maxHeartbeats 4000000 in
set_option maxRecDepth 100000 in
theorem C_Ca_init (g : zG) (a : Nat) (mg : Int32) : CT g M_Ca_init [.ref a, .int mg] [(a, .inr (0, [.null, .int 0, .int 0, .int 0, .int 0, .int 0]))] (fun o cs1 => ∃ ab abg, o = .inl none ∧ cs1 = [(a, .inr (0, [.ref ab, .int mg, .int 0, .int 0, .int 0, .int 0])), (ab, .inr (6, [.ref abg, .int 0])), (abg, .inl (3, 4, .inr (.inl (fun _ => 0))))]) 3 10 := by
  refine z_of (by decide) rfl (Nat.le_of_ble_eq_true rfl) (fun w0 => ?_)
  refine r_lvE (lv2 := [(0, .ref a), (1, .int mg)]) rfl ?_
  refine r_aload_n d_Ca_init_0 rfl 0 rfl ?_
  refine r_objInit ln_Ca_3 w_oi1 w_oi2 d_Ca_init_1 (by decide) (by decide) (Nat.le_of_ble_eq_true rfl) ?_
  refine r_aload_n d_Ca_init_4 rfl 0 rfl ?_
  refine r_new nc_Ca_9 d_Ca_init_5 (by omega) (by omega) (fun ab => ?_)
  refine r_cs (cs2 := [(a, .inr (0, [.null, .int 0, .int 0, .int 0, .int 0, .int 0])), (ab, .inr (6, [.null, .int 0]))]) rfl ?_
  refine r_dup d_Ca_init_8 rfl ?_
  refine r_callIN (As := []) (rest := [.ref ab, .ref a]) (csC := [(ab, .inr (6, [.null, .int 0]))]) (is := [1]) rfl rfl ln_Ca_11 w_im_Me_init ok_Ca_init_Me_init d_Ca_init_9 (C_Me_init g ab) rfl rfl (Nat.le_of_ble_eq_true rfl) rfl (by decide) (by omega) (by omega) (fun E cs1 hx => ?_) (fun v cs1 hx => ?_)
  · obtain ⟨abg, e1, -⟩ := hx
    cases e1
  · obtain ⟨abg, e1, rfl⟩ := hx
    cases e1
    refine ⟨rfl, ?_⟩
    refine r_st (st2 := [.ref ab, .ref a]) rfl ?_
    refine r_cs (cs2 := [(a, .inr (0, [.null, .int 0, .int 0, .int 0, .int 0, .int 0])), (ab, .inr (6, [.ref abg, .int 0])), (abg, .inl (3, 4, .inr (.inl (fun _ => 0))))]) rfl ?_
    refine r_put fp_Ca_12 d_Ca_init_12 (fun _ => rfl) rfl rfl (q0 := 0) rfl (Nat.le_of_ble_eq_true rfl) (cs' := [(a, .inr (0, [.ref ab, .int 0, .int 0, .int 0, .int 0, .int 0])), (ab, .inr (6, [.ref abg, .int 0])), (abg, .inl (3, 4, .inr (.inl (fun _ => 0))))]) rfl ?_
    refine r_aload_n d_Ca_init_15 rfl 0 rfl ?_
    refine r_iload_n d_Ca_init_16 rfl 1 rfl ?_
    refine r_put fp_Ca_18 d_Ca_init_17 (fun _ => rfl) rfl rfl (q0 := 0) rfl (Nat.le_of_ble_eq_true rfl) (cs' := [(a, .inr (0, [.ref ab, .int mg, .int 0, .int 0, .int 0, .int 0])), (ab, .inr (6, [.ref abg, .int 0])), (abg, .inl (3, 4, .inr (.inl (fun _ => 0))))]) rfl ?_
    refine r_vret d_Ca_init_20 rfl ?_
    exact ⟨ab, abg, rfl, rfl⟩
abbrev M_Ca_isDuctile : zM := (⟨"Ironpour$Casting", "isDuctile", "()Z"⟩, prog_2_method_2_code, 1, (Option.some FieldType.boolean), 1, 20, [])
theorem d_Ca_isDuctile_0 : decode prog_2_method_2_code 0 = .ok (.aload_n 0, 1) := zo_42 (zd_b zq_prog_2_method_2_code_0 0 rfl rfl rfl)
theorem d_Ca_isDuctile_1 : decode prog_2_method_2_code 1 = .ok (.getfield 18, 3) := zo_180 (d := 0) (e := 18) (zd_b zq_prog_2_method_2_code_0 1 rfl rfl rfl) (zd_b zq_prog_2_method_2_code_0 2 rfl rfl rfl) (zd_b zq_prog_2_method_2_code_0 3 rfl rfl rfl)
theorem fs_Ca_18 : z_fs "Ironpour$Casting" 18 0 1 := ⟨R_Ca, "Ironpour$Casting", F_Ca, 6, rfl, u_Ca, by decide, Or.inl ⟨z_mj6 (i := 142) rfl (by decide +kernel), Or.inl rfl⟩⟩
theorem d_Ca_isDuctile_4 : decode prog_2_method_2_code 4 = .ok (.bipush 20, 2) := zo_16 (d := 20) (zd_b zq_prog_2_method_2_code_0 4 rfl rfl rfl) (zd_b zq_prog_2_method_2_code_0 5 rfl rfl rfl) (by decide +kernel)
theorem d_Ca_isDuctile_6 : decode prog_2_method_2_code 6 = .ok (.if_icmp .lt 7, 3) := zo_161 (d := 0) (e := 7) (zd_b zq_prog_2_method_2_code_0 6 rfl rfl rfl) (zd_b zq_prog_2_method_2_code_0 7 rfl rfl rfl) (zd_b zq_prog_2_method_2_code_0 8 rfl rfl rfl) (by decide +kernel)
theorem d_Ca_isDuctile_13 : decode prog_2_method_2_code 13 = .ok (.iconst 0, 1) := zo_3 (zd_b zq_prog_2_method_2_code_0 13 rfl rfl rfl)
theorem d_Ca_isDuctile_14 : decode prog_2_method_2_code 14 = .ok (.ireturn, 1) := zo_172 (zd_b zq_prog_2_method_2_code_0 14 rfl rfl rfl)
theorem d_Ca_isDuctile_9 : decode prog_2_method_2_code 9 = .ok (.iconst 1, 1) := zo_4 (zd_b zq_prog_2_method_2_code_0 9 rfl rfl rfl)
theorem d_Ca_isDuctile_10 : decode prog_2_method_2_code 10 = .ok (.goto 4, 3) := zo_167 (d := 0) (e := 4) (zd_b zq_prog_2_method_2_code_0 10 rfl rfl rfl) (zd_b zq_prog_2_method_2_code_0 11 rfl rfl rfl) (zd_b zq_prog_2_method_2_code_0 12 rfl rfl rfl) (by decide +kernel)
set_option maxHeartbeats 4000000 in
set_option maxRecDepth 100000 in
theorem C_Ca_isDuctile (g : zG) (a ab abg : Nat) (gr : Nat → Int64) (ir mg sh fb dl bk : Int32) : CT g M_Ca_isDuctile [.ref a] [(a, .inr (0, [.ref ab, .int mg, .int sh, .int fb, .int dl, .int bk])), (ab, .inr (6, [.ref abg, .int ir])), (abg, .inl (3, 4, .inr (.inl gr)))] (fun o cs1 => o = .inl (some (.int (if mg < 20 then 0 else 1))) ∧ cs1 = [(a, .inr (0, [.ref ab, .int mg, .int sh, .int fb, .int dl, .int bk])), (ab, .inr (6, [.ref abg, .int ir])), (abg, .inl (3, 4, .inr (.inl gr)))]) 0 0 := by
  refine z_of (by decide) rfl (Nat.le_of_ble_eq_true rfl) (fun w0 => ?_)
  refine r_lvE (lv2 := [(0, .ref a)]) rfl ?_
  refine r_aload_n d_Ca_isDuctile_0 rfl 0 rfl ?_
  refine r_get fs_Ca_18 d_Ca_isDuctile_1 (q0 := 0) rfl rfl ?_
  refine r_bipush d_Ca_isDuctile_4 (v := 20) (by decide) ?_
  refine r_icmp_lt (tgt := 13) d_Ca_isDuctile_6 (by decide) (fun c_6 => ?_) (fun c_6 => ?_)
  · refine r_iconst d_Ca_isDuctile_13 (v := 0) (by decide) ?_
    refine r_iret d_Ca_isDuctile_14 rfl rfl ?_
    refine ⟨?_, rfl⟩
    first | rw [if_pos (by assumption)] | rw [if_neg (by assumption)]
  · refine r_iconst d_Ca_isDuctile_9 (v := 1) (by decide) ?_
    refine r_goto (tgt := 14) d_Ca_isDuctile_10 (by decide) ?_
    refine r_iret d_Ca_isDuctile_14 rfl rfl ?_
    refine ⟨?_, rfl⟩
    first | rw [if_pos (by assumption)] | rw [if_neg (by assumption)]
abbrev M_Ca_isHard : zM := (⟨"Ironpour$Casting", "isHard", "()Z"⟩, prog_2_method_3_code, 1, (Option.some FieldType.boolean), 3, 61, [])
theorem d_Ca_isHard_0 : decode prog_2_method_3_code 0 = .ok (.aload_n 0, 1) := zo_42 (zd_b zq_prog_2_method_3_code_0 0 rfl rfl rfl)
theorem d_Ca_isHard_1 : decode prog_2_method_3_code 1 = .ok (.getfield 12, 3) := zo_180 (d := 0) (e := 12) (zd_b zq_prog_2_method_3_code_0 1 rfl rfl rfl) (zd_b zq_prog_2_method_3_code_0 2 rfl rfl rfl) (zd_b zq_prog_2_method_3_code_0 3 rfl rfl rfl)
theorem fs_Ca_12 : z_fs "Ironpour$Casting" 12 0 0 := ⟨R_Ca, "Ironpour$Casting", F_Ca, 6, rfl, u_Ca, by decide, Or.inl ⟨z_mj6 (i := 140) rfl (by decide +kernel), Or.inl rfl⟩⟩
theorem d_Ca_isHard_4 : decode prog_2_method_3_code 4 = .ok (.invokevirtual 22, 3) := zo_182 (d := 0) (e := 22) (zd_b zq_prog_2_method_3_code_0 4 rfl rfl rfl) (zd_b zq_prog_2_method_3_code_0 5 rfl rfl rfl) (zd_b zq_prog_2_method_3_code_0 6 rfl rfl rfl)
theorem ok_Ca_isHard_Me_carbonAlike : z_ok M_Ca_isHard M_Me_carbonAlike 0 := ⟨z_mj6 (i := 177) rfl (by decide +kernel), rfl, ⟨by decide +kernel, by decide +kernel, by decide +kernel⟩, ⟨by decide, by decide⟩, z_mj1 (i := 8) rfl (by decide +kernel), rfl⟩
theorem ln_Ca_22 : Cond.methodLink "Ironpour$Casting" 22 M_Me_carbonAlike.1 ∈ z_gw := z_mj6 (i := 174) rfl (by decide +kernel)
theorem w_im_Me_carbonAlike : Cond.instanceMethod M_Me_carbonAlike.1 ∈ z_gw := z_mj6 (i := 175) rfl (by decide +kernel)
theorem w_se_Me_carbonAlike : Cond.selects M_Me_carbonAlike.1.cls M_Me_carbonAlike.1 M_Me_carbonAlike.1 ∈ z_gw := z_mj6 (i := 176) rfl (by decide +kernel)
theorem d_Ca_isHard_7 : decode prog_2_method_3_code 7 = .ok (.sipush 370, 3) := zo_17 (d := 1) (e := 114) (zd_b zq_prog_2_method_3_code_0 7 rfl rfl rfl) (zd_b zq_prog_2_method_3_code_0 8 rfl rfl rfl) (zd_b zq_prog_2_method_3_code_0 9 rfl rfl rfl) (by decide +kernel)
theorem d_Ca_isHard_10 : decode prog_2_method_3_code 10 = .ok (.if_icmp .lt 17, 3) := zo_161 (d := 0) (e := 17) (zd_b zq_prog_2_method_3_code_0 10 rfl rfl rfl) (zd_b zq_prog_2_method_3_code_0 11 rfl rfl rfl) (zd_b zq_prog_2_method_3_code_0 12 rfl rfl rfl) (by decide +kernel)
theorem d_Ca_isHard_27 : decode prog_2_method_3_code 27 = .ok (.iconst 1, 1) := zo_4 (zd_b zq_prog_2_method_3_code_0 27 rfl rfl rfl)
theorem d_Ca_isHard_28 : decode prog_2_method_3_code 28 = .ok (.goto 4, 3) := zo_167 (d := 0) (e := 4) (zd_b zq_prog_2_method_3_code_0 28 rfl rfl rfl) (zd_b zq_prog_2_method_3_code_0 29 rfl rfl rfl) (zd_b zq_prog_2_method_3_code_0 30 rfl rfl rfl) (by decide +kernel)
theorem d_Ca_isHard_32 : decode prog_2_method_3_code 32 = .ok (.ireturn, 1) := zo_172 (zd_b zq_prog_2_method_3_code_1 0 rfl rfl rfl)
theorem d_Ca_isHard_13 : decode prog_2_method_3_code 13 = .ok (.aload_n 0, 1) := zo_42 (zd_b zq_prog_2_method_3_code_0 13 rfl rfl rfl)
theorem d_Ca_isHard_14 : decode prog_2_method_3_code 14 = .ok (.getfield 18, 3) := zo_180 (d := 0) (e := 18) (zd_b zq_prog_2_method_3_code_0 14 rfl rfl rfl) (zd_b zq_prog_2_method_3_code_0 15 rfl rfl rfl) (zd_b zq_prog_2_method_3_code_0 16 rfl rfl rfl)
theorem d_Ca_isHard_17 : decode prog_2_method_3_code 17 = .ok (.ifCond .le 14, 3) := zo_158 (d := 0) (e := 14) (zd_b zq_prog_2_method_3_code_0 17 rfl rfl rfl) (zd_b zq_prog_2_method_3_code_0 18 rfl rfl rfl) (zd_b zq_prog_2_method_3_code_0 19 rfl rfl rfl) (by decide +kernel)
theorem d_Ca_isHard_31 : decode prog_2_method_3_code 31 = .ok (.iconst 0, 1) := zo_3 (zd_b zq_prog_2_method_3_code_0 31 rfl rfl rfl)
theorem d_Ca_isHard_20 : decode prog_2_method_3_code 20 = .ok (.aload_n 0, 1) := zo_42 (zd_b zq_prog_2_method_3_code_0 20 rfl rfl rfl)
theorem d_Ca_isHard_21 : decode prog_2_method_3_code 21 = .ok (.invokevirtual 26, 3) := zo_182 (d := 0) (e := 26) (zd_b zq_prog_2_method_3_code_0 21 rfl rfl rfl) (zd_b zq_prog_2_method_3_code_0 22 rfl rfl rfl) (zd_b zq_prog_2_method_3_code_0 23 rfl rfl rfl)
theorem ok_Ca_isHard_Ca_isDuctile : z_ok M_Ca_isHard M_Ca_isDuctile 0 := ⟨z_mj6 (i := 182) rfl (by decide +kernel), rfl, ⟨by decide +kernel, by decide +kernel, by decide +kernel⟩, ⟨by decide, by decide⟩, z_mj1 (i := 35) rfl (by decide +kernel), rfl⟩
theorem ln_Ca_26 : Cond.methodLink "Ironpour$Casting" 26 M_Ca_isDuctile.1 ∈ z_gw := z_mj6 (i := 179) rfl (by decide +kernel)
theorem w_im_Ca_isDuctile : Cond.instanceMethod M_Ca_isDuctile.1 ∈ z_gw := z_mj6 (i := 180) rfl (by decide +kernel)
theorem w_se_Ca_isDuctile : Cond.selects M_Ca_isDuctile.1.cls M_Ca_isDuctile.1 M_Ca_isDuctile.1 ∈ z_gw := z_mj6 (i := 181) rfl (by decide +kernel)
theorem d_Ca_isHard_24 : decode prog_2_method_3_code 24 = .ok (.ifCond .ne 7, 3) := zo_154 (d := 0) (e := 7) (zd_b zq_prog_2_method_3_code_0 24 rfl rfl rfl) (zd_b zq_prog_2_method_3_code_0 25 rfl rfl rfl) (zd_b zq_prog_2_method_3_code_0 26 rfl rfl rfl) (by decide +kernel)
set_option maxHeartbeats 4000000 in
set_option maxRecDepth 100000 in
theorem C_Ca_isHard (g : zG) (a ab abg : Nat) (gr : Nat → Int64) (ir mg sh fb dl bk : Int32) : CT g M_Ca_isHard [.ref a] [(a, .inr (0, [.ref ab, .int mg, .int sh, .int fb, .int dl, .int bk])), (ab, .inr (6, [.ref abg, .int ir])), (abg, .inl (3, 4, .inr (.inl gr)))] (fun o cs1 => o = .inl (some (.int (z_bi (ihB mg gr ir)))) ∧ cs1 = [(a, .inr (0, [.ref ab, .int mg, .int sh, .int fb, .int dl, .int bk])), (ab, .inr (6, [.ref abg, .int ir])), (abg, .inl (3, 4, .inr (.inl gr)))]) 0 0 := by
  refine z_of (by decide) rfl (Nat.le_of_ble_eq_true rfl) (fun w0 => ?_)
  refine r_lvE (lv2 := [(0, .ref a)]) rfl ?_
  refine r_aload_n d_Ca_isHard_0 rfl 0 rfl ?_
  refine r_get fs_Ca_12 d_Ca_isHard_1 (q0 := 0) rfl rfl ?_
  refine r_callV (As := []) (rest := []) (csC := [(ab, .inr (6, [.ref abg, .int ir])), (abg, .inl (3, 4, .inr (.inl gr)))]) (is := [1, 2]) (q0 := 1) rfl rfl ln_Ca_22 w_im_Me_carbonAlike w_se_Me_carbonAlike ok_Ca_isHard_Me_carbonAlike d_Ca_isHard_4 (C_Me_carbonAlike g ab abg gr ir) rfl rfl (Nat.le_of_ble_eq_true rfl) rfl (by decide) (by omega) (by omega) (fun E cs1 hx => ?_) (fun v cs1 hx => ?_)
  · exact absurd hx.1 (by simp)
  · obtain ⟨e1, rfl⟩ := hx
    cases e1
    refine ⟨rfl, ?_⟩
    refine r_st (st2 := [.int (caI gr ir)]) rfl ?_
    refine r_cs (cs2 := [(a, .inr (0, [.ref ab, .int mg, .int sh, .int fb, .int dl, .int bk])), (ab, .inr (6, [.ref abg, .int ir])), (abg, .inl (3, 4, .inr (.inl gr)))]) rfl ?_
    refine r_sipush d_Ca_isHard_7 (v := 370) (by decide) ?_
    refine r_icmp_lt (tgt := 27) d_Ca_isHard_10 (by decide) (fun c_10 => ?_) (fun c_10 => ?_)
    · refine r_iconst d_Ca_isHard_27 (v := 1) (by decide) ?_
      refine r_goto (tgt := 32) d_Ca_isHard_28 (by decide) ?_
      refine r_iret d_Ca_isHard_32 rfl rfl ?_
      refine ⟨?_, rfl⟩
      simp_all [ihB, z_bi]
    · refine r_aload_n d_Ca_isHard_13 rfl 0 rfl ?_
      refine r_get fs_Ca_18 d_Ca_isHard_14 (q0 := 0) rfl rfl ?_
      refine r_if_le (tgt := 31) d_Ca_isHard_17 (by decide) (fun c_17 => ?_) (fun c_17 => ?_)
      · refine r_iconst d_Ca_isHard_31 (v := 0) (by decide) ?_
        refine r_iret d_Ca_isHard_32 rfl rfl ?_
        refine ⟨?_, rfl⟩
        simp_all [ihB, z_bi]
      · refine r_aload_n d_Ca_isHard_20 rfl 0 rfl ?_
        refine r_callV (As := []) (rest := []) (csC := [(a, .inr (0, [.ref ab, .int mg, .int sh, .int fb, .int dl, .int bk])), (ab, .inr (6, [.ref abg, .int ir])), (abg, .inl (3, 4, .inr (.inl gr)))]) (is := [0, 1, 2]) (q0 := 0) rfl rfl ln_Ca_26 w_im_Ca_isDuctile w_se_Ca_isDuctile ok_Ca_isHard_Ca_isDuctile d_Ca_isHard_21 (C_Ca_isDuctile g a ab abg gr ir mg sh fb dl bk) rfl rfl (Nat.le_of_ble_eq_true rfl) rfl (by decide) (by omega) (by omega) (fun E cs1 hx => ?_) (fun v cs1 hx => ?_)
        · exact absurd hx.1 (by simp)
        · obtain ⟨e1, rfl⟩ := hx
          cases e1
          refine ⟨rfl, ?_⟩
          refine r_st (st2 := [.int (if mg < 20 then 0 else 1)]) rfl ?_
          refine r_cs (cs2 := [(a, .inr (0, [.ref ab, .int mg, .int sh, .int fb, .int dl, .int bk])), (ab, .inr (6, [.ref abg, .int ir])), (abg, .inl (3, 4, .inr (.inl gr)))]) rfl ?_
          refine r_if_ne (tgt := 31) d_Ca_isHard_24 (by decide) (fun c_24 => ?_) (fun c_24 => ?_)
          · refine r_iconst d_Ca_isHard_31 (v := 0) (by decide) ?_
            refine r_iret d_Ca_isHard_32 rfl rfl ?_
            refine ⟨?_, rfl⟩
            simp_all [ihB, z_bi]
          · refine r_iconst d_Ca_isHard_27 (v := 1) (by decide) ?_
            refine r_goto (tgt := 32) d_Ca_isHard_28 (by decide) ?_
            refine r_iret d_Ca_isHard_32 rfl rfl ?_
            refine ⟨?_, rfl⟩
            simp_all [ihB, z_bi]
abbrev M_Ca_hasFault : zM := (⟨"Ironpour$Casting", "hasFault", "(I)Z"⟩, prog_2_method_4_code, 2, (Option.some FieldType.boolean), 1, 20, [])
theorem d_Ca_hasFault_0 : decode prog_2_method_4_code 0 = .ok (.aload_n 0, 1) := zo_42 (zd_b zq_prog_2_method_4_code_0 0 rfl rfl rfl)
theorem d_Ca_hasFault_1 : decode prog_2_method_4_code 1 = .ok (.getfield 30, 3) := zo_180 (d := 0) (e := 30) (zd_b zq_prog_2_method_4_code_0 1 rfl rfl rfl) (zd_b zq_prog_2_method_4_code_0 2 rfl rfl rfl) (zd_b zq_prog_2_method_4_code_0 3 rfl rfl rfl)
theorem fs_Ca_30 : z_fs "Ironpour$Casting" 30 0 3 := ⟨R_Ca, "Ironpour$Casting", F_Ca, 6, rfl, u_Ca, by decide, Or.inl ⟨z_mj6 (i := 144) rfl (by decide +kernel), Or.inl rfl⟩⟩
theorem d_Ca_hasFault_4 : decode prog_2_method_4_code 4 = .ok (.iload_n 1, 1) := zo_27 (zd_b zq_prog_2_method_4_code_0 4 rfl rfl rfl)
theorem d_Ca_hasFault_5 : decode prog_2_method_4_code 5 = .ok (.iand, 1) := zo_126 (zd_b zq_prog_2_method_4_code_0 5 rfl rfl rfl)
theorem d_Ca_hasFault_6 : decode prog_2_method_4_code 6 = .ok (.ifCond .eq 7, 3) := zo_153 (d := 0) (e := 7) (zd_b zq_prog_2_method_4_code_0 6 rfl rfl rfl) (zd_b zq_prog_2_method_4_code_0 7 rfl rfl rfl) (zd_b zq_prog_2_method_4_code_0 8 rfl rfl rfl) (by decide +kernel)
theorem d_Ca_hasFault_13 : decode prog_2_method_4_code 13 = .ok (.iconst 0, 1) := zo_3 (zd_b zq_prog_2_method_4_code_0 13 rfl rfl rfl)
theorem d_Ca_hasFault_14 : decode prog_2_method_4_code 14 = .ok (.ireturn, 1) := zo_172 (zd_b zq_prog_2_method_4_code_0 14 rfl rfl rfl)
theorem d_Ca_hasFault_9 : decode prog_2_method_4_code 9 = .ok (.iconst 1, 1) := zo_4 (zd_b zq_prog_2_method_4_code_0 9 rfl rfl rfl)
theorem d_Ca_hasFault_10 : decode prog_2_method_4_code 10 = .ok (.goto 4, 3) := zo_167 (d := 0) (e := 4) (zd_b zq_prog_2_method_4_code_0 10 rfl rfl rfl) (zd_b zq_prog_2_method_4_code_0 11 rfl rfl rfl) (zd_b zq_prog_2_method_4_code_0 12 rfl rfl rfl) (by decide +kernel)
set_option maxHeartbeats 4000000 in
set_option maxRecDepth 100000 in
theorem C_Ca_hasFault (g : zG) (a ab abg : Nat) (gr : Nat → Int64) (ir mg sh fb dl bk : Int32) (k : Int32) : CT g M_Ca_hasFault [.ref a, .int k] [(a, .inr (0, [.ref ab, .int mg, .int sh, .int fb, .int dl, .int bk])), (ab, .inr (6, [.ref abg, .int ir])), (abg, .inl (3, 4, .inr (.inl gr)))] (fun o cs1 => o = .inl (some (.int (z_bi (hfB fb k)))) ∧ cs1 = [(a, .inr (0, [.ref ab, .int mg, .int sh, .int fb, .int dl, .int bk])), (ab, .inr (6, [.ref abg, .int ir])), (abg, .inl (3, 4, .inr (.inl gr)))]) 0 0 := by
  refine z_of (by decide) rfl (Nat.le_of_ble_eq_true rfl) (fun w0 => ?_)
  refine r_lvE (lv2 := [(0, .ref a), (1, .int k)]) rfl ?_
  refine r_aload_n d_Ca_hasFault_0 rfl 0 rfl ?_
  refine r_get fs_Ca_30 d_Ca_hasFault_1 (q0 := 0) rfl rfl ?_
  refine r_iload_n d_Ca_hasFault_4 rfl 1 rfl ?_
  refine r_iand d_Ca_hasFault_5 (v := fb &&& k) rfl ?_
  refine r_if_eq (tgt := 13) d_Ca_hasFault_6 (by decide) (fun c_6 => ?_) (fun c_6 => ?_)
  · refine r_iconst d_Ca_hasFault_13 (v := 0) (by decide) ?_
    refine r_iret d_Ca_hasFault_14 rfl rfl ?_
    refine ⟨?_, rfl⟩
    simp_all [hfB, z_bi]
  · refine r_iconst d_Ca_hasFault_9 (v := 1) (by decide) ?_
    refine r_goto (tgt := 14) d_Ca_hasFault_10 (by decide) ?_
    refine r_iret d_Ca_hasFault_14 rfl rfl ?_
    refine ⟨?_, rfl⟩
    simp_all [hfB, z_bi]
abbrev M_Ca_barBears : zM := (⟨"Ironpour$Casting", "barBears", "()I"⟩, prog_2_method_5_code, 2, (Option.some FieldType.int), 3, 61, [])
theorem d_Ca_barBears_0 : decode prog_2_method_5_code 0 = .ok (.aload_n 0, 1) := zo_42 (zd_b zq_prog_2_method_5_code_0 0 rfl rfl rfl)
theorem d_Ca_barBears_1 : decode prog_2_method_5_code 1 = .ok (.invokevirtual 26, 3) := zo_182 (d := 0) (e := 26) (zd_b zq_prog_2_method_5_code_0 1 rfl rfl rfl) (zd_b zq_prog_2_method_5_code_0 2 rfl rfl rfl) (zd_b zq_prog_2_method_5_code_0 3 rfl rfl rfl)
theorem ok_Ca_barBears_Ca_isDuctile : z_ok M_Ca_barBears M_Ca_isDuctile 0 := ⟨z_mj6 (i := 182) rfl (by decide +kernel), rfl, ⟨by decide +kernel, by decide +kernel, by decide +kernel⟩, ⟨by decide, by decide⟩, z_mj1 (i := 35) rfl (by decide +kernel), rfl⟩
theorem d_Ca_barBears_4 : decode prog_2_method_5_code 4 = .ok (.ifCond .eq 16, 3) := zo_153 (d := 0) (e := 16) (zd_b zq_prog_2_method_5_code_0 4 rfl rfl rfl) (zd_b zq_prog_2_method_5_code_0 5 rfl rfl rfl) (zd_b zq_prog_2_method_5_code_0 6 rfl rfl rfl) (by decide +kernel)
theorem d_Ca_barBears_20 : decode prog_2_method_5_code 20 = .ok (.sipush 500, 3) := zo_17 (d := 1) (e := 244) (zd_b zq_prog_2_method_5_code_0 20 rfl rfl rfl) (zd_b zq_prog_2_method_5_code_0 21 rfl rfl rfl) (zd_b zq_prog_2_method_5_code_0 22 rfl rfl rfl) (by decide +kernel)
theorem d_Ca_barBears_23 : decode prog_2_method_5_code 23 = .ok (.iconst 2, 1) := zo_5 (zd_b zq_prog_2_method_5_code_0 23 rfl rfl rfl)
theorem d_Ca_barBears_24 : decode prog_2_method_5_code 24 = .ok (.iconst 0, 1) := zo_3 (zd_b zq_prog_2_method_5_code_0 24 rfl rfl rfl)
theorem d_Ca_barBears_25 : decode prog_2_method_5_code 25 = .ok (.aload_n 0, 1) := zo_42 (zd_b zq_prog_2_method_5_code_0 25 rfl rfl rfl)
theorem d_Ca_barBears_26 : decode prog_2_method_5_code 26 = .ok (.getfield 12, 3) := zo_180 (d := 0) (e := 12) (zd_b zq_prog_2_method_5_code_0 26 rfl rfl rfl) (zd_b zq_prog_2_method_5_code_0 27 rfl rfl rfl) (zd_b zq_prog_2_method_5_code_0 28 rfl rfl rfl)
theorem d_Ca_barBears_29 : decode prog_2_method_5_code 29 = .ok (.invokevirtual 22, 3) := zo_182 (d := 0) (e := 22) (zd_b zq_prog_2_method_5_code_0 29 rfl rfl rfl) (zd_b zq_prog_2_method_5_code_0 30 rfl rfl rfl) (zd_b zq_prog_2_method_5_code_0 31 rfl rfl rfl)
theorem ok_Ca_barBears_Me_carbonAlike : z_ok M_Ca_barBears M_Me_carbonAlike 0 := ⟨z_mj6 (i := 177) rfl (by decide +kernel), rfl, ⟨by decide +kernel, by decide +kernel, by decide +kernel⟩, ⟨by decide, by decide⟩, z_mj1 (i := 8) rfl (by decide +kernel), rfl⟩
theorem d_Ca_barBears_32 : decode prog_2_method_5_code 32 = .ok (.sipush 300, 3) := zo_17 (d := 1) (e := 44) (zd_b zq_prog_2_method_5_code_1 0 rfl rfl rfl) (zd_b zq_prog_2_method_5_code_1 1 rfl rfl rfl) (zd_b zq_prog_2_method_5_code_1 2 rfl rfl rfl) (by decide +kernel)
theorem d_Ca_barBears_35 : decode prog_2_method_5_code 35 = .ok (.isub, 1) := zo_100 (zd_b zq_prog_2_method_5_code_1 3 rfl rfl rfl)
theorem d_Ca_barBears_36 : decode prog_2_method_5_code 36 = .ok (.invokestatic 33, 3) := zo_184 (d := 0) (e := 33) (zd_b zq_prog_2_method_5_code_1 4 rfl rfl rfl) (zd_b zq_prog_2_method_5_code_1 5 rfl rfl rfl) (zd_b zq_prog_2_method_5_code_1 6 rfl rfl rfl)
theorem ln_Ca_33 : Cond.methodLink "Ironpour$Casting" 33 Lib.Math.max.name ∈ z_gw := z_mj6 (i := 228) rfl (by decide +kernel)
theorem d_Ca_barBears_39 : decode prog_2_method_5_code 39 = .ok (.imul, 1) := zo_104 (zd_b zq_prog_2_method_5_code_1 7 rfl rfl rfl)
theorem d_Ca_barBears_40 : decode prog_2_method_5_code 40 = .ok (.isub, 1) := zo_100 (zd_b zq_prog_2_method_5_code_1 8 rfl rfl rfl)
theorem d_Ca_barBears_41 : decode prog_2_method_5_code 41 = .ok (.istore_n 1, 1) := zo_60 (zd_b zq_prog_2_method_5_code_1 9 rfl rfl rfl)
theorem d_Ca_barBears_42 : decode prog_2_method_5_code 42 = .ok (.iconst 0, 1) := zo_3 (zd_b zq_prog_2_method_5_code_1 10 rfl rfl rfl)
theorem d_Ca_barBears_43 : decode prog_2_method_5_code 43 = .ok (.iload_n 1, 1) := zo_27 (zd_b zq_prog_2_method_5_code_1 11 rfl rfl rfl)
theorem d_Ca_barBears_44 : decode prog_2_method_5_code 44 = .ok (.bipush 30, 2) := zo_16 (d := 30) (zd_b zq_prog_2_method_5_code_1 12 rfl rfl rfl) (zd_b zq_prog_2_method_5_code_1 13 rfl rfl rfl) (by decide +kernel)
theorem d_Ca_barBears_46 : decode prog_2_method_5_code 46 = .ok (.aload_n 0, 1) := zo_42 (zd_b zq_prog_2_method_5_code_1 14 rfl rfl rfl)
theorem d_Ca_barBears_47 : decode prog_2_method_5_code 47 = .ok (.getfield 30, 3) := zo_180 (d := 0) (e := 30) (zd_b zq_prog_2_method_5_code_1 15 rfl rfl rfl) (zd_b zq_prog_2_method_5_code_1 16 rfl rfl rfl) (zd_b zq_prog_2_method_5_code_1 17 rfl rfl rfl)
theorem d_Ca_barBears_50 : decode prog_2_method_5_code 50 = .ok (.invokestatic 39, 3) := zo_184 (d := 0) (e := 39) (zd_b zq_prog_2_method_5_code_1 18 rfl rfl rfl) (zd_b zq_prog_2_method_5_code_1 19 rfl rfl rfl) (zd_b zq_prog_2_method_5_code_1 20 rfl rfl rfl)
theorem ok_Ca_barBears_Integer_bitCount : z_ok M_Ca_barBears M_Integer_bitCount 1 := ⟨z_mj6 (i := 231) rfl (by decide +kernel), rfl, ⟨by decide +kernel, by decide +kernel, by decide +kernel⟩, ⟨by decide, by decide⟩, z_mj1 (i := 36) rfl (by decide +kernel), rfl⟩
theorem ln_Ca_39 : Cond.methodLink "Ironpour$Casting" 39 M_Integer_bitCount.1 ∈ z_gw := z_mj6 (i := 229) rfl (by decide +kernel)
theorem w_st_Integer_bitCount : Cond.static M_Integer_bitCount.1 ∈ z_gw := z_mj6 (i := 230) rfl (by decide +kernel)
theorem d_Ca_barBears_53 : decode prog_2_method_5_code 53 = .ok (.imul, 1) := zo_104 (zd_b zq_prog_2_method_5_code_1 21 rfl rfl rfl)
theorem d_Ca_barBears_54 : decode prog_2_method_5_code 54 = .ok (.isub, 1) := zo_100 (zd_b zq_prog_2_method_5_code_1 22 rfl rfl rfl)
theorem d_Ca_barBears_55 : decode prog_2_method_5_code 55 = .ok (.invokestatic 33, 3) := zo_184 (d := 0) (e := 33) (zd_b zq_prog_2_method_5_code_1 23 rfl rfl rfl) (zd_b zq_prog_2_method_5_code_1 24 rfl rfl rfl) (zd_b zq_prog_2_method_5_code_1 25 rfl rfl rfl)
theorem d_Ca_barBears_58 : decode prog_2_method_5_code 58 = .ok (.ireturn, 1) := zo_172 (zd_b zq_prog_2_method_5_code_1 26 rfl rfl rfl)
theorem d_Ca_barBears_7 : decode prog_2_method_5_code 7 = .ok (.sipush 400, 3) := zo_17 (d := 1) (e := 144) (zd_b zq_prog_2_method_5_code_0 7 rfl rfl rfl) (zd_b zq_prog_2_method_5_code_0 8 rfl rfl rfl) (zd_b zq_prog_2_method_5_code_0 9 rfl rfl rfl) (by decide +kernel)
theorem d_Ca_barBears_10 : decode prog_2_method_5_code 10 = .ok (.iconst 2, 1) := zo_5 (zd_b zq_prog_2_method_5_code_0 10 rfl rfl rfl)
theorem d_Ca_barBears_11 : decode prog_2_method_5_code 11 = .ok (.aload_n 0, 1) := zo_42 (zd_b zq_prog_2_method_5_code_0 11 rfl rfl rfl)
theorem d_Ca_barBears_12 : decode prog_2_method_5_code 12 = .ok (.getfield 18, 3) := zo_180 (d := 0) (e := 18) (zd_b zq_prog_2_method_5_code_0 12 rfl rfl rfl) (zd_b zq_prog_2_method_5_code_0 13 rfl rfl rfl) (zd_b zq_prog_2_method_5_code_0 14 rfl rfl rfl)
theorem d_Ca_barBears_15 : decode prog_2_method_5_code 15 = .ok (.imul, 1) := zo_104 (zd_b zq_prog_2_method_5_code_0 15 rfl rfl rfl)
theorem d_Ca_barBears_16 : decode prog_2_method_5_code 16 = .ok (.iadd, 1) := zo_96 (zd_b zq_prog_2_method_5_code_0 16 rfl rfl rfl)
theorem d_Ca_barBears_17 : decode prog_2_method_5_code 17 = .ok (.goto 24, 3) := zo_167 (d := 0) (e := 24) (zd_b zq_prog_2_method_5_code_0 17 rfl rfl rfl) (zd_b zq_prog_2_method_5_code_0 18 rfl rfl rfl) (zd_b zq_prog_2_method_5_code_0 19 rfl rfl rfl) (by decide +kernel)
set_option maxHeartbeats 4000000 in
set_option maxRecDepth 100000 in
theorem C_Ca_barBears (g : zG) (a ab abg : Nat) (gr : Nat → Int64) (ir mg sh fb dl bk : Int32) : CT g M_Ca_barBears [.ref a] [(a, .inr (0, [.ref ab, .int mg, .int sh, .int fb, .int dl, .int bk])), (ab, .inr (6, [.ref abg, .int ir])), (abg, .inl (3, 4, .inr (.inl gr)))] (fun o cs1 => o = .inl (some (.int (bbI mg gr ir fb))) ∧ cs1 = [(a, .inr (0, [.ref ab, .int mg, .int sh, .int fb, .int dl, .int bk])), (ab, .inr (6, [.ref abg, .int ir])), (abg, .inl (3, 4, .inr (.inl gr)))]) 0 0 := by
  refine z_of (by decide) rfl (Nat.le_of_ble_eq_true rfl) (fun w0 => ?_)
  refine r_lvE (lv2 := [(0, .ref a)]) rfl ?_
  refine r_aload_n d_Ca_barBears_0 rfl 0 rfl ?_
  refine r_callV (As := []) (rest := []) (csC := [(a, .inr (0, [.ref ab, .int mg, .int sh, .int fb, .int dl, .int bk])), (ab, .inr (6, [.ref abg, .int ir])), (abg, .inl (3, 4, .inr (.inl gr)))]) (is := [0, 1, 2]) (q0 := 0) rfl rfl ln_Ca_26 w_im_Ca_isDuctile w_se_Ca_isDuctile ok_Ca_barBears_Ca_isDuctile d_Ca_barBears_1 (C_Ca_isDuctile g a ab abg gr ir mg sh fb dl bk) rfl rfl (Nat.le_of_ble_eq_true rfl) rfl (by decide) (by omega) (by omega) (fun E cs1 hx => ?_) (fun v cs1 hx => ?_)
  · exact absurd hx.1 (by simp)
  · obtain ⟨e1, rfl⟩ := hx
    cases e1
    refine ⟨rfl, ?_⟩
    refine r_st (st2 := [.int (if mg < 20 then 0 else 1)]) rfl ?_
    refine r_cs (cs2 := [(a, .inr (0, [.ref ab, .int mg, .int sh, .int fb, .int dl, .int bk])), (ab, .inr (6, [.ref abg, .int ir])), (abg, .inl (3, 4, .inr (.inl gr)))]) rfl ?_
    refine r_if_eq (tgt := 20) d_Ca_barBears_4 (by decide) (fun c_4 => ?_) (fun c_4 => ?_)
    · have hm : mg < 20 := Classical.byContradiction (fun q => by rw [if_neg q] at c_4; exact absurd c_4 (by decide))
      refine r_sipush d_Ca_barBears_20 (v := 500) (by decide) ?_
      refine r_iconst d_Ca_barBears_23 (v := 2) (by decide) ?_
      refine r_iconst d_Ca_barBears_24 (v := 0) (by decide) ?_
      refine r_aload_n d_Ca_barBears_25 rfl 0 rfl ?_
      refine r_get fs_Ca_12 d_Ca_barBears_26 (q0 := 0) rfl rfl ?_
      refine r_callV (As := []) (rest := [.int 0, .int 2, .int 500]) (csC := [(ab, .inr (6, [.ref abg, .int ir])), (abg, .inl (3, 4, .inr (.inl gr)))]) (is := [1, 2]) (q0 := 1) rfl rfl ln_Ca_22 w_im_Me_carbonAlike w_se_Me_carbonAlike ok_Ca_barBears_Me_carbonAlike d_Ca_barBears_29 (C_Me_carbonAlike g ab abg gr ir) rfl rfl (Nat.le_of_ble_eq_true rfl) rfl (by decide) (by omega) (by omega) (fun E cs1 hx => ?_) (fun v cs1 hx => ?_)
      · exact absurd hx.1 (by simp)
      · obtain ⟨e1, rfl⟩ := hx
        cases e1
        refine ⟨rfl, ?_⟩
        refine r_st (st2 := [.int (caI gr ir), .int 0, .int 2, .int 500]) rfl ?_
        refine r_cs (cs2 := [(a, .inr (0, [.ref ab, .int mg, .int sh, .int fb, .int dl, .int bk])), (ab, .inr (6, [.ref abg, .int ir])), (abg, .inl (3, 4, .inr (.inl gr)))]) rfl ?_
        refine r_sipush d_Ca_barBears_32 (v := 300) (by decide) ?_
        refine r_isub d_Ca_barBears_35 (v := (caI gr ir) - 300) rfl ?_
        refine r_max (v := (if 0 < (caI gr ir) - 300 then (caI gr ir) - 300 else 0)) ln_Ca_33 w_mmax w_mi w_cmax d_Ca_barBears_36 (by decide) (by decide) (Nat.le_of_ble_eq_true rfl) rfl ?_
        refine r_imul d_Ca_barBears_39 (v := 2 * (if 0 < caI gr ir - 300 then caI gr ir - 300 else 0)) rfl ?_
        refine r_isub d_Ca_barBears_40 (v := 500 - (2 * (if 0 < caI gr ir - 300 then caI gr ir - 300 else 0))) rfl ?_
        refine r_istore_n (lv' := [(1, .int (500 - (2 * (if 0 < caI gr ir - 300 then caI gr ir - 300 else 0)))), (0, .ref a)]) d_Ca_barBears_41 rfl (by decide) rfl ?_
        refine r_iconst d_Ca_barBears_42 (v := 0) (by decide) ?_
        refine r_iload_n d_Ca_barBears_43 rfl 0 rfl ?_
        refine r_bipush d_Ca_barBears_44 (v := 30) (by decide) ?_
        refine r_aload_n d_Ca_barBears_46 rfl 1 rfl ?_
        refine r_get fs_Ca_30 d_Ca_barBears_47 (q0 := 0) rfl rfl ?_
        refine r_callS (As := [.int fb]) (rest := [.int 30, .int (500 - (2 * (if 0 < caI gr ir - 300 then caI gr ir - 300 else 0))), .int 0]) (csC := []) (is := []) ln_Ca_39 w_st_Integer_bitCount ok_Ca_barBears_Integer_bitCount d_Ca_barBears_50 (C_In_bitCount g fb) rfl rfl (Nat.le_of_ble_eq_true rfl) rfl (by decide) (by omega) (by omega) (fun E cs1 hx => ?_) (fun v cs1 hx => ?_)
        · exact absurd hx.1 (by simp)
        · obtain ⟨e1, rfl⟩ := hx
          cases e1
          refine ⟨rfl, ?_⟩
          refine r_st (st2 := [.int (S_In_bitCount fb), .int 30, .int (500 - (2 * (if 0 < caI gr ir - 300 then caI gr ir - 300 else 0))), .int 0]) rfl ?_
          refine r_cs (cs2 := [(a, .inr (0, [.ref ab, .int mg, .int sh, .int fb, .int dl, .int bk])), (ab, .inr (6, [.ref abg, .int ir])), (abg, .inl (3, 4, .inr (.inl gr)))]) rfl ?_
          refine r_imul d_Ca_barBears_53 (v := 30 * S_In_bitCount fb) rfl ?_
          refine r_isub d_Ca_barBears_54 (v := (500 - (2 * (if 0 < caI gr ir - 300 then caI gr ir - 300 else 0))) - (30 * S_In_bitCount fb)) rfl ?_
          refine r_max (v := (if 0 < (500 - (2 * (if 0 < caI gr ir - 300 then caI gr ir - 300 else 0))) - (30 * S_In_bitCount fb) then (500 - (2 * (if 0 < caI gr ir - 300 then caI gr ir - 300 else 0))) - (30 * S_In_bitCount fb) else 0)) ln_Ca_33 w_mmax w_mi w_cmax d_Ca_barBears_55 (by decide) (by decide) (Nat.le_of_ble_eq_true rfl) rfl ?_
          refine r_iret d_Ca_barBears_58 rfl rfl ?_
          refine ⟨?_, rfl⟩
          first | (rw [bbI, show beI mg gr ir = _ from if_pos hm]) | (rw [bbI, show beI mg gr ir = _ from if_neg hm])
    · have hm : ¬ mg < 20 := fun q => c_4 (if_pos q)
      refine r_sipush d_Ca_barBears_7 (v := 400) (by decide) ?_
      refine r_iconst d_Ca_barBears_10 (v := 2) (by decide) ?_
      refine r_aload_n d_Ca_barBears_11 rfl 0 rfl ?_
      refine r_get fs_Ca_18 d_Ca_barBears_12 (q0 := 0) rfl rfl ?_
      refine r_imul d_Ca_barBears_15 (v := 2 * mg) rfl ?_
      refine r_iadd d_Ca_barBears_16 (v := 400 + (2 * mg)) rfl ?_
      refine r_goto (tgt := 41) d_Ca_barBears_17 (by decide) ?_
      refine r_istore_n (lv' := [(1, .int (400 + (2 * mg))), (0, .ref a)]) d_Ca_barBears_41 rfl (by decide) rfl ?_
      refine r_iconst d_Ca_barBears_42 (v := 0) (by decide) ?_
      refine r_iload_n d_Ca_barBears_43 rfl 0 rfl ?_
      refine r_bipush d_Ca_barBears_44 (v := 30) (by decide) ?_
      refine r_aload_n d_Ca_barBears_46 rfl 1 rfl ?_
      refine r_get fs_Ca_30 d_Ca_barBears_47 (q0 := 0) rfl rfl ?_
      refine r_callS (As := [.int fb]) (rest := [.int 30, .int (400 + (2 * mg)), .int 0]) (csC := []) (is := []) ln_Ca_39 w_st_Integer_bitCount ok_Ca_barBears_Integer_bitCount d_Ca_barBears_50 (C_In_bitCount g fb) rfl rfl (Nat.le_of_ble_eq_true rfl) rfl (by decide) (by omega) (by omega) (fun E cs1 hx => ?_) (fun v cs1 hx => ?_)
      · exact absurd hx.1 (by simp)
      · obtain ⟨e1, rfl⟩ := hx
        cases e1
        refine ⟨rfl, ?_⟩
        refine r_st (st2 := [.int (S_In_bitCount fb), .int 30, .int (400 + (2 * mg)), .int 0]) rfl ?_
        refine r_cs (cs2 := [(a, .inr (0, [.ref ab, .int mg, .int sh, .int fb, .int dl, .int bk])), (ab, .inr (6, [.ref abg, .int ir])), (abg, .inl (3, 4, .inr (.inl gr)))]) rfl ?_
        refine r_imul d_Ca_barBears_53 (v := 30 * S_In_bitCount fb) rfl ?_
        refine r_isub d_Ca_barBears_54 (v := (400 + (2 * mg)) - (30 * S_In_bitCount fb)) rfl ?_
        refine r_max (v := (if 0 < (400 + (2 * mg)) - (30 * S_In_bitCount fb) then (400 + (2 * mg)) - (30 * S_In_bitCount fb) else 0)) ln_Ca_33 w_mmax w_mi w_cmax d_Ca_barBears_55 (by decide) (by decide) (Nat.le_of_ble_eq_true rfl) rfl ?_
        refine r_iret d_Ca_barBears_58 rfl rfl ?_
        refine ⟨?_, rfl⟩
        first | (rw [bbI, show beI mg gr ir = _ from if_pos hm]) | (rw [bbI, show beI mg gr ir = _ from if_neg hm])
end
section
abbrev zTr : Type := ((Nat → Int32) × (Nat → Int32) × Int32 × Int32) × (zS5 × (Nat → Int32) × (Nat → Int32)) × ((Nat → Int32) × (Nat → Int32) × (Nat → Nat))
noncomputable def flT (X : zTr) : zTr := ((X.1.1, flP X.1.1 X.1.2.1 X.1.2.2.1, flR X.1.2.2.1, X.1.2.2.2), X.2)
def tkT (f : Nat → Int32) (X : zTr) : zTr := ((fa_fill f X.1.1 108, X.1.2.1, 0, 0), X.2)
noncomputable def frN (h : Int32) (X : zTr) : zTr := ((X.1.1, (flP X.1.1 X.1.2.1 X.1.2.2.1), flR X.1.2.2.1, h), ((pzS (toS X.1.1 (flP X.1.1 X.1.2.1 X.1.2.2.1) 2 X.2.1.2.1 108) (toS X.1.1 (flP X.1.1 X.1.2.1 X.1.2.2.1) 3 X.2.1.2.2 108) (bgQ X.1.1 (flP X.1.1 X.1.2.1 X.1.2.2.1) h X.2.1.1.1.1 X.2.1.1.2 X.2.1.1.1.2.1 X.2.1.1.1.2.2.1 X.2.1.1.1.2.2.2) 400), (toS X.1.1 (flP X.1.1 X.1.2.1 X.1.2.2.1) 2 X.2.1.2.1 108), (toS X.1.1 (flP X.1.1 X.1.2.1 X.1.2.2.1) 3 X.2.1.2.2 108)), ((fdB X.1.1 (flP X.1.1 X.1.2.1 X.1.2.2.1) (pzS (toS X.1.1 (flP X.1.1 X.1.2.1 X.1.2.2.1) 2 X.2.1.2.1 108) (toS X.1.1 (flP X.1.1 X.1.2.1 X.1.2.2.1) 3 X.2.1.2.2 108) (bgQ X.1.1 (flP X.1.1 X.1.2.1 X.1.2.2.1) h X.2.1.1.1.1 X.2.1.1.2 X.2.1.1.1.2.1 X.2.1.1.1.2.2.1 X.2.1.1.1.2.2.2) 400).1.2.2.1 (fdA X.1.1 (flP X.1.1 X.1.2.1 X.1.2.2.1) (X.2.2.1, X.2.2.2.2, 0, 0) 108) 108).1, X.2.2.2.1, (fdB X.1.1 (flP X.1.1 X.1.2.1 X.1.2.2.1) (pzS (toS X.1.1 (flP X.1.1 X.1.2.1 X.1.2.2.1) 2 X.2.1.2.1 108) (toS X.1.1 (flP X.1.1 X.1.2.1 X.1.2.2.1) 3 X.2.1.2.2 108) (bgQ X.1.1 (flP X.1.1 X.1.2.1 X.1.2.2.1) h X.2.1.1.1.1 X.2.1.1.2 X.2.1.1.1.2.1 X.2.1.1.1.2.2.1 X.2.1.1.1.2.2.2) 400).1.2.2.1 (fdA X.1.1 (flP X.1.1 X.1.2.1 X.1.2.2.1) (X.2.2.1, X.2.2.2.2, 0, 0) 108) 108).2.1))
noncomputable def frT (h : Int32) (X : zTr) : zTr := if X.1.2.2.2 = h then X else frN h X
noncomputable def clT (h : Int32) (k : Nat) (X : zTr) : zTr := ((X.1.1, (flP X.1.1 X.1.2.1 X.1.2.2.1), flR X.1.2.2.1, 0), (pcS (toS X.1.1 (flP X.1.1 X.1.2.1 X.1.2.2.1) 2 X.2.1.2.1 108) (toS X.1.1 (flP X.1.1 X.1.2.1 X.1.2.2.1) 3 X.2.1.2.2 108) (bgQ X.1.1 (flP X.1.1 X.1.2.1 X.1.2.2.1) h X.2.1.1.1.1 X.2.1.1.2 X.2.1.1.1.2.1 X.2.1.1.1.2.2.1 X.2.1.1.1.2.2.2) k, (toS X.1.1 (flP X.1.1 X.1.2.1 X.1.2.2.1) 2 X.2.1.2.1 108), (toS X.1.1 (flP X.1.1 X.1.2.1 X.1.2.2.1) 3 X.2.1.2.2 108)), X.2.2)
def swT (X : zTr) (s : Nat → Int32) (q : Nat → Nat) : zTr := (X.1, X.2.1, (X.2.2.1, s, q))
def shN (X : zTr) : Nat := fa_cnt (scP X.1.1 X.1.2.1 X.2.2.1) 108
def cwX (X : zTr) : zT := cwY X.1.1 X.1.2.1 X.2.1.1.1.2.2.1 (X.2.2.2.1, X.2.2.2.2, 0) 108
theorem X_freeze (g : zG) (a a1 a2 az az1 az2 az3 az4 az5 az6 a4 a5 a6 : Nat) (h : Int32) (X : zTr) : CT g M_Tr_freeze [.ref a, .int h] [(a, .inr (10, [.ref a1, .ref a2, .ref az, .ref a4, .ref a5, .ref a6, .int X.1.2.2.1, .int X.1.2.2.2])), (a1, .inl (1, 108, .inl X.1.1)), (a2, .inl (0, 108, .inl X.1.2.1)), (az, .inr (2, [.ref az1, .ref az2, .ref az3, .ref az4, .ref az5, .ref az6, .int X.2.1.1.1.2.2.2])), (az1, .inl (0, 108, .inl X.2.1.1.1.1)), (az2, .inl (0, 108, .inl X.2.1.1.2)), (az3, .inl (0, 108, .inl X.2.1.1.1.2.1)), (az4, .inl (0, 108, .inl X.2.1.1.1.2.2.1)), (az5, .inl (0, 108, .inl X.2.1.2.1)), (az6, .inl (0, 108, .inl X.2.1.2.2)), (a4, .inl (2, 108, .inl X.2.2.1)), (a5, .inl (2, 108, .inl X.2.2.2.1)), (a6, .inl (0, 108, .inl (fun k => nI (X.2.2.2.2 k))))] (fun o cs1 => o = .inl none ∧ cs1 = [(a, .inr (10, [.ref a1, .ref a2, .ref az, .ref a4, .ref a5, .ref a6, .int ((frT h X).1.2.2.1), .int ((frT h X).1.2.2.2)])), (a1, .inl (1, 108, .inl ((frT h X).1.1))), (a2, .inl (0, 108, .inl ((frT h X).1.2.1))), (az, .inr (2, [.ref az1, .ref az2, .ref az3, .ref az4, .ref az5, .ref az6, .int ((frT h X).2.1.1.1.2.2.2)])), (az1, .inl (0, 108, .inl ((frT h X).2.1.1.1.1))), (az2, .inl (0, 108, .inl ((frT h X).2.1.1.2))), (az3, .inl (0, 108, .inl ((frT h X).2.1.1.1.2.1))), (az4, .inl (0, 108, .inl ((frT h X).2.1.1.1.2.2.1))), (az5, .inl (0, 108, .inl ((frT h X).2.1.2.1))), (az6, .inl (0, 108, .inl ((frT h X).2.1.2.2))), (a4, .inl (2, 108, .inl ((frT h X).2.2.1))), (a5, .inl (2, 108, .inl ((frT h X).2.2.2.1))), (a6, .inl (0, 108, .inl (fun k => nI ((frT h X).2.2.2.2 k))))]) 0 0 := by
  obtain ⟨⟨ce, fi, run, fo⟩, ⟨⟨⟨F1, F3, F4, liq⟩, F2⟩, F5, F6⟩, fed, seen, qn⟩ := X
  by_cases hf : fo = h
  · rw [show frT h ((ce, fi, run, fo), (((F1, F3, F4, liq), F2), F5, F6), fed, seen, qn) = ((ce, fi, run, fo), (((F1, F3, F4, liq), F2), F5, F6), fed, seen, qn) from if_pos hf]
    dsimp only
    exact C_Tr_freezeK g a a1 a2 az az1 az2 az3 az4 az5 az6 a4 a5 a6 run fo liq ce fi F1 F2 F3 F4 F5 F6 fed seen qn h hf
  · rw [show frT h ((ce, fi, run, fo), (((F1, F3, F4, liq), F2), F5, F6), fed, seen, qn) = frN h ((ce, fi, run, fo), (((F1, F3, F4, liq), F2), F5, F6), fed, seen, qn) from if_neg hf]
    unfold frN
    dsimp only
    exact C_Tr_freezeN g a a1 a2 az az1 az2 az3 az4 az5 az6 a4 a5 a6 run fo liq ce fi F1 F2 F3 F4 F5 F6 fed seen qn h hf
theorem X_cool (g : zG) (a a1 a2 az az1 az2 az3 az4 az5 az6 a4 a5 a6 : Nat) (h : Int32) (k : Nat) (hk : k ≤ 400) (X : zTr) : CT g M_Tr_cool [.ref a, .int h, .int (nI k)] [(a, .inr (10, [.ref a1, .ref a2, .ref az, .ref a4, .ref a5, .ref a6, .int X.1.2.2.1, .int X.1.2.2.2])), (a1, .inl (1, 108, .inl X.1.1)), (a2, .inl (0, 108, .inl X.1.2.1)), (az, .inr (2, [.ref az1, .ref az2, .ref az3, .ref az4, .ref az5, .ref az6, .int X.2.1.1.1.2.2.2])), (az1, .inl (0, 108, .inl X.2.1.1.1.1)), (az2, .inl (0, 108, .inl X.2.1.1.2)), (az3, .inl (0, 108, .inl X.2.1.1.1.2.1)), (az4, .inl (0, 108, .inl X.2.1.1.1.2.2.1)), (az5, .inl (0, 108, .inl X.2.1.2.1)), (az6, .inl (0, 108, .inl X.2.1.2.2)), (a4, .inl (2, 108, .inl X.2.2.1)), (a5, .inl (2, 108, .inl X.2.2.2.1)), (a6, .inl (0, 108, .inl (fun k => nI (X.2.2.2.2 k))))] (fun o cs1 => o = .inl none ∧ cs1 = [(a, .inr (10, [.ref a1, .ref a2, .ref az, .ref a4, .ref a5, .ref a6, .int ((clT h k X).1.2.2.1), .int ((clT h k X).1.2.2.2)])), (a1, .inl (1, 108, .inl ((clT h k X).1.1))), (a2, .inl (0, 108, .inl ((clT h k X).1.2.1))), (az, .inr (2, [.ref az1, .ref az2, .ref az3, .ref az4, .ref az5, .ref az6, .int ((clT h k X).2.1.1.1.2.2.2)])), (az1, .inl (0, 108, .inl ((clT h k X).2.1.1.1.1))), (az2, .inl (0, 108, .inl ((clT h k X).2.1.1.2))), (az3, .inl (0, 108, .inl ((clT h k X).2.1.1.1.2.1))), (az4, .inl (0, 108, .inl ((clT h k X).2.1.1.1.2.2.1))), (az5, .inl (0, 108, .inl ((clT h k X).2.1.2.1))), (az6, .inl (0, 108, .inl ((clT h k X).2.1.2.2))), (a4, .inl (2, 108, .inl ((clT h k X).2.2.1))), (a5, .inl (2, 108, .inl ((clT h k X).2.2.2.1))), (a6, .inl (0, 108, .inl (fun k => nI ((clT h k X).2.2.2.2 k))))]) 0 0 := by
  obtain ⟨⟨ce, fi, run, fo⟩, ⟨⟨⟨F1, F3, F4, liq⟩, F2⟩, F5, F6⟩, fed, seen, qn⟩ := X
  unfold clT
  dsimp only
  exact C_Tr_cool g a a1 a2 az az1 az2 az3 az4 az5 az6 a4 a5 a6 run fo liq ce fi F1 F2 F3 F4 F5 F6 fed seen qn h k hk
end
section
def zx_at (own : String) (ic : Nat) (X : String) (ix : Nat) (rx : ByteArray) (Y : String) (names : List String) : List Cond :=
  Bundle.throwableAtoms ++ Bundle.throwableSAtoms ++ Bundle.passSAtoms X Y ix rx ++ Bundle.chainSAtoms Y names ++
  [.methodLink own ic (Bundle.initS X), .instantiable X 6, .castable X X, .selects X Bundle.tFill0 Bundle.tFill0, .selects X Bundle.tFill Bundle.tFill,
   .lays X Bundle.tN "cause" "Ljava/lang/Throwable;", .lays X Bundle.tN "stackTrace" Bundle.steD, .lays X Bundle.tN "suppressedExceptions" Bundle.listD, .lays X Bundle.tN "detailMessage" "Ljava/lang/String;",
   .isRef (.static Bundle.tN "UNASSIGNED_STACK" Bundle.steD), .isRef (.static Bundle.tN "SUPPRESSED_SENTINEL" Bundle.listD),
   .fieldLink Bundle.tN 198 Bundle.tN "backtrace" "Ljava/lang/Object;", .lays Bundle.tN Bundle.tN "backtrace" "Ljava/lang/Object;", .lays X Bundle.tN "backtrace" "Ljava/lang/Object;"]
set_option maxHeartbeats 1000000 in
theorem zx_ctor {p : Program} {l : Launch} {e : Env} {R : Room} {s : State} {m₀ : MethodId} {args : Array Value} {below : List Frame} {meth : Method} {c : Code} {W : State} {locs : List Loc} {cells slots : Nat} (X : Stand p l e R s m₀ args below meth c W locs cells slots) (hexec : p.tables.exec = Jvm.exec) (htr : e.platform.stackTraces = false) {own cls Y1 : String} {names : List String} {ic ix : Nat} {rx : ByteArray} (x0 : decode rx 0 = .ok (.aload_n 0, 1)) (x1 : decode rx 1 = .ok (.aload_n 1, 1)) (x2 : decode rx 2 = .ok (.invokespecial ix, 3)) (x5 : decode rx 5 = .ok (.return_, 1))
    (hown : s.vm.findClass own = some m₀.cls) (hcls : Bundle.fit cls = true) (hY1 : Bundle.fit Y1 = true) (hnames : ∀ n ∈ names, Bundle.fit n = true)
    (h : ∀ a ∈ zx_at own ic cls ix rx Y1 names, a.before args s = true)
    (hlocs : ∀ x ∈ locs, ∀ cell, s.heap[x.base]? = some cell → cell.vm.isStatics = false)
    {a : Addr} {cX : ClassId} {kX : Class} (hfoundX : s.vm.findClass cls = some cX) (hkX : s.vm.classes[cX]? = some kX) (hcell : W.heap[a]? = some (freshCell cX kX)) (hnew : s.heap.size ≤ a)
    {msg : Value} (hmsg : msg.isRef = true)
    {g : JFrame} (hg : g.method = m₀) (hsize : g.locals.size = c.maxLocals) (hlocked : g.locked = none) (hentered : g.entered = []) {rest : List Value} (hstack : g.stack = msg :: .ref a :: .ref a :: rest)
    (hd6 : decode c.code g.pc = .ok (.invokespecial ic, 3)) (hd9 : decode c.code (g.pc + 3) = .ok (.athrow, 1)) (hout : ∀ x ∈ c.exceptionTable.toList, covers x (g.pc + 3) = false)
    (hRframes : names.length + 4 < R.frames) (hRlocals : 2 * g.monitorRoom + ((Value.ref a :: rest).map fun v => v.category).sum + (13 * (names.length + 2) + 42) ≤ R.locals) (hlocks : meth.locks = false := by first | assumption | exact BodyLoose.notSynchronized (by assumption) | exact Body.notSynchronized (by assumption)) :
    ∃ U : State, Steps p.tables e below (W.setTop g) U ∧ U.status = .running ∧ Ended U below (.threw a) ∧ s.WarmedH U.vm ∧ s.sameButNew ({ U with vm := s.vm } : State) locs cells slots ∧
      ∃ ce, U.heap[a]? = some ce ∧ s.vm.findClass cls = some ce.cls ∧ ce.vm = .none := by
  have howns : e.platform.frameOwnsMonitors = true := by rw [X.admits.platform]
  have hfin : e.platform.finalization = false := by rw [X.admits.platform]
  have hpl : e.platform.magicAccessors = ({} : Platform).magicAccessors := by rw [X.admits.platform]
  have a' : ∀ x, x ∈ zx_at own ic cls ix rx Y1 names → x.holds args s none s [] = true := fun x hx => h x hx
  obtain ⟨T, Z0, L, -, Y⟩ := ThrowableC.of_atoms (args := args) howns hfin hpl (fun x hx => h x (by simp [zx_at, hx]))
  obtain ⟨Z, M, LZ, LM, hnZ⟩ := Init0T.ofS_atoms (args := args) hpl L Y (fun x hx => h x (by simp [zx_at, hx]))
  obtain ⟨P1, L1, hP1m, hs1⟩ := PassC.ofS_atoms (args := args) (s := s) hpl (X := cls) (Y := Y1) (Bundle.fit_spec hcls).1 (Bundle.fit_spec hY1).2 x0 x1 x2 x5 (fun x hx => h x (by simp [zx_at, hx]))
  obtain ⟨P2, Pr, hlen0, L2, hLr, hP2m, hlink2, hlink3⟩ := Bundle.chainS (args := args) hpl hnZ names Y1 hY1 hnames (fun x hx => h x (by simp [zx_at, hx]))
  have hlink1 : P1.sup = P2.m := Option.some.inj (hs1.symm.trans hP2m)
  have hfound : s.vm.findClass cls = some P1.m.cls := findClass_of_methodNamed hP1m
  cases Option.some.inj (hfoundX.symm.trans hfound)
  obtain ⟨c1, kX', hc1, hk, hord, -, -, hn6⟩ := Cond.instantiable_spec (a' (.instantiable cls 6) (by simp [zx_at]))
  cases Option.some.inj (hc1.symm.trans hfound)
  cases Option.some.inj (hkX.symm.trans hk)
  have hsel0 : selectMethod e.platform s.vm P1.m.cls T.fill0 = .method T.fill0 := by
    obtain ⟨c2, r2, m2, q1, q2, q3, q4, -⟩ := Cond.selects_spec (a' (.selects cls Bundle.tFill0 Bundle.tFill0) (by simp [zx_at]))
    cases Option.some.inj (q1.symm.trans hfound)
    cases Option.some.inj (q2.symm.trans (State.methodFound?_of_named Y.fill0 (by decide)))
    cases Option.some.inj (q3.symm.trans Y.fill0)
    rw [Launch.admits_selectMethod X.admits]; exact q4
  have hselF : selectMethod e.platform s.vm P1.m.cls T.fill = .method T.fill := by
    obtain ⟨c2, r2, m2, q1, q2, q3, q4, -⟩ := Cond.selects_spec (a' (.selects cls Bundle.tFill Bundle.tFill) (by simp [zx_at]))
    cases Option.some.inj (q1.symm.trans hfound)
    cases Option.some.inj (q2.symm.trans (State.methodFound?_of_named Y.fill (by decide)))
    cases Option.some.inj (q3.symm.trans Y.fill)
    rw [Launch.admits_selectMethod X.admits]; exact q4
  obtain ⟨cellS0, hcS0, hiss⟩ := Y.statics
  obtain ⟨u0, hu0⟩ := Cond.staticRefV Y.unassigned L.unassignedStatic L.statics hcS0 hiss (a' (.isRef (.static Bundle.tN "UNASSIGNED_STACK" Bundle.steD)) (by simp [zx_at]))
  obtain ⟨sen, hsen⟩ := Cond.staticRefV Y.sentinel L.sentinelStatic L.statics hcS0 hiss (a' (.isRef (.static Bundle.tN "SUPPRESSED_SENTINEL" Bundle.listD)) (by simp [zx_at]))
  obtain ⟨ci198, i198, fB, hk198, hg198, ha198, hsB, -, hnB, htB, hffB⟩ := Cond.ownField (t := .object "java/lang/Object") Y.found L.cls (by decide +kernel) (a' (.fieldLink Bundle.tN 198 Bundle.tN "backtrace" "Ljava/lang/Object;") (by simp [zx_at])) (a' (.lays Bundle.tN Bundle.tN "backtrace" "Ljava/lang/Object;") (by simp [zx_at])) e.platform hpl
  obtain ⟨cellS, hcS', heS, -, hkeep⟩ := X.same.2.2.2.2.2 T.aS cellS0 hcS0
  have hcellS : W.heap[T.aS]? = some cellS := hcS'
  have hout' : ∀ i, (⟨T.aS, i⟩ : Loc) ∉ locs := fun i hmem => by
    have := hlocs _ hmem cellS0 hcS0
    rw [hiss] at this; cases this
  have hknownS : cellS.vm ≠ .unknown := by
    rw [heS]; intro hu
    rw [show cellS0.vm = .unknown from hu] at hiss
    cases hiss
  have hneS : T.aS ≠ a := Nat.ne_of_lt (Nat.lt_of_lt_of_le (Array.getElem?_eq_some_iff.mp hcS0).1 hnew)
  obtain ⟨iM, hffM⟩ := Y.msg
  obtain ⟨tyC, dC, hdC, hdnC⟩ := Cond.laysAt hfound hk Y.cause (a' (.lays cls Bundle.tN "cause" "Ljava/lang/Throwable;") (by simp [zx_at]))
  obtain ⟨tyS, dS, hdS, hdnS⟩ := Cond.laysAt hfound hk Y.stack (a' (.lays cls Bundle.tN "stackTrace" Bundle.steD) (by simp [zx_at]))
  obtain ⟨tyP, dP, hdP, hdnP⟩ := Cond.laysAt hfound hk Y.supp (a' (.lays cls Bundle.tN "suppressedExceptions" Bundle.listD) (by simp [zx_at]))
  obtain ⟨tyM, dM, hdM, hdnM⟩ := Cond.laysAt hfound hk hffM (a' (.lays cls Bundle.tN "detailMessage" "Ljava/lang/String;") (by simp [zx_at]))
  obtain ⟨tyB, dB, hdB, hdnB⟩ := Cond.laysAt hfound hk hffB (a' (.lays cls Bundle.tN "backtrace" "Ljava/lang/Object;") (by simp [zx_at]))
  have bC := Cond.laysApart hdB hdC hdnB hdnC (by rw [hnB, Y.causeName]; decide)
  have bS := Cond.laysApart hdB hdS hdnB hdnS (by rw [hnB, Y.stackName]; decide)
  have bP := Cond.laysApart hdB hdP hdnB hdnP (by rw [hnB, Y.suppName]; decide)
  have hskip : SkipFacts T e.platform s (fun u => u) u0 ((preparedCellV T.toThrowableT (freshCell P1.m.cls kX) a u0 sen).withEntry W.cur) :=
    ⟨{ ci198 := ci198, i198 := i198, fBack := fB }, ⟨hk198, hg198, ha198, hsB⟩, by
      have := fresh_default (c := P1.m.cls) tyB
      rw [htB] at this
      simpa [preparedCellV, Cell.setSlot, Cell.withEntry, Array.getElem?_setIfInBounds, bC, bS, bP, bC.symm, bS.symm, bP.symm, defaultValue] using this, fun _ _ => rfl⟩
  obtain ⟨tm, methC, cdC, kC, vm₁, hnC, -, -, -, -, -, -, -, hW₁, st1⟩ := Steps.initColdS (tb := p.tables) (e := e) (below := below) (s := s) (U := W) X.here hexec X.warmed hpl hown (t := Bundle.initS cls) rfl rfl (Bundle.fit_spec hcls).2
    (a' (.methodLink own ic (Bundle.initS cls)) (by simp [zx_at])) (h (.instanceMethod (Bundle.initS cls)) (by simp [zx_at, Bundle.passSAtoms])) (bytes := rx) (maxL := 2) (h (.code (Bundle.initS cls) rx 2 none) (by simp [zx_at, Bundle.passSAtoms]))
    (f := g) hg (a := a) (msg := msg) (rest := .ref a :: rest) hstack hd6
  cases Option.some.inj (hnC.symm.trans hP1m)
  have X₁ := X.noted hW₁
  obtain ⟨vm₂, X₂, st2⟩ := X₁.ctorMessageOffV hexec (g := { g with stack := .ref a :: rest }) hg hsize T L Z LZ M LM (P1 :: P2 :: Pr)
    (fun P hP => by rcases List.mem_cons.mp hP with rfl | hP; exact L1; rcases List.mem_cons.mp hP with rfl | hP; exact L2; exact hLr P hP) ⟨hlink1, hlink2, hlink3⟩ (u0 := u0) (sen := sen) (self := a) hmsg (cell := freshCell P1.m.cls kX) (cellS := cellS)
    hcell (fun _ => by simp) (by simp) rfl rfl hsel0 hselF hcellS hneS hknownS (by rw [hkeep _ (hout' _)]; exact hu0) (by rw [hkeep _ (hout' _)]; exact hsen)
    (Takes.of_laid hk hord tyC (by rw [Y.causeType]; rfl)) (Takes.of_laid hk hord tyS (by rw [Y.stackType]; exact fits_refV_array _ u0)) (Takes.of_laid hk hord tyP (by rw [Y.suppType]; exact fits_refV_object _ sen))
    (Takes.of_laid hk hord tyM (by rw [Y.msgType]; exact fits_refV_object _ ⟨msg, hmsg⟩)) Y.objLocals hskip htr [] hd6
    (by simp only [List.length_cons, hlen0]; omega) (by simp only [List.length_cons, hlen0]; exact hRlocals)
  obtain ⟨hwalk, hrun, hended, hWU, hsame⟩ := X₂.athrowLeaves hexec (g := { g with stack := .ref a :: rest, pc := g.pc + 3 }) hg hlocked hentered hout (a := a) (rest := rest) rfl hd9
  obtain ⟨c3, c4, hc3, hc4, hasg⟩ := Cond.castable_spec (a' (.castable cls cls) (by simp [zx_at]))
  cases Option.some.inj (hc3.symm.trans hfound)
  cases Option.some.inj (hc4.symm.trans hfound)
  have hlt : a < ((W.setVm vm₁).setVm vm₂).heap.size := (Array.getElem?_eq_some_iff.mp hcell).1
  have hU := heapAt_setCell_self (s := (W.setVm vm₁).setVm vm₂) (plainBareV T.toThrowableT (freshCell P1.m.cls kX) a u0 sen msg) hlt
  refine ⟨_, st1 _ (fun acts => ?_), hrun, hended, hWU, hsame.weaken (fun y hy hlt' => ?_) (Nat.le_refl _) (Nat.le_refl _), _, hU, ?_⟩
  · rw [doInvoke_state]
    exact st2 _ hwalk
  · rcases List.mem_append.mp hy with h1 | h1
    · exact h1
    · exfalso
      have hb : y.base = a := by
        simp only [List.mem_cons, List.not_mem_nil, or_false] at h1
        rcases h1 with rfl | rfl | rfl | rfl | rfl <;> rfl
      rw [hb] at hlt'
      exact Nat.not_lt.mpr hnew hlt'
  · exact ⟨hfound, rfl⟩

section ZXE
variable {p : Program} {l : Launch} {e : Env} {R : Room} {s : State} {m : MethodId} {args : Array Value} {below : List Frame} {meth : Method} {c : Code} {H : Heap} {locs : List Loc} {cells slots : Nat} {Q : State → Prop}
variable {mc ms : Nat} {free : Addr → Prop} {A0 A1 : Nat → Prop} {H0 : Heap} {a : Array Value} {ls : Array Slot} {st0 rest : List Value}
variable {Qc : Array Value → State → Outcome → State → Prop} {XC : String → State → State → Prop}
set_option maxHeartbeats 1000000 in
theorem zx_throwS {cc : ByteArray} {pc : Nat} (hexec : p.tables.exec = Jvm.exec) (hb : c.code = cc) (hl : l.stackTraces = false) {own cls text Y1 : String} {names : List String} {ik is ic mc ms sa ix : Nat} {rx : ByteArray} (x0 : decode rx 0 = .ok (.aload_n 0, 1)) (x1 : decode rx 1 = .ok (.aload_n 1, 1)) (x2 : decode rx 2 = .ok (.invokespecial ix, 3)) (x5 : decode rx 5 = .ok (.return_, 1)) {A : Nat → Prop}
    (hown : s.vm.findClass own = some m.cls) (hcls : Bundle.fit cls = true) (hY1 : Bundle.fit Y1 = true) (hnames : ∀ n ∈ names, Bundle.fit n = true)
    (hk : (Cond.classLink own ik cls).before args s = true) (hini : (Cond.initialized cls).before args s = true) (hstr : vk_R own is text sa s) (hat : ∀ w ∈ (zx_at own ic cls ix rx Y1 names).filter vx_no, w.before args s = true)
    (hgood : ∀ w ∈ Cond.classLink own ik cls :: Cond.initialized cls :: (zx_at own ic cls ix rx Y1 names).filter vx_no, vx_ot w = true)
    (hU : vx_Zq Bundle.tN "UNASSIGNED_STACK" Bundle.steD A s s.heap) (hN : vx_Zq Bundle.tN "SUPPRESSED_SENTINEL" Bundle.listD A s s.heap) (hS : va_S A s.heap H locs) (hsize : ls.size = c.maxLocals)
    (d0 : decode cc pc = .ok (.new ik, 3)) (d3 : decode cc (pc + 3) = .ok (.dup, 1)) (d4 : decode cc (pc + 4) = .ok (.ldc is, 2)) (d6 : decode cc (pc + 6) = .ok (.invokespecial ic, 3)) (d9 : decode cc (pc + 9) = .ok (.athrow, 1))
    (hout : ∀ x ∈ c.exceptionTable.toList, covers x (pc + 9) = false)
    (hRframes : names.length + 4 < R.frames) (hRlocals : (rest.map fun v => v.category).sum + (13 * (names.length + 2) + 43) ≤ R.locals) (hRcells : cells + 1 ≤ R.cells) (hRslots : slots + 6 ≤ R.slots) (hlocks : meth.locks = false)
    (hx : ∀ t : State, s.vm.Alike t.vm → H.size ≤ t.heap.size → (∀ q : Nat, q < H.size → t.heap[q]? = H[q]?) → XC cls s t)
    (hf : ∀ z ∈ locs, free z.base) (hc : cells + 1 ≤ mc) (hs : slots + 6 ≤ ms) :
    W p l e R s m args below meth c H locs cells slots (vx_MQ below Qc XC args s mc ms free) (F0 m pc ls rest) := by
  intro T hT X
  have htr : e.platform.stackTraces = false := (show e.platform.stackTraces = l.stackTraces by rw [X.admits.platform]).trans hl
  have Y := vx_rebase X (R' := { frames := R.frames, locals := R.locals, cells := 1, slots := 6 }) (Nat.le_refl _) (Nat.le_refl _) hRcells hRslots
  obtain ⟨s', hA⟩ : ∃ z, z = (T.setVm s.vm).setFrames (.invoking m args :: below) := ⟨_, rfl⟩
  rw [← hA] at Y
  have hvm : s'.vm = s.vm := by rw [hA]; rfl
  have hhp : s'.heap = H := by rw [hA]; exact hT
  have hW0 : s.WarmedH s'.vm := by rw [hvm]; exact State.WarmedH.refl s
  have hat' : ∀ w ∈ (zx_at own ic cls ix rx Y1 names).filter vx_no, w.before args s' = true := fun w hw => vx_ot_at hW0 hvm.symm (hgood w (List.mem_cons_of_mem _ (List.mem_cons_of_mem _ hw))) (hat w hw)
  have hk' : (Cond.classLink own ik cls).before args s' = true := vx_ot_at hW0 hvm.symm (hgood _ List.mem_cons_self) hk
  have hini' : (Cond.initialized cls).before args s' = true := vx_ot_at hW0 hvm.symm (hgood _ (List.mem_cons_of_mem _ List.mem_cons_self)) hini
  have hU' : vx_Zq Bundle.tN "UNASSIGNED_STACK" Bundle.steD A s' s'.heap := by rw [hhp]; exact vx_Zq.moved hW0.alike (hU.kept hS.2.1)
  have hN' : vx_Zq Bundle.tN "SUPPRESSED_SENTINEL" Bundle.listD A s' s'.heap := by rw [hhp]; exact vx_Zq.moved hW0.alike (hN.kept hS.2.1)
  have h : ∀ w ∈ zx_at own ic cls ix rx Y1 names, w.before args s' = true := vx_own hat' (vx_isRefq hU'.1) (vx_isRefq hN'.1) hU'.2.word hN'.2.word
  have hown' : s'.vm.findClass own = some m.cls := by rw [hvm]; exact hown
  have hins : (Cond.instantiable cls 6).before args s' = true := h _ (by simp [zx_at])
  obtain ⟨vm₁, cX, kX, hfX, hkX, -, -, X₁, st1⟩ := Y.newCold hexec (own := own) (C := cls) (index := ik) (n := 6) hown' hk' hins hini'
    (g := F0 m pc ls rest) rfl (by rw [hb]; exact d0) (Nat.le_refl _) (Nat.le_refl _)
  generalize hT1 : (T.setVm vm₁).pushCell { cls := cX, slots := kX.instanceTypes.map defaultValue, vm := .none } = T1 at X₁ st1
  have hcat : (Value.ref T.heap.size).category = 1 := rfl
  have hcellA : T1.heap[T.heap.size]? = some (freshCell cX kX) := by rw [← hT1]; exact State.heap_pushCell_size _ _
  have d3' : decode c.code (pc + 3) = .ok (.dup, 1) := by rw [hb]; exact d3
  have d4' : decode c.code (pc + 4) = .ok (.ldc is, 2) := by rw [hb]; exact d4
  have hstr' : vk_R own is text sa s' := vk_R.warm hW0 hstr
  obtain ⟨U, hsteps, hrun, hend, hW, hsame, ce, hce, hO⟩ := zx_ctor X₁ hexec htr x0 x1 x2 x5 (own := own) (cls := cls) (names := names) (ic := ic) hown' hcls hY1 hnames h (fun x hx => nomatch hx) hfX hkX hcellA (by rw [hhp, hT]; exact Nat.le_refl _) (msg := .ref sa) rfl
    (g := { method := m, pc := pc + 6, locals := ls, stack := .ref sa :: .ref T.heap.size :: .ref T.heap.size :: rest, locked := none }) rfl hsize rfl rfl (rest := rest) rfl
    (by rw [hb]; exact d6) (by rw [hb]; exact d9) hout hRframes (by simp only [List.map_cons, List.sum_cons, hcat]; omega) hlocks
  obtain ⟨f1, f2⟩ := vx_frame hsame
  rw [hhp] at f1 f2
  have hWs : s.WarmedH U.vm := State.WarmedH.trans hW0 hW
  have hcl : s.vm.findClass cls = some ce.cls := by
    have h9 := hO.1
    rw [hvm] at h9
    exact h9
  have hall : s.sameButNew ({ U with vm := s.vm } : State) locs mc ms := by
    subst hA
    obtain ⟨e1, e2⟩ := hsame
    rw [State.setFrames_setFrames] at e1
    have h2 : (T.setVm s.vm).sameButNew ({ U with vm := s.vm } : State) [] (0 + 1) (0 + 6) := ⟨e1, e2⟩
    have h3 := X.same.trans h2
    rw [List.append_nil] at h3
    exact h3.mono hc hs
  refine ⟨U, ?_, .threw T.heap.size, hrun, hend, Or.inr ⟨T.heap.size, rfl, cls, ce, locs, hx U hWs.alike f1 (fun q hq => f2 q hq (fun z hz => nomatch hz)), hce, hO.2, hcl, hWs, hall, hf⟩⟩
  refine st1 _ ?_
  show Steps p.tables e below (T1.setTop { method := m, pc := pc + 3, locals := ls, stack := .ref T.heap.size :: rest, locked := none }) _
  jvm_step X₁.here [X₁.here.top, hexec, d3', Value.category]
  exact X₁.ldcString hexec (own := own) (text := text) (index := is) (a := sa) hown' hstr'.1 hstr'.2
    (g := { method := m, pc := pc + 4, locals := ls, stack := .ref T.heap.size :: .ref T.heap.size :: rest, locked := none }) rfl d4' _ hsteps
set_option maxHeartbeats 1000000 in
theorem zx_throwSW {cc : ByteArray} {pc : Nat} (hexec : p.tables.exec = Jvm.exec) (hb : c.code = cc) (hl : l.stackTraces = false) {own cls text Y1 : String} {names : List String} {ik is ic mc ms sa ix : Nat} {rx : ByteArray} (x0 : decode rx 0 = .ok (.aload_n 0, 1)) (x1 : decode rx 1 = .ok (.aload_n 1, 1)) (x2 : decode rx 2 = .ok (.invokespecial ix, 3)) (x5 : decode rx 5 = .ok (.return_, 1)) {A : Nat → Prop}
    (hown : s.vm.findClass own = some m.cls) (hcls : Bundle.fit cls = true) (hY1 : Bundle.fit Y1 = true) (hnames : ∀ n ∈ names, Bundle.fit n = true)
    (hk : (Cond.classLink own ik cls).before args s = true) (hini : (Cond.initialized cls).before args s = true) (hstr : vk_R own is text sa s) (hat : ∀ w ∈ (zx_at own ic cls ix rx Y1 names).filter vx_no, w.before args s = true)
    (hgood : ∀ w ∈ Cond.classLink own ik cls :: Cond.initialized cls :: (zx_at own ic cls ix rx Y1 names).filter vx_no, vx_ot w = true)
    (hU : vx_Zq Bundle.tN "UNASSIGNED_STACK" Bundle.steD A s s.heap) (hN : vx_Zq Bundle.tN "SUPPRESSED_SENTINEL" Bundle.listD A s s.heap) (hS : va_S A s.heap H locs) (hsize : ls.size = c.maxLocals)
    (d0 : decode cc pc = .ok (.new ik, 3)) (d3 : decode cc (pc + 3) = .ok (.dup, 1)) (d4 : decode cc (pc + 4) = .ok (.ldc_w is, 3)) (d7 : decode cc (pc + 7) = .ok (.invokespecial ic, 3)) (d10 : decode cc (pc + 10) = .ok (.athrow, 1))
    (hout : ∀ x ∈ c.exceptionTable.toList, covers x (pc + 10) = false)
    (hRframes : names.length + 4 < R.frames) (hRlocals : (rest.map fun v => v.category).sum + (13 * (names.length + 2) + 43) ≤ R.locals) (hRcells : cells + 1 ≤ R.cells) (hRslots : slots + 6 ≤ R.slots) (hlocks : meth.locks = false)
    (hx : ∀ t : State, s.vm.Alike t.vm → H.size ≤ t.heap.size → (∀ q : Nat, q < H.size → t.heap[q]? = H[q]?) → XC cls s t)
    (hf : ∀ z ∈ locs, free z.base) (hc : cells + 1 ≤ mc) (hs : slots + 6 ≤ ms) :
    W p l e R s m args below meth c H locs cells slots (vx_MQ below Qc XC args s mc ms free) (F0 m pc ls rest) := by
  intro T hT X
  have htr : e.platform.stackTraces = false := (show e.platform.stackTraces = l.stackTraces by rw [X.admits.platform]).trans hl
  have Y := vx_rebase X (R' := { frames := R.frames, locals := R.locals, cells := 1, slots := 6 }) (Nat.le_refl _) (Nat.le_refl _) hRcells hRslots
  obtain ⟨s', hA⟩ : ∃ z, z = (T.setVm s.vm).setFrames (.invoking m args :: below) := ⟨_, rfl⟩
  rw [← hA] at Y
  have hvm : s'.vm = s.vm := by rw [hA]; rfl
  have hhp : s'.heap = H := by rw [hA]; exact hT
  have hW0 : s.WarmedH s'.vm := by rw [hvm]; exact State.WarmedH.refl s
  have hat' : ∀ w ∈ (zx_at own ic cls ix rx Y1 names).filter vx_no, w.before args s' = true := fun w hw => vx_ot_at hW0 hvm.symm (hgood w (List.mem_cons_of_mem _ (List.mem_cons_of_mem _ hw))) (hat w hw)
  have hk' : (Cond.classLink own ik cls).before args s' = true := vx_ot_at hW0 hvm.symm (hgood _ List.mem_cons_self) hk
  have hini' : (Cond.initialized cls).before args s' = true := vx_ot_at hW0 hvm.symm (hgood _ (List.mem_cons_of_mem _ List.mem_cons_self)) hini
  have hU' : vx_Zq Bundle.tN "UNASSIGNED_STACK" Bundle.steD A s' s'.heap := by rw [hhp]; exact vx_Zq.moved hW0.alike (hU.kept hS.2.1)
  have hN' : vx_Zq Bundle.tN "SUPPRESSED_SENTINEL" Bundle.listD A s' s'.heap := by rw [hhp]; exact vx_Zq.moved hW0.alike (hN.kept hS.2.1)
  have h : ∀ w ∈ zx_at own ic cls ix rx Y1 names, w.before args s' = true := vx_own hat' (vx_isRefq hU'.1) (vx_isRefq hN'.1) hU'.2.word hN'.2.word
  have hown' : s'.vm.findClass own = some m.cls := by rw [hvm]; exact hown
  have hins : (Cond.instantiable cls 6).before args s' = true := h _ (by simp [zx_at])
  obtain ⟨vm₁, cX, kX, hfX, hkX, -, -, X₁, st1⟩ := Y.newCold hexec (own := own) (C := cls) (index := ik) (n := 6) hown' hk' hins hini'
    (g := F0 m pc ls rest) rfl (by rw [hb]; exact d0) (Nat.le_refl _) (Nat.le_refl _)
  generalize hT1 : (T.setVm vm₁).pushCell { cls := cX, slots := kX.instanceTypes.map defaultValue, vm := .none } = T1 at X₁ st1
  have hcat : (Value.ref T.heap.size).category = 1 := rfl
  have hcellA : T1.heap[T.heap.size]? = some (freshCell cX kX) := by rw [← hT1]; exact State.heap_pushCell_size _ _
  have d3' : decode c.code (pc + 3) = .ok (.dup, 1) := by rw [hb]; exact d3
  have d4' : decode c.code (pc + 4) = .ok (.ldc_w is, 3) := by rw [hb]; exact d4
  have hstr' : vk_R own is text sa s' := vk_R.warm hW0 hstr
  obtain ⟨U, hsteps, hrun, hend, hW, hsame, ce, hce, hO⟩ := zx_ctor X₁ hexec htr x0 x1 x2 x5 (own := own) (cls := cls) (names := names) (ic := ic) hown' hcls hY1 hnames h (fun x hx => nomatch hx) hfX hkX hcellA (by rw [hhp, hT]; exact Nat.le_refl _) (msg := .ref sa) rfl
    (g := { method := m, pc := pc + 7, locals := ls, stack := .ref sa :: .ref T.heap.size :: .ref T.heap.size :: rest, locked := none }) rfl hsize rfl rfl (rest := rest) rfl
    (by rw [hb]; exact d7) (by rw [hb]; exact d10) hout hRframes (by simp only [List.map_cons, List.sum_cons, hcat]; omega) hlocks
  obtain ⟨f1, f2⟩ := vx_frame hsame
  rw [hhp] at f1 f2
  have hWs : s.WarmedH U.vm := State.WarmedH.trans hW0 hW
  have hcl : s.vm.findClass cls = some ce.cls := by
    have h9 := hO.1
    rw [hvm] at h9
    exact h9
  have hall : s.sameButNew ({ U with vm := s.vm } : State) locs mc ms := by
    subst hA
    obtain ⟨e1, e2⟩ := hsame
    rw [State.setFrames_setFrames] at e1
    have h2 : (T.setVm s.vm).sameButNew ({ U with vm := s.vm } : State) [] (0 + 1) (0 + 6) := ⟨e1, e2⟩
    have h3 := X.same.trans h2
    rw [List.append_nil] at h3
    exact h3.mono hc hs
  refine ⟨U, ?_, .threw T.heap.size, hrun, hend, Or.inr ⟨T.heap.size, rfl, cls, ce, locs, hx U hWs.alike f1 (fun q hq => f2 q hq (fun z hz => nomatch hz)), hce, hO.2, hcl, hWs, hall, hf⟩⟩
  refine st1 _ ?_
  show Steps p.tables e below (T1.setTop { method := m, pc := pc + 3, locals := ls, stack := .ref T.heap.size :: rest, locked := none }) _
  jvm_step X₁.here [X₁.here.top, hexec, d3', Value.category]
  exact X₁.ldcStringW hexec (own := own) (text := text) (index := is) (a := sa) hown' hstr'.1 hstr'.2
    (g := { method := m, pc := pc + 4, locals := ls, stack := .ref T.heap.size :: .ref T.heap.size :: rest, locked := none }) rfl d4' _ hsteps
end ZXE
def zx_rx : ByteArray := ⟨#[0x2a, 0x2b, 0xb7, 0x00, 0x0d, 0xb1]⟩
theorem zx_0 : decode zx_rx 0 = .ok (.aload_n 0, 1) := by decide +kernel
theorem zx_1 : decode zx_rx 1 = .ok (.aload_n 1, 1) := by decide +kernel
theorem zx_2 : decode zx_rx 2 = .ok (.invokespecial 13, 3) := by decide +kernel
theorem zx_5 : decode zx_rx 5 = .ok (.return_, 1) := by decide +kernel
def z_tbX (own : String) (ik ic : Nat) (cls : String) : Prop := Bundle.fit cls = true ∧ Cond.classLink own ik cls ∈ z_gw ∧ Cond.initialized cls ∈ z_gw ∧ (∀ w ∈ (zx_at own ic cls 13 zx_rx "java/lang/RuntimeException" ["java/lang/Exception"]).filter vx_no, w ∈ z_gw ∨ w ∈ z_nw) ∧ ∀ w ∈ Cond.classLink own ik cls :: Cond.initialized cls :: (zx_at own ic cls 13 zx_rx "java/lang/RuntimeException" ["java/lang/Exception"]).filter vx_no, vx_ot w = true
theorem z_tnamesX : ∀ x ∈ ["java/lang/Exception"], Bundle.fit x = true := by decide +kernel
section
variable {g : zG} {M : zM} {Φ : zO → zC → Prop} {w0 : zW} {n pc : Nat} {lv lv' : List (Nat × Value)} {st : List Value} {cs cs' : zC} {kc ks : Nat}
set_option maxHeartbeats 1000000 in
theorem r_throwX {cls text : String} {ik is ic : Nat} (hb : z_tbX M.1.cls ik ic cls) (hs : Cond.stringRef M.1.cls is text ∈ lw_tbl) (d0 : decode M.2.1 pc = .ok (.new ik, 3)) (d3 : decode M.2.1 (pc + 3) = .ok (.dup, 1)) (d4 : decode M.2.1 (pc + 4) = .ok (.ldc is, 2)) (d6 : decode M.2.1 (pc + 6) = .ok (.invokespecial ic, 3)) (d9 : decode M.2.1 (pc + 9) = .ok (.athrow, 1)) (hh : M.2.2.2.2.2.2 = []) (hF : 6 ≤ M.2.2.2.2.1) (hL : 100 ≤ M.2.2.2.2.2.1) (hr : (st.map fun v => v.category).sum ≤ 8) (h1 : 1 ≤ kc) (h2 : 6 ≤ ks) (k : Φ (.inr cls) cs) : DV g M Φ w0 n pc lv st cs kc ks := by
  intro w p l e R s m args below meth c A mc ms H locs cells slots ls ws I C T
  obtain ⟨t1, t2, t3, t4, t5⟩ := hb
  obtain ⟨hP, hD, hS, hR, hl, b1, b2⟩ := T
  have b3 := C.2.2.1.1
  have b4 := C.2.2.1.2.1
  have b5 := C.2.2.1.2.2.1
  have b6 := C.2.2.1.2.2.2
  obtain ⟨sa, hsa⟩ := C.2.1.2.1.2.2.2.2.1 _ _ _ hs
  refine zx_throwS (names := ["java/lang/Exception"]) (Y1 := "java/lang/RuntimeException") (ix := 13) (rx := zx_rx) C.1.1 C.1.2.1 C.2.1.1 zx_0 zx_1 zx_2 zx_5 C.1.2.2.2.1 t1 (by decide +kernel) z_tnamesX (C.1.2.2.2.2 _ t2) (C.1.2.2.2.2 _ t3) hsa (fun x hx => (t4 x hx).elim (C.1.2.2.2.2 x) (fun h => (C.2.1.2.1.2.2.2.1 x h).use (z_isN_t (List.mem_filter.mp h).2))) t5 C.2.1.2.1.2.1 C.2.1.2.1.2.2.1 hS (hl.1.trans C.1.2.2.1.symm) d0 d3 d4 d6 d9 (fun x hx => ?_) (by show 1 + 4 < _; omega) (by show _ + (13 * (1 + 2) + 43) ≤ _; omega) (by omega) (by omega) C.2.2.2.2.1 (fun t ht1 ht2 ht3 => ?_) (fun q hq => hS.2.2 q hq) (by omega) (by omega)
  · rw [C.2.2.2.2.2.1, hh] at hx
    cases hx
  · exact ⟨w, ws, ⟨cs, k, I⟩, hR, fun j q hq => (hP j q hq).kept (ht3 q.1 (hP j q hq).lt), hD, Nat.le_trans hS.1 ht2, fun q h3 h4 => by rw [ht3 q (Nat.lt_of_lt_of_le h3 hS.1)]; exact hS.2.1 q h3 h4⟩
set_option maxHeartbeats 1000000 in
theorem r_throwXW {cls text : String} {ik is ic : Nat} (hb : z_tbX M.1.cls ik ic cls) (hs : Cond.stringRef M.1.cls is text ∈ lw_tbl) (d0 : decode M.2.1 pc = .ok (.new ik, 3)) (d3 : decode M.2.1 (pc + 3) = .ok (.dup, 1)) (d4 : decode M.2.1 (pc + 4) = .ok (.ldc_w is, 3)) (d6 : decode M.2.1 (pc + 7) = .ok (.invokespecial ic, 3)) (d9 : decode M.2.1 (pc + 10) = .ok (.athrow, 1)) (hh : M.2.2.2.2.2.2 = []) (hF : 6 ≤ M.2.2.2.2.1) (hL : 100 ≤ M.2.2.2.2.2.1) (hr : (st.map fun v => v.category).sum ≤ 8) (h1 : 1 ≤ kc) (h2 : 6 ≤ ks) (k : Φ (.inr cls) cs) : DV g M Φ w0 n pc lv st cs kc ks := by
  intro w p l e R s m args below meth c A mc ms H locs cells slots ls ws I C T
  obtain ⟨t1, t2, t3, t4, t5⟩ := hb
  obtain ⟨hP, hD, hS, hR, hl, b1, b2⟩ := T
  have b3 := C.2.2.1.1
  have b4 := C.2.2.1.2.1
  have b5 := C.2.2.1.2.2.1
  have b6 := C.2.2.1.2.2.2
  obtain ⟨sa, hsa⟩ := C.2.1.2.1.2.2.2.2.1 _ _ _ hs
  refine zx_throwSW (names := ["java/lang/Exception"]) (Y1 := "java/lang/RuntimeException") (ix := 13) (rx := zx_rx) C.1.1 C.1.2.1 C.2.1.1 zx_0 zx_1 zx_2 zx_5 C.1.2.2.2.1 t1 (by decide +kernel) z_tnamesX (C.1.2.2.2.2 _ t2) (C.1.2.2.2.2 _ t3) hsa (fun x hx => (t4 x hx).elim (C.1.2.2.2.2 x) (fun h => (C.2.1.2.1.2.2.2.1 x h).use (z_isN_t (List.mem_filter.mp h).2))) t5 C.2.1.2.1.2.1 C.2.1.2.1.2.2.1 hS (hl.1.trans C.1.2.2.1.symm) d0 d3 d4 d6 d9 (fun x hx => ?_) (by show 1 + 4 < _; omega) (by show _ + (13 * (1 + 2) + 43) ≤ _; omega) (by omega) (by omega) C.2.2.2.2.1 (fun t ht1 ht2 ht3 => ?_) (fun q hq => hS.2.2 q hq) (by omega) (by omega)
  · rw [C.2.2.2.2.2.1, hh] at hx
    cases hx
  · exact ⟨w, ws, ⟨cs, k, I⟩, hR, fun j q hq => (hP j q hq).kept (ht3 q.1 (hP j q hq).lt), hD, Nat.le_trans hS.1 ht2, fun q h3 h4 => by rw [ht3 q (Nat.lt_of_lt_of_le h3 hS.1)]; exact hS.2.1 q h3 h4⟩
end
end
section
theorem X_shrunkCells (g : zG) (a a1 a2 az az1 az2 az3 az4 az5 az6 a4 a5 a6 : Nat) (X : zTr) : CT g M_Tr_shrunkCells [.ref a] [(a, .inr (10, [.ref a1, .ref a2, .ref az, .ref a4, .ref a5, .ref a6, .int X.1.2.2.1, .int X.1.2.2.2])), (a1, .inl (1, 108, .inl X.1.1)), (a2, .inl (0, 108, .inl X.1.2.1)), (az, .inr (2, [.ref az1, .ref az2, .ref az3, .ref az4, .ref az5, .ref az6, .int X.2.1.1.1.2.2.2])), (az4, .inl (0, 108, .inl X.2.1.1.1.2.2.1)), (a4, .inl (2, 108, .inl X.2.2.1)), (a5, .inl (2, 108, .inl X.2.2.2.1)), (a6, .inl (0, 108, .inl (fun k => nI (X.2.2.2.2 k))))] (fun o cs1 => o = .inl (some (.int (nI (shN X)))) ∧ cs1 = [(a, .inr (10, [.ref a1, .ref a2, .ref az, .ref a4, .ref a5, .ref a6, .int X.1.2.2.1, .int X.1.2.2.2])), (a1, .inl (1, 108, .inl X.1.1)), (a2, .inl (0, 108, .inl X.1.2.1)), (az, .inr (2, [.ref az1, .ref az2, .ref az3, .ref az4, .ref az5, .ref az6, .int X.2.1.1.1.2.2.2])), (az4, .inl (0, 108, .inl X.2.1.1.1.2.2.1)), (a4, .inl (2, 108, .inl X.2.2.1)), (a5, .inl (2, 108, .inl X.2.2.2.1)), (a6, .inl (0, 108, .inl (fun k => nI (X.2.2.2.2 k))))]) 0 0 := C_Tr_shrunkCells g a a1 a2 az az1 az2 az3 az4 az5 az6 a4 a5 a6 X.1.2.2.1 X.1.2.2.2 X.2.1.1.1.2.2.2 X.1.1 X.1.2.1 X.2.1.1.1.2.2.1 X.2.2.1 X.2.2.2.1 X.2.2.2.2
abbrev M_Ip_undercut : zM := (⟨"Ironpour", "undercut", "()I"⟩, prog_1_method_5_code, 1, (Option.some FieldType.int), 4, 90, [])
theorem d_Ip_undercut_0 : decode prog_1_method_5_code 0 = .ok (.aload_n 0, 1) := zo_42 (zd_b zq_prog_1_method_5_code_0 0 rfl rfl rfl)
theorem d_Ip_undercut_1 : decode prog_1_method_5_code 1 = .ok (.getfield 10, 3) := zo_180 (d := 0) (e := 10) (zd_b zq_prog_1_method_5_code_0 1 rfl rfl rfl) (zd_b zq_prog_1_method_5_code_0 2 rfl rfl rfl) (zd_b zq_prog_1_method_5_code_0 3 rfl rfl rfl)
theorem u_Ip : ∀ x ∈ u_ws R_Ip F_Ip 12, x ∈ z_gw := fun x hx => List.mem_filter.mpr ⟨(z_au [(2, 75), (2, 77), (2, 79), (2, 81), (2, 83), (2, 85), (2, 87), (2, 89), (2, 91), (2, 93), (2, 95), (2, 97)] (by decide +kernel) : ∀ x ∈ u_ws R_Ip F_Ip 12, x ∈ lw_tbl) x hx, (show ∀ x ∈ u_ws R_Ip F_Ip 12, goodWord x = true by decide +kernel) x hx⟩
theorem fs_Ip_10 : z_fs "Ironpour" 10 11 0 := ⟨R_Ip, "Ironpour", F_Ip, 12, rfl, u_Ip, by decide, Or.inl ⟨z_mj2 (i := 63) rfl (by decide +kernel), Or.inl rfl⟩⟩
theorem d_Ip_undercut_4 : decode prog_1_method_5_code 4 = .ok (.invokevirtual 124, 3) := zo_182 (d := 0) (e := 124) (zd_b zq_prog_1_method_5_code_0 4 rfl rfl rfl) (zd_b zq_prog_1_method_5_code_0 5 rfl rfl rfl) (zd_b zq_prog_1_method_5_code_0 6 rfl rfl rfl)
theorem ok_Ip_undercut_Pa_undercutCells : z_ok M_Ip_undercut M_Pa_undercutCells 0 := ⟨z_mj2 (i := 107) rfl (by decide +kernel), rfl, ⟨by decide +kernel, by decide +kernel, by decide +kernel⟩, ⟨by decide, by decide⟩, z_mj1 (i := 2) rfl (by decide +kernel), rfl⟩
theorem ln_Ip_124 : Cond.methodLink "Ironpour" 124 M_Pa_undercutCells.1 ∈ z_gw := z_mj2 (i := 104) rfl (by decide +kernel)
theorem d_Ip_undercut_7 : decode prog_1_method_5_code 7 = .ok (.ireturn, 1) := zo_172 (zd_b zq_prog_1_method_5_code_0 7 rfl rfl rfl)
set_option maxHeartbeats 4000000 in
set_option maxRecDepth 100000 in
theorem C_Ip_undercut (g : zG) (a pa ta sa gs co fu la gy du re wm ac : Nat) (pa1 pa2 pa3 : Nat) (f sn : Nat → Int32) (qn : Nat → Nat) (p : Nat) (hp1 : 1 ≤ p) (hp : p < 9) : CT g M_Ip_undercut [.ref a] [(a, .inr (11, [.ref pa, .ref ta, .ref sa, .ref gs, .ref co, .ref fu, .ref la, .ref gy, .ref du, .ref re, .ref wm, .ref ac])), (pa, .inr (8, [.ref pa1, .ref pa2, .ref pa3, .int (nI p)])), (pa1, .inl (1, 108, .inl f)), (pa2, .inl (2, 108, .inl sn)), (pa3, .inl (0, 108, .inl (fun k => nI (qn k))))] (fun o cs1 => o = .inl (some (.int (nI (ucT f p 12)))) ∧ cs1 = [(a, .inr (11, [.ref pa, .ref ta, .ref sa, .ref gs, .ref co, .ref fu, .ref la, .ref gy, .ref du, .ref re, .ref wm, .ref ac])), (pa, .inr (8, [.ref pa1, .ref pa2, .ref pa3, .int (nI p)])), (pa1, .inl (1, 108, .inl f)), (pa2, .inl (2, 108, .inl sn)), (pa3, .inl (0, 108, .inl (fun k => nI (qn k))))]) 0 0 := by
  refine z_of (by decide) rfl (Nat.le_of_ble_eq_true rfl) (fun w0 => ?_)
  refine r_lvE (lv2 := [(0, .ref a)]) rfl ?_
  refine r_aload_n d_Ip_undercut_0 rfl 0 rfl ?_
  refine r_get fs_Ip_10 d_Ip_undercut_1 (q0 := 0) rfl rfl ?_
  refine r_callV (As := []) (rest := []) (csC := [(pa, .inr (8, [.ref pa1, .ref pa2, .ref pa3, .int (nI p)])), (pa1, .inl (1, 108, .inl f)), (pa2, .inl (2, 108, .inl sn)), (pa3, .inl (0, 108, .inl (fun k => nI (qn k))))]) (is := [1, 2, 3, 4]) (q0 := 1) rfl rfl ln_Ip_124 w_im_Pa_undercutCells w_se_Pa_undercutCells ok_Ip_undercut_Pa_undercutCells d_Ip_undercut_4 (C_Pa_undercutCells g pa pa1 pa2 pa3 f sn (fun k => nI (qn k)) p hp1 hp) rfl rfl (Nat.le_of_ble_eq_true rfl) rfl (by decide) (by omega) (by omega) (fun E cs1 hx => ?_) (fun v cs1 hx => ?_)
  · exact absurd hx.1 (by simp)
  · obtain ⟨e1, rfl⟩ := hx
    cases e1
    refine ⟨rfl, ?_⟩
    refine r_st (st2 := [.int (nI (ucT f p 12))]) rfl ?_
    refine r_cs (cs2 := [(a, .inr (11, [.ref pa, .ref ta, .ref sa, .ref gs, .ref co, .ref fu, .ref la, .ref gy, .ref du, .ref re, .ref wm, .ref ac])), (pa, .inr (8, [.ref pa1, .ref pa2, .ref pa3, .int (nI p)])), (pa1, .inl (1, 108, .inl f)), (pa2, .inl (2, 108, .inl sn)), (pa3, .inl (0, 108, .inl (fun k => nI (qn k))))]) rfl ?_
    refine r_iret d_Ip_undercut_7 rfl rfl ?_
    exact ⟨rfl, rfl⟩
abbrev M_Ip_cores : zM := (⟨"Ironpour", "cores", "()I"⟩, prog_1_method_6_code, 1, (Option.some FieldType.int), 5, 111, [])
theorem d_Ip_cores_0 : decode prog_1_method_6_code 0 = .ok (.aload_n 0, 1) := zo_42 (zd_b zq_prog_1_method_6_code_0 0 rfl rfl rfl)
theorem d_Ip_cores_1 : decode prog_1_method_6_code 1 = .ok (.getfield 10, 3) := zo_180 (d := 0) (e := 10) (zd_b zq_prog_1_method_6_code_0 1 rfl rfl rfl) (zd_b zq_prog_1_method_6_code_0 2 rfl rfl rfl) (zd_b zq_prog_1_method_6_code_0 3 rfl rfl rfl)
theorem d_Ip_cores_4 : decode prog_1_method_6_code 4 = .ok (.invokevirtual 128, 3) := zo_182 (d := 0) (e := 128) (zd_b zq_prog_1_method_6_code_0 4 rfl rfl rfl) (zd_b zq_prog_1_method_6_code_0 5 rfl rfl rfl) (zd_b zq_prog_1_method_6_code_0 6 rfl rfl rfl)
theorem ok_Ip_cores_Pa_coreGroups : z_ok M_Ip_cores M_Pa_coreGroups 0 := ⟨z_mj2 (i := 122) rfl (by decide +kernel), rfl, ⟨by decide +kernel, by decide +kernel, by decide +kernel⟩, ⟨by decide, by decide⟩, z_mj1 (i := 2) rfl (by decide +kernel), rfl⟩
theorem ln_Ip_128 : Cond.methodLink "Ironpour" 128 M_Pa_coreGroups.1 ∈ z_gw := z_mj2 (i := 119) rfl (by decide +kernel)
theorem w_im_Pa_coreGroups : Cond.instanceMethod M_Pa_coreGroups.1 ∈ z_gw := z_mj2 (i := 120) rfl (by decide +kernel)
theorem w_se_Pa_coreGroups : Cond.selects M_Pa_coreGroups.1.cls M_Pa_coreGroups.1 M_Pa_coreGroups.1 ∈ z_gw := z_mj2 (i := 121) rfl (by decide +kernel)
theorem d_Ip_cores_7 : decode prog_1_method_6_code 7 = .ok (.ireturn, 1) := zo_172 (zd_b zq_prog_1_method_6_code_0 7 rfl rfl rfl)
set_option maxHeartbeats 4000000 in
set_option maxRecDepth 100000 in
theorem C_Ip_cores (g : zG) (a pa ta sa gs co fu la gy du re wm ac : Nat) (pa1 pa2 pa3 : Nat) (f sn : Nat → Int32) (qn : Nat → Nat) (p : Nat) : CT g M_Ip_cores [.ref a] [(a, .inr (11, [.ref pa, .ref ta, .ref sa, .ref gs, .ref co, .ref fu, .ref la, .ref gy, .ref du, .ref re, .ref wm, .ref ac])), (pa, .inr (8, [.ref pa1, .ref pa2, .ref pa3, .int (nI p)])), (pa1, .inl (1, 108, .inl f)), (pa2, .inl (2, 108, .inl sn)), (pa3, .inl (0, 108, .inl (fun k => nI (qn k))))] (fun o cs1 => o = .inl (some (.int (nI (grS f 109 (fa_fill (fun _ => 0) sn 108, qn, 0) 108).2.2))) ∧ cs1 = [(a, .inr (11, [.ref pa, .ref ta, .ref sa, .ref gs, .ref co, .ref fu, .ref la, .ref gy, .ref du, .ref re, .ref wm, .ref ac])), (pa, .inr (8, [.ref pa1, .ref pa2, .ref pa3, .int (nI p)])), (pa1, .inl (1, 108, .inl f)), (pa2, .inl (2, 108, .inl ((grS f 109 (fa_fill (fun _ => 0) sn 108, qn, 0) 108).1))), (pa3, .inl (0, 108, .inl (fun k => nI ((grS f 109 (fa_fill (fun _ => 0) sn 108, qn, 0) 108).2.1 k))))]) 0 0 := by
  refine z_of (by decide) rfl (Nat.le_of_ble_eq_true rfl) (fun w0 => ?_)
  refine r_lvE (lv2 := [(0, .ref a)]) rfl ?_
  refine r_aload_n d_Ip_cores_0 rfl 0 rfl ?_
  refine r_get fs_Ip_10 d_Ip_cores_1 (q0 := 0) rfl rfl ?_
  refine r_callV (As := []) (rest := []) (csC := [(pa, .inr (8, [.ref pa1, .ref pa2, .ref pa3, .int (nI p)])), (pa1, .inl (1, 108, .inl f)), (pa2, .inl (2, 108, .inl sn)), (pa3, .inl (0, 108, .inl (fun k => nI (qn k))))]) (is := [1, 2, 3, 4]) (q0 := 1) rfl rfl ln_Ip_128 w_im_Pa_coreGroups w_se_Pa_coreGroups ok_Ip_cores_Pa_coreGroups d_Ip_cores_4 (C_Pa_coreGroups g pa pa1 pa2 pa3 f sn qn (nI p)) rfl rfl (Nat.le_of_ble_eq_true rfl) rfl (by decide) (by omega) (by omega) (fun E cs1 hx => ?_) (fun v cs1 hx => ?_)
  · exact absurd hx.1 (by simp)
  · obtain ⟨e1, rfl⟩ := hx
    cases e1
    refine ⟨rfl, ?_⟩
    refine r_st (st2 := [.int (nI (grS f 109 (fa_fill (fun _ => 0) sn 108, qn, 0) 108).2.2)]) rfl ?_
    refine r_cs (cs2 := [(a, .inr (11, [.ref pa, .ref ta, .ref sa, .ref gs, .ref co, .ref fu, .ref la, .ref gy, .ref du, .ref re, .ref wm, .ref ac])), (pa, .inr (8, [.ref pa1, .ref pa2, .ref pa3, .int (nI p)])), (pa1, .inl (1, 108, .inl f)), (pa2, .inl (2, 108, .inl ((grS f 109 (fa_fill (fun _ => 0) sn 108, qn, 0) 108).1))), (pa3, .inl (0, 108, .inl (fun k => nI ((grS f 109 (fa_fill (fun _ => 0) sn 108, qn, 0) 108).2.1 k))))]) rfl ?_
    refine r_iret d_Ip_cores_7 rfl rfl ?_
    exact ⟨rfl, rfl⟩
abbrev M_Ip_loose : zM := (⟨"Ironpour", "loose", "()I"⟩, prog_1_method_7_code, 1, (Option.some FieldType.int), 5, 111, [])
theorem d_Ip_loose_0 : decode prog_1_method_7_code 0 = .ok (.aload_n 0, 1) := zo_42 (zd_b zq_prog_1_method_7_code_0 0 rfl rfl rfl)
theorem d_Ip_loose_1 : decode prog_1_method_7_code 1 = .ok (.getfield 10, 3) := zo_180 (d := 0) (e := 10) (zd_b zq_prog_1_method_7_code_0 1 rfl rfl rfl) (zd_b zq_prog_1_method_7_code_0 2 rfl rfl rfl) (zd_b zq_prog_1_method_7_code_0 3 rfl rfl rfl)
theorem d_Ip_loose_4 : decode prog_1_method_7_code 4 = .ok (.invokevirtual 131, 3) := zo_182 (d := 0) (e := 131) (zd_b zq_prog_1_method_7_code_0 4 rfl rfl rfl) (zd_b zq_prog_1_method_7_code_0 5 rfl rfl rfl) (zd_b zq_prog_1_method_7_code_0 6 rfl rfl rfl)
theorem ok_Ip_loose_Pa_looseGroups : z_ok M_Ip_loose M_Pa_looseGroups 0 := ⟨z_mj2 (i := 141) rfl (by decide +kernel), rfl, ⟨by decide +kernel, by decide +kernel, by decide +kernel⟩, ⟨by decide, by decide⟩, z_mj1 (i := 2) rfl (by decide +kernel), rfl⟩
theorem ln_Ip_131 : Cond.methodLink "Ironpour" 131 M_Pa_looseGroups.1 ∈ z_gw := z_mj2 (i := 138) rfl (by decide +kernel)
theorem d_Ip_loose_7 : decode prog_1_method_7_code 7 = .ok (.ireturn, 1) := zo_172 (zd_b zq_prog_1_method_7_code_0 7 rfl rfl rfl)
set_option maxHeartbeats 4000000 in
set_option maxRecDepth 100000 in
theorem C_Ip_loose (g : zG) (a pa ta sa gs co fu la gy du re wm ac : Nat) (pa1 pa2 pa3 : Nat) (f sn : Nat → Int32) (qn : Nat → Nat) (p : Nat) : CT g M_Ip_loose [.ref a] [(a, .inr (11, [.ref pa, .ref ta, .ref sa, .ref gs, .ref co, .ref fu, .ref la, .ref gy, .ref du, .ref re, .ref wm, .ref ac])), (pa, .inr (8, [.ref pa1, .ref pa2, .ref pa3, .int (nI p)])), (pa1, .inl (1, 108, .inl f)), (pa2, .inl (2, 108, .inl sn)), (pa3, .inl (0, 108, .inl (fun k => nI (qn k))))] (fun o cs1 => o = .inl (some (.int (nI (grS f 2 (fa_fill (fun _ => 0) sn 108, qn, 0) 108).2.2))) ∧ cs1 = [(a, .inr (11, [.ref pa, .ref ta, .ref sa, .ref gs, .ref co, .ref fu, .ref la, .ref gy, .ref du, .ref re, .ref wm, .ref ac])), (pa, .inr (8, [.ref pa1, .ref pa2, .ref pa3, .int (nI p)])), (pa1, .inl (1, 108, .inl f)), (pa2, .inl (2, 108, .inl ((grS f 2 (fa_fill (fun _ => 0) sn 108, qn, 0) 108).1))), (pa3, .inl (0, 108, .inl (fun k => nI ((grS f 2 (fa_fill (fun _ => 0) sn 108, qn, 0) 108).2.1 k))))]) 0 0 := by
  refine z_of (by decide) rfl (Nat.le_of_ble_eq_true rfl) (fun w0 => ?_)
  refine r_lvE (lv2 := [(0, .ref a)]) rfl ?_
  refine r_aload_n d_Ip_loose_0 rfl 0 rfl ?_
  refine r_get fs_Ip_10 d_Ip_loose_1 (q0 := 0) rfl rfl ?_
  refine r_callV (As := []) (rest := []) (csC := [(pa, .inr (8, [.ref pa1, .ref pa2, .ref pa3, .int (nI p)])), (pa1, .inl (1, 108, .inl f)), (pa2, .inl (2, 108, .inl sn)), (pa3, .inl (0, 108, .inl (fun k => nI (qn k))))]) (is := [1, 2, 3, 4]) (q0 := 1) rfl rfl ln_Ip_131 w_im_Pa_looseGroups w_se_Pa_looseGroups ok_Ip_loose_Pa_looseGroups d_Ip_loose_4 (C_Pa_looseGroups g pa pa1 pa2 pa3 f sn qn (nI p)) rfl rfl (Nat.le_of_ble_eq_true rfl) rfl (by decide) (by omega) (by omega) (fun E cs1 hx => ?_) (fun v cs1 hx => ?_)
  · exact absurd hx.1 (by simp)
  · obtain ⟨e1, rfl⟩ := hx
    cases e1
    refine ⟨rfl, ?_⟩
    refine r_st (st2 := [.int (nI (grS f 2 (fa_fill (fun _ => 0) sn 108, qn, 0) 108).2.2)]) rfl ?_
    refine r_cs (cs2 := [(a, .inr (11, [.ref pa, .ref ta, .ref sa, .ref gs, .ref co, .ref fu, .ref la, .ref gy, .ref du, .ref re, .ref wm, .ref ac])), (pa, .inr (8, [.ref pa1, .ref pa2, .ref pa3, .int (nI p)])), (pa1, .inl (1, 108, .inl f)), (pa2, .inl (2, 108, .inl ((grS f 2 (fa_fill (fun _ => 0) sn 108, qn, 0) 108).1))), (pa3, .inl (0, 108, .inl (fun k => nI ((grS f 2 (fa_fill (fun _ => 0) sn 108, qn, 0) 108).2.1 k))))]) rfl ?_
    refine r_iret d_Ip_loose_7 rfl rfl ?_
    exact ⟨rfl, rfl⟩
abbrev M_Ip_weight : zM := (⟨"Ironpour", "weight", "()I"⟩, prog_1_method_8_code, 1, (Option.some FieldType.int), 3, 62, [])
theorem d_Ip_weight_0 : decode prog_1_method_8_code 0 = .ok (.aload_n 0, 1) := zo_42 (zd_b zq_prog_1_method_8_code_0 0 rfl rfl rfl)
theorem d_Ip_weight_1 : decode prog_1_method_8_code 1 = .ok (.getfield 10, 3) := zo_180 (d := 0) (e := 10) (zd_b zq_prog_1_method_8_code_0 1 rfl rfl rfl) (zd_b zq_prog_1_method_8_code_0 2 rfl rfl rfl) (zd_b zq_prog_1_method_8_code_0 3 rfl rfl rfl)
theorem d_Ip_weight_4 : decode prog_1_method_8_code 4 = .ok (.invokevirtual 134, 3) := zo_182 (d := 0) (e := 134) (zd_b zq_prog_1_method_8_code_0 4 rfl rfl rfl) (zd_b zq_prog_1_method_8_code_0 5 rfl rfl rfl) (zd_b zq_prog_1_method_8_code_0 6 rfl rfl rfl)
theorem ok_Ip_weight_Pa_metalCells : z_ok M_Ip_weight M_Pa_metalCells 0 := ⟨z_mj2 (i := 149) rfl (by decide +kernel), rfl, ⟨by decide +kernel, by decide +kernel, by decide +kernel⟩, ⟨by decide, by decide⟩, z_mj1 (i := 2) rfl (by decide +kernel), rfl⟩
theorem ln_Ip_134 : Cond.methodLink "Ironpour" 134 M_Pa_metalCells.1 ∈ z_gw := z_mj2 (i := 146) rfl (by decide +kernel)
theorem d_Ip_weight_7 : decode prog_1_method_8_code 7 = .ok (.invokestatic 137, 3) := zo_184 (d := 0) (e := 137) (zd_b zq_prog_1_method_8_code_0 7 rfl rfl rfl) (zd_b zq_prog_1_method_8_code_0 8 rfl rfl rfl) (zd_b zq_prog_1_method_8_code_0 9 rfl rfl rfl)
theorem ok_Ip_weight_Ip_kilogramsFor : z_ok M_Ip_weight M_Ip_kilogramsFor 1 := ⟨z_mj2 (i := 152) rfl (by decide +kernel), rfl, ⟨by decide +kernel, by decide +kernel, by decide +kernel⟩, ⟨by decide, by decide⟩, z_mj1 (i := 1) rfl (by decide +kernel), rfl⟩
theorem ln_Ip_137 : Cond.methodLink "Ironpour" 137 M_Ip_kilogramsFor.1 ∈ z_gw := z_mj2 (i := 150) rfl (by decide +kernel)
theorem w_st_Ip_kilogramsFor : Cond.static M_Ip_kilogramsFor.1 ∈ z_gw := z_mj2 (i := 151) rfl (by decide +kernel)
theorem d_Ip_weight_10 : decode prog_1_method_8_code 10 = .ok (.ireturn, 1) := zo_172 (zd_b zq_prog_1_method_8_code_0 10 rfl rfl rfl)
set_option maxHeartbeats 4000000 in
set_option maxRecDepth 100000 in
theorem C_Ip_weight (g : zG) (a pa ta sa gs co fu la gy du re wm ac : Nat) (pa1 pa2 pa3 : Nat) (f sn : Nat → Int32) (qn : Nat → Nat) (p : Nat) : CT g M_Ip_weight [.ref a] [(a, .inr (11, [.ref pa, .ref ta, .ref sa, .ref gs, .ref co, .ref fu, .ref la, .ref gy, .ref du, .ref re, .ref wm, .ref ac])), (pa, .inr (8, [.ref pa1, .ref pa2, .ref pa3, .int (nI p)])), (pa1, .inl (1, 108, .inl f)), (pa2, .inl (2, 108, .inl sn)), (pa3, .inl (0, 108, .inl (fun k => nI (qn k))))] (fun o cs1 => o = .inl (some (.int (2 * nI (fa_cnt (fun k => tmB (f k)) 108)))) ∧ cs1 = [(a, .inr (11, [.ref pa, .ref ta, .ref sa, .ref gs, .ref co, .ref fu, .ref la, .ref gy, .ref du, .ref re, .ref wm, .ref ac])), (pa, .inr (8, [.ref pa1, .ref pa2, .ref pa3, .int (nI p)])), (pa1, .inl (1, 108, .inl f)), (pa2, .inl (2, 108, .inl sn)), (pa3, .inl (0, 108, .inl (fun k => nI (qn k))))]) 0 0 := by
  refine z_of (by decide) rfl (Nat.le_of_ble_eq_true rfl) (fun w0 => ?_)
  refine r_lvE (lv2 := [(0, .ref a)]) rfl ?_
  refine r_aload_n d_Ip_weight_0 rfl 0 rfl ?_
  refine r_get fs_Ip_10 d_Ip_weight_1 (q0 := 0) rfl rfl ?_
  refine r_callV (As := []) (rest := []) (csC := [(pa, .inr (8, [.ref pa1, .ref pa2, .ref pa3, .int (nI p)])), (pa1, .inl (1, 108, .inl f)), (pa2, .inl (2, 108, .inl sn)), (pa3, .inl (0, 108, .inl (fun k => nI (qn k))))]) (is := [1, 2, 3, 4]) (q0 := 1) rfl rfl ln_Ip_134 w_im_Pa_metalCells w_se_Pa_metalCells ok_Ip_weight_Pa_metalCells d_Ip_weight_4 (C_Pa_metalCells g pa pa1 pa2 pa3 f sn (fun k => nI (qn k)) (nI p)) rfl rfl (Nat.le_of_ble_eq_true rfl) rfl (by decide) (by omega) (by omega) (fun E cs1 hx => ?_) (fun v cs1 hx => ?_)
  · exact absurd hx.1 (by simp)
  · obtain ⟨e1, rfl⟩ := hx
    cases e1
    refine ⟨rfl, ?_⟩
    refine r_st (st2 := [.int (nI (fa_cnt (fun k => tmB (f k)) 108))]) rfl ?_
    refine r_cs (cs2 := [(a, .inr (11, [.ref pa, .ref ta, .ref sa, .ref gs, .ref co, .ref fu, .ref la, .ref gy, .ref du, .ref re, .ref wm, .ref ac])), (pa, .inr (8, [.ref pa1, .ref pa2, .ref pa3, .int (nI p)])), (pa1, .inl (1, 108, .inl f)), (pa2, .inl (2, 108, .inl sn)), (pa3, .inl (0, 108, .inl (fun k => nI (qn k))))]) rfl ?_
    refine r_callS (As := [.int (nI (fa_cnt (fun k => tmB (f k)) 108))]) (rest := []) (csC := []) (is := []) ln_Ip_137 w_st_Ip_kilogramsFor ok_Ip_weight_Ip_kilogramsFor d_Ip_weight_7 (C_Ip_kilogramsFor g (nI (fa_cnt (fun k => tmB (f k)) 108))) rfl rfl (Nat.le_of_ble_eq_true rfl) rfl (by decide) (by omega) (by omega) (fun E cs1 hx => ?_) (fun v cs1 hx => ?_)
    · exact absurd hx.1 (by simp)
    · obtain ⟨e1, rfl⟩ := hx
      cases e1
      refine ⟨rfl, ?_⟩
      refine r_st (st2 := [.int (2 * nI (fa_cnt (fun k => tmB (f k)) 108))]) rfl ?_
      refine r_cs (cs2 := [(a, .inr (11, [.ref pa, .ref ta, .ref sa, .ref gs, .ref co, .ref fu, .ref la, .ref gy, .ref du, .ref re, .ref wm, .ref ac])), (pa, .inr (8, [.ref pa1, .ref pa2, .ref pa3, .int (nI p)])), (pa1, .inl (1, 108, .inl f)), (pa2, .inl (2, 108, .inl sn)), (pa3, .inl (0, 108, .inl (fun k => nI (qn k))))]) rfl ?_
      refine r_iret d_Ip_weight_10 rfl rfl ?_
      exact ⟨rfl, rfl⟩
abbrev M_Ip_cell : zM := (⟨"Ironpour", "cell", "(II)C"⟩, prog_1_method_3_code, 3, (Option.some FieldType.char), 7, 121, [])
theorem d_Ip_cell_0 : decode prog_1_method_3_code 0 = .ok (.aload_n 0, 1) := zo_42 (zd_b zq_prog_1_method_3_code_0 0 rfl rfl rfl)
theorem d_Ip_cell_1 : decode prog_1_method_3_code 1 = .ok (.getfield 10, 3) := zo_180 (d := 0) (e := 10) (zd_b zq_prog_1_method_3_code_0 1 rfl rfl rfl) (zd_b zq_prog_1_method_3_code_0 2 rfl rfl rfl) (zd_b zq_prog_1_method_3_code_0 3 rfl rfl rfl)
theorem d_Ip_cell_4 : decode prog_1_method_3_code 4 = .ok (.getfield 106, 3) := zo_180 (d := 0) (e := 106) (zd_b zq_prog_1_method_3_code_0 4 rfl rfl rfl) (zd_b zq_prog_1_method_3_code_0 5 rfl rfl rfl) (zd_b zq_prog_1_method_3_code_0 6 rfl rfl rfl)
theorem fs_Ip_106 : z_fs "Ironpour" 106 8 0 := ⟨R_Pa, "Ironpour$Pattern", F_Pa, 4, rfl, u_Pa, by decide, Or.inr ⟨"Ironpour", z_mk1 (i := 54) rfl (by decide +kernel), rfl⟩⟩
theorem d_Ip_cell_7 : decode prog_1_method_3_code 7 = .ok (.iload_n 1, 1) := zo_27 (zd_b zq_prog_1_method_3_code_0 7 rfl rfl rfl)
theorem d_Ip_cell_8 : decode prog_1_method_3_code 8 = .ok (.iload_n 2, 1) := zo_28 (zd_b zq_prog_1_method_3_code_0 8 rfl rfl rfl)
theorem d_Ip_cell_9 : decode prog_1_method_3_code 9 = .ok (.invokestatic 114, 3) := zo_184 (d := 0) (e := 114) (zd_b zq_prog_1_method_3_code_0 9 rfl rfl rfl) (zd_b zq_prog_1_method_3_code_0 10 rfl rfl rfl) (zd_b zq_prog_1_method_3_code_0 11 rfl rfl rfl)
theorem ok_Ip_cell_Ip_cellAt : z_ok M_Ip_cell M_Ip_cellAt 2 := ⟨z_mj4 (i := 22) rfl (by decide +kernel), rfl, ⟨by decide +kernel, by decide +kernel, by decide +kernel⟩, ⟨by decide, by decide⟩, z_mj1 (i := 1) rfl (by decide +kernel), rfl⟩
theorem ln_Ip_114 : Cond.methodLink "Ironpour" 114 M_Ip_cellAt.1 ∈ z_gw := z_mj4 (i := 20) rfl (by decide +kernel)
theorem w_st_Ip_cellAt : Cond.static M_Ip_cellAt.1 ∈ z_gw := z_mj4 (i := 21) rfl (by decide +kernel)
set_option maxHeartbeats 4000000 in
set_option maxRecDepth 100000 in
theorem C_Ip_cellE (g : zG) (a pa ta sa gs co fu la gy du re wm ac : Nat) (pa1 pa2 pa3 : Nat) (f sn : Nat → Int32) (qn : Nat → Nat) (p : Nat) (x y : Int32) (hz : z_cl x y = none) : CT g M_Ip_cell [.ref a, .int x, .int y] [(a, .inr (11, [.ref pa, .ref ta, .ref sa, .ref gs, .ref co, .ref fu, .ref la, .ref gy, .ref du, .ref re, .ref wm, .ref ac])), (pa, .inr (8, [.ref pa1, .ref pa2, .ref pa3, .int (nI p)])), (pa1, .inl (1, 108, .inl f)), (pa2, .inl (2, 108, .inl sn)), (pa3, .inl (0, 108, .inl (fun k => nI (qn k))))] (fun o cs1 => o = .inr "java/lang/IndexOutOfBoundsException" ∧ cs1 = [(a, .inr (11, [.ref pa, .ref ta, .ref sa, .ref gs, .ref co, .ref fu, .ref la, .ref gy, .ref du, .ref re, .ref wm, .ref ac])), (pa, .inr (8, [.ref pa1, .ref pa2, .ref pa3, .int (nI p)])), (pa1, .inl (1, 108, .inl f)), (pa2, .inl (2, 108, .inl sn)), (pa3, .inl (0, 108, .inl (fun k => nI (qn k))))]) 1 6 := by
  refine z_of (by decide) rfl (Nat.le_of_ble_eq_true rfl) (fun w0 => ?_)
  refine r_lvE (lv2 := [(0, .ref a), (1, .int x), (2, .int y)]) rfl ?_
  refine r_aload_n d_Ip_cell_0 rfl 0 rfl ?_
  refine r_get fs_Ip_10 d_Ip_cell_1 (q0 := 0) rfl rfl ?_
  refine r_get fs_Ip_106 d_Ip_cell_4 (q0 := 1) rfl rfl ?_
  refine r_iload_n d_Ip_cell_7 rfl 1 rfl ?_
  refine r_iload_n d_Ip_cell_8 rfl 2 rfl ?_
  refine r_callS (As := [.int x, .int y]) (rest := [.ref pa1]) (csC := []) (is := []) ln_Ip_114 w_st_Ip_cellAt ok_Ip_cell_Ip_cellAt d_Ip_cell_9 (C_Ip_cellAt g x y) rfl rfl (Nat.le_of_ble_eq_true rfl) rfl (by decide) (by omega) (by omega) (fun E cs1 hx => ?_) (fun v cs1 hx => ?_)
  · simp only [hz] at hx
    obtain ⟨e1, rfl⟩ := hx
    cases e1
    exact ⟨rfl, rfl, rfl⟩
  · simp only [hz] at hx
    exact absurd hx.1 (by simp)
theorem d_Ip_cell_12 : decode prog_1_method_3_code 12 = .ok (.caload, 1) := zo_52 (zd_b zq_prog_1_method_3_code_0 12 rfl rfl rfl)
theorem d_Ip_cell_13 : decode prog_1_method_3_code 13 = .ok (.ireturn, 1) := zo_172 (zd_b zq_prog_1_method_3_code_0 13 rfl rfl rfl)
set_option maxHeartbeats 4000000 in
set_option maxRecDepth 100000 in
theorem C_Ip_cellN (g : zG) (a pa ta sa gs co fu la gy du re wm ac : Nat) (pa1 pa2 pa3 : Nat) (f sn : Nat → Int32) (qn : Nat → Nat) (p : Nat) (x y : Int32) (c : Nat) (hz : z_cl x y = some c) (hf : z_ch f) : CT g M_Ip_cell [.ref a, .int x, .int y] [(a, .inr (11, [.ref pa, .ref ta, .ref sa, .ref gs, .ref co, .ref fu, .ref la, .ref gy, .ref du, .ref re, .ref wm, .ref ac])), (pa, .inr (8, [.ref pa1, .ref pa2, .ref pa3, .int (nI p)])), (pa1, .inl (1, 108, .inl f)), (pa2, .inl (2, 108, .inl sn)), (pa3, .inl (0, 108, .inl (fun k => nI (qn k))))] (fun o cs1 => o = .inl (some (.int (f c))) ∧ cs1 = [(a, .inr (11, [.ref pa, .ref ta, .ref sa, .ref gs, .ref co, .ref fu, .ref la, .ref gy, .ref du, .ref re, .ref wm, .ref ac])), (pa, .inr (8, [.ref pa1, .ref pa2, .ref pa3, .int (nI p)])), (pa1, .inl (1, 108, .inl f)), (pa2, .inl (2, 108, .inl sn)), (pa3, .inl (0, 108, .inl (fun k => nI (qn k))))]) 1 6 := by
  refine z_of (by decide) rfl (Nat.le_of_ble_eq_true rfl) (fun w0 => ?_)
  refine r_lvE (lv2 := [(0, .ref a), (1, .int x), (2, .int y)]) rfl ?_
  have hc := z_cl_lt hz
  refine r_aload_n d_Ip_cell_0 rfl 0 rfl ?_
  refine r_get fs_Ip_10 d_Ip_cell_1 (q0 := 0) rfl rfl ?_
  refine r_get fs_Ip_106 d_Ip_cell_4 (q0 := 1) rfl rfl ?_
  refine r_iload_n d_Ip_cell_7 rfl 1 rfl ?_
  refine r_iload_n d_Ip_cell_8 rfl 2 rfl ?_
  refine r_callS (As := [.int x, .int y]) (rest := [.ref pa1]) (csC := []) (is := []) ln_Ip_114 w_st_Ip_cellAt ok_Ip_cell_Ip_cellAt d_Ip_cell_9 (C_Ip_cellAt g x y) rfl rfl (Nat.le_of_ble_eq_true rfl) rfl (by decide) (by omega) (by omega) (fun E cs1 hx => ?_) (fun v cs1 hx => ?_)
  · simp only [hz] at hx
    exact absurd hx.1 (by simp)
  · simp only [hz] at hx
    obtain ⟨e1, rfl⟩ := hx
    cases e1
    refine ⟨rfl, ?_⟩
    refine r_st (st2 := [.int (nI c), .ref pa1]) rfl ?_
    refine r_cs (cs2 := [(a, .inr (11, [.ref pa, .ref ta, .ref sa, .ref gs, .ref co, .ref fu, .ref la, .ref gy, .ref du, .ref re, .ref wm, .ref ac])), (pa, .inr (8, [.ref pa1, .ref pa2, .ref pa3, .int (nI p)])), (pa1, .inl (1, 108, .inl f)), (pa2, .inl (2, 108, .inl sn)), (pa3, .inl (0, 108, .inl (fun k => nI (qn k))))]) rfl ?_
    refine r_cald d_Ip_cell_12 (q0 := 2) rfl (vp_in_nI (by omega) (by omega)) (v := f c) (by rw [nI_clamp (by omega)]) ?_
    refine r_iret d_Ip_cell_13 rfl (congrArg Value.int (z_kind_c (hf c hc))) ?_
    exact ⟨rfl, rfl⟩
abbrev M_Ip_part : zM := (⟨"Ironpour", "part", "(I)I"⟩, prog_1_method_4_code, 3, (Option.some FieldType.int), 6, 100, [])
theorem d_Ip_part_0 : decode prog_1_method_4_code 0 = .ok (.iload_n 1, 1) := zo_27 (zd_b zq_prog_1_method_4_code_0 0 rfl rfl rfl)
theorem d_Ip_part_1 : decode prog_1_method_4_code 1 = .ok (.iconst 1, 1) := zo_4 (zd_b zq_prog_1_method_4_code_0 1 rfl rfl rfl)
theorem d_Ip_part_2 : decode prog_1_method_4_code 2 = .ok (.if_icmp .lt 9, 3) := zo_161 (d := 0) (e := 9) (zd_b zq_prog_1_method_4_code_0 2 rfl rfl rfl) (zd_b zq_prog_1_method_4_code_0 3 rfl rfl rfl) (zd_b zq_prog_1_method_4_code_0 4 rfl rfl rfl) (by decide +kernel)
theorem d_Ip_part_11 : decode prog_1_method_4_code 11 = .ok (.new 89, 3) := zo_187 (d := 0) (e := 89) (zd_b zq_prog_1_method_4_code_0 11 rfl rfl rfl) (zd_b zq_prog_1_method_4_code_0 12 rfl rfl rfl) (zd_b zq_prog_1_method_4_code_0 13 rfl rfl rfl)
theorem sr_Ip_118 : Cond.stringRef "Ironpour" 118 "the parting is above a row from 1 to 8" ∈ lw_tbl := z_tb4 (i := 43) rfl
theorem d_Ip_part_14 : decode prog_1_method_4_code 14 = .ok (.dup, 1) := zo_89 (zd_b zq_prog_1_method_4_code_0 14 rfl rfl rfl)
theorem d_Ip_part_15 : decode prog_1_method_4_code 15 = .ok (.ldc 118, 2) := zo_18 (d := 118) (zd_b zq_prog_1_method_4_code_0 15 rfl rfl rfl) (zd_b zq_prog_1_method_4_code_0 16 rfl rfl rfl)
theorem d_Ip_part_17 : decode prog_1_method_4_code 17 = .ok (.invokespecial 93, 3) := zo_183 (d := 0) (e := 93) (zd_b zq_prog_1_method_4_code_0 17 rfl rfl rfl) (zd_b zq_prog_1_method_4_code_0 18 rfl rfl rfl) (zd_b zq_prog_1_method_4_code_0 19 rfl rfl rfl)
theorem d_Ip_part_20 : decode prog_1_method_4_code 20 = .ok (.athrow, 1) := zo_191 (zd_b zq_prog_1_method_4_code_0 20 rfl rfl rfl)
theorem d_Ip_part_5 : decode prog_1_method_4_code 5 = .ok (.iload_n 1, 1) := zo_27 (zd_b zq_prog_1_method_4_code_0 5 rfl rfl rfl)
theorem d_Ip_part_6 : decode prog_1_method_4_code 6 = .ok (.bipush 9, 2) := zo_16 (d := 9) (zd_b zq_prog_1_method_4_code_0 6 rfl rfl rfl) (zd_b zq_prog_1_method_4_code_0 7 rfl rfl rfl) (by decide +kernel)
theorem d_Ip_part_8 : decode prog_1_method_4_code 8 = .ok (.if_icmp .lt 13, 3) := zo_161 (d := 0) (e := 13) (zd_b zq_prog_1_method_4_code_0 8 rfl rfl rfl) (zd_b zq_prog_1_method_4_code_0 9 rfl rfl rfl) (zd_b zq_prog_1_method_4_code_0 10 rfl rfl rfl) (by decide +kernel)
set_option maxHeartbeats 4000000 in
set_option maxRecDepth 100000 in
theorem C_Ip_partE (g : zG) (a pa ta sa gs co fu la gy du re wm ac : Nat) (pa1 pa2 pa3 : Nat) (f sn : Nat → Int32) (qn : Nat → Nat) (p : Nat) (r : Int32) (hr : r < 1 ∨ 9 ≤ r) : CT g M_Ip_part [.ref a, .int r] [(a, .inr (11, [.ref pa, .ref ta, .ref sa, .ref gs, .ref co, .ref fu, .ref la, .ref gy, .ref du, .ref re, .ref wm, .ref ac])), (pa, .inr (8, [.ref pa1, .ref pa2, .ref pa3, .int (nI p)])), (pa1, .inl (1, 108, .inl f)), (pa2, .inl (2, 108, .inl sn)), (pa3, .inl (0, 108, .inl (fun k => nI (qn k))))] (fun o cs1 => o = .inr "java/lang/IllegalArgumentException" ∧ cs1 = [(a, .inr (11, [.ref pa, .ref ta, .ref sa, .ref gs, .ref co, .ref fu, .ref la, .ref gy, .ref du, .ref re, .ref wm, .ref ac])), (pa, .inr (8, [.ref pa1, .ref pa2, .ref pa3, .int (nI p)])), (pa1, .inl (1, 108, .inl f)), (pa2, .inl (2, 108, .inl sn)), (pa3, .inl (0, 108, .inl (fun k => nI (qn k))))]) 1 6 := by
  refine z_of (by decide) rfl (Nat.le_of_ble_eq_true rfl) (fun w0 => ?_)
  refine r_lvE (lv2 := [(0, .ref a), (1, .int r)]) rfl ?_
  refine r_iload_n d_Ip_part_0 rfl 1 rfl ?_
  refine r_iconst d_Ip_part_1 (v := 1) (by decide) ?_
  refine r_icmp_lt (tgt := 11) d_Ip_part_2 (by decide) (fun c_2 => ?_) (fun c_2 => ?_)
  · refine r_throw tb_Ip_89_93 sr_Ip_118 d_Ip_part_11 d_Ip_part_14 d_Ip_part_15 d_Ip_part_17 d_Ip_part_20 rfl (by decide) (by decide) (Nat.le_of_ble_eq_true rfl) (by omega) (by omega) ?_
    exact ⟨rfl, rfl⟩
  · refine r_iload_n d_Ip_part_5 rfl 1 rfl ?_
    refine r_bipush d_Ip_part_6 (v := 9) (by decide) ?_
    refine r_icmp_lt (tgt := 21) d_Ip_part_8 (by decide) (fun c_8 => ?_) (fun c_8 => ?_)
    · exact absurd hr (fun q => q.elim c_2 (fun e => absurd c_8 (Int32.not_lt.mpr e)))
    · refine r_throw tb_Ip_89_93 sr_Ip_118 d_Ip_part_11 d_Ip_part_14 d_Ip_part_15 d_Ip_part_17 d_Ip_part_20 rfl (by decide) (by decide) (Nat.le_of_ble_eq_true rfl) (by omega) (by omega) ?_
      exact ⟨rfl, rfl⟩
theorem d_Ip_part_21 : decode prog_1_method_4_code 21 = .ok (.aload_n 0, 1) := zo_42 (zd_b zq_prog_1_method_4_code_0 21 rfl rfl rfl)
theorem d_Ip_part_22 : decode prog_1_method_4_code 22 = .ok (.getfield 10, 3) := zo_180 (d := 0) (e := 10) (zd_b zq_prog_1_method_4_code_0 22 rfl rfl rfl) (zd_b zq_prog_1_method_4_code_0 23 rfl rfl rfl) (zd_b zq_prog_1_method_4_code_0 24 rfl rfl rfl)
theorem d_Ip_part_25 : decode prog_1_method_4_code 25 = .ok (.getfield 120, 3) := zo_180 (d := 0) (e := 120) (zd_b zq_prog_1_method_4_code_0 25 rfl rfl rfl) (zd_b zq_prog_1_method_4_code_0 26 rfl rfl rfl) (zd_b zq_prog_1_method_4_code_0 27 rfl rfl rfl)
theorem fs_Ip_120 : z_fs "Ironpour" 120 8 3 := ⟨R_Pa, "Ironpour$Pattern", F_Pa, 4, rfl, u_Pa, by decide, Or.inr ⟨"Ironpour", z_mk1 (i := 58) rfl (by decide +kernel), rfl⟩⟩
theorem d_Ip_part_28 : decode prog_1_method_4_code 28 = .ok (.istore_n 2, 1) := zo_61 (zd_b zq_prog_1_method_4_code_0 28 rfl rfl rfl)
theorem d_Ip_part_29 : decode prog_1_method_4_code 29 = .ok (.aload_n 0, 1) := zo_42 (zd_b zq_prog_1_method_4_code_0 29 rfl rfl rfl)
theorem d_Ip_part_30 : decode prog_1_method_4_code 30 = .ok (.getfield 10, 3) := zo_180 (d := 0) (e := 10) (zd_b zq_prog_1_method_4_code_0 30 rfl rfl rfl) (zd_b zq_prog_1_method_4_code_0 31 rfl rfl rfl) (zd_b zq_prog_1_method_4_code_1 0 rfl rfl rfl)
theorem d_Ip_part_33 : decode prog_1_method_4_code 33 = .ok (.iload_n 1, 1) := zo_27 (zd_b zq_prog_1_method_4_code_1 1 rfl rfl rfl)
theorem d_Ip_part_34 : decode prog_1_method_4_code 34 = .ok (.putfield 120, 3) := zo_181 (d := 0) (e := 120) (zd_b zq_prog_1_method_4_code_1 2 rfl rfl rfl) (zd_b zq_prog_1_method_4_code_1 3 rfl rfl rfl) (zd_b zq_prog_1_method_4_code_1 4 rfl rfl rfl)
theorem fp_Ip_120 : z_fp "Ironpour" 120 8 3 false .int := ⟨R_Pa, "Ironpour$Pattern", F_Pa, 4, t_Pa, rfl, u_Pa, by decide, t_Pa_ok, n_Pa, rfl, rfl, Or.inr ⟨rfl, "Ironpour", z_mk1 (i := 58) rfl (by decide +kernel), rfl⟩⟩
theorem d_Ip_part_37 : decode prog_1_method_4_code 37 = .ok (.iload_n 2, 1) := zo_28 (zd_b zq_prog_1_method_4_code_1 5 rfl rfl rfl)
theorem d_Ip_part_38 : decode prog_1_method_4_code 38 = .ok (.ireturn, 1) := zo_172 (zd_b zq_prog_1_method_4_code_1 6 rfl rfl rfl)
set_option maxHeartbeats 4000000 in
set_option maxRecDepth 100000 in
theorem C_Ip_partN (g : zG) (a pa ta sa gs co fu la gy du re wm ac : Nat) (pa1 pa2 pa3 : Nat) (f sn : Nat → Int32) (qn : Nat → Nat) (p : Nat) (r : Int32) (hr : ¬ (r < 1 ∨ 9 ≤ r)) : CT g M_Ip_part [.ref a, .int r] [(a, .inr (11, [.ref pa, .ref ta, .ref sa, .ref gs, .ref co, .ref fu, .ref la, .ref gy, .ref du, .ref re, .ref wm, .ref ac])), (pa, .inr (8, [.ref pa1, .ref pa2, .ref pa3, .int (nI p)])), (pa1, .inl (1, 108, .inl f)), (pa2, .inl (2, 108, .inl sn)), (pa3, .inl (0, 108, .inl (fun k => nI (qn k))))] (fun o cs1 => o = .inl (some (.int (nI p))) ∧ cs1 = [(a, .inr (11, [.ref pa, .ref ta, .ref sa, .ref gs, .ref co, .ref fu, .ref la, .ref gy, .ref du, .ref re, .ref wm, .ref ac])), (pa, .inr (8, [.ref pa1, .ref pa2, .ref pa3, .int r])), (pa1, .inl (1, 108, .inl f)), (pa2, .inl (2, 108, .inl sn)), (pa3, .inl (0, 108, .inl (fun k => nI (qn k))))]) 1 6 := by
  refine z_of (by decide) rfl (Nat.le_of_ble_eq_true rfl) (fun w0 => ?_)
  refine r_lvE (lv2 := [(0, .ref a), (1, .int r)]) rfl ?_
  refine r_iload_n d_Ip_part_0 rfl 1 rfl ?_
  refine r_iconst d_Ip_part_1 (v := 1) (by decide) ?_
  refine r_icmp_lt (tgt := 11) d_Ip_part_2 (by decide) (fun c_2 => ?_) (fun c_2 => ?_)
  · exact absurd (Or.inl c_2) hr
  · refine r_iload_n d_Ip_part_5 rfl 1 rfl ?_
    refine r_bipush d_Ip_part_6 (v := 9) (by decide) ?_
    refine r_icmp_lt (tgt := 21) d_Ip_part_8 (by decide) (fun c_8 => ?_) (fun c_8 => ?_)
    · refine r_aload_n d_Ip_part_21 rfl 0 rfl ?_
      refine r_get fs_Ip_10 d_Ip_part_22 (q0 := 0) rfl rfl ?_
      refine r_get fs_Ip_120 d_Ip_part_25 (q0 := 1) rfl rfl ?_
      refine r_istore_n (lv' := [(2, .int (nI p)), (0, .ref a), (1, .int r)]) d_Ip_part_28 rfl (by decide) rfl ?_
      refine r_aload_n d_Ip_part_29 rfl 1 rfl ?_
      refine r_get fs_Ip_10 d_Ip_part_30 (q0 := 0) rfl rfl ?_
      refine r_iload_n d_Ip_part_33 rfl 2 rfl ?_
      refine r_put fp_Ip_120 d_Ip_part_34 (fun h => nomatch h) rfl rfl (q0 := 1) rfl (Nat.le_of_ble_eq_true rfl) (cs' := [(a, .inr (11, [.ref pa, .ref ta, .ref sa, .ref gs, .ref co, .ref fu, .ref la, .ref gy, .ref du, .ref re, .ref wm, .ref ac])), (pa, .inr (8, [.ref pa1, .ref pa2, .ref pa3, .int r])), (pa1, .inl (1, 108, .inl f)), (pa2, .inl (2, 108, .inl sn)), (pa3, .inl (0, 108, .inl (fun k => nI (qn k))))]) rfl ?_
      refine r_iload_n d_Ip_part_37 rfl 0 rfl ?_
      refine r_iret d_Ip_part_38 rfl rfl ?_
      exact ⟨rfl, rfl⟩
    · exact absurd (Or.inr (Int32.not_lt.mp c_8)) hr
abbrev M_Ip_speed : zM := (⟨"Ironpour", "speed", "()I"⟩, prog_1_method_10_code, 1, (Option.some FieldType.int), 6, 100, [])
theorem d_Ip_speed_0 : decode prog_1_method_10_code 0 = .ok (.aload_n 0, 1) := zo_42 (zd_b zq_prog_1_method_10_code_0 0 rfl rfl rfl)
theorem d_Ip_speed_1 : decode prog_1_method_10_code 1 = .ok (.getfield 10, 3) := zo_180 (d := 0) (e := 10) (zd_b zq_prog_1_method_10_code_0 1 rfl rfl rfl) (zd_b zq_prog_1_method_10_code_0 2 rfl rfl rfl) (zd_b zq_prog_1_method_10_code_0 3 rfl rfl rfl)
theorem d_Ip_speed_4 : decode prog_1_method_10_code 4 = .ok (.invokevirtual 147, 3) := zo_182 (d := 0) (e := 147) (zd_b zq_prog_1_method_10_code_0 4 rfl rfl rfl) (zd_b zq_prog_1_method_10_code_0 5 rfl rfl rfl) (zd_b zq_prog_1_method_10_code_0 6 rfl rfl rfl)
theorem ok_Ip_speed_Pa_gatesOnTop : z_ok M_Ip_speed M_Pa_gatesOnTop 0 := ⟨z_mj4 (i := 63) rfl (by decide +kernel), rfl, ⟨by decide +kernel, by decide +kernel, by decide +kernel⟩, ⟨by decide, by decide⟩, z_mj1 (i := 2) rfl (by decide +kernel), rfl⟩
theorem ln_Ip_147 : Cond.methodLink "Ironpour" 147 M_Pa_gatesOnTop.1 ∈ z_gw := z_mj4 (i := 60) rfl (by decide +kernel)
theorem d_Ip_speed_7 : decode prog_1_method_10_code 7 = .ok (.ifCond .ne 13, 3) := zo_154 (d := 0) (e := 13) (zd_b zq_prog_1_method_10_code_0 7 rfl rfl rfl) (zd_b zq_prog_1_method_10_code_0 8 rfl rfl rfl) (zd_b zq_prog_1_method_10_code_0 9 rfl rfl rfl) (by decide +kernel)
theorem d_Ip_speed_10 : decode prog_1_method_10_code 10 = .ok (.new 150, 3) := zo_187 (d := 0) (e := 150) (zd_b zq_prog_1_method_10_code_0 10 rfl rfl rfl) (zd_b zq_prog_1_method_10_code_0 11 rfl rfl rfl) (zd_b zq_prog_1_method_10_code_0 12 rfl rfl rfl)
theorem tb_Ip_150_154 : z_tbX "Ironpour" 150 154 "java/util/NoSuchElementException" := ⟨by decide +kernel, z_mj4 (i := 64) rfl (by decide +kernel), z_mj1 (i := 29) rfl (by decide +kernel), fun w h => ((z_at [(1, 21), (3, 163), (3, 172), (3, 180), (3, 183), (3, 185), (3, 164), (3, 165), (1, 44), (1, 45), (3, 166), (3, 171), (3, 181), (3, 201), (3, 153), (3, 202), (3, 155), (3, 203), (3, 157), (3, 167), (3, 169), (3, 159), (3, 197), (3, 198), (3, 200), (3, 159), (4, 75), (4, 76), (4, 77), (3, 191), (3, 145), (3, 191), (3, 192), (3, 193), (3, 194), (3, 147), (3, 194), (3, 195), (3, 196), (3, 197), (3, 149), (4, 74), (4, 65), (4, 66), (4, 67), (3, 179), (4, 68), (4, 69), (4, 70), (4, 71), (3, 162), (3, 161), (4, 72)] (by decide +kernel) (by decide +kernel) : ∀ w ∈ (zx_at "Ironpour" 154 "java/util/NoSuchElementException" 13 zx_rx "java/lang/RuntimeException" ["java/lang/Exception"]).filter vx_no, w ∈ lw_tbl ∧ (goodWord w || z_isN w) = true) w h).elim (fun h1 h2 => (Bool.or_eq_true _ _ ▸ h2).elim (fun h3 => Or.inl (List.mem_filter.mpr ⟨h1, h3⟩)) (fun h3 => Or.inr (List.mem_filter.mpr ⟨h1, h3⟩))), by decide +kernel⟩
theorem sr_Ip_152 : Cond.stringRef "Ironpour" 152 "no gate in the row 0" ∈ lw_tbl := z_tb4 (i := 73) rfl
theorem d_Ip_speed_13 : decode prog_1_method_10_code 13 = .ok (.dup, 1) := zo_89 (zd_b zq_prog_1_method_10_code_0 13 rfl rfl rfl)
theorem d_Ip_speed_14 : decode prog_1_method_10_code 14 = .ok (.ldc 152, 2) := zo_18 (d := 152) (zd_b zq_prog_1_method_10_code_0 14 rfl rfl rfl) (zd_b zq_prog_1_method_10_code_0 15 rfl rfl rfl)
theorem d_Ip_speed_16 : decode prog_1_method_10_code 16 = .ok (.invokespecial 154, 3) := zo_183 (d := 0) (e := 154) (zd_b zq_prog_1_method_10_code_0 16 rfl rfl rfl) (zd_b zq_prog_1_method_10_code_0 17 rfl rfl rfl) (zd_b zq_prog_1_method_10_code_0 18 rfl rfl rfl)
theorem d_Ip_speed_19 : decode prog_1_method_10_code 19 = .ok (.athrow, 1) := zo_191 (zd_b zq_prog_1_method_10_code_0 19 rfl rfl rfl)
set_option maxHeartbeats 4000000 in
set_option maxRecDepth 100000 in
theorem C_Ip_speedE (g : zG) (a pa ta sa gs co fu la gy du re wm ac : Nat) (pa1 pa2 pa3 : Nat) (f sn : Nat → Int32) (qn : Nat → Nat) (p : Nat) (hg : fa_cnt (fun k => decide (f k = 103)) 12 = 0) : CT g M_Ip_speed [.ref a] [(a, .inr (11, [.ref pa, .ref ta, .ref sa, .ref gs, .ref co, .ref fu, .ref la, .ref gy, .ref du, .ref re, .ref wm, .ref ac])), (pa, .inr (8, [.ref pa1, .ref pa2, .ref pa3, .int (nI p)])), (pa1, .inl (1, 108, .inl f)), (pa2, .inl (2, 108, .inl sn)), (pa3, .inl (0, 108, .inl (fun k => nI (qn k))))] (fun o cs1 => o = .inr "java/util/NoSuchElementException" ∧ cs1 = [(a, .inr (11, [.ref pa, .ref ta, .ref sa, .ref gs, .ref co, .ref fu, .ref la, .ref gy, .ref du, .ref re, .ref wm, .ref ac])), (pa, .inr (8, [.ref pa1, .ref pa2, .ref pa3, .int (nI p)])), (pa1, .inl (1, 108, .inl f)), (pa2, .inl (2, 108, .inl sn)), (pa3, .inl (0, 108, .inl (fun k => nI (qn k))))]) 1 6 := by
  refine z_of (by decide) rfl (Nat.le_of_ble_eq_true rfl) (fun w0 => ?_)
  refine r_lvE (lv2 := [(0, .ref a)]) rfl ?_
  refine r_aload_n d_Ip_speed_0 rfl 0 rfl ?_
  refine r_get fs_Ip_10 d_Ip_speed_1 (q0 := 0) rfl rfl ?_
  refine r_callV (As := []) (rest := []) (csC := [(pa, .inr (8, [.ref pa1, .ref pa2, .ref pa3, .int (nI p)])), (pa1, .inl (1, 108, .inl f)), (pa2, .inl (2, 108, .inl sn)), (pa3, .inl (0, 108, .inl (fun k => nI (qn k))))]) (is := [1, 2, 3, 4]) (q0 := 1) rfl rfl ln_Ip_147 w_im_Pa_gatesOnTop w_se_Pa_gatesOnTop ok_Ip_speed_Pa_gatesOnTop d_Ip_speed_4 (C_Pa_gatesOnTop g pa pa1 pa2 pa3 f sn (fun k => nI (qn k)) (nI p)) rfl rfl (Nat.le_of_ble_eq_true rfl) rfl (by decide) (by omega) (by omega) (fun E cs1 hx => ?_) (fun v cs1 hx => ?_)
  · exact absurd hx.1 (by simp)
  · obtain ⟨e1, rfl⟩ := hx
    cases e1
    refine ⟨rfl, ?_⟩
    refine r_st (st2 := [.int (nI (fa_cnt (fun k => decide (f k = 103)) 12))]) rfl ?_
    refine r_cs (cs2 := [(a, .inr (11, [.ref pa, .ref ta, .ref sa, .ref gs, .ref co, .ref fu, .ref la, .ref gy, .ref du, .ref re, .ref wm, .ref ac])), (pa, .inr (8, [.ref pa1, .ref pa2, .ref pa3, .int (nI p)])), (pa1, .inl (1, 108, .inl f)), (pa2, .inl (2, 108, .inl sn)), (pa3, .inl (0, 108, .inl (fun k => nI (qn k))))]) rfl ?_
    refine r_if_ne (tgt := 20) d_Ip_speed_7 (by decide) (fun c_7 => ?_) (fun c_7 => ?_)
    · exact absurd (by rw [hg]; rfl) c_7
    · refine r_throwX tb_Ip_150_154 sr_Ip_152 d_Ip_speed_10 d_Ip_speed_13 d_Ip_speed_14 d_Ip_speed_16 d_Ip_speed_19 rfl (by decide) (by decide) (Nat.le_of_ble_eq_true rfl) (by omega) (by omega) ?_
      exact ⟨rfl, rfl⟩
theorem d_Ip_speed_20 : decode prog_1_method_10_code 20 = .ok (.aload_n 0, 1) := zo_42 (zd_b zq_prog_1_method_10_code_0 20 rfl rfl rfl)
theorem d_Ip_speed_21 : decode prog_1_method_10_code 21 = .ok (.getfield 10, 3) := zo_180 (d := 0) (e := 10) (zd_b zq_prog_1_method_10_code_0 21 rfl rfl rfl) (zd_b zq_prog_1_method_10_code_0 22 rfl rfl rfl) (zd_b zq_prog_1_method_10_code_0 23 rfl rfl rfl)
theorem d_Ip_speed_24 : decode prog_1_method_10_code 24 = .ok (.invokevirtual 155, 3) := zo_182 (d := 0) (e := 155) (zd_b zq_prog_1_method_10_code_0 24 rfl rfl rfl) (zd_b zq_prog_1_method_10_code_0 25 rfl rfl rfl) (zd_b zq_prog_1_method_10_code_0 26 rfl rfl rfl)
theorem ok_Ip_speed_Pa_runningSpeed : z_ok M_Ip_speed M_Pa_runningSpeed 0 := ⟨z_mj4 (i := 83) rfl (by decide +kernel), rfl, ⟨by decide +kernel, by decide +kernel, by decide +kernel⟩, ⟨by decide, by decide⟩, z_mj1 (i := 2) rfl (by decide +kernel), rfl⟩
theorem ln_Ip_155 : Cond.methodLink "Ironpour" 155 M_Pa_runningSpeed.1 ∈ z_gw := z_mj4 (i := 80) rfl (by decide +kernel)
theorem d_Ip_speed_27 : decode prog_1_method_10_code 27 = .ok (.ireturn, 1) := zo_172 (zd_b zq_prog_1_method_10_code_0 27 rfl rfl rfl)
set_option maxHeartbeats 4000000 in
set_option maxRecDepth 100000 in
theorem C_Ip_speedN (g : zG) (a pa ta sa gs co fu la gy du re wm ac : Nat) (pa1 pa2 pa3 : Nat) (f sn : Nat → Int32) (qn : Nat → Nat) (p : Nat) (hg : ¬ fa_cnt (fun k => decide (f k = 103)) 12 = 0) : CT g M_Ip_speed [.ref a] [(a, .inr (11, [.ref pa, .ref ta, .ref sa, .ref gs, .ref co, .ref fu, .ref la, .ref gy, .ref du, .ref re, .ref wm, .ref ac])), (pa, .inr (8, [.ref pa1, .ref pa2, .ref pa3, .int (nI p)])), (pa1, .inl (1, 108, .inl f)), (pa2, .inl (2, 108, .inl sn)), (pa3, .inl (0, 108, .inl (fun k => nI (qn k))))] (fun o cs1 => o = .inl (some (.int (rsR f))) ∧ cs1 = [(a, .inr (11, [.ref pa, .ref ta, .ref sa, .ref gs, .ref co, .ref fu, .ref la, .ref gy, .ref du, .ref re, .ref wm, .ref ac])), (pa, .inr (8, [.ref pa1, .ref pa2, .ref pa3, .int (nI p)])), (pa1, .inl (1, 108, .inl f)), (pa2, .inl (2, 108, .inl sn)), (pa3, .inl (0, 108, .inl (fun k => nI (qn k))))]) 1 6 := by
  refine z_of (by decide) rfl (Nat.le_of_ble_eq_true rfl) (fun w0 => ?_)
  refine r_lvE (lv2 := [(0, .ref a)]) rfl ?_
  refine r_aload_n d_Ip_speed_0 rfl 0 rfl ?_
  refine r_get fs_Ip_10 d_Ip_speed_1 (q0 := 0) rfl rfl ?_
  refine r_callV (As := []) (rest := []) (csC := [(pa, .inr (8, [.ref pa1, .ref pa2, .ref pa3, .int (nI p)])), (pa1, .inl (1, 108, .inl f)), (pa2, .inl (2, 108, .inl sn)), (pa3, .inl (0, 108, .inl (fun k => nI (qn k))))]) (is := [1, 2, 3, 4]) (q0 := 1) rfl rfl ln_Ip_147 w_im_Pa_gatesOnTop w_se_Pa_gatesOnTop ok_Ip_speed_Pa_gatesOnTop d_Ip_speed_4 (C_Pa_gatesOnTop g pa pa1 pa2 pa3 f sn (fun k => nI (qn k)) (nI p)) rfl rfl (Nat.le_of_ble_eq_true rfl) rfl (by decide) (by omega) (by omega) (fun E cs1 hx => ?_) (fun v cs1 hx => ?_)
  · exact absurd hx.1 (by simp)
  · obtain ⟨e1, rfl⟩ := hx
    cases e1
    refine ⟨rfl, ?_⟩
    refine r_st (st2 := [.int (nI (fa_cnt (fun k => decide (f k = 103)) 12))]) rfl ?_
    refine r_cs (cs2 := [(a, .inr (11, [.ref pa, .ref ta, .ref sa, .ref gs, .ref co, .ref fu, .ref la, .ref gy, .ref du, .ref re, .ref wm, .ref ac])), (pa, .inr (8, [.ref pa1, .ref pa2, .ref pa3, .int (nI p)])), (pa1, .inl (1, 108, .inl f)), (pa2, .inl (2, 108, .inl sn)), (pa3, .inl (0, 108, .inl (fun k => nI (qn k))))]) rfl ?_
    refine r_if_ne (tgt := 20) d_Ip_speed_7 (by decide) (fun c_7 => ?_) (fun c_7 => ?_)
    · refine r_aload_n d_Ip_speed_20 rfl 0 rfl ?_
      refine r_get fs_Ip_10 d_Ip_speed_21 (q0 := 0) rfl rfl ?_
      refine r_callV (As := []) (rest := []) (csC := [(pa, .inr (8, [.ref pa1, .ref pa2, .ref pa3, .int (nI p)])), (pa1, .inl (1, 108, .inl f)), (pa2, .inl (2, 108, .inl sn)), (pa3, .inl (0, 108, .inl (fun k => nI (qn k))))]) (is := [1, 2, 3, 4]) (q0 := 1) rfl rfl ln_Ip_155 w_im_Pa_runningSpeed w_se_Pa_runningSpeed ok_Ip_speed_Pa_runningSpeed d_Ip_speed_24 (C_Pa_runningSpeed g pa pa1 pa2 pa3 f sn (fun k => nI (qn k)) (nI p)) rfl rfl (Nat.le_of_ble_eq_true rfl) rfl (by decide) (by omega) (by omega) (fun E cs1 hx => ?_) (fun v cs1 hx => ?_)
      · exact absurd hx.1 (by simp)
      · obtain ⟨e1, rfl⟩ := hx
        cases e1
        refine ⟨rfl, ?_⟩
        refine r_st (st2 := [.int (rsR f)]) rfl ?_
        refine r_cs (cs2 := [(a, .inr (11, [.ref pa, .ref ta, .ref sa, .ref gs, .ref co, .ref fu, .ref la, .ref gy, .ref du, .ref re, .ref wm, .ref ac])), (pa, .inr (8, [.ref pa1, .ref pa2, .ref pa3, .int (nI p)])), (pa1, .inl (1, 108, .inl f)), (pa2, .inl (2, 108, .inl sn)), (pa3, .inl (0, 108, .inl (fun k => nI (qn k))))]) rfl ?_
        refine r_iret d_Ip_speed_27 rfl rfl ?_
        exact ⟨rfl, rfl⟩
    · exact absurd (z_eqn (b := 0) (by have := fa_cnt_le (fun k => decide (f k = 103)) 12; omega) (by decide) c_7) hg
abbrev M_Ip_filledIn : zM := (⟨"Ironpour", "filledIn", "(II)I"⟩, prog_1_method_9_code, 4, (Option.some FieldType.int), 7, 121, [])
theorem d_Ip_filledIn_0 : decode prog_1_method_9_code 0 = .ok (.iload_n 1, 1) := zo_27 (zd_b zq_prog_1_method_9_code_0 0 rfl rfl rfl)
theorem d_Ip_filledIn_1 : decode prog_1_method_9_code 1 = .ok (.iload_n 2, 1) := zo_28 (zd_b zq_prog_1_method_9_code_0 1 rfl rfl rfl)
theorem d_Ip_filledIn_2 : decode prog_1_method_9_code 2 = .ok (.invokestatic 114, 3) := zo_184 (d := 0) (e := 114) (zd_b zq_prog_1_method_9_code_0 2 rfl rfl rfl) (zd_b zq_prog_1_method_9_code_0 3 rfl rfl rfl) (zd_b zq_prog_1_method_9_code_0 4 rfl rfl rfl)
theorem ok_Ip_filledIn_Ip_cellAt : z_ok M_Ip_filledIn M_Ip_cellAt 2 := ⟨z_mj4 (i := 22) rfl (by decide +kernel), rfl, ⟨by decide +kernel, by decide +kernel, by decide +kernel⟩, ⟨by decide, by decide⟩, z_mj1 (i := 1) rfl (by decide +kernel), rfl⟩
set_option maxHeartbeats 4000000 in
set_option maxRecDepth 100000 in
theorem C_Ip_filledInE (g : zG) (a pa ta sa gs co fu la gy du re wm ac : Nat) (ta1 ta2 taz taz1 taz2 taz3 taz4 taz5 taz6 ta4 ta5 ta6 : Nat) (X : zTr) (x y : Int32) (hz : z_cl x y = none) : CT g M_Ip_filledIn [.ref a, .int x, .int y] [(a, .inr (11, [.ref pa, .ref ta, .ref sa, .ref gs, .ref co, .ref fu, .ref la, .ref gy, .ref du, .ref re, .ref wm, .ref ac])), (ta, .inr (10, [.ref ta1, .ref ta2, .ref taz, .ref ta4, .ref ta5, .ref ta6, .int X.1.2.2.1, .int X.1.2.2.2])), (ta1, .inl (1, 108, .inl X.1.1)), (ta2, .inl (0, 108, .inl X.1.2.1)), (taz, .inr (2, [.ref taz1, .ref taz2, .ref taz3, .ref taz4, .ref taz5, .ref taz6, .int X.2.1.1.1.2.2.2])), (taz1, .inl (0, 108, .inl X.2.1.1.1.1)), (taz2, .inl (0, 108, .inl X.2.1.1.2)), (taz3, .inl (0, 108, .inl X.2.1.1.1.2.1)), (taz4, .inl (0, 108, .inl X.2.1.1.1.2.2.1)), (taz5, .inl (0, 108, .inl X.2.1.2.1)), (taz6, .inl (0, 108, .inl X.2.1.2.2)), (ta4, .inl (2, 108, .inl X.2.2.1)), (ta5, .inl (2, 108, .inl X.2.2.2.1)), (ta6, .inl (0, 108, .inl (fun k => nI (X.2.2.2.2 k))))] (fun o cs1 => o = .inr "java/lang/IndexOutOfBoundsException" ∧ cs1 = [(a, .inr (11, [.ref pa, .ref ta, .ref sa, .ref gs, .ref co, .ref fu, .ref la, .ref gy, .ref du, .ref re, .ref wm, .ref ac])), (ta, .inr (10, [.ref ta1, .ref ta2, .ref taz, .ref ta4, .ref ta5, .ref ta6, .int X.1.2.2.1, .int X.1.2.2.2])), (ta1, .inl (1, 108, .inl X.1.1)), (ta2, .inl (0, 108, .inl X.1.2.1)), (taz, .inr (2, [.ref taz1, .ref taz2, .ref taz3, .ref taz4, .ref taz5, .ref taz6, .int X.2.1.1.1.2.2.2])), (taz1, .inl (0, 108, .inl X.2.1.1.1.1)), (taz2, .inl (0, 108, .inl X.2.1.1.2)), (taz3, .inl (0, 108, .inl X.2.1.1.1.2.1)), (taz4, .inl (0, 108, .inl X.2.1.1.1.2.2.1)), (taz5, .inl (0, 108, .inl X.2.1.2.1)), (taz6, .inl (0, 108, .inl X.2.1.2.2)), (ta4, .inl (2, 108, .inl X.2.2.1)), (ta5, .inl (2, 108, .inl X.2.2.2.1)), (ta6, .inl (0, 108, .inl (fun k => nI (X.2.2.2.2 k))))]) 1 6 := by
  refine z_of (by decide) rfl (Nat.le_of_ble_eq_true rfl) (fun w0 => ?_)
  refine r_lvE (lv2 := [(0, .ref a), (1, .int x), (2, .int y)]) rfl ?_
  refine r_iload_n d_Ip_filledIn_0 rfl 1 rfl ?_
  refine r_iload_n d_Ip_filledIn_1 rfl 2 rfl ?_
  refine r_callS (As := [.int x, .int y]) (rest := []) (csC := []) (is := []) ln_Ip_114 w_st_Ip_cellAt ok_Ip_filledIn_Ip_cellAt d_Ip_filledIn_2 (C_Ip_cellAt g x y) rfl rfl (Nat.le_of_ble_eq_true rfl) rfl (by decide) (by omega) (by omega) (fun E cs1 hx => ?_) (fun v cs1 hx => ?_)
  · simp only [hz] at hx
    obtain ⟨e1, rfl⟩ := hx
    cases e1
    exact ⟨rfl, rfl, rfl⟩
  · simp only [hz] at hx
    exact absurd hx.1 (by simp)
theorem d_Ip_filledIn_5 : decode prog_1_method_9_code 5 = .ok (.istore_n 3, 1) := zo_62 (zd_b zq_prog_1_method_9_code_0 5 rfl rfl rfl)
theorem d_Ip_filledIn_6 : decode prog_1_method_9_code 6 = .ok (.aload_n 0, 1) := zo_42 (zd_b zq_prog_1_method_9_code_0 6 rfl rfl rfl)
theorem d_Ip_filledIn_7 : decode prog_1_method_9_code 7 = .ok (.getfield 19, 3) := zo_180 (d := 0) (e := 19) (zd_b zq_prog_1_method_9_code_0 7 rfl rfl rfl) (zd_b zq_prog_1_method_9_code_0 8 rfl rfl rfl) (zd_b zq_prog_1_method_9_code_0 9 rfl rfl rfl)
theorem fs_Ip_19 : z_fs "Ironpour" 19 11 1 := ⟨R_Ip, "Ironpour", F_Ip, 12, rfl, u_Ip, by decide, Or.inl ⟨z_mj2 (i := 64) rfl (by decide +kernel), Or.inl rfl⟩⟩
theorem d_Ip_filledIn_10 : decode prog_1_method_9_code 10 = .ok (.invokevirtual 140, 3) := zo_182 (d := 0) (e := 140) (zd_b zq_prog_1_method_9_code_0 10 rfl rfl rfl) (zd_b zq_prog_1_method_9_code_0 11 rfl rfl rfl) (zd_b zq_prog_1_method_9_code_0 12 rfl rfl rfl)
theorem ok_Ip_filledIn_Tr_fill : z_ok M_Ip_filledIn M_Tr_fill 0 := ⟨z_mj2 (i := 212) rfl (by decide +kernel), rfl, ⟨by decide +kernel, by decide +kernel, by decide +kernel⟩, ⟨by decide, by decide⟩, z_mj1 (i := 3) rfl (by decide +kernel), rfl⟩
theorem ln_Ip_140 : Cond.methodLink "Ironpour" 140 M_Tr_fill.1 ∈ z_gw := z_mj4 (i := 51) rfl (by decide +kernel)
theorem d_Ip_filledIn_13 : decode prog_1_method_9_code 13 = .ok (.aload_n 0, 1) := zo_42 (zd_b zq_prog_1_method_9_code_0 13 rfl rfl rfl)
theorem d_Ip_filledIn_14 : decode prog_1_method_9_code 14 = .ok (.getfield 19, 3) := zo_180 (d := 0) (e := 19) (zd_b zq_prog_1_method_9_code_0 14 rfl rfl rfl) (zd_b zq_prog_1_method_9_code_0 15 rfl rfl rfl) (zd_b zq_prog_1_method_9_code_0 16 rfl rfl rfl)
theorem d_Ip_filledIn_17 : decode prog_1_method_9_code 17 = .ok (.getfield 143, 3) := zo_180 (d := 0) (e := 143) (zd_b zq_prog_1_method_9_code_0 17 rfl rfl rfl) (zd_b zq_prog_1_method_9_code_0 18 rfl rfl rfl) (zd_b zq_prog_1_method_9_code_0 19 rfl rfl rfl)
theorem fs_Ip_143 : z_fs "Ironpour" 143 10 1 := ⟨R_Tr, "Ironpour$Trial", F_Tr, 8, rfl, u_Tr, by decide, Or.inr ⟨"Ironpour", z_mk1 (i := 112) rfl (by decide +kernel), rfl⟩⟩
theorem d_Ip_filledIn_20 : decode prog_1_method_9_code 20 = .ok (.iload_n 3, 1) := zo_29 (zd_b zq_prog_1_method_9_code_0 20 rfl rfl rfl)
theorem d_Ip_filledIn_21 : decode prog_1_method_9_code 21 = .ok (.iaload, 1) := zo_46 (zd_b zq_prog_1_method_9_code_0 21 rfl rfl rfl)
theorem d_Ip_filledIn_22 : decode prog_1_method_9_code 22 = .ok (.ireturn, 1) := zo_172 (zd_b zq_prog_1_method_9_code_0 22 rfl rfl rfl)
set_option maxHeartbeats 4000000 in
set_option maxRecDepth 100000 in
theorem C_Ip_filledInN (g : zG) (a pa ta sa gs co fu la gy du re wm ac : Nat) (ta1 ta2 taz taz1 taz2 taz3 taz4 taz5 taz6 ta4 ta5 ta6 : Nat) (X : zTr) (x y : Int32) (c : Nat) (hz : z_cl x y = some c) : CT g M_Ip_filledIn [.ref a, .int x, .int y] [(a, .inr (11, [.ref pa, .ref ta, .ref sa, .ref gs, .ref co, .ref fu, .ref la, .ref gy, .ref du, .ref re, .ref wm, .ref ac])), (ta, .inr (10, [.ref ta1, .ref ta2, .ref taz, .ref ta4, .ref ta5, .ref ta6, .int X.1.2.2.1, .int X.1.2.2.2])), (ta1, .inl (1, 108, .inl X.1.1)), (ta2, .inl (0, 108, .inl X.1.2.1)), (taz, .inr (2, [.ref taz1, .ref taz2, .ref taz3, .ref taz4, .ref taz5, .ref taz6, .int X.2.1.1.1.2.2.2])), (taz1, .inl (0, 108, .inl X.2.1.1.1.1)), (taz2, .inl (0, 108, .inl X.2.1.1.2)), (taz3, .inl (0, 108, .inl X.2.1.1.1.2.1)), (taz4, .inl (0, 108, .inl X.2.1.1.1.2.2.1)), (taz5, .inl (0, 108, .inl X.2.1.2.1)), (taz6, .inl (0, 108, .inl X.2.1.2.2)), (ta4, .inl (2, 108, .inl X.2.2.1)), (ta5, .inl (2, 108, .inl X.2.2.2.1)), (ta6, .inl (0, 108, .inl (fun k => nI (X.2.2.2.2 k))))] (fun o cs1 => o = .inl (some (.int ((flT X).1.2.1 c))) ∧ cs1 = [(a, .inr (11, [.ref pa, .ref ta, .ref sa, .ref gs, .ref co, .ref fu, .ref la, .ref gy, .ref du, .ref re, .ref wm, .ref ac])), (ta, .inr (10, [.ref ta1, .ref ta2, .ref taz, .ref ta4, .ref ta5, .ref ta6, .int ((flT X).1.2.2.1), .int ((flT X).1.2.2.2)])), (ta1, .inl (1, 108, .inl ((flT X).1.1))), (ta2, .inl (0, 108, .inl ((flT X).1.2.1))), (taz, .inr (2, [.ref taz1, .ref taz2, .ref taz3, .ref taz4, .ref taz5, .ref taz6, .int ((flT X).2.1.1.1.2.2.2)])), (taz1, .inl (0, 108, .inl ((flT X).2.1.1.1.1))), (taz2, .inl (0, 108, .inl ((flT X).2.1.1.2))), (taz3, .inl (0, 108, .inl ((flT X).2.1.1.1.2.1))), (taz4, .inl (0, 108, .inl ((flT X).2.1.1.1.2.2.1))), (taz5, .inl (0, 108, .inl ((flT X).2.1.2.1))), (taz6, .inl (0, 108, .inl ((flT X).2.1.2.2))), (ta4, .inl (2, 108, .inl ((flT X).2.2.1))), (ta5, .inl (2, 108, .inl ((flT X).2.2.2.1))), (ta6, .inl (0, 108, .inl (fun k => nI ((flT X).2.2.2.2 k))))]) 1 6 := by
  refine z_of (by decide) rfl (Nat.le_of_ble_eq_true rfl) (fun w0 => ?_)
  refine r_lvE (lv2 := [(0, .ref a), (1, .int x), (2, .int y)]) rfl ?_
  have hc := z_cl_lt hz
  refine r_iload_n d_Ip_filledIn_0 rfl 1 rfl ?_
  refine r_iload_n d_Ip_filledIn_1 rfl 2 rfl ?_
  refine r_callS (As := [.int x, .int y]) (rest := []) (csC := []) (is := []) ln_Ip_114 w_st_Ip_cellAt ok_Ip_filledIn_Ip_cellAt d_Ip_filledIn_2 (C_Ip_cellAt g x y) rfl rfl (Nat.le_of_ble_eq_true rfl) rfl (by decide) (by omega) (by omega) (fun E cs1 hx => ?_) (fun v cs1 hx => ?_)
  · simp only [hz] at hx
    exact absurd hx.1 (by simp)
  · simp only [hz] at hx
    obtain ⟨e1, rfl⟩ := hx
    cases e1
    refine ⟨rfl, ?_⟩
    refine r_st (st2 := [.int (nI c)]) rfl ?_
    refine r_cs (cs2 := [(a, .inr (11, [.ref pa, .ref ta, .ref sa, .ref gs, .ref co, .ref fu, .ref la, .ref gy, .ref du, .ref re, .ref wm, .ref ac])), (ta, .inr (10, [.ref ta1, .ref ta2, .ref taz, .ref ta4, .ref ta5, .ref ta6, .int X.1.2.2.1, .int X.1.2.2.2])), (ta1, .inl (1, 108, .inl X.1.1)), (ta2, .inl (0, 108, .inl X.1.2.1)), (taz, .inr (2, [.ref taz1, .ref taz2, .ref taz3, .ref taz4, .ref taz5, .ref taz6, .int X.2.1.1.1.2.2.2])), (taz1, .inl (0, 108, .inl X.2.1.1.1.1)), (taz2, .inl (0, 108, .inl X.2.1.1.2)), (taz3, .inl (0, 108, .inl X.2.1.1.1.2.1)), (taz4, .inl (0, 108, .inl X.2.1.1.1.2.2.1)), (taz5, .inl (0, 108, .inl X.2.1.2.1)), (taz6, .inl (0, 108, .inl X.2.1.2.2)), (ta4, .inl (2, 108, .inl X.2.2.1)), (ta5, .inl (2, 108, .inl X.2.2.2.1)), (ta6, .inl (0, 108, .inl (fun k => nI (X.2.2.2.2 k))))]) rfl ?_
    refine r_istore_n (lv' := [(3, .int (nI c)), (0, .ref a), (1, .int x), (2, .int y)]) d_Ip_filledIn_5 rfl (by decide) rfl ?_
    refine r_aload_n d_Ip_filledIn_6 rfl 1 rfl ?_
    refine r_get fs_Ip_19 d_Ip_filledIn_7 (q0 := 0) rfl rfl ?_
    refine r_callV (As := []) (rest := []) (csC := [(ta, .inr (10, [.ref ta1, .ref ta2, .ref taz, .ref ta4, .ref ta5, .ref ta6, .int X.1.2.2.1, .int X.1.2.2.2])), (ta1, .inl (1, 108, .inl X.1.1)), (ta2, .inl (0, 108, .inl X.1.2.1))]) (is := [1, 2, 3]) (q0 := 1) rfl rfl ln_Ip_140 w_im_Tr_fill w_se_Tr_fill ok_Ip_filledIn_Tr_fill d_Ip_filledIn_10 (C_Tr_fillU g ta ta1 ta2 taz ta4 ta5 ta6 X.1.2.2.1 X.1.2.2.2 X.1.1 X.1.2.1) rfl rfl (Nat.le_of_ble_eq_true rfl) rfl (by decide) (by omega) (by omega) (fun E cs1 hx => ?_) (fun v cs1 hx => ?_)
    · exact absurd hx.1 (by simp)
    · obtain ⟨e1, rfl⟩ := hx
      cases e1
      refine ⟨rfl, ?_⟩
      refine r_st (st2 := []) rfl ?_
      refine r_cs (cs2 := [(a, .inr (11, [.ref pa, .ref ta, .ref sa, .ref gs, .ref co, .ref fu, .ref la, .ref gy, .ref du, .ref re, .ref wm, .ref ac])), (ta, .inr (10, [.ref ta1, .ref ta2, .ref taz, .ref ta4, .ref ta5, .ref ta6, .int ((flT X).1.2.2.1), .int ((flT X).1.2.2.2)])), (ta1, .inl (1, 108, .inl ((flT X).1.1))), (ta2, .inl (0, 108, .inl ((flT X).1.2.1))), (taz, .inr (2, [.ref taz1, .ref taz2, .ref taz3, .ref taz4, .ref taz5, .ref taz6, .int X.2.1.1.1.2.2.2])), (taz1, .inl (0, 108, .inl X.2.1.1.1.1)), (taz2, .inl (0, 108, .inl X.2.1.1.2)), (taz3, .inl (0, 108, .inl X.2.1.1.1.2.1)), (taz4, .inl (0, 108, .inl X.2.1.1.1.2.2.1)), (taz5, .inl (0, 108, .inl X.2.1.2.1)), (taz6, .inl (0, 108, .inl X.2.1.2.2)), (ta4, .inl (2, 108, .inl X.2.2.1)), (ta5, .inl (2, 108, .inl X.2.2.2.1)), (ta6, .inl (0, 108, .inl (fun k => nI (X.2.2.2.2 k))))]) rfl ?_
      refine r_aload_n d_Ip_filledIn_13 rfl 1 rfl ?_
      refine r_get fs_Ip_19 d_Ip_filledIn_14 (q0 := 0) rfl rfl ?_
      refine r_get fs_Ip_143 d_Ip_filledIn_17 (q0 := 1) rfl rfl ?_
      refine r_iload_n d_Ip_filledIn_20 rfl 0 rfl ?_
      refine r_iald d_Ip_filledIn_21 (q0 := 3) rfl (vp_in_nI (by omega) (by omega)) (v := ((flT X).1.2.1) c) (by rw [nI_clamp (by omega)]) ?_
      refine r_iret d_Ip_filledIn_22 rfl rfl ?_
      exact ⟨rfl, rfl⟩
abbrev M_Ip_frozenIn : zM := (⟨"Ironpour", "frozenIn", "(III)I"⟩, prog_1_method_11_code, 5, (Option.some FieldType.int), 7, 136, [])
theorem d_Ip_frozenIn_0 : decode prog_1_method_11_code 0 = .ok (.iload_n 1, 1) := zo_27 (zd_b zq_prog_1_method_11_code_0 0 rfl rfl rfl)
theorem d_Ip_frozenIn_1 : decode prog_1_method_11_code 1 = .ok (.iload_n 2, 1) := zo_28 (zd_b zq_prog_1_method_11_code_0 1 rfl rfl rfl)
theorem d_Ip_frozenIn_2 : decode prog_1_method_11_code 2 = .ok (.invokestatic 114, 3) := zo_184 (d := 0) (e := 114) (zd_b zq_prog_1_method_11_code_0 2 rfl rfl rfl) (zd_b zq_prog_1_method_11_code_0 3 rfl rfl rfl) (zd_b zq_prog_1_method_11_code_0 4 rfl rfl rfl)
theorem ok_Ip_frozenIn_Ip_cellAt : z_ok M_Ip_frozenIn M_Ip_cellAt 2 := ⟨z_mj4 (i := 22) rfl (by decide +kernel), rfl, ⟨by decide +kernel, by decide +kernel, by decide +kernel⟩, ⟨by decide, by decide⟩, z_mj1 (i := 1) rfl (by decide +kernel), rfl⟩
set_option maxHeartbeats 4000000 in
set_option maxRecDepth 100000 in
theorem C_Ip_frozenInE (g : zG) (a pa ta sa gs co fu la gy du re wm ac : Nat) (ta1 ta2 taz taz1 taz2 taz3 taz4 taz5 taz6 ta4 ta5 ta6 : Nat) (X : zTr) (x y : Int32) (h : Int32) (hz : z_cl x y = none) : CT g M_Ip_frozenIn [.ref a, .int x, .int y, .int h] [(a, .inr (11, [.ref pa, .ref ta, .ref sa, .ref gs, .ref co, .ref fu, .ref la, .ref gy, .ref du, .ref re, .ref wm, .ref ac])), (ta, .inr (10, [.ref ta1, .ref ta2, .ref taz, .ref ta4, .ref ta5, .ref ta6, .int X.1.2.2.1, .int X.1.2.2.2])), (ta1, .inl (1, 108, .inl X.1.1)), (ta2, .inl (0, 108, .inl X.1.2.1)), (taz, .inr (2, [.ref taz1, .ref taz2, .ref taz3, .ref taz4, .ref taz5, .ref taz6, .int X.2.1.1.1.2.2.2])), (taz1, .inl (0, 108, .inl X.2.1.1.1.1)), (taz2, .inl (0, 108, .inl X.2.1.1.2)), (taz3, .inl (0, 108, .inl X.2.1.1.1.2.1)), (taz4, .inl (0, 108, .inl X.2.1.1.1.2.2.1)), (taz5, .inl (0, 108, .inl X.2.1.2.1)), (taz6, .inl (0, 108, .inl X.2.1.2.2)), (ta4, .inl (2, 108, .inl X.2.2.1)), (ta5, .inl (2, 108, .inl X.2.2.2.1)), (ta6, .inl (0, 108, .inl (fun k => nI (X.2.2.2.2 k))))] (fun o cs1 => o = .inr "java/lang/IndexOutOfBoundsException" ∧ cs1 = [(a, .inr (11, [.ref pa, .ref ta, .ref sa, .ref gs, .ref co, .ref fu, .ref la, .ref gy, .ref du, .ref re, .ref wm, .ref ac])), (ta, .inr (10, [.ref ta1, .ref ta2, .ref taz, .ref ta4, .ref ta5, .ref ta6, .int X.1.2.2.1, .int X.1.2.2.2])), (ta1, .inl (1, 108, .inl X.1.1)), (ta2, .inl (0, 108, .inl X.1.2.1)), (taz, .inr (2, [.ref taz1, .ref taz2, .ref taz3, .ref taz4, .ref taz5, .ref taz6, .int X.2.1.1.1.2.2.2])), (taz1, .inl (0, 108, .inl X.2.1.1.1.1)), (taz2, .inl (0, 108, .inl X.2.1.1.2)), (taz3, .inl (0, 108, .inl X.2.1.1.1.2.1)), (taz4, .inl (0, 108, .inl X.2.1.1.1.2.2.1)), (taz5, .inl (0, 108, .inl X.2.1.2.1)), (taz6, .inl (0, 108, .inl X.2.1.2.2)), (ta4, .inl (2, 108, .inl X.2.2.1)), (ta5, .inl (2, 108, .inl X.2.2.2.1)), (ta6, .inl (0, 108, .inl (fun k => nI (X.2.2.2.2 k))))]) 2 12 := by
  refine z_of (by decide) rfl (Nat.le_of_ble_eq_true rfl) (fun w0 => ?_)
  refine r_lvE (lv2 := [(0, .ref a), (1, .int x), (2, .int y), (3, .int h)]) rfl ?_
  refine r_iload_n d_Ip_frozenIn_0 rfl 1 rfl ?_
  refine r_iload_n d_Ip_frozenIn_1 rfl 2 rfl ?_
  refine r_callS (As := [.int x, .int y]) (rest := []) (csC := []) (is := []) ln_Ip_114 w_st_Ip_cellAt ok_Ip_frozenIn_Ip_cellAt d_Ip_frozenIn_2 (C_Ip_cellAt g x y) rfl rfl (Nat.le_of_ble_eq_true rfl) rfl (by decide) (by omega) (by omega) (fun E cs1 hx => ?_) (fun v cs1 hx => ?_)
  · simp only [hz] at hx
    obtain ⟨e1, rfl⟩ := hx
    cases e1
    exact ⟨rfl, rfl, rfl⟩
  · simp only [hz] at hx
    exact absurd hx.1 (by simp)
theorem d_Ip_frozenIn_5 : decode prog_1_method_11_code 5 = .ok (.istore 4, 2) := zo_54 (d := 4) (zd_b zq_prog_1_method_11_code_0 5 rfl rfl rfl) (zd_b zq_prog_1_method_11_code_0 6 rfl rfl rfl)
theorem d_Ip_frozenIn_7 : decode prog_1_method_11_code 7 = .ok (.iload_n 3, 1) := zo_29 (zd_b zq_prog_1_method_11_code_0 7 rfl rfl rfl)
theorem d_Ip_frozenIn_8 : decode prog_1_method_11_code 8 = .ok (.invokestatic 158, 3) := zo_184 (d := 0) (e := 158) (zd_b zq_prog_1_method_11_code_0 8 rfl rfl rfl) (zd_b zq_prog_1_method_11_code_0 9 rfl rfl rfl) (zd_b zq_prog_1_method_11_code_0 10 rfl rfl rfl)
theorem ok_Ip_frozenIn_Ip_checkHeat : z_ok M_Ip_frozenIn M_Ip_checkHeat 1 := ⟨z_mj4 (i := 94) rfl (by decide +kernel), rfl, ⟨by decide +kernel, by decide +kernel, by decide +kernel⟩, ⟨by decide, by decide⟩, z_mj1 (i := 1) rfl (by decide +kernel), rfl⟩
theorem ln_Ip_158 : Cond.methodLink "Ironpour" 158 M_Ip_checkHeat.1 ∈ z_gw := z_mj4 (i := 92) rfl (by decide +kernel)
theorem w_st_Ip_checkHeat : Cond.static M_Ip_checkHeat.1 ∈ z_gw := z_mj4 (i := 93) rfl (by decide +kernel)
set_option maxHeartbeats 4000000 in
set_option maxRecDepth 100000 in
theorem C_Ip_frozenInF (g : zG) (a pa ta sa gs co fu la gy du re wm ac : Nat) (ta1 ta2 taz taz1 taz2 taz3 taz4 taz5 taz6 ta4 ta5 ta6 : Nat) (X : zTr) (x y : Int32) (h : Int32) (c : Nat) (hz : z_cl x y = some c) (hh : ¬ (1200 ≤ h ∧ h ≤ 1500)) : CT g M_Ip_frozenIn [.ref a, .int x, .int y, .int h] [(a, .inr (11, [.ref pa, .ref ta, .ref sa, .ref gs, .ref co, .ref fu, .ref la, .ref gy, .ref du, .ref re, .ref wm, .ref ac])), (ta, .inr (10, [.ref ta1, .ref ta2, .ref taz, .ref ta4, .ref ta5, .ref ta6, .int X.1.2.2.1, .int X.1.2.2.2])), (ta1, .inl (1, 108, .inl X.1.1)), (ta2, .inl (0, 108, .inl X.1.2.1)), (taz, .inr (2, [.ref taz1, .ref taz2, .ref taz3, .ref taz4, .ref taz5, .ref taz6, .int X.2.1.1.1.2.2.2])), (taz1, .inl (0, 108, .inl X.2.1.1.1.1)), (taz2, .inl (0, 108, .inl X.2.1.1.2)), (taz3, .inl (0, 108, .inl X.2.1.1.1.2.1)), (taz4, .inl (0, 108, .inl X.2.1.1.1.2.2.1)), (taz5, .inl (0, 108, .inl X.2.1.2.1)), (taz6, .inl (0, 108, .inl X.2.1.2.2)), (ta4, .inl (2, 108, .inl X.2.2.1)), (ta5, .inl (2, 108, .inl X.2.2.2.1)), (ta6, .inl (0, 108, .inl (fun k => nI (X.2.2.2.2 k))))] (fun o cs1 => o = .inr "java/lang/IllegalArgumentException" ∧ cs1 = [(a, .inr (11, [.ref pa, .ref ta, .ref sa, .ref gs, .ref co, .ref fu, .ref la, .ref gy, .ref du, .ref re, .ref wm, .ref ac])), (ta, .inr (10, [.ref ta1, .ref ta2, .ref taz, .ref ta4, .ref ta5, .ref ta6, .int X.1.2.2.1, .int X.1.2.2.2])), (ta1, .inl (1, 108, .inl X.1.1)), (ta2, .inl (0, 108, .inl X.1.2.1)), (taz, .inr (2, [.ref taz1, .ref taz2, .ref taz3, .ref taz4, .ref taz5, .ref taz6, .int X.2.1.1.1.2.2.2])), (taz1, .inl (0, 108, .inl X.2.1.1.1.1)), (taz2, .inl (0, 108, .inl X.2.1.1.2)), (taz3, .inl (0, 108, .inl X.2.1.1.1.2.1)), (taz4, .inl (0, 108, .inl X.2.1.1.1.2.2.1)), (taz5, .inl (0, 108, .inl X.2.1.2.1)), (taz6, .inl (0, 108, .inl X.2.1.2.2)), (ta4, .inl (2, 108, .inl X.2.2.1)), (ta5, .inl (2, 108, .inl X.2.2.2.1)), (ta6, .inl (0, 108, .inl (fun k => nI (X.2.2.2.2 k))))]) 2 12 := by
  refine z_of (by decide) rfl (Nat.le_of_ble_eq_true rfl) (fun w0 => ?_)
  refine r_lvE (lv2 := [(0, .ref a), (1, .int x), (2, .int y), (3, .int h)]) rfl ?_
  refine r_iload_n d_Ip_frozenIn_0 rfl 1 rfl ?_
  refine r_iload_n d_Ip_frozenIn_1 rfl 2 rfl ?_
  refine r_callS (As := [.int x, .int y]) (rest := []) (csC := []) (is := []) ln_Ip_114 w_st_Ip_cellAt ok_Ip_frozenIn_Ip_cellAt d_Ip_frozenIn_2 (C_Ip_cellAt g x y) rfl rfl (Nat.le_of_ble_eq_true rfl) rfl (by decide) (by omega) (by omega) (fun E cs1 hx => ?_) (fun v cs1 hx => ?_)
  · simp only [hz] at hx
    exact absurd hx.1 (by simp)
  · simp only [hz] at hx
    obtain ⟨e1, rfl⟩ := hx
    cases e1
    refine ⟨rfl, ?_⟩
    refine r_st (st2 := [.int (nI c)]) rfl ?_
    refine r_cs (cs2 := [(a, .inr (11, [.ref pa, .ref ta, .ref sa, .ref gs, .ref co, .ref fu, .ref la, .ref gy, .ref du, .ref re, .ref wm, .ref ac])), (ta, .inr (10, [.ref ta1, .ref ta2, .ref taz, .ref ta4, .ref ta5, .ref ta6, .int X.1.2.2.1, .int X.1.2.2.2])), (ta1, .inl (1, 108, .inl X.1.1)), (ta2, .inl (0, 108, .inl X.1.2.1)), (taz, .inr (2, [.ref taz1, .ref taz2, .ref taz3, .ref taz4, .ref taz5, .ref taz6, .int X.2.1.1.1.2.2.2])), (taz1, .inl (0, 108, .inl X.2.1.1.1.1)), (taz2, .inl (0, 108, .inl X.2.1.1.2)), (taz3, .inl (0, 108, .inl X.2.1.1.1.2.1)), (taz4, .inl (0, 108, .inl X.2.1.1.1.2.2.1)), (taz5, .inl (0, 108, .inl X.2.1.2.1)), (taz6, .inl (0, 108, .inl X.2.1.2.2)), (ta4, .inl (2, 108, .inl X.2.2.1)), (ta5, .inl (2, 108, .inl X.2.2.2.1)), (ta6, .inl (0, 108, .inl (fun k => nI (X.2.2.2.2 k))))]) rfl ?_
    refine r_istore (lv' := [(4, .int (nI c)), (0, .ref a), (1, .int x), (2, .int y), (3, .int h)]) d_Ip_frozenIn_5 (by decide) rfl ?_
    refine r_iload_n d_Ip_frozenIn_7 rfl 4 rfl ?_
    refine r_callS (As := [.int h]) (rest := []) (csC := []) (is := []) ln_Ip_158 w_st_Ip_checkHeat ok_Ip_frozenIn_Ip_checkHeat d_Ip_frozenIn_8 (C_Ip_checkHeat g h) rfl rfl (Nat.le_of_ble_eq_true rfl) rfl (by decide) (by omega) (by omega) (fun E cs1 hx => ?_) (fun v cs1 hx => ?_)
    · simp only [if_neg hh] at hx
      obtain ⟨e1, rfl⟩ := hx
      cases e1
      exact ⟨rfl, rfl, rfl⟩
    · simp only [if_neg hh] at hx
      exact absurd hx.1 (by simp)
theorem d_Ip_frozenIn_11 : decode prog_1_method_11_code 11 = .ok (.aload_n 0, 1) := zo_42 (zd_b zq_prog_1_method_11_code_0 11 rfl rfl rfl)
theorem d_Ip_frozenIn_12 : decode prog_1_method_11_code 12 = .ok (.getfield 19, 3) := zo_180 (d := 0) (e := 19) (zd_b zq_prog_1_method_11_code_0 12 rfl rfl rfl) (zd_b zq_prog_1_method_11_code_0 13 rfl rfl rfl) (zd_b zq_prog_1_method_11_code_0 14 rfl rfl rfl)
theorem d_Ip_frozenIn_15 : decode prog_1_method_11_code 15 = .ok (.iload_n 3, 1) := zo_29 (zd_b zq_prog_1_method_11_code_0 15 rfl rfl rfl)
theorem d_Ip_frozenIn_16 : decode prog_1_method_11_code 16 = .ok (.invokevirtual 162, 3) := zo_182 (d := 0) (e := 162) (zd_b zq_prog_1_method_11_code_0 16 rfl rfl rfl) (zd_b zq_prog_1_method_11_code_0 17 rfl rfl rfl) (zd_b zq_prog_1_method_11_code_0 18 rfl rfl rfl)
theorem ok_Ip_frozenIn_Tr_freeze : z_ok M_Ip_frozenIn M_Tr_freeze 1 := ⟨z_mj2 (i := 208) rfl (by decide +kernel), rfl, ⟨by decide +kernel, by decide +kernel, by decide +kernel⟩, ⟨by decide, by decide⟩, z_mj1 (i := 3) rfl (by decide +kernel), rfl⟩
theorem ln_Ip_162 : Cond.methodLink "Ironpour" 162 M_Tr_freeze.1 ∈ z_gw := z_mj2 (i := 205) rfl (by decide +kernel)
theorem w_im_Tr_freeze : Cond.instanceMethod M_Tr_freeze.1 ∈ z_gw := z_mj2 (i := 206) rfl (by decide +kernel)
theorem w_se_Tr_freeze : Cond.selects M_Tr_freeze.1.cls M_Tr_freeze.1 M_Tr_freeze.1 ∈ z_gw := z_mj2 (i := 207) rfl (by decide +kernel)
theorem d_Ip_frozenIn_19 : decode prog_1_method_11_code 19 = .ok (.aload_n 0, 1) := zo_42 (zd_b zq_prog_1_method_11_code_0 19 rfl rfl rfl)
theorem d_Ip_frozenIn_20 : decode prog_1_method_11_code 20 = .ok (.getfield 19, 3) := zo_180 (d := 0) (e := 19) (zd_b zq_prog_1_method_11_code_0 20 rfl rfl rfl) (zd_b zq_prog_1_method_11_code_0 21 rfl rfl rfl) (zd_b zq_prog_1_method_11_code_0 22 rfl rfl rfl)
theorem d_Ip_frozenIn_23 : decode prog_1_method_11_code 23 = .ok (.getfield 165, 3) := zo_180 (d := 0) (e := 165) (zd_b zq_prog_1_method_11_code_0 23 rfl rfl rfl) (zd_b zq_prog_1_method_11_code_0 24 rfl rfl rfl) (zd_b zq_prog_1_method_11_code_0 25 rfl rfl rfl)
theorem fs_Ip_165 : z_fs "Ironpour" 165 10 2 := ⟨R_Tr, "Ironpour$Trial", F_Tr, 8, rfl, u_Tr, by decide, Or.inr ⟨"Ironpour", z_mk1 (i := 114) rfl (by decide +kernel), rfl⟩⟩
theorem d_Ip_frozenIn_26 : decode prog_1_method_11_code 26 = .ok (.getfield 169, 3) := zo_180 (d := 0) (e := 169) (zd_b zq_prog_1_method_11_code_0 26 rfl rfl rfl) (zd_b zq_prog_1_method_11_code_0 27 rfl rfl rfl) (zd_b zq_prog_1_method_11_code_0 28 rfl rfl rfl)
theorem fs_Ip_169 : z_fs "Ironpour" 169 2 3 := ⟨R_Fz, "Ironpour$Freezing", F_Fz, 7, rfl, u_Fz, by decide, Or.inr ⟨"Ironpour", z_mk1 (i := 89) rfl (by decide +kernel), rfl⟩⟩
theorem d_Ip_frozenIn_29 : decode prog_1_method_11_code 29 = .ok (.iload 4, 2) := zo_21 (d := 4) (zd_b zq_prog_1_method_11_code_0 29 rfl rfl rfl) (zd_b zq_prog_1_method_11_code_0 30 rfl rfl rfl)
theorem d_Ip_frozenIn_31 : decode prog_1_method_11_code 31 = .ok (.iaload, 1) := zo_46 (zd_b zq_prog_1_method_11_code_0 31 rfl rfl rfl)
theorem d_Ip_frozenIn_32 : decode prog_1_method_11_code 32 = .ok (.ireturn, 1) := zo_172 (zd_b zq_prog_1_method_11_code_1 0 rfl rfl rfl)
set_option maxHeartbeats 4000000 in
set_option maxRecDepth 100000 in
theorem C_Ip_frozenInN (g : zG) (a pa ta sa gs co fu la gy du re wm ac : Nat) (ta1 ta2 taz taz1 taz2 taz3 taz4 taz5 taz6 ta4 ta5 ta6 : Nat) (X : zTr) (x y : Int32) (h : Int32) (c : Nat) (hz : z_cl x y = some c) (hh : 1200 ≤ h ∧ h ≤ 1500) : CT g M_Ip_frozenIn [.ref a, .int x, .int y, .int h] [(a, .inr (11, [.ref pa, .ref ta, .ref sa, .ref gs, .ref co, .ref fu, .ref la, .ref gy, .ref du, .ref re, .ref wm, .ref ac])), (ta, .inr (10, [.ref ta1, .ref ta2, .ref taz, .ref ta4, .ref ta5, .ref ta6, .int X.1.2.2.1, .int X.1.2.2.2])), (ta1, .inl (1, 108, .inl X.1.1)), (ta2, .inl (0, 108, .inl X.1.2.1)), (taz, .inr (2, [.ref taz1, .ref taz2, .ref taz3, .ref taz4, .ref taz5, .ref taz6, .int X.2.1.1.1.2.2.2])), (taz1, .inl (0, 108, .inl X.2.1.1.1.1)), (taz2, .inl (0, 108, .inl X.2.1.1.2)), (taz3, .inl (0, 108, .inl X.2.1.1.1.2.1)), (taz4, .inl (0, 108, .inl X.2.1.1.1.2.2.1)), (taz5, .inl (0, 108, .inl X.2.1.2.1)), (taz6, .inl (0, 108, .inl X.2.1.2.2)), (ta4, .inl (2, 108, .inl X.2.2.1)), (ta5, .inl (2, 108, .inl X.2.2.2.1)), (ta6, .inl (0, 108, .inl (fun k => nI (X.2.2.2.2 k))))] (fun o cs1 => o = .inl (some (.int ((frT h X).2.1.1.1.2.2.1 c))) ∧ cs1 = [(a, .inr (11, [.ref pa, .ref ta, .ref sa, .ref gs, .ref co, .ref fu, .ref la, .ref gy, .ref du, .ref re, .ref wm, .ref ac])), (ta, .inr (10, [.ref ta1, .ref ta2, .ref taz, .ref ta4, .ref ta5, .ref ta6, .int ((frT h X).1.2.2.1), .int ((frT h X).1.2.2.2)])), (ta1, .inl (1, 108, .inl ((frT h X).1.1))), (ta2, .inl (0, 108, .inl ((frT h X).1.2.1))), (taz, .inr (2, [.ref taz1, .ref taz2, .ref taz3, .ref taz4, .ref taz5, .ref taz6, .int ((frT h X).2.1.1.1.2.2.2)])), (taz1, .inl (0, 108, .inl ((frT h X).2.1.1.1.1))), (taz2, .inl (0, 108, .inl ((frT h X).2.1.1.2))), (taz3, .inl (0, 108, .inl ((frT h X).2.1.1.1.2.1))), (taz4, .inl (0, 108, .inl ((frT h X).2.1.1.1.2.2.1))), (taz5, .inl (0, 108, .inl ((frT h X).2.1.2.1))), (taz6, .inl (0, 108, .inl ((frT h X).2.1.2.2))), (ta4, .inl (2, 108, .inl ((frT h X).2.2.1))), (ta5, .inl (2, 108, .inl ((frT h X).2.2.2.1))), (ta6, .inl (0, 108, .inl (fun k => nI ((frT h X).2.2.2.2 k))))]) 2 12 := by
  refine z_of (by decide) rfl (Nat.le_of_ble_eq_true rfl) (fun w0 => ?_)
  refine r_lvE (lv2 := [(0, .ref a), (1, .int x), (2, .int y), (3, .int h)]) rfl ?_
  have hc := z_cl_lt hz
  refine r_iload_n d_Ip_frozenIn_0 rfl 1 rfl ?_
  refine r_iload_n d_Ip_frozenIn_1 rfl 2 rfl ?_
  refine r_callS (As := [.int x, .int y]) (rest := []) (csC := []) (is := []) ln_Ip_114 w_st_Ip_cellAt ok_Ip_frozenIn_Ip_cellAt d_Ip_frozenIn_2 (C_Ip_cellAt g x y) rfl rfl (Nat.le_of_ble_eq_true rfl) rfl (by decide) (by omega) (by omega) (fun E cs1 hx => ?_) (fun v cs1 hx => ?_)
  · simp only [hz] at hx
    exact absurd hx.1 (by simp)
  · simp only [hz] at hx
    obtain ⟨e1, rfl⟩ := hx
    cases e1
    refine ⟨rfl, ?_⟩
    refine r_st (st2 := [.int (nI c)]) rfl ?_
    refine r_cs (cs2 := [(a, .inr (11, [.ref pa, .ref ta, .ref sa, .ref gs, .ref co, .ref fu, .ref la, .ref gy, .ref du, .ref re, .ref wm, .ref ac])), (ta, .inr (10, [.ref ta1, .ref ta2, .ref taz, .ref ta4, .ref ta5, .ref ta6, .int X.1.2.2.1, .int X.1.2.2.2])), (ta1, .inl (1, 108, .inl X.1.1)), (ta2, .inl (0, 108, .inl X.1.2.1)), (taz, .inr (2, [.ref taz1, .ref taz2, .ref taz3, .ref taz4, .ref taz5, .ref taz6, .int X.2.1.1.1.2.2.2])), (taz1, .inl (0, 108, .inl X.2.1.1.1.1)), (taz2, .inl (0, 108, .inl X.2.1.1.2)), (taz3, .inl (0, 108, .inl X.2.1.1.1.2.1)), (taz4, .inl (0, 108, .inl X.2.1.1.1.2.2.1)), (taz5, .inl (0, 108, .inl X.2.1.2.1)), (taz6, .inl (0, 108, .inl X.2.1.2.2)), (ta4, .inl (2, 108, .inl X.2.2.1)), (ta5, .inl (2, 108, .inl X.2.2.2.1)), (ta6, .inl (0, 108, .inl (fun k => nI (X.2.2.2.2 k))))]) rfl ?_
    refine r_istore (lv' := [(4, .int (nI c)), (0, .ref a), (1, .int x), (2, .int y), (3, .int h)]) d_Ip_frozenIn_5 (by decide) rfl ?_
    refine r_iload_n d_Ip_frozenIn_7 rfl 4 rfl ?_
    refine r_callS (As := [.int h]) (rest := []) (csC := []) (is := []) ln_Ip_158 w_st_Ip_checkHeat ok_Ip_frozenIn_Ip_checkHeat d_Ip_frozenIn_8 (C_Ip_checkHeat g h) rfl rfl (Nat.le_of_ble_eq_true rfl) rfl (by decide) (by omega) (by omega) (fun E cs1 hx => ?_) (fun v cs1 hx => ?_)
    · simp only [if_pos hh] at hx
      exact absurd hx.1 (by simp)
    · simp only [if_pos hh] at hx
      obtain ⟨e1, rfl⟩ := hx
      cases e1
      refine ⟨rfl, ?_⟩
      refine r_st (st2 := []) rfl ?_
      refine r_cs (cs2 := [(a, .inr (11, [.ref pa, .ref ta, .ref sa, .ref gs, .ref co, .ref fu, .ref la, .ref gy, .ref du, .ref re, .ref wm, .ref ac])), (ta, .inr (10, [.ref ta1, .ref ta2, .ref taz, .ref ta4, .ref ta5, .ref ta6, .int X.1.2.2.1, .int X.1.2.2.2])), (ta1, .inl (1, 108, .inl X.1.1)), (ta2, .inl (0, 108, .inl X.1.2.1)), (taz, .inr (2, [.ref taz1, .ref taz2, .ref taz3, .ref taz4, .ref taz5, .ref taz6, .int X.2.1.1.1.2.2.2])), (taz1, .inl (0, 108, .inl X.2.1.1.1.1)), (taz2, .inl (0, 108, .inl X.2.1.1.2)), (taz3, .inl (0, 108, .inl X.2.1.1.1.2.1)), (taz4, .inl (0, 108, .inl X.2.1.1.1.2.2.1)), (taz5, .inl (0, 108, .inl X.2.1.2.1)), (taz6, .inl (0, 108, .inl X.2.1.2.2)), (ta4, .inl (2, 108, .inl X.2.2.1)), (ta5, .inl (2, 108, .inl X.2.2.2.1)), (ta6, .inl (0, 108, .inl (fun k => nI (X.2.2.2.2 k))))]) rfl ?_
      refine r_aload_n d_Ip_frozenIn_11 rfl 1 rfl ?_
      refine r_get fs_Ip_19 d_Ip_frozenIn_12 (q0 := 0) rfl rfl ?_
      refine r_iload_n d_Ip_frozenIn_15 rfl 4 rfl ?_
      refine r_callV (As := [.int h]) (rest := []) (csC := [(ta, .inr (10, [.ref ta1, .ref ta2, .ref taz, .ref ta4, .ref ta5, .ref ta6, .int X.1.2.2.1, .int X.1.2.2.2])), (ta1, .inl (1, 108, .inl X.1.1)), (ta2, .inl (0, 108, .inl X.1.2.1)), (taz, .inr (2, [.ref taz1, .ref taz2, .ref taz3, .ref taz4, .ref taz5, .ref taz6, .int X.2.1.1.1.2.2.2])), (taz1, .inl (0, 108, .inl X.2.1.1.1.1)), (taz2, .inl (0, 108, .inl X.2.1.1.2)), (taz3, .inl (0, 108, .inl X.2.1.1.1.2.1)), (taz4, .inl (0, 108, .inl X.2.1.1.1.2.2.1)), (taz5, .inl (0, 108, .inl X.2.1.2.1)), (taz6, .inl (0, 108, .inl X.2.1.2.2)), (ta4, .inl (2, 108, .inl X.2.2.1)), (ta5, .inl (2, 108, .inl X.2.2.2.1)), (ta6, .inl (0, 108, .inl (fun k => nI (X.2.2.2.2 k))))]) (is := [1, 2, 3, 4, 5, 6, 7, 8, 9, 10, 11, 12, 13]) (q0 := 1) rfl rfl ln_Ip_162 w_im_Tr_freeze w_se_Tr_freeze ok_Ip_frozenIn_Tr_freeze d_Ip_frozenIn_16 (X_freeze g ta ta1 ta2 taz taz1 taz2 taz3 taz4 taz5 taz6 ta4 ta5 ta6 h X) rfl rfl (Nat.le_of_ble_eq_true rfl) rfl (by decide) (by omega) (by omega) (fun E cs1 hx => ?_) (fun v cs1 hx => ?_)
      · exact absurd hx.1 (by simp)
      · obtain ⟨e1, rfl⟩ := hx
        cases e1
        refine ⟨rfl, ?_⟩
        refine r_st (st2 := []) rfl ?_
        refine r_cs (cs2 := [(a, .inr (11, [.ref pa, .ref ta, .ref sa, .ref gs, .ref co, .ref fu, .ref la, .ref gy, .ref du, .ref re, .ref wm, .ref ac])), (ta, .inr (10, [.ref ta1, .ref ta2, .ref taz, .ref ta4, .ref ta5, .ref ta6, .int ((frT h X).1.2.2.1), .int ((frT h X).1.2.2.2)])), (ta1, .inl (1, 108, .inl ((frT h X).1.1))), (ta2, .inl (0, 108, .inl ((frT h X).1.2.1))), (taz, .inr (2, [.ref taz1, .ref taz2, .ref taz3, .ref taz4, .ref taz5, .ref taz6, .int ((frT h X).2.1.1.1.2.2.2)])), (taz1, .inl (0, 108, .inl ((frT h X).2.1.1.1.1))), (taz2, .inl (0, 108, .inl ((frT h X).2.1.1.2))), (taz3, .inl (0, 108, .inl ((frT h X).2.1.1.1.2.1))), (taz4, .inl (0, 108, .inl ((frT h X).2.1.1.1.2.2.1))), (taz5, .inl (0, 108, .inl ((frT h X).2.1.2.1))), (taz6, .inl (0, 108, .inl ((frT h X).2.1.2.2))), (ta4, .inl (2, 108, .inl ((frT h X).2.2.1))), (ta5, .inl (2, 108, .inl ((frT h X).2.2.2.1))), (ta6, .inl (0, 108, .inl (fun k => nI ((frT h X).2.2.2.2 k))))]) rfl ?_
        refine r_aload_n d_Ip_frozenIn_19 rfl 1 rfl ?_
        refine r_get fs_Ip_19 d_Ip_frozenIn_20 (q0 := 0) rfl rfl ?_
        refine r_get fs_Ip_165 d_Ip_frozenIn_23 (q0 := 1) rfl rfl ?_
        refine r_get fs_Ip_169 d_Ip_frozenIn_26 (q0 := 4) rfl rfl ?_
        refine r_iload d_Ip_frozenIn_29 0 rfl ?_
        refine r_iald d_Ip_frozenIn_31 (q0 := 8) rfl (vp_in_nI (by omega) (by omega)) (v := ((frT h X).2.1.1.1.2.2.1) c) (by rw [nI_clamp (by omega)]) ?_
        refine r_iret d_Ip_frozenIn_32 rfl rfl ?_
        exact ⟨rfl, rfl⟩
abbrev M_Ip_isFed : zM := (⟨"Ironpour", "isFed", "(III)Z"⟩, prog_1_method_13_code, 5, (Option.some FieldType.boolean), 7, 136, [])
theorem d_Ip_isFed_0 : decode prog_1_method_13_code 0 = .ok (.iload_n 1, 1) := zo_27 (zd_b zq_prog_1_method_13_code_0 0 rfl rfl rfl)
theorem d_Ip_isFed_1 : decode prog_1_method_13_code 1 = .ok (.iload_n 2, 1) := zo_28 (zd_b zq_prog_1_method_13_code_0 1 rfl rfl rfl)
theorem d_Ip_isFed_2 : decode prog_1_method_13_code 2 = .ok (.invokestatic 114, 3) := zo_184 (d := 0) (e := 114) (zd_b zq_prog_1_method_13_code_0 2 rfl rfl rfl) (zd_b zq_prog_1_method_13_code_0 3 rfl rfl rfl) (zd_b zq_prog_1_method_13_code_0 4 rfl rfl rfl)
theorem ok_Ip_isFed_Ip_cellAt : z_ok M_Ip_isFed M_Ip_cellAt 2 := ⟨z_mj4 (i := 22) rfl (by decide +kernel), rfl, ⟨by decide +kernel, by decide +kernel, by decide +kernel⟩, ⟨by decide, by decide⟩, z_mj1 (i := 1) rfl (by decide +kernel), rfl⟩
set_option maxHeartbeats 4000000 in
set_option maxRecDepth 100000 in
theorem C_Ip_isFedE (g : zG) (a pa ta sa gs co fu la gy du re wm ac : Nat) (ta1 ta2 taz taz1 taz2 taz3 taz4 taz5 taz6 ta4 ta5 ta6 : Nat) (X : zTr) (x y : Int32) (h : Int32) (hz : z_cl x y = none) : CT g M_Ip_isFed [.ref a, .int x, .int y, .int h] [(a, .inr (11, [.ref pa, .ref ta, .ref sa, .ref gs, .ref co, .ref fu, .ref la, .ref gy, .ref du, .ref re, .ref wm, .ref ac])), (ta, .inr (10, [.ref ta1, .ref ta2, .ref taz, .ref ta4, .ref ta5, .ref ta6, .int X.1.2.2.1, .int X.1.2.2.2])), (ta1, .inl (1, 108, .inl X.1.1)), (ta2, .inl (0, 108, .inl X.1.2.1)), (taz, .inr (2, [.ref taz1, .ref taz2, .ref taz3, .ref taz4, .ref taz5, .ref taz6, .int X.2.1.1.1.2.2.2])), (taz1, .inl (0, 108, .inl X.2.1.1.1.1)), (taz2, .inl (0, 108, .inl X.2.1.1.2)), (taz3, .inl (0, 108, .inl X.2.1.1.1.2.1)), (taz4, .inl (0, 108, .inl X.2.1.1.1.2.2.1)), (taz5, .inl (0, 108, .inl X.2.1.2.1)), (taz6, .inl (0, 108, .inl X.2.1.2.2)), (ta4, .inl (2, 108, .inl X.2.2.1)), (ta5, .inl (2, 108, .inl X.2.2.2.1)), (ta6, .inl (0, 108, .inl (fun k => nI (X.2.2.2.2 k))))] (fun o cs1 => o = .inr "java/lang/IndexOutOfBoundsException" ∧ cs1 = [(a, .inr (11, [.ref pa, .ref ta, .ref sa, .ref gs, .ref co, .ref fu, .ref la, .ref gy, .ref du, .ref re, .ref wm, .ref ac])), (ta, .inr (10, [.ref ta1, .ref ta2, .ref taz, .ref ta4, .ref ta5, .ref ta6, .int X.1.2.2.1, .int X.1.2.2.2])), (ta1, .inl (1, 108, .inl X.1.1)), (ta2, .inl (0, 108, .inl X.1.2.1)), (taz, .inr (2, [.ref taz1, .ref taz2, .ref taz3, .ref taz4, .ref taz5, .ref taz6, .int X.2.1.1.1.2.2.2])), (taz1, .inl (0, 108, .inl X.2.1.1.1.1)), (taz2, .inl (0, 108, .inl X.2.1.1.2)), (taz3, .inl (0, 108, .inl X.2.1.1.1.2.1)), (taz4, .inl (0, 108, .inl X.2.1.1.1.2.2.1)), (taz5, .inl (0, 108, .inl X.2.1.2.1)), (taz6, .inl (0, 108, .inl X.2.1.2.2)), (ta4, .inl (2, 108, .inl X.2.2.1)), (ta5, .inl (2, 108, .inl X.2.2.2.1)), (ta6, .inl (0, 108, .inl (fun k => nI (X.2.2.2.2 k))))]) 2 12 := by
  refine z_of (by decide) rfl (Nat.le_of_ble_eq_true rfl) (fun w0 => ?_)
  refine r_lvE (lv2 := [(0, .ref a), (1, .int x), (2, .int y), (3, .int h)]) rfl ?_
  refine r_iload_n d_Ip_isFed_0 rfl 1 rfl ?_
  refine r_iload_n d_Ip_isFed_1 rfl 2 rfl ?_
  refine r_callS (As := [.int x, .int y]) (rest := []) (csC := []) (is := []) ln_Ip_114 w_st_Ip_cellAt ok_Ip_isFed_Ip_cellAt d_Ip_isFed_2 (C_Ip_cellAt g x y) rfl rfl (Nat.le_of_ble_eq_true rfl) rfl (by decide) (by omega) (by omega) (fun E cs1 hx => ?_) (fun v cs1 hx => ?_)
  · simp only [hz] at hx
    obtain ⟨e1, rfl⟩ := hx
    cases e1
    exact ⟨rfl, rfl, rfl⟩
  · simp only [hz] at hx
    exact absurd hx.1 (by simp)
theorem d_Ip_isFed_5 : decode prog_1_method_13_code 5 = .ok (.istore 4, 2) := zo_54 (d := 4) (zd_b zq_prog_1_method_13_code_0 5 rfl rfl rfl) (zd_b zq_prog_1_method_13_code_0 6 rfl rfl rfl)
theorem d_Ip_isFed_7 : decode prog_1_method_13_code 7 = .ok (.iload_n 3, 1) := zo_29 (zd_b zq_prog_1_method_13_code_0 7 rfl rfl rfl)
theorem d_Ip_isFed_8 : decode prog_1_method_13_code 8 = .ok (.invokestatic 158, 3) := zo_184 (d := 0) (e := 158) (zd_b zq_prog_1_method_13_code_0 8 rfl rfl rfl) (zd_b zq_prog_1_method_13_code_0 9 rfl rfl rfl) (zd_b zq_prog_1_method_13_code_0 10 rfl rfl rfl)
theorem ok_Ip_isFed_Ip_checkHeat : z_ok M_Ip_isFed M_Ip_checkHeat 1 := ⟨z_mj4 (i := 94) rfl (by decide +kernel), rfl, ⟨by decide +kernel, by decide +kernel, by decide +kernel⟩, ⟨by decide, by decide⟩, z_mj1 (i := 1) rfl (by decide +kernel), rfl⟩
set_option maxHeartbeats 4000000 in
set_option maxRecDepth 100000 in
theorem C_Ip_isFedF (g : zG) (a pa ta sa gs co fu la gy du re wm ac : Nat) (ta1 ta2 taz taz1 taz2 taz3 taz4 taz5 taz6 ta4 ta5 ta6 : Nat) (X : zTr) (x y : Int32) (h : Int32) (c : Nat) (hz : z_cl x y = some c) (hh : ¬ (1200 ≤ h ∧ h ≤ 1500)) : CT g M_Ip_isFed [.ref a, .int x, .int y, .int h] [(a, .inr (11, [.ref pa, .ref ta, .ref sa, .ref gs, .ref co, .ref fu, .ref la, .ref gy, .ref du, .ref re, .ref wm, .ref ac])), (ta, .inr (10, [.ref ta1, .ref ta2, .ref taz, .ref ta4, .ref ta5, .ref ta6, .int X.1.2.2.1, .int X.1.2.2.2])), (ta1, .inl (1, 108, .inl X.1.1)), (ta2, .inl (0, 108, .inl X.1.2.1)), (taz, .inr (2, [.ref taz1, .ref taz2, .ref taz3, .ref taz4, .ref taz5, .ref taz6, .int X.2.1.1.1.2.2.2])), (taz1, .inl (0, 108, .inl X.2.1.1.1.1)), (taz2, .inl (0, 108, .inl X.2.1.1.2)), (taz3, .inl (0, 108, .inl X.2.1.1.1.2.1)), (taz4, .inl (0, 108, .inl X.2.1.1.1.2.2.1)), (taz5, .inl (0, 108, .inl X.2.1.2.1)), (taz6, .inl (0, 108, .inl X.2.1.2.2)), (ta4, .inl (2, 108, .inl X.2.2.1)), (ta5, .inl (2, 108, .inl X.2.2.2.1)), (ta6, .inl (0, 108, .inl (fun k => nI (X.2.2.2.2 k))))] (fun o cs1 => o = .inr "java/lang/IllegalArgumentException" ∧ cs1 = [(a, .inr (11, [.ref pa, .ref ta, .ref sa, .ref gs, .ref co, .ref fu, .ref la, .ref gy, .ref du, .ref re, .ref wm, .ref ac])), (ta, .inr (10, [.ref ta1, .ref ta2, .ref taz, .ref ta4, .ref ta5, .ref ta6, .int X.1.2.2.1, .int X.1.2.2.2])), (ta1, .inl (1, 108, .inl X.1.1)), (ta2, .inl (0, 108, .inl X.1.2.1)), (taz, .inr (2, [.ref taz1, .ref taz2, .ref taz3, .ref taz4, .ref taz5, .ref taz6, .int X.2.1.1.1.2.2.2])), (taz1, .inl (0, 108, .inl X.2.1.1.1.1)), (taz2, .inl (0, 108, .inl X.2.1.1.2)), (taz3, .inl (0, 108, .inl X.2.1.1.1.2.1)), (taz4, .inl (0, 108, .inl X.2.1.1.1.2.2.1)), (taz5, .inl (0, 108, .inl X.2.1.2.1)), (taz6, .inl (0, 108, .inl X.2.1.2.2)), (ta4, .inl (2, 108, .inl X.2.2.1)), (ta5, .inl (2, 108, .inl X.2.2.2.1)), (ta6, .inl (0, 108, .inl (fun k => nI (X.2.2.2.2 k))))]) 2 12 := by
  refine z_of (by decide) rfl (Nat.le_of_ble_eq_true rfl) (fun w0 => ?_)
  refine r_lvE (lv2 := [(0, .ref a), (1, .int x), (2, .int y), (3, .int h)]) rfl ?_
  refine r_iload_n d_Ip_isFed_0 rfl 1 rfl ?_
  refine r_iload_n d_Ip_isFed_1 rfl 2 rfl ?_
  refine r_callS (As := [.int x, .int y]) (rest := []) (csC := []) (is := []) ln_Ip_114 w_st_Ip_cellAt ok_Ip_isFed_Ip_cellAt d_Ip_isFed_2 (C_Ip_cellAt g x y) rfl rfl (Nat.le_of_ble_eq_true rfl) rfl (by decide) (by omega) (by omega) (fun E cs1 hx => ?_) (fun v cs1 hx => ?_)
  · simp only [hz] at hx
    exact absurd hx.1 (by simp)
  · simp only [hz] at hx
    obtain ⟨e1, rfl⟩ := hx
    cases e1
    refine ⟨rfl, ?_⟩
    refine r_st (st2 := [.int (nI c)]) rfl ?_
    refine r_cs (cs2 := [(a, .inr (11, [.ref pa, .ref ta, .ref sa, .ref gs, .ref co, .ref fu, .ref la, .ref gy, .ref du, .ref re, .ref wm, .ref ac])), (ta, .inr (10, [.ref ta1, .ref ta2, .ref taz, .ref ta4, .ref ta5, .ref ta6, .int X.1.2.2.1, .int X.1.2.2.2])), (ta1, .inl (1, 108, .inl X.1.1)), (ta2, .inl (0, 108, .inl X.1.2.1)), (taz, .inr (2, [.ref taz1, .ref taz2, .ref taz3, .ref taz4, .ref taz5, .ref taz6, .int X.2.1.1.1.2.2.2])), (taz1, .inl (0, 108, .inl X.2.1.1.1.1)), (taz2, .inl (0, 108, .inl X.2.1.1.2)), (taz3, .inl (0, 108, .inl X.2.1.1.1.2.1)), (taz4, .inl (0, 108, .inl X.2.1.1.1.2.2.1)), (taz5, .inl (0, 108, .inl X.2.1.2.1)), (taz6, .inl (0, 108, .inl X.2.1.2.2)), (ta4, .inl (2, 108, .inl X.2.2.1)), (ta5, .inl (2, 108, .inl X.2.2.2.1)), (ta6, .inl (0, 108, .inl (fun k => nI (X.2.2.2.2 k))))]) rfl ?_
    refine r_istore (lv' := [(4, .int (nI c)), (0, .ref a), (1, .int x), (2, .int y), (3, .int h)]) d_Ip_isFed_5 (by decide) rfl ?_
    refine r_iload_n d_Ip_isFed_7 rfl 4 rfl ?_
    refine r_callS (As := [.int h]) (rest := []) (csC := []) (is := []) ln_Ip_158 w_st_Ip_checkHeat ok_Ip_isFed_Ip_checkHeat d_Ip_isFed_8 (C_Ip_checkHeat g h) rfl rfl (Nat.le_of_ble_eq_true rfl) rfl (by decide) (by omega) (by omega) (fun E cs1 hx => ?_) (fun v cs1 hx => ?_)
    · simp only [if_neg hh] at hx
      obtain ⟨e1, rfl⟩ := hx
      cases e1
      exact ⟨rfl, rfl, rfl⟩
    · simp only [if_neg hh] at hx
      exact absurd hx.1 (by simp)
theorem d_Ip_isFed_11 : decode prog_1_method_13_code 11 = .ok (.aload_n 0, 1) := zo_42 (zd_b zq_prog_1_method_13_code_0 11 rfl rfl rfl)
theorem d_Ip_isFed_12 : decode prog_1_method_13_code 12 = .ok (.getfield 19, 3) := zo_180 (d := 0) (e := 19) (zd_b zq_prog_1_method_13_code_0 12 rfl rfl rfl) (zd_b zq_prog_1_method_13_code_0 13 rfl rfl rfl) (zd_b zq_prog_1_method_13_code_0 14 rfl rfl rfl)
theorem d_Ip_isFed_15 : decode prog_1_method_13_code 15 = .ok (.iload_n 3, 1) := zo_29 (zd_b zq_prog_1_method_13_code_0 15 rfl rfl rfl)
theorem d_Ip_isFed_16 : decode prog_1_method_13_code 16 = .ok (.invokevirtual 162, 3) := zo_182 (d := 0) (e := 162) (zd_b zq_prog_1_method_13_code_0 16 rfl rfl rfl) (zd_b zq_prog_1_method_13_code_0 17 rfl rfl rfl) (zd_b zq_prog_1_method_13_code_0 18 rfl rfl rfl)
theorem ok_Ip_isFed_Tr_freeze : z_ok M_Ip_isFed M_Tr_freeze 1 := ⟨z_mj2 (i := 208) rfl (by decide +kernel), rfl, ⟨by decide +kernel, by decide +kernel, by decide +kernel⟩, ⟨by decide, by decide⟩, z_mj1 (i := 3) rfl (by decide +kernel), rfl⟩
theorem d_Ip_isFed_19 : decode prog_1_method_13_code 19 = .ok (.aload_n 0, 1) := zo_42 (zd_b zq_prog_1_method_13_code_0 19 rfl rfl rfl)
theorem d_Ip_isFed_20 : decode prog_1_method_13_code 20 = .ok (.getfield 19, 3) := zo_180 (d := 0) (e := 19) (zd_b zq_prog_1_method_13_code_0 20 rfl rfl rfl) (zd_b zq_prog_1_method_13_code_0 21 rfl rfl rfl) (zd_b zq_prog_1_method_13_code_0 22 rfl rfl rfl)
theorem d_Ip_isFed_23 : decode prog_1_method_13_code 23 = .ok (.getfield 183, 3) := zo_180 (d := 0) (e := 183) (zd_b zq_prog_1_method_13_code_0 23 rfl rfl rfl) (zd_b zq_prog_1_method_13_code_0 24 rfl rfl rfl) (zd_b zq_prog_1_method_13_code_0 25 rfl rfl rfl)
theorem fs_Ip_183 : z_fs "Ironpour" 183 10 3 := ⟨R_Tr, "Ironpour$Trial", F_Tr, 8, rfl, u_Tr, by decide, Or.inr ⟨"Ironpour", z_mk1 (i := 116) rfl (by decide +kernel), rfl⟩⟩
theorem d_Ip_isFed_26 : decode prog_1_method_13_code 26 = .ok (.iload 4, 2) := zo_21 (d := 4) (zd_b zq_prog_1_method_13_code_0 26 rfl rfl rfl) (zd_b zq_prog_1_method_13_code_0 27 rfl rfl rfl)
theorem d_Ip_isFed_28 : decode prog_1_method_13_code 28 = .ok (.baload, 1) := zo_51 (zd_b zq_prog_1_method_13_code_0 28 rfl rfl rfl)
theorem d_Ip_isFed_29 : decode prog_1_method_13_code 29 = .ok (.ireturn, 1) := zo_172 (zd_b zq_prog_1_method_13_code_0 29 rfl rfl rfl)
set_option maxHeartbeats 4000000 in
set_option maxRecDepth 100000 in
theorem C_Ip_isFedN (g : zG) (a pa ta sa gs co fu la gy du re wm ac : Nat) (ta1 ta2 taz taz1 taz2 taz3 taz4 taz5 taz6 ta4 ta5 ta6 : Nat) (X : zTr) (x y : Int32) (h : Int32) (c : Nat) (hz : z_cl x y = some c) (hh : 1200 ≤ h ∧ h ≤ 1500) (hb : (frT h X).2.2.1 c = 0 ∨ (frT h X).2.2.1 c = 1) : CT g M_Ip_isFed [.ref a, .int x, .int y, .int h] [(a, .inr (11, [.ref pa, .ref ta, .ref sa, .ref gs, .ref co, .ref fu, .ref la, .ref gy, .ref du, .ref re, .ref wm, .ref ac])), (ta, .inr (10, [.ref ta1, .ref ta2, .ref taz, .ref ta4, .ref ta5, .ref ta6, .int X.1.2.2.1, .int X.1.2.2.2])), (ta1, .inl (1, 108, .inl X.1.1)), (ta2, .inl (0, 108, .inl X.1.2.1)), (taz, .inr (2, [.ref taz1, .ref taz2, .ref taz3, .ref taz4, .ref taz5, .ref taz6, .int X.2.1.1.1.2.2.2])), (taz1, .inl (0, 108, .inl X.2.1.1.1.1)), (taz2, .inl (0, 108, .inl X.2.1.1.2)), (taz3, .inl (0, 108, .inl X.2.1.1.1.2.1)), (taz4, .inl (0, 108, .inl X.2.1.1.1.2.2.1)), (taz5, .inl (0, 108, .inl X.2.1.2.1)), (taz6, .inl (0, 108, .inl X.2.1.2.2)), (ta4, .inl (2, 108, .inl X.2.2.1)), (ta5, .inl (2, 108, .inl X.2.2.2.1)), (ta6, .inl (0, 108, .inl (fun k => nI (X.2.2.2.2 k))))] (fun o cs1 => o = .inl (some (.int ((frT h X).2.2.1 c))) ∧ cs1 = [(a, .inr (11, [.ref pa, .ref ta, .ref sa, .ref gs, .ref co, .ref fu, .ref la, .ref gy, .ref du, .ref re, .ref wm, .ref ac])), (ta, .inr (10, [.ref ta1, .ref ta2, .ref taz, .ref ta4, .ref ta5, .ref ta6, .int ((frT h X).1.2.2.1), .int ((frT h X).1.2.2.2)])), (ta1, .inl (1, 108, .inl ((frT h X).1.1))), (ta2, .inl (0, 108, .inl ((frT h X).1.2.1))), (taz, .inr (2, [.ref taz1, .ref taz2, .ref taz3, .ref taz4, .ref taz5, .ref taz6, .int ((frT h X).2.1.1.1.2.2.2)])), (taz1, .inl (0, 108, .inl ((frT h X).2.1.1.1.1))), (taz2, .inl (0, 108, .inl ((frT h X).2.1.1.2))), (taz3, .inl (0, 108, .inl ((frT h X).2.1.1.1.2.1))), (taz4, .inl (0, 108, .inl ((frT h X).2.1.1.1.2.2.1))), (taz5, .inl (0, 108, .inl ((frT h X).2.1.2.1))), (taz6, .inl (0, 108, .inl ((frT h X).2.1.2.2))), (ta4, .inl (2, 108, .inl ((frT h X).2.2.1))), (ta5, .inl (2, 108, .inl ((frT h X).2.2.2.1))), (ta6, .inl (0, 108, .inl (fun k => nI ((frT h X).2.2.2.2 k))))]) 2 12 := by
  refine z_of (by decide) rfl (Nat.le_of_ble_eq_true rfl) (fun w0 => ?_)
  refine r_lvE (lv2 := [(0, .ref a), (1, .int x), (2, .int y), (3, .int h)]) rfl ?_
  have hc := z_cl_lt hz
  refine r_iload_n d_Ip_isFed_0 rfl 1 rfl ?_
  refine r_iload_n d_Ip_isFed_1 rfl 2 rfl ?_
  refine r_callS (As := [.int x, .int y]) (rest := []) (csC := []) (is := []) ln_Ip_114 w_st_Ip_cellAt ok_Ip_isFed_Ip_cellAt d_Ip_isFed_2 (C_Ip_cellAt g x y) rfl rfl (Nat.le_of_ble_eq_true rfl) rfl (by decide) (by omega) (by omega) (fun E cs1 hx => ?_) (fun v cs1 hx => ?_)
  · simp only [hz] at hx
    exact absurd hx.1 (by simp)
  · simp only [hz] at hx
    obtain ⟨e1, rfl⟩ := hx
    cases e1
    refine ⟨rfl, ?_⟩
    refine r_st (st2 := [.int (nI c)]) rfl ?_
    refine r_cs (cs2 := [(a, .inr (11, [.ref pa, .ref ta, .ref sa, .ref gs, .ref co, .ref fu, .ref la, .ref gy, .ref du, .ref re, .ref wm, .ref ac])), (ta, .inr (10, [.ref ta1, .ref ta2, .ref taz, .ref ta4, .ref ta5, .ref ta6, .int X.1.2.2.1, .int X.1.2.2.2])), (ta1, .inl (1, 108, .inl X.1.1)), (ta2, .inl (0, 108, .inl X.1.2.1)), (taz, .inr (2, [.ref taz1, .ref taz2, .ref taz3, .ref taz4, .ref taz5, .ref taz6, .int X.2.1.1.1.2.2.2])), (taz1, .inl (0, 108, .inl X.2.1.1.1.1)), (taz2, .inl (0, 108, .inl X.2.1.1.2)), (taz3, .inl (0, 108, .inl X.2.1.1.1.2.1)), (taz4, .inl (0, 108, .inl X.2.1.1.1.2.2.1)), (taz5, .inl (0, 108, .inl X.2.1.2.1)), (taz6, .inl (0, 108, .inl X.2.1.2.2)), (ta4, .inl (2, 108, .inl X.2.2.1)), (ta5, .inl (2, 108, .inl X.2.2.2.1)), (ta6, .inl (0, 108, .inl (fun k => nI (X.2.2.2.2 k))))]) rfl ?_
    refine r_istore (lv' := [(4, .int (nI c)), (0, .ref a), (1, .int x), (2, .int y), (3, .int h)]) d_Ip_isFed_5 (by decide) rfl ?_
    refine r_iload_n d_Ip_isFed_7 rfl 4 rfl ?_
    refine r_callS (As := [.int h]) (rest := []) (csC := []) (is := []) ln_Ip_158 w_st_Ip_checkHeat ok_Ip_isFed_Ip_checkHeat d_Ip_isFed_8 (C_Ip_checkHeat g h) rfl rfl (Nat.le_of_ble_eq_true rfl) rfl (by decide) (by omega) (by omega) (fun E cs1 hx => ?_) (fun v cs1 hx => ?_)
    · simp only [if_pos hh] at hx
      exact absurd hx.1 (by simp)
    · simp only [if_pos hh] at hx
      obtain ⟨e1, rfl⟩ := hx
      cases e1
      refine ⟨rfl, ?_⟩
      refine r_st (st2 := []) rfl ?_
      refine r_cs (cs2 := [(a, .inr (11, [.ref pa, .ref ta, .ref sa, .ref gs, .ref co, .ref fu, .ref la, .ref gy, .ref du, .ref re, .ref wm, .ref ac])), (ta, .inr (10, [.ref ta1, .ref ta2, .ref taz, .ref ta4, .ref ta5, .ref ta6, .int X.1.2.2.1, .int X.1.2.2.2])), (ta1, .inl (1, 108, .inl X.1.1)), (ta2, .inl (0, 108, .inl X.1.2.1)), (taz, .inr (2, [.ref taz1, .ref taz2, .ref taz3, .ref taz4, .ref taz5, .ref taz6, .int X.2.1.1.1.2.2.2])), (taz1, .inl (0, 108, .inl X.2.1.1.1.1)), (taz2, .inl (0, 108, .inl X.2.1.1.2)), (taz3, .inl (0, 108, .inl X.2.1.1.1.2.1)), (taz4, .inl (0, 108, .inl X.2.1.1.1.2.2.1)), (taz5, .inl (0, 108, .inl X.2.1.2.1)), (taz6, .inl (0, 108, .inl X.2.1.2.2)), (ta4, .inl (2, 108, .inl X.2.2.1)), (ta5, .inl (2, 108, .inl X.2.2.2.1)), (ta6, .inl (0, 108, .inl (fun k => nI (X.2.2.2.2 k))))]) rfl ?_
      refine r_aload_n d_Ip_isFed_11 rfl 1 rfl ?_
      refine r_get fs_Ip_19 d_Ip_isFed_12 (q0 := 0) rfl rfl ?_
      refine r_iload_n d_Ip_isFed_15 rfl 4 rfl ?_
      refine r_callV (As := [.int h]) (rest := []) (csC := [(ta, .inr (10, [.ref ta1, .ref ta2, .ref taz, .ref ta4, .ref ta5, .ref ta6, .int X.1.2.2.1, .int X.1.2.2.2])), (ta1, .inl (1, 108, .inl X.1.1)), (ta2, .inl (0, 108, .inl X.1.2.1)), (taz, .inr (2, [.ref taz1, .ref taz2, .ref taz3, .ref taz4, .ref taz5, .ref taz6, .int X.2.1.1.1.2.2.2])), (taz1, .inl (0, 108, .inl X.2.1.1.1.1)), (taz2, .inl (0, 108, .inl X.2.1.1.2)), (taz3, .inl (0, 108, .inl X.2.1.1.1.2.1)), (taz4, .inl (0, 108, .inl X.2.1.1.1.2.2.1)), (taz5, .inl (0, 108, .inl X.2.1.2.1)), (taz6, .inl (0, 108, .inl X.2.1.2.2)), (ta4, .inl (2, 108, .inl X.2.2.1)), (ta5, .inl (2, 108, .inl X.2.2.2.1)), (ta6, .inl (0, 108, .inl (fun k => nI (X.2.2.2.2 k))))]) (is := [1, 2, 3, 4, 5, 6, 7, 8, 9, 10, 11, 12, 13]) (q0 := 1) rfl rfl ln_Ip_162 w_im_Tr_freeze w_se_Tr_freeze ok_Ip_isFed_Tr_freeze d_Ip_isFed_16 (X_freeze g ta ta1 ta2 taz taz1 taz2 taz3 taz4 taz5 taz6 ta4 ta5 ta6 h X) rfl rfl (Nat.le_of_ble_eq_true rfl) rfl (by decide) (by omega) (by omega) (fun E cs1 hx => ?_) (fun v cs1 hx => ?_)
      · exact absurd hx.1 (by simp)
      · obtain ⟨e1, rfl⟩ := hx
        cases e1
        refine ⟨rfl, ?_⟩
        refine r_st (st2 := []) rfl ?_
        refine r_cs (cs2 := [(a, .inr (11, [.ref pa, .ref ta, .ref sa, .ref gs, .ref co, .ref fu, .ref la, .ref gy, .ref du, .ref re, .ref wm, .ref ac])), (ta, .inr (10, [.ref ta1, .ref ta2, .ref taz, .ref ta4, .ref ta5, .ref ta6, .int ((frT h X).1.2.2.1), .int ((frT h X).1.2.2.2)])), (ta1, .inl (1, 108, .inl ((frT h X).1.1))), (ta2, .inl (0, 108, .inl ((frT h X).1.2.1))), (taz, .inr (2, [.ref taz1, .ref taz2, .ref taz3, .ref taz4, .ref taz5, .ref taz6, .int ((frT h X).2.1.1.1.2.2.2)])), (taz1, .inl (0, 108, .inl ((frT h X).2.1.1.1.1))), (taz2, .inl (0, 108, .inl ((frT h X).2.1.1.2))), (taz3, .inl (0, 108, .inl ((frT h X).2.1.1.1.2.1))), (taz4, .inl (0, 108, .inl ((frT h X).2.1.1.1.2.2.1))), (taz5, .inl (0, 108, .inl ((frT h X).2.1.2.1))), (taz6, .inl (0, 108, .inl ((frT h X).2.1.2.2))), (ta4, .inl (2, 108, .inl ((frT h X).2.2.1))), (ta5, .inl (2, 108, .inl ((frT h X).2.2.2.1))), (ta6, .inl (0, 108, .inl (fun k => nI ((frT h X).2.2.2.2 k))))]) rfl ?_
        refine r_aload_n d_Ip_isFed_19 rfl 1 rfl ?_
        refine r_get fs_Ip_19 d_Ip_isFed_20 (q0 := 0) rfl rfl ?_
        refine r_get fs_Ip_183 d_Ip_isFed_23 (q0 := 1) rfl rfl ?_
        refine r_iload d_Ip_isFed_26 0 rfl ?_
        refine r_zald d_Ip_isFed_28 (q0 := 11) rfl (vp_in_nI (by omega) (by omega)) (v := ((frT h X).2.2.1) c) (by rw [nI_clamp (by omega)]) ?_
        refine r_iret d_Ip_isFed_29 rfl (by rcases hb with e | e <;> rw [e] <;> rfl) ?_
        exact ⟨rfl, rfl⟩
abbrev M_Ip_shrunk : zM := (⟨"Ironpour", "shrunk", "(I)I"⟩, prog_1_method_14_code, 2, (Option.some FieldType.int), 7, 136, [])
theorem d_Ip_shrunk_0 : decode prog_1_method_14_code 0 = .ok (.iload_n 1, 1) := zo_27 (zd_b zq_prog_1_method_14_code_0 0 rfl rfl rfl)
theorem d_Ip_shrunk_1 : decode prog_1_method_14_code 1 = .ok (.invokestatic 158, 3) := zo_184 (d := 0) (e := 158) (zd_b zq_prog_1_method_14_code_0 1 rfl rfl rfl) (zd_b zq_prog_1_method_14_code_0 2 rfl rfl rfl) (zd_b zq_prog_1_method_14_code_0 3 rfl rfl rfl)
theorem ok_Ip_shrunk_Ip_checkHeat : z_ok M_Ip_shrunk M_Ip_checkHeat 1 := ⟨z_mj4 (i := 94) rfl (by decide +kernel), rfl, ⟨by decide +kernel, by decide +kernel, by decide +kernel⟩, ⟨by decide, by decide⟩, z_mj1 (i := 1) rfl (by decide +kernel), rfl⟩
set_option maxHeartbeats 4000000 in
set_option maxRecDepth 100000 in
theorem C_Ip_shrunkE (g : zG) (a pa ta sa gs co fu la gy du re wm ac : Nat) (ta1 ta2 taz taz1 taz2 taz3 taz4 taz5 taz6 ta4 ta5 ta6 : Nat) (X : zTr) (h : Int32) (hh : ¬ (1200 ≤ h ∧ h ≤ 1500)) : CT g M_Ip_shrunk [.ref a, .int h] [(a, .inr (11, [.ref pa, .ref ta, .ref sa, .ref gs, .ref co, .ref fu, .ref la, .ref gy, .ref du, .ref re, .ref wm, .ref ac])), (ta, .inr (10, [.ref ta1, .ref ta2, .ref taz, .ref ta4, .ref ta5, .ref ta6, .int X.1.2.2.1, .int X.1.2.2.2])), (ta1, .inl (1, 108, .inl X.1.1)), (ta2, .inl (0, 108, .inl X.1.2.1)), (taz, .inr (2, [.ref taz1, .ref taz2, .ref taz3, .ref taz4, .ref taz5, .ref taz6, .int X.2.1.1.1.2.2.2])), (taz1, .inl (0, 108, .inl X.2.1.1.1.1)), (taz2, .inl (0, 108, .inl X.2.1.1.2)), (taz3, .inl (0, 108, .inl X.2.1.1.1.2.1)), (taz4, .inl (0, 108, .inl X.2.1.1.1.2.2.1)), (taz5, .inl (0, 108, .inl X.2.1.2.1)), (taz6, .inl (0, 108, .inl X.2.1.2.2)), (ta4, .inl (2, 108, .inl X.2.2.1)), (ta5, .inl (2, 108, .inl X.2.2.2.1)), (ta6, .inl (0, 108, .inl (fun k => nI (X.2.2.2.2 k))))] (fun o cs1 => o = .inr "java/lang/IllegalArgumentException" ∧ cs1 = [(a, .inr (11, [.ref pa, .ref ta, .ref sa, .ref gs, .ref co, .ref fu, .ref la, .ref gy, .ref du, .ref re, .ref wm, .ref ac])), (ta, .inr (10, [.ref ta1, .ref ta2, .ref taz, .ref ta4, .ref ta5, .ref ta6, .int X.1.2.2.1, .int X.1.2.2.2])), (ta1, .inl (1, 108, .inl X.1.1)), (ta2, .inl (0, 108, .inl X.1.2.1)), (taz, .inr (2, [.ref taz1, .ref taz2, .ref taz3, .ref taz4, .ref taz5, .ref taz6, .int X.2.1.1.1.2.2.2])), (taz1, .inl (0, 108, .inl X.2.1.1.1.1)), (taz2, .inl (0, 108, .inl X.2.1.1.2)), (taz3, .inl (0, 108, .inl X.2.1.1.1.2.1)), (taz4, .inl (0, 108, .inl X.2.1.1.1.2.2.1)), (taz5, .inl (0, 108, .inl X.2.1.2.1)), (taz6, .inl (0, 108, .inl X.2.1.2.2)), (ta4, .inl (2, 108, .inl X.2.2.1)), (ta5, .inl (2, 108, .inl X.2.2.2.1)), (ta6, .inl (0, 108, .inl (fun k => nI (X.2.2.2.2 k))))]) 1 6 := by
  refine z_of (by decide) rfl (Nat.le_of_ble_eq_true rfl) (fun w0 => ?_)
  refine r_lvE (lv2 := [(0, .ref a), (1, .int h)]) rfl ?_
  refine r_iload_n d_Ip_shrunk_0 rfl 1 rfl ?_
  refine r_callS (As := [.int h]) (rest := []) (csC := []) (is := []) ln_Ip_158 w_st_Ip_checkHeat ok_Ip_shrunk_Ip_checkHeat d_Ip_shrunk_1 (C_Ip_checkHeat g h) rfl rfl (Nat.le_of_ble_eq_true rfl) rfl (by decide) (by omega) (by omega) (fun E cs1 hx => ?_) (fun v cs1 hx => ?_)
  · simp only [if_neg hh] at hx
    obtain ⟨e1, rfl⟩ := hx
    cases e1
    exact ⟨rfl, rfl, rfl⟩
  · simp only [if_neg hh] at hx
    exact absurd hx.1 (by simp)
theorem d_Ip_shrunk_4 : decode prog_1_method_14_code 4 = .ok (.aload_n 0, 1) := zo_42 (zd_b zq_prog_1_method_14_code_0 4 rfl rfl rfl)
theorem d_Ip_shrunk_5 : decode prog_1_method_14_code 5 = .ok (.getfield 19, 3) := zo_180 (d := 0) (e := 19) (zd_b zq_prog_1_method_14_code_0 5 rfl rfl rfl) (zd_b zq_prog_1_method_14_code_0 6 rfl rfl rfl) (zd_b zq_prog_1_method_14_code_0 7 rfl rfl rfl)
theorem d_Ip_shrunk_8 : decode prog_1_method_14_code 8 = .ok (.iload_n 1, 1) := zo_27 (zd_b zq_prog_1_method_14_code_0 8 rfl rfl rfl)
theorem d_Ip_shrunk_9 : decode prog_1_method_14_code 9 = .ok (.invokevirtual 162, 3) := zo_182 (d := 0) (e := 162) (zd_b zq_prog_1_method_14_code_0 9 rfl rfl rfl) (zd_b zq_prog_1_method_14_code_0 10 rfl rfl rfl) (zd_b zq_prog_1_method_14_code_0 11 rfl rfl rfl)
theorem ok_Ip_shrunk_Tr_freeze : z_ok M_Ip_shrunk M_Tr_freeze 1 := ⟨z_mj2 (i := 208) rfl (by decide +kernel), rfl, ⟨by decide +kernel, by decide +kernel, by decide +kernel⟩, ⟨by decide, by decide⟩, z_mj1 (i := 3) rfl (by decide +kernel), rfl⟩
theorem d_Ip_shrunk_12 : decode prog_1_method_14_code 12 = .ok (.aload_n 0, 1) := zo_42 (zd_b zq_prog_1_method_14_code_0 12 rfl rfl rfl)
theorem d_Ip_shrunk_13 : decode prog_1_method_14_code 13 = .ok (.getfield 19, 3) := zo_180 (d := 0) (e := 19) (zd_b zq_prog_1_method_14_code_0 13 rfl rfl rfl) (zd_b zq_prog_1_method_14_code_0 14 rfl rfl rfl) (zd_b zq_prog_1_method_14_code_0 15 rfl rfl rfl)
theorem d_Ip_shrunk_16 : decode prog_1_method_14_code 16 = .ok (.invokevirtual 187, 3) := zo_182 (d := 0) (e := 187) (zd_b zq_prog_1_method_14_code_0 16 rfl rfl rfl) (zd_b zq_prog_1_method_14_code_0 17 rfl rfl rfl) (zd_b zq_prog_1_method_14_code_0 18 rfl rfl rfl)
theorem ok_Ip_shrunk_Tr_shrunkCells : z_ok M_Ip_shrunk M_Tr_shrunkCells 0 := ⟨z_mj4 (i := 128) rfl (by decide +kernel), rfl, ⟨by decide +kernel, by decide +kernel, by decide +kernel⟩, ⟨by decide, by decide⟩, z_mj1 (i := 3) rfl (by decide +kernel), rfl⟩
theorem ln_Ip_187 : Cond.methodLink "Ironpour" 187 M_Tr_shrunkCells.1 ∈ z_gw := z_mj4 (i := 125) rfl (by decide +kernel)
theorem w_im_Tr_shrunkCells : Cond.instanceMethod M_Tr_shrunkCells.1 ∈ z_gw := z_mj4 (i := 126) rfl (by decide +kernel)
theorem w_se_Tr_shrunkCells : Cond.selects M_Tr_shrunkCells.1.cls M_Tr_shrunkCells.1 M_Tr_shrunkCells.1 ∈ z_gw := z_mj4 (i := 127) rfl (by decide +kernel)
theorem d_Ip_shrunk_19 : decode prog_1_method_14_code 19 = .ok (.ireturn, 1) := zo_172 (zd_b zq_prog_1_method_14_code_0 19 rfl rfl rfl)
set_option maxHeartbeats 4000000 in
set_option maxRecDepth 100000 in
theorem C_Ip_shrunkN (g : zG) (a pa ta sa gs co fu la gy du re wm ac : Nat) (ta1 ta2 taz taz1 taz2 taz3 taz4 taz5 taz6 ta4 ta5 ta6 : Nat) (X : zTr) (h : Int32) (hh : 1200 ≤ h ∧ h ≤ 1500) : CT g M_Ip_shrunk [.ref a, .int h] [(a, .inr (11, [.ref pa, .ref ta, .ref sa, .ref gs, .ref co, .ref fu, .ref la, .ref gy, .ref du, .ref re, .ref wm, .ref ac])), (ta, .inr (10, [.ref ta1, .ref ta2, .ref taz, .ref ta4, .ref ta5, .ref ta6, .int X.1.2.2.1, .int X.1.2.2.2])), (ta1, .inl (1, 108, .inl X.1.1)), (ta2, .inl (0, 108, .inl X.1.2.1)), (taz, .inr (2, [.ref taz1, .ref taz2, .ref taz3, .ref taz4, .ref taz5, .ref taz6, .int X.2.1.1.1.2.2.2])), (taz1, .inl (0, 108, .inl X.2.1.1.1.1)), (taz2, .inl (0, 108, .inl X.2.1.1.2)), (taz3, .inl (0, 108, .inl X.2.1.1.1.2.1)), (taz4, .inl (0, 108, .inl X.2.1.1.1.2.2.1)), (taz5, .inl (0, 108, .inl X.2.1.2.1)), (taz6, .inl (0, 108, .inl X.2.1.2.2)), (ta4, .inl (2, 108, .inl X.2.2.1)), (ta5, .inl (2, 108, .inl X.2.2.2.1)), (ta6, .inl (0, 108, .inl (fun k => nI (X.2.2.2.2 k))))] (fun o cs1 => o = .inl (some (.int (nI (shN (frT h X))))) ∧ cs1 = [(a, .inr (11, [.ref pa, .ref ta, .ref sa, .ref gs, .ref co, .ref fu, .ref la, .ref gy, .ref du, .ref re, .ref wm, .ref ac])), (ta, .inr (10, [.ref ta1, .ref ta2, .ref taz, .ref ta4, .ref ta5, .ref ta6, .int ((frT h X).1.2.2.1), .int ((frT h X).1.2.2.2)])), (ta1, .inl (1, 108, .inl ((frT h X).1.1))), (ta2, .inl (0, 108, .inl ((frT h X).1.2.1))), (taz, .inr (2, [.ref taz1, .ref taz2, .ref taz3, .ref taz4, .ref taz5, .ref taz6, .int ((frT h X).2.1.1.1.2.2.2)])), (taz1, .inl (0, 108, .inl ((frT h X).2.1.1.1.1))), (taz2, .inl (0, 108, .inl ((frT h X).2.1.1.2))), (taz3, .inl (0, 108, .inl ((frT h X).2.1.1.1.2.1))), (taz4, .inl (0, 108, .inl ((frT h X).2.1.1.1.2.2.1))), (taz5, .inl (0, 108, .inl ((frT h X).2.1.2.1))), (taz6, .inl (0, 108, .inl ((frT h X).2.1.2.2))), (ta4, .inl (2, 108, .inl ((frT h X).2.2.1))), (ta5, .inl (2, 108, .inl ((frT h X).2.2.2.1))), (ta6, .inl (0, 108, .inl (fun k => nI ((frT h X).2.2.2.2 k))))]) 1 6 := by
  refine z_of (by decide) rfl (Nat.le_of_ble_eq_true rfl) (fun w0 => ?_)
  refine r_lvE (lv2 := [(0, .ref a), (1, .int h)]) rfl ?_
  refine r_iload_n d_Ip_shrunk_0 rfl 1 rfl ?_
  refine r_callS (As := [.int h]) (rest := []) (csC := []) (is := []) ln_Ip_158 w_st_Ip_checkHeat ok_Ip_shrunk_Ip_checkHeat d_Ip_shrunk_1 (C_Ip_checkHeat g h) rfl rfl (Nat.le_of_ble_eq_true rfl) rfl (by decide) (by omega) (by omega) (fun E cs1 hx => ?_) (fun v cs1 hx => ?_)
  · simp only [if_pos hh] at hx
    exact absurd hx.1 (by simp)
  · simp only [if_pos hh] at hx
    obtain ⟨e1, rfl⟩ := hx
    cases e1
    refine ⟨rfl, ?_⟩
    refine r_st (st2 := []) rfl ?_
    refine r_cs (cs2 := [(a, .inr (11, [.ref pa, .ref ta, .ref sa, .ref gs, .ref co, .ref fu, .ref la, .ref gy, .ref du, .ref re, .ref wm, .ref ac])), (ta, .inr (10, [.ref ta1, .ref ta2, .ref taz, .ref ta4, .ref ta5, .ref ta6, .int X.1.2.2.1, .int X.1.2.2.2])), (ta1, .inl (1, 108, .inl X.1.1)), (ta2, .inl (0, 108, .inl X.1.2.1)), (taz, .inr (2, [.ref taz1, .ref taz2, .ref taz3, .ref taz4, .ref taz5, .ref taz6, .int X.2.1.1.1.2.2.2])), (taz1, .inl (0, 108, .inl X.2.1.1.1.1)), (taz2, .inl (0, 108, .inl X.2.1.1.2)), (taz3, .inl (0, 108, .inl X.2.1.1.1.2.1)), (taz4, .inl (0, 108, .inl X.2.1.1.1.2.2.1)), (taz5, .inl (0, 108, .inl X.2.1.2.1)), (taz6, .inl (0, 108, .inl X.2.1.2.2)), (ta4, .inl (2, 108, .inl X.2.2.1)), (ta5, .inl (2, 108, .inl X.2.2.2.1)), (ta6, .inl (0, 108, .inl (fun k => nI (X.2.2.2.2 k))))]) rfl ?_
    refine r_aload_n d_Ip_shrunk_4 rfl 0 rfl ?_
    refine r_get fs_Ip_19 d_Ip_shrunk_5 (q0 := 0) rfl rfl ?_
    refine r_iload_n d_Ip_shrunk_8 rfl 1 rfl ?_
    refine r_callV (As := [.int h]) (rest := []) (csC := [(ta, .inr (10, [.ref ta1, .ref ta2, .ref taz, .ref ta4, .ref ta5, .ref ta6, .int X.1.2.2.1, .int X.1.2.2.2])), (ta1, .inl (1, 108, .inl X.1.1)), (ta2, .inl (0, 108, .inl X.1.2.1)), (taz, .inr (2, [.ref taz1, .ref taz2, .ref taz3, .ref taz4, .ref taz5, .ref taz6, .int X.2.1.1.1.2.2.2])), (taz1, .inl (0, 108, .inl X.2.1.1.1.1)), (taz2, .inl (0, 108, .inl X.2.1.1.2)), (taz3, .inl (0, 108, .inl X.2.1.1.1.2.1)), (taz4, .inl (0, 108, .inl X.2.1.1.1.2.2.1)), (taz5, .inl (0, 108, .inl X.2.1.2.1)), (taz6, .inl (0, 108, .inl X.2.1.2.2)), (ta4, .inl (2, 108, .inl X.2.2.1)), (ta5, .inl (2, 108, .inl X.2.2.2.1)), (ta6, .inl (0, 108, .inl (fun k => nI (X.2.2.2.2 k))))]) (is := [1, 2, 3, 4, 5, 6, 7, 8, 9, 10, 11, 12, 13]) (q0 := 1) rfl rfl ln_Ip_162 w_im_Tr_freeze w_se_Tr_freeze ok_Ip_shrunk_Tr_freeze d_Ip_shrunk_9 (X_freeze g ta ta1 ta2 taz taz1 taz2 taz3 taz4 taz5 taz6 ta4 ta5 ta6 h X) rfl rfl (Nat.le_of_ble_eq_true rfl) rfl (by decide) (by omega) (by omega) (fun E cs1 hx => ?_) (fun v cs1 hx => ?_)
    · exact absurd hx.1 (by simp)
    · obtain ⟨e1, rfl⟩ := hx
      cases e1
      refine ⟨rfl, ?_⟩
      refine r_st (st2 := []) rfl ?_
      refine r_cs (cs2 := [(a, .inr (11, [.ref pa, .ref ta, .ref sa, .ref gs, .ref co, .ref fu, .ref la, .ref gy, .ref du, .ref re, .ref wm, .ref ac])), (ta, .inr (10, [.ref ta1, .ref ta2, .ref taz, .ref ta4, .ref ta5, .ref ta6, .int ((frT h X).1.2.2.1), .int ((frT h X).1.2.2.2)])), (ta1, .inl (1, 108, .inl ((frT h X).1.1))), (ta2, .inl (0, 108, .inl ((frT h X).1.2.1))), (taz, .inr (2, [.ref taz1, .ref taz2, .ref taz3, .ref taz4, .ref taz5, .ref taz6, .int ((frT h X).2.1.1.1.2.2.2)])), (taz1, .inl (0, 108, .inl ((frT h X).2.1.1.1.1))), (taz2, .inl (0, 108, .inl ((frT h X).2.1.1.2))), (taz3, .inl (0, 108, .inl ((frT h X).2.1.1.1.2.1))), (taz4, .inl (0, 108, .inl ((frT h X).2.1.1.1.2.2.1))), (taz5, .inl (0, 108, .inl ((frT h X).2.1.2.1))), (taz6, .inl (0, 108, .inl ((frT h X).2.1.2.2))), (ta4, .inl (2, 108, .inl ((frT h X).2.2.1))), (ta5, .inl (2, 108, .inl ((frT h X).2.2.2.1))), (ta6, .inl (0, 108, .inl (fun k => nI ((frT h X).2.2.2.2 k))))]) rfl ?_
      refine r_aload_n d_Ip_shrunk_12 rfl 0 rfl ?_
      refine r_get fs_Ip_19 d_Ip_shrunk_13 (q0 := 0) rfl rfl ?_
      refine r_callV (As := []) (rest := []) (csC := [(ta, .inr (10, [.ref ta1, .ref ta2, .ref taz, .ref ta4, .ref ta5, .ref ta6, .int ((frT h X).1.2.2.1), .int ((frT h X).1.2.2.2)])), (ta1, .inl (1, 108, .inl ((frT h X).1.1))), (ta2, .inl (0, 108, .inl ((frT h X).1.2.1))), (taz, .inr (2, [.ref taz1, .ref taz2, .ref taz3, .ref taz4, .ref taz5, .ref taz6, .int ((frT h X).2.1.1.1.2.2.2)])), (taz4, .inl (0, 108, .inl ((frT h X).2.1.1.1.2.2.1))), (ta4, .inl (2, 108, .inl ((frT h X).2.2.1))), (ta5, .inl (2, 108, .inl ((frT h X).2.2.2.1))), (ta6, .inl (0, 108, .inl (fun k => nI ((frT h X).2.2.2.2 k))))]) (is := [1, 2, 3, 4, 8, 11, 12, 13]) (q0 := 1) rfl rfl ln_Ip_187 w_im_Tr_shrunkCells w_se_Tr_shrunkCells ok_Ip_shrunk_Tr_shrunkCells d_Ip_shrunk_16 (X_shrunkCells g ta ta1 ta2 taz taz1 taz2 taz3 taz4 taz5 taz6 ta4 ta5 ta6 (frT h X)) rfl rfl (Nat.le_of_ble_eq_true rfl) rfl (by decide) (by omega) (by omega) (fun E cs1 hx => ?_) (fun v cs1 hx => ?_)
      · exact absurd hx.1 (by simp)
      · obtain ⟨e1, rfl⟩ := hx
        cases e1
        refine ⟨rfl, ?_⟩
        refine r_st (st2 := [.int (nI (shN (frT h X)))]) rfl ?_
        refine r_cs (cs2 := [(a, .inr (11, [.ref pa, .ref ta, .ref sa, .ref gs, .ref co, .ref fu, .ref la, .ref gy, .ref du, .ref re, .ref wm, .ref ac])), (ta, .inr (10, [.ref ta1, .ref ta2, .ref taz, .ref ta4, .ref ta5, .ref ta6, .int ((frT h X).1.2.2.1), .int ((frT h X).1.2.2.2)])), (ta1, .inl (1, 108, .inl ((frT h X).1.1))), (ta2, .inl (0, 108, .inl ((frT h X).1.2.1))), (taz, .inr (2, [.ref taz1, .ref taz2, .ref taz3, .ref taz4, .ref taz5, .ref taz6, .int ((frT h X).2.1.1.1.2.2.2)])), (taz1, .inl (0, 108, .inl ((frT h X).2.1.1.1.1))), (taz2, .inl (0, 108, .inl ((frT h X).2.1.1.2))), (taz3, .inl (0, 108, .inl ((frT h X).2.1.1.1.2.1))), (taz4, .inl (0, 108, .inl ((frT h X).2.1.1.1.2.2.1))), (taz5, .inl (0, 108, .inl ((frT h X).2.1.2.1))), (taz6, .inl (0, 108, .inl ((frT h X).2.1.2.2))), (ta4, .inl (2, 108, .inl ((frT h X).2.2.1))), (ta5, .inl (2, 108, .inl ((frT h X).2.2.2.1))), (ta6, .inl (0, 108, .inl (fun k => nI ((frT h X).2.2.2.2 k))))]) rfl ?_
        refine r_iret d_Ip_shrunk_19 rfl rfl ?_
        exact ⟨rfl, rfl⟩
end
