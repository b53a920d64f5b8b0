def moB (f sn : Nat → Int32) (qn : Nat → Nat) (p : Nat) : Int32 := if 0 < (grS f 2 (fa_fill (fun _ => 0) sn 108, qn, 0) 108).2.2 ∨ 0 < ucT f p 12 then 1 else 0
theorem grS_le {f : Nat → Int32} {m : Nat} {S0 : zT} (h0 : S0.2.2 = 0) : ∀ i, (grS f m S0 i).2.2 ≤ i
  | 0 => by show S0.2.2 ≤ 0; omega
  | i + 1 => by
    have ih := grS_le (f := f) (m := m) h0 i
    by_cases q : f i = 111 ∧ (grS f m S0 i).1 i = 0
    · by_cases q2 : (bgB f (grS f m S0 i).1 (grS f m S0 i).2.1 i).2 < m
      · rw [grS_t q q2]; show _ + 1 ≤ _; omega
      · rw [grS_n q q2]; show (grS f m S0 i).2.2 ≤ i + 1; omega
    · rw [grS_f q]; omega
theorem ucT_le {f : Nat → Int32} {p : Nat} (hp : p < 9) : ∀ x, ucT f p x ≤ 9 * x
  | 0 => Nat.zero_le _
  | x + 1 => by
    have ih := ucT_le (f := f) hp x
    have h1 := ucS_le (ks := fun k => f ((p - 1 - k) * 12 + x)) p
    have h2 := ucS_le (ks := fun k => f ((p + k) * 12 + x)) (9 - p)
    show ucT f p x + ((ucS (fun k => f ((p - 1 - k) * 12 + x)) p).2 + (ucS (fun k => f ((p + k) * 12 + x)) (9 - p)).2) ≤ _
    omega
def mo1 (bad sp sr : Int32) : Int32 := if sp ≤ sr then (if bad = 0 then 0 else 16) else (if bad = 0 then 0 else 16) ||| 4
def moF (bad sp sr dr wa wt : Int32) : Int32 := if 80 ≤ dr then (if wt ≤ 60 then mo1 bad sp sr else mo1 bad sp sr ||| 8) else if 40 < wa then mo1 bad sp sr ||| 8 else (if wt ≤ 60 then mo1 bad sp sr else mo1 bad sp sr ||| 8)
def beI (mg : Int32) (gr : Nat → Int64) (ir : Int32) : Int32 := if mg < 20 then 500 - 2 * (if 0 < caI gr ir - 300 then caI gr ir - 300 else 0) else 400 + 2 * mg
def bbI (mg : Int32) (gr : Nat → Int64) (ir fb : Int32) : Int32 := if 0 < beI mg gr ir - 30 * S_In_bitCount fb then beI mg gr ir - 30 * S_In_bitCount fb else 0
def ihB (mg : Int32) (gr : Nat → Int64) (ir : Int32) : Bool := decide (caI gr ir < 370 ∨ (¬ mg ≤ 0 ∧ mg < 20))
def hfB (fb k : Int32) : Bool := decide (¬ fb &&& k = 0)
abbrev M_Mo_init : zM := (⟨"Ironpour$Mould", "<init>", "(LIronpour$Pattern;LIronpour$GreenSand;)V"⟩, prog_9_method_1_code, 3, (Option.none : Option FieldType), 5, 111, [])
theorem d_Mo_init_0 : decode prog_9_method_1_code 0 = .ok (.aload_n 0, 1) := zo_42 (zd_b zq_prog_9_method_1_code_0 0 rfl rfl rfl)
theorem d_Mo_init_1 : decode prog_9_method_1_code 1 = .ok (.invokespecial 3, 3) := zo_183 (d := 0) (e := 3) (zd_b zq_prog_9_method_1_code_0 1 rfl rfl rfl) (zd_b zq_prog_9_method_1_code_0 2 rfl rfl rfl) (zd_b zq_prog_9_method_1_code_0 3 rfl rfl rfl)
theorem ln_Mo_3 : Cond.methodLink "Ironpour$Mould" 3 Lib.objectInit ∈ z_gw := z_mj5 (i := 235) rfl (by decide +kernel)
theorem d_Mo_init_4 : decode prog_9_method_1_code 4 = .ok (.aload_n 0, 1) := zo_42 (zd_b zq_prog_9_method_1_code_0 4 rfl rfl rfl)
theorem d_Mo_init_5 : decode prog_9_method_1_code 5 = .ok (.bipush 108, 2) := zo_16 (d := 108) (zd_b zq_prog_9_method_1_code_0 5 rfl rfl rfl) (zd_b zq_prog_9_method_1_code_0 6 rfl rfl rfl) (by decide +kernel)
theorem d_Mo_init_7 : decode prog_9_method_1_code 7 = .ok (.newarray .char, 2) := by decide +kernel
theorem d_Mo_init_9 : decode prog_9_method_1_code 9 = .ok (.putfield 9, 3) := zo_181 (d := 0) (e := 9) (zd_b zq_prog_9_method_1_code_0 9 rfl rfl rfl) (zd_b zq_prog_9_method_1_code_0 10 rfl rfl rfl) (zd_b zq_prog_9_method_1_code_0 11 rfl rfl rfl)
theorem u_Mo : ∀ x ∈ u_ws R_Mo F_Mo 8, x ∈ z_gw := fun x hx => List.mem_filter.mpr ⟨(z_au [(6, 14), (6, 16), (6, 18), (6, 20), (6, 22), (6, 24), (6, 26), (6, 28)] (by decide +kernel) : ∀ x ∈ u_ws R_Mo F_Mo 8, x ∈ lw_tbl) x hx, (show ∀ x ∈ u_ws R_Mo F_Mo 8, goodWord x = true by decide +kernel) x hx⟩
theorem fp_Mo_9 : z_fp "Ironpour$Mould" 9 7 0 true (t_Mo 0) := ⟨R_Mo, "Ironpour$Mould", F_Mo, 8, t_Mo, rfl, u_Mo, by decide, t_Mo_ok, n_Mo, rfl, rfl, Or.inl ⟨z_mj6 (i := 3) rfl (by decide +kernel), Or.inl rfl, fun _ => ⟨rfl, rfl⟩⟩⟩
theorem d_Mo_init_12 : decode prog_9_method_1_code 12 = .ok (.aload_n 1, 1) := zo_43 (zd_b zq_prog_9_method_1_code_0 12 rfl rfl rfl)
theorem d_Mo_init_13 : decode prog_9_method_1_code 13 = .ok (.getfield 15, 3) := zo_180 (d := 0) (e := 15) (zd_b zq_prog_9_method_1_code_0 13 rfl rfl rfl) (zd_b zq_prog_9_method_1_code_0 14 rfl rfl rfl) (zd_b zq_prog_9_method_1_code_0 15 rfl rfl rfl)
theorem fs_Mo_15 : z_fs "Ironpour$Mould" 15 8 0 := ⟨R_Pa, "Ironpour$Pattern", F_Pa, 4, rfl, u_Pa, by decide, Or.inr ⟨"Ironpour", z_mk1 (i := 53) rfl (by decide +kernel), rfl⟩⟩
theorem d_Mo_init_16 : decode prog_9_method_1_code 16 = .ok (.iconst 0, 1) := zo_3 (zd_b zq_prog_9_method_1_code_0 16 rfl rfl rfl)
theorem d_Mo_init_17 : decode prog_9_method_1_code 17 = .ok (.aload_n 0, 1) := zo_42 (zd_b zq_prog_9_method_1_code_0 17 rfl rfl rfl)
theorem d_Mo_init_18 : decode prog_9_method_1_code 18 = .ok (.getfield 9, 3) := zo_180 (d := 0) (e := 9) (zd_b zq_prog_9_method_1_code_0 18 rfl rfl rfl) (zd_b zq_prog_9_method_1_code_0 19 rfl rfl rfl) (zd_b zq_prog_9_method_1_code_0 20 rfl rfl rfl)
theorem fs_Mo_9 : z_fs "Ironpour$Mould" 9 7 0 := ⟨R_Mo, "Ironpour$Mould", F_Mo, 8, rfl, u_Mo, by decide, Or.inl ⟨z_mj6 (i := 3) rfl (by decide +kernel), Or.inl rfl⟩⟩
theorem d_Mo_init_21 : decode prog_9_method_1_code 21 = .ok (.iconst 0, 1) := zo_3 (zd_b zq_prog_9_method_1_code_0 21 rfl rfl rfl)
theorem d_Mo_init_22 : decode prog_9_method_1_code 22 = .ok (.bipush 108, 2) := zo_16 (d := 108) (zd_b zq_prog_9_method_1_code_0 22 rfl rfl rfl) (zd_b zq_prog_9_method_1_code_0 23 rfl rfl rfl) (by decide +kernel)
theorem d_Mo_init_24 : decode prog_9_method_1_code 24 = .ok (.invokestatic 18, 3) := zo_184 (d := 0) (e := 18) (zd_b zq_prog_9_method_1_code_0 24 rfl rfl rfl) (zd_b zq_prog_9_method_1_code_0 25 rfl rfl rfl) (zd_b zq_prog_9_method_1_code_0 26 rfl rfl rfl)
theorem ln_Mo_18 : Cond.methodLink "Ironpour$Mould" 18 arraycopyName ∈ z_gw := z_mj5 (i := 236) rfl (by decide +kernel)
theorem d_Mo_init_27 : decode prog_9_method_1_code 27 = .ok (.aload_n 0, 1) := zo_42 (zd_b zq_prog_9_method_1_code_0 27 rfl rfl rfl)
theorem d_Mo_init_28 : decode prog_9_method_1_code 28 = .ok (.aload_n 1, 1) := zo_43 (zd_b zq_prog_9_method_1_code_0 28 rfl rfl rfl)
theorem d_Mo_init_29 : decode prog_9_method_1_code 29 = .ok (.invokevirtual 24, 3) := zo_182 (d := 0) (e := 24) (zd_b zq_prog_9_method_1_code_0 29 rfl rfl rfl) (zd_b zq_prog_9_method_1_code_0 30 rfl rfl rfl) (zd_b zq_prog_9_method_1_code_0 31 rfl rfl rfl)
theorem ok_Mo_init_Pa_metalCells : z_ok M_Mo_init M_Pa_metalCells 0 := ⟨z_mj2 (i := 149) rfl (by decide +kernel), rfl, ⟨by decide +kernel, by decide +kernel, by decide +kernel⟩, ⟨by decide, by decide⟩, z_mj1 (i := 2) rfl (by decide +kernel), rfl⟩
theorem ln_Mo_24 : Cond.methodLink "Ironpour$Mould" 24 M_Pa_metalCells.1 ∈ z_gw := z_mj5 (i := 237) rfl (by decide +kernel)
theorem w_im_Pa_metalCells : Cond.instanceMethod M_Pa_metalCells.1 ∈ z_gw := z_mj2 (i := 147) rfl (by decide +kernel)
theorem w_se_Pa_metalCells : Cond.selects M_Pa_metalCells.1.cls M_Pa_metalCells.1 M_Pa_metalCells.1 ∈ z_gw := z_mj2 (i := 148) rfl (by decide +kernel)
theorem d_Mo_init_32 : decode prog_9_method_1_code 32 = .ok (.putfield 28, 3) := zo_181 (d := 0) (e := 28) (zd_b zq_prog_9_method_1_code_1 0 rfl rfl rfl) (zd_b zq_prog_9_method_1_code_1 1 rfl rfl rfl) (zd_b zq_prog_9_method_1_code_1 2 rfl rfl rfl)
theorem fp_Mo_28 : z_fp "Ironpour$Mould" 28 7 1 true .int := ⟨R_Mo, "Ironpour$Mould", F_Mo, 8, t_Mo, rfl, u_Mo, by decide, t_Mo_ok, n_Mo, rfl, rfl, Or.inl ⟨z_mj6 (i := 5) rfl (by decide +kernel), Or.inl rfl, fun _ => ⟨rfl, rfl⟩⟩⟩
theorem d_Mo_init_35 : decode prog_9_method_1_code 35 = .ok (.aload_n 0, 1) := zo_42 (zd_b zq_prog_9_method_1_code_1 3 rfl rfl rfl)
theorem d_Mo_init_36 : decode prog_9_method_1_code 36 = .ok (.aload_n 1, 1) := zo_43 (zd_b zq_prog_9_method_1_code_1 4 rfl rfl rfl)
theorem d_Mo_init_37 : decode prog_9_method_1_code 37 = .ok (.invokevirtual 31, 3) := zo_182 (d := 0) (e := 31) (zd_b zq_prog_9_method_1_code_1 5 rfl rfl rfl) (zd_b zq_prog_9_method_1_code_1 6 rfl rfl rfl) (zd_b zq_prog_9_method_1_code_1 7 rfl rfl rfl)
theorem ok_Mo_init_Pa_runningSpeed : z_ok M_Mo_init M_Pa_runningSpeed 0 := ⟨z_mj4 (i := 83) rfl (by decide +kernel), rfl, ⟨by decide +kernel, by decide +kernel, by decide +kernel⟩, ⟨by decide, by decide⟩, z_mj1 (i := 2) rfl (by decide +kernel), rfl⟩
theorem ln_Mo_31 : Cond.methodLink "Ironpour$Mould" 31 M_Pa_runningSpeed.1 ∈ z_gw := z_mj5 (i := 238) rfl (by decide +kernel)
theorem w_im_Pa_runningSpeed : Cond.instanceMethod M_Pa_runningSpeed.1 ∈ z_gw := z_mj4 (i := 81) rfl (by decide +kernel)
theorem w_se_Pa_runningSpeed : Cond.selects M_Pa_runningSpeed.1.cls M_Pa_runningSpeed.1 M_Pa_runningSpeed.1 ∈ z_gw := z_mj4 (i := 82) rfl (by decide +kernel)
theorem d_Mo_init_40 : decode prog_9_method_1_code 40 = .ok (.putfield 34, 3) := zo_181 (d := 0) (e := 34) (zd_b zq_prog_9_method_1_code_1 8 rfl rfl rfl) (zd_b zq_prog_9_method_1_code_1 9 rfl rfl rfl) (zd_b zq_prog_9_method_1_code_1 10 rfl rfl rfl)
theorem fp_Mo_34 : z_fp "Ironpour$Mould" 34 7 2 true .int := ⟨R_Mo, "Ironpour$Mould", F_Mo, 8, t_Mo, rfl, u_Mo, by decide, t_Mo_ok, n_Mo, rfl, rfl, Or.inl ⟨z_mj6 (i := 7) rfl (by decide +kernel), Or.inl rfl, fun _ => ⟨rfl, rfl⟩⟩⟩
theorem d_Mo_init_43 : decode prog_9_method_1_code 43 = .ok (.aload_n 0, 1) := zo_42 (zd_b zq_prog_9_method_1_code_1 11 rfl rfl rfl)
theorem d_Mo_init_44 : decode prog_9_method_1_code 44 = .ok (.aload_n 1, 1) := zo_43 (zd_b zq_prog_9_method_1_code_1 12 rfl rfl rfl)
theorem d_Mo_init_45 : decode prog_9_method_1_code 45 = .ok (.invokevirtual 37, 3) := zo_182 (d := 0) (e := 37) (zd_b zq_prog_9_method_1_code_1 13 rfl rfl rfl) (zd_b zq_prog_9_method_1_code_1 14 rfl rfl rfl) (zd_b zq_prog_9_method_1_code_1 15 rfl rfl rfl)
theorem ok_Mo_init_Pa_looseGroups : z_ok M_Mo_init M_Pa_looseGroups 0 := ⟨z_mj2 (i := 141) rfl (by decide +kernel), rfl, ⟨by decide +kernel, by decide +kernel, by decide +kernel⟩, ⟨by decide, by decide⟩, z_mj1 (i := 2) rfl (by decide +kernel), rfl⟩
theorem ln_Mo_37 : Cond.methodLink "Ironpour$Mould" 37 M_Pa_looseGroups.1 ∈ z_gw := z_mj5 (i := 239) rfl (by decide +kernel)
theorem w_im_Pa_looseGroups : Cond.instanceMethod M_Pa_looseGroups.1 ∈ z_gw := z_mj2 (i := 139) rfl (by decide +kernel)
theorem w_se_Pa_looseGroups : Cond.selects M_Pa_looseGroups.1.cls M_Pa_looseGroups.1 M_Pa_looseGroups.1 ∈ z_gw := z_mj2 (i := 140) rfl (by decide +kernel)
theorem d_Mo_init_48 : decode prog_9_method_1_code 48 = .ok (.ifCond .gt 10, 3) := zo_157 (d := 0) (e := 10) (zd_b zq_prog_9_method_1_code_1 16 rfl rfl rfl) (zd_b zq_prog_9_method_1_code_1 17 rfl rfl rfl) (zd_b zq_prog_9_method_1_code_1 18 rfl rfl rfl) (by decide +kernel)
theorem d_Mo_init_58 : decode prog_9_method_1_code 58 = .ok (.iconst 1, 1) := zo_4 (zd_b zq_prog_9_method_1_code_1 26 rfl rfl rfl)
theorem d_Mo_init_59 : decode prog_9_method_1_code 59 = .ok (.goto 4, 3) := zo_167 (d := 0) (e := 4) (zd_b zq_prog_9_method_1_code_1 27 rfl rfl rfl) (zd_b zq_prog_9_method_1_code_1 28 rfl rfl rfl) (zd_b zq_prog_9_method_1_code_1 29 rfl rfl rfl) (by decide +kernel)
theorem d_Mo_init_63 : decode prog_9_method_1_code 63 = .ok (.putfield 43, 3) := zo_181 (d := 0) (e := 43) (zd_b zq_prog_9_method_1_code_1 31 rfl rfl rfl) (zd_b zq_prog_9_method_1_code_2 0 rfl rfl rfl) (zd_b zq_prog_9_method_1_code_2 1 rfl rfl rfl)
theorem fp_Mo_43 : z_fp "Ironpour$Mould" 43 7 3 true .boolean := ⟨R_Mo, "Ironpour$Mould", F_Mo, 8, t_Mo, rfl, u_Mo, by decide, t_Mo_ok, n_Mo, rfl, rfl, Or.inl ⟨z_mj6 (i := 8) rfl (by decide +kernel), Or.inl rfl, fun _ => ⟨rfl, rfl⟩⟩⟩
theorem d_Mo_init_66 : decode prog_9_method_1_code 66 = .ok (.aload_n 0, 1) := zo_42 (zd_b zq_prog_9_method_1_code_2 2 rfl rfl rfl)
theorem d_Mo_init_67 : decode prog_9_method_1_code 67 = .ok (.aload_n 2, 1) := zo_44 (zd_b zq_prog_9_method_1_code_2 3 rfl rfl rfl)
theorem d_Mo_init_68 : decode prog_9_method_1_code 68 = .ok (.invokevirtual 47, 3) := zo_182 (d := 0) (e := 47) (zd_b zq_prog_9_method_1_code_2 4 rfl rfl rfl) (zd_b zq_prog_9_method_1_code_2 5 rfl rfl rfl) (zd_b zq_prog_9_method_1_code_2 6 rfl rfl rfl)
theorem ok_Mo_init_GS_strength : z_ok M_Mo_init M_GS_strength 0 := ⟨z_mj4 (i := 184) rfl (by decide +kernel), rfl, ⟨by decide +kernel, by decide +kernel, by decide +kernel⟩, ⟨by decide, by decide⟩, z_mj1 (i := 5) rfl (by decide +kernel), rfl⟩
theorem ln_Mo_47 : Cond.methodLink "Ironpour$Mould" 47 M_GS_strength.1 ∈ z_gw := z_mj6 (i := 1) rfl (by decide +kernel)
theorem w_im_GS_strength : Cond.instanceMethod M_GS_strength.1 ∈ z_gw := z_mj4 (i := 182) rfl (by decide +kernel)
theorem w_se_GS_strength : Cond.selects M_GS_strength.1.cls M_GS_strength.1 M_GS_strength.1 ∈ z_gw := z_mj4 (i := 183) rfl (by decide +kernel)
theorem d_Mo_init_71 : decode prog_9_method_1_code 71 = .ok (.putfield 52, 3) := zo_181 (d := 0) (e := 52) (zd_b zq_prog_9_method_1_code_2 7 rfl rfl rfl) (zd_b zq_prog_9_method_1_code_2 8 rfl rfl rfl) (zd_b zq_prog_9_method_1_code_2 9 rfl rfl rfl)
theorem fp_Mo_52 : z_fp "Ironpour$Mould" 52 7 4 true .int := ⟨R_Mo, "Ironpour$Mould", F_Mo, 8, t_Mo, rfl, u_Mo, by decide, t_Mo_ok, n_Mo, rfl, rfl, Or.inl ⟨z_mj6 (i := 9) rfl (by decide +kernel), Or.inl rfl, fun _ => ⟨rfl, rfl⟩⟩⟩
theorem d_Mo_init_74 : decode prog_9_method_1_code 74 = .ok (.aload_n 0, 1) := zo_42 (zd_b zq_prog_9_method_1_code_2 10 rfl rfl rfl)
theorem d_Mo_init_75 : decode prog_9_method_1_code 75 = .ok (.aload_n 2, 1) := zo_44 (zd_b zq_prog_9_method_1_code_2 11 rfl rfl rfl)
theorem d_Mo_init_76 : decode prog_9_method_1_code 76 = .ok (.invokevirtual 54, 3) := zo_182 (d := 0) (e := 54) (zd_b zq_prog_9_method_1_code_2 12 rfl rfl rfl) (zd_b zq_prog_9_method_1_code_2 13 rfl rfl rfl) (zd_b zq_prog_9_method_1_code_2 14 rfl rfl rfl)
theorem ok_Mo_init_GS_draught : z_ok M_Mo_init M_GS_draught 0 := ⟨z_mj4 (i := 199) rfl (by decide +kernel), rfl, ⟨by decide +kernel, by decide +kernel, by decide +kernel⟩, ⟨by decide, by decide⟩, z_mj1 (i := 5) rfl (by decide +kernel), rfl⟩
theorem ln_Mo_54 : Cond.methodLink "Ironpour$Mould" 54 M_GS_draught.1 ∈ z_gw := z_mj6 (i := 2) rfl (by decide +kernel)
theorem w_im_GS_draught : Cond.instanceMethod M_GS_draught.1 ∈ z_gw := z_mj4 (i := 197) rfl (by decide +kernel)
theorem w_se_GS_draught : Cond.selects M_GS_draught.1.cls M_GS_draught.1 M_GS_draught.1 ∈ z_gw := z_mj4 (i := 198) rfl (by decide +kernel)
theorem d_Mo_init_79 : decode prog_9_method_1_code 79 = .ok (.putfield 57, 3) := zo_181 (d := 0) (e := 57) (zd_b zq_prog_9_method_1_code_2 15 rfl rfl rfl) (zd_b zq_prog_9_method_1_code_2 16 rfl rfl rfl) (zd_b zq_prog_9_method_1_code_2 17 rfl rfl rfl)
theorem fp_Mo_57 : z_fp "Ironpour$Mould" 57 7 5 true .int := ⟨R_Mo, "Ironpour$Mould", F_Mo, 8, t_Mo, rfl, u_Mo, by decide, t_Mo_ok, n_Mo, rfl, rfl, Or.inl ⟨z_mj6 (i := 10) rfl (by decide +kernel), Or.inl rfl, fun _ => ⟨rfl, rfl⟩⟩⟩
theorem d_Mo_init_82 : decode prog_9_method_1_code 82 = .ok (.aload_n 0, 1) := zo_42 (zd_b zq_prog_9_method_1_code_2 18 rfl rfl rfl)
theorem d_Mo_init_83 : decode prog_9_method_1_code 83 = .ok (.aload_n 2, 1) := zo_44 (zd_b zq_prog_9_method_1_code_2 19 rfl rfl rfl)
theorem d_Mo_init_84 : decode prog_9_method_1_code 84 = .ok (.getfield 59, 3) := zo_180 (d := 0) (e := 59) (zd_b zq_prog_9_method_1_code_2 20 rfl rfl rfl) (zd_b zq_prog_9_method_1_code_2 21 rfl rfl rfl) (zd_b zq_prog_9_method_1_code_2 22 rfl rfl rfl)
theorem fs_Mo_59 : z_fs "Ironpour$Mould" 59 4 1 := ⟨R_GS, "Ironpour$GreenSand", F_GS, 5, rfl, u_GS, by decide, Or.inr ⟨"Ironpour", z_mk1 (i := 147) rfl (by decide +kernel), rfl⟩⟩
theorem d_Mo_init_87 : decode prog_9_method_1_code 87 = .ok (.putfield 62, 3) := zo_181 (d := 0) (e := 62) (zd_b zq_prog_9_method_1_code_2 23 rfl rfl rfl) (zd_b zq_prog_9_method_1_code_2 24 rfl rfl rfl) (zd_b zq_prog_9_method_1_code_2 25 rfl rfl rfl)
theorem fp_Mo_62 : z_fp "Ironpour$Mould" 62 7 6 true .int := ⟨R_Mo, "Ironpour$Mould", F_Mo, 8, t_Mo, rfl, u_Mo, by decide, t_Mo_ok, n_Mo, rfl, rfl, Or.inl ⟨z_mj6 (i := 11) rfl (by decide +kernel), Or.inl rfl, fun _ => ⟨rfl, rfl⟩⟩⟩
theorem d_Mo_init_90 : decode prog_9_method_1_code 90 = .ok (.return_, 1) := zo_177 (zd_b zq_prog_9_method_1_code_2 26 rfl rfl rfl)
theorem d_Mo_init_51 : decode prog_9_method_1_code 51 = .ok (.aload_n 1, 1) := zo_43 (zd_b zq_prog_9_method_1_code_1 19 rfl rfl rfl)
theorem d_Mo_init_52 : decode prog_9_method_1_code 52 = .ok (.invokevirtual 40, 3) := zo_182 (d := 0) (e := 40) (zd_b zq_prog_9_method_1_code_1 20 rfl rfl rfl) (zd_b zq_prog_9_method_1_code_1 21 rfl rfl rfl) (zd_b zq_prog_9_method_1_code_1 22 rfl rfl rfl)
theorem ok_Mo_init_Pa_undercutCells : z_ok M_Mo_init M_Pa_undercutCells 0 := ⟨z_mj2 (i := 107) rfl (by decide +kernel), rfl, ⟨by decide +kernel, by decide +kernel, by decide +kernel⟩, ⟨by decide, by decide⟩, z_mj1 (i := 2) rfl (by decide +kernel), rfl⟩
theorem ln_Mo_40 : Cond.methodLink "Ironpour$Mould" 40 M_Pa_undercutCells.1 ∈ z_gw := z_mj6 (i := 0) rfl (by decide +kernel)
theorem w_im_Pa_undercutCells : Cond.instanceMethod M_Pa_undercutCells.1 ∈ z_gw := z_mj2 (i := 105) rfl (by decide +kernel)
theorem w_se_Pa_undercutCells : Cond.selects M_Pa_undercutCells.1.cls M_Pa_undercutCells.1 M_Pa_undercutCells.1 ∈ z_gw := z_mj2 (i := 106) rfl (by decide +kernel)
theorem d_Mo_init_55 : decode prog_9_method_1_code 55 = .ok (.ifCond .le 7, 3) := zo_158 (d := 0) (e := 7) (zd_b zq_prog_9_method_1_code_1 23 rfl rfl rfl) (zd_b zq_prog_9_method_1_code_1 24 rfl rfl rfl) (zd_b zq_prog_9_method_1_code_1 25 rfl rfl rfl) (by decide +kernel)
theorem d_Mo_init_62 : decode prog_9_method_1_code 62 = .ok (.iconst 0, 1) := zo_3 (zd_b zq_prog_9_method_1_code_1 30 rfl rfl rfl)
set_option maxHeartbeats 4000000 in
set_option maxRecDepth 100000 in
theorem C_Mo_init (g : zG) (a b b1 b2 b3 c : Nat) (f sn : Nat → Int32) (qn : Nat → Nat) (p : Nat) (hp1 : 1 ≤ p) (hp : p < 9) (cl wa co fi bu : Int32) (hf : z_ch f) : CT g M_Mo_init [.ref a, .ref b, .ref c] [(a, .inr (7, [.null, .int 0, .int 0, .int 0, .int 0, .int 0, .int 0, .int 0])), (b, .inr (8, [.ref b1, .ref b2, .ref b3, .int (nI p)])), (b1, .inl (1, 108, .inl f)), (b2, .inl (2, 108, .inl sn)), (b3, .inl (0, 108, .inl (fun k => nI (qn k)))), (c, .inr (4, [.int cl, .int wa, .int co, .int fi, .int bu]))] (fun o cs1 => ∃ a1, o = .inl none ∧ cs1 = [(a, .inr (7, [.ref a1, .int (nI (fa_cnt (fun k => tmB (f k)) 108)), .int (rsR f), .int (moB f sn qn p), .int (S_GS_strength c cl wa co fi bu), .int (S_GS_draught c cl wa co fi bu), .int wa, .int 0])), (b, .inr (8, [.ref b1, .ref b2, .ref b3, .int (nI p)])), (b1, .inl (1, 108, .inl f)), (b2, .inl (2, 108, .inl ((grS f 2 (fa_fill (fun _ => 0) sn 108, qn, 0) 108).1))), (b3, .inl (0, 108, .inl (fun k => nI ((grS f 2 (fa_fill (fun _ => 0) sn 108, qn, 0) 108).2.1 k)))), (c, .inr (4, [.int cl, .int wa, .int co, .int fi, .int bu])), (a1, .inl (1, 108, .inl (fa_fill f (fun _ => 0) 108)))]) 1 108 := by
  refine z_of (by decide) rfl (Nat.le_of_ble_eq_true rfl) (fun w0 => ?_)
  refine r_lvE (lv2 := [(0, .ref a), (1, .ref b), (2, .ref c)]) rfl ?_
  refine r_aload_n d_Mo_init_0 rfl 0 rfl ?_
  refine r_objInit ln_Mo_3 w_oi1 w_oi2 d_Mo_init_1 (by decide) (by decide) (Nat.le_of_ble_eq_true rfl) ?_
  refine r_aload_n d_Mo_init_4 rfl 0 rfl ?_
  refine r_bipush d_Mo_init_5 (v := 108) (by decide) ?_
  refine r_newa_char (N := 108) ac_char d_Mo_init_7 (by decide) (by decide) (by decide) (by omega) (by omega) (fun a1 => ?_)
  refine r_cs (cs2 := [(a, .inr (7, [.null, .int 0, .int 0, .int 0, .int 0, .int 0, .int 0, .int 0])), (b, .inr (8, [.ref b1, .ref b2, .ref b3, .int (nI p)])), (b1, .inl (1, 108, .inl f)), (b2, .inl (2, 108, .inl sn)), (b3, .inl (0, 108, .inl (fun k => nI (qn k)))), (c, .inr (4, [.int cl, .int wa, .int co, .int fi, .int bu])), (a1, .inl (1, 108, .inl (fun _ => 0)))]) rfl ?_
  refine r_put fp_Mo_9 d_Mo_init_9 (fun _ => rfl) rfl rfl (q0 := 0) rfl (Nat.le_of_ble_eq_true rfl) (cs' := [(a, .inr (7, [.ref a1, .int 0, .int 0, .int 0, .int 0, .int 0, .int 0, .int 0])), (b, .inr (8, [.ref b1, .ref b2, .ref b3, .int (nI p)])), (b1, .inl (1, 108, .inl f)), (b2, .inl (2, 108, .inl sn)), (b3, .inl (0, 108, .inl (fun k => nI (qn k)))), (c, .inr (4, [.int cl, .int wa, .int co, .int fi, .int bu])), (a1, .inl (1, 108, .inl (fun _ => 0)))]) rfl ?_
  refine r_aload_n d_Mo_init_12 rfl 1 rfl ?_
  refine r_get fs_Mo_15 d_Mo_init_13 (q0 := 1) rfl rfl ?_
  refine r_iconst d_Mo_init_16 (v := 0) (by decide) ?_
  refine r_aload_n d_Mo_init_17 rfl 0 rfl ?_
  refine r_get fs_Mo_9 d_Mo_init_18 (q0 := 0) rfl rfl ?_
  refine r_iconst d_Mo_init_21 (v := 0) (by decide) ?_
  refine r_bipush d_Mo_init_22 (v := 108) (by decide) ?_
  refine r_copyc (m := 108) (f' := fa_fill f (fun _ => 0) 108) (q0 := 2) (q1 := 6) (cs' := [(a, .inr (7, [.ref a1, .int 0, .int 0, .int 0, .int 0, .int 0, .int 0, .int 0])), (b, .inr (8, [.ref b1, .ref b2, .ref b3, .int (nI p)])), (b1, .inl (1, 108, .inl f)), (b2, .inl (2, 108, .inl sn)), (b3, .inl (0, 108, .inl (fun k => nI (qn k)))), (c, .inr (4, [.int cl, .int wa, .int co, .int fi, .int bu])), (a1, .inl (1, 108, .inl (fa_fill f (fun _ => 0) 108)))]) rfl ln_Mo_18 w_ac1 w_ac2 w_ac3 d_Mo_init_24 rfl rfl (by decide) (by decide) (by decide) (fun i hi => z_kind_f (hf i hi)) rfl rfl (by decide) (by decide +kernel) (Nat.le_of_ble_eq_true rfl) ?_
  refine r_aload_n d_Mo_init_27 rfl 0 rfl ?_
  refine r_aload_n d_Mo_init_28 rfl 1 rfl ?_
  refine r_callV (As := []) (rest := [.ref a]) (csC := [(b, .inr (8, [.ref b1, .ref b2, .ref b3, .int (nI p)])), (b1, .inl (1, 108, .inl f)), (b2, .inl (2, 108, .inl sn)), (b3, .inl (0, 108, .inl (fun k => nI (qn k))))]) (is := [1, 2, 3, 4]) (q0 := 1) rfl rfl ln_Mo_24 w_im_Pa_metalCells w_se_Pa_metalCells ok_Mo_init_Pa_metalCells d_Mo_init_29 (C_Pa_metalCells g b b1 b2 b3 f sn (fun k => nI (qn k)) (nI p)) rfl rfl (Nat.le_of_ble_eq_true rfl) rfl (by decide) (by omega) (by omega) (fun E cs1 hx => ?_) (fun v cs1 hx => ?_)
  · exact absurd hx.1 (by simp)
  · obtain ⟨e1, rfl⟩ := hx
    cases e1
    refine ⟨rfl, ?_⟩
    refine r_st (st2 := [.int (nI (fa_cnt (fun k => tmB (f k)) 108)), .ref a]) rfl ?_
    refine r_cs (cs2 := [(a, .inr (7, [.ref a1, .int 0, .int 0, .int 0, .int 0, .int 0, .int 0, .int 0])), (b, .inr (8, [.ref b1, .ref b2, .ref b3, .int (nI p)])), (b1, .inl (1, 108, .inl f)), (b2, .inl (2, 108, .inl sn)), (b3, .inl (0, 108, .inl (fun k => nI (qn k)))), (c, .inr (4, [.int cl, .int wa, .int co, .int fi, .int bu])), (a1, .inl (1, 108, .inl (fa_fill f (fun _ => 0) 108)))]) rfl ?_
    refine r_put fp_Mo_28 d_Mo_init_32 (fun _ => rfl) rfl rfl (q0 := 0) rfl (Nat.le_of_ble_eq_true rfl) (cs' := [(a, .inr (7, [.ref a1, .int (nI (fa_cnt (fun k => tmB (f k)) 108)), .int 0, .int 0, .int 0, .int 0, .int 0, .int 0])), (b, .inr (8, [.ref b1, .ref b2, .ref b3, .int (nI p)])), (b1, .inl (1, 108, .inl f)), (b2, .inl (2, 108, .inl sn)), (b3, .inl (0, 108, .inl (fun k => nI (qn k)))), (c, .inr (4, [.int cl, .int wa, .int co, .int fi, .int bu])), (a1, .inl (1, 108, .inl (fa_fill f (fun _ => 0) 108)))]) rfl ?_
    refine r_aload_n d_Mo_init_35 rfl 0 rfl ?_
    refine r_aload_n d_Mo_init_36 rfl 1 rfl ?_
    refine r_callV (As := []) (rest := [.ref a]) (csC := [(b, .inr (8, [.ref b1, .ref b2, .ref b3, .int (nI p)])), (b1, .inl (1, 108, .inl f)), (b2, .inl (2, 108, .inl sn)), (b3, .inl (0, 108, .inl (fun k => nI (qn k))))]) (is := [1, 2, 3, 4]) (q0 := 1) rfl rfl ln_Mo_31 w_im_Pa_runningSpeed w_se_Pa_runningSpeed ok_Mo_init_Pa_runningSpeed d_Mo_init_37 (C_Pa_runningSpeed g b b1 b2 b3 f sn (fun k => nI (qn k)) (nI p)) rfl rfl (Nat.le_of_ble_eq_true rfl) rfl (by decide) (by omega) (by omega) (fun E cs1 hx => ?_) (fun v cs1 hx => ?_)
    · exact absurd hx.1 (by simp)
    · obtain ⟨e1, rfl⟩ := hx
      cases e1
      refine ⟨rfl, ?_⟩
      refine r_st (st2 := [.int (rsR f), .ref a]) rfl ?_
      refine r_cs (cs2 := [(a, .inr (7, [.ref a1, .int (nI (fa_cnt (fun k => tmB (f k)) 108)), .int 0, .int 0, .int 0, .int 0, .int 0, .int 0])), (b, .inr (8, [.ref b1, .ref b2, .ref b3, .int (nI p)])), (b1, .inl (1, 108, .inl f)), (b2, .inl (2, 108, .inl sn)), (b3, .inl (0, 108, .inl (fun k => nI (qn k)))), (c, .inr (4, [.int cl, .int wa, .int co, .int fi, .int bu])), (a1, .inl (1, 108, .inl (fa_fill f (fun _ => 0) 108)))]) rfl ?_
      refine r_put fp_Mo_34 d_Mo_init_40 (fun _ => rfl) rfl rfl (q0 := 0) rfl (Nat.le_of_ble_eq_true rfl) (cs' := [(a, .inr (7, [.ref a1, .int (nI (fa_cnt (fun k => tmB (f k)) 108)), .int (rsR f), .int 0, .int 0, .int 0, .int 0, .int 0])), (b, .inr (8, [.ref b1, .ref b2, .ref b3, .int (nI p)])), (b1, .inl (1, 108, .inl f)), (b2, .inl (2, 108, .inl sn)), (b3, .inl (0, 108, .inl (fun k => nI (qn k)))), (c, .inr (4, [.int cl, .int wa, .int co, .int fi, .int bu])), (a1, .inl (1, 108, .inl (fa_fill f (fun _ => 0) 108)))]) rfl ?_
      refine r_aload_n d_Mo_init_43 rfl 0 rfl ?_
      refine r_aload_n d_Mo_init_44 rfl 1 rfl ?_
      refine r_callV (As := []) (rest := [.ref a]) (csC := [(b, .inr (8, [.ref b1, .ref b2, .ref b3, .int (nI p)])), (b1, .inl (1, 108, .inl f)), (b2, .inl (2, 108, .inl sn)), (b3, .inl (0, 108, .inl (fun k => nI (qn k))))]) (is := [1, 2, 3, 4]) (q0 := 1) rfl rfl ln_Mo_37 w_im_Pa_looseGroups w_se_Pa_looseGroups ok_Mo_init_Pa_looseGroups d_Mo_init_45 (C_Pa_looseGroups g b b1 b2 b3 f sn qn (nI p)) rfl rfl (Nat.le_of_ble_eq_true rfl) rfl (by decide) (by omega) (by omega) (fun E cs1 hx => ?_) (fun v cs1 hx => ?_)
      · exact absurd hx.1 (by simp)
      · obtain ⟨e1, rfl⟩ := hx
        cases e1
        refine ⟨rfl, ?_⟩
        refine r_st (st2 := [.int (nI (grS f 2 (fa_fill (fun _ => 0) sn 108, qn, 0) 108).2.2), .ref a]) rfl ?_
        refine r_cs (cs2 := [(a, .inr (7, [.ref a1, .int (nI (fa_cnt (fun k => tmB (f k)) 108)), .int (rsR f), .int 0, .int 0, .int 0, .int 0, .int 0])), (b, .inr (8, [.ref b1, .ref b2, .ref b3, .int (nI p)])), (b1, .inl (1, 108, .inl f)), (b2, .inl (2, 108, .inl ((grS f 2 (fa_fill (fun _ => 0) sn 108, qn, 0) 108).1))), (b3, .inl (0, 108, .inl (fun k => nI ((grS f 2 (fa_fill (fun _ => 0) sn 108, qn, 0) 108).2.1 k)))), (c, .inr (4, [.int cl, .int wa, .int co, .int fi, .int bu])), (a1, .inl (1, 108, .inl (fa_fill f (fun _ => 0) 108)))]) rfl ?_
        refine r_if_gt (tgt := 58) d_Mo_init_48 (by decide) (fun c_48 => ?_) (fun c_48 => ?_)
        · have hm : moB f sn qn p = 1 := if_pos (Or.inl (z_lt (a := 0) (by have := grS_le (f := f) (m := 2) (S0 := (fa_fill (fun _ => 0) sn 108, qn, 0)) rfl 108; omega) (by decide) c_48))
          refine r_iconst d_Mo_init_58 (v := 1) (by decide) ?_
          refine r_goto (tgt := 63) d_Mo_init_59 (by decide) ?_
          refine r_put fp_Mo_43 d_Mo_init_63 (fun _ => rfl) (by decide) (by decide) (q0 := 0) rfl (Nat.le_of_ble_eq_true rfl) (cs' := [(a, .inr (7, [.ref a1, .int (nI (fa_cnt (fun k => tmB (f k)) 108)), .int (rsR f), .int 1, .int 0, .int 0, .int 0, .int 0])), (b, .inr (8, [.ref b1, .ref b2, .ref b3, .int (nI p)])), (b1, .inl (1, 108, .inl f)), (b2, .inl (2, 108, .inl ((grS f 2 (fa_fill (fun _ => 0) sn 108, qn, 0) 108).1))), (b3, .inl (0, 108, .inl (fun k => nI ((grS f 2 (fa_fill (fun _ => 0) sn 108, qn, 0) 108).2.1 k)))), (c, .inr (4, [.int cl, .int wa, .int co, .int fi, .int bu])), (a1, .inl (1, 108, .inl (fa_fill f (fun _ => 0) 108)))]) rfl ?_
          refine r_aload_n d_Mo_init_66 rfl 0 rfl ?_
          refine r_aload_n d_Mo_init_67 rfl 2 rfl ?_
          refine r_callV (As := []) (rest := [.ref a]) (csC := [(c, .inr (4, [.int cl, .int wa, .int co, .int fi, .int bu]))]) (is := [5]) (q0 := 5) rfl rfl ln_Mo_47 w_im_GS_strength w_se_GS_strength ok_Mo_init_GS_strength d_Mo_init_68 (C_GS_strength g c cl wa co fi bu) rfl rfl (Nat.le_of_ble_eq_true rfl) rfl (by decide) (by omega) (by omega) (fun E cs1 hx => ?_) (fun v cs1 hx => ?_)
          · exact absurd hx.1 (by simp)
          · obtain ⟨e1, rfl⟩ := hx
            cases e1
            refine ⟨rfl, ?_⟩
            refine r_st (st2 := [.int (S_GS_strength c cl wa co fi bu), .ref a]) rfl ?_
            refine r_cs (cs2 := [(a, .inr (7, [.ref a1, .int (nI (fa_cnt (fun k => tmB (f k)) 108)), .int (rsR f), .int 1, .int 0, .int 0, .int 0, .int 0])), (b, .inr (8, [.ref b1, .ref b2, .ref b3, .int (nI p)])), (b1, .inl (1, 108, .inl f)), (b2, .inl (2, 108, .inl ((grS f 2 (fa_fill (fun _ => 0) sn 108, qn, 0) 108).1))), (b3, .inl (0, 108, .inl (fun k => nI ((grS f 2 (fa_fill (fun _ => 0) sn 108, qn, 0) 108).2.1 k)))), (c, .inr (4, [.int cl, .int wa, .int co, .int fi, .int bu])), (a1, .inl (1, 108, .inl (fa_fill f (fun _ => 0) 108)))]) rfl ?_
            refine r_put fp_Mo_52 d_Mo_init_71 (fun _ => rfl) rfl rfl (q0 := 0) rfl (Nat.le_of_ble_eq_true rfl) (cs' := [(a, .inr (7, [.ref a1, .int (nI (fa_cnt (fun k => tmB (f k)) 108)), .int (rsR f), .int 1, .int (S_GS_strength c cl wa co fi bu), .int 0, .int 0, .int 0])), (b, .inr (8, [.ref b1, .ref b2, .ref b3, .int (nI p)])), (b1, .inl (1, 108, .inl f)), (b2, .inl (2, 108, .inl ((grS f 2 (fa_fill (fun _ => 0) sn 108, qn, 0) 108).1))), (b3, .inl (0, 108, .inl (fun k => nI ((grS f 2 (fa_fill (fun _ => 0) sn 108, qn, 0) 108).2.1 k)))), (c, .inr (4, [.int cl, .int wa, .int co, .int fi, .int bu])), (a1, .inl (1, 108, .inl (fa_fill f (fun _ => 0) 108)))]) rfl ?_
            refine r_aload_n d_Mo_init_74 rfl 0 rfl ?_
            refine r_aload_n d_Mo_init_75 rfl 2 rfl ?_
            refine r_callV (As := []) (rest := [.ref a]) (csC := [(c, .inr (4, [.int cl, .int wa, .int co, .int fi, .int bu]))]) (is := [5]) (q0 := 5) rfl rfl ln_Mo_54 w_im_GS_draught w_se_GS_draught ok_Mo_init_GS_draught d_Mo_init_76 (C_GS_draught g c cl wa co fi bu) rfl rfl (Nat.le_of_ble_eq_true rfl) rfl (by decide) (by omega) (by omega) (fun E cs1 hx => ?_) (fun v cs1 hx => ?_)
            · exact absurd hx.1 (by simp)
            · obtain ⟨e1, rfl⟩ := hx
              cases e1
              refine ⟨rfl, ?_⟩
              refine r_st (st2 := [.int (S_GS_draught c cl wa co fi bu), .ref a]) rfl ?_
              refine r_cs (cs2 := [(a, .inr (7, [.ref a1, .int (nI (fa_cnt (fun k => tmB (f k)) 108)), .int (rsR f), .int 1, .int (S_GS_strength c cl wa co fi bu), .int 0, .int 0, .int 0])), (b, .inr (8, [.ref b1, .ref b2, .ref b3, .int (nI p)])), (b1, .inl (1, 108, .inl f)), (b2, .inl (2, 108, .inl ((grS f 2 (fa_fill (fun _ => 0) sn 108, qn, 0) 108).1))), (b3, .inl (0, 108, .inl (fun k => nI ((grS f 2 (fa_fill (fun _ => 0) sn 108, qn, 0) 108).2.1 k)))), (c, .inr (4, [.int cl, .int wa, .int co, .int fi, .int bu])), (a1, .inl (1, 108, .inl (fa_fill f (fun _ => 0) 108)))]) rfl ?_
              refine r_put fp_Mo_57 d_Mo_init_79 (fun _ => rfl) rfl rfl (q0 := 0) rfl (Nat.le_of_ble_eq_true rfl) (cs' := [(a, .inr (7, [.ref a1, .int (nI (fa_cnt (fun k => tmB (f k)) 108)), .int (rsR f), .int 1, .int (S_GS_strength c cl wa co fi bu), .int (S_GS_draught c cl wa co fi bu), .int 0, .int 0])), (b, .inr (8, [.ref b1, .ref b2, .ref b3, .int (nI p)])), (b1, .inl (1, 108, .inl f)), (b2, .inl (2, 108, .inl ((grS f 2 (fa_fill (fun _ => 0) sn 108, qn, 0) 108).1))), (b3, .inl (0, 108, .inl (fun k => nI ((grS f 2 (fa_fill (fun _ => 0) sn 108, qn, 0) 108).2.1 k)))), (c, .inr (4, [.int cl, .int wa, .int co, .int fi, .int bu])), (a1, .inl (1, 108, .inl (fa_fill f (fun _ => 0) 108)))]) rfl ?_
              refine r_aload_n d_Mo_init_82 rfl 0 rfl ?_
              refine r_aload_n d_Mo_init_83 rfl 2 rfl ?_
              refine r_get fs_Mo_59 d_Mo_init_84 (q0 := 5) rfl rfl ?_
              refine r_put fp_Mo_62 d_Mo_init_87 (fun _ => rfl) rfl rfl (q0 := 0) rfl (Nat.le_of_ble_eq_true rfl) (cs' := [(a, .inr (7, [.ref a1, .int (nI (fa_cnt (fun k => tmB (f k)) 108)), .int (rsR f), .int 1, .int (S_GS_strength c cl wa co fi bu), .int (S_GS_draught c cl wa co fi bu), .int wa, .int 0])), (b, .inr (8, [.ref b1, .ref b2, .ref b3, .int (nI p)])), (b1, .inl (1, 108, .inl f)), (b2, .inl (2, 108, .inl ((grS f 2 (fa_fill (fun _ => 0) sn 108, qn, 0) 108).1))), (b3, .inl (0, 108, .inl (fun k => nI ((grS f 2 (fa_fill (fun _ => 0) sn 108, qn, 0) 108).2.1 k)))), (c, .inr (4, [.int cl, .int wa, .int co, .int fi, .int bu])), (a1, .inl (1, 108, .inl (fa_fill f (fun _ => 0) 108)))]) rfl ?_
              refine r_vret d_Mo_init_90 rfl ?_
              exact ⟨a1, rfl, by rw [hm]⟩
        · have hg := z_nlt (a := 0) (by have := grS_le (f := f) (m := 2) (S0 := (fa_fill (fun _ => 0) sn 108, qn, 0)) rfl 108; omega) (by decide) c_48
          refine r_aload_n d_Mo_init_51 rfl 1 rfl ?_
          refine r_callV (As := []) (rest := [.ref a]) (csC := [(b, .inr (8, [.ref b1, .ref b2, .ref b3, .int (nI p)])), (b1, .inl (1, 108, .inl f)), (b2, .inl (2, 108, .inl ((grS f 2 (fa_fill (fun _ => 0) sn 108, qn, 0) 108).1))), (b3, .inl (0, 108, .inl (fun k => nI ((grS f 2 (fa_fill (fun _ => 0) sn 108, qn, 0) 108).2.1 k))))]) (is := [1, 2, 3, 4]) (q0 := 1) rfl rfl ln_Mo_40 w_im_Pa_undercutCells w_se_Pa_undercutCells ok_Mo_init_Pa_undercutCells d_Mo_init_52 (C_Pa_undercutCells g b b1 b2 b3 f ((grS f 2 (fa_fill (fun _ => 0) sn 108, qn, 0) 108).1) (fun k => nI ((grS f 2 (fa_fill (fun _ => 0) sn 108, qn, 0) 108).2.1 k)) p hp1 hp) rfl rfl (Nat.le_of_ble_eq_true rfl) rfl (by decide) (by omega) (by omega) (fun E cs1 hx => ?_) (fun v cs1 hx => ?_)
          · exact absurd hx.1 (by simp)
          · obtain ⟨e1, rfl⟩ := hx
            cases e1
            refine ⟨rfl, ?_⟩
            refine r_st (st2 := [.int (nI (ucT f p 12)), .ref a]) rfl ?_
            refine r_cs (cs2 := [(a, .inr (7, [.ref a1, .int (nI (fa_cnt (fun k => tmB (f k)) 108)), .int (rsR f), .int 0, .int 0, .int 0, .int 0, .int 0])), (b, .inr (8, [.ref b1, .ref b2, .ref b3, .int (nI p)])), (b1, .inl (1, 108, .inl f)), (b2, .inl (2, 108, .inl ((grS f 2 (fa_fill (fun _ => 0) sn 108, qn, 0) 108).1))), (b3, .inl (0, 108, .inl (fun k => nI ((grS f 2 (fa_fill (fun _ => 0) sn 108, qn, 0) 108).2.1 k)))), (c, .inr (4, [.int cl, .int wa, .int co, .int fi, .int bu])), (a1, .inl (1, 108, .inl (fa_fill f (fun _ => 0) 108)))]) rfl ?_
            refine r_if_le (tgt := 62) d_Mo_init_55 (by decide) (fun c_55 => ?_) (fun c_55 => ?_)
            · have hu := z_le (b := 0) (by decide) (by have := ucT_le (f := f) hp 12; omega) c_55
              have hm : moB f sn qn p = 0 := if_neg (by omega)
              refine r_iconst d_Mo_init_62 (v := 0) (by decide) ?_
              refine r_put fp_Mo_43 d_Mo_init_63 (fun _ => rfl) (by decide) (by decide) (q0 := 0) rfl (Nat.le_of_ble_eq_true rfl) (cs' := [(a, .inr (7, [.ref a1, .int (nI (fa_cnt (fun k => tmB (f k)) 108)), .int (rsR f), .int 0, .int 0, .int 0, .int 0, .int 0])), (b, .inr (8, [.ref b1, .ref b2, .ref b3, .int (nI p)])), (b1, .inl (1, 108, .inl f)), (b2, .inl (2, 108, .inl ((grS f 2 (fa_fill (fun _ => 0) sn 108, qn, 0) 108).1))), (b3, .inl (0, 108, .inl (fun k => nI ((grS f 2 (fa_fill (fun _ => 0) sn 108, qn, 0) 108).2.1 k)))), (c, .inr (4, [.int cl, .int wa, .int co, .int fi, .int bu])), (a1, .inl (1, 108, .inl (fa_fill f (fun _ => 0) 108)))]) rfl ?_
              refine r_aload_n d_Mo_init_66 rfl 0 rfl ?_
              refine r_aload_n d_Mo_init_67 rfl 2 rfl ?_
              refine r_callV (As := []) (rest := [.ref a]) (csC := [(c, .inr (4, [.int cl, .int wa, .int co, .int fi, .int bu]))]) (is := [5]) (q0 := 5) rfl rfl ln_Mo_47 w_im_GS_strength w_se_GS_strength ok_Mo_init_GS_strength d_Mo_init_68 (C_GS_strength g c cl wa co fi bu) rfl rfl (Nat.le_of_ble_eq_true rfl) rfl (by decide) (by omega) (by omega) (fun E cs1 hx => ?_) (fun v cs1 hx => ?_)
              · exact absurd hx.1 (by simp)
              · obtain ⟨e1, rfl⟩ := hx
                cases e1
                refine ⟨rfl, ?_⟩
                refine r_st (st2 := [.int (S_GS_strength c cl wa co fi bu), .ref a]) rfl ?_
                refine r_cs (cs2 := [(a, .inr (7, [.ref a1, .int (nI (fa_cnt (fun k => tmB (f k)) 108)), .int (rsR f), .int 0, .int 0, .int 0, .int 0, .int 0])), (b, .inr (8, [.ref b1, .ref b2, .ref b3, .int (nI p)])), (b1, .inl (1, 108, .inl f)), (b2, .inl (2, 108, .inl ((grS f 2 (fa_fill (fun _ => 0) sn 108, qn, 0) 108).1))), (b3, .inl (0, 108, .inl (fun k => nI ((grS f 2 (fa_fill (fun _ => 0) sn 108, qn, 0) 108).2.1 k)))), (c, .inr (4, [.int cl, .int wa, .int co, .int fi, .int bu])), (a1, .inl (1, 108, .inl (fa_fill f (fun _ => 0) 108)))]) rfl ?_
                refine r_put fp_Mo_52 d_Mo_init_71 (fun _ => rfl) rfl rfl (q0 := 0) rfl (Nat.le_of_ble_eq_true rfl) (cs' := [(a, .inr (7, [.ref a1, .int (nI (fa_cnt (fun k => tmB (f k)) 108)), .int (rsR f), .int 0, .int (S_GS_strength c cl wa co fi bu), .int 0, .int 0, .int 0])), (b, .inr (8, [.ref b1, .ref b2, .ref b3, .int (nI p)])), (b1, .inl (1, 108, .inl f)), (b2, .inl (2, 108, .inl ((grS f 2 (fa_fill (fun _ => 0) sn 108, qn, 0) 108).1))), (b3, .inl (0, 108, .inl (fun k => nI ((grS f 2 (fa_fill (fun _ => 0) sn 108, qn, 0) 108).2.1 k)))), (c, .inr (4, [.int cl, .int wa, .int co, .int fi, .int bu])), (a1, .inl (1, 108, .inl (fa_fill f (fun _ => 0) 108)))]) rfl ?_
                refine r_aload_n d_Mo_init_74 rfl 0 rfl ?_
                refine r_aload_n d_Mo_init_75 rfl 2 rfl ?_
                refine r_callV (As := []) (rest := [.ref a]) (csC := [(c, .inr (4, [.int cl, .int wa, .int co, .int fi, .int bu]))]) (is := [5]) (q0 := 5) rfl rfl ln_Mo_54 w_im_GS_draught w_se_GS_draught ok_Mo_init_GS_draught d_Mo_init_76 (C_GS_draught g c cl wa co fi bu) rfl rfl (Nat.le_of_ble_eq_true rfl) rfl (by decide) (by omega) (by omega) (fun E cs1 hx => ?_) (fun v cs1 hx => ?_)
                · exact absurd hx.1 (by simp)
                · obtain ⟨e1, rfl⟩ := hx
                  cases e1
                  refine ⟨rfl, ?_⟩
                  refine r_st (st2 := [.int (S_GS_draught c cl wa co fi bu), .ref a]) rfl ?_
                  refine r_cs (cs2 := [(a, .inr (7, [.ref a1, .int (nI (fa_cnt (fun k => tmB (f k)) 108)), .int (rsR f), .int 0, .int (S_GS_strength c cl wa co fi bu), .int 0, .int 0, .int 0])), (b, .inr (8, [.ref b1, .ref b2, .ref b3, .int (nI p)])), (b1, .inl (1, 108, .inl f)), (b2, .inl (2, 108, .inl ((grS f 2 (fa_fill (fun _ => 0) sn 108, qn, 0) 108).1))), (b3, .inl (0, 108, .inl (fun k => nI ((grS f 2 (fa_fill (fun _ => 0) sn 108, qn, 0) 108).2.1 k)))), (c, .inr (4, [.int cl, .int wa, .int co, .int fi, .int bu])), (a1, .inl (1, 108, .inl (fa_fill f (fun _ => 0) 108)))]) rfl ?_
                  refine r_put fp_Mo_57 d_Mo_init_79 (fun _ => rfl) rfl rfl (q0 := 0) rfl (Nat.le_of_ble_eq_true rfl) (cs' := [(a, .inr (7, [.ref a1, .int (nI (fa_cnt (fun k => tmB (f k)) 108)), .int (rsR f), .int 0, .int (S_GS_strength c cl wa co fi bu), .int (S_GS_draught c cl wa co fi bu), .int 0, .int 0])), (b, .inr (8, [.ref b1, .ref b2, .ref b3, .int (nI p)])), (b1, .inl (1, 108, .inl f)), (b2, .inl (2, 108, .inl ((grS f 2 (fa_fill (fun _ => 0) sn 108, qn, 0) 108).1))), (b3, .inl (0, 108, .inl (fun k => nI ((grS f 2 (fa_fill (fun _ => 0) sn 108, qn, 0) 108).2.1 k)))), (c, .inr (4, [.int cl, .int wa, .int co, .int fi, .int bu])), (a1, .inl (1, 108, .inl (fa_fill f (fun _ => 0) 108)))]) rfl ?_
                  refine r_aload_n d_Mo_init_82 rfl 0 rfl ?_
                  refine r_aload_n d_Mo_init_83 rfl 2 rfl ?_
                  refine r_get fs_Mo_59 d_Mo_init_84 (q0 := 5) rfl rfl ?_
                  refine r_put fp_Mo_62 d_Mo_init_87 (fun _ => rfl) rfl rfl (q0 := 0) rfl (Nat.le_of_ble_eq_true rfl) (cs' := [(a, .inr (7, [.ref a1, .int (nI (fa_cnt (fun k => tmB (f k)) 108)), .int (rsR f), .int 0, .int (S_GS_strength c cl wa co fi bu), .int (S_GS_draught c cl wa co fi bu), .int wa, .int 0])), (b, .inr (8, [.ref b1, .ref b2, .ref b3, .int (nI p)])), (b1, .inl (1, 108, .inl f)), (b2, .inl (2, 108, .inl ((grS f 2 (fa_fill (fun _ => 0) sn 108, qn, 0) 108).1))), (b3, .inl (0, 108, .inl (fun k => nI ((grS f 2 (fa_fill (fun _ => 0) sn 108, qn, 0) 108).2.1 k)))), (c, .inr (4, [.int cl, .int wa, .int co, .int fi, .int bu])), (a1, .inl (1, 108, .inl (fa_fill f (fun _ => 0) 108)))]) rfl ?_
                  refine r_vret d_Mo_init_90 rfl ?_
                  exact ⟨a1, rfl, by rw [hm]⟩
            · have hu := z_nle (b := 0) (by decide) (by have := ucT_le (f := f) hp 12; omega) c_55
              have hm : moB f sn qn p = 1 := if_pos (Or.inr hu)
              refine r_iconst d_Mo_init_58 (v := 1) (by decide) ?_
              refine r_goto (tgt := 63) d_Mo_init_59 (by decide) ?_
              refine r_put fp_Mo_43 d_Mo_init_63 (fun _ => rfl) (by decide) (by decide) (q0 := 0) rfl (Nat.le_of_ble_eq_true rfl) (cs' := [(a, .inr (7, [.ref a1, .int (nI (fa_cnt (fun k => tmB (f k)) 108)), .int (rsR f), .int 1, .int 0, .int 0, .int 0, .int 0])), (b, .inr (8, [.ref b1, .ref b2, .ref b3, .int (nI p)])), (b1, .inl (1, 108, .inl f)), (b2, .inl (2, 108, .inl ((grS f 2 (fa_fill (fun _ => 0) sn 108, qn, 0) 108).1))), (b3, .inl (0, 108, .inl (fun k => nI ((grS f 2 (fa_fill (fun _ => 0) sn 108, qn, 0) 108).2.1 k)))), (c, .inr (4, [.int cl, .int wa, .int co, .int fi, .int bu])), (a1, .inl (1, 108, .inl (fa_fill f (fun _ => 0) 108)))]) rfl ?_
              refine r_aload_n d_Mo_init_66 rfl 0 rfl ?_
              refine r_aload_n d_Mo_init_67 rfl 2 rfl ?_
              refine r_callV (As := []) (rest := [.ref a]) (csC := [(c, .inr (4, [.int cl, .int wa, .int co, .int fi, .int bu]))]) (is := [5]) (q0 := 5) rfl rfl ln_Mo_47 w_im_GS_strength w_se_GS_strength ok_Mo_init_GS_strength d_Mo_init_68 (C_GS_strength g c cl wa co fi bu) rfl rfl (Nat.le_of_ble_eq_true rfl) rfl (by decide) (by omega) (by omega) (fun E cs1 hx => ?_) (fun v cs1 hx => ?_)
              · exact absurd hx.1 (by simp)
              · obtain ⟨e1, rfl⟩ := hx
                cases e1
                refine ⟨rfl, ?_⟩
                refine r_st (st2 := [.int (S_GS_strength c cl wa co fi bu), .ref a]) rfl ?_
                refine r_cs (cs2 := [(a, .inr (7, [.ref a1, .int (nI (fa_cnt (fun k => tmB (f k)) 108)), .int (rsR f), .int 1, .int 0, .int 0, .int 0, .int 0])), (b, .inr (8, [.ref b1, .ref b2, .ref b3, .int (nI p)])), (b1, .inl (1, 108, .inl f)), (b2, .inl (2, 108, .inl ((grS f 2 (fa_fill (fun _ => 0) sn 108, qn, 0) 108).1))), (b3, .inl (0, 108, .inl (fun k => nI ((grS f 2 (fa_fill (fun _ => 0) sn 108, qn, 0) 108).2.1 k)))), (c, .inr (4, [.int cl, .int wa, .int co, .int fi, .int bu])), (a1, .inl (1, 108, .inl (fa_fill f (fun _ => 0) 108)))]) rfl ?_
                refine r_put fp_Mo_52 d_Mo_init_71 (fun _ => rfl) rfl rfl (q0 := 0) rfl (Nat.le_of_ble_eq_true rfl) (cs' := [(a, .inr (7, [.ref a1, .int (nI (fa_cnt (fun k => tmB (f k)) 108)), .int (rsR f), .int 1, .int (S_GS_strength c cl wa co fi bu), .int 0, .int 0, .int 0])), (b, .inr (8, [.ref b1, .ref b2, .ref b3, .int (nI p)])), (b1, .inl (1, 108, .inl f)), (b2, .inl (2, 108, .inl ((grS f 2 (fa_fill (fun _ => 0) sn 108, qn, 0) 108).1))), (b3, .inl (0, 108, .inl (fun k => nI ((grS f 2 (fa_fill (fun _ => 0) sn 108, qn, 0) 108).2.1 k)))), (c, .inr (4, [.int cl, .int wa, .int co, .int fi, .int bu])), (a1, .inl (1, 108, .inl (fa_fill f (fun _ => 0) 108)))]) rfl ?_
                refine r_aload_n d_Mo_init_74 rfl 0 rfl ?_
                refine r_aload_n d_Mo_init_75 rfl 2 rfl ?_
                refine r_callV (As := []) (rest := [.ref a]) (csC := [(c, .inr (4, [.int cl, .int wa, .int co, .int fi, .int bu]))]) (is := [5]) (q0 := 5) rfl rfl ln_Mo_54 w_im_GS_draught w_se_GS_draught ok_Mo_init_GS_draught d_Mo_init_76 (C_GS_draught g c cl wa co fi bu) rfl rfl (Nat.le_of_ble_eq_true rfl) rfl (by decide) (by omega) (by omega) (fun E cs1 hx => ?_) (fun v cs1 hx => ?_)
                · exact absurd hx.1 (by simp)
                · obtain ⟨e1, rfl⟩ := hx
                  cases e1
                  refine ⟨rfl, ?_⟩
                  refine r_st (st2 := [.int (S_GS_draught c cl wa co fi bu), .ref a]) rfl ?_
                  refine r_cs (cs2 := [(a, .inr (7, [.ref a1, .int (nI (fa_cnt (fun k => tmB (f k)) 108)), .int (rsR f), .int 1, .int (S_GS_strength c cl wa co fi bu), .int 0, .int 0, .int 0])), (b, .inr (8, [.ref b1, .ref b2, .ref b3, .int (nI p)])), (b1, .inl (1, 108, .inl f)), (b2, .inl (2, 108, .inl ((grS f 2 (fa_fill (fun _ => 0) sn 108, qn, 0) 108).1))), (b3, .inl (0, 108, .inl (fun k => nI ((grS f 2 (fa_fill (fun _ => 0) sn 108, qn, 0) 108).2.1 k)))), (c, .inr (4, [.int cl, .int wa, .int co, .int fi, .int bu])), (a1, .inl (1, 108, .inl (fa_fill f (fun _ => 0) 108)))]) rfl ?_
                  refine r_put fp_Mo_57 d_Mo_init_79 (fun _ => rfl) rfl rfl (q0 := 0) rfl (Nat.le_of_ble_eq_true rfl) (cs' := [(a, .inr (7, [.ref a1, .int (nI (fa_cnt (fun k => tmB (f k)) 108)), .int (rsR f), .int 1, .int (S_GS_strength c cl wa co fi bu), .int (S_GS_draught c cl wa co fi bu), .int 0, .int 0])), (b, .inr (8, [.ref b1, .ref b2, .ref b3, .int (nI p)])), (b1, .inl (1, 108, .inl f)), (b2, .inl (2, 108, .inl ((grS f 2 (fa_fill (fun _ => 0) sn 108, qn, 0) 108).1))), (b3, .inl (0, 108, .inl (fun k => nI ((grS f 2 (fa_fill (fun _ => 0) sn 108, qn, 0) 108).2.1 k)))), (c, .inr (4, [.int cl, .int wa, .int co, .int fi, .int bu])), (a1, .inl (1, 108, .inl (fa_fill f (fun _ => 0) 108)))]) rfl ?_
                  refine r_aload_n d_Mo_init_82 rfl 0 rfl ?_
                  refine r_aload_n d_Mo_init_83 rfl 2 rfl ?_
                  refine r_get fs_Mo_59 d_Mo_init_84 (q0 := 5) rfl rfl ?_
                  refine r_put fp_Mo_62 d_Mo_init_87 (fun _ => rfl) rfl rfl (q0 := 0) rfl (Nat.le_of_ble_eq_true rfl) (cs' := [(a, .inr (7, [.ref a1, .int (nI (fa_cnt (fun k => tmB (f k)) 108)), .int (rsR f), .int 1, .int (S_GS_strength c cl wa co fi bu), .int (S_GS_draught c cl wa co fi bu), .int wa, .int 0])), (b, .inr (8, [.ref b1, .ref b2, .ref b3, .int (nI p)])), (b1, .inl (1, 108, .inl f)), (b2, .inl (2, 108, .inl ((grS f 2 (fa_fill (fun _ => 0) sn 108, qn, 0) 108).1))), (b3, .inl (0, 108, .inl (fun k => nI ((grS f 2 (fa_fill (fun _ => 0) sn 108, qn, 0) 108).2.1 k)))), (c, .inr (4, [.int cl, .int wa, .int co, .int fi, .int bu])), (a1, .inl (1, 108, .inl (fa_fill f (fun _ => 0) 108)))]) rfl ?_
                  refine r_vret d_Mo_init_90 rfl ?_
                  exact ⟨a1, rfl, by rw [hm]⟩
abbrev M_Mo_faultBits : zM := (⟨"Ironpour$Mould", "faultBits", "()I"⟩, prog_9_method_2_code, 2, (Option.some FieldType.int), 1, 20, [])
theorem d_Mo_faultBits_0 : decode prog_9_method_2_code 0 = .ok (.aload_n 0, 1) := zo_42 (zd_b zq_prog_9_method_2_code_0 0 rfl rfl rfl)
theorem d_Mo_faultBits_1 : decode prog_9_method_2_code 1 = .ok (.getfield 43, 3) := zo_180 (d := 0) (e := 43) (zd_b zq_prog_9_method_2_code_0 1 rfl rfl rfl) (zd_b zq_prog_9_method_2_code_0 2 rfl rfl rfl) (zd_b zq_prog_9_method_2_code_0 3 rfl rfl rfl)
theorem fs_Mo_43 : z_fs "Ironpour$Mould" 43 7 3 := ⟨R_Mo, "Ironpour$Mould", F_Mo, 8, rfl, u_Mo, by decide, Or.inl ⟨z_mj6 (i := 8) rfl (by decide +kernel), Or.inl rfl⟩⟩
theorem d_Mo_faultBits_4 : decode prog_9_method_2_code 4 = .ok (.ifCond .eq 8, 3) := zo_153 (d := 0) (e := 8) (zd_b zq_prog_9_method_2_code_0 4 rfl rfl rfl) (zd_b zq_prog_9_method_2_code_0 5 rfl rfl rfl) (zd_b zq_prog_9_method_2_code_0 6 rfl rfl rfl) (by decide +kernel)
theorem d_Mo_faultBits_12 : decode prog_9_method_2_code 12 = .ok (.iconst 0, 1) := zo_3 (zd_b zq_prog_9_method_2_code_0 12 rfl rfl rfl)
theorem d_Mo_faultBits_13 : decode prog_9_method_2_code 13 = .ok (.istore_n 1, 1) := zo_60 (zd_b zq_prog_9_method_2_code_0 13 rfl rfl rfl)
theorem d_Mo_faultBits_14 : decode prog_9_method_2_code 14 = .ok (.aload_n 0, 1) := zo_42 (zd_b zq_prog_9_method_2_code_0 14 rfl rfl rfl)
theorem d_Mo_faultBits_15 : decode prog_9_method_2_code 15 = .ok (.getfield 34, 3) := zo_180 (d := 0) (e := 34) (zd_b zq_prog_9_method_2_code_0 15 rfl rfl rfl) (zd_b zq_prog_9_method_2_code_0 16 rfl rfl rfl) (zd_b zq_prog_9_method_2_code_0 17 rfl rfl rfl)
theorem fs_Mo_34 : z_fs "Ironpour$Mould" 34 7 2 := ⟨R_Mo, "Ironpour$Mould", F_Mo, 8, rfl, u_Mo, by decide, Or.inl ⟨z_mj6 (i := 7) rfl (by decide +kernel), Or.inl rfl⟩⟩
theorem d_Mo_faultBits_18 : decode prog_9_method_2_code 18 = .ok (.aload_n 0, 1) := zo_42 (zd_b zq_prog_9_method_2_code_0 18 rfl rfl rfl)
theorem d_Mo_faultBits_19 : decode prog_9_method_2_code 19 = .ok (.getfield 52, 3) := zo_180 (d := 0) (e := 52) (zd_b zq_prog_9_method_2_code_0 19 rfl rfl rfl) (zd_b zq_prog_9_method_2_code_0 20 rfl rfl rfl) (zd_b zq_prog_9_method_2_code_0 21 rfl rfl rfl)
theorem fs_Mo_52 : z_fs "Ironpour$Mould" 52 7 4 := ⟨R_Mo, "Ironpour$Mould", F_Mo, 8, rfl, u_Mo, by decide, Or.inl ⟨z_mj6 (i := 9) rfl (by decide +kernel), Or.inl rfl⟩⟩
theorem d_Mo_faultBits_22 : decode prog_9_method_2_code 22 = .ok (.if_icmp .le 7, 3) := zo_164 (d := 0) (e := 7) (zd_b zq_prog_9_method_2_code_0 22 rfl rfl rfl) (zd_b zq_prog_9_method_2_code_0 23 rfl rfl rfl) (zd_b zq_prog_9_method_2_code_0 24 rfl rfl rfl) (by decide +kernel)
theorem d_Mo_faultBits_29 : decode prog_9_method_2_code 29 = .ok (.aload_n 0, 1) := zo_42 (zd_b zq_prog_9_method_2_code_0 29 rfl rfl rfl)
theorem d_Mo_faultBits_30 : decode prog_9_method_2_code 30 = .ok (.getfield 57, 3) := zo_180 (d := 0) (e := 57) (zd_b zq_prog_9_method_2_code_0 30 rfl rfl rfl) (zd_b zq_prog_9_method_2_code_0 31 rfl rfl rfl) (zd_b zq_prog_9_method_2_code_1 0 rfl rfl rfl)
theorem fs_Mo_57 : z_fs "Ironpour$Mould" 57 7 5 := ⟨R_Mo, "Ironpour$Mould", F_Mo, 8, rfl, u_Mo, by decide, Or.inl ⟨z_mj6 (i := 10) rfl (by decide +kernel), Or.inl rfl⟩⟩
theorem d_Mo_faultBits_33 : decode prog_9_method_2_code 33 = .ok (.bipush 80, 2) := zo_16 (d := 80) (zd_b zq_prog_9_method_2_code_1 1 rfl rfl rfl) (zd_b zq_prog_9_method_2_code_1 2 rfl rfl rfl) (by decide +kernel)
theorem d_Mo_faultBits_35 : decode prog_9_method_2_code 35 = .ok (.if_icmp .ge 12, 3) := zo_162 (d := 0) (e := 12) (zd_b zq_prog_9_method_2_code_1 3 rfl rfl rfl) (zd_b zq_prog_9_method_2_code_1 4 rfl rfl rfl) (zd_b zq_prog_9_method_2_code_1 5 rfl rfl rfl) (by decide +kernel)
theorem d_Mo_faultBits_47 : decode prog_9_method_2_code 47 = .ok (.aload_n 0, 1) := zo_42 (zd_b zq_prog_9_method_2_code_1 15 rfl rfl rfl)
theorem d_Mo_faultBits_48 : decode prog_9_method_2_code 48 = .ok (.getfield 63, 3) := zo_180 (d := 0) (e := 63) (zd_b zq_prog_9_method_2_code_1 16 rfl rfl rfl) (zd_b zq_prog_9_method_2_code_1 17 rfl rfl rfl) (zd_b zq_prog_9_method_2_code_1 18 rfl rfl rfl)
theorem fs_Mo_63 : z_fs "Ironpour$Mould" 63 7 7 := ⟨R_Mo, "Ironpour$Mould", F_Mo, 8, rfl, u_Mo, by decide, Or.inl ⟨z_mj6 (i := 12) rfl (by decide +kernel), Or.inl rfl⟩⟩
theorem d_Mo_faultBits_51 : decode prog_9_method_2_code 51 = .ok (.bipush 60, 2) := zo_16 (d := 60) (zd_b zq_prog_9_method_2_code_1 19 rfl rfl rfl) (zd_b zq_prog_9_method_2_code_1 20 rfl rfl rfl) (by decide +kernel)
theorem d_Mo_faultBits_53 : decode prog_9_method_2_code 53 = .ok (.if_icmp .le 8, 3) := zo_164 (d := 0) (e := 8) (zd_b zq_prog_9_method_2_code_1 21 rfl rfl rfl) (zd_b zq_prog_9_method_2_code_1 22 rfl rfl rfl) (zd_b zq_prog_9_method_2_code_1 23 rfl rfl rfl) (by decide +kernel)
theorem d_Mo_faultBits_61 : decode prog_9_method_2_code 61 = .ok (.iload_n 1, 1) := zo_27 (zd_b zq_prog_9_method_2_code_1 29 rfl rfl rfl)
theorem d_Mo_faultBits_62 : decode prog_9_method_2_code 62 = .ok (.ireturn, 1) := zo_172 (zd_b zq_prog_9_method_2_code_1 30 rfl rfl rfl)
theorem d_Mo_faultBits_56 : decode prog_9_method_2_code 56 = .ok (.iload_n 1, 1) := zo_27 (zd_b zq_prog_9_method_2_code_1 24 rfl rfl rfl)
theorem d_Mo_faultBits_57 : decode prog_9_method_2_code 57 = .ok (.bipush 8, 2) := zo_16 (d := 8) (zd_b zq_prog_9_method_2_code_1 25 rfl rfl rfl) (zd_b zq_prog_9_method_2_code_1 26 rfl rfl rfl) (by decide +kernel)
theorem d_Mo_faultBits_59 : decode prog_9_method_2_code 59 = .ok (.ior, 1) := zo_128 (zd_b zq_prog_9_method_2_code_1 27 rfl rfl rfl)
theorem d_Mo_faultBits_60 : decode prog_9_method_2_code 60 = .ok (.istore_n 1, 1) := zo_60 (zd_b zq_prog_9_method_2_code_1 28 rfl rfl rfl)
theorem d_Mo_faultBits_38 : decode prog_9_method_2_code 38 = .ok (.aload_n 0, 1) := zo_42 (zd_b zq_prog_9_method_2_code_1 6 rfl rfl rfl)
theorem d_Mo_faultBits_39 : decode prog_9_method_2_code 39 = .ok (.getfield 62, 3) := zo_180 (d := 0) (e := 62) (zd_b zq_prog_9_method_2_code_1 7 rfl rfl rfl) (zd_b zq_prog_9_method_2_code_1 8 rfl rfl rfl) (zd_b zq_prog_9_method_2_code_1 9 rfl rfl rfl)
theorem fs_Mo_62 : z_fs "Ironpour$Mould" 62 7 6 := ⟨R_Mo, "Ironpour$Mould", F_Mo, 8, rfl, u_Mo, by decide, Or.inl ⟨z_mj6 (i := 11) rfl (by decide +kernel), Or.inl rfl⟩⟩
theorem d_Mo_faultBits_42 : decode prog_9_method_2_code 42 = .ok (.bipush 40, 2) := zo_16 (d := 40) (zd_b zq_prog_9_method_2_code_1 10 rfl rfl rfl) (zd_b zq_prog_9_method_2_code_1 11 rfl rfl rfl) (by decide +kernel)
theorem d_Mo_faultBits_44 : decode prog_9_method_2_code 44 = .ok (.if_icmp .gt 12, 3) := zo_163 (d := 0) (e := 12) (zd_b zq_prog_9_method_2_code_1 12 rfl rfl rfl) (zd_b zq_prog_9_method_2_code_1 13 rfl rfl rfl) (zd_b zq_prog_9_method_2_code_1 14 rfl rfl rfl) (by decide +kernel)
theorem d_Mo_faultBits_25 : decode prog_9_method_2_code 25 = .ok (.iload_n 1, 1) := zo_27 (zd_b zq_prog_9_method_2_code_0 25 rfl rfl rfl)
theorem d_Mo_faultBits_26 : decode prog_9_method_2_code 26 = .ok (.iconst 4, 1) := zo_7 (zd_b zq_prog_9_method_2_code_0 26 rfl rfl rfl)
theorem d_Mo_faultBits_27 : decode prog_9_method_2_code 27 = .ok (.ior, 1) := zo_128 (zd_b zq_prog_9_method_2_code_0 27 rfl rfl rfl)
theorem d_Mo_faultBits_28 : decode prog_9_method_2_code 28 = .ok (.istore_n 1, 1) := zo_60 (zd_b zq_prog_9_method_2_code_0 28 rfl rfl rfl)
theorem d_Mo_faultBits_7 : decode prog_9_method_2_code 7 = .ok (.bipush 16, 2) := zo_16 (d := 16) (zd_b zq_prog_9_method_2_code_0 7 rfl rfl rfl) (zd_b zq_prog_9_method_2_code_0 8 rfl rfl rfl) (by decide +kernel)
theorem d_Mo_faultBits_9 : decode prog_9_method_2_code 9 = .ok (.goto 4, 3) := zo_167 (d := 0) (e := 4) (zd_b zq_prog_9_method_2_code_0 9 rfl rfl rfl) (zd_b zq_prog_9_method_2_code_0 10 rfl rfl rfl) (zd_b zq_prog_9_method_2_code_0 11 rfl rfl rfl) (by decide +kernel)
set_option maxHeartbeats 4000000 in
set_option maxRecDepth 100000 in
theorem C_Mo_faultBits (g : zG) (a a1 : Nat) (f : Nat → Int32) (mc sp bad sr dr wa wt : Int32) : CT g M_Mo_faultBits [.ref a] [(a, .inr (7, [.ref a1, .int mc, .int sp, .int bad, .int sr, .int dr, .int wa, .int wt])), (a1, .inl (1, 108, .inl f))] (fun o cs1 => o = .inl (some (.int (moF bad sp sr dr wa wt))) ∧ cs1 = [(a, .inr (7, [.ref a1, .int mc, .int sp, .int bad, .int sr, .int dr, .int wa, .int wt])), (a1, .inl (1, 108, .inl f))]) 0 0 := by
  refine z_of (by decide) rfl (Nat.le_of_ble_eq_true rfl) (fun w0 => ?_)
  refine r_lvE (lv2 := [(0, .ref a)]) rfl ?_
  refine r_aload_n d_Mo_faultBits_0 rfl 0 rfl ?_
  refine r_get fs_Mo_43 d_Mo_faultBits_1 (q0 := 0) rfl rfl ?_
  refine r_if_eq (tgt := 12) d_Mo_faultBits_4 (by decide) (fun c_4 => ?_) (fun c_4 => ?_)
  · refine r_iconst d_Mo_faultBits_12 (v := 0) (by decide) ?_
    refine r_istore_n (lv' := [(1, .int 0), (0, .ref a)]) d_Mo_faultBits_13 rfl (by decide) rfl ?_
    refine r_aload_n d_Mo_faultBits_14 rfl 1 rfl ?_
    refine r_get fs_Mo_34 d_Mo_faultBits_15 (q0 := 0) rfl rfl ?_
    refine r_aload_n d_Mo_faultBits_18 rfl 1 rfl ?_
    refine r_get fs_Mo_52 d_Mo_faultBits_19 (q0 := 0) rfl rfl ?_
    refine r_icmp_le (tgt := 29) d_Mo_faultBits_22 (by decide) (fun c_22 => ?_) (fun c_22 => ?_)
    · refine r_aload_n d_Mo_faultBits_29 rfl 1 rfl ?_
      refine r_get fs_Mo_57 d_Mo_faultBits_30 (q0 := 0) rfl rfl ?_
      refine r_bipush d_Mo_faultBits_33 (v := 80) (by decide) ?_
      refine r_icmp_ge (tgt := 47) d_Mo_faultBits_35 (by decide) (fun c_35 => ?_) (fun c_35 => ?_)
      · refine r_aload_n d_Mo_faultBits_47 rfl 1 rfl ?_
        refine r_get fs_Mo_63 d_Mo_faultBits_48 (q0 := 0) rfl rfl ?_
        refine r_bipush d_Mo_faultBits_51 (v := 60) (by decide) ?_
        refine r_icmp_le (tgt := 61) d_Mo_faultBits_53 (by decide) (fun c_53 => ?_) (fun c_53 => ?_)
        · refine r_iload_n d_Mo_faultBits_61 rfl 0 rfl ?_
          refine r_iret d_Mo_faultBits_62 rfl rfl ?_
          refine ⟨?_, rfl⟩
          unfold moF mo1
          repeat (first | rw [if_pos (by assumption)] | rw [if_neg (by assumption)])
        · refine r_iload_n d_Mo_faultBits_56 rfl 0 rfl ?_
          refine r_bipush d_Mo_faultBits_57 (v := 8) (by decide) ?_
          refine r_ior d_Mo_faultBits_59 (v := 0 ||| 8) rfl ?_
          refine r_istore_n (lv' := [(1, .int (0 ||| 8)), (0, .ref a)]) d_Mo_faultBits_60 rfl (by decide) rfl ?_
          refine r_iload_n d_Mo_faultBits_61 rfl 0 rfl ?_
          refine r_iret d_Mo_faultBits_62 rfl rfl ?_
          refine ⟨?_, rfl⟩
          unfold moF mo1
          repeat (first | rw [if_pos (by assumption)] | rw [if_neg (by assumption)])
      · refine r_aload_n d_Mo_faultBits_38 rfl 1 rfl ?_
        refine r_get fs_Mo_62 d_Mo_faultBits_39 (q0 := 0) rfl rfl ?_
        refine r_bipush d_Mo_faultBits_42 (v := 40) (by decide) ?_
        refine r_icmp_gt (tgt := 56) d_Mo_faultBits_44 (by decide) (fun c_44 => ?_) (fun c_44 => ?_)
        · refine r_iload_n d_Mo_faultBits_56 rfl 0 rfl ?_
          refine r_bipush d_Mo_faultBits_57 (v := 8) (by decide) ?_
          refine r_ior d_Mo_faultBits_59 (v := 0 ||| 8) rfl ?_
          refine r_istore_n (lv' := [(1, .int (0 ||| 8)), (0, .ref a)]) d_Mo_faultBits_60 rfl (by decide) rfl ?_
          refine r_iload_n d_Mo_faultBits_61 rfl 0 rfl ?_
          refine r_iret d_Mo_faultBits_62 rfl rfl ?_
          refine ⟨?_, rfl⟩
          unfold moF mo1
          repeat (first | rw [if_pos (by assumption)] | rw [if_neg (by assumption)])
        · refine r_aload_n d_Mo_faultBits_47 rfl 1 rfl ?_
          refine r_get fs_Mo_63 d_Mo_faultBits_48 (q0 := 0) rfl rfl ?_
          refine r_bipush d_Mo_faultBits_51 (v := 60) (by decide) ?_
          refine r_icmp_le (tgt := 61) d_Mo_faultBits_53 (by decide) (fun c_53 => ?_) (fun c_53 => ?_)
          · refine r_iload_n d_Mo_faultBits_61 rfl 0 rfl ?_
            refine r_iret d_Mo_faultBits_62 rfl rfl ?_
            refine ⟨?_, rfl⟩
            unfold moF mo1
            repeat (first | rw [if_pos (by assumption)] | rw [if_neg (by assumption)])
          · refine r_iload_n d_Mo_faultBits_56 rfl 0 rfl ?_
            refine r_bipush d_Mo_faultBits_57 (v := 8) (by decide) ?_
            refine r_ior d_Mo_faultBits_59 (v := 0 ||| 8) rfl ?_
            refine r_istore_n (lv' := [(1, .int (0 ||| 8)), (0, .ref a)]) d_Mo_faultBits_60 rfl (by decide) rfl ?_
            refine r_iload_n d_Mo_faultBits_61 rfl 0 rfl ?_
            refine r_iret d_Mo_faultBits_62 rfl rfl ?_
            refine ⟨?_, rfl⟩
            unfold moF mo1
            repeat (first | rw [if_pos (by assumption)] | rw [if_neg (by assumption)])
    · refine r_iload_n d_Mo_faultBits_25 rfl 0 rfl ?_
      refine r_iconst d_Mo_faultBits_26 (v := 4) (by decide) ?_
      refine r_ior d_Mo_faultBits_27 (v := 0 ||| 4) rfl ?_
      refine r_istore_n (lv' := [(1, .int (0 ||| 4)), (0, .ref a)]) d_Mo_faultBits_28 rfl (by decide) rfl ?_
      refine r_aload_n d_Mo_faultBits_29 rfl 1 rfl ?_
      refine r_get fs_Mo_57 d_Mo_faultBits_30 (q0 := 0) rfl rfl ?_
      refine r_bipush d_Mo_faultBits_33 (v := 80) (by decide) ?_
      refine r_icmp_ge (tgt := 47) d_Mo_faultBits_35 (by decide) (fun c_35 => ?_) (fun c_35 => ?_)
      · refine r_aload_n d_Mo_faultBits_47 rfl 1 rfl ?_
        refine r_get fs_Mo_63 d_Mo_faultBits_48 (q0 := 0) rfl rfl ?_
        refine r_bipush d_Mo_faultBits_51 (v := 60) (by decide) ?_
        refine r_icmp_le (tgt := 61) d_Mo_faultBits_53 (by decide) (fun c_53 => ?_) (fun c_53 => ?_)
        · refine r_iload_n d_Mo_faultBits_61 rfl 0 rfl ?_
          refine r_iret d_Mo_faultBits_62 rfl rfl ?_
          refine ⟨?_, rfl⟩
          unfold moF mo1
          repeat (first | rw [if_pos (by assumption)] | rw [if_neg (by assumption)])
        · refine r_iload_n d_Mo_faultBits_56 rfl 0 rfl ?_
          refine r_bipush d_Mo_faultBits_57 (v := 8) (by decide) ?_
          refine r_ior d_Mo_faultBits_59 (v := (0 ||| 4) ||| 8) rfl ?_
          refine r_istore_n (lv' := [(1, .int ((0 ||| 4) ||| 8)), (0, .ref a)]) d_Mo_faultBits_60 rfl (by decide) rfl ?_
          refine r_iload_n d_Mo_faultBits_61 rfl 0 rfl ?_
          refine r_iret d_Mo_faultBits_62 rfl rfl ?_
          refine ⟨?_, rfl⟩
          unfold moF mo1
          repeat (first | rw [if_pos (by assumption)] | rw [if_neg (by assumption)])
      · refine r_aload_n d_Mo_faultBits_38 rfl 1 rfl ?_
        refine r_get fs_Mo_62 d_Mo_faultBits_39 (q0 := 0) rfl rfl ?_
        refine r_bipush d_Mo_faultBits_42 (v := 40) (by decide) ?_
        refine r_icmp_gt (tgt := 56) d_Mo_faultBits_44 (by decide) (fun c_44 => ?_) (fun c_44 => ?_)
        · refine r_iload_n d_Mo_faultBits_56 rfl 0 rfl ?_
          refine r_bipush d_Mo_faultBits_57 (v := 8) (by decide) ?_
          refine r_ior d_Mo_faultBits_59 (v := (0 ||| 4) ||| 8) rfl ?_
          refine r_istore_n (lv' := [(1, .int ((0 ||| 4) ||| 8)), (0, .ref a)]) d_Mo_faultBits_60 rfl (by decide) rfl ?_
          refine r_iload_n d_Mo_faultBits_61 rfl 0 rfl ?_
          refine r_iret d_Mo_faultBits_62 rfl rfl ?_
          refine ⟨?_, rfl⟩
          unfold moF mo1
          repeat (first | rw [if_pos (by assumption)] | rw [if_neg (by assumption)])
        · refine r_aload_n d_Mo_faultBits_47 rfl 1 rfl ?_
          refine r_get fs_Mo_63 d_Mo_faultBits_48 (q0 := 0) rfl rfl ?_
          refine r_bipush d_Mo_faultBits_51 (v := 60) (by decide) ?_
          refine r_icmp_le (tgt := 61) d_Mo_faultBits_53 (by decide) (fun c_53 => ?_) (fun c_53 => ?_)
          · refine r_iload_n d_Mo_faultBits_61 rfl 0 rfl ?_
            refine r_iret d_Mo_faultBits_62 rfl rfl ?_
            refine ⟨?_, rfl⟩
            unfold moF mo1
            repeat (first | rw [if_pos (by assumption)] | rw [if_neg (by assumption)])
          · refine r_iload_n d_Mo_faultBits_56 rfl 0 rfl ?_
            refine r_bipush d_Mo_faultBits_57 (v := 8) (by decide) ?_
            refine r_ior d_Mo_faultBits_59 (v := (0 ||| 4) ||| 8) rfl ?_
            refine r_istore_n (lv' := [(1, .int ((0 ||| 4) ||| 8)), (0, .ref a)]) d_Mo_faultBits_60 rfl (by decide) rfl ?_
            refine r_iload_n d_Mo_faultBits_61 rfl 0 rfl ?_
            refine r_iret d_Mo_faultBits_62 rfl rfl ?_
            refine ⟨?_, rfl⟩
            unfold moF mo1
            repeat (first | rw [if_pos (by assumption)] | rw [if_neg (by assumption)])
  · refine r_bipush d_Mo_faultBits_7 (v := 16) (by decide) ?_
    refine r_goto (tgt := 13) d_Mo_faultBits_9 (by decide) ?_
    refine r_istore_n (lv' := [(1, .int 16), (0, .ref a)]) d_Mo_faultBits_13 rfl (by decide) rfl ?_
    refine r_aload_n d_Mo_faultBits_14 rfl 1 rfl ?_
    refine r_get fs_Mo_34 d_Mo_faultBits_15 (q0 := 0) rfl rfl ?_
    refine r_aload_n d_Mo_faultBits_18 rfl 1 rfl ?_
    refine r_get fs_Mo_52 d_Mo_faultBits_19 (q0 := 0) rfl rfl ?_
    refine r_icmp_le (tgt := 29) d_Mo_faultBits_22 (by decide) (fun c_22 => ?_) (fun c_22 => ?_)
    · refine r_aload_n d_Mo_faultBits_29 rfl 1 rfl ?_
      refine r_get fs_Mo_57 d_Mo_faultBits_30 (q0 := 0) rfl rfl ?_
      refine r_bipush d_Mo_faultBits_33 (v := 80) (by decide) ?_
      refine r_icmp_ge (tgt := 47) d_Mo_faultBits_35 (by decide) (fun c_35 => ?_) (fun c_35 => ?_)
      · refine r_aload_n d_Mo_faultBits_47 rfl 1 rfl ?_
        refine r_get fs_Mo_63 d_Mo_faultBits_48 (q0 := 0) rfl rfl ?_
        refine r_bipush d_Mo_faultBits_51 (v := 60) (by decide) ?_
        refine r_icmp_le (tgt := 61) d_Mo_faultBits_53 (by decide) (fun c_53 => ?_) (fun c_53 => ?_)
        · refine r_iload_n d_Mo_faultBits_61 rfl 0 rfl ?_
          refine r_iret d_Mo_faultBits_62 rfl rfl ?_
          refine ⟨?_, rfl⟩
          unfold moF mo1
          repeat (first | rw [if_pos (by assumption)] | rw [if_neg (by assumption)])
        · refine r_iload_n d_Mo_faultBits_56 rfl 0 rfl ?_
          refine r_bipush d_Mo_faultBits_57 (v := 8) (by decide) ?_
          refine r_ior d_Mo_faultBits_59 (v := 16 ||| 8) rfl ?_
          refine r_istore_n (lv' := [(1, .int (16 ||| 8)), (0, .ref a)]) d_Mo_faultBits_60 rfl (by decide) rfl ?_
          refine r_iload_n d_Mo_faultBits_61 rfl 0 rfl ?_
          refine r_iret d_Mo_faultBits_62 rfl rfl ?_
          refine ⟨?_, rfl⟩
          unfold moF mo1
          repeat (first | rw [if_pos (by assumption)] | rw [if_neg (by assumption)])
      · refine r_aload_n d_Mo_faultBits_38 rfl 1 rfl ?_
        refine r_get fs_Mo_62 d_Mo_faultBits_39 (q0 := 0) rfl rfl ?_
        refine r_bipush d_Mo_faultBits_42 (v := 40) (by decide) ?_
        refine r_icmp_gt (tgt := 56) d_Mo_faultBits_44 (by decide) (fun c_44 => ?_) (fun c_44 => ?_)
        · refine r_iload_n d_Mo_faultBits_56 rfl 0 rfl ?_
          refine r_bipush d_Mo_faultBits_57 (v := 8) (by decide) ?_
          refine r_ior d_Mo_faultBits_59 (v := 16 ||| 8) rfl ?_
          refine r_istore_n (lv' := [(1, .int (16 ||| 8)), (0, .ref a)]) d_Mo_faultBits_60 rfl (by decide) rfl ?_
          refine r_iload_n d_Mo_faultBits_61 rfl 0 rfl ?_
          refine r_iret d_Mo_faultBits_62 rfl rfl ?_
          refine ⟨?_, rfl⟩
          unfold moF mo1
          repeat (first | rw [if_pos (by assumption)] | rw [if_neg (by assumption)])
        · refine r_aload_n d_Mo_faultBits_47 rfl 1 rfl ?_
          refine r_get fs_Mo_63 d_Mo_faultBits_48 (q0 := 0) rfl rfl ?_
          refine r_bipush d_Mo_faultBits_51 (v := 60) (by decide) ?_
          refine r_icmp_le (tgt := 61) d_Mo_faultBits_53 (by decide) (fun c_53 => ?_) (fun c_53 => ?_)
          · refine r_iload_n d_Mo_faultBits_61 rfl 0 rfl ?_
            refine r_iret d_Mo_faultBits_62 rfl rfl ?_
            refine ⟨?_, rfl⟩
            unfold moF mo1
            repeat (first | rw [if_pos (by assumption)] | rw [if_neg (by assumption)])
          · refine r_iload_n d_Mo_faultBits_56 rfl 0 rfl ?_
            refine r_bipush d_Mo_faultBits_57 (v := 8) (by decide) ?_
            refine r_ior d_Mo_faultBits_59 (v := 16 ||| 8) rfl ?_
            refine r_istore_n (lv' := [(1, .int (16 ||| 8)), (0, .ref a)]) d_Mo_faultBits_60 rfl (by decide) rfl ?_
            refine r_iload_n d_Mo_faultBits_61 rfl 0 rfl ?_
            refine r_iret d_Mo_faultBits_62 rfl rfl ?_
            refine ⟨?_, rfl⟩
            unfold moF mo1
            repeat (first | rw [if_pos (by assumption)] | rw [if_neg (by assumption)])
    · refine r_iload_n d_Mo_faultBits_25 rfl 0 rfl ?_
      refine r_iconst d_Mo_faultBits_26 (v := 4) (by decide) ?_
      refine r_ior d_Mo_faultBits_27 (v := 16 ||| 4) rfl ?_
      refine r_istore_n (lv' := [(1, .int (16 ||| 4)), (0, .ref a)]) d_Mo_faultBits_28 rfl (by decide) rfl ?_
      refine r_aload_n d_Mo_faultBits_29 rfl 1 rfl ?_
      refine r_get fs_Mo_57 d_Mo_faultBits_30 (q0 := 0) rfl rfl ?_
      refine r_bipush d_Mo_faultBits_33 (v := 80) (by decide) ?_
      refine r_icmp_ge (tgt := 47) d_Mo_faultBits_35 (by decide) (fun c_35 => ?_) (fun c_35 => ?_)
      · refine r_aload_n d_Mo_faultBits_47 rfl 1 rfl ?_
        refine r_get fs_Mo_63 d_Mo_faultBits_48 (q0 := 0) rfl rfl ?_
        refine r_bipush d_Mo_faultBits_51 (v := 60) (by decide) ?_
        refine r_icmp_le (tgt := 61) d_Mo_faultBits_53 (by decide) (fun c_53 => ?_) (fun c_53 => ?_)
        · refine r_iload_n d_Mo_faultBits_61 rfl 0 rfl ?_
          refine r_iret d_Mo_faultBits_62 rfl rfl ?_
          refine ⟨?_, rfl⟩
          unfold moF mo1
          repeat (first | rw [if_pos (by assumption)] | rw [if_neg (by assumption)])
        · refine r_iload_n d_Mo_faultBits_56 rfl 0 rfl ?_
          refine r_bipush d_Mo_faultBits_57 (v := 8) (by decide) ?_
          refine r_ior d_Mo_faultBits_59 (v := (16 ||| 4) ||| 8) rfl ?_
          refine r_istore_n (lv' := [(1, .int ((16 ||| 4) ||| 8)), (0, .ref a)]) d_Mo_faultBits_60 rfl (by decide) rfl ?_
          refine r_iload_n d_Mo_faultBits_61 rfl 0 rfl ?_
          refine r_iret d_Mo_faultBits_62 rfl rfl ?_
          refine ⟨?_, rfl⟩
          unfold moF mo1
          repeat (first | rw [if_pos (by assumption)] | rw [if_neg (by assumption)])
      · refine r_aload_n d_Mo_faultBits_38 rfl 1 rfl ?_
        refine r_get fs_Mo_62 d_Mo_faultBits_39 (q0 := 0) rfl rfl ?_
        refine r_bipush d_Mo_faultBits_42 (v := 40) (by decide) ?_
        refine r_icmp_gt (tgt := 56) d_Mo_faultBits_44 (by decide) (fun c_44 => ?_) (fun c_44 => ?_)
        · refine r_iload_n d_Mo_faultBits_56 rfl 0 rfl ?_
          refine r_bipush d_Mo_faultBits_57 (v := 8) (by decide) ?_
          refine r_ior d_Mo_faultBits_59 (v := (16 ||| 4) ||| 8) rfl ?_
          refine r_istore_n (lv' := [(1, .int ((16 ||| 4) ||| 8)), (0, .ref a)]) d_Mo_faultBits_60 rfl (by decide) rfl ?_
          refine r_iload_n d_Mo_faultBits_61 rfl 0 rfl ?_
          refine r_iret d_Mo_faultBits_62 rfl rfl ?_
          refine ⟨?_, rfl⟩
          unfold moF mo1
          repeat (first | rw [if_pos (by assumption)] | rw [if_neg (by assumption)])
        · refine r_aload_n d_Mo_faultBits_47 rfl 1 rfl ?_
          refine r_get fs_Mo_63 d_Mo_faultBits_48 (q0 := 0) rfl rfl ?_
          refine r_bipush d_Mo_faultBits_51 (v := 60) (by decide) ?_
          refine r_icmp_le (tgt := 61) d_Mo_faultBits_53 (by decide) (fun c_53 => ?_) (fun c_53 => ?_)
          · refine r_iload_n d_Mo_faultBits_61 rfl 0 rfl ?_
            refine r_iret d_Mo_faultBits_62 rfl rfl ?_
            refine ⟨?_, rfl⟩
            unfold moF mo1
            repeat (first | rw [if_pos (by assumption)] | rw [if_neg (by assumption)])
          · refine r_iload_n d_Mo_faultBits_56 rfl 0 rfl ?_
            refine r_bipush d_Mo_faultBits_57 (v := 8) (by decide) ?_
            refine r_ior d_Mo_faultBits_59 (v := (16 ||| 4) ||| 8) rfl ?_
            refine r_istore_n (lv' := [(1, .int ((16 ||| 4) ||| 8)), (0, .ref a)]) d_Mo_faultBits_60 rfl (by decide) rfl ?_
            refine r_iload_n d_Mo_faultBits_61 rfl 0 rfl ?_
            refine r_iret d_Mo_faultBits_62 rfl rfl ?_
            refine ⟨?_, rfl⟩
            unfold moF mo1
            repeat (first | rw [if_pos (by assumption)] | rw [if_neg (by assumption)])
abbrev M_Ca_init : zM := (⟨"Ironpour$Casting", "<init>", "(I)V"⟩, prog_2_method_1_code, 2, (Option.none : Option FieldType), 2, 40, [])
theorem d_Ca_init_0 : decode prog_2_method_1_code 0 = .ok (.aload_n 0, 1) := zo_42 (zd_b zq_prog_2_method_1_code_0 0 rfl rfl rfl)
theorem d_Ca_init_1 : decode prog_2_method_1_code 1 = .ok (.invokespecial 3, 3) := zo_183 (d := 0) (e := 3) (zd_b zq_prog_2_method_1_code_0 1 rfl rfl rfl) (zd_b zq_prog_2_method_1_code_0 2 rfl rfl rfl) (zd_b zq_prog_2_method_1_code_0 3 rfl rfl rfl)
theorem ln_Ca_3 : Cond.methodLink "Ironpour$Casting" 3 Lib.objectInit ∈ z_gw := z_mj6 (i := 137) rfl (by decide +kernel)
theorem d_Ca_init_4 : decode prog_2_method_1_code 4 = .ok (.aload_n 0, 1) := zo_42 (zd_b zq_prog_2_method_1_code_0 4 rfl rfl rfl)
theorem d_Ca_init_5 : decode prog_2_method_1_code 5 = .ok (.new 9, 3) := zo_187 (d := 0) (e := 9) (zd_b zq_prog_2_method_1_code_0 5 rfl rfl rfl) (zd_b zq_prog_2_method_1_code_0 6 rfl rfl rfl) (zd_b zq_prog_2_method_1_code_0 7 rfl rfl rfl)
theorem nc_Ca_9 : z_nc "Ironpour$Casting" 9 6 2 [.null, .int 0] := ⟨R_Me, F_Me, t_Me, rfl, u_Me, t_Me_ok, z_mj6 (i := 138) rfl (by decide +kernel), z_mj1 (i := 192) rfl (by decide +kernel), z_mj1 (i := 8) rfl (by decide +kernel), by decide +kernel⟩
theorem d_Ca_init_8 : decode prog_2_method_1_code 8 = .ok (.dup, 1) := zo_89 (zd_b zq_prog_2_method_1_code_0 8 rfl rfl rfl)
theorem d_Ca_init_9 : decode prog_2_method_1_code 9 = .ok (.invokespecial 11, 3) := zo_183 (d := 0) (e := 11) (zd_b zq_prog_2_method_1_code_0 9 rfl rfl rfl) (zd_b zq_prog_2_method_1_code_0 10 rfl rfl rfl) (zd_b zq_prog_2_method_1_code_0 11 rfl rfl rfl)
theorem ok_Ca_init_Me_init : z_ok M_Ca_init M_Me_init 0 := ⟨z_mj1 (i := 195) rfl (by decide +kernel), rfl, ⟨by decide +kernel, by decide +kernel, by decide +kernel⟩, ⟨by decide, by decide⟩, z_mj1 (i := 8) rfl (by decide +kernel), rfl⟩
theorem ln_Ca_11 : Cond.methodLinkNest "Ironpour$Casting" 11 M_Me_init.1 "Ironpour" ∈ z_nw := z_mk6 (i := 139) rfl (by decide +kernel)
theorem d_Ca_init_12 : decode prog_2_method_1_code 12 = .ok (.putfield 12, 3) := zo_181 (d := 0) (e := 12) (zd_b zq_prog_2_method_1_code_0 12 rfl rfl rfl) (zd_b zq_prog_2_method_1_code_0 13 rfl rfl rfl) (zd_b zq_prog_2_method_1_code_0 14 rfl rfl rfl)
theorem u_Ca : ∀ x ∈ u_ws R_Ca F_Ca 6, x ∈ z_gw := fun x hx => List.mem_filter.mpr ⟨(z_au [(6, 148), (6, 150), (6, 152), (6, 154), (6, 156), (6, 158)] (by decide +kernel) : ∀ x ∈ u_ws R_Ca F_Ca 6, x ∈ lw_tbl) x hx, (show ∀ x ∈ u_ws R_Ca F_Ca 6, goodWord x = true by decide +kernel) x hx⟩
theorem fp_Ca_12 : z_fp "Ironpour$Casting" 12 0 0 true (t_Ca 0) := ⟨R_Ca, "Ironpour$Casting", F_Ca, 6, t_Ca, rfl, u_Ca, by decide, t_Ca_ok, n_Ca, rfl, rfl, Or.inl ⟨z_mj6 (i := 140) rfl (by decide +kernel), Or.inl rfl, fun _ => ⟨rfl, rfl⟩⟩⟩
theorem d_Ca_init_15 : decode prog_2_method_1_code 15 = .ok (.aload_n 0, 1) := zo_42 (zd_b zq_prog_2_method_1_code_0 15 rfl rfl rfl)
theorem d_Ca_init_16 : decode prog_2_method_1_code 16 = .ok (.iload_n 1, 1) := zo_27 (zd_b zq_prog_2_method_1_code_0 16 rfl rfl rfl)
theorem d_Ca_init_17 : decode prog_2_method_1_code 17 = .ok (.putfield 18, 3) := zo_181 (d := 0) (e := 18) (zd_b zq_prog_2_method_1_code_0 17 rfl rfl rfl) (zd_b zq_prog_2_method_1_code_0 18 rfl rfl rfl) (zd_b zq_prog_2_method_1_code_0 19 rfl rfl rfl)
theorem fp_Ca_18 : z_fp "Ironpour$Casting" 18 0 1 true .int := ⟨R_Ca, "Ironpour$Casting", F_Ca, 6, t_Ca, rfl, u_Ca, by decide, t_Ca_ok, n_Ca, rfl, rfl, Or.inl ⟨z_mj6 (i := 142) rfl (by decide +kernel), Or.inl rfl, fun _ => ⟨rfl, rfl⟩⟩⟩
theorem d_Ca_init_20 : decode prog_2_method_1_code 20 = .ok (.return_, 1) := zo_177 (zd_b zq_prog_2_method_1_code_0 20 rfl rfl rfl)
set_option maxHeartbeats 4000000 in
set_option maxRecDepth 100000 in
theorem C_Ca_init (g : zG) (a : Nat) (mg : Int32) : CT g M_Ca_init [.ref a, .int mg] [(a, .inr (0, [.null, .int 0, .int 0, .int 0, .int 0, .int 0]))] (fun o cs1 => ∃ ab abg, o = .inl none ∧ cs1 = [(a, .inr (0, [.ref ab, .int mg, .int 0, .int 0, .int 0, .int 0])), (ab, .inr (6, [.ref abg, .int 0])), (abg, .inl (3, 4, .inr (.inl (fun _ => 0))))]) 3 10 := by
  refine z_of (by decide) rfl (Nat.le_of_ble_eq_true rfl) (fun w0 => ?_)
  refine r_lvE (lv2 := [(0, .ref a), (1, .int mg)]) rfl ?_
  refine r_aload_n d_Ca_init_0 rfl 0 rfl ?_
  refine r_objInit ln_Ca_3 w_oi1 w_oi2 d_Ca_init_1 (by decide) (by decide) (Nat.le_of_ble_eq_true rfl) ?_
  refine r_aload_n d_Ca_init_4 rfl 0 rfl ?_
  refine r_new nc_Ca_9 d_Ca_init_5 (by omega) (by omega) (fun ab => ?_)
  refine r_cs (cs2 := [(a, .inr (0, [.null, .int 0, .int 0, .int 0, .int 0, .int 0])), (ab, .inr (6, [.null, .int 0]))]) rfl ?_
  refine r_dup d_Ca_init_8 rfl ?_
  refine r_callIN (As := []) (rest := [.ref ab, .ref a]) (csC := [(ab, .inr (6, [.null, .int 0]))]) (is := [1]) rfl rfl ln_Ca_11 w_im_Me_init ok_Ca_init_Me_init d_Ca_init_9 (C_Me_init g ab) rfl rfl (Nat.le_of_ble_eq_true rfl) rfl (by decide) (by omega) (by omega) (fun E cs1 hx => ?_) (fun v cs1 hx => ?_)
  · obtain ⟨abg, e1, -⟩ := hx
    cases e1
  · obtain ⟨abg, e1, rfl⟩ := hx
    cases e1
    refine ⟨rfl, ?_⟩
    refine r_st (st2 := [.ref ab, .ref a]) rfl ?_
    refine r_cs (cs2 := [(a, .inr (0, [.null, .int 0, .int 0, .int 0, .int 0, .int 0])), (ab, .inr (6, [.ref abg, .int 0])), (abg, .inl (3, 4, .inr (.inl (fun _ => 0))))]) rfl ?_
    refine r_put fp_Ca_12 d_Ca_init_12 (fun _ => rfl) rfl rfl (q0 := 0) rfl (Nat.le_of_ble_eq_true rfl) (cs' := [(a, .inr (0, [.ref ab, .int 0, .int 0, .int 0, .int 0, .int 0])), (ab, .inr (6, [.ref abg, .int 0])), (abg, .inl (3, 4, .inr (.inl (fun _ => 0))))]) rfl ?_
    refine r_aload_n d_Ca_init_15 rfl 0 rfl ?_
    refine r_iload_n d_Ca_init_16 rfl 1 rfl ?_
    refine r_put fp_Ca_18 d_Ca_init_17 (fun _ => rfl) rfl rfl (q0 := 0) rfl (Nat.le_of_ble_eq_true rfl) (cs' := [(a, .inr (0, [.ref ab, .int mg, .int 0, .int 0, .int 0, .int 0])), (ab, .inr (6, [.ref abg, .int 0])), (abg, .inl (3, 4, .inr (.inl (fun _ => 0))))]) rfl ?_
    refine r_vret d_Ca_init_20 rfl ?_
    exact ⟨ab, abg, rfl, rfl⟩
abbrev M_Ca_isDuctile : zM := (⟨"Ironpour$Casting", "isDuctile", "()Z"⟩, prog_2_method_2_code, 1, (Option.some FieldType.boolean), 1, 20, [])
theorem d_Ca_isDuctile_0 : decode prog_2_method_2_code 0 = .ok (.aload_n 0, 1) := zo_42 (zd_b zq_prog_2_method_2_code_0 0 rfl rfl rfl)
theorem d_Ca_isDuctile_1 : decode prog_2_method_2_code 1 = .ok (.getfield 18, 3) := zo_180 (d := 0) (e := 18) (zd_b zq_prog_2_method_2_code_0 1 rfl rfl rfl) (zd_b zq_prog_2_method_2_code_0 2 rfl rfl rfl) (zd_b zq_prog_2_method_2_code_0 3 rfl rfl rfl)
theorem fs_Ca_18 : z_fs "Ironpour$Casting" 18 0 1 := ⟨R_Ca, "Ironpour$Casting", F_Ca, 6, rfl, u_Ca, by decide, Or.inl ⟨z_mj6 (i := 142) rfl (by decide +kernel), Or.inl rfl⟩⟩
theorem d_Ca_isDuctile_4 : decode prog_2_method_2_code 4 = .ok (.bipush 20, 2) := zo_16 (d := 20) (zd_b zq_prog_2_method_2_code_0 4 rfl rfl rfl) (zd_b zq_prog_2_method_2_code_0 5 rfl rfl rfl) (by decide +kernel)
theorem d_Ca_isDuctile_6 : decode prog_2_method_2_code 6 = .ok (.if_icmp .lt 7, 3) := zo_161 (d := 0) (e := 7) (zd_b zq_prog_2_method_2_code_0 6 rfl rfl rfl) (zd_b zq_prog_2_method_2_code_0 7 rfl rfl rfl) (zd_b zq_prog_2_method_2_code_0 8 rfl rfl rfl) (by decide +kernel)
theorem d_Ca_isDuctile_13 : decode prog_2_method_2_code 13 = .ok (.iconst 0, 1) := zo_3 (zd_b zq_prog_2_method_2_code_0 13 rfl rfl rfl)
theorem d_Ca_isDuctile_14 : decode prog_2_method_2_code 14 = .ok (.ireturn, 1) := zo_172 (zd_b zq_prog_2_method_2_code_0 14 rfl rfl rfl)
theorem d_Ca_isDuctile_9 : decode prog_2_method_2_code 9 = .ok (.iconst 1, 1) := zo_4 (zd_b zq_prog_2_method_2_code_0 9 rfl rfl rfl)
theorem d_Ca_isDuctile_10 : decode prog_2_method_2_code 10 = .ok (.goto 4, 3) := zo_167 (d := 0) (e := 4) (zd_b zq_prog_2_method_2_code_0 10 rfl rfl rfl) (zd_b zq_prog_2_method_2_code_0 11 rfl rfl rfl) (zd_b zq_prog_2_method_2_code_0 12 rfl rfl rfl) (by decide +kernel)
set_option maxHeartbeats 4000000 in
set_option maxRecDepth 100000 in
theorem C_Ca_isDuctile (g : zG) (a ab abg : Nat) (gr : Nat → Int64) (ir mg sh fb dl bk : Int32) : CT g M_Ca_isDuctile [.ref a] [(a, .inr (0, [.ref ab, .int mg, .int sh, .int fb, .int dl, .int bk])), (ab, .inr (6, [.ref abg, .int ir])), (abg, .inl (3, 4, .inr (.inl gr)))] (fun o cs1 => o = .inl (some (.int (if mg < 20 then 0 else 1))) ∧ cs1 = [(a, .inr (0, [.ref ab, .int mg, .int sh, .int fb, .int dl, .int bk])), (ab, .inr (6, [.ref abg, .int ir])), (abg, .inl (3, 4, .inr (.inl gr)))]) 0 0 := by
  refine z_of (by decide) rfl (Nat.le_of_ble_eq_true rfl) (fun w0 => ?_)
  refine r_lvE (lv2 := [(0, .ref a)]) rfl ?_
  refine r_aload_n d_Ca_isDuctile_0 rfl 0 rfl ?_
  refine r_get fs_Ca_18 d_Ca_isDuctile_1 (q0 := 0) rfl rfl ?_
  refine r_bipush d_Ca_isDuctile_4 (v := 20) (by decide) ?_
  refine r_icmp_lt (tgt := 13) d_Ca_isDuctile_6 (by decide) (fun c_6 => ?_) (fun c_6 => ?_)
  · refine r_iconst d_Ca_isDuctile_13 (v := 0) (by decide) ?_
    refine r_iret d_Ca_isDuctile_14 rfl rfl ?_
    refine ⟨?_, rfl⟩
    first | rw [if_pos (by assumption)] | rw [if_neg (by assumption)]
  · refine r_iconst d_Ca_isDuctile_9 (v := 1) (by decide) ?_
    refine r_goto (tgt := 14) d_Ca_isDuctile_10 (by decide) ?_
    refine r_iret d_Ca_isDuctile_14 rfl rfl ?_
    refine ⟨?_, rfl⟩
    first | rw [if_pos (by assumption)] | rw [if_neg (by assumption)]
abbrev M_Ca_isHard : zM := (⟨"Ironpour$Casting", "isHard", "()Z"⟩, prog_2_method_3_code, 1, (Option.some FieldType.boolean), 3, 61, [])
theorem d_Ca_isHard_0 : decode prog_2_method_3_code 0 = .ok (.aload_n 0, 1) := zo_42 (zd_b zq_prog_2_method_3_code_0 0 rfl rfl rfl)
theorem d_Ca_isHard_1 : decode prog_2_method_3_code 1 = .ok (.getfield 12, 3) := zo_180 (d := 0) (e := 12) (zd_b zq_prog_2_method_3_code_0 1 rfl rfl rfl) (zd_b zq_prog_2_method_3_code_0 2 rfl rfl rfl) (zd_b zq_prog_2_method_3_code_0 3 rfl rfl rfl)
theorem fs_Ca_12 : z_fs "Ironpour$Casting" 12 0 0 := ⟨R_Ca, "Ironpour$Casting", F_Ca, 6, rfl, u_Ca, by decide, Or.inl ⟨z_mj6 (i := 140) rfl (by decide +kernel), Or.inl rfl⟩⟩
theorem d_Ca_isHard_4 : decode prog_2_method_3_code 4 = .ok (.invokevirtual 22, 3) := zo_182 (d := 0) (e := 22) (zd_b zq_prog_2_method_3_code_0 4 rfl rfl rfl) (zd_b zq_prog_2_method_3_code_0 5 rfl rfl rfl) (zd_b zq_prog_2_method_3_code_0 6 rfl rfl rfl)
theorem ok_Ca_isHard_Me_carbonAlike : z_ok M_Ca_isHard M_Me_carbonAlike 0 := ⟨z_mj6 (i := 177) rfl (by decide +kernel), rfl, ⟨by decide +kernel, by decide +kernel, by decide +kernel⟩, ⟨by decide, by decide⟩, z_mj1 (i := 8) rfl (by decide +kernel), rfl⟩
theorem ln_Ca_22 : Cond.methodLink "Ironpour$Casting" 22 M_Me_carbonAlike.1 ∈ z_gw := z_mj6 (i := 174) rfl (by decide +kernel)
theorem w_im_Me_carbonAlike : Cond.instanceMethod M_Me_carbonAlike.1 ∈ z_gw := z_mj6 (i := 175) rfl (by decide +kernel)
theorem w_se_Me_carbonAlike : Cond.selects M_Me_carbonAlike.1.cls M_Me_carbonAlike.1 M_Me_carbonAlike.1 ∈ z_gw := z_mj6 (i := 176) rfl (by decide +kernel)
theorem d_Ca_isHard_7 : decode prog_2_method_3_code 7 = .ok (.sipush 370, 3) := zo_17 (d := 1) (e := 114) (zd_b zq_prog_2_method_3_code_0 7 rfl rfl rfl) (zd_b zq_prog_2_method_3_code_0 8 rfl rfl rfl) (zd_b zq_prog_2_method_3_code_0 9 rfl rfl rfl) (by decide +kernel)
theorem d_Ca_isHard_10 : decode prog_2_method_3_code 10 = .ok (.if_icmp .lt 17, 3) := zo_161 (d := 0) (e := 17) (zd_b zq_prog_2_method_3_code_0 10 rfl rfl rfl) (zd_b zq_prog_2_method_3_code_0 11 rfl rfl rfl) (zd_b zq_prog_2_method_3_code_0 12 rfl rfl rfl) (by decide +kernel)
theorem d_Ca_isHard_27 : decode prog_2_method_3_code 27 = .ok (.iconst 1, 1) := zo_4 (zd_b zq_prog_2_method_3_code_0 27 rfl rfl rfl)
theorem d_Ca_isHard_28 : decode prog_2_method_3_code 28 = .ok (.goto 4, 3) := zo_167 (d := 0) (e := 4) (zd_b zq_prog_2_method_3_code_0 28 rfl rfl rfl) (zd_b zq_prog_2_method_3_code_0 29 rfl rfl rfl) (zd_b zq_prog_2_method_3_code_0 30 rfl rfl rfl) (by decide +kernel)
theorem d_Ca_isHard_32 : decode prog_2_method_3_code 32 = .ok (.ireturn, 1) := zo_172 (zd_b zq_prog_2_method_3_code_1 0 rfl rfl rfl)
theorem d_Ca_isHard_13 : decode prog_2_method_3_code 13 = .ok (.aload_n 0, 1) := zo_42 (zd_b zq_prog_2_method_3_code_0 13 rfl rfl rfl)
theorem d_Ca_isHard_14 : decode prog_2_method_3_code 14 = .ok (.getfield 18, 3) := zo_180 (d := 0) (e := 18) (zd_b zq_prog_2_method_3_code_0 14 rfl rfl rfl) (zd_b zq_prog_2_method_3_code_0 15 rfl rfl rfl) (zd_b zq_prog_2_method_3_code_0 16 rfl rfl rfl)
theorem d_Ca_isHard_17 : decode prog_2_method_3_code 17 = .ok (.ifCond .le 14, 3) := zo_158 (d := 0) (e := 14) (zd_b zq_prog_2_method_3_code_0 17 rfl rfl rfl) (zd_b zq_prog_2_method_3_code_0 18 rfl rfl rfl) (zd_b zq_prog_2_method_3_code_0 19 rfl rfl rfl) (by decide +kernel)
theorem d_Ca_isHard_31 : decode prog_2_method_3_code 31 = .ok (.iconst 0, 1) := zo_3 (zd_b zq_prog_2_method_3_code_0 31 rfl rfl rfl)
theorem d_Ca_isHard_20 : decode prog_2_method_3_code 20 = .ok (.aload_n 0, 1) := zo_42 (zd_b zq_prog_2_method_3_code_0 20 rfl rfl rfl)
theorem d_Ca_isHard_21 : decode prog_2_method_3_code 21 = .ok (.invokevirtual 26, 3) := zo_182 (d := 0) (e := 26) (zd_b zq_prog_2_method_3_code_0 21 rfl rfl rfl) (zd_b zq_prog_2_method_3_code_0 22 rfl rfl rfl) (zd_b zq_prog_2_method_3_code_0 23 rfl rfl rfl)
theorem ok_Ca_isHard_Ca_isDuctile : z_ok M_Ca_isHard M_Ca_isDuctile 0 := ⟨z_mj6 (i := 182) rfl (by decide +kernel), rfl, ⟨by decide +kernel, by decide +kernel, by decide +kernel⟩, ⟨by decide, by decide⟩, z_mj1 (i := 35) rfl (by decide +kernel), rfl⟩
theorem ln_Ca_26 : Cond.methodLink "Ironpour$Casting" 26 M_Ca_isDuctile.1 ∈ z_gw := z_mj6 (i := 179) rfl (by decide +kernel)
theorem w_im_Ca_isDuctile : Cond.instanceMethod M_Ca_isDuctile.1 ∈ z_gw := z_mj6 (i := 180) rfl (by decide +kernel)
theorem w_se_Ca_isDuctile : Cond.selects M_Ca_isDuctile.1.cls M_Ca_isDuctile.1 M_Ca_isDuctile.1 ∈ z_gw := z_mj6 (i := 181) rfl (by decide +kernel)
theorem d_Ca_isHard_24 : decode prog_2_method_3_code 24 = .ok (.ifCond .ne 7, 3) := zo_154 (d := 0) (e := 7) (zd_b zq_prog_2_method_3_code_0 24 rfl rfl rfl) (zd_b zq_prog_2_method_3_code_0 25 rfl rfl rfl) (zd_b zq_prog_2_method_3_code_0 26 rfl rfl rfl) (by decide +kernel)
set_option maxHeartbeats 4000000 in
set_option maxRecDepth 100000 in
theorem C_Ca_isHard (g : zG) (a ab abg : Nat) (gr : Nat → Int64) (ir mg sh fb dl bk : Int32) : CT g M_Ca_isHard [.ref a] [(a, .inr (0, [.ref ab, .int mg, .int sh, .int fb, .int dl, .int bk])), (ab, .inr (6, [.ref abg, .int ir])), (abg, .inl (3, 4, .inr (.inl gr)))] (fun o cs1 => o = .inl (some (.int (z_bi (ihB mg gr ir)))) ∧ cs1 = [(a, .inr (0, [.ref ab, .int mg, .int sh, .int fb, .int dl, .int bk])), (ab, .inr (6, [.ref abg, .int ir])), (abg, .inl (3, 4, .inr (.inl gr)))]) 0 0 := by
  refine z_of (by decide) rfl (Nat.le_of_ble_eq_true rfl) (fun w0 => ?_)
  refine r_lvE (lv2 := [(0, .ref a)]) rfl ?_
  refine r_aload_n d_Ca_isHard_0 rfl 0 rfl ?_
  refine r_get fs_Ca_12 d_Ca_isHard_1 (q0 := 0) rfl rfl ?_
  refine r_callV (As := []) (rest := []) (csC := [(ab, .inr (6, [.ref abg, .int ir])), (abg, .inl (3, 4, .inr (.inl gr)))]) (is := [1, 2]) (q0 := 1) rfl rfl ln_Ca_22 w_im_Me_carbonAlike w_se_Me_carbonAlike ok_Ca_isHard_Me_carbonAlike d_Ca_isHard_4 (C_Me_carbonAlike g ab abg gr ir) rfl rfl (Nat.le_of_ble_eq_true rfl) rfl (by decide) (by omega) (by omega) (fun E cs1 hx => ?_) (fun v cs1 hx => ?_)
  · exact absurd hx.1 (by simp)
  · obtain ⟨e1, rfl⟩ := hx
    cases e1
    refine ⟨rfl, ?_⟩
    refine r_st (st2 := [.int (caI gr ir)]) rfl ?_
    refine r_cs (cs2 := [(a, .inr (0, [.ref ab, .int mg, .int sh, .int fb, .int dl, .int bk])), (ab, .inr (6, [.ref abg, .int ir])), (abg, .inl (3, 4, .inr (.inl gr)))]) rfl ?_
    refine r_sipush d_Ca_isHard_7 (v := 370) (by decide) ?_
    refine r_icmp_lt (tgt := 27) d_Ca_isHard_10 (by decide) (fun c_10 => ?_) (fun c_10 => ?_)
    · refine r_iconst d_Ca_isHard_27 (v := 1) (by decide) ?_
      refine r_goto (tgt := 32) d_Ca_isHard_28 (by decide) ?_
      refine r_iret d_Ca_isHard_32 rfl rfl ?_
      refine ⟨?_, rfl⟩
      simp_all [ihB, z_bi]
    · refine r_aload_n d_Ca_isHard_13 rfl 0 rfl ?_
      refine r_get fs_Ca_18 d_Ca_isHard_14 (q0 := 0) rfl rfl ?_
      refine r_if_le (tgt := 31) d_Ca_isHard_17 (by decide) (fun c_17 => ?_) (fun c_17 => ?_)
      · refine r_iconst d_Ca_isHard_31 (v := 0) (by decide) ?_
        refine r_iret d_Ca_isHard_32 rfl rfl ?_
        refine ⟨?_, rfl⟩
        simp_all [ihB, z_bi]
      · refine r_aload_n d_Ca_isHard_20 rfl 0 rfl ?_
        refine r_callV (As := []) (rest := []) (csC := [(a, .inr (0, [.ref ab, .int mg, .int sh, .int fb, .int dl, .int bk])), (ab, .inr (6, [.ref abg, .int ir])), (abg, .inl (3, 4, .inr (.inl gr)))]) (is := [0, 1, 2]) (q0 := 0) rfl rfl ln_Ca_26 w_im_Ca_isDuctile w_se_Ca_isDuctile ok_Ca_isHard_Ca_isDuctile d_Ca_isHard_21 (C_Ca_isDuctile g a ab abg gr ir mg sh fb dl bk) rfl rfl (Nat.le_of_ble_eq_true rfl) rfl (by decide) (by omega) (by omega) (fun E cs1 hx => ?_) (fun v cs1 hx => ?_)
        · exact absurd hx.1 (by simp)
        · obtain ⟨e1, rfl⟩ := hx
          cases e1
          refine ⟨rfl, ?_⟩
          refine r_st (st2 := [.int (if mg < 20 then 0 else 1)]) rfl ?_
          refine r_cs (cs2 := [(a, .inr (0, [.ref ab, .int mg, .int sh, .int fb, .int dl, .int bk])), (ab, .inr (6, [.ref abg, .int ir])), (abg, .inl (3, 4, .inr (.inl gr)))]) rfl ?_
          refine r_if_ne (tgt := 31) d_Ca_isHard_24 (by decide) (fun c_24 => ?_) (fun c_24 => ?_)
          · refine r_iconst d_Ca_isHard_31 (v := 0) (by decide) ?_
            refine r_iret d_Ca_isHard_32 rfl rfl ?_
            refine ⟨?_, rfl⟩
            simp_all [ihB, z_bi]
          · refine r_iconst d_Ca_isHard_27 (v := 1) (by decide) ?_
            refine r_goto (tgt := 32) d_Ca_isHard_28 (by decide) ?_
            refine r_iret d_Ca_isHard_32 rfl rfl ?_
            refine ⟨?_, rfl⟩
            simp_all [ihB, z_bi]
abbrev M_Ca_hasFault : zM := (⟨"Ironpour$Casting", "hasFault", "(I)Z"⟩, prog_2_method_4_code, 2, (Option.some FieldType.boolean), 1, 20, [])
theorem d_Ca_hasFault_0 : decode prog_2_method_4_code 0 = .ok (.aload_n 0, 1) := zo_42 (zd_b zq_prog_2_method_4_code_0 0 rfl rfl rfl)
theorem d_Ca_hasFault_1 : decode prog_2_method_4_code 1 = .ok (.getfield 30, 3) := zo_180 (d := 0) (e := 30) (zd_b zq_prog_2_method_4_code_0 1 rfl rfl rfl) (zd_b zq_prog_2_method_4_code_0 2 rfl rfl rfl) (zd_b zq_prog_2_method_4_code_0 3 rfl rfl rfl)
theorem fs_Ca_30 : z_fs "Ironpour$Casting" 30 0 3 := ⟨R_Ca, "Ironpour$Casting", F_Ca, 6, rfl, u_Ca, by decide, Or.inl ⟨z_mj6 (i := 144) rfl (by decide +kernel), Or.inl rfl⟩⟩
theorem d_Ca_hasFault_4 : decode prog_2_method_4_code 4 = .ok (.iload_n 1, 1) := zo_27 (zd_b zq_prog_2_method_4_code_0 4 rfl rfl rfl)
theorem d_Ca_hasFault_5 : decode prog_2_method_4_code 5 = .ok (.iand, 1) := zo_126 (zd_b zq_prog_2_method_4_code_0 5 rfl rfl rfl)
theorem d_Ca_hasFault_6 : decode prog_2_method_4_code 6 = .ok (.ifCond .eq 7, 3) := zo_153 (d := 0) (e := 7) (zd_b zq_prog_2_method_4_code_0 6 rfl rfl rfl) (zd_b zq_prog_2_method_4_code_0 7 rfl rfl rfl) (zd_b zq_prog_2_method_4_code_0 8 rfl rfl rfl) (by decide +kernel)
theorem d_Ca_hasFault_13 : decode prog_2_method_4_code 13 = .ok (.iconst 0, 1) := zo_3 (zd_b zq_prog_2_method_4_code_0 13 rfl rfl rfl)
theorem d_Ca_hasFault_14 : decode prog_2_method_4_code 14 = .ok (.ireturn, 1) := zo_172 (zd_b zq_prog_2_method_4_code_0 14 rfl rfl rfl)
theorem d_Ca_hasFault_9 : decode prog_2_method_4_code 9 = .ok (.iconst 1, 1) := zo_4 (zd_b zq_prog_2_method_4_code_0 9 rfl rfl rfl)
theorem d_Ca_hasFault_10 : decode prog_2_method_4_code 10 = .ok (.goto 4, 3) := zo_167 (d := 0) (e := 4) (zd_b zq_prog_2_method_4_code_0 10 rfl rfl rfl) (zd_b zq_prog_2_method_4_code_0 11 rfl rfl rfl) (zd_b zq_prog_2_method_4_code_0 12 rfl rfl rfl) (by decide +kernel)
set_option maxHeartbeats 4000000 in
set_option maxRecDepth 100000 in
theorem C_Ca_hasFault (g : zG) (a ab abg : Nat) (gr : Nat → Int64) (ir mg sh fb dl bk : Int32) (k : Int32) : CT g M_Ca_hasFault [.ref a, .int k] [(a, .inr (0, [.ref ab, .int mg, .int sh, .int fb, .int dl, .int bk])), (ab, .inr (6, [.ref abg, .int ir])), (abg, .inl (3, 4, .inr (.inl gr)))] (fun o cs1 => o = .inl (some (.int (z_bi (hfB fb k)))) ∧ cs1 = [(a, .inr (0, [.ref ab, .int mg, .int sh, .int fb, .int dl, .int bk])), (ab, .inr (6, [.ref abg, .int ir])), (abg, .inl (3, 4, .inr (.inl gr)))]) 0 0 := by
  refine z_of (by decide) rfl (Nat.le_of_ble_eq_true rfl) (fun w0 => ?_)
  refine r_lvE (lv2 := [(0, .ref a), (1, .int k)]) rfl ?_
  refine r_aload_n d_Ca_hasFault_0 rfl 0 rfl ?_
  refine r_get fs_Ca_30 d_Ca_hasFault_1 (q0 := 0) rfl rfl ?_
  refine r_iload_n d_Ca_hasFault_4 rfl 1 rfl ?_
  refine r_iand d_Ca_hasFault_5 (v := fb &&& k) rfl ?_
  refine r_if_eq (tgt := 13) d_Ca_hasFault_6 (by decide) (fun c_6 => ?_) (fun c_6 => ?_)
  · refine r_iconst d_Ca_hasFault_13 (v := 0) (by decide) ?_
    refine r_iret d_Ca_hasFault_14 rfl rfl ?_
    refine ⟨?_, rfl⟩
    simp_all [hfB, z_bi]
  · refine r_iconst d_Ca_hasFault_9 (v := 1) (by decide) ?_
    refine r_goto (tgt := 14) d_Ca_hasFault_10 (by decide) ?_
    refine r_iret d_Ca_hasFault_14 rfl rfl ?_
    refine ⟨?_, rfl⟩
    simp_all [hfB, z_bi]
abbrev M_Ca_barBears : zM := (⟨"Ironpour$Casting", "barBears", "()I"⟩, prog_2_method_5_code, 2, (Option.some FieldType.int), 3, 61, [])
theorem d_Ca_barBears_0 : decode prog_2_method_5_code 0 = .ok (.aload_n 0, 1) := zo_42 (zd_b zq_prog_2_method_5_code_0 0 rfl rfl rfl)
theorem d_Ca_barBears_1 : decode prog_2_method_5_code 1 = .ok (.invokevirtual 26, 3) := zo_182 (d := 0) (e := 26) (zd_b zq_prog_2_method_5_code_0 1 rfl rfl rfl) (zd_b zq_prog_2_method_5_code_0 2 rfl rfl rfl) (zd_b zq_prog_2_method_5_code_0 3 rfl rfl rfl)
theorem ok_Ca_barBears_Ca_isDuctile : z_ok M_Ca_barBears M_Ca_isDuctile 0 := ⟨z_mj6 (i := 182) rfl (by decide +kernel), rfl, ⟨by decide +kernel, by decide +kernel, by decide +kernel⟩, ⟨by decide, by decide⟩, z_mj1 (i := 35) rfl (by decide +kernel), rfl⟩
theorem d_Ca_barBears_4 : decode prog_2_method_5_code 4 = .ok (.ifCond .eq 16, 3) := zo_153 (d := 0) (e := 16) (zd_b zq_prog_2_method_5_code_0 4 rfl rfl rfl) (zd_b zq_prog_2_method_5_code_0 5 rfl rfl rfl) (zd_b zq_prog_2_method_5_code_0 6 rfl rfl rfl) (by decide +kernel)
theorem d_Ca_barBears_20 : decode prog_2_method_5_code 20 = .ok (.sipush 500, 3) := zo_17 (d := 1) (e := 244) (zd_b zq_prog_2_method_5_code_0 20 rfl rfl rfl) (zd_b zq_prog_2_method_5_code_0 21 rfl rfl rfl) (zd_b zq_prog_2_method_5_code_0 22 rfl rfl rfl) (by decide +kernel)
theorem d_Ca_barBears_23 : decode prog_2_method_5_code 23 = .ok (.iconst 2, 1) := zo_5 (zd_b zq_prog_2_method_5_code_0 23 rfl rfl rfl)
theorem d_Ca_barBears_24 : decode prog_2_method_5_code 24 = .ok (.iconst 0, 1) := zo_3 (zd_b zq_prog_2_method_5_code_0 24 rfl rfl rfl)
theorem d_Ca_barBears_25 : decode prog_2_method_5_code 25 = .ok (.aload_n 0, 1) := zo_42 (zd_b zq_prog_2_method_5_code_0 25 rfl rfl rfl)
theorem d_Ca_barBears_26 : decode prog_2_method_5_code 26 = .ok (.getfield 12, 3) := zo_180 (d := 0) (e := 12) (zd_b zq_prog_2_method_5_code_0 26 rfl rfl rfl) (zd_b zq_prog_2_method_5_code_0 27 rfl rfl rfl) (zd_b zq_prog_2_method_5_code_0 28 rfl rfl rfl)
theorem d_Ca_barBears_29 : decode prog_2_method_5_code 29 = .ok (.invokevirtual 22, 3) := zo_182 (d := 0) (e := 22) (zd_b zq_prog_2_method_5_code_0 29 rfl rfl rfl) (zd_b zq_prog_2_method_5_code_0 30 rfl rfl rfl) (zd_b zq_prog_2_method_5_code_0 31 rfl rfl rfl)
theorem ok_Ca_barBears_Me_carbonAlike : z_ok M_Ca_barBears M_Me_carbonAlike 0 := ⟨z_mj6 (i := 177) rfl (by decide +kernel), rfl, ⟨by decide +kernel, by decide +kernel, by decide +kernel⟩, ⟨by decide, by decide⟩, z_mj1 (i := 8) rfl (by decide +kernel), rfl⟩
theorem d_Ca_barBears_32 : decode prog_2_method_5_code 32 = .ok (.sipush 300, 3) := zo_17 (d := 1) (e := 44) (zd_b zq_prog_2_method_5_code_1 0 rfl rfl rfl) (zd_b zq_prog_2_method_5_code_1 1 rfl rfl rfl) (zd_b zq_prog_2_method_5_code_1 2 rfl rfl rfl) (by decide +kernel)
theorem d_Ca_barBears_35 : decode prog_2_method_5_code 35 = .ok (.isub, 1) := zo_100 (zd_b zq_prog_2_method_5_code_1 3 rfl rfl rfl)
theorem d_Ca_barBears_36 : decode prog_2_method_5_code 36 = .ok (.invokestatic 33, 3) := zo_184 (d := 0) (e := 33) (zd_b zq_prog_2_method_5_code_1 4 rfl rfl rfl) (zd_b zq_prog_2_method_5_code_1 5 rfl rfl rfl) (zd_b zq_prog_2_method_5_code_1 6 rfl rfl rfl)
theorem ln_Ca_33 : Cond.methodLink "Ironpour$Casting" 33 Lib.Math.max.name ∈ z_gw := z_mj6 (i := 228) rfl (by decide +kernel)
theorem d_Ca_barBears_39 : decode prog_2_method_5_code 39 = .ok (.imul, 1) := zo_104 (zd_b zq_prog_2_method_5_code_1 7 rfl rfl rfl)
theorem d_Ca_barBears_40 : decode prog_2_method_5_code 40 = .ok (.isub, 1) := zo_100 (zd_b zq_prog_2_method_5_code_1 8 rfl rfl rfl)
theorem d_Ca_barBears_41 : decode prog_2_method_5_code 41 = .ok (.istore_n 1, 1) := zo_60 (zd_b zq_prog_2_method_5_code_1 9 rfl rfl rfl)
theorem d_Ca_barBears_42 : decode prog_2_method_5_code 42 = .ok (.iconst 0, 1) := zo_3 (zd_b zq_prog_2_method_5_code_1 10 rfl rfl rfl)
theorem d_Ca_barBears_43 : decode prog_2_method_5_code 43 = .ok (.iload_n 1, 1) := zo_27 (zd_b zq_prog_2_method_5_code_1 11 rfl rfl rfl)
theorem d_Ca_barBears_44 : decode prog_2_method_5_code 44 = .ok (.bipush 30, 2) := zo_16 (d := 30) (zd_b zq_prog_2_method_5_code_1 12 rfl rfl rfl) (zd_b zq_prog_2_method_5_code_1 13 rfl rfl rfl) (by decide +kernel)
theorem d_Ca_barBears_46 : decode prog_2_method_5_code 46 = .ok (.aload_n 0, 1) := zo_42 (zd_b zq_prog_2_method_5_code_1 14 rfl rfl rfl)
theorem d_Ca_barBears_47 : decode prog_2_method_5_code 47 = .ok (.getfield 30, 3) := zo_180 (d := 0) (e := 30) (zd_b zq_prog_2_method_5_code_1 15 rfl rfl rfl) (zd_b zq_prog_2_method_5_code_1 16 rfl rfl rfl) (zd_b zq_prog_2_method_5_code_1 17 rfl rfl rfl)
theorem d_Ca_barBears_50 : decode prog_2_method_5_code 50 = .ok (.invokestatic 39, 3) := zo_184 (d := 0) (e := 39) (zd_b zq_prog_2_method_5_code_1 18 rfl rfl rfl) (zd_b zq_prog_2_method_5_code_1 19 rfl rfl rfl) (zd_b zq_prog_2_method_5_code_1 20 rfl rfl rfl)
theorem ok_Ca_barBears_Integer_bitCount : z_ok M_Ca_barBears M_Integer_bitCount 1 := ⟨z_mj6 (i := 231) rfl (by decide +kernel), rfl, ⟨by decide +kernel, by decide +kernel, by decide +kernel⟩, ⟨by decide, by decide⟩, z_mj1 (i := 36) rfl (by decide +kernel), rfl⟩
theorem ln_Ca_39 : Cond.methodLink "Ironpour$Casting" 39 M_Integer_bitCount.1 ∈ z_gw := z_mj6 (i := 229) rfl (by decide +kernel)
theorem w_st_Integer_bitCount : Cond.static M_Integer_bitCount.1 ∈ z_gw := z_mj6 (i := 230) rfl (by decide +kernel)
theorem d_Ca_barBears_53 : decode prog_2_method_5_code 53 = .ok (.imul, 1) := zo_104 (zd_b zq_prog_2_method_5_code_1 21 rfl rfl rfl)
theorem d_Ca_barBears_54 : decode prog_2_method_5_code 54 = .ok (.isub, 1) := zo_100 (zd_b zq_prog_2_method_5_code_1 22 rfl rfl rfl)
theorem d_Ca_barBears_55 : decode prog_2_method_5_code 55 = .ok (.invokestatic 33, 3) := zo_184 (d := 0) (e := 33) (zd_b zq_prog_2_method_5_code_1 23 rfl rfl rfl) (zd_b zq_prog_2_method_5_code_1 24 rfl rfl rfl) (zd_b zq_prog_2_method_5_code_1 25 rfl rfl rfl)
theorem d_Ca_barBears_58 : decode prog_2_method_5_code 58 = .ok (.ireturn, 1) := zo_172 (zd_b zq_prog_2_method_5_code_1 26 rfl rfl rfl)
theorem d_Ca_barBears_7 : decode prog_2_method_5_code 7 = .ok (.sipush 400, 3) := zo_17 (d := 1) (e := 144) (zd_b zq_prog_2_method_5_code_0 7 rfl rfl rfl) (zd_b zq_prog_2_method_5_code_0 8 rfl rfl rfl) (zd_b zq_prog_2_method_5_code_0 9 rfl rfl rfl) (by decide +kernel)
theorem d_Ca_barBears_10 : decode prog_2_method_5_code 10 = .ok (.iconst 2, 1) := zo_5 (zd_b zq_prog_2_method_5_code_0 10 rfl rfl rfl)
theorem d_Ca_barBears_11 : decode prog_2_method_5_code 11 = .ok (.aload_n 0, 1) := zo_42 (zd_b zq_prog_2_method_5_code_0 11 rfl rfl rfl)
theorem d_Ca_barBears_12 : decode prog_2_method_5_code 12 = .ok (.getfield 18, 3) := zo_180 (d := 0) (e := 18) (zd_b zq_prog_2_method_5_code_0 12 rfl rfl rfl) (zd_b zq_prog_2_method_5_code_0 13 rfl rfl rfl) (zd_b zq_prog_2_method_5_code_0 14 rfl rfl rfl)
theorem d_Ca_barBears_15 : decode prog_2_method_5_code 15 = .ok (.imul, 1) := zo_104 (zd_b zq_prog_2_method_5_code_0 15 rfl rfl rfl)
theorem d_Ca_barBears_16 : decode prog_2_method_5_code 16 = .ok (.iadd, 1) := zo_96 (zd_b zq_prog_2_method_5_code_0 16 rfl rfl rfl)
theorem d_Ca_barBears_17 : decode prog_2_method_5_code 17 = .ok (.goto 24, 3) := zo_167 (d := 0) (e := 24) (zd_b zq_prog_2_method_5_code_0 17 rfl rfl rfl) (zd_b zq_prog_2_method_5_code_0 18 rfl rfl rfl) (zd_b zq_prog_2_method_5_code_0 19 rfl rfl rfl) (by decide +kernel)
set_option maxHeartbeats 4000000 in
set_option maxRecDepth 100000 in
theorem C_Ca_barBears (g : zG) (a ab abg : Nat) (gr : Nat → Int64) (ir mg sh fb dl bk : Int32) : CT g M_Ca_barBears [.ref a] [(a, .inr (0, [.ref ab, .int mg, .int sh, .int fb, .int dl, .int bk])), (ab, .inr (6, [.ref abg, .int ir])), (abg, .inl (3, 4, .inr (.inl gr)))] (fun o cs1 => o = .inl (some (.int (bbI mg gr ir fb))) ∧ cs1 = [(a, .inr (0, [.ref ab, .int mg, .int sh, .int fb, .int dl, .int bk])), (ab, .inr (6, [.ref abg, .int ir])), (abg, .inl (3, 4, .inr (.inl gr)))]) 0 0 := by
  refine z_of (by decide) rfl (Nat.le_of_ble_eq_true rfl) (fun w0 => ?_)
  refine r_lvE (lv2 := [(0, .ref a)]) rfl ?_
  refine r_aload_n d_Ca_barBears_0 rfl 0 rfl ?_
  refine r_callV (As := []) (rest := []) (csC := [(a, .inr (0, [.ref ab, .int mg, .int sh, .int fb, .int dl, .int bk])), (ab, .inr (6, [.ref abg, .int ir])), (abg, .inl (3, 4, .inr (.inl gr)))]) (is := [0, 1, 2]) (q0 := 0) rfl rfl ln_Ca_26 w_im_Ca_isDuctile w_se_Ca_isDuctile ok_Ca_barBears_Ca_isDuctile d_Ca_barBears_1 (C_Ca_isDuctile g a ab abg gr ir mg sh fb dl bk) rfl rfl (Nat.le_of_ble_eq_true rfl) rfl (by decide) (by omega) (by omega) (fun E cs1 hx => ?_) (fun v cs1 hx => ?_)
  · exact absurd hx.1 (by simp)
  · obtain ⟨e1, rfl⟩ := hx
    cases e1
    refine ⟨rfl, ?_⟩
    refine r_st (st2 := [.int (if mg < 20 then 0 else 1)]) rfl ?_
    refine r_cs (cs2 := [(a, .inr (0, [.ref ab, .int mg, .int sh, .int fb, .int dl, .int bk])), (ab, .inr (6, [.ref abg, .int ir])), (abg, .inl (3, 4, .inr (.inl gr)))]) rfl ?_
    refine r_if_eq (tgt := 20) d_Ca_barBears_4 (by decide) (fun c_4 => ?_) (fun c_4 => ?_)
    · have hm : mg < 20 := Classical.byContradiction (fun q => by rw [if_neg q] at c_4; exact absurd c_4 (by decide))
      refine r_sipush d_Ca_barBears_20 (v := 500) (by decide) ?_
      refine r_iconst d_Ca_barBears_23 (v := 2) (by decide) ?_
      refine r_iconst d_Ca_barBears_24 (v := 0) (by decide) ?_
      refine r_aload_n d_Ca_barBears_25 rfl 0 rfl ?_
      refine r_get fs_Ca_12 d_Ca_barBears_26 (q0 := 0) rfl rfl ?_
      refine r_callV (As := []) (rest := [.int 0, .int 2, .int 500]) (csC := [(ab, .inr (6, [.ref abg, .int ir])), (abg, .inl (3, 4, .inr (.inl gr)))]) (is := [1, 2]) (q0 := 1) rfl rfl ln_Ca_22 w_im_Me_carbonAlike w_se_Me_carbonAlike ok_Ca_barBears_Me_carbonAlike d_Ca_barBears_29 (C_Me_carbonAlike g ab abg gr ir) rfl rfl (Nat.le_of_ble_eq_true rfl) rfl (by decide) (by omega) (by omega) (fun E cs1 hx => ?_) (fun v cs1 hx => ?_)
      · exact absurd hx.1 (by simp)
      · obtain ⟨e1, rfl⟩ := hx
        cases e1
        refine ⟨rfl, ?_⟩
        refine r_st (st2 := [.int (caI gr ir), .int 0, .int 2, .int 500]) rfl ?_
        refine r_cs (cs2 := [(a, .inr (0, [.ref ab, .int mg, .int sh, .int fb, .int dl, .int bk])), (ab, .inr (6, [.ref abg, .int ir])), (abg, .inl (3, 4, .inr (.inl gr)))]) rfl ?_
        refine r_sipush d_Ca_barBears_32 (v := 300) (by decide) ?_
        refine r_isub d_Ca_barBears_35 (v := (caI gr ir) - 300) rfl ?_
        refine r_max (v := (if 0 < (caI gr ir) - 300 then (caI gr ir) - 300 else 0)) ln_Ca_33 w_mmax w_mi w_cmax d_Ca_barBears_36 (by decide) (by decide) (Nat.le_of_ble_eq_true rfl) rfl ?_
        refine r_imul d_Ca_barBears_39 (v := 2 * (if 0 < caI gr ir - 300 then caI gr ir - 300 else 0)) rfl ?_
        refine r_isub d_Ca_barBears_40 (v := 500 - (2 * (if 0 < caI gr ir - 300 then caI gr ir - 300 else 0))) rfl ?_
        refine r_istore_n (lv' := [(1, .int (500 - (2 * (if 0 < caI gr ir - 300 then caI gr ir - 300 else 0)))), (0, .ref a)]) d_Ca_barBears_41 rfl (by decide) rfl ?_
        refine r_iconst d_Ca_barBears_42 (v := 0) (by decide) ?_
        refine r_iload_n d_Ca_barBears_43 rfl 0 rfl ?_
        refine r_bipush d_Ca_barBears_44 (v := 30) (by decide) ?_
        refine r_aload_n d_Ca_barBears_46 rfl 1 rfl ?_
        refine r_get fs_Ca_30 d_Ca_barBears_47 (q0 := 0) rfl rfl ?_
        refine r_callS (As := [.int fb]) (rest := [.int 30, .int (500 - (2 * (if 0 < caI gr ir - 300 then caI gr ir - 300 else 0))), .int 0]) (csC := []) (is := []) ln_Ca_39 w_st_Integer_bitCount ok_Ca_barBears_Integer_bitCount d_Ca_barBears_50 (C_In_bitCount g fb) rfl rfl (Nat.le_of_ble_eq_true rfl) rfl (by decide) (by omega) (by omega) (fun E cs1 hx => ?_) (fun v cs1 hx => ?_)
        · exact absurd hx.1 (by simp)
        · obtain ⟨e1, rfl⟩ := hx
          cases e1
          refine ⟨rfl, ?_⟩
          refine r_st (st2 := [.int (S_In_bitCount fb), .int 30, .int (500 - (2 * (if 0 < caI gr ir - 300 then caI gr ir - 300 else 0))), .int 0]) rfl ?_
          refine r_cs (cs2 := [(a, .inr (0, [.ref ab, .int mg, .int sh, .int fb, .int dl, .int bk])), (ab, .inr (6, [.ref abg, .int ir])), (abg, .inl (3, 4, .inr (.inl gr)))]) rfl ?_
          refine r_imul d_Ca_barBears_53 (v := 30 * S_In_bitCount fb) rfl ?_
          refine r_isub d_Ca_barBears_54 (v := (500 - (2 * (if 0 < caI gr ir - 300 then caI gr ir - 300 else 0))) - (30 * S_In_bitCount fb)) rfl ?_
          refine r_max (v := (if 0 < (500 - (2 * (if 0 < caI gr ir - 300 then caI gr ir - 300 else 0))) - (30 * S_In_bitCount fb) then (500 - (2 * (if 0 < caI gr ir - 300 then caI gr ir - 300 else 0))) - (30 * S_In_bitCount fb) else 0)) ln_Ca_33 w_mmax w_mi w_cmax d_Ca_barBears_55 (by decide) (by decide) (Nat.le_of_ble_eq_true rfl) rfl ?_
          refine r_iret d_Ca_barBears_58 rfl rfl ?_
          refine ⟨?_, rfl⟩
          first | (rw [bbI, show beI mg gr ir = _ from if_pos hm]) | (rw [bbI, show beI mg gr ir = _ from if_neg hm])
    · have hm : ¬ mg < 20 := fun q => c_4 (if_pos q)
      refine r_sipush d_Ca_barBears_7 (v := 400) (by decide) ?_
      refine r_iconst d_Ca_barBears_10 (v := 2) (by decide) ?_
      refine r_aload_n d_Ca_barBears_11 rfl 0 rfl ?_
      refine r_get fs_Ca_18 d_Ca_barBears_12 (q0 := 0) rfl rfl ?_
      refine r_imul d_Ca_barBears_15 (v := 2 * mg) rfl ?_
      refine r_iadd d_Ca_barBears_16 (v := 400 + (2 * mg)) rfl ?_
      refine r_goto (tgt := 41) d_Ca_barBears_17 (by decide) ?_
      refine r_istore_n (lv' := [(1, .int (400 + (2 * mg))), (0, .ref a)]) d_Ca_barBears_41 rfl (by decide) rfl ?_
      refine r_iconst d_Ca_barBears_42 (v := 0) (by decide) ?_
      refine r_iload_n d_Ca_barBears_43 rfl 0 rfl ?_
      refine r_bipush d_Ca_barBears_44 (v := 30) (by decide) ?_
      refine r_aload_n d_Ca_barBears_46 rfl 1 rfl ?_
      refine r_get fs_Ca_30 d_Ca_barBears_47 (q0 := 0) rfl rfl ?_
      refine r_callS (As := [.int fb]) (rest := [.int 30, .int (400 + (2 * mg)), .int 0]) (csC := []) (is := []) ln_Ca_39 w_st_Integer_bitCount ok_Ca_barBears_Integer_bitCount d_Ca_barBears_50 (C_In_bitCount g fb) rfl rfl (Nat.le_of_ble_eq_true rfl) rfl (by decide) (by omega) (by omega) (fun E cs1 hx => ?_) (fun v cs1 hx => ?_)
      · exact absurd hx.1 (by simp)
      · obtain ⟨e1, rfl⟩ := hx
        cases e1
        refine ⟨rfl, ?_⟩
        refine r_st (st2 := [.int (S_In_bitCount fb), .int 30, .int (400 + (2 * mg)), .int 0]) rfl ?_
        refine r_cs (cs2 := [(a, .inr (0, [.ref ab, .int mg, .int sh, .int fb, .int dl, .int bk])), (ab, .inr (6, [.ref abg, .int ir])), (abg, .inl (3, 4, .inr (.inl gr)))]) rfl ?_
        refine r_imul d_Ca_barBears_53 (v := 30 * S_In_bitCount fb) rfl ?_
        refine r_isub d_Ca_barBears_54 (v := (400 + (2 * mg)) - (30 * S_In_bitCount fb)) rfl ?_
        refine r_max (v := (if 0 < (400 + (2 * mg)) - (30 * S_In_bitCount fb) then (400 + (2 * mg)) - (30 * S_In_bitCount fb) else 0)) ln_Ca_33 w_mmax w_mi w_cmax d_Ca_barBears_55 (by decide) (by decide) (Nat.le_of_ble_eq_true rfl) rfl ?_
        refine r_iret d_Ca_barBears_58 rfl rfl ?_
        refine ⟨?_, rfl⟩
        first | (rw [bbI, show beI mg gr ir = _ from if_pos hm]) | (rw [bbI, show beI mg gr ir = _ from if_neg hm])
