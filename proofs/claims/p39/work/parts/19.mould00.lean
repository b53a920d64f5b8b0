def moB (f sn : Nat → Int32) (qn : Nat → Nat) (p : Nat) : Int32 := if 0 < (grS f 2 (fa_fill (fun _ => 0) sn 108, qn, 0) 108).2.2 ∨ 0 < ucT f p 12 then 1 else 0
theorem grS_le {f : Nat → Int32} {m : Nat} {S0 : zT} (h0 : S0.2.2 = 0) : ∀ i, (grS f m S0 i).2.2 ≤ i
  | 0 => by show S0.2.2 ≤ 0; omega
  | i + 1 => by
    have ih := grS_le (f := f) (m := m) h0 i
    by_cases q : f i = 111 ∧ (grS f m S0 i).1 i = 0
    · by_cases q2 : (bgB f (grS f m S0 i).1 (grS f m S0 i).2.1 i).2 < m
      · rw [grS_t q q2]; show _ + 1 ≤ _; omega
      · rw [grS_n q q2]; show (grS f m S0 i).2.2 ≤ i + 1; omega
    · rw [grS_f q]; omega
theorem ucT_le {f : Nat → Int32} {p : Nat} (hp : p < 9) : ∀ x, ucT f p x ≤ 9 * x
  | 0 => Nat.zero_le _
  | x + 1 => by
    have ih := ucT_le (f := f) hp x
    have h1 := ucS_le (ks := fun k => f ((p - 1 - k) * 12 + x)) p
    have h2 := ucS_le (ks := fun k => f ((p + k) * 12 + x)) (9 - p)
    show ucT f p x + ((ucS (fun k => f ((p - 1 - k) * 12 + x)) p).2 + (ucS (fun k => f ((p + k) * 12 + x)) (9 - p)).2) ≤ _
    omega
def mo1 (bad sp sr : Int32) : Int32 := if sp ≤ sr then (if bad = 0 then 0 else 16) else (if bad = 0 then 0 else 16) ||| 4
def moF (bad sp sr dr wa wt : Int32) : Int32 := if 80 ≤ dr then (if wt ≤ 60 then mo1 bad sp sr else mo1 bad sp sr ||| 8) else if 40 < wa then mo1 bad sp sr ||| 8 else (if wt ≤ 60 then mo1 bad sp sr else mo1 bad sp sr ||| 8)
def beI (mg : Int32) (gr : Nat → Int64) (ir : Int32) : Int32 := if mg < 20 then 500 - 2 * (if 0 < caI gr ir - 300 then caI gr ir - 300 else 0) else 400 + 2 * mg
def bbI (mg : Int32) (gr : Nat → Int64) (ir fb : Int32) : Int32 := if 0 < beI mg gr ir - 30 * S_In_bitCount fb then beI mg gr ir - 30 * S_In_bitCount fb else 0
def ihB (mg : Int32) (gr : Nat → Int64) (ir : Int32) : Bool := decide (caI gr ir < 370 ∨ (¬ mg ≤ 0 ∧ mg < 20))
def hfB (fb k : Int32) : Bool := decide (¬ fb &&& k = 0)
abbrev M_Mo_init : zM := (⟨"Ironpour$Mould", "<init>", "(LIronpour$Pattern;LIronpour$GreenSand;)V"⟩, prog_9_method_1_code, 3, (Option.none : Option FieldType), 5, 111, [])
theorem d_Mo_init_0 : decode prog_9_method_1_code 0 = .ok (.aload_n 0, 1) := zo_42 (zd_b zq_prog_9_method_1_code_0 0 rfl rfl rfl)
theorem d_Mo_init_1 : decode prog_9_method_1_code 1 = .ok (.invokespecial 3, 3) := zo_183 (d := 0) (e := 3) (zd_b zq_prog_9_method_1_code_0 1 rfl rfl rfl) (zd_b zq_prog_9_method_1_code_0 2 rfl rfl rfl) (zd_b zq_prog_9_method_1_code_0 3 rfl rfl rfl)
theorem ln_Mo_3 : Cond.methodLink "Ironpour$Mould" 3 Lib.objectInit ∈ z_gw := z_mj5 (i := 235) rfl (by decide +kernel)
theorem d_Mo_init_4 : decode prog_9_method_1_code 4 = .ok (.aload_n 0, 1) := zo_42 (zd_b zq_prog_9_method_1_code_0 4 rfl rfl rfl)
theorem d_Mo_init_5 : decode prog_9_method_1_code 5 = .ok (.bipush 108, 2) := zo_16 (d := 108) (zd_b zq_prog_9_method_1_code_0 5 rfl rfl rfl) (zd_b zq_prog_9_method_1_code_0 6 rfl rfl rfl) (by decide +kernel)
theorem d_Mo_init_7 : decode prog_9_method_1_code 7 = .ok (.newarray .char, 2) := by decide +kernel
theorem d_Mo_init_9 : decode prog_9_method_1_code 9 = .ok (.putfield 9, 3) := zo_181 (d := 0) (e := 9) (zd_b zq_prog_9_method_1_code_0 9 rfl rfl rfl) (zd_b zq_prog_9_method_1_code_0 10 rfl rfl rfl) (zd_b zq_prog_9_method_1_code_0 11 rfl rfl rfl)
theorem u_Mo : ∀ x ∈ u_ws R_Mo F_Mo 8, x ∈ z_gw := fun x hx => List.mem_filter.mpr ⟨(z_au [(6, 14), (6, 16), (6, 18), (6, 20), (6, 22), (6, 24), (6, 26), (6, 28)] (by decide +kernel) : ∀ x ∈ u_ws R_Mo F_Mo 8, x ∈ lw_tbl) x hx, (show ∀ x ∈ u_ws R_Mo F_Mo 8, goodWord x = true by decide +kernel) x hx⟩
theorem fp_Mo_9 : z_fp "Ironpour$Mould" 9 7 0 true (t_Mo 0) := ⟨R_Mo, "Ironpour$Mould", F_Mo, 8, t_Mo, rfl, u_Mo, by decide, t_Mo_ok, n_Mo, rfl, rfl, Or.inl ⟨z_mj6 (i := 3) rfl (by decide +kernel), Or.inl rfl, fun _ => ⟨rfl, rfl⟩⟩⟩
theorem d_Mo_init_12 : decode prog_9_method_1_code 12 = .ok (.aload_n 1, 1) := zo_43 (zd_b zq_prog_9_method_1_code_0 12 rfl rfl rfl)
theorem d_Mo_init_13 : decode prog_9_method_1_code 13 = .ok (.getfield 15, 3) := zo_180 (d := 0) (e := 15) (zd_b zq_prog_9_method_1_code_0 13 rfl rfl rfl) (zd_b zq_prog_9_method_1_code_0 14 rfl rfl rfl) (zd_b zq_prog_9_method_1_code_0 15 rfl rfl rfl)
theorem fs_Mo_15 : z_fs "Ironpour$Mould" 15 8 0 := ⟨R_Pa, "Ironpour$Pattern", F_Pa, 4, rfl, u_Pa, by decide, Or.inr ⟨"Ironpour", z_mk1 (i := 53) rfl (by decide +kernel), rfl⟩⟩
theorem d_Mo_init_16 : decode prog_9_method_1_code 16 = .ok (.iconst 0, 1) := zo_3 (zd_b zq_prog_9_method_1_code_0 16 rfl rfl rfl)
theorem d_Mo_init_17 : decode prog_9_method_1_code 17 = .ok (.aload_n 0, 1) := zo_42 (zd_b zq_prog_9_method_1_code_0 17 rfl rfl rfl)
theorem d_Mo_init_18 : decode prog_9_method_1_code 18 = .ok (.getfield 9, 3) := zo_180 (d := 0) (e := 9) (zd_b zq_prog_9_method_1_code_0 18 rfl rfl rfl) (zd_b zq_prog_9_method_1_code_0 19 rfl rfl rfl) (zd_b zq_prog_9_method_1_code_0 20 rfl rfl rfl)
theorem fs_Mo_9 : z_fs "Ironpour$Mould" 9 7 0 := ⟨R_Mo, "Ironpour$Mould", F_Mo, 8, rfl, u_Mo, by decide, Or.inl ⟨z_mj6 (i := 3) rfl (by decide +kernel), Or.inl rfl⟩⟩
theorem d_Mo_init_21 : decode prog_9_method_1_code 21 = .ok (.iconst 0, 1) := zo_3 (zd_b zq_prog_9_method_1_code_0 21 rfl rfl rfl)
theorem d_Mo_init_22 : decode prog_9_method_1_code 22 = .ok (.bipush 108, 2) := zo_16 (d := 108) (zd_b zq_prog_9_method_1_code_0 22 rfl rfl rfl) (zd_b zq_prog_9_method_1_code_0 23 rfl rfl rfl) (by decide +kernel)
theorem d_Mo_init_24 : decode prog_9_method_1_code 24 = .ok (.invokestatic 18, 3) := zo_184 (d := 0) (e := 18) (zd_b zq_prog_9_method_1_code_0 24 rfl rfl rfl) (zd_b zq_prog_9_method_1_code_0 25 rfl rfl rfl) (zd_b zq_prog_9_method_1_code_0 26 rfl rfl rfl)
theorem ln_Mo_18 : Cond.methodLink "Ironpour$Mould" 18 arraycopyName ∈ z_gw := z_mj5 (i := 236) rfl (by decide +kernel)
theorem d_Mo_init_27 : decode prog_9_method_1_code 27 = .ok (.aload_n 0, 1) := zo_42 (zd_b zq_prog_9_method_1_code_0 27 rfl rfl rfl)
theorem d_Mo_init_28 : decode prog_9_method_1_code 28 = .ok (.aload_n 1, 1) := zo_43 (zd_b zq_prog_9_method_1_code_0 28 rfl rfl rfl)
theorem d_Mo_init_29 : decode prog_9_method_1_code 29 = .ok (.invokevirtual 24, 3) := zo_182 (d := 0) (e := 24) (zd_b zq_prog_9_method_1_code_0 29 rfl rfl rfl) (zd_b zq_prog_9_method_1_code_0 30 rfl rfl rfl) (zd_b zq_prog_9_method_1_code_0 31 rfl rfl rfl)
theorem ok_Mo_init_Pa_metalCells : z_ok M_Mo_init M_Pa_metalCells 0 := ⟨z_mj2 (i := 149) rfl (by decide +kernel), rfl, ⟨by decide +kernel, by decide +kernel, by decide +kernel⟩, ⟨by decide, by decide⟩, z_mj1 (i := 2) rfl (by decide +kernel), rfl⟩
theorem ln_Mo_24 : Cond.methodLink "Ironpour$Mould" 24 M_Pa_metalCells.1 ∈ z_gw := z_mj5 (i := 237) rfl (by decide +kernel)
theorem w_im_Pa_metalCells : Cond.instanceMethod M_Pa_metalCells.1 ∈ z_gw := z_mj2 (i := 147) rfl (by decide +kernel)
theorem w_se_Pa_metalCells : Cond.selects M_Pa_metalCells.1.cls M_Pa_metalCells.1 M_Pa_metalCells.1 ∈ z_gw := z_mj2 (i := 148) rfl (by decide +kernel)
theorem d_Mo_init_32 : decode prog_9_method_1_code 32 = .ok (.putfield 28, 3) := zo_181 (d := 0) (e := 28) (zd_b zq_prog_9_method_1_code_1 0 rfl rfl rfl) (zd_b zq_prog_9_method_1_code_1 1 rfl rfl rfl) (zd_b zq_prog_9_method_1_code_1 2 rfl rfl rfl)
theorem fp_Mo_28 : z_fp "Ironpour$Mould" 28 7 1 true .int := ⟨R_Mo, "Ironpour$Mould", F_Mo, 8, t_Mo, rfl, u_Mo, by decide, t_Mo_ok, n_Mo, rfl, rfl, Or.inl ⟨z_mj6 (i := 5) rfl (by decide +kernel), Or.inl rfl, fun _ => ⟨rfl, rfl⟩⟩⟩
theorem d_Mo_init_35 : decode prog_9_method_1_code 35 = .ok (.aload_n 0, 1) := zo_42 (zd_b zq_prog_9_method_1_code_1 3 rfl rfl rfl)
theorem d_Mo_init_36 : decode prog_9_method_1_code 36 = .ok (.aload_n 1, 1) := zo_43 (zd_b zq_prog_9_method_1_code_1 4 rfl rfl rfl)
theorem d_Mo_init_37 : decode prog_9_method_1_code 37 = .ok (.invokevirtual 31, 3) := zo_182 (d := 0) (e := 31) (zd_b zq_prog_9_method_1_code_1 5 rfl rfl rfl) (zd_b zq_prog_9_method_1_code_1 6 rfl rfl rfl) (zd_b zq_prog_9_method_1_code_1 7 rfl rfl rfl)
theorem ok_Mo_init_Pa_runningSpeed : z_ok M_Mo_init M_Pa_runningSpeed 0 := ⟨z_mj4 (i := 83) rfl (by decide +kernel), rfl, ⟨by decide +kernel, by decide +kernel, by decide +kernel⟩, ⟨by decide, by decide⟩, z_mj1 (i := 2) rfl (by decide +kernel), rfl⟩
theorem ln_Mo_31 : Cond.methodLink "Ironpour$Mould" 31 M_Pa_runningSpeed.1 ∈ z_gw := z_mj5 (i := 238) rfl (by decide +kernel)
theorem w_im_Pa_runningSpeed : Cond.instanceMethod M_Pa_runningSpeed.1 ∈ z_gw := z_mj4 (i := 81) rfl (by decide +kernel)
theorem w_se_Pa_runningSpeed : Cond.selects M_Pa_runningSpeed.1.cls M_Pa_runningSpeed.1 M_Pa_runningSpeed.1 ∈ z_gw := z_mj4 (i := 82) rfl (by decide +kernel)
theorem d_Mo_init_40 : decode prog_9_method_1_code 40 = .ok (.putfield 34, 3) := zo_181 (d := 0) (e := 34) (zd_b zq_prog_9_method_1_code_1 8 rfl rfl rfl) (zd_b zq_prog_9_method_1_code_1 9 rfl rfl rfl) (zd_b zq_prog_9_method_1_code_1 10 rfl rfl rfl)
theorem fp_Mo_34 : z_fp "Ironpour$Mould" 34 7 2 true .int := ⟨R_Mo, "Ironpour$Mould", F_Mo, 8, t_Mo, rfl, u_Mo, by decide, t_Mo_ok, n_Mo, rfl, rfl, Or.inl ⟨z_mj6 (i := 7) rfl (by decide +kernel), Or.inl rfl, fun _ => ⟨rfl, rfl⟩⟩⟩
theorem d_Mo_init_43 : decode prog_9_method_1_code 43 = .ok (.aload_n 0, 1) := zo_42 (zd_b zq_prog_9_method_1_code_1 11 rfl rfl rfl)
theorem d_Mo_init_44 : decode prog_9_method_1_code 44 = .ok (.aload_n 1, 1) := zo_43 (zd_b zq_prog_9_method_1_code_1 12 rfl rfl rfl)
theorem d_Mo_init_45 : decode prog_9_method_1_code 45 = .ok (.invokevirtual 37, 3) := zo_182 (d := 0) (e := 37) (zd_b zq_prog_9_method_1_code_1 13 rfl rfl rfl) (zd_b zq_prog_9_method_1_code_1 14 rfl rfl rfl) (zd_b zq_prog_9_method_1_code_1 15 rfl rfl rfl)
theorem ok_Mo_init_Pa_looseGroups : z_ok M_Mo_init M_Pa_looseGroups 0 := ⟨z_mj2 (i := 141) rfl (by decide +kernel), rfl, ⟨by decide +kernel, by decide +kernel, by decide +kernel⟩, ⟨by decide, by decide⟩, z_mj1 (i := 2) rfl (by decide +kernel), rfl⟩
theorem ln_Mo_37 : Cond.methodLink "Ironpour$Mould" 37 M_Pa_looseGroups.1 ∈ z_gw := z_mj5 (i := 239) rfl (by decide +kernel)
theorem w_im_Pa_looseGroups : Cond.instanceMethod M_Pa_looseGroups.1 ∈ z_gw := z_mj2 (i := 139) rfl (by decide +kernel)
theorem w_se_Pa_looseGroups : Cond.selects M_Pa_looseGroups.1.cls M_Pa_looseGroups.1 M_Pa_looseGroups.1 ∈ z_gw := z_mj2 (i := 140) rfl (by decide +kernel)
theorem d_Mo_init_48 : decode prog_9_method_1_code 48 = .ok (.ifCond .gt 10, 3) := zo_157 (d := 0) (e := 10) (zd_b zq_prog_9_method_1_code_1 16 rfl rfl rfl) (zd_b zq_prog_9_method_1_code_1 17 rfl rfl rfl) (zd_b zq_prog_9_method_1_code_1 18 rfl rfl rfl) (by decide +kernel)
theorem d_Mo_init_58 : decode prog_9_method_1_code 58 = .ok (.iconst 1, 1) := zo_4 (zd_b zq_prog_9_method_1_code_1 26 rfl rfl rfl)
theorem d_Mo_init_59 : decode prog_9_method_1_code 59 = .ok (.goto 4, 3) := zo_167 (d := 0) (e := 4) (zd_b zq_prog_9_method_1_code_1 27 rfl rfl rfl) (zd_b zq_prog_9_method_1_code_1 28 rfl rfl rfl) (zd_b zq_prog_9_method_1_code_1 29 rfl rfl rfl) (by decide +kernel)
theorem d_Mo_init_63 : decode prog_9_method_1_code 63 = .ok (.putfield 43, 3) := zo_181 (d := 0) (e := 43) (zd_b zq_prog_9_method_1_code_1 31 rfl rfl rfl) (zd_b zq_prog_9_method_1_code_2 0 rfl rfl rfl) (zd_b zq_prog_9_method_1_code_2 1 rfl rfl rfl)
theorem fp_Mo_43 : z_fp "Ironpour$Mould" 43 7 3 true .boolean := ⟨R_Mo, "Ironpour$Mould", F_Mo, 8, t_Mo, rfl, u_Mo, by decide, t_Mo_ok, n_Mo, rfl, rfl, Or.inl ⟨z_mj6 (i := 8) rfl (by decide +kernel), Or.inl rfl, fun _ => ⟨rfl, rfl⟩⟩⟩
theorem d_Mo_init_66 : decode prog_9_method_1_code 66 = .ok (.aload_n 0, 1) := zo_42 (zd_b zq_prog_9_method_1_code_2 2 rfl rfl rfl)
theorem d_Mo_init_67 : decode prog_9_method_1_code 67 = .ok (.aload_n 2, 1) := zo_44 (zd_b zq_prog_9_method_1_code_2 3 rfl rfl rfl)
theorem d_Mo_init_68 : decode prog_9_method_1_code 68 = .ok (.invokevirtual 47, 3) := zo_182 (d := 0) (e := 47) (zd_b zq_prog_9_method_1_code_2 4 rfl rfl rfl) (zd_b zq_prog_9_method_1_code_2 5 rfl rfl rfl) (zd_b zq_prog_9_method_1_code_2 6 rfl rfl rfl)
theorem ok_Mo_init_GS_strength : z_ok M_Mo_init M_GS_strength 0 := ⟨z_mj4 (i := 184) rfl (by decide +kernel), rfl, ⟨by decide +kernel, by decide +kernel, by decide +kernel⟩, ⟨by decide, by decide⟩, z_mj1 (i := 5) rfl (by decide +kernel), rfl⟩
theorem ln_Mo_47 : Cond.methodLink "Ironpour$Mould" 47 M_GS_strength.1 ∈ z_gw := z_mj6 (i := 1) rfl (by decide +kernel)
theorem w_im_GS_strength : Cond.instanceMethod M_GS_strength.1 ∈ z_gw := z_mj4 (i := 182) rfl (by decide +kernel)
theorem w_se_GS_strength : Cond.selects M_GS_strength.1.cls M_GS_strength.1 M_GS_strength.1 ∈ z_gw := z_mj4 (i := 183) rfl (by decide +kernel)
theorem d_Mo_init_71 : decode prog_9_method_1_code 71 = .ok (.putfield 52, 3) := zo_181 (d := 0) (e := 52) (zd_b zq_prog_9_method_1_code_2 7 rfl rfl rfl) (zd_b zq_prog_9_method_1_code_2 8 rfl rfl rfl) (zd_b zq_prog_9_method_1_code_2 9 rfl rfl rfl)
theorem fp_Mo_52 : z_fp "Ironpour$Mould" 52 7 4 true .int := ⟨R_Mo, "Ironpour$Mould", F_Mo, 8, t_Mo, rfl, u_Mo, by decide, t_Mo_ok, n_Mo, rfl, rfl, Or.inl ⟨z_mj6 (i := 9) rfl (by decide +kernel), Or.inl rfl, fun _ => ⟨rfl, rfl⟩⟩⟩
theorem d_Mo_init_74 : decode prog_9_method_1_code 74 = .ok (.aload_n 0, 1) := zo_42 (zd_b zq_prog_9_method_1_code_2 10 rfl rfl rfl)
theorem d_Mo_init_75 : decode prog_9_method_1_code 75 = .ok (.aload_n 2, 1) := zo_44 (zd_b zq_prog_9_method_1_code_2 11 rfl rfl rfl)
theorem d_Mo_init_76 : decode prog_9_method_1_code 76 = .ok (.invokevirtual 54, 3) := zo_182 (d := 0) (e := 54) (zd_b zq_prog_9_method_1_code_2 12 rfl rfl rfl) (zd_b zq_prog_9_method_1_code_2 13 rfl rfl rfl) (zd_b zq_prog_9_method_1_code_2 14 rfl rfl rfl)
theorem ok_Mo_init_GS_draught : z_ok M_Mo_init M_GS_draught 0 := ⟨z_mj4 (i := 199) rfl (by decide +kernel), rfl, ⟨by decide +kernel, by decide +kernel, by decide +kernel⟩, ⟨by decide, by decide⟩, z_mj1 (i := 5) rfl (by decide +kernel), rfl⟩
theorem ln_Mo_54 : Cond.methodLink "Ironpour$Mould" 54 M_GS_draught.1 ∈ z_gw := z_mj6 (i := 2) rfl (by decide +kernel)
theorem w_im_GS_draught : Cond.instanceMethod M_GS_draught.1 ∈ z_gw := z_mj4 (i := 197) rfl (by decide +kernel)
theorem w_se_GS_draught : Cond.selects M_GS_draught.1.cls M_GS_draught.1 M_GS_draught.1 ∈ z_gw := z_mj4 (i := 198) rfl (by decide +kernel)
theorem d_Mo_init_79 : decode prog_9_method_1_code 79 = .ok (.putfield 57, 3) := zo_181 (d := 0) (e := 57) (zd_b zq_prog_9_method_1_code_2 15 rfl rfl rfl) (zd_b zq_prog_9_method_1_code_2 16 rfl rfl rfl) (zd_b zq_prog_9_method_1_code_2 17 rfl rfl rfl)
theorem fp_Mo_57 : z_fp "Ironpour$Mould" 57 7 5 true .int := ⟨R_Mo, "Ironpour$Mould", F_Mo, 8, t_Mo, rfl, u_Mo, by decide, t_Mo_ok, n_Mo, rfl, rfl, Or.inl ⟨z_mj6 (i := 10) rfl (by decide +kernel), Or.inl rfl, fun _ => ⟨rfl, rfl⟩⟩⟩
theorem d_Mo_init_82 : decode prog_9_method_1_code 82 = .ok (.aload_n 0, 1) := zo_42 (zd_b zq_prog_9_method_1_code_2 18 rfl rfl rfl)
theorem d_Mo_init_83 : decode prog_9_method_1_code 83 = .ok (.aload_n 2, 1) := zo_44 (zd_b zq_prog_9_method_1_code_2 19 rfl rfl rfl)
theorem d_Mo_init_84 : decode prog_9_method_1_code 84 = .ok (.getfield 59, 3) := zo_180 (d := 0) (e := 59) (zd_b zq_prog_9_method_1_code_2 20 rfl rfl rfl) (zd_b zq_prog_9_method_1_code_2 21 rfl rfl rfl) (zd_b zq_prog_9_method_1_code_2 22 rfl rfl rfl)
theorem fs_Mo_59 : z_fs "Ironpour$Mould" 59 4 1 := ⟨R_GS, "Ironpour$GreenSand", F_GS, 5, rfl, u_GS, by decide, Or.inr ⟨"Ironpour", z_mk1 (i := 147) rfl (by decide +kernel), rfl⟩⟩
theorem d_Mo_init_87 : decode prog_9_method_1_code 87 = .ok (.putfield 62, 3) := zo_181 (d := 0) (e := 62) (zd_b zq_prog_9_method_1_code_2 23 rfl rfl rfl) (zd_b zq_prog_9_method_1_code_2 24 rfl rfl rfl) (zd_b zq_prog_9_method_1_code_2 25 rfl rfl rfl)
theorem fp_Mo_62 : z_fp "Ironpour$Mould" 62 7 6 true .int := ⟨R_Mo, "Ironpour$Mould", F_Mo, 8, t_Mo, rfl, u_Mo, by decide, t_Mo_ok, n_Mo, rfl, rfl, Or.inl ⟨z_mj6 (i := 11) rfl (by decide +kernel), Or.inl rfl, fun _ => ⟨rfl, rfl⟩⟩⟩
theorem d_Mo_init_90 : decode prog_9_method_1_code 90 = .ok (.return_, 1) := zo_177 (zd_b zq_prog_9_method_1_code_2 26 rfl rfl rfl)
theorem d_Mo_init_51 : decode prog_9_method_1_code 51 = .ok (.aload_n 1, 1) := zo_43 (zd_b zq_prog_9_method_1_code_1 19 rfl rfl rfl)
theorem d_Mo_init_52 : decode prog_9_method_1_code 52 = .ok (.invokevirtual 40, 3) := zo_182 (d := 0) (e := 40) (zd_b zq_prog_9_method_1_code_1 20 rfl rfl rfl) (zd_b zq_prog_9_method_1_code_1 21 rfl rfl rfl) (zd_b zq_prog_9_method_1_code_1 22 rfl rfl rfl)
theorem ok_Mo_init_Pa_undercutCells : z_ok M_Mo_init M_Pa_undercutCells 0 := ⟨z_mj2 (i := 107) rfl (by decide +kernel), rfl, ⟨by decide +kernel, by decide +kernel, by decide +kernel⟩, ⟨by decide, by decide⟩, z_mj1 (i := 2) rfl (by decide +kernel), rfl⟩
theorem ln_Mo_40 : Cond.methodLink "Ironpour$Mould" 40 M_Pa_undercutCells.1 ∈ z_gw := z_mj6 (i := 0) rfl (by decide +kernel)
theorem w_im_Pa_undercutCells : Cond.instanceMethod M_Pa_undercutCells.1 ∈ z_gw := z_mj2 (i := 105) rfl (by decide +kernel)
theorem w_se_Pa_undercutCells : Cond.selects M_Pa_undercutCells.1.cls M_Pa_undercutCells.1 M_Pa_undercutCells.1 ∈ z_gw := z_mj2 (i := 106) rfl (by decide +kernel)
theorem d_Mo_init_55 : decode prog_9_method_1_code 55 = .ok (.ifCond .le 7, 3) := zo_158 (d := 0) (e := 7) (zd_b zq_prog_9_method_1_code_1 23 rfl rfl rfl) (zd_b zq_prog_9_method_1_code_1 24 rfl rfl rfl) (zd_b zq_prog_9_method_1_code_1 25 rfl rfl rfl) (by decide +kernel)
theorem d_Mo_init_62 : decode prog_9_method_1_code 62 = .ok (.iconst 0, 1) := zo_3 (zd_b zq_prog_9_method_1_code_1 30 rfl rfl rfl)
