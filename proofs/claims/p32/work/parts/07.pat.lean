section
abbrev M_Pa_gatesOnTop : zM := (⟨"Ironpour$Pattern", "gatesOnTop", "()I"⟩, prog_10_method_5_code, 3, (Option.some FieldType.int), 1, 20, [])
theorem d_Pa_gatesOnTop_4 : decode prog_10_method_5_code 4 = .ok (.iload_n 2, 1) := zo_28 (zd_b zq_prog_10_method_5_code_0 4 rfl rfl rfl)
theorem d_Pa_gatesOnTop_5 : decode prog_10_method_5_code 5 = .ok (.bipush 12, 2) := zo_16 (d := 12) (zd_b zq_prog_10_method_5_code_0 5 rfl rfl rfl) (zd_b zq_prog_10_method_5_code_0 6 rfl rfl rfl) (by decide +kernel)
theorem d_Pa_gatesOnTop_7 : decode prog_10_method_5_code 7 = .ok (.if_icmp .ge 23, 3) := zo_162 (d := 0) (e := 23) (zd_b zq_prog_10_method_5_code_0 7 rfl rfl rfl) (zd_b zq_prog_10_method_5_code_0 8 rfl rfl rfl) (zd_b zq_prog_10_method_5_code_0 9 rfl rfl rfl) (by decide +kernel)
theorem d_Pa_gatesOnTop_30 : decode prog_10_method_5_code 30 = .ok (.iload_n 1, 1) := zo_27 (zd_b zq_prog_10_method_5_code_0 30 rfl rfl rfl)
theorem d_Pa_gatesOnTop_31 : decode prog_10_method_5_code 31 = .ok (.ireturn, 1) := zo_172 (zd_b zq_prog_10_method_5_code_0 31 rfl rfl rfl)
theorem d_Pa_gatesOnTop_10 : decode prog_10_method_5_code 10 = .ok (.aload_n 0, 1) := zo_42 (zd_b zq_prog_10_method_5_code_0 10 rfl rfl rfl)
theorem d_Pa_gatesOnTop_11 : decode prog_10_method_5_code 11 = .ok (.getfield 9, 3) := zo_180 (d := 0) (e := 9) (zd_b zq_prog_10_method_5_code_0 11 rfl rfl rfl) (zd_b zq_prog_10_method_5_code_0 12 rfl rfl rfl) (zd_b zq_prog_10_method_5_code_0 13 rfl rfl rfl)
theorem d_Pa_gatesOnTop_14 : decode prog_10_method_5_code 14 = .ok (.iload_n 2, 1) := zo_28 (zd_b zq_prog_10_method_5_code_0 14 rfl rfl rfl)
theorem d_Pa_gatesOnTop_15 : decode prog_10_method_5_code 15 = .ok (.caload, 1) := zo_52 (zd_b zq_prog_10_method_5_code_0 15 rfl rfl rfl)
theorem d_Pa_gatesOnTop_16 : decode prog_10_method_5_code 16 = .ok (.bipush 103, 2) := zo_16 (d := 103) (zd_b zq_prog_10_method_5_code_0 16 rfl rfl rfl) (zd_b zq_prog_10_method_5_code_0 17 rfl rfl rfl) (by decide +kernel)
theorem d_Pa_gatesOnTop_18 : decode prog_10_method_5_code 18 = .ok (.if_icmp .ne 6, 3) := zo_160 (d := 0) (e := 6) (zd_b zq_prog_10_method_5_code_0 18 rfl rfl rfl) (zd_b zq_prog_10_method_5_code_0 19 rfl rfl rfl) (zd_b zq_prog_10_method_5_code_0 20 rfl rfl rfl) (by decide +kernel)
theorem d_Pa_gatesOnTop_24 : decode prog_10_method_5_code 24 = .ok (.iinc 2 1, 3) := by decide +kernel
theorem d_Pa_gatesOnTop_27 : decode prog_10_method_5_code 27 = .ok (.goto (-23), 3) := zo_167 (d := 255) (e := 233) (zd_b zq_prog_10_method_5_code_0 27 rfl rfl rfl) (zd_b zq_prog_10_method_5_code_0 28 rfl rfl rfl) (zd_b zq_prog_10_method_5_code_0 29 rfl rfl rfl) (by decide +kernel)
theorem d_Pa_gatesOnTop_21 : decode prog_10_method_5_code 21 = .ok (.iinc 1 1, 3) := by decide +kernel
theorem d_Pa_gatesOnTop_0 : decode prog_10_method_5_code 0 = .ok (.iconst 0, 1) := zo_3 (zd_b zq_prog_10_method_5_code_0 0 rfl rfl rfl)
theorem d_Pa_gatesOnTop_1 : decode prog_10_method_5_code 1 = .ok (.istore_n 1, 1) := zo_60 (zd_b zq_prog_10_method_5_code_0 1 rfl rfl rfl)
theorem d_Pa_gatesOnTop_2 : decode prog_10_method_5_code 2 = .ok (.iconst 0, 1) := zo_3 (zd_b zq_prog_10_method_5_code_0 2 rfl rfl rfl)
theorem d_Pa_gatesOnTop_3 : decode prog_10_method_5_code 3 = .ok (.istore_n 2, 1) := zo_61 (zd_b zq_prog_10_method_5_code_0 3 rfl rfl rfl)
set_option maxHeartbeats 4000000 in
set_option maxRecDepth 100000 in
theorem L_Pa_gatesOnTop_4 (g : zG) (a a1 a2 a3 : Nat) (f sn qu : Nat → Int32) (part : Int32) (w0 : zW) (n : Nat) : ∀ (d i : Nat), i ≤ 12 → 12 < i + d → DV g M_Pa_gatesOnTop (fun o cs1 => o = .inl (some (.int (nI (fa_cnt (fun k => decide (f k = 103)) 12)))) ∧ cs1 = [(a, .inr (8, [.ref a1, .ref a2, .ref a3, .int part])), (a1, .inl (1, 108, .inl f)), (a2, .inl (2, 108, .inl sn)), (a3, .inl (0, 108, .inl qu))]) w0 n 4 [(2, .int (nI i)), (1, .int (nI (fa_cnt (fun k => decide (f k = 103)) i))), (0, .ref a)] [] [(a, .inr (8, [.ref a1, .ref a2, .ref a3, .int part])), (a1, .inl (1, 108, .inl f)), (a2, .inl (2, 108, .inl sn)), (a3, .inl (0, 108, .inl qu))] 0 0 := by
  intro d
  induction d with
  | zero => intro i h1 h2 ; exact absurd h2 (by omega)
  | succ d ih =>
    intro i h1 h2 
    refine r_iload_n d_Pa_gatesOnTop_4 rfl 0 rfl ?_
    refine r_bipush d_Pa_gatesOnTop_5 (v := 12) (by decide) ?_
    refine r_icmp_ge (tgt := 30) d_Pa_gatesOnTop_7 (by decide) (fun c_7 => ?_) (fun c_7 => ?_)
    · have hn := z_le (a := 12) (by omega) (by decide) c_7
      obtain rfl : i = 12 := by omega
      refine r_iload_n d_Pa_gatesOnTop_30 rfl 1 rfl ?_
      refine r_iret d_Pa_gatesOnTop_31 rfl rfl ?_
      exact ⟨rfl, rfl⟩
    · have hn := z_nle (a := 12) (by omega) (by decide) c_7
      refine r_aload_n d_Pa_gatesOnTop_10 rfl 2 rfl ?_
      refine r_get fs_Pa_9 d_Pa_gatesOnTop_11 (q0 := 0) rfl rfl ?_
      refine r_iload_n d_Pa_gatesOnTop_14 rfl 0 rfl ?_
      refine r_cald d_Pa_gatesOnTop_15 (q0 := 1) rfl (vp_in_nI (by omega) (by omega)) (v := f i) (by rw [nI_clamp (by omega)]) ?_
      refine r_bipush d_Pa_gatesOnTop_16 (v := 103) (by decide) ?_
      refine r_icmp_ne (tgt := 24) d_Pa_gatesOnTop_18 (by decide) (fun c_18 => ?_) (fun c_18 => ?_)
      · have hb : decide (f i = 103) = false := decide_eq_false c_18
        refine r_iinc (lv' := [(2, .int (nI (i + 1))), (1, .int (nI (fa_cnt (fun k => decide (f k = 103)) i))), (0, .ref a)]) (v := nI (i + 1)) d_Pa_gatesOnTop_24 (j := 0) rfl (nI_add _ _) (by decide) rfl ?_
        refine r_goto (tgt := 4) d_Pa_gatesOnTop_27 (by decide) ?_
        refine r_lvE (lv2 := [(2, .int (nI (i + 1))), (1, .int (nI (fa_cnt (fun k => decide (f k = 103)) (i + 1)))), (0, .ref a)]) (by first | rw [fa_cnt_yes (p := fun k => decide (f k = 103)) hb] | rw [fa_cnt_no (p := fun k => decide (f k = 103)) hb]) ?_
        refine r_cs (cs2 := [(a, .inr (8, [.ref a1, .ref a2, .ref a3, .int part])), (a1, .inl (1, 108, .inl f)), (a2, .inl (2, 108, .inl sn)), (a3, .inl (0, 108, .inl qu))]) (rfl) ?_
        exact ih (i + 1) (by omega) (by omega)
      · have hb : decide (f i = 103) = true := decide_eq_true c_18
        refine r_iinc (lv' := [(1, .int (nI ((fa_cnt (fun k => decide (f k = 103)) i) + 1))), (2, .int (nI i)), (0, .ref a)]) (v := nI ((fa_cnt (fun k => decide (f k = 103)) i) + 1)) d_Pa_gatesOnTop_21 (j := 1) rfl (nI_add _ _) (by decide) rfl ?_
        refine r_iinc (lv' := [(2, .int (nI (i + 1))), (1, .int (nI ((fa_cnt (fun k => decide (f k = 103)) i) + 1))), (0, .ref a)]) (v := nI (i + 1)) d_Pa_gatesOnTop_24 (j := 1) rfl (nI_add _ _) (by decide) rfl ?_
        refine r_goto (tgt := 4) d_Pa_gatesOnTop_27 (by decide) ?_
        refine r_lvE (lv2 := [(2, .int (nI (i + 1))), (1, .int (nI (fa_cnt (fun k => decide (f k = 103)) (i + 1)))), (0, .ref a)]) (by first | rw [fa_cnt_yes (p := fun k => decide (f k = 103)) hb] | rw [fa_cnt_no (p := fun k => decide (f k = 103)) hb]) ?_
        refine r_cs (cs2 := [(a, .inr (8, [.ref a1, .ref a2, .ref a3, .int part])), (a1, .inl (1, 108, .inl f)), (a2, .inl (2, 108, .inl sn)), (a3, .inl (0, 108, .inl qu))]) (rfl) ?_
        exact ih (i + 1) (by omega) (by omega)
set_option maxHeartbeats 4000000 in
set_option maxRecDepth 100000 in
theorem C_Pa_gatesOnTop (g : zG) (a a1 a2 a3 : Nat) (f sn qu : Nat → Int32) (part : Int32) : CT g M_Pa_gatesOnTop [.ref a] [(a, .inr (8, [.ref a1, .ref a2, .ref a3, .int part])), (a1, .inl (1, 108, .inl f)), (a2, .inl (2, 108, .inl sn)), (a3, .inl (0, 108, .inl qu))] (fun o cs1 => o = .inl (some (.int (nI (fa_cnt (fun k => decide (f k = 103)) 12)))) ∧ cs1 = [(a, .inr (8, [.ref a1, .ref a2, .ref a3, .int part])), (a1, .inl (1, 108, .inl f)), (a2, .inl (2, 108, .inl sn)), (a3, .inl (0, 108, .inl qu))]) 0 0 := by
  refine z_of (by decide) rfl (Nat.le_of_ble_eq_true rfl) (fun w0 => ?_)
  refine r_lvE (lv2 := [(0, .ref a)]) rfl ?_
  refine r_iconst d_Pa_gatesOnTop_0 (v := 0) (by decide) ?_
  refine r_istore_n (lv' := [(1, .int 0), (0, .ref a)]) d_Pa_gatesOnTop_1 rfl (by decide) rfl ?_
  refine r_iconst d_Pa_gatesOnTop_2 (v := 0) (by decide) ?_
  refine r_istore_n (lv' := [(2, .int 0), (1, .int 0), (0, .ref a)]) d_Pa_gatesOnTop_3 rfl (by decide) rfl ?_
  refine r_lvE (lv2 := [(2, .int (nI 0)), (1, .int (nI (fa_cnt (fun k => decide (f k = 103)) 0))), (0, .ref a)]) (rfl) ?_
  refine r_cs (cs2 := [(a, .inr (8, [.ref a1, .ref a2, .ref a3, .int part])), (a1, .inl (1, 108, .inl f)), (a2, .inl (2, 108, .inl sn)), (a3, .inl (0, 108, .inl qu))]) (rfl) ?_
  exact L_Pa_gatesOnTop_4 g a a1 a2 a3 f sn qu part w0 _  (12 + 1) 0 (Nat.zero_le _) (by omega)
abbrev M_Pa_init : zM := (⟨"Ironpour$Pattern", "<init>", "()V"⟩, prog_10_method_1_code, 2, (Option.none : Option FieldType), 1, 20, [])
theorem d_Pa_init_35 : decode prog_10_method_1_code 35 = .ok (.iload_n 1, 1) := zo_27 (zd_b zq_prog_10_method_1_code_1 3 rfl rfl rfl)
theorem d_Pa_init_36 : decode prog_10_method_1_code 36 = .ok (.bipush 108, 2) := zo_16 (d := 108) (zd_b zq_prog_10_method_1_code_1 4 rfl rfl rfl) (zd_b zq_prog_10_method_1_code_1 5 rfl rfl rfl) (by decide +kernel)
theorem d_Pa_init_38 : decode prog_10_method_1_code 38 = .ok (.if_icmp .ge 17, 3) := zo_162 (d := 0) (e := 17) (zd_b zq_prog_10_method_1_code_1 6 rfl rfl rfl) (zd_b zq_prog_10_method_1_code_1 7 rfl rfl rfl) (zd_b zq_prog_10_method_1_code_1 8 rfl rfl rfl) (by decide +kernel)
theorem d_Pa_init_55 : decode prog_10_method_1_code 55 = .ok (.return_, 1) := zo_177 (zd_b zq_prog_10_method_1_code_1 23 rfl rfl rfl)
theorem d_Pa_init_41 : decode prog_10_method_1_code 41 = .ok (.aload_n 0, 1) := zo_42 (zd_b zq_prog_10_method_1_code_1 9 rfl rfl rfl)
theorem d_Pa_init_42 : decode prog_10_method_1_code 42 = .ok (.getfield 9, 3) := zo_180 (d := 0) (e := 9) (zd_b zq_prog_10_method_1_code_1 10 rfl rfl rfl) (zd_b zq_prog_10_method_1_code_1 11 rfl rfl rfl) (zd_b zq_prog_10_method_1_code_1 12 rfl rfl rfl)
theorem d_Pa_init_45 : decode prog_10_method_1_code 45 = .ok (.iload_n 1, 1) := zo_27 (zd_b zq_prog_10_method_1_code_1 13 rfl rfl rfl)
theorem d_Pa_init_46 : decode prog_10_method_1_code 46 = .ok (.bipush 46, 2) := zo_16 (d := 46) (zd_b zq_prog_10_method_1_code_1 14 rfl rfl rfl) (zd_b zq_prog_10_method_1_code_1 15 rfl rfl rfl) (by decide +kernel)
theorem d_Pa_init_48 : decode prog_10_method_1_code 48 = .ok (.castore, 1) := zo_85 (zd_b zq_prog_10_method_1_code_1 16 rfl rfl rfl)
theorem d_Pa_init_49 : decode prog_10_method_1_code 49 = .ok (.iinc 1 1, 3) := by decide +kernel
theorem d_Pa_init_52 : decode prog_10_method_1_code 52 = .ok (.goto (-17), 3) := zo_167 (d := 255) (e := 239) (zd_b zq_prog_10_method_1_code_1 20 rfl rfl rfl) (zd_b zq_prog_10_method_1_code_1 21 rfl rfl rfl) (zd_b zq_prog_10_method_1_code_1 22 rfl rfl rfl) (by decide +kernel)
theorem d_Pa_init_0 : decode prog_10_method_1_code 0 = .ok (.aload_n 0, 1) := zo_42 (zd_b zq_prog_10_method_1_code_0 0 rfl rfl rfl)
theorem d_Pa_init_1 : decode prog_10_method_1_code 1 = .ok (.invokespecial 3, 3) := zo_183 (d := 0) (e := 3) (zd_b zq_prog_10_method_1_code_0 1 rfl rfl rfl) (zd_b zq_prog_10_method_1_code_0 2 rfl rfl rfl) (zd_b zq_prog_10_method_1_code_0 3 rfl rfl rfl)
theorem ln_Pa_3 : Cond.methodLink "Ironpour$Pattern" 3 Lib.objectInit ∈ z_gw := z_mj1 (i := 51) rfl (by decide +kernel)
theorem w_oi1 : Cond.instanceMethod Lib.objectInit ∈ z_gw := z_mj1 (i := 44) rfl (by decide +kernel)
theorem w_oi2 : Cond.code Lib.objectInit ⟨#[0xb1]⟩ 1 none ∈ z_gw := z_mj1 (i := 45) rfl (by decide +kernel)
theorem d_Pa_init_4 : decode prog_10_method_1_code 4 = .ok (.aload_n 0, 1) := zo_42 (zd_b zq_prog_10_method_1_code_0 4 rfl rfl rfl)
theorem d_Pa_init_5 : decode prog_10_method_1_code 5 = .ok (.bipush 108, 2) := zo_16 (d := 108) (zd_b zq_prog_10_method_1_code_0 5 rfl rfl rfl) (zd_b zq_prog_10_method_1_code_0 6 rfl rfl rfl) (by decide +kernel)
theorem d_Pa_init_7 : decode prog_10_method_1_code 7 = .ok (.newarray .char, 2) := by decide +kernel
theorem ac_char : Cond.arrayClass .char ∈ z_gw := z_mj1 (i := 68) rfl (by decide +kernel)
theorem d_Pa_init_9 : decode prog_10_method_1_code 9 = .ok (.putfield 9, 3) := zo_181 (d := 0) (e := 9) (zd_b zq_prog_10_method_1_code_0 9 rfl rfl rfl) (zd_b zq_prog_10_method_1_code_0 10 rfl rfl rfl) (zd_b zq_prog_10_method_1_code_0 11 rfl rfl rfl)
theorem fp_Pa_9 : z_fp "Ironpour$Pattern" 9 8 0 true (t_Pa 0) := ⟨R_Pa, "Ironpour$Pattern", F_Pa, 4, t_Pa, rfl, u_Pa, by decide, t_Pa_ok, n_Pa, rfl, rfl, Or.inl ⟨z_mj1 (i := 52) rfl (by decide +kernel), Or.inl rfl, fun _ => ⟨rfl, rfl⟩⟩⟩
theorem d_Pa_init_12 : decode prog_10_method_1_code 12 = .ok (.aload_n 0, 1) := zo_42 (zd_b zq_prog_10_method_1_code_0 12 rfl rfl rfl)
theorem d_Pa_init_13 : decode prog_10_method_1_code 13 = .ok (.bipush 108, 2) := zo_16 (d := 108) (zd_b zq_prog_10_method_1_code_0 13 rfl rfl rfl) (zd_b zq_prog_10_method_1_code_0 14 rfl rfl rfl) (by decide +kernel)
theorem d_Pa_init_15 : decode prog_10_method_1_code 15 = .ok (.newarray .boolean, 2) := by decide +kernel
theorem ac_bool : Cond.arrayClass .boolean ∈ z_gw := z_mj1 (i := 69) rfl (by decide +kernel)
theorem d_Pa_init_17 : decode prog_10_method_1_code 17 = .ok (.putfield 15, 3) := zo_181 (d := 0) (e := 15) (zd_b zq_prog_10_method_1_code_0 17 rfl rfl rfl) (zd_b zq_prog_10_method_1_code_0 18 rfl rfl rfl) (zd_b zq_prog_10_method_1_code_0 19 rfl rfl rfl)
theorem fp_Pa_15 : z_fp "Ironpour$Pattern" 15 8 1 true (t_Pa 1) := ⟨R_Pa, "Ironpour$Pattern", F_Pa, 4, t_Pa, rfl, u_Pa, by decide, t_Pa_ok, n_Pa, rfl, rfl, Or.inl ⟨z_mj1 (i := 55) rfl (by decide +kernel), Or.inl rfl, fun _ => ⟨rfl, rfl⟩⟩⟩
theorem d_Pa_init_20 : decode prog_10_method_1_code 20 = .ok (.aload_n 0, 1) := zo_42 (zd_b zq_prog_10_method_1_code_0 20 rfl rfl rfl)
theorem d_Pa_init_21 : decode prog_10_method_1_code 21 = .ok (.bipush 108, 2) := zo_16 (d := 108) (zd_b zq_prog_10_method_1_code_0 21 rfl rfl rfl) (zd_b zq_prog_10_method_1_code_0 22 rfl rfl rfl) (by decide +kernel)
theorem d_Pa_init_23 : decode prog_10_method_1_code 23 = .ok (.newarray .int, 2) := by decide +kernel
theorem ac_int : Cond.arrayClass .int ∈ z_gw := z_mj1 (i := 70) rfl (by decide +kernel)
theorem d_Pa_init_25 : decode prog_10_method_1_code 25 = .ok (.putfield 19, 3) := zo_181 (d := 0) (e := 19) (zd_b zq_prog_10_method_1_code_0 25 rfl rfl rfl) (zd_b zq_prog_10_method_1_code_0 26 rfl rfl rfl) (zd_b zq_prog_10_method_1_code_0 27 rfl rfl rfl)
theorem fp_Pa_19 : z_fp "Ironpour$Pattern" 19 8 2 true (t_Pa 2) := ⟨R_Pa, "Ironpour$Pattern", F_Pa, 4, t_Pa, rfl, u_Pa, by decide, t_Pa_ok, n_Pa, rfl, rfl, Or.inl ⟨z_mj1 (i := 56) rfl (by decide +kernel), Or.inl rfl, fun _ => ⟨rfl, rfl⟩⟩⟩
theorem d_Pa_init_28 : decode prog_10_method_1_code 28 = .ok (.aload_n 0, 1) := zo_42 (zd_b zq_prog_10_method_1_code_0 28 rfl rfl rfl)
theorem d_Pa_init_29 : decode prog_10_method_1_code 29 = .ok (.iconst 4, 1) := zo_7 (zd_b zq_prog_10_method_1_code_0 29 rfl rfl rfl)
theorem d_Pa_init_30 : decode prog_10_method_1_code 30 = .ok (.putfield 23, 3) := zo_181 (d := 0) (e := 23) (zd_b zq_prog_10_method_1_code_0 30 rfl rfl rfl) (zd_b zq_prog_10_method_1_code_0 31 rfl rfl rfl) (zd_b zq_prog_10_method_1_code_1 0 rfl rfl rfl)
theorem fp_Pa_23 : z_fp "Ironpour$Pattern" 23 8 3 false .int := ⟨R_Pa, "Ironpour$Pattern", F_Pa, 4, t_Pa, rfl, u_Pa, by decide, t_Pa_ok, n_Pa, rfl, rfl, Or.inl ⟨z_mj1 (i := 57) rfl (by decide +kernel), Or.inl rfl, fun h => nomatch h⟩⟩
theorem d_Pa_init_33 : decode prog_10_method_1_code 33 = .ok (.iconst 0, 1) := zo_3 (zd_b zq_prog_10_method_1_code_1 1 rfl rfl rfl)
theorem d_Pa_init_34 : decode prog_10_method_1_code 34 = .ok (.istore_n 1, 1) := zo_60 (zd_b zq_prog_10_method_1_code_1 2 rfl rfl rfl)
set_option maxHeartbeats 4000000 in
set_option maxRecDepth 100000 in
theorem L_Pa_init_35 (g : zG) (a : Nat) (w0 : zW) (n : Nat) (a1 a2 a3 : Nat) : ∀ (d i : Nat), i ≤ 108 → 108 < i + d → DV g M_Pa_init (fun o cs1 => ∃ a1 a2 a3, o = .inl none ∧ cs1 = [(a, .inr (8, [.ref a1, .ref a2, .ref a3, .int 4])), (a1, .inl (1, 108, .inl (fa_fill (fun _ => 46) (fun _ => 0) 108))), (a2, .inl (2, 108, .inl (fun _ => 0))), (a3, .inl (0, 108, .inl (fun _ => 0)))]) w0 n 35 [(1, .int (nI i)), (0, .ref a)] [] [(a, .inr (8, [.ref a1, .ref a2, .ref a3, .int 4])), (a1, .inl (1, 108, .inl (fa_fill (fun _ => 46) (fun _ => 0) i))), (a2, .inl (2, 108, .inl (fun _ => 0))), (a3, .inl (0, 108, .inl (fun _ => 0)))] 0 0 := by
  intro d
  induction d with
  | zero => intro i h1 h2 ; exact absurd h2 (by omega)
  | succ d ih =>
    intro i h1 h2 
    refine r_iload_n d_Pa_init_35 rfl 0 rfl ?_
    refine r_bipush d_Pa_init_36 (v := 108) (by decide) ?_
    refine r_icmp_ge (tgt := 55) d_Pa_init_38 (by decide) (fun c_38 => ?_) (fun c_38 => ?_)
    · have hn := z_le (a := 108) (by omega) (by decide) c_38
      obtain rfl : i = 108 := by omega
      refine r_vret d_Pa_init_55 rfl ?_
      exact ⟨a1, a2, a3, rfl, rfl⟩
    · have hn := z_nle (a := 108) (by omega) (by decide) c_38
      refine r_aload_n d_Pa_init_41 rfl 1 rfl ?_
      refine r_get fs_Pa_9 d_Pa_init_42 (q0 := 0) rfl rfl ?_
      refine r_iload_n d_Pa_init_45 rfl 0 rfl ?_
      refine r_bipush d_Pa_init_46 (v := 46) (by decide) ?_
      refine r_cast d_Pa_init_48 (q0 := 1) rfl (vp_in_nI (by omega) (by omega)) (f' := fa_fill (fun _ => 46) (fun _ => 0) (i + 1)) (by rw [nI_clamp (by omega)]; exact fa_fill_succ (fun _ => 46) (fun _ => 0) i) (cs' := [(a, .inr (8, [.ref a1, .ref a2, .ref a3, .int 4])), (a1, .inl (1, 108, .inl (fa_fill (fun _ => 46) (fun _ => 0) (i + 1)))), (a2, .inl (2, 108, .inl (fun _ => 0))), (a3, .inl (0, 108, .inl (fun _ => 0)))]) rfl ?_
      refine r_iinc (lv' := [(1, .int (nI (i + 1))), (0, .ref a)]) (v := nI (i + 1)) d_Pa_init_49 (j := 0) rfl (nI_add _ _) (by decide) rfl ?_
      refine r_goto (tgt := 35) d_Pa_init_52 (by decide) ?_
      refine r_lvE (lv2 := [(1, .int (nI (i + 1))), (0, .ref a)]) (rfl) ?_
      refine r_cs (cs2 := [(a, .inr (8, [.ref a1, .ref a2, .ref a3, .int 4])), (a1, .inl (1, 108, .inl (fa_fill (fun _ => 46) (fun _ => 0) (i + 1)))), (a2, .inl (2, 108, .inl (fun _ => 0))), (a3, .inl (0, 108, .inl (fun _ => 0)))]) (rfl) ?_
      exact ih (i + 1) (by omega) (by omega)
set_option maxHeartbeats 4000000 in
set_option maxRecDepth 100000 in
theorem C_Pa_init (g : zG) (a : Nat) : CT g M_Pa_init [.ref a] [(a, .inr (8, [.null, .null, .null, .int 0]))] (fun o cs1 => ∃ a1 a2 a3, o = .inl none ∧ cs1 = [(a, .inr (8, [.ref a1, .ref a2, .ref a3, .int 4])), (a1, .inl (1, 108, .inl (fa_fill (fun _ => 46) (fun _ => 0) 108))), (a2, .inl (2, 108, .inl (fun _ => 0))), (a3, .inl (0, 108, .inl (fun _ => 0)))]) 3 324 := by
  refine z_of (by decide) rfl (Nat.le_of_ble_eq_true rfl) (fun w0 => ?_)
  refine r_lvE (lv2 := [(0, .ref a)]) rfl ?_
  refine r_aload_n d_Pa_init_0 rfl 0 rfl ?_
  refine r_objInit ln_Pa_3 w_oi1 w_oi2 d_Pa_init_1 (by decide) (by decide) (Nat.le_of_ble_eq_true rfl) ?_
  refine r_aload_n d_Pa_init_4 rfl 0 rfl ?_
  refine r_bipush d_Pa_init_5 (v := 108) (by decide) ?_
  refine r_newa_char (N := 108) ac_char d_Pa_init_7 (by decide) (by decide) (by decide) (by omega) (by omega) (fun a1 => ?_)
  refine r_cs (cs2 := [(a, .inr (8, [.null, .null, .null, .int 0])), (a1, .inl (1, 108, .inl (fun _ => 0)))]) rfl ?_
  refine r_put fp_Pa_9 d_Pa_init_9 (fun _ => rfl) rfl rfl (q0 := 0) rfl (Nat.le_of_ble_eq_true rfl) (cs' := [(a, .inr (8, [.ref a1, .null, .null, .int 0])), (a1, .inl (1, 108, .inl (fun _ => 0)))]) rfl ?_
  refine r_aload_n d_Pa_init_12 rfl 0 rfl ?_
  refine r_bipush d_Pa_init_13 (v := 108) (by decide) ?_
  refine r_newa_bool (N := 108) ac_bool d_Pa_init_15 (by decide) (by decide) (by decide) (by omega) (by omega) (fun a2 => ?_)
  refine r_cs (cs2 := [(a, .inr (8, [.ref a1, .null, .null, .int 0])), (a1, .inl (1, 108, .inl (fun _ => 0))), (a2, .inl (2, 108, .inl (fun _ => 0)))]) rfl ?_
  refine r_put fp_Pa_15 d_Pa_init_17 (fun _ => rfl) rfl rfl (q0 := 0) rfl (Nat.le_of_ble_eq_true rfl) (cs' := [(a, .inr (8, [.ref a1, .ref a2, .null, .int 0])), (a1, .inl (1, 108, .inl (fun _ => 0))), (a2, .inl (2, 108, .inl (fun _ => 0)))]) rfl ?_
  refine r_aload_n d_Pa_init_20 rfl 0 rfl ?_
  refine r_bipush d_Pa_init_21 (v := 108) (by decide) ?_
  refine r_newa_int (N := 108) ac_int d_Pa_init_23 (by decide) (by decide) (by decide) (by omega) (by omega) (fun a3 => ?_)
  refine r_cs (cs2 := [(a, .inr (8, [.ref a1, .ref a2, .null, .int 0])), (a1, .inl (1, 108, .inl (fun _ => 0))), (a2, .inl (2, 108, .inl (fun _ => 0))), (a3, .inl (0, 108, .inl (fun _ => 0)))]) rfl ?_
  refine r_put fp_Pa_19 d_Pa_init_25 (fun _ => rfl) rfl rfl (q0 := 0) rfl (Nat.le_of_ble_eq_true rfl) (cs' := [(a, .inr (8, [.ref a1, .ref a2, .ref a3, .int 0])), (a1, .inl (1, 108, .inl (fun _ => 0))), (a2, .inl (2, 108, .inl (fun _ => 0))), (a3, .inl (0, 108, .inl (fun _ => 0)))]) rfl ?_
  refine r_aload_n d_Pa_init_28 rfl 0 rfl ?_
  refine r_iconst d_Pa_init_29 (v := 4) (by decide) ?_
  refine r_put fp_Pa_23 d_Pa_init_30 (fun h => nomatch h) rfl rfl (q0 := 0) rfl (Nat.le_of_ble_eq_true rfl) (cs' := [(a, .inr (8, [.ref a1, .ref a2, .ref a3, .int 4])), (a1, .inl (1, 108, .inl (fun _ => 0))), (a2, .inl (2, 108, .inl (fun _ => 0))), (a3, .inl (0, 108, .inl (fun _ => 0)))]) rfl ?_
  refine r_iconst d_Pa_init_33 (v := 0) (by decide) ?_
  refine r_istore_n (lv' := [(1, .int 0), (0, .ref a)]) d_Pa_init_34 rfl (by decide) rfl ?_
  refine r_bud (kc2 := 0) (ks2 := 0) (Nat.zero_le _) (Nat.zero_le _) ?_
  refine r_lvE (lv2 := [(1, .int (nI 0)), (0, .ref a)]) (rfl) ?_
  refine r_cs (cs2 := [(a, .inr (8, [.ref a1, .ref a2, .ref a3, .int 4])), (a1, .inl (1, 108, .inl (fa_fill (fun _ => 46) (fun _ => 0) 0))), (a2, .inl (2, 108, .inl (fun _ => 0))), (a3, .inl (0, 108, .inl (fun _ => 0)))]) (rfl) ?_
  exact L_Pa_init_35 g a w0 _ a1 a2 a3 (108 + 1) 0 (Nat.zero_le _) (by omega)
abbrev M_GS_init : zM := (⟨"Ironpour$GreenSand", "<init>", "()V"⟩, prog_6_method_1_code, 1, (Option.none : Option FieldType), 1, 20, [])
theorem d_GS_init_0 : decode prog_6_method_1_code 0 = .ok (.aload_n 0, 1) := zo_42 (zd_b zq_prog_6_method_1_code_0 0 rfl rfl rfl)
theorem d_GS_init_1 : decode prog_6_method_1_code 1 = .ok (.invokespecial 1, 3) := zo_183 (d := 0) (e := 1) (zd_b zq_prog_6_method_1_code_0 1 rfl rfl rfl) (zd_b zq_prog_6_method_1_code_0 2 rfl rfl rfl) (zd_b zq_prog_6_method_1_code_0 3 rfl rfl rfl)
theorem ln_GS_1 : Cond.methodLink "Ironpour$GreenSand" 1 Lib.objectInit ∈ z_gw := z_mj1 (i := 143) rfl (by decide +kernel)
theorem d_GS_init_4 : decode prog_6_method_1_code 4 = .ok (.aload_n 0, 1) := zo_42 (zd_b zq_prog_6_method_1_code_0 4 rfl rfl rfl)
theorem d_GS_init_5 : decode prog_6_method_1_code 5 = .ok (.bipush 80, 2) := zo_16 (d := 80) (zd_b zq_prog_6_method_1_code_0 5 rfl rfl rfl) (zd_b zq_prog_6_method_1_code_0 6 rfl rfl rfl) (by decide +kernel)
theorem d_GS_init_7 : decode prog_6_method_1_code 7 = .ok (.putfield 7, 3) := zo_181 (d := 0) (e := 7) (zd_b zq_prog_6_method_1_code_0 7 rfl rfl rfl) (zd_b zq_prog_6_method_1_code_0 8 rfl rfl rfl) (zd_b zq_prog_6_method_1_code_0 9 rfl rfl rfl)
theorem u_GS : ∀ x ∈ u_ws R_GS F_GS 5, x ∈ z_gw := fun x hx => List.mem_filter.mpr ⟨(z_au [(1, 155), (1, 157), (1, 159), (1, 161), (1, 163)] (by decide +kernel) : ∀ x ∈ u_ws R_GS F_GS 5, x ∈ lw_tbl) x hx, (show ∀ x ∈ u_ws R_GS F_GS 5, goodWord x = true by decide +kernel) x hx⟩
theorem fp_GS_7 : z_fp "Ironpour$GreenSand" 7 4 0 false .int := ⟨R_GS, "Ironpour$GreenSand", F_GS, 5, t_GS, rfl, u_GS, by decide, t_GS_ok, n_GS, rfl, rfl, Or.inl ⟨z_mj1 (i := 144) rfl (by decide +kernel), Or.inl rfl, fun h => nomatch h⟩⟩
theorem d_GS_init_10 : decode prog_6_method_1_code 10 = .ok (.aload_n 0, 1) := zo_42 (zd_b zq_prog_6_method_1_code_0 10 rfl rfl rfl)
theorem d_GS_init_11 : decode prog_6_method_1_code 11 = .ok (.bipush 35, 2) := zo_16 (d := 35) (zd_b zq_prog_6_method_1_code_0 11 rfl rfl rfl) (zd_b zq_prog_6_method_1_code_0 12 rfl rfl rfl) (by decide +kernel)
theorem d_GS_init_13 : decode prog_6_method_1_code 13 = .ok (.putfield 13, 3) := zo_181 (d := 0) (e := 13) (zd_b zq_prog_6_method_1_code_0 13 rfl rfl rfl) (zd_b zq_prog_6_method_1_code_0 14 rfl rfl rfl) (zd_b zq_prog_6_method_1_code_0 15 rfl rfl rfl)
theorem fp_GS_13 : z_fp "Ironpour$GreenSand" 13 4 1 false .int := ⟨R_GS, "Ironpour$GreenSand", F_GS, 5, t_GS, rfl, u_GS, by decide, t_GS_ok, n_GS, rfl, rfl, Or.inl ⟨z_mj1 (i := 146) rfl (by decide +kernel), Or.inl rfl, fun h => nomatch h⟩⟩
theorem d_GS_init_16 : decode prog_6_method_1_code 16 = .ok (.aload_n 0, 1) := zo_42 (zd_b zq_prog_6_method_1_code_0 16 rfl rfl rfl)
theorem d_GS_init_17 : decode prog_6_method_1_code 17 = .ok (.bipush 30, 2) := zo_16 (d := 30) (zd_b zq_prog_6_method_1_code_0 17 rfl rfl rfl) (zd_b zq_prog_6_method_1_code_0 18 rfl rfl rfl) (by decide +kernel)
theorem d_GS_init_19 : decode prog_6_method_1_code 19 = .ok (.putfield 16, 3) := zo_181 (d := 0) (e := 16) (zd_b zq_prog_6_method_1_code_0 19 rfl rfl rfl) (zd_b zq_prog_6_method_1_code_0 20 rfl rfl rfl) (zd_b zq_prog_6_method_1_code_0 21 rfl rfl rfl)
theorem fp_GS_16 : z_fp "Ironpour$GreenSand" 16 4 2 false .int := ⟨R_GS, "Ironpour$GreenSand", F_GS, 5, t_GS, rfl, u_GS, by decide, t_GS_ok, n_GS, rfl, rfl, Or.inl ⟨z_mj1 (i := 149) rfl (by decide +kernel), Or.inl rfl, fun h => nomatch h⟩⟩
theorem d_GS_init_22 : decode prog_6_method_1_code 22 = .ok (.aload_n 0, 1) := zo_42 (zd_b zq_prog_6_method_1_code_0 22 rfl rfl rfl)
theorem d_GS_init_23 : decode prog_6_method_1_code 23 = .ok (.bipush 50, 2) := zo_16 (d := 50) (zd_b zq_prog_6_method_1_code_0 23 rfl rfl rfl) (zd_b zq_prog_6_method_1_code_0 24 rfl rfl rfl) (by decide +kernel)
theorem d_GS_init_25 : decode prog_6_method_1_code 25 = .ok (.putfield 19, 3) := zo_181 (d := 0) (e := 19) (zd_b zq_prog_6_method_1_code_0 25 rfl rfl rfl) (zd_b zq_prog_6_method_1_code_0 26 rfl rfl rfl) (zd_b zq_prog_6_method_1_code_0 27 rfl rfl rfl)
theorem fp_GS_19 : z_fp "Ironpour$GreenSand" 19 4 3 false .int := ⟨R_GS, "Ironpour$GreenSand", F_GS, 5, t_GS, rfl, u_GS, by decide, t_GS_ok, n_GS, rfl, rfl, Or.inl ⟨z_mj1 (i := 151) rfl (by decide +kernel), Or.inl rfl, fun h => nomatch h⟩⟩
theorem d_GS_init_28 : decode prog_6_method_1_code 28 = .ok (.return_, 1) := zo_177 (zd_b zq_prog_6_method_1_code_0 28 rfl rfl rfl)
set_option maxHeartbeats 4000000 in
set_option maxRecDepth 100000 in
theorem C_GS_init (g : zG) (a : Nat) : CT g M_GS_init [.ref a] [(a, .inr (4, [.int 0, .int 0, .int 0, .int 0, .int 0]))] (fun o cs1 => o = .inl (none) ∧ cs1 = [(a, .inr (4, [.int 80, .int 35, .int 30, .int 50, .int 0]))]) 0 0 := by
  refine z_of (by decide) rfl (Nat.le_of_ble_eq_true rfl) (fun w0 => ?_)
  refine r_lvE (lv2 := [(0, .ref a)]) rfl ?_
  refine r_aload_n d_GS_init_0 rfl 0 rfl ?_
  refine r_objInit ln_GS_1 w_oi1 w_oi2 d_GS_init_1 (by decide) (by decide) (Nat.le_of_ble_eq_true rfl) ?_
  refine r_aload_n d_GS_init_4 rfl 0 rfl ?_
  refine r_bipush d_GS_init_5 (v := 80) (by decide) ?_
  refine r_put fp_GS_7 d_GS_init_7 (fun h => nomatch h) rfl rfl (q0 := 0) rfl (Nat.le_of_ble_eq_true rfl) (cs' := [(a, .inr (4, [.int 80, .int 0, .int 0, .int 0, .int 0]))]) rfl ?_
  refine r_aload_n d_GS_init_10 rfl 0 rfl ?_
  refine r_bipush d_GS_init_11 (v := 35) (by decide) ?_
  refine r_put fp_GS_13 d_GS_init_13 (fun h => nomatch h) rfl rfl (q0 := 0) rfl (Nat.le_of_ble_eq_true rfl) (cs' := [(a, .inr (4, [.int 80, .int 35, .int 0, .int 0, .int 0]))]) rfl ?_
  refine r_aload_n d_GS_init_16 rfl 0 rfl ?_
  refine r_bipush d_GS_init_17 (v := 30) (by decide) ?_
  refine r_put fp_GS_16 d_GS_init_19 (fun h => nomatch h) rfl rfl (q0 := 0) rfl (Nat.le_of_ble_eq_true rfl) (cs' := [(a, .inr (4, [.int 80, .int 35, .int 30, .int 0, .int 0]))]) rfl ?_
  refine r_aload_n d_GS_init_22 rfl 0 rfl ?_
  refine r_bipush d_GS_init_23 (v := 50) (by decide) ?_
  refine r_put fp_GS_19 d_GS_init_25 (fun h => nomatch h) rfl rfl (q0 := 0) rfl (Nat.le_of_ble_eq_true rfl) (cs' := [(a, .inr (4, [.int 80, .int 35, .int 30, .int 50, .int 0]))]) rfl ?_
  refine r_vret d_GS_init_28 rfl ?_
  exact ⟨rfl, rfl⟩
abbrev M_GS_strength : zM := (⟨"Ironpour$GreenSand", "strength", "()I"⟩, prog_6_method_2_code, 2, (Option.some FieldType.int), 2, 40, [])
theorem d_GS_strength_0 : decode prog_6_method_2_code 0 = .ok (.bipush 10, 2) := zo_16 (d := 10) (zd_b zq_prog_6_method_2_code_0 0 rfl rfl rfl) (zd_b zq_prog_6_method_2_code_0 1 rfl rfl rfl) (by decide +kernel)
theorem d_GS_strength_2 : decode prog_6_method_2_code 2 = .ok (.aload_n 0, 1) := zo_42 (zd_b zq_prog_6_method_2_code_0 2 rfl rfl rfl)
theorem d_GS_strength_3 : decode prog_6_method_2_code 3 = .ok (.getfield 13, 3) := zo_180 (d := 0) (e := 13) (zd_b zq_prog_6_method_2_code_0 3 rfl rfl rfl) (zd_b zq_prog_6_method_2_code_0 4 rfl rfl rfl) (zd_b zq_prog_6_method_2_code_0 5 rfl rfl rfl)
theorem fs_GS_13 : z_fs "Ironpour$GreenSand" 13 4 1 := ⟨R_GS, "Ironpour$GreenSand", F_GS, 5, rfl, u_GS, by decide, Or.inl ⟨z_mj1 (i := 146) rfl (by decide +kernel), Or.inl rfl⟩⟩
theorem d_GS_strength_6 : decode prog_6_method_2_code 6 = .ok (.imul, 1) := zo_104 (zd_b zq_prog_6_method_2_code_0 6 rfl rfl rfl)
theorem d_GS_strength_7 : decode prog_6_method_2_code 7 = .ok (.iconst 4, 1) := zo_7 (zd_b zq_prog_6_method_2_code_0 7 rfl rfl rfl)
theorem d_GS_strength_8 : decode prog_6_method_2_code 8 = .ok (.aload_n 0, 1) := zo_42 (zd_b zq_prog_6_method_2_code_0 8 rfl rfl rfl)
theorem d_GS_strength_9 : decode prog_6_method_2_code 9 = .ok (.getfield 7, 3) := zo_180 (d := 0) (e := 7) (zd_b zq_prog_6_method_2_code_0 9 rfl rfl rfl) (zd_b zq_prog_6_method_2_code_0 10 rfl rfl rfl) (zd_b zq_prog_6_method_2_code_0 11 rfl rfl rfl)
theorem fs_GS_7 : z_fs "Ironpour$GreenSand" 7 4 0 := ⟨R_GS, "Ironpour$GreenSand", F_GS, 5, rfl, u_GS, by decide, Or.inl ⟨z_mj1 (i := 144) rfl (by decide +kernel), Or.inl rfl⟩⟩
theorem d_GS_strength_12 : decode prog_6_method_2_code 12 = .ok (.imul, 1) := zo_104 (zd_b zq_prog_6_method_2_code_0 12 rfl rfl rfl)
theorem d_GS_strength_13 : decode prog_6_method_2_code 13 = .ok (.isub, 1) := zo_100 (zd_b zq_prog_6_method_2_code_0 13 rfl rfl rfl)
theorem d_GS_strength_14 : decode prog_6_method_2_code 14 = .ok (.invokestatic 22, 3) := zo_184 (d := 0) (e := 22) (zd_b zq_prog_6_method_2_code_0 14 rfl rfl rfl) (zd_b zq_prog_6_method_2_code_0 15 rfl rfl rfl) (zd_b zq_prog_6_method_2_code_0 16 rfl rfl rfl)
theorem ln_GS_22 : Cond.methodLink "Ironpour$GreenSand" 22 Lib.Math.abs.name ∈ z_gw := z_mj4 (i := 185) rfl (by decide +kernel)
theorem w_mabs : Cond.static Lib.Math.abs.name ∈ z_gw := z_mj4 (i := 186) rfl (by decide +kernel)
theorem w_cabs : Cond.code Lib.Math.abs.name Lib.Math.abs.code 1 (some .int) ∈ z_gw := z_mj4 (i := 187) rfl (by decide +kernel)
theorem w_mi : Cond.initialized "java/lang/Math" ∈ z_gw := z_mj1 (i := 17) rfl (by decide +kernel)
theorem d_GS_strength_17 : decode prog_6_method_2_code 17 = .ok (.istore_n 1, 1) := zo_60 (zd_b zq_prog_6_method_2_code_0 17 rfl rfl rfl)
theorem d_GS_strength_18 : decode prog_6_method_2_code 18 = .ok (.iconst 0, 1) := zo_3 (zd_b zq_prog_6_method_2_code_0 18 rfl rfl rfl)
theorem d_GS_strength_19 : decode prog_6_method_2_code 19 = .ok (.iconst 2, 1) := zo_5 (zd_b zq_prog_6_method_2_code_0 19 rfl rfl rfl)
theorem d_GS_strength_20 : decode prog_6_method_2_code 20 = .ok (.aload_n 0, 1) := zo_42 (zd_b zq_prog_6_method_2_code_0 20 rfl rfl rfl)
theorem d_GS_strength_21 : decode prog_6_method_2_code 21 = .ok (.getfield 7, 3) := zo_180 (d := 0) (e := 7) (zd_b zq_prog_6_method_2_code_0 21 rfl rfl rfl) (zd_b zq_prog_6_method_2_code_0 22 rfl rfl rfl) (zd_b zq_prog_6_method_2_code_0 23 rfl rfl rfl)
theorem d_GS_strength_24 : decode prog_6_method_2_code 24 = .ok (.imul, 1) := zo_104 (zd_b zq_prog_6_method_2_code_0 24 rfl rfl rfl)
theorem d_GS_strength_25 : decode prog_6_method_2_code 25 = .ok (.iload_n 1, 1) := zo_27 (zd_b zq_prog_6_method_2_code_0 25 rfl rfl rfl)
theorem d_GS_strength_26 : decode prog_6_method_2_code 26 = .ok (.iconst 5, 1) := zo_8 (zd_b zq_prog_6_method_2_code_0 26 rfl rfl rfl)
theorem d_GS_strength_27 : decode prog_6_method_2_code 27 = .ok (.idiv, 1) := zo_108 (zd_b zq_prog_6_method_2_code_0 27 rfl rfl rfl)
theorem d_GS_strength_28 : decode prog_6_method_2_code 28 = .ok (.isub, 1) := zo_100 (zd_b zq_prog_6_method_2_code_0 28 rfl rfl rfl)
theorem d_GS_strength_29 : decode prog_6_method_2_code 29 = .ok (.aload_n 0, 1) := zo_42 (zd_b zq_prog_6_method_2_code_0 29 rfl rfl rfl)
theorem d_GS_strength_30 : decode prog_6_method_2_code 30 = .ok (.getfield 28, 3) := zo_180 (d := 0) (e := 28) (zd_b zq_prog_6_method_2_code_0 30 rfl rfl rfl) (zd_b zq_prog_6_method_2_code_0 31 rfl rfl rfl) (zd_b zq_prog_6_method_2_code_1 0 rfl rfl rfl)
theorem fs_GS_28 : z_fs "Ironpour$GreenSand" 28 4 4 := ⟨R_GS, "Ironpour$GreenSand", F_GS, 5, rfl, u_GS, by decide, Or.inl ⟨z_mj1 (i := 153) rfl (by decide +kernel), Or.inl rfl⟩⟩
theorem d_GS_strength_33 : decode prog_6_method_2_code 33 = .ok (.iconst 4, 1) := zo_7 (zd_b zq_prog_6_method_2_code_1 1 rfl rfl rfl)
theorem d_GS_strength_34 : decode prog_6_method_2_code 34 = .ok (.idiv, 1) := zo_108 (zd_b zq_prog_6_method_2_code_1 2 rfl rfl rfl)
theorem d_GS_strength_35 : decode prog_6_method_2_code 35 = .ok (.isub, 1) := zo_100 (zd_b zq_prog_6_method_2_code_1 3 rfl rfl rfl)
theorem d_GS_strength_36 : decode prog_6_method_2_code 36 = .ok (.invokestatic 31, 3) := zo_184 (d := 0) (e := 31) (zd_b zq_prog_6_method_2_code_1 4 rfl rfl rfl) (zd_b zq_prog_6_method_2_code_1 5 rfl rfl rfl) (zd_b zq_prog_6_method_2_code_1 6 rfl rfl rfl)
theorem ln_GS_31 : Cond.methodLink "Ironpour$GreenSand" 31 Lib.Math.max.name ∈ z_gw := z_mj4 (i := 188) rfl (by decide +kernel)
theorem w_mmax : Cond.static Lib.Math.max.name ∈ z_gw := z_mj3 (i := 84) rfl (by decide +kernel)
theorem w_cmax : Cond.code Lib.Math.max.name Lib.Math.max.code 2 (some .int) ∈ z_gw := z_mj3 (i := 85) rfl (by decide +kernel)
theorem d_GS_strength_39 : decode prog_6_method_2_code 39 = .ok (.ireturn, 1) := zo_172 (zd_b zq_prog_6_method_2_code_1 7 rfl rfl rfl)
def S_GS_strength (a : Nat) (cl wa co fi bu : Int32) : Int32 := (if 0 < ((2 * cl) - ((if 0 ≤ (10 * wa) - (4 * cl) then (10 * wa) - (4 * cl) else 0 - ((10 * wa) - (4 * cl))) / 5)) - (bu / 4) then ((2 * cl) - ((if 0 ≤ (10 * wa) - (4 * cl) then (10 * wa) - (4 * cl) else 0 - ((10 * wa) - (4 * cl))) / 5)) - (bu / 4) else 0)
set_option maxHeartbeats 4000000 in
set_option maxRecDepth 100000 in
theorem C_GS_strength (g : zG) (a : Nat) (cl wa co fi bu : Int32) : CT g M_GS_strength [.ref a] [(a, .inr (4, [.int cl, .int wa, .int co, .int fi, .int bu]))] (fun o cs1 => o = .inl (some (.int (S_GS_strength a cl wa co fi bu))) ∧ cs1 = [(a, .inr (4, [.int cl, .int wa, .int co, .int fi, .int bu]))]) 0 0 := by
  refine z_of (by decide) rfl (Nat.le_of_ble_eq_true rfl) (fun w0 => ?_)
  refine r_lvE (lv2 := [(0, .ref a)]) rfl ?_
  refine r_bipush d_GS_strength_0 (v := 10) (by decide) ?_
  refine r_aload_n d_GS_strength_2 rfl 0 rfl ?_
  refine r_get fs_GS_13 d_GS_strength_3 (q0 := 0) rfl rfl ?_
  refine r_imul d_GS_strength_6 (v := 10 * wa) rfl ?_
  refine r_iconst d_GS_strength_7 (v := 4) (by decide) ?_
  refine r_aload_n d_GS_strength_8 rfl 0 rfl ?_
  refine r_get fs_GS_7 d_GS_strength_9 (q0 := 0) rfl rfl ?_
  refine r_imul d_GS_strength_12 (v := 4 * cl) rfl ?_
  refine r_isub d_GS_strength_13 (v := (10 * wa) - (4 * cl)) rfl ?_
  refine r_abs (v := (if 0 ≤ (10 * wa) - (4 * cl) then (10 * wa) - (4 * cl) else 0 - ((10 * wa) - (4 * cl)))) ln_GS_22 w_mabs w_mi w_cabs d_GS_strength_14 (by decide) (by decide) (Nat.le_of_ble_eq_true rfl) rfl ?_
  refine r_istore_n (lv' := [(1, .int (if 0 ≤ (10 * wa) - (4 * cl) then (10 * wa) - (4 * cl) else 0 - ((10 * wa) - (4 * cl)))), (0, .ref a)]) d_GS_strength_17 rfl (by decide) rfl ?_
  refine r_iconst d_GS_strength_18 (v := 0) (by decide) ?_
  refine r_iconst d_GS_strength_19 (v := 2) (by decide) ?_
  refine r_aload_n d_GS_strength_20 rfl 1 rfl ?_
  refine r_get fs_GS_7 d_GS_strength_21 (q0 := 0) rfl rfl ?_
  refine r_imul d_GS_strength_24 (v := 2 * cl) rfl ?_
  refine r_iload_n d_GS_strength_25 rfl 0 rfl ?_
  refine r_iconst d_GS_strength_26 (v := 5) (by decide) ?_
  refine r_idiv d_GS_strength_27 (v := (if 0 ≤ (10 * wa) - (4 * cl) then (10 * wa) - (4 * cl) else 0 - ((10 * wa) - (4 * cl))) / 5) (by decide) rfl ?_
  refine r_isub d_GS_strength_28 (v := (2 * cl) - ((if 0 ≤ (10 * wa) - (4 * cl) then (10 * wa) - (4 * cl) else 0 - ((10 * wa) - (4 * cl))) / 5)) rfl ?_
  refine r_aload_n d_GS_strength_29 rfl 1 rfl ?_
  refine r_get fs_GS_28 d_GS_strength_30 (q0 := 0) rfl rfl ?_
  refine r_iconst d_GS_strength_33 (v := 4) (by decide) ?_
  refine r_idiv d_GS_strength_34 (v := bu / 4) (by decide) rfl ?_
  refine r_isub d_GS_strength_35 (v := ((2 * cl) - ((if 0 ≤ (10 * wa) - (4 * cl) then (10 * wa) - (4 * cl) else 0 - ((10 * wa) - (4 * cl))) / 5)) - (bu / 4)) rfl ?_
  refine r_max (v := (if 0 < ((2 * cl) - ((if 0 ≤ (10 * wa) - (4 * cl) then (10 * wa) - (4 * cl) else 0 - ((10 * wa) - (4 * cl))) / 5)) - (bu / 4) then ((2 * cl) - ((if 0 ≤ (10 * wa) - (4 * cl) then (10 * wa) - (4 * cl) else 0 - ((10 * wa) - (4 * cl))) / 5)) - (bu / 4) else 0)) ln_GS_31 w_mmax w_mi w_cmax d_GS_strength_36 (by decide) (by decide) (Nat.le_of_ble_eq_true rfl) rfl ?_
  refine r_iret d_GS_strength_39 rfl rfl ?_
  exact ⟨rfl, rfl⟩
abbrev M_GS_draught : zM := (⟨"Ironpour$GreenSand", "draught", "()I"⟩, prog_6_method_3_code, 1, (Option.some FieldType.int), 2, 40, [])
theorem d_GS_draught_0 : decode prog_6_method_3_code 0 = .ok (.iconst 0, 1) := zo_3 (zd_b zq_prog_6_method_3_code_0 0 rfl rfl rfl)
theorem d_GS_draught_1 : decode prog_6_method_3_code 1 = .ok (.sipush 200, 3) := zo_17 (d := 0) (e := 200) (zd_b zq_prog_6_method_3_code_0 1 rfl rfl rfl) (zd_b zq_prog_6_method_3_code_0 2 rfl rfl rfl) (zd_b zq_prog_6_method_3_code_0 3 rfl rfl rfl) (by decide +kernel)
theorem d_GS_draught_4 : decode prog_6_method_3_code 4 = .ok (.aload_n 0, 1) := zo_42 (zd_b zq_prog_6_method_3_code_0 4 rfl rfl rfl)
theorem d_GS_draught_5 : decode prog_6_method_3_code 5 = .ok (.getfield 19, 3) := zo_180 (d := 0) (e := 19) (zd_b zq_prog_6_method_3_code_0 5 rfl rfl rfl) (zd_b zq_prog_6_method_3_code_0 6 rfl rfl rfl) (zd_b zq_prog_6_method_3_code_0 7 rfl rfl rfl)
theorem fs_GS_19 : z_fs "Ironpour$GreenSand" 19 4 3 := ⟨R_GS, "Ironpour$GreenSand", F_GS, 5, rfl, u_GS, by decide, Or.inl ⟨z_mj1 (i := 151) rfl (by decide +kernel), Or.inl rfl⟩⟩
theorem d_GS_draught_8 : decode prog_6_method_3_code 8 = .ok (.isub, 1) := zo_100 (zd_b zq_prog_6_method_3_code_0 8 rfl rfl rfl)
theorem d_GS_draught_9 : decode prog_6_method_3_code 9 = .ok (.aload_n 0, 1) := zo_42 (zd_b zq_prog_6_method_3_code_0 9 rfl rfl rfl)
theorem d_GS_draught_10 : decode prog_6_method_3_code 10 = .ok (.getfield 16, 3) := zo_180 (d := 0) (e := 16) (zd_b zq_prog_6_method_3_code_0 10 rfl rfl rfl) (zd_b zq_prog_6_method_3_code_0 11 rfl rfl rfl) (zd_b zq_prog_6_method_3_code_0 12 rfl rfl rfl)
theorem fs_GS_16 : z_fs "Ironpour$GreenSand" 16 4 2 := ⟨R_GS, "Ironpour$GreenSand", F_GS, 5, rfl, u_GS, by decide, Or.inl ⟨z_mj1 (i := 149) rfl (by decide +kernel), Or.inl rfl⟩⟩
theorem d_GS_draught_13 : decode prog_6_method_3_code 13 = .ok (.iconst 2, 1) := zo_5 (zd_b zq_prog_6_method_3_code_0 13 rfl rfl rfl)
theorem d_GS_draught_14 : decode prog_6_method_3_code 14 = .ok (.idiv, 1) := zo_108 (zd_b zq_prog_6_method_3_code_0 14 rfl rfl rfl)
theorem d_GS_draught_15 : decode prog_6_method_3_code 15 = .ok (.isub, 1) := zo_100 (zd_b zq_prog_6_method_3_code_0 15 rfl rfl rfl)
theorem d_GS_draught_16 : decode prog_6_method_3_code 16 = .ok (.aload_n 0, 1) := zo_42 (zd_b zq_prog_6_method_3_code_0 16 rfl rfl rfl)
theorem d_GS_draught_17 : decode prog_6_method_3_code 17 = .ok (.getfield 28, 3) := zo_180 (d := 0) (e := 28) (zd_b zq_prog_6_method_3_code_0 17 rfl rfl rfl) (zd_b zq_prog_6_method_3_code_0 18 rfl rfl rfl) (zd_b zq_prog_6_method_3_code_0 19 rfl rfl rfl)
theorem d_GS_draught_20 : decode prog_6_method_3_code 20 = .ok (.isub, 1) := zo_100 (zd_b zq_prog_6_method_3_code_0 20 rfl rfl rfl)
theorem d_GS_draught_21 : decode prog_6_method_3_code 21 = .ok (.invokestatic 31, 3) := zo_184 (d := 0) (e := 31) (zd_b zq_prog_6_method_3_code_0 21 rfl rfl rfl) (zd_b zq_prog_6_method_3_code_0 22 rfl rfl rfl) (zd_b zq_prog_6_method_3_code_0 23 rfl rfl rfl)
theorem d_GS_draught_24 : decode prog_6_method_3_code 24 = .ok (.ireturn, 1) := zo_172 (zd_b zq_prog_6_method_3_code_0 24 rfl rfl rfl)
def S_GS_draught (a : Nat) (cl wa co fi bu : Int32) : Int32 := (if 0 < ((200 - fi) - (co / 2)) - bu then ((200 - fi) - (co / 2)) - bu else 0)
set_option maxHeartbeats 4000000 in
set_option maxRecDepth 100000 in
theorem C_GS_draught (g : zG) (a : Nat) (cl wa co fi bu : Int32) : CT g M_GS_draught [.ref a] [(a, .inr (4, [.int cl, .int wa, .int co, .int fi, .int bu]))] (fun o cs1 => o = .inl (some (.int (S_GS_draught a cl wa co fi bu))) ∧ cs1 = [(a, .inr (4, [.int cl, .int wa, .int co, .int fi, .int bu]))]) 0 0 := by
  refine z_of (by decide) rfl (Nat.le_of_ble_eq_true rfl) (fun w0 => ?_)
  refine r_lvE (lv2 := [(0, .ref a)]) rfl ?_
  refine r_iconst d_GS_draught_0 (v := 0) (by decide) ?_
  refine r_sipush d_GS_draught_1 (v := 200) (by decide) ?_
  refine r_aload_n d_GS_draught_4 rfl 0 rfl ?_
  refine r_get fs_GS_19 d_GS_draught_5 (q0 := 0) rfl rfl ?_
  refine r_isub d_GS_draught_8 (v := 200 - fi) rfl ?_
  refine r_aload_n d_GS_draught_9 rfl 0 rfl ?_
  refine r_get fs_GS_16 d_GS_draught_10 (q0 := 0) rfl rfl ?_
  refine r_iconst d_GS_draught_13 (v := 2) (by decide) ?_
  refine r_idiv d_GS_draught_14 (v := co / 2) (by decide) rfl ?_
  refine r_isub d_GS_draught_15 (v := (200 - fi) - (co / 2)) rfl ?_
  refine r_aload_n d_GS_draught_16 rfl 0 rfl ?_
  refine r_get fs_GS_28 d_GS_draught_17 (q0 := 0) rfl rfl ?_
  refine r_isub d_GS_draught_20 (v := ((200 - fi) - (co / 2)) - bu) rfl ?_
  refine r_max (v := (if 0 < ((200 - fi) - (co / 2)) - bu then ((200 - fi) - (co / 2)) - bu else 0)) ln_GS_31 w_mmax w_mi w_cmax d_GS_draught_21 (by decide) (by decide) (Nat.le_of_ble_eq_true rfl) rfl ?_
  refine r_iret d_GS_draught_24 rfl rfl ?_
  exact ⟨rfl, rfl⟩
abbrev M_GS_mix : zM := (⟨"Ironpour$GreenSand", "mix", "(IIII)V"⟩, prog_6_method_4_code, 5, (Option.none : Option FieldType), 2, 40, [])
theorem d_GS_mix_0 : decode prog_6_method_4_code 0 = .ok (.aload_n 0, 1) := zo_42 (zd_b zq_prog_6_method_4_code_0 0 rfl rfl rfl)
theorem d_GS_mix_1 : decode prog_6_method_4_code 1 = .ok (.dup, 1) := zo_89 (zd_b zq_prog_6_method_4_code_0 1 rfl rfl rfl)
theorem d_GS_mix_2 : decode prog_6_method_4_code 2 = .ok (.getfield 19, 3) := zo_180 (d := 0) (e := 19) (zd_b zq_prog_6_method_4_code_0 2 rfl rfl rfl) (zd_b zq_prog_6_method_4_code_0 3 rfl rfl rfl) (zd_b zq_prog_6_method_4_code_0 4 rfl rfl rfl)
theorem d_GS_mix_5 : decode prog_6_method_4_code 5 = .ok (.aload_n 0, 1) := zo_42 (zd_b zq_prog_6_method_4_code_0 5 rfl rfl rfl)
theorem d_GS_mix_6 : decode prog_6_method_4_code 6 = .ok (.getfield 19, 3) := zo_180 (d := 0) (e := 19) (zd_b zq_prog_6_method_4_code_0 6 rfl rfl rfl) (zd_b zq_prog_6_method_4_code_0 7 rfl rfl rfl) (zd_b zq_prog_6_method_4_code_0 8 rfl rfl rfl)
theorem d_GS_mix_9 : decode prog_6_method_4_code 9 = .ok (.iload 4, 2) := zo_21 (d := 4) (zd_b zq_prog_6_method_4_code_0 9 rfl rfl rfl) (zd_b zq_prog_6_method_4_code_0 10 rfl rfl rfl)
theorem d_GS_mix_11 : decode prog_6_method_4_code 11 = .ok (.imul, 1) := zo_104 (zd_b zq_prog_6_method_4_code_0 11 rfl rfl rfl)
theorem d_GS_mix_12 : decode prog_6_method_4_code 12 = .ok (.bipush 100, 2) := zo_16 (d := 100) (zd_b zq_prog_6_method_4_code_0 12 rfl rfl rfl) (zd_b zq_prog_6_method_4_code_0 13 rfl rfl rfl) (by decide +kernel)
theorem d_GS_mix_14 : decode prog_6_method_4_code 14 = .ok (.idiv, 1) := zo_108 (zd_b zq_prog_6_method_4_code_0 14 rfl rfl rfl)
theorem d_GS_mix_15 : decode prog_6_method_4_code 15 = .ok (.isub, 1) := zo_100 (zd_b zq_prog_6_method_4_code_0 15 rfl rfl rfl)
theorem d_GS_mix_16 : decode prog_6_method_4_code 16 = .ok (.putfield 19, 3) := zo_181 (d := 0) (e := 19) (zd_b zq_prog_6_method_4_code_0 16 rfl rfl rfl) (zd_b zq_prog_6_method_4_code_0 17 rfl rfl rfl) (zd_b zq_prog_6_method_4_code_0 18 rfl rfl rfl)
theorem d_GS_mix_19 : decode prog_6_method_4_code 19 = .ok (.aload_n 0, 1) := zo_42 (zd_b zq_prog_6_method_4_code_0 19 rfl rfl rfl)
theorem d_GS_mix_20 : decode prog_6_method_4_code 20 = .ok (.dup, 1) := zo_89 (zd_b zq_prog_6_method_4_code_0 20 rfl rfl rfl)
theorem d_GS_mix_21 : decode prog_6_method_4_code 21 = .ok (.getfield 28, 3) := zo_180 (d := 0) (e := 28) (zd_b zq_prog_6_method_4_code_0 21 rfl rfl rfl) (zd_b zq_prog_6_method_4_code_0 22 rfl rfl rfl) (zd_b zq_prog_6_method_4_code_0 23 rfl rfl rfl)
theorem d_GS_mix_24 : decode prog_6_method_4_code 24 = .ok (.aload_n 0, 1) := zo_42 (zd_b zq_prog_6_method_4_code_0 24 rfl rfl rfl)
theorem d_GS_mix_25 : decode prog_6_method_4_code 25 = .ok (.getfield 28, 3) := zo_180 (d := 0) (e := 28) (zd_b zq_prog_6_method_4_code_0 25 rfl rfl rfl) (zd_b zq_prog_6_method_4_code_0 26 rfl rfl rfl) (zd_b zq_prog_6_method_4_code_0 27 rfl rfl rfl)
theorem d_GS_mix_28 : decode prog_6_method_4_code 28 = .ok (.iload 4, 2) := zo_21 (d := 4) (zd_b zq_prog_6_method_4_code_0 28 rfl rfl rfl) (zd_b zq_prog_6_method_4_code_0 29 rfl rfl rfl)
theorem d_GS_mix_30 : decode prog_6_method_4_code 30 = .ok (.imul, 1) := zo_104 (zd_b zq_prog_6_method_4_code_0 30 rfl rfl rfl)
theorem d_GS_mix_31 : decode prog_6_method_4_code 31 = .ok (.bipush 100, 2) := zo_16 (d := 100) (zd_b zq_prog_6_method_4_code_0 31 rfl rfl rfl) (zd_b zq_prog_6_method_4_code_1 0 rfl rfl rfl) (by decide +kernel)
theorem d_GS_mix_33 : decode prog_6_method_4_code 33 = .ok (.idiv, 1) := zo_108 (zd_b zq_prog_6_method_4_code_1 1 rfl rfl rfl)
theorem d_GS_mix_34 : decode prog_6_method_4_code 34 = .ok (.isub, 1) := zo_100 (zd_b zq_prog_6_method_4_code_1 2 rfl rfl rfl)
theorem d_GS_mix_35 : decode prog_6_method_4_code 35 = .ok (.putfield 28, 3) := zo_181 (d := 0) (e := 28) (zd_b zq_prog_6_method_4_code_1 3 rfl rfl rfl) (zd_b zq_prog_6_method_4_code_1 4 rfl rfl rfl) (zd_b zq_prog_6_method_4_code_1 5 rfl rfl rfl)
theorem fp_GS_28 : z_fp "Ironpour$GreenSand" 28 4 4 false .int := ⟨R_GS, "Ironpour$GreenSand", F_GS, 5, t_GS, rfl, u_GS, by decide, t_GS_ok, n_GS, rfl, rfl, Or.inl ⟨z_mj1 (i := 153) rfl (by decide +kernel), Or.inl rfl, fun h => nomatch h⟩⟩
theorem d_GS_mix_38 : decode prog_6_method_4_code 38 = .ok (.aload_n 0, 1) := zo_42 (zd_b zq_prog_6_method_4_code_1 6 rfl rfl rfl)
theorem d_GS_mix_39 : decode prog_6_method_4_code 39 = .ok (.sipush 300, 3) := zo_17 (d := 1) (e := 44) (zd_b zq_prog_6_method_4_code_1 7 rfl rfl rfl) (zd_b zq_prog_6_method_4_code_1 8 rfl rfl rfl) (zd_b zq_prog_6_method_4_code_1 9 rfl rfl rfl) (by decide +kernel)
theorem d_GS_mix_42 : decode prog_6_method_4_code 42 = .ok (.aload_n 0, 1) := zo_42 (zd_b zq_prog_6_method_4_code_1 10 rfl rfl rfl)
theorem d_GS_mix_43 : decode prog_6_method_4_code 43 = .ok (.getfield 7, 3) := zo_180 (d := 0) (e := 7) (zd_b zq_prog_6_method_4_code_1 11 rfl rfl rfl) (zd_b zq_prog_6_method_4_code_1 12 rfl rfl rfl) (zd_b zq_prog_6_method_4_code_1 13 rfl rfl rfl)
theorem d_GS_mix_46 : decode prog_6_method_4_code 46 = .ok (.iload_n 1, 1) := zo_27 (zd_b zq_prog_6_method_4_code_1 14 rfl rfl rfl)
theorem d_GS_mix_47 : decode prog_6_method_4_code 47 = .ok (.iadd, 1) := zo_96 (zd_b zq_prog_6_method_4_code_1 15 rfl rfl rfl)
theorem d_GS_mix_48 : decode prog_6_method_4_code 48 = .ok (.invokestatic 35, 3) := zo_184 (d := 0) (e := 35) (zd_b zq_prog_6_method_4_code_1 16 rfl rfl rfl) (zd_b zq_prog_6_method_4_code_1 17 rfl rfl rfl) (zd_b zq_prog_6_method_4_code_1 18 rfl rfl rfl)
theorem ln_GS_35 : Cond.methodLink "Ironpour$GreenSand" 35 Lib.Math.min.name ∈ z_gw := z_mj4 (i := 180) rfl (by decide +kernel)
theorem w_mmin : Cond.static Lib.Math.min.name ∈ z_gw := z_mj3 (i := 87) rfl (by decide +kernel)
theorem w_cmin : Cond.code Lib.Math.min.name Lib.Math.min.code 2 (some .int) ∈ z_gw := z_mj3 (i := 88) rfl (by decide +kernel)
theorem d_GS_mix_51 : decode prog_6_method_4_code 51 = .ok (.putfield 7, 3) := zo_181 (d := 0) (e := 7) (zd_b zq_prog_6_method_4_code_1 19 rfl rfl rfl) (zd_b zq_prog_6_method_4_code_1 20 rfl rfl rfl) (zd_b zq_prog_6_method_4_code_1 21 rfl rfl rfl)
theorem d_GS_mix_54 : decode prog_6_method_4_code 54 = .ok (.aload_n 0, 1) := zo_42 (zd_b zq_prog_6_method_4_code_1 22 rfl rfl rfl)
theorem d_GS_mix_55 : decode prog_6_method_4_code 55 = .ok (.sipush 300, 3) := zo_17 (d := 1) (e := 44) (zd_b zq_prog_6_method_4_code_1 23 rfl rfl rfl) (zd_b zq_prog_6_method_4_code_1 24 rfl rfl rfl) (zd_b zq_prog_6_method_4_code_1 25 rfl rfl rfl) (by decide +kernel)
theorem d_GS_mix_58 : decode prog_6_method_4_code 58 = .ok (.aload_n 0, 1) := zo_42 (zd_b zq_prog_6_method_4_code_1 26 rfl rfl rfl)
theorem d_GS_mix_59 : decode prog_6_method_4_code 59 = .ok (.getfield 13, 3) := zo_180 (d := 0) (e := 13) (zd_b zq_prog_6_method_4_code_1 27 rfl rfl rfl) (zd_b zq_prog_6_method_4_code_1 28 rfl rfl rfl) (zd_b zq_prog_6_method_4_code_1 29 rfl rfl rfl)
theorem d_GS_mix_62 : decode prog_6_method_4_code 62 = .ok (.iload_n 2, 1) := zo_28 (zd_b zq_prog_6_method_4_code_1 30 rfl rfl rfl)
theorem d_GS_mix_63 : decode prog_6_method_4_code 63 = .ok (.iadd, 1) := zo_96 (zd_b zq_prog_6_method_4_code_1 31 rfl rfl rfl)
theorem d_GS_mix_64 : decode prog_6_method_4_code 64 = .ok (.invokestatic 35, 3) := zo_184 (d := 0) (e := 35) (zd_b zq_prog_6_method_4_code_2 0 rfl rfl rfl) (zd_b zq_prog_6_method_4_code_2 1 rfl rfl rfl) (zd_b zq_prog_6_method_4_code_2 2 rfl rfl rfl)
theorem d_GS_mix_67 : decode prog_6_method_4_code 67 = .ok (.putfield 13, 3) := zo_181 (d := 0) (e := 13) (zd_b zq_prog_6_method_4_code_2 3 rfl rfl rfl) (zd_b zq_prog_6_method_4_code_2 4 rfl rfl rfl) (zd_b zq_prog_6_method_4_code_2 5 rfl rfl rfl)
theorem d_GS_mix_70 : decode prog_6_method_4_code 70 = .ok (.aload_n 0, 1) := zo_42 (zd_b zq_prog_6_method_4_code_2 6 rfl rfl rfl)
theorem d_GS_mix_71 : decode prog_6_method_4_code 71 = .ok (.sipush 300, 3) := zo_17 (d := 1) (e := 44) (zd_b zq_prog_6_method_4_code_2 7 rfl rfl rfl) (zd_b zq_prog_6_method_4_code_2 8 rfl rfl rfl) (zd_b zq_prog_6_method_4_code_2 9 rfl rfl rfl) (by decide +kernel)
theorem d_GS_mix_74 : decode prog_6_method_4_code 74 = .ok (.aload_n 0, 1) := zo_42 (zd_b zq_prog_6_method_4_code_2 10 rfl rfl rfl)
theorem d_GS_mix_75 : decode prog_6_method_4_code 75 = .ok (.getfield 16, 3) := zo_180 (d := 0) (e := 16) (zd_b zq_prog_6_method_4_code_2 11 rfl rfl rfl) (zd_b zq_prog_6_method_4_code_2 12 rfl rfl rfl) (zd_b zq_prog_6_method_4_code_2 13 rfl rfl rfl)
theorem d_GS_mix_78 : decode prog_6_method_4_code 78 = .ok (.iload_n 3, 1) := zo_29 (zd_b zq_prog_6_method_4_code_2 14 rfl rfl rfl)
theorem d_GS_mix_79 : decode prog_6_method_4_code 79 = .ok (.iadd, 1) := zo_96 (zd_b zq_prog_6_method_4_code_2 15 rfl rfl rfl)
theorem d_GS_mix_80 : decode prog_6_method_4_code 80 = .ok (.invokestatic 35, 3) := zo_184 (d := 0) (e := 35) (zd_b zq_prog_6_method_4_code_2 16 rfl rfl rfl) (zd_b zq_prog_6_method_4_code_2 17 rfl rfl rfl) (zd_b zq_prog_6_method_4_code_2 18 rfl rfl rfl)
theorem d_GS_mix_83 : decode prog_6_method_4_code 83 = .ok (.putfield 16, 3) := zo_181 (d := 0) (e := 16) (zd_b zq_prog_6_method_4_code_2 19 rfl rfl rfl) (zd_b zq_prog_6_method_4_code_2 20 rfl rfl rfl) (zd_b zq_prog_6_method_4_code_2 21 rfl rfl rfl)
theorem d_GS_mix_86 : decode prog_6_method_4_code 86 = .ok (.return_, 1) := zo_177 (zd_b zq_prog_6_method_4_code_2 22 rfl rfl rfl)
set_option maxHeartbeats 4000000 in
set_option maxRecDepth 100000 in
theorem C_GS_mix (g : zG) (a : Nat) (cl wa co fi bu : Int32) (m1 m2 m3 m4 : Int32) : CT g M_GS_mix [.ref a, .int m1, .int m2, .int m3, .int m4] [(a, .inr (4, [.int cl, .int wa, .int co, .int fi, .int bu]))] (fun o cs1 => o = .inl (none) ∧ cs1 = [(a, .inr (4, [.int (if cl + m1 < 300 then cl + m1 else 300), .int (if wa + m2 < 300 then wa + m2 else 300), .int (if co + m3 < 300 then co + m3 else 300), .int (fi - ((fi * m4) / 100)), .int (bu - ((bu * m4) / 100))]))]) 0 0 := by
  refine z_of (by decide) rfl (Nat.le_of_ble_eq_true rfl) (fun w0 => ?_)
  refine r_lvE (lv2 := [(0, .ref a), (1, .int m1), (2, .int m2), (3, .int m3), (4, .int m4)]) rfl ?_
  refine r_aload_n d_GS_mix_0 rfl 0 rfl ?_
  refine r_dup d_GS_mix_1 rfl ?_
  refine r_get fs_GS_19 d_GS_mix_2 (q0 := 0) rfl rfl ?_
  refine r_aload_n d_GS_mix_5 rfl 0 rfl ?_
  refine r_get fs_GS_19 d_GS_mix_6 (q0 := 0) rfl rfl ?_
  refine r_iload d_GS_mix_9 4 rfl ?_
  refine r_imul d_GS_mix_11 (v := fi * m4) rfl ?_
  refine r_bipush d_GS_mix_12 (v := 100) (by decide) ?_
  refine r_idiv d_GS_mix_14 (v := (fi * m4) / 100) (by decide) rfl ?_
  refine r_isub d_GS_mix_15 (v := fi - ((fi * m4) / 100)) rfl ?_
  refine r_put fp_GS_19 d_GS_mix_16 (fun h => nomatch h) rfl rfl (q0 := 0) rfl (Nat.le_of_ble_eq_true rfl) (cs' := [(a, .inr (4, [.int cl, .int wa, .int co, .int (fi - ((fi * m4) / 100)), .int bu]))]) rfl ?_
  refine r_aload_n d_GS_mix_19 rfl 0 rfl ?_
  refine r_dup d_GS_mix_20 rfl ?_
  refine r_get fs_GS_28 d_GS_mix_21 (q0 := 0) rfl rfl ?_
  refine r_aload_n d_GS_mix_24 rfl 0 rfl ?_
  refine r_get fs_GS_28 d_GS_mix_25 (q0 := 0) rfl rfl ?_
  refine r_iload d_GS_mix_28 4 rfl ?_
  refine r_imul d_GS_mix_30 (v := bu * m4) rfl ?_
  refine r_bipush d_GS_mix_31 (v := 100) (by decide) ?_
  refine r_idiv d_GS_mix_33 (v := (bu * m4) / 100) (by decide) rfl ?_
  refine r_isub d_GS_mix_34 (v := bu - ((bu * m4) / 100)) rfl ?_
  refine r_put fp_GS_28 d_GS_mix_35 (fun h => nomatch h) rfl rfl (q0 := 0) rfl (Nat.le_of_ble_eq_true rfl) (cs' := [(a, .inr (4, [.int cl, .int wa, .int co, .int (fi - ((fi * m4) / 100)), .int (bu - ((bu * m4) / 100))]))]) rfl ?_
  refine r_aload_n d_GS_mix_38 rfl 0 rfl ?_
  refine r_sipush d_GS_mix_39 (v := 300) (by decide) ?_
  refine r_aload_n d_GS_mix_42 rfl 0 rfl ?_
  refine r_get fs_GS_7 d_GS_mix_43 (q0 := 0) rfl rfl ?_
  refine r_iload_n d_GS_mix_46 rfl 1 rfl ?_
  refine r_iadd d_GS_mix_47 (v := cl + m1) rfl ?_
  refine r_min (v := (if cl + m1 < 300 then cl + m1 else 300)) ln_GS_35 w_mmin w_mi w_cmin d_GS_mix_48 (by decide) (by decide) (Nat.le_of_ble_eq_true rfl) rfl ?_
  refine r_put fp_GS_7 d_GS_mix_51 (fun h => nomatch h) rfl rfl (q0 := 0) rfl (Nat.le_of_ble_eq_true rfl) (cs' := [(a, .inr (4, [.int (if cl + m1 < 300 then cl + m1 else 300), .int wa, .int co, .int (fi - ((fi * m4) / 100)), .int (bu - ((bu * m4) / 100))]))]) rfl ?_
  refine r_aload_n d_GS_mix_54 rfl 0 rfl ?_
  refine r_sipush d_GS_mix_55 (v := 300) (by decide) ?_
  refine r_aload_n d_GS_mix_58 rfl 0 rfl ?_
  refine r_get fs_GS_13 d_GS_mix_59 (q0 := 0) rfl rfl ?_
  refine r_iload_n d_GS_mix_62 rfl 2 rfl ?_
  refine r_iadd d_GS_mix_63 (v := wa + m2) rfl ?_
  refine r_min (v := (if wa + m2 < 300 then wa + m2 else 300)) ln_GS_35 w_mmin w_mi w_cmin d_GS_mix_64 (by decide) (by decide) (Nat.le_of_ble_eq_true rfl) rfl ?_
  refine r_put fp_GS_13 d_GS_mix_67 (fun h => nomatch h) rfl rfl (q0 := 0) rfl (Nat.le_of_ble_eq_true rfl) (cs' := [(a, .inr (4, [.int (if cl + m1 < 300 then cl + m1 else 300), .int (if wa + m2 < 300 then wa + m2 else 300), .int co, .int (fi - ((fi * m4) / 100)), .int (bu - ((bu * m4) / 100))]))]) rfl ?_
  refine r_aload_n d_GS_mix_70 rfl 0 rfl ?_
  refine r_sipush d_GS_mix_71 (v := 300) (by decide) ?_
  refine r_aload_n d_GS_mix_74 rfl 0 rfl ?_
  refine r_get fs_GS_16 d_GS_mix_75 (q0 := 0) rfl rfl ?_
  refine r_iload_n d_GS_mix_78 rfl 3 rfl ?_
  refine r_iadd d_GS_mix_79 (v := co + m3) rfl ?_
  refine r_min (v := (if co + m3 < 300 then co + m3 else 300)) ln_GS_35 w_mmin w_mi w_cmin d_GS_mix_80 (by decide) (by decide) (Nat.le_of_ble_eq_true rfl) rfl ?_
  refine r_put fp_GS_16 d_GS_mix_83 (fun h => nomatch h) rfl rfl (q0 := 0) rfl (Nat.le_of_ble_eq_true rfl) (cs' := [(a, .inr (4, [.int (if cl + m1 < 300 then cl + m1 else 300), .int (if wa + m2 < 300 then wa + m2 else 300), .int (if co + m3 < 300 then co + m3 else 300), .int (fi - ((fi * m4) / 100)), .int (bu - ((bu * m4) / 100))]))]) rfl ?_
  refine r_vret d_GS_mix_86 rfl ?_
  exact ⟨rfl, rfl⟩
abbrev M_GS_useFor : zM := (⟨"Ironpour$GreenSand", "useFor", "(I)V"⟩, prog_6_method_5_code, 2, (Option.none : Option FieldType), 2, 40, [])
theorem d_GS_useFor_0 : decode prog_6_method_5_code 0 = .ok (.aload_n 0, 1) := zo_42 (zd_b zq_prog_6_method_5_code_0 0 rfl rfl rfl)
theorem d_GS_useFor_1 : decode prog_6_method_5_code 1 = .ok (.iconst 0, 1) := zo_3 (zd_b zq_prog_6_method_5_code_0 1 rfl rfl rfl)
theorem d_GS_useFor_2 : decode prog_6_method_5_code 2 = .ok (.aload_n 0, 1) := zo_42 (zd_b zq_prog_6_method_5_code_0 2 rfl rfl rfl)
theorem d_GS_useFor_3 : decode prog_6_method_5_code 3 = .ok (.getfield 7, 3) := zo_180 (d := 0) (e := 7) (zd_b zq_prog_6_method_5_code_0 3 rfl rfl rfl) (zd_b zq_prog_6_method_5_code_0 4 rfl rfl rfl) (zd_b zq_prog_6_method_5_code_0 5 rfl rfl rfl)
theorem d_GS_useFor_6 : decode prog_6_method_5_code 6 = .ok (.iconst 3, 1) := zo_6 (zd_b zq_prog_6_method_5_code_0 6 rfl rfl rfl)
theorem d_GS_useFor_7 : decode prog_6_method_5_code 7 = .ok (.isub, 1) := zo_100 (zd_b zq_prog_6_method_5_code_0 7 rfl rfl rfl)
theorem d_GS_useFor_8 : decode prog_6_method_5_code 8 = .ok (.invokestatic 31, 3) := zo_184 (d := 0) (e := 31) (zd_b zq_prog_6_method_5_code_0 8 rfl rfl rfl) (zd_b zq_prog_6_method_5_code_0 9 rfl rfl rfl) (zd_b zq_prog_6_method_5_code_0 10 rfl rfl rfl)
theorem d_GS_useFor_11 : decode prog_6_method_5_code 11 = .ok (.putfield 7, 3) := zo_181 (d := 0) (e := 7) (zd_b zq_prog_6_method_5_code_0 11 rfl rfl rfl) (zd_b zq_prog_6_method_5_code_0 12 rfl rfl rfl) (zd_b zq_prog_6_method_5_code_0 13 rfl rfl rfl)
theorem d_GS_useFor_14 : decode prog_6_method_5_code 14 = .ok (.aload_n 0, 1) := zo_42 (zd_b zq_prog_6_method_5_code_0 14 rfl rfl rfl)
theorem d_GS_useFor_15 : decode prog_6_method_5_code 15 = .ok (.iconst 0, 1) := zo_3 (zd_b zq_prog_6_method_5_code_0 15 rfl rfl rfl)
theorem d_GS_useFor_16 : decode prog_6_method_5_code 16 = .ok (.aload_n 0, 1) := zo_42 (zd_b zq_prog_6_method_5_code_0 16 rfl rfl rfl)
theorem d_GS_useFor_17 : decode prog_6_method_5_code 17 = .ok (.getfield 13, 3) := zo_180 (d := 0) (e := 13) (zd_b zq_prog_6_method_5_code_0 17 rfl rfl rfl) (zd_b zq_prog_6_method_5_code_0 18 rfl rfl rfl) (zd_b zq_prog_6_method_5_code_0 19 rfl rfl rfl)
theorem d_GS_useFor_20 : decode prog_6_method_5_code 20 = .ok (.bipush 8, 2) := zo_16 (d := 8) (zd_b zq_prog_6_method_5_code_0 20 rfl rfl rfl) (zd_b zq_prog_6_method_5_code_0 21 rfl rfl rfl) (by decide +kernel)
theorem d_GS_useFor_22 : decode prog_6_method_5_code 22 = .ok (.isub, 1) := zo_100 (zd_b zq_prog_6_method_5_code_0 22 rfl rfl rfl)
theorem d_GS_useFor_23 : decode prog_6_method_5_code 23 = .ok (.invokestatic 31, 3) := zo_184 (d := 0) (e := 31) (zd_b zq_prog_6_method_5_code_0 23 rfl rfl rfl) (zd_b zq_prog_6_method_5_code_0 24 rfl rfl rfl) (zd_b zq_prog_6_method_5_code_0 25 rfl rfl rfl)
theorem d_GS_useFor_26 : decode prog_6_method_5_code 26 = .ok (.putfield 13, 3) := zo_181 (d := 0) (e := 13) (zd_b zq_prog_6_method_5_code_0 26 rfl rfl rfl) (zd_b zq_prog_6_method_5_code_0 27 rfl rfl rfl) (zd_b zq_prog_6_method_5_code_0 28 rfl rfl rfl)
theorem d_GS_useFor_29 : decode prog_6_method_5_code 29 = .ok (.aload_n 0, 1) := zo_42 (zd_b zq_prog_6_method_5_code_0 29 rfl rfl rfl)
theorem d_GS_useFor_30 : decode prog_6_method_5_code 30 = .ok (.iconst 0, 1) := zo_3 (zd_b zq_prog_6_method_5_code_0 30 rfl rfl rfl)
theorem d_GS_useFor_31 : decode prog_6_method_5_code 31 = .ok (.aload_n 0, 1) := zo_42 (zd_b zq_prog_6_method_5_code_0 31 rfl rfl rfl)
theorem d_GS_useFor_32 : decode prog_6_method_5_code 32 = .ok (.getfield 16, 3) := zo_180 (d := 0) (e := 16) (zd_b zq_prog_6_method_5_code_1 0 rfl rfl rfl) (zd_b zq_prog_6_method_5_code_1 1 rfl rfl rfl) (zd_b zq_prog_6_method_5_code_1 2 rfl rfl rfl)
theorem d_GS_useFor_35 : decode prog_6_method_5_code 35 = .ok (.iconst 4, 1) := zo_7 (zd_b zq_prog_6_method_5_code_1 3 rfl rfl rfl)
theorem d_GS_useFor_36 : decode prog_6_method_5_code 36 = .ok (.isub, 1) := zo_100 (zd_b zq_prog_6_method_5_code_1 4 rfl rfl rfl)
theorem d_GS_useFor_37 : decode prog_6_method_5_code 37 = .ok (.invokestatic 31, 3) := zo_184 (d := 0) (e := 31) (zd_b zq_prog_6_method_5_code_1 5 rfl rfl rfl) (zd_b zq_prog_6_method_5_code_1 6 rfl rfl rfl) (zd_b zq_prog_6_method_5_code_1 7 rfl rfl rfl)
theorem d_GS_useFor_40 : decode prog_6_method_5_code 40 = .ok (.putfield 16, 3) := zo_181 (d := 0) (e := 16) (zd_b zq_prog_6_method_5_code_1 8 rfl rfl rfl) (zd_b zq_prog_6_method_5_code_1 9 rfl rfl rfl) (zd_b zq_prog_6_method_5_code_1 10 rfl rfl rfl)
theorem d_GS_useFor_43 : decode prog_6_method_5_code 43 = .ok (.aload_n 0, 1) := zo_42 (zd_b zq_prog_6_method_5_code_1 11 rfl rfl rfl)
theorem d_GS_useFor_44 : decode prog_6_method_5_code 44 = .ok (.sipush 300, 3) := zo_17 (d := 1) (e := 44) (zd_b zq_prog_6_method_5_code_1 12 rfl rfl rfl) (zd_b zq_prog_6_method_5_code_1 13 rfl rfl rfl) (zd_b zq_prog_6_method_5_code_1 14 rfl rfl rfl) (by decide +kernel)
theorem d_GS_useFor_47 : decode prog_6_method_5_code 47 = .ok (.aload_n 0, 1) := zo_42 (zd_b zq_prog_6_method_5_code_1 15 rfl rfl rfl)
theorem d_GS_useFor_48 : decode prog_6_method_5_code 48 = .ok (.getfield 19, 3) := zo_180 (d := 0) (e := 19) (zd_b zq_prog_6_method_5_code_1 16 rfl rfl rfl) (zd_b zq_prog_6_method_5_code_1 17 rfl rfl rfl) (zd_b zq_prog_6_method_5_code_1 18 rfl rfl rfl)
theorem d_GS_useFor_51 : decode prog_6_method_5_code 51 = .ok (.iconst 2, 1) := zo_5 (zd_b zq_prog_6_method_5_code_1 19 rfl rfl rfl)
theorem d_GS_useFor_52 : decode prog_6_method_5_code 52 = .ok (.iadd, 1) := zo_96 (zd_b zq_prog_6_method_5_code_1 20 rfl rfl rfl)
theorem d_GS_useFor_53 : decode prog_6_method_5_code 53 = .ok (.invokestatic 35, 3) := zo_184 (d := 0) (e := 35) (zd_b zq_prog_6_method_5_code_1 21 rfl rfl rfl) (zd_b zq_prog_6_method_5_code_1 22 rfl rfl rfl) (zd_b zq_prog_6_method_5_code_1 23 rfl rfl rfl)
theorem d_GS_useFor_56 : decode prog_6_method_5_code 56 = .ok (.putfield 19, 3) := zo_181 (d := 0) (e := 19) (zd_b zq_prog_6_method_5_code_1 24 rfl rfl rfl) (zd_b zq_prog_6_method_5_code_1 25 rfl rfl rfl) (zd_b zq_prog_6_method_5_code_1 26 rfl rfl rfl)
theorem d_GS_useFor_59 : decode prog_6_method_5_code 59 = .ok (.aload_n 0, 1) := zo_42 (zd_b zq_prog_6_method_5_code_1 27 rfl rfl rfl)
theorem d_GS_useFor_60 : decode prog_6_method_5_code 60 = .ok (.sipush 300, 3) := zo_17 (d := 1) (e := 44) (zd_b zq_prog_6_method_5_code_1 28 rfl rfl rfl) (zd_b zq_prog_6_method_5_code_1 29 rfl rfl rfl) (zd_b zq_prog_6_method_5_code_1 30 rfl rfl rfl) (by decide +kernel)
theorem d_GS_useFor_63 : decode prog_6_method_5_code 63 = .ok (.aload_n 0, 1) := zo_42 (zd_b zq_prog_6_method_5_code_1 31 rfl rfl rfl)
theorem d_GS_useFor_64 : decode prog_6_method_5_code 64 = .ok (.getfield 28, 3) := zo_180 (d := 0) (e := 28) (zd_b zq_prog_6_method_5_code_2 0 rfl rfl rfl) (zd_b zq_prog_6_method_5_code_2 1 rfl rfl rfl) (zd_b zq_prog_6_method_5_code_2 2 rfl rfl rfl)
theorem d_GS_useFor_67 : decode prog_6_method_5_code 67 = .ok (.bipush 10, 2) := zo_16 (d := 10) (zd_b zq_prog_6_method_5_code_2 3 rfl rfl rfl) (zd_b zq_prog_6_method_5_code_2 4 rfl rfl rfl) (by decide +kernel)
theorem d_GS_useFor_69 : decode prog_6_method_5_code 69 = .ok (.iadd, 1) := zo_96 (zd_b zq_prog_6_method_5_code_2 5 rfl rfl rfl)
theorem d_GS_useFor_70 : decode prog_6_method_5_code 70 = .ok (.iload_n 1, 1) := zo_27 (zd_b zq_prog_6_method_5_code_2 6 rfl rfl rfl)
theorem d_GS_useFor_71 : decode prog_6_method_5_code 71 = .ok (.iconst 4, 1) := zo_7 (zd_b zq_prog_6_method_5_code_2 7 rfl rfl rfl)
theorem d_GS_useFor_72 : decode prog_6_method_5_code 72 = .ok (.idiv, 1) := zo_108 (zd_b zq_prog_6_method_5_code_2 8 rfl rfl rfl)
theorem d_GS_useFor_73 : decode prog_6_method_5_code 73 = .ok (.iadd, 1) := zo_96 (zd_b zq_prog_6_method_5_code_2 9 rfl rfl rfl)
theorem d_GS_useFor_74 : decode prog_6_method_5_code 74 = .ok (.invokestatic 35, 3) := zo_184 (d := 0) (e := 35) (zd_b zq_prog_6_method_5_code_2 10 rfl rfl rfl) (zd_b zq_prog_6_method_5_code_2 11 rfl rfl rfl) (zd_b zq_prog_6_method_5_code_2 12 rfl rfl rfl)
theorem d_GS_useFor_77 : decode prog_6_method_5_code 77 = .ok (.putfield 28, 3) := zo_181 (d := 0) (e := 28) (zd_b zq_prog_6_method_5_code_2 13 rfl rfl rfl) (zd_b zq_prog_6_method_5_code_2 14 rfl rfl rfl) (zd_b zq_prog_6_method_5_code_2 15 rfl rfl rfl)
theorem d_GS_useFor_80 : decode prog_6_method_5_code 80 = .ok (.return_, 1) := zo_177 (zd_b zq_prog_6_method_5_code_2 16 rfl rfl rfl)
set_option maxHeartbeats 4000000 in
set_option maxRecDepth 100000 in
theorem C_GS_useFor (g : zG) (a : Nat) (cl wa co fi bu : Int32) (m1 : Int32) : CT g M_GS_useFor [.ref a, .int m1] [(a, .inr (4, [.int cl, .int wa, .int co, .int fi, .int bu]))] (fun o cs1 => o = .inl (none) ∧ cs1 = [(a, .inr (4, [.int (if 0 < cl - 3 then cl - 3 else 0), .int (if 0 < wa - 8 then wa - 8 else 0), .int (if 0 < co - 4 then co - 4 else 0), .int (if fi + 2 < 300 then fi + 2 else 300), .int (if (bu + 10) + (m1 / 4) < 300 then (bu + 10) + (m1 / 4) else 300)]))]) 0 0 := by
  refine z_of (by decide) rfl (Nat.le_of_ble_eq_true rfl) (fun w0 => ?_)
  refine r_lvE (lv2 := [(0, .ref a), (1, .int m1)]) rfl ?_
  refine r_aload_n d_GS_useFor_0 rfl 0 rfl ?_
  refine r_iconst d_GS_useFor_1 (v := 0) (by decide) ?_
  refine r_aload_n d_GS_useFor_2 rfl 0 rfl ?_
  refine r_get fs_GS_7 d_GS_useFor_3 (q0 := 0) rfl rfl ?_
  refine r_iconst d_GS_useFor_6 (v := 3) (by decide) ?_
  refine r_isub d_GS_useFor_7 (v := cl - 3) rfl ?_
  refine r_max (v := (if 0 < cl - 3 then cl - 3 else 0)) ln_GS_31 w_mmax w_mi w_cmax d_GS_useFor_8 (by decide) (by decide) (Nat.le_of_ble_eq_true rfl) rfl ?_
  refine r_put fp_GS_7 d_GS_useFor_11 (fun h => nomatch h) rfl rfl (q0 := 0) rfl (Nat.le_of_ble_eq_true rfl) (cs' := [(a, .inr (4, [.int (if 0 < cl - 3 then cl - 3 else 0), .int wa, .int co, .int fi, .int bu]))]) rfl ?_
  refine r_aload_n d_GS_useFor_14 rfl 0 rfl ?_
  refine r_iconst d_GS_useFor_15 (v := 0) (by decide) ?_
  refine r_aload_n d_GS_useFor_16 rfl 0 rfl ?_
  refine r_get fs_GS_13 d_GS_useFor_17 (q0 := 0) rfl rfl ?_
  refine r_bipush d_GS_useFor_20 (v := 8) (by decide) ?_
  refine r_isub d_GS_useFor_22 (v := wa - 8) rfl ?_
  refine r_max (v := (if 0 < wa - 8 then wa - 8 else 0)) ln_GS_31 w_mmax w_mi w_cmax d_GS_useFor_23 (by decide) (by decide) (Nat.le_of_ble_eq_true rfl) rfl ?_
  refine r_put fp_GS_13 d_GS_useFor_26 (fun h => nomatch h) rfl rfl (q0 := 0) rfl (Nat.le_of_ble_eq_true rfl) (cs' := [(a, .inr (4, [.int (if 0 < cl - 3 then cl - 3 else 0), .int (if 0 < wa - 8 then wa - 8 else 0), .int co, .int fi, .int bu]))]) rfl ?_
  refine r_aload_n d_GS_useFor_29 rfl 0 rfl ?_
  refine r_iconst d_GS_useFor_30 (v := 0) (by decide) ?_
  refine r_aload_n d_GS_useFor_31 rfl 0 rfl ?_
  refine r_get fs_GS_16 d_GS_useFor_32 (q0 := 0) rfl rfl ?_
  refine r_iconst d_GS_useFor_35 (v := 4) (by decide) ?_
  refine r_isub d_GS_useFor_36 (v := co - 4) rfl ?_
  refine r_max (v := (if 0 < co - 4 then co - 4 else 0)) ln_GS_31 w_mmax w_mi w_cmax d_GS_useFor_37 (by decide) (by decide) (Nat.le_of_ble_eq_true rfl) rfl ?_
  refine r_put fp_GS_16 d_GS_useFor_40 (fun h => nomatch h) rfl rfl (q0 := 0) rfl (Nat.le_of_ble_eq_true rfl) (cs' := [(a, .inr (4, [.int (if 0 < cl - 3 then cl - 3 else 0), .int (if 0 < wa - 8 then wa - 8 else 0), .int (if 0 < co - 4 then co - 4 else 0), .int fi, .int bu]))]) rfl ?_
  refine r_aload_n d_GS_useFor_43 rfl 0 rfl ?_
  refine r_sipush d_GS_useFor_44 (v := 300) (by decide) ?_
  refine r_aload_n d_GS_useFor_47 rfl 0 rfl ?_
  refine r_get fs_GS_19 d_GS_useFor_48 (q0 := 0) rfl rfl ?_
  refine r_iconst d_GS_useFor_51 (v := 2) (by decide) ?_
  refine r_iadd d_GS_useFor_52 (v := fi + 2) rfl ?_
  refine r_min (v := (if fi + 2 < 300 then fi + 2 else 300)) ln_GS_35 w_mmin w_mi w_cmin d_GS_useFor_53 (by decide) (by decide) (Nat.le_of_ble_eq_true rfl) rfl ?_
  refine r_put fp_GS_19 d_GS_useFor_56 (fun h => nomatch h) rfl rfl (q0 := 0) rfl (Nat.le_of_ble_eq_true rfl) (cs' := [(a, .inr (4, [.int (if 0 < cl - 3 then cl - 3 else 0), .int (if 0 < wa - 8 then wa - 8 else 0), .int (if 0 < co - 4 then co - 4 else 0), .int (if fi + 2 < 300 then fi + 2 else 300), .int bu]))]) rfl ?_
  refine r_aload_n d_GS_useFor_59 rfl 0 rfl ?_
  refine r_sipush d_GS_useFor_60 (v := 300) (by decide) ?_
  refine r_aload_n d_GS_useFor_63 rfl 0 rfl ?_
  refine r_get fs_GS_28 d_GS_useFor_64 (q0 := 0) rfl rfl ?_
  refine r_bipush d_GS_useFor_67 (v := 10) (by decide) ?_
  refine r_iadd d_GS_useFor_69 (v := bu + 10) rfl ?_
  refine r_iload_n d_GS_useFor_70 rfl 1 rfl ?_
  refine r_iconst d_GS_useFor_71 (v := 4) (by decide) ?_
  refine r_idiv d_GS_useFor_72 (v := m1 / 4) (by decide) rfl ?_
  refine r_iadd d_GS_useFor_73 (v := (bu + 10) + (m1 / 4)) rfl ?_
  refine r_min (v := (if (bu + 10) + (m1 / 4) < 300 then (bu + 10) + (m1 / 4) else 300)) ln_GS_35 w_mmin w_mi w_cmin d_GS_useFor_74 (by decide) (by decide) (Nat.le_of_ble_eq_true rfl) rfl ?_
  refine r_put fp_GS_28 d_GS_useFor_77 (fun h => nomatch h) rfl rfl (q0 := 0) rfl (Nat.le_of_ble_eq_true rfl) (cs' := [(a, .inr (4, [.int (if 0 < cl - 3 then cl - 3 else 0), .int (if 0 < wa - 8 then wa - 8 else 0), .int (if 0 < co - 4 then co - 4 else 0), .int (if fi + 2 < 300 then fi + 2 else 300), .int (if (bu + 10) + (m1 / 4) < 300 then (bu + 10) + (m1 / 4) else 300)]))]) rfl ?_
  refine r_vret d_GS_useFor_80 rfl ?_
  exact ⟨rfl, rfl⟩
abbrev M_Me_init : zM := (⟨"Ironpour$Metal", "<init>", "()V"⟩, prog_8_method_1_code, 1, (Option.none : Option FieldType), 1, 20, [])
theorem d_Me_init_0 : decode prog_8_method_1_code 0 = .ok (.aload_n 0, 1) := zo_42 (zd_b zq_prog_8_method_1_code_0 0 rfl rfl rfl)
theorem d_Me_init_1 : decode prog_8_method_1_code 1 = .ok (.invokespecial 3, 3) := zo_183 (d := 0) (e := 3) (zd_b zq_prog_8_method_1_code_0 1 rfl rfl rfl) (zd_b zq_prog_8_method_1_code_0 2 rfl rfl rfl) (zd_b zq_prog_8_method_1_code_0 3 rfl rfl rfl)
theorem ln_Me_3 : Cond.methodLink "Ironpour$Metal" 3 Lib.objectInit ∈ z_gw := z_mj1 (i := 196) rfl (by decide +kernel)
theorem d_Me_init_4 : decode prog_8_method_1_code 4 = .ok (.aload_n 0, 1) := zo_42 (zd_b zq_prog_8_method_1_code_0 4 rfl rfl rfl)
theorem d_Me_init_5 : decode prog_8_method_1_code 5 = .ok (.iconst 4, 1) := zo_7 (zd_b zq_prog_8_method_1_code_0 5 rfl rfl rfl)
theorem d_Me_init_6 : decode prog_8_method_1_code 6 = .ok (.newarray .long, 2) := by decide +kernel
theorem ac_long : Cond.arrayClass .long ∈ z_gw := z_mj1 (i := 209) rfl (by decide +kernel)
theorem d_Me_init_8 : decode prog_8_method_1_code 8 = .ok (.putfield 9, 3) := zo_181 (d := 0) (e := 9) (zd_b zq_prog_8_method_1_code_0 8 rfl rfl rfl) (zd_b zq_prog_8_method_1_code_0 9 rfl rfl rfl) (zd_b zq_prog_8_method_1_code_0 10 rfl rfl rfl)
theorem u_Me : ∀ x ∈ u_ws R_Me F_Me 2, x ∈ z_gw := fun x hx => List.mem_filter.mpr ⟨(z_au [(1, 204), (1, 206)] (by decide +kernel) : ∀ x ∈ u_ws R_Me F_Me 2, x ∈ lw_tbl) x hx, (show ∀ x ∈ u_ws R_Me F_Me 2, goodWord x = true by decide +kernel) x hx⟩
theorem fp_Me_9 : z_fp "Ironpour$Metal" 9 6 0 true (t_Me 0) := ⟨R_Me, "Ironpour$Metal", F_Me, 2, t_Me, rfl, u_Me, by decide, t_Me_ok, n_Me, rfl, rfl, Or.inl ⟨z_mj1 (i := 197) rfl (by decide +kernel), Or.inl rfl, fun _ => ⟨rfl, rfl⟩⟩⟩
theorem d_Me_init_11 : decode prog_8_method_1_code 11 = .ok (.return_, 1) := zo_177 (zd_b zq_prog_8_method_1_code_0 11 rfl rfl rfl)
set_option maxHeartbeats 4000000 in
set_option maxRecDepth 100000 in
theorem C_Me_init (g : zG) (a : Nat) : CT g M_Me_init [.ref a] [(a, .inr (6, [.null, .int 0]))] (fun o cs1 => ∃ ag, o = .inl none ∧ cs1 = [(a, .inr (6, [.ref ag, .int 0])), (ag, .inl (3, 4, .inr (.inl (fun _ => 0))))]) 1 4 := by
  refine z_of (by decide) rfl (Nat.le_of_ble_eq_true rfl) (fun w0 => ?_)
  refine r_lvE (lv2 := [(0, .ref a)]) rfl ?_
  refine r_aload_n d_Me_init_0 rfl 0 rfl ?_
  refine r_objInit ln_Me_3 w_oi1 w_oi2 d_Me_init_1 (by decide) (by decide) (Nat.le_of_ble_eq_true rfl) ?_
  refine r_aload_n d_Me_init_4 rfl 0 rfl ?_
  refine r_iconst d_Me_init_5 (v := 4) (by decide) ?_
  refine r_newa_long (N := 4) ac_long d_Me_init_6 (by decide) (by decide) (by decide) (by omega) (by omega) (fun ag => ?_)
  refine r_cs (cs2 := [(a, .inr (6, [.null, .int 0])), (ag, .inl (3, 4, .inr (.inl (fun _ => 0))))]) rfl ?_
  refine r_put fp_Me_9 d_Me_init_8 (fun _ => rfl) rfl rfl (q0 := 0) rfl (Nat.le_of_ble_eq_true rfl) (cs' := [(a, .inr (6, [.ref ag, .int 0])), (ag, .inl (3, 4, .inr (.inl (fun _ => 0))))]) rfl ?_
  refine r_vret d_Me_init_11 rfl ?_
  exact ⟨ag, rfl, rfl⟩
abbrev M_La_init : zM := (⟨"Ironpour$Ladle", "<init>", "()V"⟩, prog_7_method_1_code, 1, (Option.none : Option FieldType), 2, 40, [])
theorem d_La_init_0 : decode prog_7_method_1_code 0 = .ok (.aload_n 0, 1) := zo_42 (zd_b zq_prog_7_method_1_code_0 0 rfl rfl rfl)
theorem d_La_init_1 : decode prog_7_method_1_code 1 = .ok (.invokespecial 3, 3) := zo_183 (d := 0) (e := 3) (zd_b zq_prog_7_method_1_code_0 1 rfl rfl rfl) (zd_b zq_prog_7_method_1_code_0 2 rfl rfl rfl) (zd_b zq_prog_7_method_1_code_0 3 rfl rfl rfl)
theorem ln_La_3 : Cond.methodLink "Ironpour$Ladle" 3 Lib.objectInit ∈ z_gw := z_mj1 (i := 236) rfl (by decide +kernel)
theorem d_La_init_4 : decode prog_7_method_1_code 4 = .ok (.aload_n 0, 1) := zo_42 (zd_b zq_prog_7_method_1_code_0 4 rfl rfl rfl)
theorem d_La_init_5 : decode prog_7_method_1_code 5 = .ok (.new 9, 3) := zo_187 (d := 0) (e := 9) (zd_b zq_prog_7_method_1_code_0 5 rfl rfl rfl) (zd_b zq_prog_7_method_1_code_0 6 rfl rfl rfl) (zd_b zq_prog_7_method_1_code_0 7 rfl rfl rfl)
theorem nc_La_9 : z_nc "Ironpour$Ladle" 9 6 2 [.null, .int 0] := ⟨R_Me, F_Me, t_Me, rfl, u_Me, t_Me_ok, z_mj1 (i := 237) rfl (by decide +kernel), z_mj1 (i := 192) rfl (by decide +kernel), z_mj1 (i := 8) rfl (by decide +kernel), by decide +kernel⟩
theorem d_La_init_8 : decode prog_7_method_1_code 8 = .ok (.dup, 1) := zo_89 (zd_b zq_prog_7_method_1_code_0 8 rfl rfl rfl)
theorem d_La_init_9 : decode prog_7_method_1_code 9 = .ok (.invokespecial 11, 3) := zo_183 (d := 0) (e := 11) (zd_b zq_prog_7_method_1_code_0 9 rfl rfl rfl) (zd_b zq_prog_7_method_1_code_0 10 rfl rfl rfl) (zd_b zq_prog_7_method_1_code_0 11 rfl rfl rfl)
theorem ok_La_init_Me_init : z_ok M_La_init M_Me_init 0 := ⟨z_mj1 (i := 195) rfl (by decide +kernel), rfl, ⟨by decide +kernel, by decide +kernel, by decide +kernel⟩, ⟨by decide, by decide⟩, z_mj1 (i := 8) rfl (by decide +kernel), rfl⟩
theorem ln_La_11 : Cond.methodLinkNest "Ironpour$Ladle" 11 M_Me_init.1 "Ironpour" ∈ z_nw := z_mk1 (i := 238) rfl (by decide +kernel)
theorem w_im_Me_init : Cond.instanceMethod M_Me_init.1 ∈ z_gw := z_mj1 (i := 194) rfl (by decide +kernel)
theorem d_La_init_12 : decode prog_7_method_1_code 12 = .ok (.putfield 12, 3) := zo_181 (d := 0) (e := 12) (zd_b zq_prog_7_method_1_code_0 12 rfl rfl rfl) (zd_b zq_prog_7_method_1_code_0 13 rfl rfl rfl) (zd_b zq_prog_7_method_1_code_0 14 rfl rfl rfl)
theorem u_La : ∀ x ∈ u_ws R_La F_La 4, x ∈ z_gw := fun x hx => List.mem_filter.mpr ⟨(z_au [(2, 7), (2, 9), (2, 11), (2, 13)] (by decide +kernel) : ∀ x ∈ u_ws R_La F_La 4, x ∈ lw_tbl) x hx, (show ∀ x ∈ u_ws R_La F_La 4, goodWord x = true by decide +kernel) x hx⟩
theorem fp_La_12 : z_fp "Ironpour$Ladle" 12 5 0 true (t_La 0) := ⟨R_La, "Ironpour$Ladle", F_La, 4, t_La, rfl, u_La, by decide, t_La_ok, n_La, rfl, rfl, Or.inl ⟨z_mj1 (i := 239) rfl (by decide +kernel), Or.inl rfl, fun _ => ⟨rfl, rfl⟩⟩⟩
theorem d_La_init_15 : decode prog_7_method_1_code 15 = .ok (.return_, 1) := zo_177 (zd_b zq_prog_7_method_1_code_0 15 rfl rfl rfl)
set_option maxHeartbeats 4000000 in
set_option maxRecDepth 100000 in
theorem C_La_init (g : zG) (a : Nat) : CT g M_La_init [.ref a] [(a, .inr (5, [.null, .int 0, .int 0, .int 0]))] (fun o cs1 => ∃ b bg, o = .inl none ∧ cs1 = [(a, .inr (5, [.ref b, .int 0, .int 0, .int 0])), (b, .inr (6, [.ref bg, .int 0])), (bg, .inl (3, 4, .inr (.inl (fun _ => 0))))]) 3 10 := by
  refine z_of (by decide) rfl (Nat.le_of_ble_eq_true rfl) (fun w0 => ?_)
  refine r_lvE (lv2 := [(0, .ref a)]) rfl ?_
  refine r_aload_n d_La_init_0 rfl 0 rfl ?_
  refine r_objInit ln_La_3 w_oi1 w_oi2 d_La_init_1 (by decide) (by decide) (Nat.le_of_ble_eq_true rfl) ?_
  refine r_aload_n d_La_init_4 rfl 0 rfl ?_
  refine r_new nc_La_9 d_La_init_5 (by omega) (by omega) (fun b => ?_)
  refine r_cs (cs2 := [(a, .inr (5, [.null, .int 0, .int 0, .int 0])), (b, .inr (6, [.null, .int 0]))]) rfl ?_
  refine r_dup d_La_init_8 rfl ?_
  refine r_callIN (As := []) (rest := [.ref b, .ref a]) (csC := [(b, .inr (6, [.null, .int 0]))]) (is := [1]) rfl rfl ln_La_11 w_im_Me_init ok_La_init_Me_init d_La_init_9 (C_Me_init g b) rfl rfl (Nat.le_of_ble_eq_true rfl) rfl (by decide) (by omega) (by omega) (fun E cs1 hx => ?_) (fun v cs1 hx => ?_)
  · obtain ⟨bg, e1, -⟩ := hx
    cases e1
  · obtain ⟨bg, e1, rfl⟩ := hx
    cases e1
    refine ⟨rfl, ?_⟩
    refine r_st (st2 := [.ref b, .ref a]) rfl ?_
    refine r_cs (cs2 := [(a, .inr (5, [.null, .int 0, .int 0, .int 0])), (b, .inr (6, [.ref bg, .int 0])), (bg, .inl (3, 4, .inr (.inl (fun _ => 0))))]) rfl ?_
    refine r_put fp_La_12 d_La_init_12 (fun _ => rfl) rfl rfl (q0 := 0) rfl (Nat.le_of_ble_eq_true rfl) (cs' := [(a, .inr (5, [.ref b, .int 0, .int 0, .int 0])), (b, .inr (6, [.ref bg, .int 0])), (bg, .inl (3, 4, .inr (.inl (fun _ => 0))))]) rfl ?_
    refine r_vret d_La_init_15 rfl ?_
    exact ⟨b, bg, rfl, rfl⟩
abbrev M_Re_init : zM := (⟨"Ironpour$Recipe", "<init>", "()V"⟩, prog_11_method_1_code, 1, (Option.none : Option FieldType), 1, 20, [])
theorem d_Re_init_0 : decode prog_11_method_1_code 0 = .ok (.aload_n 0, 1) := zo_42 (zd_b zq_prog_11_method_1_code_0 0 rfl rfl rfl)
theorem d_Re_init_1 : decode prog_11_method_1_code 1 = .ok (.invokespecial 3, 3) := zo_183 (d := 0) (e := 3) (zd_b zq_prog_11_method_1_code_0 1 rfl rfl rfl) (zd_b zq_prog_11_method_1_code_0 2 rfl rfl rfl) (zd_b zq_prog_11_method_1_code_0 3 rfl rfl rfl)
theorem ln_Re_3 : Cond.methodLink "Ironpour$Recipe" 3 Lib.objectInit ∈ z_gw := z_mj2 (i := 23) rfl (by decide +kernel)
theorem d_Re_init_4 : decode prog_11_method_1_code 4 = .ok (.return_, 1) := zo_177 (zd_b zq_prog_11_method_1_code_0 4 rfl rfl rfl)
set_option maxHeartbeats 4000000 in
set_option maxRecDepth 100000 in
theorem C_Re_init (g : zG) (a : Nat) : CT g M_Re_init [.ref a] [(a, .inr (9, [.int 0, .int 0, .int 0]))] (fun o cs1 => o = .inl (none) ∧ cs1 = [(a, .inr (9, [.int 0, .int 0, .int 0]))]) 0 0 := by
  refine z_of (by decide) rfl (Nat.le_of_ble_eq_true rfl) (fun w0 => ?_)
  refine r_lvE (lv2 := [(0, .ref a)]) rfl ?_
  refine r_aload_n d_Re_init_0 rfl 0 rfl ?_
  refine r_objInit ln_Re_3 w_oi1 w_oi2 d_Re_init_1 (by decide) (by decide) (Nat.le_of_ble_eq_true rfl) ?_
  refine r_vret d_Re_init_4 rfl ?_
  exact ⟨rfl, rfl⟩
abbrev M_CS_init : zM := (⟨"Ironpour$CoreStore", "<init>", "()V"⟩, prog_3_method_1_code, 1, (Option.none : Option FieldType), 1, 20, [])
theorem d_CS_init_0 : decode prog_3_method_1_code 0 = .ok (.aload_n 0, 1) := zo_42 (zd_b zq_prog_3_method_1_code_0 0 rfl rfl rfl)
theorem d_CS_init_1 : decode prog_3_method_1_code 1 = .ok (.invokespecial 1, 3) := zo_183 (d := 0) (e := 1) (zd_b zq_prog_3_method_1_code_0 1 rfl rfl rfl) (zd_b zq_prog_3_method_1_code_0 2 rfl rfl rfl) (zd_b zq_prog_3_method_1_code_0 3 rfl rfl rfl)
theorem ln_CS_1 : Cond.methodLink "Ironpour$CoreStore" 1 Lib.objectInit ∈ z_gw := z_mj1 (i := 171) rfl (by decide +kernel)
theorem d_CS_init_4 : decode prog_3_method_1_code 4 = .ok (.aload_n 0, 1) := zo_42 (zd_b zq_prog_3_method_1_code_0 4 rfl rfl rfl)
theorem d_CS_init_5 : decode prog_3_method_1_code 5 = .ok (.bipush 20, 2) := zo_16 (d := 20) (zd_b zq_prog_3_method_1_code_0 5 rfl rfl rfl) (zd_b zq_prog_3_method_1_code_0 6 rfl rfl rfl) (by decide +kernel)
theorem d_CS_init_7 : decode prog_3_method_1_code 7 = .ok (.newarray .int, 2) := by decide +kernel
theorem d_CS_init_9 : decode prog_3_method_1_code 9 = .ok (.putfield 9, 3) := zo_181 (d := 0) (e := 9) (zd_b zq_prog_3_method_1_code_0 9 rfl rfl rfl) (zd_b zq_prog_3_method_1_code_0 10 rfl rfl rfl) (zd_b zq_prog_3_method_1_code_0 11 rfl rfl rfl)
theorem u_CS : ∀ x ∈ u_ws R_CS F_CS 4, x ∈ z_gw := fun x hx => List.mem_filter.mpr ⟨(z_au [(1, 176), (1, 178), (1, 180), (1, 182)] (by decide +kernel) : ∀ x ∈ u_ws R_CS F_CS 4, x ∈ lw_tbl) x hx, (show ∀ x ∈ u_ws R_CS F_CS 4, goodWord x = true by decide +kernel) x hx⟩
theorem fp_CS_9 : z_fp "Ironpour$CoreStore" 9 1 0 true (t_CS 0) := ⟨R_CS, "Ironpour$CoreStore", F_CS, 4, t_CS, rfl, u_CS, by decide, t_CS_ok, n_CS, rfl, rfl, Or.inl ⟨z_mj1 (i := 172) rfl (by decide +kernel), Or.inl rfl, fun _ => ⟨rfl, rfl⟩⟩⟩
theorem d_CS_init_12 : decode prog_3_method_1_code 12 = .ok (.aload_n 0, 1) := zo_42 (zd_b zq_prog_3_method_1_code_0 12 rfl rfl rfl)
theorem d_CS_init_13 : decode prog_3_method_1_code 13 = .ok (.bipush 20, 2) := zo_16 (d := 20) (zd_b zq_prog_3_method_1_code_0 13 rfl rfl rfl) (zd_b zq_prog_3_method_1_code_0 14 rfl rfl rfl) (by decide +kernel)
theorem d_CS_init_15 : decode prog_3_method_1_code 15 = .ok (.newarray .int, 2) := by decide +kernel
theorem d_CS_init_17 : decode prog_3_method_1_code 17 = .ok (.putfield 13, 3) := zo_181 (d := 0) (e := 13) (zd_b zq_prog_3_method_1_code_0 17 rfl rfl rfl) (zd_b zq_prog_3_method_1_code_0 18 rfl rfl rfl) (zd_b zq_prog_3_method_1_code_0 19 rfl rfl rfl)
theorem fp_CS_13 : z_fp "Ironpour$CoreStore" 13 1 1 true (t_CS 1) := ⟨R_CS, "Ironpour$CoreStore", F_CS, 4, t_CS, rfl, u_CS, by decide, t_CS_ok, n_CS, rfl, rfl, Or.inl ⟨z_mj1 (i := 173) rfl (by decide +kernel), Or.inl rfl, fun _ => ⟨rfl, rfl⟩⟩⟩
theorem d_CS_init_20 : decode prog_3_method_1_code 20 = .ok (.aload_n 0, 1) := zo_42 (zd_b zq_prog_3_method_1_code_0 20 rfl rfl rfl)
theorem d_CS_init_21 : decode prog_3_method_1_code 21 = .ok (.bipush 20, 2) := zo_16 (d := 20) (zd_b zq_prog_3_method_1_code_0 21 rfl rfl rfl) (zd_b zq_prog_3_method_1_code_0 22 rfl rfl rfl) (by decide +kernel)
theorem d_CS_init_23 : decode prog_3_method_1_code 23 = .ok (.newarray .int, 2) := by decide +kernel
theorem d_CS_init_25 : decode prog_3_method_1_code 25 = .ok (.putfield 16, 3) := zo_181 (d := 0) (e := 16) (zd_b zq_prog_3_method_1_code_0 25 rfl rfl rfl) (zd_b zq_prog_3_method_1_code_0 26 rfl rfl rfl) (zd_b zq_prog_3_method_1_code_0 27 rfl rfl rfl)
theorem fp_CS_16 : z_fp "Ironpour$CoreStore" 16 1 2 true (t_CS 2) := ⟨R_CS, "Ironpour$CoreStore", F_CS, 4, t_CS, rfl, u_CS, by decide, t_CS_ok, n_CS, rfl, rfl, Or.inl ⟨z_mj1 (i := 174) rfl (by decide +kernel), Or.inl rfl, fun _ => ⟨rfl, rfl⟩⟩⟩
theorem d_CS_init_28 : decode prog_3_method_1_code 28 = .ok (.return_, 1) := zo_177 (zd_b zq_prog_3_method_1_code_0 28 rfl rfl rfl)
set_option maxHeartbeats 4000000 in
set_option maxRecDepth 100000 in
theorem C_CS_init (g : zG) (a : Nat) : CT g M_CS_init [.ref a] [(a, .inr (1, [.null, .null, .null, .int 0]))] (fun o cs1 => ∃ a1 a2 a3, o = .inl none ∧ cs1 = [(a, .inr (1, [.ref a1, .ref a2, .ref a3, .int 0])), (a1, .inl (0, 20, .inl (fun _ => 0))), (a2, .inl (0, 20, .inl (fun _ => 0))), (a3, .inl (0, 20, .inl (fun _ => 0)))]) 3 60 := by
  refine z_of (by decide) rfl (Nat.le_of_ble_eq_true rfl) (fun w0 => ?_)
  refine r_lvE (lv2 := [(0, .ref a)]) rfl ?_
  refine r_aload_n d_CS_init_0 rfl 0 rfl ?_
  refine r_objInit ln_CS_1 w_oi1 w_oi2 d_CS_init_1 (by decide) (by decide) (Nat.le_of_ble_eq_true rfl) ?_
  refine r_aload_n d_CS_init_4 rfl 0 rfl ?_
  refine r_bipush d_CS_init_5 (v := 20) (by decide) ?_
  refine r_newa_int (N := 20) ac_int d_CS_init_7 (by decide) (by decide) (by decide) (by omega) (by omega) (fun a1 => ?_)
  refine r_cs (cs2 := [(a, .inr (1, [.null, .null, .null, .int 0])), (a1, .inl (0, 20, .inl (fun _ => 0)))]) rfl ?_
  refine r_put fp_CS_9 d_CS_init_9 (fun _ => rfl) rfl rfl (q0 := 0) rfl (Nat.le_of_ble_eq_true rfl) (cs' := [(a, .inr (1, [.ref a1, .null, .null, .int 0])), (a1, .inl (0, 20, .inl (fun _ => 0)))]) rfl ?_
  refine r_aload_n d_CS_init_12 rfl 0 rfl ?_
  refine r_bipush d_CS_init_13 (v := 20) (by decide) ?_
  refine r_newa_int (N := 20) ac_int d_CS_init_15 (by decide) (by decide) (by decide) (by omega) (by omega) (fun a2 => ?_)
  refine r_cs (cs2 := [(a, .inr (1, [.ref a1, .null, .null, .int 0])), (a1, .inl (0, 20, .inl (fun _ => 0))), (a2, .inl (0, 20, .inl (fun _ => 0)))]) rfl ?_
  refine r_put fp_CS_13 d_CS_init_17 (fun _ => rfl) rfl rfl (q0 := 0) rfl (Nat.le_of_ble_eq_true rfl) (cs' := [(a, .inr (1, [.ref a1, .ref a2, .null, .int 0])), (a1, .inl (0, 20, .inl (fun _ => 0))), (a2, .inl (0, 20, .inl (fun _ => 0)))]) rfl ?_
  refine r_aload_n d_CS_init_20 rfl 0 rfl ?_
  refine r_bipush d_CS_init_21 (v := 20) (by decide) ?_
  refine r_newa_int (N := 20) ac_int d_CS_init_23 (by decide) (by decide) (by decide) (by omega) (by omega) (fun a3 => ?_)
  refine r_cs (cs2 := [(a, .inr (1, [.ref a1, .ref a2, .null, .int 0])), (a1, .inl (0, 20, .inl (fun _ => 0))), (a2, .inl (0, 20, .inl (fun _ => 0))), (a3, .inl (0, 20, .inl (fun _ => 0)))]) rfl ?_
  refine r_put fp_CS_16 d_CS_init_25 (fun _ => rfl) rfl rfl (q0 := 0) rfl (Nat.le_of_ble_eq_true rfl) (cs' := [(a, .inr (1, [.ref a1, .ref a2, .ref a3, .int 0])), (a1, .inl (0, 20, .inl (fun _ => 0))), (a2, .inl (0, 20, .inl (fun _ => 0))), (a3, .inl (0, 20, .inl (fun _ => 0)))]) rfl ?_
  refine r_vret d_CS_init_28 rfl ?_
  exact ⟨a1, a2, a3, rfl, rfl⟩
abbrev M_Fz_init : zM := (⟨"Ironpour$Freezing", "<init>", "()V"⟩, prog_4_method_1_code, 1, (Option.none : Option FieldType), 1, 20, [])
theorem d_Fz_init_0 : decode prog_4_method_1_code 0 = .ok (.aload_n 0, 1) := zo_42 (zd_b zq_prog_4_method_1_code_0 0 rfl rfl rfl)
theorem d_Fz_init_1 : decode prog_4_method_1_code 1 = .ok (.invokespecial 3, 3) := zo_183 (d := 0) (e := 3) (zd_b zq_prog_4_method_1_code_0 1 rfl rfl rfl) (zd_b zq_prog_4_method_1_code_0 2 rfl rfl rfl) (zd_b zq_prog_4_method_1_code_0 3 rfl rfl rfl)
theorem ln_Fz_3 : Cond.methodLink "Ironpour$Freezing" 3 Lib.objectInit ∈ z_gw := z_mj1 (i := 82) rfl (by decide +kernel)
theorem d_Fz_init_4 : decode prog_4_method_1_code 4 = .ok (.aload_n 0, 1) := zo_42 (zd_b zq_prog_4_method_1_code_0 4 rfl rfl rfl)
theorem d_Fz_init_5 : decode prog_4_method_1_code 5 = .ok (.bipush 108, 2) := zo_16 (d := 108) (zd_b zq_prog_4_method_1_code_0 5 rfl rfl rfl) (zd_b zq_prog_4_method_1_code_0 6 rfl rfl rfl) (by decide +kernel)
theorem d_Fz_init_7 : decode prog_4_method_1_code 7 = .ok (.newarray .int, 2) := by decide +kernel
theorem d_Fz_init_9 : decode prog_4_method_1_code 9 = .ok (.putfield 9, 3) := zo_181 (d := 0) (e := 9) (zd_b zq_prog_4_method_1_code_0 9 rfl rfl rfl) (zd_b zq_prog_4_method_1_code_0 10 rfl rfl rfl) (zd_b zq_prog_4_method_1_code_0 11 rfl rfl rfl)
theorem u_Fz : ∀ x ∈ u_ws R_Fz F_Fz 7, x ∈ z_gw := fun x hx => List.mem_filter.mpr ⟨(z_au [(1, 94), (1, 96), (1, 98), (1, 100), (1, 102), (1, 104), (1, 106)] (by decide +kernel) : ∀ x ∈ u_ws R_Fz F_Fz 7, x ∈ lw_tbl) x hx, (show ∀ x ∈ u_ws R_Fz F_Fz 7, goodWord x = true by decide +kernel) x hx⟩
theorem fp_Fz_9 : z_fp "Ironpour$Freezing" 9 2 0 true (t_Fz 0) := ⟨R_Fz, "Ironpour$Freezing", F_Fz, 7, t_Fz, rfl, u_Fz, by decide, t_Fz_ok, n_Fz, rfl, rfl, Or.inl ⟨z_mj1 (i := 83) rfl (by decide +kernel), Or.inl rfl, fun _ => ⟨rfl, rfl⟩⟩⟩
theorem d_Fz_init_12 : decode prog_4_method_1_code 12 = .ok (.aload_n 0, 1) := zo_42 (zd_b zq_prog_4_method_1_code_0 12 rfl rfl rfl)
theorem d_Fz_init_13 : decode prog_4_method_1_code 13 = .ok (.bipush 108, 2) := zo_16 (d := 108) (zd_b zq_prog_4_method_1_code_0 13 rfl rfl rfl) (zd_b zq_prog_4_method_1_code_0 14 rfl rfl rfl) (by decide +kernel)
theorem d_Fz_init_15 : decode prog_4_method_1_code 15 = .ok (.newarray .int, 2) := by decide +kernel
theorem d_Fz_init_17 : decode prog_4_method_1_code 17 = .ok (.putfield 15, 3) := zo_181 (d := 0) (e := 15) (zd_b zq_prog_4_method_1_code_0 17 rfl rfl rfl) (zd_b zq_prog_4_method_1_code_0 18 rfl rfl rfl) (zd_b zq_prog_4_method_1_code_0 19 rfl rfl rfl)
theorem fp_Fz_15 : z_fp "Ironpour$Freezing" 15 2 1 true (t_Fz 1) := ⟨R_Fz, "Ironpour$Freezing", F_Fz, 7, t_Fz, rfl, u_Fz, by decide, t_Fz_ok, n_Fz, rfl, rfl, Or.inl ⟨z_mj1 (i := 85) rfl (by decide +kernel), Or.inl rfl, fun _ => ⟨rfl, rfl⟩⟩⟩
theorem d_Fz_init_20 : decode prog_4_method_1_code 20 = .ok (.aload_n 0, 1) := zo_42 (zd_b zq_prog_4_method_1_code_0 20 rfl rfl rfl)
theorem d_Fz_init_21 : decode prog_4_method_1_code 21 = .ok (.bipush 108, 2) := zo_16 (d := 108) (zd_b zq_prog_4_method_1_code_0 21 rfl rfl rfl) (zd_b zq_prog_4_method_1_code_0 22 rfl rfl rfl) (by decide +kernel)
theorem d_Fz_init_23 : decode prog_4_method_1_code 23 = .ok (.newarray .int, 2) := by decide +kernel
theorem d_Fz_init_25 : decode prog_4_method_1_code 25 = .ok (.putfield 18, 3) := zo_181 (d := 0) (e := 18) (zd_b zq_prog_4_method_1_code_0 25 rfl rfl rfl) (zd_b zq_prog_4_method_1_code_0 26 rfl rfl rfl) (zd_b zq_prog_4_method_1_code_0 27 rfl rfl rfl)
theorem fp_Fz_18 : z_fp "Ironpour$Freezing" 18 2 2 true (t_Fz 2) := ⟨R_Fz, "Ironpour$Freezing", F_Fz, 7, t_Fz, rfl, u_Fz, by decide, t_Fz_ok, n_Fz, rfl, rfl, Or.inl ⟨z_mj1 (i := 86) rfl (by decide +kernel), Or.inl rfl, fun _ => ⟨rfl, rfl⟩⟩⟩
theorem d_Fz_init_28 : decode prog_4_method_1_code 28 = .ok (.aload_n 0, 1) := zo_42 (zd_b zq_prog_4_method_1_code_0 28 rfl rfl rfl)
theorem d_Fz_init_29 : decode prog_4_method_1_code 29 = .ok (.bipush 108, 2) := zo_16 (d := 108) (zd_b zq_prog_4_method_1_code_0 29 rfl rfl rfl) (zd_b zq_prog_4_method_1_code_0 30 rfl rfl rfl) (by decide +kernel)
theorem d_Fz_init_31 : decode prog_4_method_1_code 31 = .ok (.newarray .int, 2) := by decide +kernel
theorem d_Fz_init_33 : decode prog_4_method_1_code 33 = .ok (.putfield 21, 3) := zo_181 (d := 0) (e := 21) (zd_b zq_prog_4_method_1_code_1 1 rfl rfl rfl) (zd_b zq_prog_4_method_1_code_1 2 rfl rfl rfl) (zd_b zq_prog_4_method_1_code_1 3 rfl rfl rfl)
theorem fp_Fz_21 : z_fp "Ironpour$Freezing" 21 2 3 true (t_Fz 3) := ⟨R_Fz, "Ironpour$Freezing", F_Fz, 7, t_Fz, rfl, u_Fz, by decide, t_Fz_ok, n_Fz, rfl, rfl, Or.inl ⟨z_mj1 (i := 87) rfl (by decide +kernel), Or.inl rfl, fun _ => ⟨rfl, rfl⟩⟩⟩
theorem d_Fz_init_36 : decode prog_4_method_1_code 36 = .ok (.aload_n 0, 1) := zo_42 (zd_b zq_prog_4_method_1_code_1 4 rfl rfl rfl)
theorem d_Fz_init_37 : decode prog_4_method_1_code 37 = .ok (.bipush 108, 2) := zo_16 (d := 108) (zd_b zq_prog_4_method_1_code_1 5 rfl rfl rfl) (zd_b zq_prog_4_method_1_code_1 6 rfl rfl rfl) (by decide +kernel)
theorem d_Fz_init_39 : decode prog_4_method_1_code 39 = .ok (.newarray .int, 2) := by decide +kernel
theorem d_Fz_init_41 : decode prog_4_method_1_code 41 = .ok (.putfield 24, 3) := zo_181 (d := 0) (e := 24) (zd_b zq_prog_4_method_1_code_1 9 rfl rfl rfl) (zd_b zq_prog_4_method_1_code_1 10 rfl rfl rfl) (zd_b zq_prog_4_method_1_code_1 11 rfl rfl rfl)
theorem fp_Fz_24 : z_fp "Ironpour$Freezing" 24 2 4 true (t_Fz 4) := ⟨R_Fz, "Ironpour$Freezing", F_Fz, 7, t_Fz, rfl, u_Fz, by decide, t_Fz_ok, n_Fz, rfl, rfl, Or.inl ⟨z_mj1 (i := 90) rfl (by decide +kernel), Or.inl rfl, fun _ => ⟨rfl, rfl⟩⟩⟩
theorem d_Fz_init_44 : decode prog_4_method_1_code 44 = .ok (.aload_n 0, 1) := zo_42 (zd_b zq_prog_4_method_1_code_1 12 rfl rfl rfl)
theorem d_Fz_init_45 : decode prog_4_method_1_code 45 = .ok (.bipush 108, 2) := zo_16 (d := 108) (zd_b zq_prog_4_method_1_code_1 13 rfl rfl rfl) (zd_b zq_prog_4_method_1_code_1 14 rfl rfl rfl) (by decide +kernel)
theorem d_Fz_init_47 : decode prog_4_method_1_code 47 = .ok (.newarray .int, 2) := by decide +kernel
theorem d_Fz_init_49 : decode prog_4_method_1_code 49 = .ok (.putfield 27, 3) := zo_181 (d := 0) (e := 27) (zd_b zq_prog_4_method_1_code_1 17 rfl rfl rfl) (zd_b zq_prog_4_method_1_code_1 18 rfl rfl rfl) (zd_b zq_prog_4_method_1_code_1 19 rfl rfl rfl)
theorem fp_Fz_27 : z_fp "Ironpour$Freezing" 27 2 5 true (t_Fz 5) := ⟨R_Fz, "Ironpour$Freezing", F_Fz, 7, t_Fz, rfl, u_Fz, by decide, t_Fz_ok, n_Fz, rfl, rfl, Or.inl ⟨z_mj1 (i := 91) rfl (by decide +kernel), Or.inl rfl, fun _ => ⟨rfl, rfl⟩⟩⟩
theorem d_Fz_init_52 : decode prog_4_method_1_code 52 = .ok (.return_, 1) := zo_177 (zd_b zq_prog_4_method_1_code_1 20 rfl rfl rfl)
set_option maxHeartbeats 4000000 in
set_option maxRecDepth 100000 in
theorem C_Fz_init (g : zG) (a : Nat) : CT g M_Fz_init [.ref a] [(a, .inr (2, [.null, .null, .null, .null, .null, .null, .int 0]))] (fun o cs1 => ∃ a1 a2 a3 a4 a5 a6, o = .inl none ∧ cs1 = [(a, .inr (2, [.ref a1, .ref a2, .ref a3, .ref a4, .ref a5, .ref a6, .int 0])), (a1, .inl (0, 108, .inl (fun _ => 0))), (a2, .inl (0, 108, .inl (fun _ => 0))), (a3, .inl (0, 108, .inl (fun _ => 0))), (a4, .inl (0, 108, .inl (fun _ => 0))), (a5, .inl (0, 108, .inl (fun _ => 0))), (a6, .inl (0, 108, .inl (fun _ => 0)))]) 6 648 := by
  refine z_of (by decide) rfl (Nat.le_of_ble_eq_true rfl) (fun w0 => ?_)
  refine r_lvE (lv2 := [(0, .ref a)]) rfl ?_
  refine r_aload_n d_Fz_init_0 rfl 0 rfl ?_
  refine r_objInit ln_Fz_3 w_oi1 w_oi2 d_Fz_init_1 (by decide) (by decide) (Nat.le_of_ble_eq_true rfl) ?_
  refine r_aload_n d_Fz_init_4 rfl 0 rfl ?_
  refine r_bipush d_Fz_init_5 (v := 108) (by decide) ?_
  refine r_newa_int (N := 108) ac_int d_Fz_init_7 (by decide) (by decide) (by decide) (by omega) (by omega) (fun a1 => ?_)
  refine r_cs (cs2 := [(a, .inr (2, [.null, .null, .null, .null, .null, .null, .int 0])), (a1, .inl (0, 108, .inl (fun _ => 0)))]) rfl ?_
  refine r_put fp_Fz_9 d_Fz_init_9 (fun _ => rfl) rfl rfl (q0 := 0) rfl (Nat.le_of_ble_eq_true rfl) (cs' := [(a, .inr (2, [.ref a1, .null, .null, .null, .null, .null, .int 0])), (a1, .inl (0, 108, .inl (fun _ => 0)))]) rfl ?_
  refine r_aload_n d_Fz_init_12 rfl 0 rfl ?_
  refine r_bipush d_Fz_init_13 (v := 108) (by decide) ?_
  refine r_newa_int (N := 108) ac_int d_Fz_init_15 (by decide) (by decide) (by decide) (by omega) (by omega) (fun a2 => ?_)
  refine r_cs (cs2 := [(a, .inr (2, [.ref a1, .null, .null, .null, .null, .null, .int 0])), (a1, .inl (0, 108, .inl (fun _ => 0))), (a2, .inl (0, 108, .inl (fun _ => 0)))]) rfl ?_
  refine r_put fp_Fz_15 d_Fz_init_17 (fun _ => rfl) rfl rfl (q0 := 0) rfl (Nat.le_of_ble_eq_true rfl) (cs' := [(a, .inr (2, [.ref a1, .ref a2, .null, .null, .null, .null, .int 0])), (a1, .inl (0, 108, .inl (fun _ => 0))), (a2, .inl (0, 108, .inl (fun _ => 0)))]) rfl ?_
  refine r_aload_n d_Fz_init_20 rfl 0 rfl ?_
  refine r_bipush d_Fz_init_21 (v := 108) (by decide) ?_
  refine r_newa_int (N := 108) ac_int d_Fz_init_23 (by decide) (by decide) (by decide) (by omega) (by omega) (fun a3 => ?_)
  refine r_cs (cs2 := [(a, .inr (2, [.ref a1, .ref a2, .null, .null, .null, .null, .int 0])), (a1, .inl (0, 108, .inl (fun _ => 0))), (a2, .inl (0, 108, .inl (fun _ => 0))), (a3, .inl (0, 108, .inl (fun _ => 0)))]) rfl ?_
  refine r_put fp_Fz_18 d_Fz_init_25 (fun _ => rfl) rfl rfl (q0 := 0) rfl (Nat.le_of_ble_eq_true rfl) (cs' := [(a, .inr (2, [.ref a1, .ref a2, .ref a3, .null, .null, .null, .int 0])), (a1, .inl (0, 108, .inl (fun _ => 0))), (a2, .inl (0, 108, .inl (fun _ => 0))), (a3, .inl (0, 108, .inl (fun _ => 0)))]) rfl ?_
  refine r_aload_n d_Fz_init_28 rfl 0 rfl ?_
  refine r_bipush d_Fz_init_29 (v := 108) (by decide) ?_
  refine r_newa_int (N := 108) ac_int d_Fz_init_31 (by decide) (by decide) (by decide) (by omega) (by omega) (fun a4 => ?_)
  refine r_cs (cs2 := [(a, .inr (2, [.ref a1, .ref a2, .ref a3, .null, .null, .null, .int 0])), (a1, .inl (0, 108, .inl (fun _ => 0))), (a2, .inl (0, 108, .inl (fun _ => 0))), (a3, .inl (0, 108, .inl (fun _ => 0))), (a4, .inl (0, 108, .inl (fun _ => 0)))]) rfl ?_
  refine r_put fp_Fz_21 d_Fz_init_33 (fun _ => rfl) rfl rfl (q0 := 0) rfl (Nat.le_of_ble_eq_true rfl) (cs' := [(a, .inr (2, [.ref a1, .ref a2, .ref a3, .ref a4, .null, .null, .int 0])), (a1, .inl (0, 108, .inl (fun _ => 0))), (a2, .inl (0, 108, .inl (fun _ => 0))), (a3, .inl (0, 108, .inl (fun _ => 0))), (a4, .inl (0, 108, .inl (fun _ => 0)))]) rfl ?_
  refine r_aload_n d_Fz_init_36 rfl 0 rfl ?_
  refine r_bipush d_Fz_init_37 (v := 108) (by decide) ?_
  refine r_newa_int (N := 108) ac_int d_Fz_init_39 (by decide) (by decide) (by decide) (by omega) (by omega) (fun a5 => ?_)
  refine r_cs (cs2 := [(a, .inr (2, [.ref a1, .ref a2, .ref a3, .ref a4, .null, .null, .int 0])), (a1, .inl (0, 108, .inl (fun _ => 0))), (a2, .inl (0, 108, .inl (fun _ => 0))), (a3, .inl (0, 108, .inl (fun _ => 0))), (a4, .inl (0, 108, .inl (fun _ => 0))), (a5, .inl (0, 108, .inl (fun _ => 0)))]) rfl ?_
  refine r_put fp_Fz_24 d_Fz_init_41 (fun _ => rfl) rfl rfl (q0 := 0) rfl (Nat.le_of_ble_eq_true rfl) (cs' := [(a, .inr (2, [.ref a1, .ref a2, .ref a3, .ref a4, .ref a5, .null, .int 0])), (a1, .inl (0, 108, .inl (fun _ => 0))), (a2, .inl (0, 108, .inl (fun _ => 0))), (a3, .inl (0, 108, .inl (fun _ => 0))), (a4, .inl (0, 108, .inl (fun _ => 0))), (a5, .inl (0, 108, .inl (fun _ => 0)))]) rfl ?_
  refine r_aload_n d_Fz_init_44 rfl 0 rfl ?_
  refine r_bipush d_Fz_init_45 (v := 108) (by decide) ?_
  refine r_newa_int (N := 108) ac_int d_Fz_init_47 (by decide) (by decide) (by decide) (by omega) (by omega) (fun a6 => ?_)
  refine r_cs (cs2 := [(a, .inr (2, [.ref a1, .ref a2, .ref a3, .ref a4, .ref a5, .null, .int 0])), (a1, .inl (0, 108, .inl (fun _ => 0))), (a2, .inl (0, 108, .inl (fun _ => 0))), (a3, .inl (0, 108, .inl (fun _ => 0))), (a4, .inl (0, 108, .inl (fun _ => 0))), (a5, .inl (0, 108, .inl (fun _ => 0))), (a6, .inl (0, 108, .inl (fun _ => 0)))]) rfl ?_
  refine r_put fp_Fz_27 d_Fz_init_49 (fun _ => rfl) rfl rfl (q0 := 0) rfl (Nat.le_of_ble_eq_true rfl) (cs' := [(a, .inr (2, [.ref a1, .ref a2, .ref a3, .ref a4, .ref a5, .ref a6, .int 0])), (a1, .inl (0, 108, .inl (fun _ => 0))), (a2, .inl (0, 108, .inl (fun _ => 0))), (a3, .inl (0, 108, .inl (fun _ => 0))), (a4, .inl (0, 108, .inl (fun _ => 0))), (a5, .inl (0, 108, .inl (fun _ => 0))), (a6, .inl (0, 108, .inl (fun _ => 0)))]) rfl ?_
  refine r_vret d_Fz_init_52 rfl ?_
  exact ⟨a1, a2, a3, a4, a5, a6, rfl, rfl⟩
abbrev M_Fu_init : zM := (⟨"Ironpour$Furnace", "<init>", "()V"⟩, prog_5_method_1_code, 1, (Option.none : Option FieldType), 2, 40, [])
theorem d_Fu_init_0 : decode prog_5_method_1_code 0 = .ok (.aload_n 0, 1) := zo_42 (zd_b zq_prog_5_method_1_code_0 0 rfl rfl rfl)
theorem d_Fu_init_1 : decode prog_5_method_1_code 1 = .ok (.invokespecial 3, 3) := zo_183 (d := 0) (e := 3) (zd_b zq_prog_5_method_1_code_0 1 rfl rfl rfl) (zd_b zq_prog_5_method_1_code_0 2 rfl rfl rfl) (zd_b zq_prog_5_method_1_code_0 3 rfl rfl rfl)
theorem ln_Fu_3 : Cond.methodLink "Ironpour$Furnace" 3 Lib.objectInit ∈ z_gw := z_mj1 (i := 190) rfl (by decide +kernel)
theorem d_Fu_init_4 : decode prog_5_method_1_code 4 = .ok (.aload_n 0, 1) := zo_42 (zd_b zq_prog_5_method_1_code_0 4 rfl rfl rfl)
theorem d_Fu_init_5 : decode prog_5_method_1_code 5 = .ok (.new 9, 3) := zo_187 (d := 0) (e := 9) (zd_b zq_prog_5_method_1_code_0 5 rfl rfl rfl) (zd_b zq_prog_5_method_1_code_0 6 rfl rfl rfl) (zd_b zq_prog_5_method_1_code_0 7 rfl rfl rfl)
theorem nc_Fu_9 : z_nc "Ironpour$Furnace" 9 6 2 [.null, .int 0] := ⟨R_Me, F_Me, t_Me, rfl, u_Me, t_Me_ok, z_mj1 (i := 191) rfl (by decide +kernel), z_mj1 (i := 192) rfl (by decide +kernel), z_mj1 (i := 8) rfl (by decide +kernel), by decide +kernel⟩
theorem d_Fu_init_8 : decode prog_5_method_1_code 8 = .ok (.dup, 1) := zo_89 (zd_b zq_prog_5_method_1_code_0 8 rfl rfl rfl)
theorem d_Fu_init_9 : decode prog_5_method_1_code 9 = .ok (.invokespecial 11, 3) := zo_183 (d := 0) (e := 11) (zd_b zq_prog_5_method_1_code_0 9 rfl rfl rfl) (zd_b zq_prog_5_method_1_code_0 10 rfl rfl rfl) (zd_b zq_prog_5_method_1_code_0 11 rfl rfl rfl)
theorem ok_Fu_init_Me_init : z_ok M_Fu_init M_Me_init 0 := ⟨z_mj1 (i := 195) rfl (by decide +kernel), rfl, ⟨by decide +kernel, by decide +kernel, by decide +kernel⟩, ⟨by decide, by decide⟩, z_mj1 (i := 8) rfl (by decide +kernel), rfl⟩
theorem ln_Fu_11 : Cond.methodLinkNest "Ironpour$Furnace" 11 M_Me_init.1 "Ironpour" ∈ z_nw := z_mk1 (i := 193) rfl (by decide +kernel)
theorem d_Fu_init_12 : decode prog_5_method_1_code 12 = .ok (.putfield 12, 3) := zo_181 (d := 0) (e := 12) (zd_b zq_prog_5_method_1_code_0 12 rfl rfl rfl) (zd_b zq_prog_5_method_1_code_0 13 rfl rfl rfl) (zd_b zq_prog_5_method_1_code_0 14 rfl rfl rfl)
theorem u_Fu : ∀ x ∈ u_ws R_Fu F_Fu 5, x ∈ z_gw := fun x hx => List.mem_filter.mpr ⟨(z_au [(1, 220), (1, 222), (1, 224), (1, 226), (1, 228)] (by decide +kernel) : ∀ x ∈ u_ws R_Fu F_Fu 5, x ∈ lw_tbl) x hx, (show ∀ x ∈ u_ws R_Fu F_Fu 5, goodWord x = true by decide +kernel) x hx⟩
theorem fp_Fu_12 : z_fp "Ironpour$Furnace" 12 3 0 true (t_Fu 0) := ⟨R_Fu, "Ironpour$Furnace", F_Fu, 5, t_Fu, rfl, u_Fu, by decide, t_Fu_ok, n_Fu, rfl, rfl, Or.inl ⟨z_mj1 (i := 210) rfl (by decide +kernel), Or.inl rfl, fun _ => ⟨rfl, rfl⟩⟩⟩
theorem d_Fu_init_15 : decode prog_5_method_1_code 15 = .ok (.aload_n 0, 1) := zo_42 (zd_b zq_prog_5_method_1_code_0 15 rfl rfl rfl)
theorem d_Fu_init_16 : decode prog_5_method_1_code 16 = .ok (.iconst 4, 1) := zo_7 (zd_b zq_prog_5_method_1_code_0 16 rfl rfl rfl)
theorem d_Fu_init_17 : decode prog_5_method_1_code 17 = .ok (.newarray .long, 2) := by decide +kernel
theorem d_Fu_init_19 : decode prog_5_method_1_code 19 = .ok (.putfield 18, 3) := zo_181 (d := 0) (e := 18) (zd_b zq_prog_5_method_1_code_0 19 rfl rfl rfl) (zd_b zq_prog_5_method_1_code_0 20 rfl rfl rfl) (zd_b zq_prog_5_method_1_code_0 21 rfl rfl rfl)
theorem fp_Fu_18 : z_fp "Ironpour$Furnace" 18 3 1 true (t_Fu 1) := ⟨R_Fu, "Ironpour$Furnace", F_Fu, 5, t_Fu, rfl, u_Fu, by decide, t_Fu_ok, n_Fu, rfl, rfl, Or.inl ⟨z_mj1 (i := 212) rfl (by decide +kernel), Or.inl rfl, fun _ => ⟨rfl, rfl⟩⟩⟩
theorem d_Fu_init_22 : decode prog_5_method_1_code 22 = .ok (.aload_n 0, 1) := zo_42 (zd_b zq_prog_5_method_1_code_0 22 rfl rfl rfl)
theorem d_Fu_init_23 : decode prog_5_method_1_code 23 = .ok (.iconst 4, 1) := zo_7 (zd_b zq_prog_5_method_1_code_0 23 rfl rfl rfl)
theorem d_Fu_init_24 : decode prog_5_method_1_code 24 = .ok (.newarray .long, 2) := by decide +kernel
theorem d_Fu_init_26 : decode prog_5_method_1_code 26 = .ok (.putfield 22, 3) := zo_181 (d := 0) (e := 22) (zd_b zq_prog_5_method_1_code_0 26 rfl rfl rfl) (zd_b zq_prog_5_method_1_code_0 27 rfl rfl rfl) (zd_b zq_prog_5_method_1_code_0 28 rfl rfl rfl)
theorem fp_Fu_22 : z_fp "Ironpour$Furnace" 22 3 2 true (t_Fu 2) := ⟨R_Fu, "Ironpour$Furnace", F_Fu, 5, t_Fu, rfl, u_Fu, by decide, t_Fu_ok, n_Fu, rfl, rfl, Or.inl ⟨z_mj1 (i := 214) rfl (by decide +kernel), Or.inl rfl, fun _ => ⟨rfl, rfl⟩⟩⟩
theorem d_Fu_init_29 : decode prog_5_method_1_code 29 = .ok (.aload_n 0, 1) := zo_42 (zd_b zq_prog_5_method_1_code_0 29 rfl rfl rfl)
theorem d_Fu_init_30 : decode prog_5_method_1_code 30 = .ok (.iconst 4, 1) := zo_7 (zd_b zq_prog_5_method_1_code_0 30 rfl rfl rfl)
theorem d_Fu_init_31 : decode prog_5_method_1_code 31 = .ok (.newarray .long, 2) := by decide +kernel
theorem d_Fu_init_33 : decode prog_5_method_1_code 33 = .ok (.putfield 25, 3) := zo_181 (d := 0) (e := 25) (zd_b zq_prog_5_method_1_code_1 1 rfl rfl rfl) (zd_b zq_prog_5_method_1_code_1 2 rfl rfl rfl) (zd_b zq_prog_5_method_1_code_1 3 rfl rfl rfl)
theorem fp_Fu_25 : z_fp "Ironpour$Furnace" 25 3 3 true (t_Fu 3) := ⟨R_Fu, "Ironpour$Furnace", F_Fu, 5, t_Fu, rfl, u_Fu, by decide, t_Fu_ok, n_Fu, rfl, rfl, Or.inl ⟨z_mj1 (i := 216) rfl (by decide +kernel), Or.inl rfl, fun _ => ⟨rfl, rfl⟩⟩⟩
theorem d_Fu_init_36 : decode prog_5_method_1_code 36 = .ok (.return_, 1) := zo_177 (zd_b zq_prog_5_method_1_code_1 4 rfl rfl rfl)
set_option maxHeartbeats 4000000 in
set_option maxRecDepth 100000 in
theorem C_Fu_init (g : zG) (a : Nat) : CT g M_Fu_init [.ref a] [(a, .inr (3, [.null, .null, .null, .null, .long 0]))] (fun o cs1 => ∃ b bg t1 t2 t3, o = .inl none ∧ cs1 = [(a, .inr (3, [.ref b, .ref t1, .ref t2, .ref t3, .long 0])), (b, .inr (6, [.ref bg, .int 0])), (bg, .inl (3, 4, .inr (.inl (fun _ => 0)))), (t1, .inl (3, 4, .inr (.inl (fun _ => 0)))), (t2, .inl (3, 4, .inr (.inl (fun _ => 0)))), (t3, .inl (3, 4, .inr (.inl (fun _ => 0))))]) 5 20 := by
  refine z_of (by decide) rfl (Nat.le_of_ble_eq_true rfl) (fun w0 => ?_)
  refine r_lvE (lv2 := [(0, .ref a)]) rfl ?_
  refine r_aload_n d_Fu_init_0 rfl 0 rfl ?_
  refine r_objInit ln_Fu_3 w_oi1 w_oi2 d_Fu_init_1 (by decide) (by decide) (Nat.le_of_ble_eq_true rfl) ?_
  refine r_aload_n d_Fu_init_4 rfl 0 rfl ?_
  refine r_new nc_Fu_9 d_Fu_init_5 (by omega) (by omega) (fun b => ?_)
  refine r_cs (cs2 := [(a, .inr (3, [.null, .null, .null, .null, .long 0])), (b, .inr (6, [.null, .int 0]))]) rfl ?_
  refine r_dup d_Fu_init_8 rfl ?_
  refine r_callIN (As := []) (rest := [.ref b, .ref a]) (csC := [(b, .inr (6, [.null, .int 0]))]) (is := [1]) rfl rfl ln_Fu_11 w_im_Me_init ok_Fu_init_Me_init d_Fu_init_9 (C_Me_init g b) rfl rfl (Nat.le_of_ble_eq_true rfl) rfl (by decide) (by omega) (by omega) (fun E cs1 hx => ?_) (fun v cs1 hx => ?_)
  · obtain ⟨bg, e1, -⟩ := hx
    cases e1
  · obtain ⟨bg, e1, rfl⟩ := hx
    cases e1
    refine ⟨rfl, ?_⟩
    refine r_st (st2 := [.ref b, .ref a]) rfl ?_
    refine r_cs (cs2 := [(a, .inr (3, [.null, .null, .null, .null, .long 0])), (b, .inr (6, [.ref bg, .int 0])), (bg, .inl (3, 4, .inr (.inl (fun _ => 0))))]) rfl ?_
    refine r_put fp_Fu_12 d_Fu_init_12 (fun _ => rfl) rfl rfl (q0 := 0) rfl (Nat.le_of_ble_eq_true rfl) (cs' := [(a, .inr (3, [.ref b, .null, .null, .null, .long 0])), (b, .inr (6, [.ref bg, .int 0])), (bg, .inl (3, 4, .inr (.inl (fun _ => 0))))]) rfl ?_
    refine r_aload_n d_Fu_init_15 rfl 0 rfl ?_
    refine r_iconst d_Fu_init_16 (v := 4) (by decide) ?_
    refine r_newa_long (N := 4) ac_long d_Fu_init_17 (by decide) (by decide) (by decide) (by omega) (by omega) (fun t1 => ?_)
    refine r_cs (cs2 := [(a, .inr (3, [.ref b, .null, .null, .null, .long 0])), (b, .inr (6, [.ref bg, .int 0])), (bg, .inl (3, 4, .inr (.inl (fun _ => 0)))), (t1, .inl (3, 4, .inr (.inl (fun _ => 0))))]) rfl ?_
    refine r_put fp_Fu_18 d_Fu_init_19 (fun _ => rfl) rfl rfl (q0 := 0) rfl (Nat.le_of_ble_eq_true rfl) (cs' := [(a, .inr (3, [.ref b, .ref t1, .null, .null, .long 0])), (b, .inr (6, [.ref bg, .int 0])), (bg, .inl (3, 4, .inr (.inl (fun _ => 0)))), (t1, .inl (3, 4, .inr (.inl (fun _ => 0))))]) rfl ?_
    refine r_aload_n d_Fu_init_22 rfl 0 rfl ?_
    refine r_iconst d_Fu_init_23 (v := 4) (by decide) ?_
    refine r_newa_long (N := 4) ac_long d_Fu_init_24 (by decide) (by decide) (by decide) (by omega) (by omega) (fun t2 => ?_)
    refine r_cs (cs2 := [(a, .inr (3, [.ref b, .ref t1, .null, .null, .long 0])), (b, .inr (6, [.ref bg, .int 0])), (bg, .inl (3, 4, .inr (.inl (fun _ => 0)))), (t1, .inl (3, 4, .inr (.inl (fun _ => 0)))), (t2, .inl (3, 4, .inr (.inl (fun _ => 0))))]) rfl ?_
    refine r_put fp_Fu_22 d_Fu_init_26 (fun _ => rfl) rfl rfl (q0 := 0) rfl (Nat.le_of_ble_eq_true rfl) (cs' := [(a, .inr (3, [.ref b, .ref t1, .ref t2, .null, .long 0])), (b, .inr (6, [.ref bg, .int 0])), (bg, .inl (3, 4, .inr (.inl (fun _ => 0)))), (t1, .inl (3, 4, .inr (.inl (fun _ => 0)))), (t2, .inl (3, 4, .inr (.inl (fun _ => 0))))]) rfl ?_
    refine r_aload_n d_Fu_init_29 rfl 0 rfl ?_
    refine r_iconst d_Fu_init_30 (v := 4) (by decide) ?_
    refine r_newa_long (N := 4) ac_long d_Fu_init_31 (by decide) (by decide) (by decide) (by omega) (by omega) (fun t3 => ?_)
    refine r_cs (cs2 := [(a, .inr (3, [.ref b, .ref t1, .ref t2, .null, .long 0])), (b, .inr (6, [.ref bg, .int 0])), (bg, .inl (3, 4, .inr (.inl (fun _ => 0)))), (t1, .inl (3, 4, .inr (.inl (fun _ => 0)))), (t2, .inl (3, 4, .inr (.inl (fun _ => 0)))), (t3, .inl (3, 4, .inr (.inl (fun _ => 0))))]) rfl ?_
    refine r_put fp_Fu_25 d_Fu_init_33 (fun _ => rfl) rfl rfl (q0 := 0) rfl (Nat.le_of_ble_eq_true rfl) (cs' := [(a, .inr (3, [.ref b, .ref t1, .ref t2, .ref t3, .long 0])), (b, .inr (6, [.ref bg, .int 0])), (bg, .inl (3, 4, .inr (.inl (fun _ => 0)))), (t1, .inl (3, 4, .inr (.inl (fun _ => 0)))), (t2, .inl (3, 4, .inr (.inl (fun _ => 0)))), (t3, .inl (3, 4, .inr (.inl (fun _ => 0))))]) rfl ?_
    refine r_vret d_Fu_init_36 rfl ?_
    exact ⟨b, bg, t1, t2, t3, rfl, rfl⟩
abbrev M_Tr_init : zM := (⟨"Ironpour$Trial", "<init>", "()V"⟩, prog_12_method_1_code, 2, (Option.none : Option FieldType), 2, 40, [])
theorem d_Tr_init_57 : decode prog_12_method_1_code 57 = .ok (.iload_n 1, 1) := zo_27 (zd_b zq_prog_12_method_1_code_1 25 rfl rfl rfl)
theorem d_Tr_init_58 : decode prog_12_method_1_code 58 = .ok (.bipush 108, 2) := zo_16 (d := 108) (zd_b zq_prog_12_method_1_code_1 26 rfl rfl rfl) (zd_b zq_prog_12_method_1_code_1 27 rfl rfl rfl) (by decide +kernel)
theorem d_Tr_init_60 : decode prog_12_method_1_code 60 = .ok (.if_icmp .ge 17, 3) := zo_162 (d := 0) (e := 17) (zd_b zq_prog_12_method_1_code_1 28 rfl rfl rfl) (zd_b zq_prog_12_method_1_code_1 29 rfl rfl rfl) (zd_b zq_prog_12_method_1_code_1 30 rfl rfl rfl) (by decide +kernel)
theorem d_Tr_init_77 : decode prog_12_method_1_code 77 = .ok (.return_, 1) := zo_177 (zd_b zq_prog_12_method_1_code_2 13 rfl rfl rfl)
theorem d_Tr_init_63 : decode prog_12_method_1_code 63 = .ok (.aload_n 0, 1) := zo_42 (zd_b zq_prog_12_method_1_code_1 31 rfl rfl rfl)
theorem d_Tr_init_64 : decode prog_12_method_1_code 64 = .ok (.getfield 9, 3) := zo_180 (d := 0) (e := 9) (zd_b zq_prog_12_method_1_code_2 0 rfl rfl rfl) (zd_b zq_prog_12_method_1_code_2 1 rfl rfl rfl) (zd_b zq_prog_12_method_1_code_2 2 rfl rfl rfl)
theorem u_Tr : ∀ x ∈ u_ws R_Tr F_Tr 8, x ∈ z_gw := fun x hx => List.mem_filter.mpr ⟨(z_au [(1, 121), (1, 123), (1, 125), (1, 127), (1, 129), (1, 131), (1, 133), (1, 135)] (by decide +kernel) : ∀ x ∈ u_ws R_Tr F_Tr 8, x ∈ lw_tbl) x hx, (show ∀ x ∈ u_ws R_Tr F_Tr 8, goodWord x = true by decide +kernel) x hx⟩
theorem fs_Tr_9 : z_fs "Ironpour$Trial" 9 10 0 := ⟨R_Tr, "Ironpour$Trial", F_Tr, 8, rfl, u_Tr, by decide, Or.inl ⟨z_mj1 (i := 109) rfl (by decide +kernel), Or.inl rfl⟩⟩
theorem d_Tr_init_67 : decode prog_12_method_1_code 67 = .ok (.iload_n 1, 1) := zo_27 (zd_b zq_prog_12_method_1_code_2 3 rfl rfl rfl)
theorem d_Tr_init_68 : decode prog_12_method_1_code 68 = .ok (.bipush 46, 2) := zo_16 (d := 46) (zd_b zq_prog_12_method_1_code_2 4 rfl rfl rfl) (zd_b zq_prog_12_method_1_code_2 5 rfl rfl rfl) (by decide +kernel)
theorem d_Tr_init_70 : decode prog_12_method_1_code 70 = .ok (.castore, 1) := zo_85 (zd_b zq_prog_12_method_1_code_2 6 rfl rfl rfl)
theorem d_Tr_init_71 : decode prog_12_method_1_code 71 = .ok (.iinc 1 1, 3) := by decide +kernel
theorem d_Tr_init_74 : decode prog_12_method_1_code 74 = .ok (.goto (-17), 3) := zo_167 (d := 255) (e := 239) (zd_b zq_prog_12_method_1_code_2 10 rfl rfl rfl) (zd_b zq_prog_12_method_1_code_2 11 rfl rfl rfl) (zd_b zq_prog_12_method_1_code_2 12 rfl rfl rfl) (by decide +kernel)
theorem d_Tr_init_0 : decode prog_12_method_1_code 0 = .ok (.aload_n 0, 1) := zo_42 (zd_b zq_prog_12_method_1_code_0 0 rfl rfl rfl)
theorem d_Tr_init_1 : decode prog_12_method_1_code 1 = .ok (.invokespecial 3, 3) := zo_183 (d := 0) (e := 3) (zd_b zq_prog_12_method_1_code_0 1 rfl rfl rfl) (zd_b zq_prog_12_method_1_code_0 2 rfl rfl rfl) (zd_b zq_prog_12_method_1_code_0 3 rfl rfl rfl)
theorem ln_Tr_3 : Cond.methodLink "Ironpour$Trial" 3 Lib.objectInit ∈ z_gw := z_mj1 (i := 76) rfl (by decide +kernel)
theorem d_Tr_init_4 : decode prog_12_method_1_code 4 = .ok (.aload_n 0, 1) := zo_42 (zd_b zq_prog_12_method_1_code_0 4 rfl rfl rfl)
theorem d_Tr_init_5 : decode prog_12_method_1_code 5 = .ok (.bipush 108, 2) := zo_16 (d := 108) (zd_b zq_prog_12_method_1_code_0 5 rfl rfl rfl) (zd_b zq_prog_12_method_1_code_0 6 rfl rfl rfl) (by decide +kernel)
theorem d_Tr_init_7 : decode prog_12_method_1_code 7 = .ok (.newarray .char, 2) := by decide +kernel
theorem d_Tr_init_9 : decode prog_12_method_1_code 9 = .ok (.putfield 9, 3) := zo_181 (d := 0) (e := 9) (zd_b zq_prog_12_method_1_code_0 9 rfl rfl rfl) (zd_b zq_prog_12_method_1_code_0 10 rfl rfl rfl) (zd_b zq_prog_12_method_1_code_0 11 rfl rfl rfl)
theorem fp_Tr_9 : z_fp "Ironpour$Trial" 9 10 0 true (t_Tr 0) := ⟨R_Tr, "Ironpour$Trial", F_Tr, 8, t_Tr, rfl, u_Tr, by decide, t_Tr_ok, n_Tr, rfl, rfl, Or.inl ⟨z_mj1 (i := 109) rfl (by decide +kernel), Or.inl rfl, fun _ => ⟨rfl, rfl⟩⟩⟩
theorem d_Tr_init_12 : decode prog_12_method_1_code 12 = .ok (.aload_n 0, 1) := zo_42 (zd_b zq_prog_12_method_1_code_0 12 rfl rfl rfl)
theorem d_Tr_init_13 : decode prog_12_method_1_code 13 = .ok (.bipush 108, 2) := zo_16 (d := 108) (zd_b zq_prog_12_method_1_code_0 13 rfl rfl rfl) (zd_b zq_prog_12_method_1_code_0 14 rfl rfl rfl) (by decide +kernel)
theorem d_Tr_init_15 : decode prog_12_method_1_code 15 = .ok (.newarray .int, 2) := by decide +kernel
theorem d_Tr_init_17 : decode prog_12_method_1_code 17 = .ok (.putfield 15, 3) := zo_181 (d := 0) (e := 15) (zd_b zq_prog_12_method_1_code_0 17 rfl rfl rfl) (zd_b zq_prog_12_method_1_code_0 18 rfl rfl rfl) (zd_b zq_prog_12_method_1_code_0 19 rfl rfl rfl)
theorem fp_Tr_15 : z_fp "Ironpour$Trial" 15 10 1 true (t_Tr 1) := ⟨R_Tr, "Ironpour$Trial", F_Tr, 8, t_Tr, rfl, u_Tr, by decide, t_Tr_ok, n_Tr, rfl, rfl, Or.inl ⟨z_mj1 (i := 111) rfl (by decide +kernel), Or.inl rfl, fun _ => ⟨rfl, rfl⟩⟩⟩
theorem d_Tr_init_20 : decode prog_12_method_1_code 20 = .ok (.aload_n 0, 1) := zo_42 (zd_b zq_prog_12_method_1_code_0 20 rfl rfl rfl)
theorem d_Tr_init_21 : decode prog_12_method_1_code 21 = .ok (.new 19, 3) := zo_187 (d := 0) (e := 19) (zd_b zq_prog_12_method_1_code_0 21 rfl rfl rfl) (zd_b zq_prog_12_method_1_code_0 22 rfl rfl rfl) (zd_b zq_prog_12_method_1_code_0 23 rfl rfl rfl)
theorem nc_Tr_19 : z_nc "Ironpour$Trial" 19 2 7 [.null, .null, .null, .null, .null, .null, .int 0] := ⟨R_Fz, F_Fz, t_Fz, rfl, u_Fz, t_Fz_ok, z_mj1 (i := 77) rfl (by decide +kernel), z_mj1 (i := 78) rfl (by decide +kernel), z_mj1 (i := 4) rfl (by decide +kernel), by decide +kernel⟩
theorem d_Tr_init_24 : decode prog_12_method_1_code 24 = .ok (.dup, 1) := zo_89 (zd_b zq_prog_12_method_1_code_0 24 rfl rfl rfl)
theorem d_Tr_init_25 : decode prog_12_method_1_code 25 = .ok (.invokespecial 21, 3) := zo_183 (d := 0) (e := 21) (zd_b zq_prog_12_method_1_code_0 25 rfl rfl rfl) (zd_b zq_prog_12_method_1_code_0 26 rfl rfl rfl) (zd_b zq_prog_12_method_1_code_0 27 rfl rfl rfl)
theorem ok_Tr_init_Fz_init : z_ok M_Tr_init M_Fz_init 0 := ⟨z_mj1 (i := 81) rfl (by decide +kernel), rfl, ⟨by decide +kernel, by decide +kernel, by decide +kernel⟩, ⟨by decide, by decide⟩, z_mj1 (i := 4) rfl (by decide +kernel), rfl⟩
theorem ln_Tr_21 : Cond.methodLinkNest "Ironpour$Trial" 21 M_Fz_init.1 "Ironpour" ∈ z_nw := z_mk1 (i := 79) rfl (by decide +kernel)
theorem w_im_Fz_init : Cond.instanceMethod M_Fz_init.1 ∈ z_gw := z_mj1 (i := 80) rfl (by decide +kernel)
theorem d_Tr_init_28 : decode prog_12_method_1_code 28 = .ok (.putfield 22, 3) := zo_181 (d := 0) (e := 22) (zd_b zq_prog_12_method_1_code_0 28 rfl rfl rfl) (zd_b zq_prog_12_method_1_code_0 29 rfl rfl rfl) (zd_b zq_prog_12_method_1_code_0 30 rfl rfl rfl)
theorem fp_Tr_22 : z_fp "Ironpour$Trial" 22 10 2 true (t_Tr 2) := ⟨R_Tr, "Ironpour$Trial", F_Tr, 8, t_Tr, rfl, u_Tr, by decide, t_Tr_ok, n_Tr, rfl, rfl, Or.inl ⟨z_mj1 (i := 113) rfl (by decide +kernel), Or.inl rfl, fun _ => ⟨rfl, rfl⟩⟩⟩
theorem d_Tr_init_31 : decode prog_12_method_1_code 31 = .ok (.aload_n 0, 1) := zo_42 (zd_b zq_prog_12_method_1_code_0 31 rfl rfl rfl)
theorem d_Tr_init_32 : decode prog_12_method_1_code 32 = .ok (.bipush 108, 2) := zo_16 (d := 108) (zd_b zq_prog_12_method_1_code_1 0 rfl rfl rfl) (zd_b zq_prog_12_method_1_code_1 1 rfl rfl rfl) (by decide +kernel)
theorem d_Tr_init_34 : decode prog_12_method_1_code 34 = .ok (.newarray .boolean, 2) := by decide +kernel
theorem d_Tr_init_36 : decode prog_12_method_1_code 36 = .ok (.putfield 26, 3) := zo_181 (d := 0) (e := 26) (zd_b zq_prog_12_method_1_code_1 4 rfl rfl rfl) (zd_b zq_prog_12_method_1_code_1 5 rfl rfl rfl) (zd_b zq_prog_12_method_1_code_1 6 rfl rfl rfl)
theorem fp_Tr_26 : z_fp "Ironpour$Trial" 26 10 3 true (t_Tr 3) := ⟨R_Tr, "Ironpour$Trial", F_Tr, 8, t_Tr, rfl, u_Tr, by decide, t_Tr_ok, n_Tr, rfl, rfl, Or.inl ⟨z_mj1 (i := 115) rfl (by decide +kernel), Or.inl rfl, fun _ => ⟨rfl, rfl⟩⟩⟩
theorem d_Tr_init_39 : decode prog_12_method_1_code 39 = .ok (.aload_n 0, 1) := zo_42 (zd_b zq_prog_12_method_1_code_1 7 rfl rfl rfl)
theorem d_Tr_init_40 : decode prog_12_method_1_code 40 = .ok (.bipush 108, 2) := zo_16 (d := 108) (zd_b zq_prog_12_method_1_code_1 8 rfl rfl rfl) (zd_b zq_prog_12_method_1_code_1 9 rfl rfl rfl) (by decide +kernel)
theorem d_Tr_init_42 : decode prog_12_method_1_code 42 = .ok (.newarray .boolean, 2) := by decide +kernel
theorem d_Tr_init_44 : decode prog_12_method_1_code 44 = .ok (.putfield 30, 3) := zo_181 (d := 0) (e := 30) (zd_b zq_prog_12_method_1_code_1 12 rfl rfl rfl) (zd_b zq_prog_12_method_1_code_1 13 rfl rfl rfl) (zd_b zq_prog_12_method_1_code_1 14 rfl rfl rfl)
theorem fp_Tr_30 : z_fp "Ironpour$Trial" 30 10 4 true (t_Tr 4) := ⟨R_Tr, "Ironpour$Trial", F_Tr, 8, t_Tr, rfl, u_Tr, by decide, t_Tr_ok, n_Tr, rfl, rfl, Or.inl ⟨z_mj1 (i := 117) rfl (by decide +kernel), Or.inl rfl, fun _ => ⟨rfl, rfl⟩⟩⟩
theorem d_Tr_init_47 : decode prog_12_method_1_code 47 = .ok (.aload_n 0, 1) := zo_42 (zd_b zq_prog_12_method_1_code_1 15 rfl rfl rfl)
theorem d_Tr_init_48 : decode prog_12_method_1_code 48 = .ok (.bipush 108, 2) := zo_16 (d := 108) (zd_b zq_prog_12_method_1_code_1 16 rfl rfl rfl) (zd_b zq_prog_12_method_1_code_1 17 rfl rfl rfl) (by decide +kernel)
theorem d_Tr_init_50 : decode prog_12_method_1_code 50 = .ok (.newarray .int, 2) := by decide +kernel
theorem d_Tr_init_52 : decode prog_12_method_1_code 52 = .ok (.putfield 33, 3) := zo_181 (d := 0) (e := 33) (zd_b zq_prog_12_method_1_code_1 20 rfl rfl rfl) (zd_b zq_prog_12_method_1_code_1 21 rfl rfl rfl) (zd_b zq_prog_12_method_1_code_1 22 rfl rfl rfl)
theorem fp_Tr_33 : z_fp "Ironpour$Trial" 33 10 5 true (t_Tr 5) := ⟨R_Tr, "Ironpour$Trial", F_Tr, 8, t_Tr, rfl, u_Tr, by decide, t_Tr_ok, n_Tr, rfl, rfl, Or.inl ⟨z_mj1 (i := 118) rfl (by decide +kernel), Or.inl rfl, fun _ => ⟨rfl, rfl⟩⟩⟩
theorem d_Tr_init_55 : decode prog_12_method_1_code 55 = .ok (.iconst 0, 1) := zo_3 (zd_b zq_prog_12_method_1_code_1 23 rfl rfl rfl)
theorem d_Tr_init_56 : decode prog_12_method_1_code 56 = .ok (.istore_n 1, 1) := zo_60 (zd_b zq_prog_12_method_1_code_1 24 rfl rfl rfl)
set_option maxHeartbeats 4000000 in
set_option maxRecDepth 100000 in
theorem L_Tr_init_57 (g : zG) (a : Nat) (w0 : zW) (n : Nat) (a1 a2 az az1 az2 az3 az4 az5 az6 a4 a5 a6 : Nat) : ∀ (d i : Nat), i ≤ 108 → 108 < i + d → DV g M_Tr_init (fun o cs1 => ∃ a1 a2 az az1 az2 az3 az4 az5 az6 a4 a5 a6, o = .inl none ∧ cs1 = [(a, .inr (10, [.ref a1, .ref a2, .ref az, .ref a4, .ref a5, .ref a6, .int 0, .int 0])), (a1, .inl (1, 108, .inl (fa_fill (fun _ => 46) (fun _ => 0) 108))), (a2, .inl (0, 108, .inl (fun _ => 0))), (az, .inr (2, [.ref az1, .ref az2, .ref az3, .ref az4, .ref az5, .ref az6, .int 0])), (az1, .inl (0, 108, .inl (fun _ => 0))), (az2, .inl (0, 108, .inl (fun _ => 0))), (az3, .inl (0, 108, .inl (fun _ => 0))), (az4, .inl (0, 108, .inl (fun _ => 0))), (az5, .inl (0, 108, .inl (fun _ => 0))), (az6, .inl (0, 108, .inl (fun _ => 0))), (a4, .inl (2, 108, .inl (fun _ => 0))), (a5, .inl (2, 108, .inl (fun _ => 0))), (a6, .inl (0, 108, .inl (fun _ => 0)))]) w0 n 57 [(1, .int (nI i)), (0, .ref a)] [] [(a, .inr (10, [.ref a1, .ref a2, .ref az, .ref a4, .ref a5, .ref a6, .int 0, .int 0])), (a1, .inl (1, 108, .inl (fa_fill (fun _ => 46) (fun _ => 0) i))), (a2, .inl (0, 108, .inl (fun _ => 0))), (az, .inr (2, [.ref az1, .ref az2, .ref az3, .ref az4, .ref az5, .ref az6, .int 0])), (az1, .inl (0, 108, .inl (fun _ => 0))), (az2, .inl (0, 108, .inl (fun _ => 0))), (az3, .inl (0, 108, .inl (fun _ => 0))), (az4, .inl (0, 108, .inl (fun _ => 0))), (az5, .inl (0, 108, .inl (fun _ => 0))), (az6, .inl (0, 108, .inl (fun _ => 0))), (a4, .inl (2, 108, .inl (fun _ => 0))), (a5, .inl (2, 108, .inl (fun _ => 0))), (a6, .inl (0, 108, .inl (fun _ => 0)))] 0 0 := by
  intro d
  induction d with
  | zero => intro i h1 h2 ; exact absurd h2 (by omega)
  | succ d ih =>
    intro i h1 h2 
    refine r_iload_n d_Tr_init_57 rfl 0 rfl ?_
    refine r_bipush d_Tr_init_58 (v := 108) (by decide) ?_
    refine r_icmp_ge (tgt := 77) d_Tr_init_60 (by decide) (fun c_60 => ?_) (fun c_60 => ?_)
    · have hn := z_le (a := 108) (by omega) (by decide) c_60
      obtain rfl : i = 108 := by omega
      refine r_vret d_Tr_init_77 rfl ?_
      exact ⟨a1, a2, az, az1, az2, az3, az4, az5, az6, a4, a5, a6, rfl, rfl⟩
    · have hn := z_nle (a := 108) (by omega) (by decide) c_60
      refine r_aload_n d_Tr_init_63 rfl 1 rfl ?_
      refine r_get fs_Tr_9 d_Tr_init_64 (q0 := 0) rfl rfl ?_
      refine r_iload_n d_Tr_init_67 rfl 0 rfl ?_
      refine r_bipush d_Tr_init_68 (v := 46) (by decide) ?_
      refine r_cast d_Tr_init_70 (q0 := 1) rfl (vp_in_nI (by omega) (by omega)) (f' := fa_fill (fun _ => 46) (fun _ => 0) (i + 1)) (by rw [nI_clamp (by omega)]; exact fa_fill_succ (fun _ => 46) (fun _ => 0) i) (cs' := [(a, .inr (10, [.ref a1, .ref a2, .ref az, .ref a4, .ref a5, .ref a6, .int 0, .int 0])), (a1, .inl (1, 108, .inl (fa_fill (fun _ => 46) (fun _ => 0) (i + 1)))), (a2, .inl (0, 108, .inl (fun _ => 0))), (az, .inr (2, [.ref az1, .ref az2, .ref az3, .ref az4, .ref az5, .ref az6, .int 0])), (az1, .inl (0, 108, .inl (fun _ => 0))), (az2, .inl (0, 108, .inl (fun _ => 0))), (az3, .inl (0, 108, .inl (fun _ => 0))), (az4, .inl (0, 108, .inl (fun _ => 0))), (az5, .inl (0, 108, .inl (fun _ => 0))), (az6, .inl (0, 108, .inl (fun _ => 0))), (a4, .inl (2, 108, .inl (fun _ => 0))), (a5, .inl (2, 108, .inl (fun _ => 0))), (a6, .inl (0, 108, .inl (fun _ => 0)))]) rfl ?_
      refine r_iinc (lv' := [(1, .int (nI (i + 1))), (0, .ref a)]) (v := nI (i + 1)) d_Tr_init_71 (j := 0) rfl (nI_add _ _) (by decide) rfl ?_
      refine r_goto (tgt := 57) d_Tr_init_74 (by decide) ?_
      refine r_lvE (lv2 := [(1, .int (nI (i + 1))), (0, .ref a)]) (rfl) ?_
      refine r_cs (cs2 := [(a, .inr (10, [.ref a1, .ref a2, .ref az, .ref a4, .ref a5, .ref a6, .int 0, .int 0])), (a1, .inl (1, 108, .inl (fa_fill (fun _ => 46) (fun _ => 0) (i + 1)))), (a2, .inl (0, 108, .inl (fun _ => 0))), (az, .inr (2, [.ref az1, .ref az2, .ref az3, .ref az4, .ref az5, .ref az6, .int 0])), (az1, .inl (0, 108, .inl (fun _ => 0))), (az2, .inl (0, 108, .inl (fun _ => 0))), (az3, .inl (0, 108, .inl (fun _ => 0))), (az4, .inl (0, 108, .inl (fun _ => 0))), (az5, .inl (0, 108, .inl (fun _ => 0))), (az6, .inl (0, 108, .inl (fun _ => 0))), (a4, .inl (2, 108, .inl (fun _ => 0))), (a5, .inl (2, 108, .inl (fun _ => 0))), (a6, .inl (0, 108, .inl (fun _ => 0)))]) (rfl) ?_
      exact ih (i + 1) (by omega) (by omega)
set_option maxHeartbeats 4000000 in
set_option maxRecDepth 100000 in
theorem C_Tr_init (g : zG) (a : Nat) : CT g M_Tr_init [.ref a] [(a, .inr (10, [.null, .null, .null, .null, .null, .null, .int 0, .int 0]))] (fun o cs1 => ∃ a1 a2 az az1 az2 az3 az4 az5 az6 a4 a5 a6, o = .inl none ∧ cs1 = [(a, .inr (10, [.ref a1, .ref a2, .ref az, .ref a4, .ref a5, .ref a6, .int 0, .int 0])), (a1, .inl (1, 108, .inl (fa_fill (fun _ => 46) (fun _ => 0) 108))), (a2, .inl (0, 108, .inl (fun _ => 0))), (az, .inr (2, [.ref az1, .ref az2, .ref az3, .ref az4, .ref az5, .ref az6, .int 0])), (az1, .inl (0, 108, .inl (fun _ => 0))), (az2, .inl (0, 108, .inl (fun _ => 0))), (az3, .inl (0, 108, .inl (fun _ => 0))), (az4, .inl (0, 108, .inl (fun _ => 0))), (az5, .inl (0, 108, .inl (fun _ => 0))), (az6, .inl (0, 108, .inl (fun _ => 0))), (a4, .inl (2, 108, .inl (fun _ => 0))), (a5, .inl (2, 108, .inl (fun _ => 0))), (a6, .inl (0, 108, .inl (fun _ => 0)))]) 12 1200 := by
  refine z_of (by decide) rfl (Nat.le_of_ble_eq_true rfl) (fun w0 => ?_)
  refine r_lvE (lv2 := [(0, .ref a)]) rfl ?_
  refine r_aload_n d_Tr_init_0 rfl 0 rfl ?_
  refine r_objInit ln_Tr_3 w_oi1 w_oi2 d_Tr_init_1 (by decide) (by decide) (Nat.le_of_ble_eq_true rfl) ?_
  refine r_aload_n d_Tr_init_4 rfl 0 rfl ?_
  refine r_bipush d_Tr_init_5 (v := 108) (by decide) ?_
  refine r_newa_char (N := 108) ac_char d_Tr_init_7 (by decide) (by decide) (by decide) (by omega) (by omega) (fun a1 => ?_)
  refine r_cs (cs2 := [(a, .inr (10, [.null, .null, .null, .null, .null, .null, .int 0, .int 0])), (a1, .inl (1, 108, .inl (fun _ => 0)))]) rfl ?_
  refine r_put fp_Tr_9 d_Tr_init_9 (fun _ => rfl) rfl rfl (q0 := 0) rfl (Nat.le_of_ble_eq_true rfl) (cs' := [(a, .inr (10, [.ref a1, .null, .null, .null, .null, .null, .int 0, .int 0])), (a1, .inl (1, 108, .inl (fun _ => 0)))]) rfl ?_
  refine r_aload_n d_Tr_init_12 rfl 0 rfl ?_
  refine r_bipush d_Tr_init_13 (v := 108) (by decide) ?_
  refine r_newa_int (N := 108) ac_int d_Tr_init_15 (by decide) (by decide) (by decide) (by omega) (by omega) (fun a2 => ?_)
  refine r_cs (cs2 := [(a, .inr (10, [.ref a1, .null, .null, .null, .null, .null, .int 0, .int 0])), (a1, .inl (1, 108, .inl (fun _ => 0))), (a2, .inl (0, 108, .inl (fun _ => 0)))]) rfl ?_
  refine r_put fp_Tr_15 d_Tr_init_17 (fun _ => rfl) rfl rfl (q0 := 0) rfl (Nat.le_of_ble_eq_true rfl) (cs' := [(a, .inr (10, [.ref a1, .ref a2, .null, .null, .null, .null, .int 0, .int 0])), (a1, .inl (1, 108, .inl (fun _ => 0))), (a2, .inl (0, 108, .inl (fun _ => 0)))]) rfl ?_
  refine r_aload_n d_Tr_init_20 rfl 0 rfl ?_
  refine r_new nc_Tr_19 d_Tr_init_21 (by omega) (by omega) (fun az => ?_)
  refine r_cs (cs2 := [(a, .inr (10, [.ref a1, .ref a2, .null, .null, .null, .null, .int 0, .int 0])), (a1, .inl (1, 108, .inl (fun _ => 0))), (a2, .inl (0, 108, .inl (fun _ => 0))), (az, .inr (2, [.null, .null, .null, .null, .null, .null, .int 0]))]) rfl ?_
  refine r_dup d_Tr_init_24 rfl ?_
  refine r_callIN (As := []) (rest := [.ref az, .ref a]) (csC := [(az, .inr (2, [.null, .null, .null, .null, .null, .null, .int 0]))]) (is := [3]) rfl rfl ln_Tr_21 w_im_Fz_init ok_Tr_init_Fz_init d_Tr_init_25 (C_Fz_init g az) rfl rfl (Nat.le_of_ble_eq_true rfl) rfl (by decide) (by omega) (by omega) (fun E cs1 hx => ?_) (fun v cs1 hx => ?_)
  · obtain ⟨az1, az2, az3, az4, az5, az6, e1, -⟩ := hx
    cases e1
  · obtain ⟨az1, az2, az3, az4, az5, az6, e1, rfl⟩ := hx
    cases e1
    refine ⟨rfl, ?_⟩
    refine r_st (st2 := [.ref az, .ref a]) rfl ?_
    refine r_cs (cs2 := [(a, .inr (10, [.ref a1, .ref a2, .null, .null, .null, .null, .int 0, .int 0])), (a1, .inl (1, 108, .inl (fun _ => 0))), (a2, .inl (0, 108, .inl (fun _ => 0))), (az, .inr (2, [.ref az1, .ref az2, .ref az3, .ref az4, .ref az5, .ref az6, .int 0])), (az1, .inl (0, 108, .inl (fun _ => 0))), (az2, .inl (0, 108, .inl (fun _ => 0))), (az3, .inl (0, 108, .inl (fun _ => 0))), (az4, .inl (0, 108, .inl (fun _ => 0))), (az5, .inl (0, 108, .inl (fun _ => 0))), (az6, .inl (0, 108, .inl (fun _ => 0)))]) rfl ?_
    refine r_put fp_Tr_22 d_Tr_init_28 (fun _ => rfl) rfl rfl (q0 := 0) rfl (Nat.le_of_ble_eq_true rfl) (cs' := [(a, .inr (10, [.ref a1, .ref a2, .ref az, .null, .null, .null, .int 0, .int 0])), (a1, .inl (1, 108, .inl (fun _ => 0))), (a2, .inl (0, 108, .inl (fun _ => 0))), (az, .inr (2, [.ref az1, .ref az2, .ref az3, .ref az4, .ref az5, .ref az6, .int 0])), (az1, .inl (0, 108, .inl (fun _ => 0))), (az2, .inl (0, 108, .inl (fun _ => 0))), (az3, .inl (0, 108, .inl (fun _ => 0))), (az4, .inl (0, 108, .inl (fun _ => 0))), (az5, .inl (0, 108, .inl (fun _ => 0))), (az6, .inl (0, 108, .inl (fun _ => 0)))]) rfl ?_
    refine r_aload_n d_Tr_init_31 rfl 0 rfl ?_
    refine r_bipush d_Tr_init_32 (v := 108) (by decide) ?_
    refine r_newa_bool (N := 108) ac_bool d_Tr_init_34 (by decide) (by decide) (by decide) (by omega) (by omega) (fun a4 => ?_)
    refine r_cs (cs2 := [(a, .inr (10, [.ref a1, .ref a2, .ref az, .null, .null, .null, .int 0, .int 0])), (a1, .inl (1, 108, .inl (fun _ => 0))), (a2, .inl (0, 108, .inl (fun _ => 0))), (az, .inr (2, [.ref az1, .ref az2, .ref az3, .ref az4, .ref az5, .ref az6, .int 0])), (az1, .inl (0, 108, .inl (fun _ => 0))), (az2, .inl (0, 108, .inl (fun _ => 0))), (az3, .inl (0, 108, .inl (fun _ => 0))), (az4, .inl (0, 108, .inl (fun _ => 0))), (az5, .inl (0, 108, .inl (fun _ => 0))), (az6, .inl (0, 108, .inl (fun _ => 0))), (a4, .inl (2, 108, .inl (fun _ => 0)))]) rfl ?_
    refine r_put fp_Tr_26 d_Tr_init_36 (fun _ => rfl) rfl rfl (q0 := 0) rfl (Nat.le_of_ble_eq_true rfl) (cs' := [(a, .inr (10, [.ref a1, .ref a2, .ref az, .ref a4, .null, .null, .int 0, .int 0])), (a1, .inl (1, 108, .inl (fun _ => 0))), (a2, .inl (0, 108, .inl (fun _ => 0))), (az, .inr (2, [.ref az1, .ref az2, .ref az3, .ref az4, .ref az5, .ref az6, .int 0])), (az1, .inl (0, 108, .inl (fun _ => 0))), (az2, .inl (0, 108, .inl (fun _ => 0))), (az3, .inl (0, 108, .inl (fun _ => 0))), (az4, .inl (0, 108, .inl (fun _ => 0))), (az5, .inl (0, 108, .inl (fun _ => 0))), (az6, .inl (0, 108, .inl (fun _ => 0))), (a4, .inl (2, 108, .inl (fun _ => 0)))]) rfl ?_
    refine r_aload_n d_Tr_init_39 rfl 0 rfl ?_
    refine r_bipush d_Tr_init_40 (v := 108) (by decide) ?_
    refine r_newa_bool (N := 108) ac_bool d_Tr_init_42 (by decide) (by decide) (by decide) (by omega) (by omega) (fun a5 => ?_)
    refine r_cs (cs2 := [(a, .inr (10, [.ref a1, .ref a2, .ref az, .ref a4, .null, .null, .int 0, .int 0])), (a1, .inl (1, 108, .inl (fun _ => 0))), (a2, .inl (0, 108, .inl (fun _ => 0))), (az, .inr (2, [.ref az1, .ref az2, .ref az3, .ref az4, .ref az5, .ref az6, .int 0])), (az1, .inl (0, 108, .inl (fun _ => 0))), (az2, .inl (0, 108, .inl (fun _ => 0))), (az3, .inl (0, 108, .inl (fun _ => 0))), (az4, .inl (0, 108, .inl (fun _ => 0))), (az5, .inl (0, 108, .inl (fun _ => 0))), (az6, .inl (0, 108, .inl (fun _ => 0))), (a4, .inl (2, 108, .inl (fun _ => 0))), (a5, .inl (2, 108, .inl (fun _ => 0)))]) rfl ?_
    refine r_put fp_Tr_30 d_Tr_init_44 (fun _ => rfl) rfl rfl (q0 := 0) rfl (Nat.le_of_ble_eq_true rfl) (cs' := [(a, .inr (10, [.ref a1, .ref a2, .ref az, .ref a4, .ref a5, .null, .int 0, .int 0])), (a1, .inl (1, 108, .inl (fun _ => 0))), (a2, .inl (0, 108, .inl (fun _ => 0))), (az, .inr (2, [.ref az1, .ref az2, .ref az3, .ref az4, .ref az5, .ref az6, .int 0])), (az1, .inl (0, 108, .inl (fun _ => 0))), (az2, .inl (0, 108, .inl (fun _ => 0))), (az3, .inl (0, 108, .inl (fun _ => 0))), (az4, .inl (0, 108, .inl (fun _ => 0))), (az5, .inl (0, 108, .inl (fun _ => 0))), (az6, .inl (0, 108, .inl (fun _ => 0))), (a4, .inl (2, 108, .inl (fun _ => 0))), (a5, .inl (2, 108, .inl (fun _ => 0)))]) rfl ?_
    refine r_aload_n d_Tr_init_47 rfl 0 rfl ?_
    refine r_bipush d_Tr_init_48 (v := 108) (by decide) ?_
    refine r_newa_int (N := 108) ac_int d_Tr_init_50 (by decide) (by decide) (by decide) (by omega) (by omega) (fun a6 => ?_)
    refine r_cs (cs2 := [(a, .inr (10, [.ref a1, .ref a2, .ref az, .ref a4, .ref a5, .null, .int 0, .int 0])), (a1, .inl (1, 108, .inl (fun _ => 0))), (a2, .inl (0, 108, .inl (fun _ => 0))), (az, .inr (2, [.ref az1, .ref az2, .ref az3, .ref az4, .ref az5, .ref az6, .int 0])), (az1, .inl (0, 108, .inl (fun _ => 0))), (az2, .inl (0, 108, .inl (fun _ => 0))), (az3, .inl (0, 108, .inl (fun _ => 0))), (az4, .inl (0, 108, .inl (fun _ => 0))), (az5, .inl (0, 108, .inl (fun _ => 0))), (az6, .inl (0, 108, .inl (fun _ => 0))), (a4, .inl (2, 108, .inl (fun _ => 0))), (a5, .inl (2, 108, .inl (fun _ => 0))), (a6, .inl (0, 108, .inl (fun _ => 0)))]) rfl ?_
    refine r_put fp_Tr_33 d_Tr_init_52 (fun _ => rfl) rfl rfl (q0 := 0) rfl (Nat.le_of_ble_eq_true rfl) (cs' := [(a, .inr (10, [.ref a1, .ref a2, .ref az, .ref a4, .ref a5, .ref a6, .int 0, .int 0])), (a1, .inl (1, 108, .inl (fun _ => 0))), (a2, .inl (0, 108, .inl (fun _ => 0))), (az, .inr (2, [.ref az1, .ref az2, .ref az3, .ref az4, .ref az5, .ref az6, .int 0])), (az1, .inl (0, 108, .inl (fun _ => 0))), (az2, .inl (0, 108, .inl (fun _ => 0))), (az3, .inl (0, 108, .inl (fun _ => 0))), (az4, .inl (0, 108, .inl (fun _ => 0))), (az5, .inl (0, 108, .inl (fun _ => 0))), (az6, .inl (0, 108, .inl (fun _ => 0))), (a4, .inl (2, 108, .inl (fun _ => 0))), (a5, .inl (2, 108, .inl (fun _ => 0))), (a6, .inl (0, 108, .inl (fun _ => 0)))]) rfl ?_
    refine r_iconst d_Tr_init_55 (v := 0) (by decide) ?_
    refine r_istore_n (lv' := [(1, .int 0), (0, .ref a)]) d_Tr_init_56 rfl (by decide) rfl ?_
    refine r_bud (kc2 := 0) (ks2 := 0) (Nat.zero_le _) (Nat.zero_le _) ?_
    refine r_lvE (lv2 := [(1, .int (nI 0)), (0, .ref a)]) (rfl) ?_
    refine r_cs (cs2 := [(a, .inr (10, [.ref a1, .ref a2, .ref az, .ref a4, .ref a5, .ref a6, .int 0, .int 0])), (a1, .inl (1, 108, .inl (fa_fill (fun _ => 46) (fun _ => 0) 0))), (a2, .inl (0, 108, .inl (fun _ => 0))), (az, .inr (2, [.ref az1, .ref az2, .ref az3, .ref az4, .ref az5, .ref az6, .int 0])), (az1, .inl (0, 108, .inl (fun _ => 0))), (az2, .inl (0, 108, .inl (fun _ => 0))), (az3, .inl (0, 108, .inl (fun _ => 0))), (az4, .inl (0, 108, .inl (fun _ => 0))), (az5, .inl (0, 108, .inl (fun _ => 0))), (az6, .inl (0, 108, .inl (fun _ => 0))), (a4, .inl (2, 108, .inl (fun _ => 0))), (a5, .inl (2, 108, .inl (fun _ => 0))), (a6, .inl (0, 108, .inl (fun _ => 0)))]) (rfl) ?_
    exact L_Tr_init_57 g a w0 _ a1 a2 az az1 az2 az3 az4 az5 az6 a4 a5 a6 (108 + 1) 0 (Nat.zero_le _) (by omega)
abbrev M_AbC_init : zM := (⟨"java/util/AbstractCollection", "<init>", "()V"⟩, prog_38_method_1_code, 1, (Option.none : Option FieldType), 1, 20, [])
theorem d_AbC_init_0 : decode prog_38_method_1_code 0 = .ok (.aload_n 0, 1) := zo_42 (zd_b zq_prog_38_method_1_code_0 0 rfl rfl rfl)
theorem d_AbC_init_1 : decode prog_38_method_1_code 1 = .ok (.invokespecial 1, 3) := zo_183 (d := 0) (e := 1) (zd_b zq_prog_38_method_1_code_0 1 rfl rfl rfl) (zd_b zq_prog_38_method_1_code_0 2 rfl rfl rfl) (zd_b zq_prog_38_method_1_code_0 3 rfl rfl rfl)
theorem ln_AbC_1 : Cond.methodLink "java/util/AbstractCollection" 1 Lib.objectInit ∈ z_gw := z_mj2 (i := 48) rfl (by decide +kernel)
theorem d_AbC_init_4 : decode prog_38_method_1_code 4 = .ok (.return_, 1) := zo_177 (zd_b zq_prog_38_method_1_code_0 4 rfl rfl rfl)
set_option maxHeartbeats 4000000 in
set_option maxRecDepth 100000 in
theorem C_AbC_init (g : zG) (a : Nat) (v0 v1 v2 : Value) : CT g M_AbC_init [.ref a] [(a, .inr (13, [v0, v1, v2]))] (fun o cs1 => o = .inl (none) ∧ cs1 = [(a, .inr (13, [v0, v1, v2]))]) 0 0 := by
  refine z_of (by decide) rfl (Nat.le_of_ble_eq_true rfl) (fun w0 => ?_)
  refine r_lvE (lv2 := [(0, .ref a)]) rfl ?_
  refine r_aload_n d_AbC_init_0 rfl 0 rfl ?_
  refine r_objInit ln_AbC_1 w_oi1 w_oi2 d_AbC_init_1 (by decide) (by decide) (Nat.le_of_ble_eq_true rfl) ?_
  refine r_vret d_AbC_init_4 rfl ?_
  exact ⟨rfl, rfl⟩
abbrev M_AbL_init : zM := (⟨"java/util/AbstractList", "<init>", "()V"⟩, prog_39_method_1_code, 1, (Option.none : Option FieldType), 2, 40, [])
theorem d_AbL_init_0 : decode prog_39_method_1_code 0 = .ok (.aload_n 0, 1) := zo_42 (zd_b zq_prog_39_method_1_code_0 0 rfl rfl rfl)
theorem d_AbL_init_1 : decode prog_39_method_1_code 1 = .ok (.invokespecial 1, 3) := zo_183 (d := 0) (e := 1) (zd_b zq_prog_39_method_1_code_0 1 rfl rfl rfl) (zd_b zq_prog_39_method_1_code_0 2 rfl rfl rfl) (zd_b zq_prog_39_method_1_code_0 3 rfl rfl rfl)
theorem ok_AbL_init_AbC_init : z_ok M_AbL_init M_AbC_init 0 := ⟨z_mj2 (i := 47) rfl (by decide +kernel), rfl, ⟨by decide +kernel, by decide +kernel, by decide +kernel⟩, ⟨by decide, by decide⟩, z_mj1 (i := 11) rfl (by decide +kernel), rfl⟩
theorem ln_AbL_1 : Cond.methodLink "java/util/AbstractList" 1 M_AbC_init.1 ∈ z_gw := z_mj2 (i := 45) rfl (by decide +kernel)
theorem w_im_AbC_init : Cond.instanceMethod M_AbC_init.1 ∈ z_gw := z_mj2 (i := 46) rfl (by decide +kernel)
theorem d_AbL_init_4 : decode prog_39_method_1_code 4 = .ok (.aload_n 0, 1) := zo_42 (zd_b zq_prog_39_method_1_code_0 4 rfl rfl rfl)
theorem d_AbL_init_5 : decode prog_39_method_1_code 5 = .ok (.iconst 0, 1) := zo_3 (zd_b zq_prog_39_method_1_code_0 5 rfl rfl rfl)
theorem d_AbL_init_6 : decode prog_39_method_1_code 6 = .ok (.putfield 7, 3) := zo_181 (d := 0) (e := 7) (zd_b zq_prog_39_method_1_code_0 6 rfl rfl rfl) (zd_b zq_prog_39_method_1_code_0 7 rfl rfl rfl) (zd_b zq_prog_39_method_1_code_0 8 rfl rfl rfl)
theorem u_AL : ∀ x ∈ u_ws R_AL F_AL 3, x ∈ z_gw := fun x hx => List.mem_filter.mpr ⟨(z_au [(2, 60), (2, 56), (2, 58)] (by decide +kernel) : ∀ x ∈ u_ws R_AL F_AL 3, x ∈ lw_tbl) x hx, (show ∀ x ∈ u_ws R_AL F_AL 3, goodWord x = true by decide +kernel) x hx⟩
theorem fp_AbL_7 : z_fp "java/util/AbstractList" 7 13 0 false .int := ⟨R_AL, "java/util/AbstractList", F_AL, 3, t_AL, rfl, u_AL, by decide, t_AL_ok, n_AL, rfl, rfl, Or.inl ⟨z_mj2 (i := 53) rfl (by decide +kernel), Or.inl rfl, fun h => nomatch h⟩⟩
theorem d_AbL_init_9 : decode prog_39_method_1_code 9 = .ok (.return_, 1) := zo_177 (zd_b zq_prog_39_method_1_code_0 9 rfl rfl rfl)
set_option maxHeartbeats 4000000 in
set_option maxRecDepth 100000 in
theorem C_AbL_init (g : zG) (a : Nat) (v0 v1 v2 : Value) : CT g M_AbL_init [.ref a] [(a, .inr (13, [v0, v1, v2]))] (fun o cs1 => o = .inl (none) ∧ cs1 = [(a, .inr (13, [.int 0, v1, v2]))]) 0 0 := by
  refine z_of (by decide) rfl (Nat.le_of_ble_eq_true rfl) (fun w0 => ?_)
  refine r_lvE (lv2 := [(0, .ref a)]) rfl ?_
  refine r_aload_n d_AbL_init_0 rfl 0 rfl ?_
  refine r_callI (As := []) (rest := []) (csC := [(a, .inr (13, [v0, v1, v2]))]) (is := [0]) rfl rfl ln_AbL_1 w_im_AbC_init ok_AbL_init_AbC_init d_AbL_init_1 (C_AbC_init g a v0 v1 v2) rfl rfl (Nat.le_of_ble_eq_true rfl) rfl (by decide) (by omega) (by omega) (fun E cs1 hx => ?_) (fun v cs1 hx => ?_)
  · exact absurd hx.1 (by simp)
  · obtain ⟨e1, rfl⟩ := hx
    cases e1
    refine ⟨rfl, ?_⟩
    refine r_st (st2 := []) rfl ?_
    refine r_cs (cs2 := [(a, .inr (13, [v0, v1, v2]))]) rfl ?_
    refine r_aload_n d_AbL_init_4 rfl 0 rfl ?_
    refine r_iconst d_AbL_init_5 (v := 0) (by decide) ?_
    refine r_put fp_AbL_7 d_AbL_init_6 (fun h => nomatch h) rfl rfl (q0 := 0) rfl (Nat.le_of_ble_eq_true rfl) (cs' := [(a, .inr (13, [.int 0, v1, v2]))]) rfl ?_
    refine r_vret d_AbL_init_9 rfl ?_
    exact ⟨rfl, rfl⟩
abbrev M_AL_init : zM := (⟨"java/util/ArrayList", "<init>", "()V"⟩, prog_40_method_2_code, 1, (Option.none : Option FieldType), 3, 60, [])
theorem d_AL_init_0 : decode prog_40_method_2_code 0 = .ok (.aload_n 0, 1) := zo_42 (zd_b zq_prog_40_method_2_code_0 0 rfl rfl rfl)
theorem d_AL_init_1 : decode prog_40_method_2_code 1 = .ok (.invokespecial 1, 3) := zo_183 (d := 0) (e := 1) (zd_b zq_prog_40_method_2_code_0 1 rfl rfl rfl) (zd_b zq_prog_40_method_2_code_0 2 rfl rfl rfl) (zd_b zq_prog_40_method_2_code_0 3 rfl rfl rfl)
theorem ok_AL_init_AbL_init : z_ok M_AL_init M_AbL_init 0 := ⟨z_mj2 (i := 44) rfl (by decide +kernel), rfl, ⟨by decide +kernel, by decide +kernel, by decide +kernel⟩, ⟨by decide, by decide⟩, z_mj1 (i := 12) rfl (by decide +kernel), rfl⟩
theorem ln_AL_1 : Cond.methodLink "java/util/ArrayList" 1 M_AbL_init.1 ∈ z_gw := z_mj2 (i := 42) rfl (by decide +kernel)
theorem w_im_AbL_init : Cond.instanceMethod M_AbL_init.1 ∈ z_gw := z_mj2 (i := 43) rfl (by decide +kernel)
theorem d_AL_init_4 : decode prog_40_method_2_code 4 = .ok (.aload_n 0, 1) := zo_42 (zd_b zq_prog_40_method_2_code_0 4 rfl rfl rfl)
theorem d_AL_init_5 : decode prog_40_method_2_code 5 = .ok (.getstatic 39, 3) := zo_178 (d := 0) (e := 39) (zd_b zq_prog_40_method_2_code_0 5 rfl rfl rfl) (zd_b zq_prog_40_method_2_code_0 6 rfl rfl rfl) (zd_b zq_prog_40_method_2_code_0 7 rfl rfl rfl)
theorem ls_AL_39 : Cond.fieldLink "java/util/ArrayList" 39 "java/util/ArrayList" "DEFAULTCAPACITY_EMPTY_ELEMENTDATA" "[Ljava/lang/Object;" ∈ z_gw := z_mj2 (i := 49) rfl (by decide +kernel)
theorem d_AL_init_8 : decode prog_40_method_2_code 8 = .ok (.putfield 9, 3) := zo_181 (d := 0) (e := 9) (zd_b zq_prog_40_method_2_code_0 8 rfl rfl rfl) (zd_b zq_prog_40_method_2_code_0 9 rfl rfl rfl) (zd_b zq_prog_40_method_2_code_0 10 rfl rfl rfl)
theorem fp_AL_9 : z_fp "java/util/ArrayList" 9 13 1 false (t_AL 1) := ⟨R_AL, "java/util/ArrayList", F_AL, 3, t_AL, rfl, u_AL, by decide, t_AL_ok, n_AL, rfl, rfl, Or.inl ⟨z_mj2 (i := 51) rfl (by decide +kernel), Or.inl rfl, fun h => nomatch h⟩⟩
theorem d_AL_init_11 : decode prog_40_method_2_code 11 = .ok (.return_, 1) := zo_177 (zd_b zq_prog_40_method_2_code_0 11 rfl rfl rfl)
set_option maxHeartbeats 4000000 in
set_option maxRecDepth 100000 in
theorem C_AL_init (g : zG) (a : Nat) : CT g M_AL_init [.ref a] [(a, .inr (13, [.int 0, .null, .int 0]))] (fun o cs1 => o = .inl none ∧ cs1 = [(a, .inr (13, [.int 0, .ref (g.2.2 4), .int 0]))]) 0 0 := by
  refine z_of (by decide) rfl (Nat.le_of_ble_eq_true rfl) (fun w0 => ?_)
  refine r_lvE (lv2 := [(0, .ref a)]) rfl ?_
  refine r_aload_n d_AL_init_0 rfl 0 rfl ?_
  refine r_callI (As := []) (rest := []) (csC := [(a, .inr (13, [.int 0, .null, .int 0]))]) (is := [0]) rfl rfl ln_AL_1 w_im_AbL_init ok_AL_init_AbL_init d_AL_init_1 (C_AbL_init g a (.int 0) .null (.int 0)) rfl rfl (Nat.le_of_ble_eq_true rfl) rfl (by decide) (by omega) (by omega) (fun E cs1 hx => ?_) (fun v cs1 hx => ?_)
  · exact absurd hx.1 (by simp)
  · obtain ⟨e1, rfl⟩ := hx
    cases e1
    refine ⟨rfl, ?_⟩
    refine r_st (st2 := []) rfl ?_
    refine r_cs (cs2 := [(a, .inr (13, [.int 0, .null, .int 0]))]) rfl ?_
    refine r_aload_n d_AL_init_4 rfl 0 rfl ?_
    refine r_getsD ls_AL_39 d_AL_init_5 ?_
    refine r_put fp_AL_9 d_AL_init_8 (fun h => nomatch h) rfl rfl (q0 := 0) rfl (Nat.le_of_ble_eq_true rfl) (cs' := [(a, .inr (13, [.int 0, .ref (g.2.2 4), .int 0]))]) rfl ?_
    refine r_vret d_AL_init_11 rfl ?_
    exact ⟨rfl, rfl⟩
abbrev M_AL_size : zM := (⟨"java/util/ArrayList", "size", "()I"⟩, prog_40_method_8_code, 1, (Option.some FieldType.int), 1, 20, [])
theorem d_AL_size_0 : decode prog_40_method_8_code 0 = .ok (.aload_n 0, 1) := zo_42 (zd_b zq_prog_40_method_8_code_0 0 rfl rfl rfl)
theorem d_AL_size_1 : decode prog_40_method_8_code 1 = .ok (.getfield 48, 3) := zo_180 (d := 0) (e := 48) (zd_b zq_prog_40_method_8_code_0 1 rfl rfl rfl) (zd_b zq_prog_40_method_8_code_0 2 rfl rfl rfl) (zd_b zq_prog_40_method_8_code_0 3 rfl rfl rfl)
theorem fs_AL_48 : z_fs "java/util/ArrayList" 48 13 2 := ⟨R_AL, "java/util/ArrayList", F_AL, 3, rfl, u_AL, by decide, Or.inl ⟨z_mj2 (i := 52) rfl (by decide +kernel), Or.inl rfl⟩⟩
theorem d_AL_size_4 : decode prog_40_method_8_code 4 = .ok (.ireturn, 1) := zo_172 (zd_b zq_prog_40_method_8_code_0 4 rfl rfl rfl)
set_option maxHeartbeats 4000000 in
set_option maxRecDepth 100000 in
theorem C_AL_size (g : zG) (a d : Nat) (mod sz : Int32) : CT g M_AL_size [.ref a] [(a, .inr (13, [.int mod, .ref d, .int sz]))] (fun o cs1 => o = .inl (some (.int sz)) ∧ cs1 = [(a, .inr (13, [.int mod, .ref d, .int sz]))]) 0 0 := by
  refine z_of (by decide) rfl (Nat.le_of_ble_eq_true rfl) (fun w0 => ?_)
  refine r_lvE (lv2 := [(0, .ref a)]) rfl ?_
  refine r_aload_n d_AL_size_0 rfl 0 rfl ?_
  refine r_get fs_AL_48 d_AL_size_1 (q0 := 0) rfl rfl ?_
  refine r_iret d_AL_size_4 rfl rfl ?_
  exact ⟨rfl, rfl⟩
abbrev M_AL_isEmpty : zM := (⟨"java/util/ArrayList", "isEmpty", "()Z"⟩, prog_40_method_9_code, 1, (Option.some FieldType.boolean), 1, 20, [])
theorem d_AL_isEmpty_0 : decode prog_40_method_9_code 0 = .ok (.aload_n 0, 1) := zo_42 (zd_b zq_prog_40_method_9_code_0 0 rfl rfl rfl)
theorem d_AL_isEmpty_1 : decode prog_40_method_9_code 1 = .ok (.getfield 48, 3) := zo_180 (d := 0) (e := 48) (zd_b zq_prog_40_method_9_code_0 1 rfl rfl rfl) (zd_b zq_prog_40_method_9_code_0 2 rfl rfl rfl) (zd_b zq_prog_40_method_9_code_0 3 rfl rfl rfl)
theorem d_AL_isEmpty_4 : decode prog_40_method_9_code 4 = .ok (.ifCond .ne 7, 3) := zo_154 (d := 0) (e := 7) (zd_b zq_prog_40_method_9_code_0 4 rfl rfl rfl) (zd_b zq_prog_40_method_9_code_0 5 rfl rfl rfl) (zd_b zq_prog_40_method_9_code_0 6 rfl rfl rfl) (by decide +kernel)
theorem d_AL_isEmpty_11 : decode prog_40_method_9_code 11 = .ok (.iconst 0, 1) := zo_3 (zd_b zq_prog_40_method_9_code_0 11 rfl rfl rfl)
theorem d_AL_isEmpty_12 : decode prog_40_method_9_code 12 = .ok (.ireturn, 1) := zo_172 (zd_b zq_prog_40_method_9_code_0 12 rfl rfl rfl)
theorem d_AL_isEmpty_7 : decode prog_40_method_9_code 7 = .ok (.iconst 1, 1) := zo_4 (zd_b zq_prog_40_method_9_code_0 7 rfl rfl rfl)
theorem d_AL_isEmpty_8 : decode prog_40_method_9_code 8 = .ok (.goto 4, 3) := zo_167 (d := 0) (e := 4) (zd_b zq_prog_40_method_9_code_0 8 rfl rfl rfl) (zd_b zq_prog_40_method_9_code_0 9 rfl rfl rfl) (zd_b zq_prog_40_method_9_code_0 10 rfl rfl rfl) (by decide +kernel)
set_option maxHeartbeats 4000000 in
set_option maxRecDepth 100000 in
theorem C_AL_isEmpty (g : zG) (a d : Nat) (mod sz : Int32) : CT g M_AL_isEmpty [.ref a] [(a, .inr (13, [.int mod, .ref d, .int sz]))] (fun o cs1 => o = .inl (some (.int (if sz = 0 then 1 else 0))) ∧ cs1 = [(a, .inr (13, [.int mod, .ref d, .int sz]))]) 0 0 := by
  refine z_of (by decide) rfl (Nat.le_of_ble_eq_true rfl) (fun w0 => ?_)
  refine r_lvE (lv2 := [(0, .ref a)]) rfl ?_
  refine r_aload_n d_AL_isEmpty_0 rfl 0 rfl ?_
  refine r_get fs_AL_48 d_AL_isEmpty_1 (q0 := 0) rfl rfl ?_
  refine r_if_ne (tgt := 11) d_AL_isEmpty_4 (by decide) (fun c_4 => ?_) (fun c_4 => ?_)
  · refine r_iconst d_AL_isEmpty_11 (v := 0) (by decide) ?_
    refine r_iret d_AL_isEmpty_12 rfl rfl ?_
    refine ⟨?_, rfl⟩
    first | rw [if_pos (by assumption)] | rw [if_neg (by assumption)]
  · refine r_iconst d_AL_isEmpty_7 (v := 1) (by decide) ?_
    refine r_goto (tgt := 12) d_AL_isEmpty_8 (by decide) ?_
    refine r_iret d_AL_isEmpty_12 rfl rfl ?_
    refine ⟨?_, rfl⟩
    first | rw [if_pos (by assumption)] | rw [if_neg (by assumption)]
end
section
theorem z_gd {l : List Int32} {k : Nat} {d : Int32} (hk : k < l.length) : l.getD k d = l[k] := by
  rw [List.getD_eq_getElem?_getD, List.getElem?_eq_getElem hk]; rfl
theorem z_gd0 {l : List Int32} {k : Nat} {d : Int32} (hk : l.length ≤ k) : l.getD k d = d := by
  rw [List.getD_eq_getElem?_getD, List.getElem?_eq_none hk]; rfl
theorem z_by5 (i : Nat) (h : i < 6) : 3 ≤ (z_by i).length ∧ (z_by i).length ≤ 7 := by
  rcases (show i = 0 ∨ i = 1 ∨ i = 2 ∨ i = 3 ∨ i = 4 ∨ i = 5 by omega) with rfl | rfl | rfl | rfl | rfl | rfl <;> decide
theorem z_byk (i k : Nat) (h : i < 6) : 0 ≤ ((z_by i).getD k 0).toInt ∧ ((z_by i).getD k 0).toInt < 128 := by
  have key : ∀ i, i < 6 → ∀ b ∈ z_by i, 0 ≤ b.toInt ∧ b.toInt < 128 := by decide
  by_cases hk : k < (z_by i).length
  · rw [z_gd hk]; exact key i h _ (List.getElem_mem hk)
  · rw [z_gd0 (Nat.not_lt.mp hk)]; decide
theorem z_i8 {ch : Int32} (h0 : 0 ≤ ch) (h9 : ch ≤ 255) {b : Int32} (hb : 0 ≤ b.toInt ∧ b.toInt < 128) : b = ch.toInt8.toInt32 ↔ b = ch := by
  have e0 : 0 ≤ ch.toInt := by simpa using Int32.le_iff_toInt_le.mp h0
  have e9 : ch.toInt ≤ 255 := by simpa using Int32.le_iff_toInt_le.mp h9
  rcases Decidable.em (ch.toInt < 128) with q | q
  · rw [fb_byte (by omega) q]
  · constructor
    · intro e
      exfalso
      have hh : ch.toInt8.toInt32.toInt = ch.toInt - 256 := by
        rw [Int8.toInt_toInt32, Int32.toInt_toInt8, Int.bmod_def]
        split <;> omega
      rw [e, hh] at hb
      omega
    · intro e
      exfalso
      rw [e] at hb
      omega
theorem z_ixn (i : Nat) (ch : Int32) (hi : i < 6) (h0 : 0 ≤ ch) (h9 : ch ≤ 255) (h : ∀ k, k < (z_by i).length → ¬ (z_by i).getD k 0 = ch.toInt8.toInt32) : z_ix i ch = -1 := by
  have e : (z_by i).findIdx? (fun b => b == ch) = none := by
    rw [List.findIdx?_eq_none_iff]
    intro b hb
    obtain ⟨k, hk, rfl⟩ := List.getElem_of_mem hb
    have h1 := h k hk
    rw [z_i8 h0 h9 (z_byk i k hi), z_gd hk] at h1
    simpa using h1
  rw [z_ix, e]
theorem z_ixy (i : Nat) (ch : Int32) (hi : i < 6) (h0 : 0 ≤ ch) (h9 : ch ≤ 255) {j : Nat} (hj : j < (z_by i).length) (h : ∀ k, k < j → ¬ (z_by i).getD k 0 = ch.toInt8.toInt32) (hy : (z_by i).getD j 0 = ch.toInt8.toInt32) : z_ix i ch = nI j := by
  have e : (z_by i).findIdx? (fun b => b == ch) = some j := by
    rw [List.findIdx?_eq_some_iff_getElem]
    refine ⟨hj, ?_, fun k hk => ?_⟩
    · rw [z_i8 h0 h9 (z_byk i j hi), z_gd hj] at hy
      simpa using hy
    · have h1 := h k hk
      rw [z_i8 h0 h9 (z_byk i k hi), z_gd (Nat.lt_trans hk hj)] at h1
      simpa using h1
  rw [z_ix, e]
theorem z_ixo (i : Nat) (ch : Int32) (hi : i < 6) (h : ¬ (0 ≤ ch ∧ ch ≤ 255)) : z_ix i ch = -1 := by
  have e : (z_by i).findIdx? (fun b => b == ch) = none := by
    rw [List.findIdx?_eq_none_iff]
    intro b hb
    obtain ⟨k, hk, rfl⟩ := List.getElem_of_mem hb
    have h1 := z_byk i k hi
    rw [z_gd hk] at h1
    have h2 : ¬ (z_by i)[k] = ch := by
      intro e
      rw [e] at h1
      refine h ⟨Int32.le_iff_toInt_le.mpr (by simpa using h1.1), Int32.le_iff_toInt_le.mpr ?_⟩
      show ch.toInt ≤ 255
      omega
    simpa using h2
  rw [z_ix, e]
theorem fill_nI (v : Int32) (f : Nat → Int32) (i : Nat) : upd (fa_fill (fun _ => v) f i) i v = fa_fill (fun _ => v) f (i + 1) := fa_fill_succ (fun _ => v) f i
def z_ch (f : Nat → Int32) : Prop := ∀ k, k < 108 → z_kind (f k)
theorem z_kind_f {k : Int32} (h : z_kind k) : fits .char (.int k) = true := by
  rcases h with rfl | rfl | rfl | rfl | rfl | rfl <;> decide
abbrev M_String_isLatin1 : zM := (⟨"java/lang/String", "isLatin1", "()Z"⟩, prog_30_method_154_code, 1, (Option.some FieldType.boolean), 1, 20, [])
theorem d_String_isLatin1_0 : decode prog_30_method_154_code 0 = .ok (.getstatic 38, 3) := zo_178 (d := 0) (e := 38) (zd_b zq_prog_30_method_154_code_0 0 rfl rfl rfl) (zd_b zq_prog_30_method_154_code_0 1 rfl rfl rfl) (zd_b zq_prog_30_method_154_code_0 2 rfl rfl rfl)
theorem ls_String_38 : Cond.fieldLink "java/lang/String" 38 "java/lang/String" "COMPACT_STRINGS" "Z" ∈ z_gw := z_mj3 (i := 67) rfl (by decide +kernel)
theorem d_String_isLatin1_3 : decode prog_30_method_154_code 3 = .ok (.ifCond .eq 14, 3) := zo_153 (d := 0) (e := 14) (zd_b zq_prog_30_method_154_code_0 3 rfl rfl rfl) (zd_b zq_prog_30_method_154_code_0 4 rfl rfl rfl) (zd_b zq_prog_30_method_154_code_0 5 rfl rfl rfl) (by decide +kernel)
theorem d_String_isLatin1_6 : decode prog_30_method_154_code 6 = .ok (.aload_n 0, 1) := zo_42 (zd_b zq_prog_30_method_154_code_0 6 rfl rfl rfl)
theorem d_String_isLatin1_7 : decode prog_30_method_154_code 7 = .ok (.getfield 15, 3) := zo_180 (d := 0) (e := 15) (zd_b zq_prog_30_method_154_code_0 7 rfl rfl rfl) (zd_b zq_prog_30_method_154_code_0 8 rfl rfl rfl) (zd_b zq_prog_30_method_154_code_0 9 rfl rfl rfl)
theorem lf_String_15 : Cond.fieldLink "java/lang/String" 15 "java/lang/String" "coder" "B" ∈ z_gw := z_mj9 (i := 116) rfl (by decide +kernel)
theorem d_String_isLatin1_10 : decode prog_30_method_154_code 10 = .ok (.ifCond .ne 7, 3) := zo_154 (d := 0) (e := 7) (zd_b zq_prog_30_method_154_code_0 10 rfl rfl rfl) (zd_b zq_prog_30_method_154_code_0 11 rfl rfl rfl) (zd_b zq_prog_30_method_154_code_0 12 rfl rfl rfl) (by decide +kernel)
theorem d_String_isLatin1_13 : decode prog_30_method_154_code 13 = .ok (.iconst 1, 1) := zo_4 (zd_b zq_prog_30_method_154_code_0 13 rfl rfl rfl)
theorem d_String_isLatin1_14 : decode prog_30_method_154_code 14 = .ok (.goto 4, 3) := zo_167 (d := 0) (e := 4) (zd_b zq_prog_30_method_154_code_0 14 rfl rfl rfl) (zd_b zq_prog_30_method_154_code_0 15 rfl rfl rfl) (zd_b zq_prog_30_method_154_code_0 16 rfl rfl rfl) (by decide +kernel)
theorem d_String_isLatin1_18 : decode prog_30_method_154_code 18 = .ok (.ireturn, 1) := zo_172 (zd_b zq_prog_30_method_154_code_0 18 rfl rfl rfl)
set_option maxHeartbeats 4000000 in
set_option maxRecDepth 100000 in
theorem C_St_isLatin1 (g : zG) (i : Nat) (hi : i < 6) : CT g M_String_isLatin1 [.ref (g.2.2 (5 + i))] [] (fun o cs1 => o = .inl (some (.int 1)) ∧ cs1 = []) 0 0 := by
  refine z_of (by decide) rfl (Nat.le_of_ble_eq_true rfl) (fun w0 => ?_)
  refine r_lvE (lv2 := [(0, .ref (g.2.2 (5 + i)))]) rfl ?_
  refine r_getsC ls_String_38 d_String_isLatin1_0 ?_
  refine r_if_eq (tgt := 17) d_String_isLatin1_3 (by decide) (fun c_3 => ?_) (fun c_3 => ?_)
  · exact absurd c_3 (by decide)
  · refine r_aload_n d_String_isLatin1_6 rfl 0 rfl ?_
    refine r_getSc (i := i) hi lf_String_15 d_String_isLatin1_7 ?_
    refine r_if_ne (tgt := 17) d_String_isLatin1_10 (by decide) (fun c_10 => ?_) (fun c_10 => ?_)
    · exact absurd c_10 (by decide)
    · refine r_iconst d_String_isLatin1_13 (v := 1) (by decide) ?_
      refine r_goto (tgt := 18) d_String_isLatin1_14 (by decide) ?_
      refine r_iret d_String_isLatin1_18 rfl rfl ?_
      exact ⟨rfl, rfl⟩
abbrev M_String_coder : zM := (⟨"java/lang/String", "coder", "()B"⟩, prog_30_method_152_code, 1, (Option.some FieldType.byte), 1, 20, [])
theorem d_String_coder_0 : decode prog_30_method_152_code 0 = .ok (.getstatic 38, 3) := zo_178 (d := 0) (e := 38) (zd_b zq_prog_30_method_152_code_0 0 rfl rfl rfl) (zd_b zq_prog_30_method_152_code_0 1 rfl rfl rfl) (zd_b zq_prog_30_method_152_code_0 2 rfl rfl rfl)
theorem d_String_coder_3 : decode prog_30_method_152_code 3 = .ok (.ifCond .eq 10, 3) := zo_153 (d := 0) (e := 10) (zd_b zq_prog_30_method_152_code_0 3 rfl rfl rfl) (zd_b zq_prog_30_method_152_code_0 4 rfl rfl rfl) (zd_b zq_prog_30_method_152_code_0 5 rfl rfl rfl) (by decide +kernel)
theorem d_String_coder_6 : decode prog_30_method_152_code 6 = .ok (.aload_n 0, 1) := zo_42 (zd_b zq_prog_30_method_152_code_0 6 rfl rfl rfl)
theorem d_String_coder_7 : decode prog_30_method_152_code 7 = .ok (.getfield 15, 3) := zo_180 (d := 0) (e := 15) (zd_b zq_prog_30_method_152_code_0 7 rfl rfl rfl) (zd_b zq_prog_30_method_152_code_0 8 rfl rfl rfl) (zd_b zq_prog_30_method_152_code_0 9 rfl rfl rfl)
theorem d_String_coder_10 : decode prog_30_method_152_code 10 = .ok (.goto 4, 3) := zo_167 (d := 0) (e := 4) (zd_b zq_prog_30_method_152_code_0 10 rfl rfl rfl) (zd_b zq_prog_30_method_152_code_0 11 rfl rfl rfl) (zd_b zq_prog_30_method_152_code_0 12 rfl rfl rfl) (by decide +kernel)
theorem d_String_coder_14 : decode prog_30_method_152_code 14 = .ok (.ireturn, 1) := zo_172 (zd_b zq_prog_30_method_152_code_0 14 rfl rfl rfl)
set_option maxHeartbeats 4000000 in
set_option maxRecDepth 100000 in
theorem C_St_coder (g : zG) (i : Nat) (hi : i < 6) : CT g M_String_coder [.ref (g.2.2 (5 + i))] [] (fun o cs1 => o = .inl (some (.int 0)) ∧ cs1 = []) 0 0 := by
  refine z_of (by decide) rfl (Nat.le_of_ble_eq_true rfl) (fun w0 => ?_)
  refine r_lvE (lv2 := [(0, .ref (g.2.2 (5 + i)))]) rfl ?_
  refine r_getsC ls_String_38 d_String_coder_0 ?_
  refine r_if_eq (tgt := 13) d_String_coder_3 (by decide) (fun c_3 => ?_) (fun c_3 => ?_)
  · exact absurd c_3 (by decide)
  · refine r_aload_n d_String_coder_6 rfl 0 rfl ?_
    refine r_getSc (i := i) hi lf_String_15 d_String_coder_7 ?_
    refine r_goto (tgt := 14) d_String_coder_10 (by decide) ?_
    refine r_iret d_String_coder_14 rfl rfl ?_
    exact ⟨rfl, rfl⟩
abbrev M_String_length : zM := (⟨"java/lang/String", "length", "()I"⟩, prog_30_method_54_code, 1, (Option.some FieldType.int), 2, 40, [])
theorem d_String_length_0 : decode prog_30_method_54_code 0 = .ok (.aload_n 0, 1) := zo_42 (zd_b zq_prog_30_method_54_code_0 0 rfl rfl rfl)
theorem d_String_length_1 : decode prog_30_method_54_code 1 = .ok (.getfield 9, 3) := zo_180 (d := 0) (e := 9) (zd_b zq_prog_30_method_54_code_0 1 rfl rfl rfl) (zd_b zq_prog_30_method_54_code_0 2 rfl rfl rfl) (zd_b zq_prog_30_method_54_code_0 3 rfl rfl rfl)
theorem lf_String_9 : Cond.fieldLink "java/lang/String" 9 "java/lang/String" "value" "[B" ∈ z_gw := z_mj9 (i := 117) rfl (by decide +kernel)
theorem d_String_length_4 : decode prog_30_method_54_code 4 = .ok (.arraylength, 1) := zo_190 (zd_b zq_prog_30_method_54_code_0 4 rfl rfl rfl)
theorem d_String_length_5 : decode prog_30_method_54_code 5 = .ok (.aload_n 0, 1) := zo_42 (zd_b zq_prog_30_method_54_code_0 5 rfl rfl rfl)
theorem d_String_length_6 : decode prog_30_method_54_code 6 = .ok (.invokevirtual 335, 3) := zo_182 (d := 1) (e := 79) (zd_b zq_prog_30_method_54_code_0 6 rfl rfl rfl) (zd_b zq_prog_30_method_54_code_0 7 rfl rfl rfl) (zd_b zq_prog_30_method_54_code_0 8 rfl rfl rfl)
theorem ok_String_length_String_coder : z_ok M_String_length M_String_coder 0 := ⟨z_mj3 (i := 76) rfl (by decide +kernel), rfl, ⟨by decide +kernel, by decide +kernel, by decide +kernel⟩, ⟨by decide, by decide⟩, z_mj1 (i := 15) rfl (by decide +kernel), rfl⟩
theorem ln_String_335 : Cond.methodLink "java/lang/String" 335 M_String_coder.1 ∈ z_gw := z_mj3 (i := 73) rfl (by decide +kernel)
theorem w_im_String_coder : Cond.instanceMethod M_String_coder.1 ∈ z_gw := z_mj3 (i := 74) rfl (by decide +kernel)
theorem w_se_String_coder : Cond.selects M_String_coder.1.cls M_String_coder.1 M_String_coder.1 ∈ z_gw := z_mj3 (i := 75) rfl (by decide +kernel)
theorem d_String_length_9 : decode prog_30_method_54_code 9 = .ok (.ishr, 1) := zo_122 (zd_b zq_prog_30_method_54_code_0 9 rfl rfl rfl)
theorem d_String_length_10 : decode prog_30_method_54_code 10 = .ok (.ireturn, 1) := zo_172 (zd_b zq_prog_30_method_54_code_0 10 rfl rfl rfl)
set_option maxHeartbeats 4000000 in
set_option maxRecDepth 100000 in
theorem C_St_length (g : zG) (i : Nat) (hi : i < 6) : CT g M_String_length [.ref (g.2.2 (5 + i))] [] (fun o cs1 => o = .inl (some (.int (nI (z_by i).length))) ∧ cs1 = []) 0 0 := by
  refine z_of (by decide) rfl (Nat.le_of_ble_eq_true rfl) (fun w0 => ?_)
  refine r_lvE (lv2 := [(0, .ref (g.2.2 (5 + i)))]) rfl ?_
  refine r_aload_n d_String_length_0 rfl 0 rfl ?_
  refine r_getSv (i := i) hi lf_String_9 d_String_length_1 ?_
  refine r_tlenS (i := i) (v := nI (z_by i).length) hi rfl d_String_length_4 ?_
  refine r_aload_n d_String_length_5 rfl 0 rfl ?_
  refine r_callVS (As := []) (rest := [.int (nI (z_by i).length)]) (csC := []) (is := []) (i := i) (by first | assumption | decide) rfl ln_String_335 w_im_String_coder w_se_String_coder ok_String_length_String_coder d_String_length_6 (C_St_coder g i hi) rfl rfl (Nat.le_of_ble_eq_true rfl) rfl (by decide) (by omega) (by omega) (fun E cs1 hx => ?_) (fun v cs1 hx => ?_)
  · exact absurd hx.1 (by simp)
  · obtain ⟨e1, rfl⟩ := hx
    cases e1
    refine ⟨rfl, ?_⟩
    refine r_st (st2 := [.int 0, .int (nI (z_by i).length)]) rfl ?_
    refine r_cs (cs2 := []) rfl ?_
    refine r_ishr d_String_length_9 (v := nI (z_by i).length) (by rcases (show i = 0 ∨ i = 1 ∨ i = 2 ∨ i = 3 ∨ i = 4 ∨ i = 5 by omega) with rfl | rfl | rfl | rfl | rfl | rfl <;> decide) ?_
    refine r_iret d_String_length_10 rfl rfl ?_
    exact ⟨rfl, rfl⟩
abbrev M_StringLatin1_canEncode : zM := (⟨"java/lang/StringLatin1", "canEncode", "(I)Z"⟩, prog_31_method_4_code, 1, (Option.some FieldType.boolean), 1, 20, [])
theorem d_StringLatin1_canEncode_0 : decode prog_31_method_4_code 0 = .ok (.iload_n 0, 1) := zo_26 (zd_b zq_prog_31_method_4_code_0 0 rfl rfl rfl)
theorem d_StringLatin1_canEncode_1 : decode prog_31_method_4_code 1 = .ok (.ifCond .lt 14, 3) := zo_155 (d := 0) (e := 14) (zd_b zq_prog_31_method_4_code_0 1 rfl rfl rfl) (zd_b zq_prog_31_method_4_code_0 2 rfl rfl rfl) (zd_b zq_prog_31_method_4_code_0 3 rfl rfl rfl) (by decide +kernel)
theorem d_StringLatin1_canEncode_15 : decode prog_31_method_4_code 15 = .ok (.iconst 0, 1) := zo_3 (zd_b zq_prog_31_method_4_code_0 15 rfl rfl rfl)
theorem d_StringLatin1_canEncode_16 : decode prog_31_method_4_code 16 = .ok (.ireturn, 1) := zo_172 (zd_b zq_prog_31_method_4_code_0 16 rfl rfl rfl)
theorem d_StringLatin1_canEncode_4 : decode prog_31_method_4_code 4 = .ok (.iload_n 0, 1) := zo_26 (zd_b zq_prog_31_method_4_code_0 4 rfl rfl rfl)
theorem d_StringLatin1_canEncode_5 : decode prog_31_method_4_code 5 = .ok (.sipush 255, 3) := zo_17 (d := 0) (e := 255) (zd_b zq_prog_31_method_4_code_0 5 rfl rfl rfl) (zd_b zq_prog_31_method_4_code_0 6 rfl rfl rfl) (zd_b zq_prog_31_method_4_code_0 7 rfl rfl rfl) (by decide +kernel)
theorem d_StringLatin1_canEncode_8 : decode prog_31_method_4_code 8 = .ok (.if_icmp .gt 7, 3) := zo_163 (d := 0) (e := 7) (zd_b zq_prog_31_method_4_code_0 8 rfl rfl rfl) (zd_b zq_prog_31_method_4_code_0 9 rfl rfl rfl) (zd_b zq_prog_31_method_4_code_0 10 rfl rfl rfl) (by decide +kernel)
theorem d_StringLatin1_canEncode_11 : decode prog_31_method_4_code 11 = .ok (.iconst 1, 1) := zo_4 (zd_b zq_prog_31_method_4_code_0 11 rfl rfl rfl)
theorem d_StringLatin1_canEncode_12 : decode prog_31_method_4_code 12 = .ok (.goto 4, 3) := zo_167 (d := 0) (e := 4) (zd_b zq_prog_31_method_4_code_0 12 rfl rfl rfl) (zd_b zq_prog_31_method_4_code_0 13 rfl rfl rfl) (zd_b zq_prog_31_method_4_code_0 14 rfl rfl rfl) (by decide +kernel)
set_option maxHeartbeats 4000000 in
set_option maxRecDepth 100000 in
theorem C_SL_canEncode (g : zG) (ch : Int32) : CT g M_StringLatin1_canEncode [.int ch] [] (fun o cs1 => o = .inl (some (.int (if 0 ≤ ch ∧ ch ≤ 255 then 1 else 0))) ∧ cs1 = []) 0 0 := by
  refine z_of (by decide) rfl (Nat.le_of_ble_eq_true rfl) (fun w0 => ?_)
  refine r_lvE (lv2 := [(0, .int ch)]) rfl ?_
  refine r_iload_n d_StringLatin1_canEncode_0 rfl 0 rfl ?_
  refine r_if_lt (tgt := 15) d_StringLatin1_canEncode_1 (by decide) (fun c_1 => ?_) (fun c_1 => ?_)
  · refine r_iconst d_StringLatin1_canEncode_15 (v := 0) (by decide) ?_
    refine r_iret d_StringLatin1_canEncode_16 rfl rfl ?_
    refine ⟨?_, rfl⟩
    split <;> first | rfl | (exfalso; simp only [fa_lt, fa_le] at *; have e0 : (0 : Int32).toInt = 0 := rfl; omega)
  · refine r_iload_n d_StringLatin1_canEncode_4 rfl 0 rfl ?_
    refine r_sipush d_StringLatin1_canEncode_5 (v := 255) (by decide) ?_
    refine r_icmp_gt (tgt := 15) d_StringLatin1_canEncode_8 (by decide) (fun c_8 => ?_) (fun c_8 => ?_)
    · refine r_iconst d_StringLatin1_canEncode_15 (v := 0) (by decide) ?_
      refine r_iret d_StringLatin1_canEncode_16 rfl rfl ?_
      refine ⟨?_, rfl⟩
      split <;> first | rfl | (exfalso; simp only [fa_lt, fa_le] at *; have e0 : (0 : Int32).toInt = 0 := rfl; omega)
    · refine r_iconst d_StringLatin1_canEncode_11 (v := 1) (by decide) ?_
      refine r_goto (tgt := 16) d_StringLatin1_canEncode_12 (by decide) ?_
      refine r_iret d_StringLatin1_canEncode_16 rfl rfl ?_
      refine ⟨?_, rfl⟩
      split <;> first | rfl | (exfalso; simp only [fa_lt, fa_le] at *; have e0 : (0 : Int32).toInt = 0 := rfl; omega)
abbrev M_StringLatin1_indexOfChar : zM := (⟨"java/lang/StringLatin1", "indexOfChar", "([BIII)I"⟩, prog_31_method_23_code, 6, (Option.some FieldType.int), 1, 20, [])
theorem d_StringLatin1_indexOfChar_7 : decode prog_31_method_23_code 7 = .ok (.iload 5, 2) := zo_21 (d := 5) (zd_b zq_prog_31_method_23_code_0 7 rfl rfl rfl) (zd_b zq_prog_31_method_23_code_0 8 rfl rfl rfl)
theorem d_StringLatin1_indexOfChar_9 : decode prog_31_method_23_code 9 = .ok (.iload_n 3, 1) := zo_29 (zd_b zq_prog_31_method_23_code_0 9 rfl rfl rfl)
theorem d_StringLatin1_indexOfChar_10 : decode prog_31_method_23_code 10 = .ok (.if_icmp .ge 21, 3) := zo_162 (d := 0) (e := 21) (zd_b zq_prog_31_method_23_code_0 10 rfl rfl rfl) (zd_b zq_prog_31_method_23_code_0 11 rfl rfl rfl) (zd_b zq_prog_31_method_23_code_0 12 rfl rfl rfl) (by decide +kernel)
theorem d_StringLatin1_indexOfChar_31 : decode prog_31_method_23_code 31 = .ok (.iconst (-1), 1) := zo_2 (zd_b zq_prog_31_method_23_code_0 31 rfl rfl rfl)
theorem d_StringLatin1_indexOfChar_32 : decode prog_31_method_23_code 32 = .ok (.ireturn, 1) := zo_172 (zd_b zq_prog_31_method_23_code_1 0 rfl rfl rfl)
theorem d_StringLatin1_indexOfChar_13 : decode prog_31_method_23_code 13 = .ok (.aload_n 0, 1) := zo_42 (zd_b zq_prog_31_method_23_code_0 13 rfl rfl rfl)
theorem d_StringLatin1_indexOfChar_14 : decode prog_31_method_23_code 14 = .ok (.iload 5, 2) := zo_21 (d := 5) (zd_b zq_prog_31_method_23_code_0 14 rfl rfl rfl) (zd_b zq_prog_31_method_23_code_0 15 rfl rfl rfl)
theorem d_StringLatin1_indexOfChar_16 : decode prog_31_method_23_code 16 = .ok (.baload, 1) := zo_51 (zd_b zq_prog_31_method_23_code_0 16 rfl rfl rfl)
theorem d_StringLatin1_indexOfChar_17 : decode prog_31_method_23_code 17 = .ok (.iload 4, 2) := zo_21 (d := 4) (zd_b zq_prog_31_method_23_code_0 17 rfl rfl rfl) (zd_b zq_prog_31_method_23_code_0 18 rfl rfl rfl)
theorem d_StringLatin1_indexOfChar_19 : decode prog_31_method_23_code 19 = .ok (.if_icmp .ne 6, 3) := zo_160 (d := 0) (e := 6) (zd_b zq_prog_31_method_23_code_0 19 rfl rfl rfl) (zd_b zq_prog_31_method_23_code_0 20 rfl rfl rfl) (zd_b zq_prog_31_method_23_code_0 21 rfl rfl rfl) (by decide +kernel)
theorem d_StringLatin1_indexOfChar_25 : decode prog_31_method_23_code 25 = .ok (.iinc 5 1, 3) := by decide +kernel
theorem d_StringLatin1_indexOfChar_28 : decode prog_31_method_23_code 28 = .ok (.goto (-21), 3) := zo_167 (d := 255) (e := 235) (zd_b zq_prog_31_method_23_code_0 28 rfl rfl rfl) (zd_b zq_prog_31_method_23_code_0 29 rfl rfl rfl) (zd_b zq_prog_31_method_23_code_0 30 rfl rfl rfl) (by decide +kernel)
theorem d_StringLatin1_indexOfChar_22 : decode prog_31_method_23_code 22 = .ok (.iload 5, 2) := zo_21 (d := 5) (zd_b zq_prog_31_method_23_code_0 22 rfl rfl rfl) (zd_b zq_prog_31_method_23_code_0 23 rfl rfl rfl)
theorem d_StringLatin1_indexOfChar_24 : decode prog_31_method_23_code 24 = .ok (.ireturn, 1) := zo_172 (zd_b zq_prog_31_method_23_code_0 24 rfl rfl rfl)
theorem d_StringLatin1_indexOfChar_0 : decode prog_31_method_23_code 0 = .ok (.iload_n 1, 1) := zo_27 (zd_b zq_prog_31_method_23_code_0 0 rfl rfl rfl)
theorem d_StringLatin1_indexOfChar_1 : decode prog_31_method_23_code 1 = .ok (.i2b, 1) := zo_145 (zd_b zq_prog_31_method_23_code_0 1 rfl rfl rfl)
theorem d_StringLatin1_indexOfChar_2 : decode prog_31_method_23_code 2 = .ok (.istore 4, 2) := zo_54 (d := 4) (zd_b zq_prog_31_method_23_code_0 2 rfl rfl rfl) (zd_b zq_prog_31_method_23_code_0 3 rfl rfl rfl)
theorem d_StringLatin1_indexOfChar_4 : decode prog_31_method_23_code 4 = .ok (.iload_n 2, 1) := zo_28 (zd_b zq_prog_31_method_23_code_0 4 rfl rfl rfl)
theorem d_StringLatin1_indexOfChar_5 : decode prog_31_method_23_code 5 = .ok (.istore 5, 2) := zo_54 (d := 5) (zd_b zq_prog_31_method_23_code_0 5 rfl rfl rfl) (zd_b zq_prog_31_method_23_code_0 6 rfl rfl rfl)
set_option maxHeartbeats 4000000 in
set_option maxRecDepth 100000 in
theorem L_SL_indexOfChar_7 (g : zG) (i : Nat) (hi : i < 6) (ch : Int32) (h0 : 0 ≤ ch) (h9 : ch ≤ 255) (w0 : zW) (n : Nat) : ∀ (d j : Nat), j ≤ (z_by i).length → (z_by i).length < j + d → (∀ k, k < j → ¬ (z_by i).getD k 0 = ch.toInt8.toInt32) → DV g M_StringLatin1_indexOfChar (fun o cs1 => o = .inl (some (.int (z_ix i ch))) ∧ cs1 = []) w0 n 7 [(5, .int (nI j)), (4, .int ch.toInt8.toInt32), (3, .int (nI (z_by i).length)), (2, .int 0), (1, .int ch), (0, .ref (g.2.2 (20 + i)))] [] [] 0 0 := by
  intro d
  induction d with
  | zero => intro j h1 h2 h3; exact absurd h2 (by omega)
  | succ d ih =>
    intro j h1 h2 h3
    refine r_iload d_StringLatin1_indexOfChar_7 0 rfl ?_
    refine r_iload_n d_StringLatin1_indexOfChar_9 rfl 2 rfl ?_
    refine r_icmp_ge (tgt := 31) d_StringLatin1_indexOfChar_10 (by decide) (fun c_10 => ?_) (fun c_10 => ?_)
    · have hn := z_le (by have := z_by5 i hi; omega) (by have := z_by5 i hi; omega) c_10
      have hj : j = (z_by i).length := by omega
      refine r_iconst d_StringLatin1_indexOfChar_31 (v := (-1)) (by decide) ?_
      refine r_iret d_StringLatin1_indexOfChar_32 rfl rfl ?_
      exact ⟨by rw [z_ixn i ch hi h0 h9 (fun k hk => h3 k (by omega))], rfl⟩
    · have hn := z_nle (by have := z_by5 i hi; omega) (by have := z_by5 i hi; omega) c_10
      refine r_aload_n d_StringLatin1_indexOfChar_13 rfl 5 rfl ?_
      refine r_iload d_StringLatin1_indexOfChar_14 0 rfl ?_
      refine r_tbS (i := i) (v := (z_by i).getD j 0) hi (vp_in_nI (by omega) (by have := z_by5 i hi; omega)) (by rw [nI_clamp (by have := z_by5 i hi; omega)]) d_StringLatin1_indexOfChar_16 ?_
      refine r_iload d_StringLatin1_indexOfChar_17 1 rfl ?_
      refine r_icmp_ne (tgt := 25) d_StringLatin1_indexOfChar_19 (by decide) (fun c_19 => ?_) (fun c_19 => ?_)
      · refine r_iinc (lv' := [(5, .int (nI (j + 1))), (4, .int ch.toInt8.toInt32), (3, .int (nI (z_by i).length)), (2, .int 0), (1, .int ch), (0, .ref (g.2.2 (20 + i)))]) (v := nI (j + 1)) d_StringLatin1_indexOfChar_25 (j := 0) rfl (nI_add _ _) (by decide) rfl ?_
        refine r_goto (tgt := 7) d_StringLatin1_indexOfChar_28 (by decide) ?_
        refine r_lvE (lv2 := [(5, .int (nI (j + 1))), (4, .int ch.toInt8.toInt32), (3, .int (nI (z_by i).length)), (2, .int 0), (1, .int ch), (0, .ref (g.2.2 (20 + i)))]) (rfl) ?_
        refine r_cs (cs2 := []) (rfl) ?_
        exact ih (j + 1) (by omega) (by omega) (fun k hk => (Nat.lt_or_ge k j).elim (h3 k) (fun q => by have e : k = j := (by omega); subst e; exact c_19))
      · refine r_iload d_StringLatin1_indexOfChar_22 0 rfl ?_
        refine r_iret d_StringLatin1_indexOfChar_24 rfl rfl ?_
        exact ⟨by rw [z_ixy i ch hi h0 h9 hn h3 c_19], rfl⟩
set_option maxHeartbeats 4000000 in
set_option maxRecDepth 100000 in
theorem C_SL_indexOfChar (g : zG) (i : Nat) (hi : i < 6) (ch : Int32) (h0 : 0 ≤ ch) (h9 : ch ≤ 255) : CT g M_StringLatin1_indexOfChar [.ref (g.2.2 (20 + i)), .int ch, .int 0, .int (nI (z_by i).length)] [] (fun o cs1 => o = .inl (some (.int (z_ix i ch))) ∧ cs1 = []) 0 0 := by
  refine z_of (by decide) rfl (Nat.le_of_ble_eq_true rfl) (fun w0 => ?_)
  refine r_lvE (lv2 := [(0, .ref (g.2.2 (20 + i))), (1, .int ch), (2, .int 0), (3, .int (nI (z_by i).length))]) rfl ?_
  refine r_iload_n d_StringLatin1_indexOfChar_0 rfl 1 rfl ?_
  refine r_i2b d_StringLatin1_indexOfChar_1 (v := ch.toInt8.toInt32) rfl ?_
  refine r_istore (lv' := [(4, .int ch.toInt8.toInt32), (0, .ref (g.2.2 (20 + i))), (1, .int ch), (2, .int 0), (3, .int (nI (z_by i).length))]) d_StringLatin1_indexOfChar_2 (by decide) rfl ?_
  refine r_iload_n d_StringLatin1_indexOfChar_4 rfl 3 rfl ?_
  refine r_istore (lv' := [(5, .int 0), (4, .int ch.toInt8.toInt32), (0, .ref (g.2.2 (20 + i))), (1, .int ch), (2, .int 0), (3, .int (nI (z_by i).length))]) d_StringLatin1_indexOfChar_5 (by decide) rfl ?_
  refine r_lv (lv' := [(5, .int 0), (4, .int ch.toInt8.toInt32), (3, .int (nI (z_by i).length)), (2, .int 0), (1, .int ch), (0, .ref (g.2.2 (20 + i)))]) [0, 1, 5, 4, 3, 2] rfl ?_
  refine r_lvE (lv2 := [(5, .int (nI 0)), (4, .int ch.toInt8.toInt32), (3, .int (nI (z_by i).length)), (2, .int 0), (1, .int ch), (0, .ref (g.2.2 (20 + i)))]) (rfl) ?_
  refine r_cs (cs2 := []) (rfl) ?_
  exact L_SL_indexOfChar_7 g i hi ch h0 h9 w0 _  ((z_by i).length + 1) 0 (Nat.zero_le _) (by omega) (fun k hk => absurd hk (Nat.not_lt_zero k))
abbrev M_StringLatin1_indexOf : zM := (⟨"java/lang/StringLatin1", "indexOf", "([BIII)I"⟩, prog_31_method_22_code, 4, (Option.some FieldType.int), 2, 45, [])
theorem d_StringLatin1_indexOf_0 : decode prog_31_method_22_code 0 = .ok (.iload_n 1, 1) := zo_27 (zd_b zq_prog_31_method_22_code_0 0 rfl rfl rfl)
theorem d_StringLatin1_indexOf_1 : decode prog_31_method_22_code 1 = .ok (.invokestatic 88, 3) := zo_184 (d := 0) (e := 88) (zd_b zq_prog_31_method_22_code_0 1 rfl rfl rfl) (zd_b zq_prog_31_method_22_code_0 2 rfl rfl rfl) (zd_b zq_prog_31_method_22_code_0 3 rfl rfl rfl)
theorem ok_StringLatin1_indexOf_StringLatin1_canEncode : z_ok M_StringLatin1_indexOf M_StringLatin1_canEncode 1 := ⟨z_mj3 (i := 82) rfl (by decide +kernel), rfl, ⟨by decide +kernel, by decide +kernel, by decide +kernel⟩, ⟨by decide, by decide⟩, z_mj1 (i := 16) rfl (by decide +kernel), rfl⟩
theorem ln_StringLatin1_88 : Cond.methodLink "java/lang/StringLatin1" 88 M_StringLatin1_canEncode.1 ∈ z_gw := z_mj3 (i := 80) rfl (by decide +kernel)
theorem w_st_StringLatin1_canEncode : Cond.static M_StringLatin1_canEncode.1 ∈ z_gw := z_mj3 (i := 81) rfl (by decide +kernel)
theorem d_StringLatin1_indexOf_4 : decode prog_31_method_22_code 4 = .ok (.ifCond .ne 5, 3) := zo_154 (d := 0) (e := 5) (zd_b zq_prog_31_method_22_code_0 4 rfl rfl rfl) (zd_b zq_prog_31_method_22_code_0 5 rfl rfl rfl) (zd_b zq_prog_31_method_22_code_0 6 rfl rfl rfl) (by decide +kernel)
theorem d_StringLatin1_indexOf_9 : decode prog_31_method_22_code 9 = .ok (.iload_n 2, 1) := zo_28 (zd_b zq_prog_31_method_22_code_0 9 rfl rfl rfl)
theorem d_StringLatin1_indexOf_10 : decode prog_31_method_22_code 10 = .ok (.iconst 0, 1) := zo_3 (zd_b zq_prog_31_method_22_code_0 10 rfl rfl rfl)
theorem d_StringLatin1_indexOf_11 : decode prog_31_method_22_code 11 = .ok (.invokestatic 92, 3) := zo_184 (d := 0) (e := 92) (zd_b zq_prog_31_method_22_code_0 11 rfl rfl rfl) (zd_b zq_prog_31_method_22_code_0 12 rfl rfl rfl) (zd_b zq_prog_31_method_22_code_0 13 rfl rfl rfl)
theorem ln_StringLatin1_92 : Cond.methodLink "java/lang/StringLatin1" 92 Lib.Math.max.name ∈ z_gw := z_mj3 (i := 83) rfl (by decide +kernel)
theorem d_StringLatin1_indexOf_14 : decode prog_31_method_22_code 14 = .ok (.istore_n 2, 1) := zo_61 (zd_b zq_prog_31_method_22_code_0 14 rfl rfl rfl)
theorem d_StringLatin1_indexOf_15 : decode prog_31_method_22_code 15 = .ok (.iload_n 3, 1) := zo_29 (zd_b zq_prog_31_method_22_code_0 15 rfl rfl rfl)
theorem d_StringLatin1_indexOf_16 : decode prog_31_method_22_code 16 = .ok (.aload_n 0, 1) := zo_42 (zd_b zq_prog_31_method_22_code_0 16 rfl rfl rfl)
theorem d_StringLatin1_indexOf_17 : decode prog_31_method_22_code 17 = .ok (.arraylength, 1) := zo_190 (zd_b zq_prog_31_method_22_code_0 17 rfl rfl rfl)
theorem d_StringLatin1_indexOf_18 : decode prog_31_method_22_code 18 = .ok (.invokestatic 38, 3) := zo_184 (d := 0) (e := 38) (zd_b zq_prog_31_method_22_code_0 18 rfl rfl rfl) (zd_b zq_prog_31_method_22_code_0 19 rfl rfl rfl) (zd_b zq_prog_31_method_22_code_0 20 rfl rfl rfl)
theorem ln_StringLatin1_38 : Cond.methodLink "java/lang/StringLatin1" 38 Lib.Math.min.name ∈ z_gw := z_mj3 (i := 86) rfl (by decide +kernel)
theorem d_StringLatin1_indexOf_21 : decode prog_31_method_22_code 21 = .ok (.istore_n 3, 1) := zo_62 (zd_b zq_prog_31_method_22_code_0 21 rfl rfl rfl)
theorem d_StringLatin1_indexOf_22 : decode prog_31_method_22_code 22 = .ok (.iload_n 2, 1) := zo_28 (zd_b zq_prog_31_method_22_code_0 22 rfl rfl rfl)
theorem d_StringLatin1_indexOf_23 : decode prog_31_method_22_code 23 = .ok (.iload_n 3, 1) := zo_29 (zd_b zq_prog_31_method_22_code_0 23 rfl rfl rfl)
theorem d_StringLatin1_indexOf_24 : decode prog_31_method_22_code 24 = .ok (.if_icmp .lt 5, 3) := zo_161 (d := 0) (e := 5) (zd_b zq_prog_31_method_22_code_0 24 rfl rfl rfl) (zd_b zq_prog_31_method_22_code_0 25 rfl rfl rfl) (zd_b zq_prog_31_method_22_code_0 26 rfl rfl rfl) (by decide +kernel)
theorem d_StringLatin1_indexOf_29 : decode prog_31_method_22_code 29 = .ok (.aload_n 0, 1) := zo_42 (zd_b zq_prog_31_method_22_code_0 29 rfl rfl rfl)
theorem d_StringLatin1_indexOf_30 : decode prog_31_method_22_code 30 = .ok (.iload_n 1, 1) := zo_27 (zd_b zq_prog_31_method_22_code_0 30 rfl rfl rfl)
theorem d_StringLatin1_indexOf_31 : decode prog_31_method_22_code 31 = .ok (.iload_n 2, 1) := zo_28 (zd_b zq_prog_31_method_22_code_0 31 rfl rfl rfl)
theorem d_StringLatin1_indexOf_32 : decode prog_31_method_22_code 32 = .ok (.iload_n 3, 1) := zo_29 (zd_b zq_prog_31_method_22_code_1 0 rfl rfl rfl)
theorem d_StringLatin1_indexOf_33 : decode prog_31_method_22_code 33 = .ok (.invokestatic 95, 3) := zo_184 (d := 0) (e := 95) (zd_b zq_prog_31_method_22_code_1 1 rfl rfl rfl) (zd_b zq_prog_31_method_22_code_1 2 rfl rfl rfl) (zd_b zq_prog_31_method_22_code_1 3 rfl rfl rfl)
theorem ok_StringLatin1_indexOf_StringLatin1_indexOfChar : z_ok M_StringLatin1_indexOf M_StringLatin1_indexOfChar 4 := ⟨z_mj3 (i := 91) rfl (by decide +kernel), rfl, ⟨by decide +kernel, by decide +kernel, by decide +kernel⟩, ⟨by decide, by decide⟩, z_mj1 (i := 16) rfl (by decide +kernel), rfl⟩
theorem ln_StringLatin1_95 : Cond.methodLink "java/lang/StringLatin1" 95 M_StringLatin1_indexOfChar.1 ∈ z_gw := z_mj3 (i := 89) rfl (by decide +kernel)
theorem w_st_StringLatin1_indexOfChar : Cond.static M_StringLatin1_indexOfChar.1 ∈ z_gw := z_mj3 (i := 90) rfl (by decide +kernel)
theorem d_StringLatin1_indexOf_36 : decode prog_31_method_22_code 36 = .ok (.ireturn, 1) := zo_172 (zd_b zq_prog_31_method_22_code_1 4 rfl rfl rfl)
theorem d_StringLatin1_indexOf_7 : decode prog_31_method_22_code 7 = .ok (.iconst (-1), 1) := zo_2 (zd_b zq_prog_31_method_22_code_0 7 rfl rfl rfl)
theorem d_StringLatin1_indexOf_8 : decode prog_31_method_22_code 8 = .ok (.ireturn, 1) := zo_172 (zd_b zq_prog_31_method_22_code_0 8 rfl rfl rfl)
set_option maxHeartbeats 4000000 in
set_option maxRecDepth 100000 in
theorem C_SL_indexOf (g : zG) (i : Nat) (hi : i < 6) (ch : Int32) : CT g M_StringLatin1_indexOf [.ref (g.2.2 (20 + i)), .int ch, .int 0, .int (nI (z_by i).length)] [] (fun o cs1 => o = .inl (some (.int (z_ix i ch))) ∧ cs1 = []) 0 0 := by
  refine z_of (by decide) rfl (Nat.le_of_ble_eq_true rfl) (fun w0 => ?_)
  refine r_lvE (lv2 := [(0, .ref (g.2.2 (20 + i))), (1, .int ch), (2, .int 0), (3, .int (nI (z_by i).length))]) rfl ?_
  refine r_iload_n d_StringLatin1_indexOf_0 rfl 1 rfl ?_
  refine r_callS (As := [.int ch]) (rest := []) (csC := []) (is := []) ln_StringLatin1_88 w_st_StringLatin1_canEncode ok_StringLatin1_indexOf_StringLatin1_canEncode d_StringLatin1_indexOf_1 (C_SL_canEncode g ch) rfl rfl (Nat.le_of_ble_eq_true rfl) rfl (by decide) (by omega) (by omega) (fun E cs1 hx => ?_) (fun v cs1 hx => ?_)
  · exact absurd hx.1 (by simp)
  · obtain ⟨e1, rfl⟩ := hx
    cases e1
    refine ⟨rfl, ?_⟩
    refine r_st (st2 := [.int (if 0 ≤ ch ∧ ch ≤ 255 then 1 else 0)]) rfl ?_
    refine r_cs (cs2 := []) rfl ?_
    refine r_if_ne (tgt := 9) d_StringLatin1_indexOf_4 (by decide) (fun c_4 => ?_) (fun c_4 => ?_)
    · refine r_iload_n d_StringLatin1_indexOf_9 rfl 2 rfl ?_
      refine r_iconst d_StringLatin1_indexOf_10 (v := 0) (by decide) ?_
      refine r_max (v := 0) ln_StringLatin1_92 w_mmax w_mi w_cmax d_StringLatin1_indexOf_11 (by decide) (by decide) (Nat.le_of_ble_eq_true rfl) rfl ?_
      refine r_istore_n (lv' := [(2, .int 0), (0, .ref (g.2.2 (20 + i))), (1, .int ch), (3, .int (nI (z_by i).length))]) d_StringLatin1_indexOf_14 rfl (by decide) rfl ?_
      refine r_iload_n d_StringLatin1_indexOf_15 rfl 3 rfl ?_
      refine r_aload_n d_StringLatin1_indexOf_16 rfl 1 rfl ?_
      refine r_tlenS (i := i) (v := nI (z_by i).length) hi rfl d_StringLatin1_indexOf_17 ?_
      refine r_min (v := nI (z_by i).length) ln_StringLatin1_38 w_mmin w_mi w_cmin d_StringLatin1_indexOf_18 (by decide) (by decide) (Nat.le_of_ble_eq_true rfl) (by split <;> rfl) ?_
      refine r_istore_n (lv' := [(3, .int (nI (z_by i).length)), (2, .int 0), (0, .ref (g.2.2 (20 + i))), (1, .int ch)]) d_StringLatin1_indexOf_21 rfl (by decide) rfl ?_
      refine r_iload_n d_StringLatin1_indexOf_22 rfl 1 rfl ?_
      refine r_iload_n d_StringLatin1_indexOf_23 rfl 0 rfl ?_
      refine r_icmp_lt (tgt := 29) d_StringLatin1_indexOf_24 (by decide) (fun c_24 => ?_) (fun c_24 => ?_)
      · refine r_aload_n d_StringLatin1_indexOf_29 rfl 2 rfl ?_
        refine r_iload_n d_StringLatin1_indexOf_30 rfl 3 rfl ?_
        refine r_iload_n d_StringLatin1_indexOf_31 rfl 1 rfl ?_
        refine r_iload_n d_StringLatin1_indexOf_32 rfl 0 rfl ?_
        refine r_callS (As := [.ref (g.2.2 (20 + i)), .int ch, .int 0, .int (nI (z_by i).length)]) (rest := []) (csC := []) (is := []) ln_StringLatin1_95 w_st_StringLatin1_indexOfChar ok_StringLatin1_indexOf_StringLatin1_indexOfChar d_StringLatin1_indexOf_33 (C_SL_indexOfChar g i hi ch (z_b1 c_4).1 (z_b1 c_4).2) rfl rfl (Nat.le_of_ble_eq_true rfl) rfl (by decide) (by omega) (by omega) (fun E cs1 hx => ?_) (fun v cs1 hx => ?_)
        · exact absurd hx.1 (by simp)
        · obtain ⟨e1, rfl⟩ := hx
          cases e1
          refine ⟨rfl, ?_⟩
          refine r_st (st2 := [.int (z_ix i ch)]) rfl ?_
          refine r_cs (cs2 := []) rfl ?_
          refine r_iret d_StringLatin1_indexOf_36 rfl rfl ?_
          exact ⟨rfl, rfl⟩
      · exact absurd c_24 (by have := z_by5 i hi; exact fun h => h ((nI_ltI (a := 0) (by decide) (by omega)).mpr (by omega)))
    · refine r_iconst d_StringLatin1_indexOf_7 (v := (-1)) (by decide) ?_
      refine r_iret d_StringLatin1_indexOf_8 rfl rfl ?_
      exact ⟨by rw [z_ixo i ch hi (z_b0 c_4)], rfl⟩
abbrev M_String_indexOf_1 : zM := (⟨"java/lang/String", "indexOf", "(II)I"⟩, prog_30_method_80_code, 3, (Option.some FieldType.int), 6, 136, [])
theorem d_String_indexOf_1_0 : decode prog_30_method_80_code 0 = .ok (.aload_n 0, 1) := zo_42 (zd_b zq_prog_30_method_80_code_0 0 rfl rfl rfl)
theorem d_String_indexOf_1_1 : decode prog_30_method_80_code 1 = .ok (.invokevirtual 492, 3) := zo_182 (d := 1) (e := 236) (zd_b zq_prog_30_method_80_code_0 1 rfl rfl rfl) (zd_b zq_prog_30_method_80_code_0 2 rfl rfl rfl) (zd_b zq_prog_30_method_80_code_0 3 rfl rfl rfl)
theorem ok_String_indexOf_1_String_isLatin1 : z_ok M_String_indexOf_1 M_String_isLatin1 0 := ⟨z_mj3 (i := 66) rfl (by decide +kernel), rfl, ⟨by decide +kernel, by decide +kernel, by decide +kernel⟩, ⟨by decide, by decide⟩, z_mj1 (i := 15) rfl (by decide +kernel), rfl⟩
theorem ln_String_492 : Cond.methodLink "java/lang/String" 492 M_String_isLatin1.1 ∈ z_gw := z_mj3 (i := 63) rfl (by decide +kernel)
theorem w_im_String_isLatin1 : Cond.instanceMethod M_String_isLatin1.1 ∈ z_gw := z_mj3 (i := 64) rfl (by decide +kernel)
theorem w_se_String_isLatin1 : Cond.selects M_String_isLatin1.1.cls M_String_isLatin1.1 M_String_isLatin1.1 ∈ z_gw := z_mj3 (i := 65) rfl (by decide +kernel)
theorem d_String_indexOf_1_4 : decode prog_30_method_80_code 4 = .ok (.ifCond .eq 19, 3) := zo_153 (d := 0) (e := 19) (zd_b zq_prog_30_method_80_code_0 4 rfl rfl rfl) (zd_b zq_prog_30_method_80_code_0 5 rfl rfl rfl) (zd_b zq_prog_30_method_80_code_0 6 rfl rfl rfl) (by decide +kernel)
theorem d_String_indexOf_1_7 : decode prog_30_method_80_code 7 = .ok (.aload_n 0, 1) := zo_42 (zd_b zq_prog_30_method_80_code_0 7 rfl rfl rfl)
theorem d_String_indexOf_1_8 : decode prog_30_method_80_code 8 = .ok (.getfield 9, 3) := zo_180 (d := 0) (e := 9) (zd_b zq_prog_30_method_80_code_0 8 rfl rfl rfl) (zd_b zq_prog_30_method_80_code_0 9 rfl rfl rfl) (zd_b zq_prog_30_method_80_code_0 10 rfl rfl rfl)
theorem d_String_indexOf_1_11 : decode prog_30_method_80_code 11 = .ok (.iload_n 1, 1) := zo_27 (zd_b zq_prog_30_method_80_code_0 11 rfl rfl rfl)
theorem d_String_indexOf_1_12 : decode prog_30_method_80_code 12 = .ok (.iload_n 2, 1) := zo_28 (zd_b zq_prog_30_method_80_code_0 12 rfl rfl rfl)
theorem d_String_indexOf_1_13 : decode prog_30_method_80_code 13 = .ok (.aload_n 0, 1) := zo_42 (zd_b zq_prog_30_method_80_code_0 13 rfl rfl rfl)
theorem d_String_indexOf_1_14 : decode prog_30_method_80_code 14 = .ok (.invokevirtual 505, 3) := zo_182 (d := 1) (e := 249) (zd_b zq_prog_30_method_80_code_0 14 rfl rfl rfl) (zd_b zq_prog_30_method_80_code_0 15 rfl rfl rfl) (zd_b zq_prog_30_method_80_code_0 16 rfl rfl rfl)
theorem ok_String_indexOf_1_String_length : z_ok M_String_indexOf_1 M_String_length 0 := ⟨z_mj3 (i := 72) rfl (by decide +kernel), rfl, ⟨by decide +kernel, by decide +kernel, by decide +kernel⟩, ⟨by decide, by decide⟩, z_mj1 (i := 15) rfl (by decide +kernel), rfl⟩
theorem ln_String_505 : Cond.methodLink "java/lang/String" 505 M_String_length.1 ∈ z_gw := z_mj3 (i := 69) rfl (by decide +kernel)
theorem w_im_String_length : Cond.instanceMethod M_String_length.1 ∈ z_gw := z_mj3 (i := 70) rfl (by decide +kernel)
theorem w_se_String_length : Cond.selects M_String_length.1.cls M_String_length.1 M_String_length.1 ∈ z_gw := z_mj3 (i := 71) rfl (by decide +kernel)
theorem d_String_indexOf_1_17 : decode prog_30_method_80_code 17 = .ok (.invokestatic 637, 3) := zo_184 (d := 2) (e := 125) (zd_b zq_prog_30_method_80_code_0 17 rfl rfl rfl) (zd_b zq_prog_30_method_80_code_0 18 rfl rfl rfl) (zd_b zq_prog_30_method_80_code_0 19 rfl rfl rfl)
theorem ok_String_indexOf_1_StringLatin1_indexOf : z_ok M_String_indexOf_1 M_StringLatin1_indexOf 4 := ⟨z_mj3 (i := 79) rfl (by decide +kernel), rfl, ⟨by decide +kernel, by decide +kernel, by decide +kernel⟩, ⟨by decide, by decide⟩, z_mj1 (i := 16) rfl (by decide +kernel), rfl⟩
theorem ln_String_637 : Cond.methodLink "java/lang/String" 637 M_StringLatin1_indexOf.1 ∈ z_gw := z_mj3 (i := 77) rfl (by decide +kernel)
theorem w_st_StringLatin1_indexOf : Cond.static M_StringLatin1_indexOf.1 ∈ z_gw := z_mj3 (i := 78) rfl (by decide +kernel)
theorem d_String_indexOf_1_20 : decode prog_30_method_80_code 20 = .ok (.goto 16, 3) := zo_167 (d := 0) (e := 16) (zd_b zq_prog_30_method_80_code_0 20 rfl rfl rfl) (zd_b zq_prog_30_method_80_code_0 21 rfl rfl rfl) (zd_b zq_prog_30_method_80_code_0 22 rfl rfl rfl) (by decide +kernel)
theorem d_String_indexOf_1_36 : decode prog_30_method_80_code 36 = .ok (.ireturn, 1) := zo_172 (zd_b zq_prog_30_method_80_code_1 4 rfl rfl rfl)
set_option maxHeartbeats 4000000 in
set_option maxRecDepth 100000 in
theorem C_St_indexOf2 (g : zG) (i : Nat) (hi : i < 6) (ch : Int32) : CT g M_String_indexOf_1 [.ref (g.2.2 (5 + i)), .int ch, .int 0] [] (fun o cs1 => o = .inl (some (.int (z_ix i ch))) ∧ cs1 = []) 0 0 := by
  refine z_of (by decide) rfl (Nat.le_of_ble_eq_true rfl) (fun w0 => ?_)
  refine r_lvE (lv2 := [(0, .ref (g.2.2 (5 + i))), (1, .int ch), (2, .int 0)]) rfl ?_
  refine r_aload_n d_String_indexOf_1_0 rfl 0 rfl ?_
  refine r_callVS (As := []) (rest := []) (csC := []) (is := []) (i := i) (by first | assumption | decide) rfl ln_String_492 w_im_String_isLatin1 w_se_String_isLatin1 ok_String_indexOf_1_String_isLatin1 d_String_indexOf_1_1 (C_St_isLatin1 g i hi) rfl rfl (Nat.le_of_ble_eq_true rfl) rfl (by decide) (by omega) (by omega) (fun E cs1 hx => ?_) (fun v cs1 hx => ?_)
  · exact absurd hx.1 (by simp)
  · obtain ⟨e1, rfl⟩ := hx
    cases e1
    refine ⟨rfl, ?_⟩
    refine r_st (st2 := [.int 1]) rfl ?_
    refine r_cs (cs2 := []) rfl ?_
    refine r_if_eq (tgt := 23) d_String_indexOf_1_4 (by decide) (fun c_4 => ?_) (fun c_4 => ?_)
    · exact absurd c_4 (by decide)
    · refine r_aload_n d_String_indexOf_1_7 rfl 0 rfl ?_
      refine r_getSv (i := i) hi lf_String_9 d_String_indexOf_1_8 ?_
      refine r_iload_n d_String_indexOf_1_11 rfl 1 rfl ?_
      refine r_iload_n d_String_indexOf_1_12 rfl 2 rfl ?_
      refine r_aload_n d_String_indexOf_1_13 rfl 0 rfl ?_
      refine r_callVS (As := []) (rest := [.int 0, .int ch, .ref (g.2.2 (20 + i))]) (csC := []) (is := []) (i := i) (by first | assumption | decide) rfl ln_String_505 w_im_String_length w_se_String_length ok_String_indexOf_1_String_length d_String_indexOf_1_14 (C_St_length g i hi) rfl rfl (Nat.le_of_ble_eq_true rfl) rfl (by decide) (by omega) (by omega) (fun E cs1 hx => ?_) (fun v cs1 hx => ?_)
      · exact absurd hx.1 (by simp)
      · obtain ⟨e1, rfl⟩ := hx
        cases e1
        refine ⟨rfl, ?_⟩
        refine r_st (st2 := [.int (nI (z_by i).length), .int 0, .int ch, .ref (g.2.2 (20 + i))]) rfl ?_
        refine r_cs (cs2 := []) rfl ?_
        refine r_callS (As := [.ref (g.2.2 (20 + i)), .int ch, .int 0, .int (nI (z_by i).length)]) (rest := []) (csC := []) (is := []) ln_String_637 w_st_StringLatin1_indexOf ok_String_indexOf_1_StringLatin1_indexOf d_String_indexOf_1_17 (C_SL_indexOf g i hi ch) rfl rfl (Nat.le_of_ble_eq_true rfl) rfl (by decide) (by omega) (by omega) (fun E cs1 hx => ?_) (fun v cs1 hx => ?_)
        · exact absurd hx.1 (by simp)
        · obtain ⟨e1, rfl⟩ := hx
          cases e1
          refine ⟨rfl, ?_⟩
          refine r_st (st2 := [.int (z_ix i ch)]) rfl ?_
          refine r_cs (cs2 := []) rfl ?_
          refine r_goto (tgt := 36) d_String_indexOf_1_20 (by decide) ?_
          refine r_iret d_String_indexOf_1_36 rfl rfl ?_
          exact ⟨rfl, rfl⟩
abbrev M_String_indexOf_0 : zM := (⟨"java/lang/String", "indexOf", "(I)I"⟩, prog_30_method_79_code, 2, (Option.some FieldType.int), 7, 158, [])
theorem d_String_indexOf_0_0 : decode prog_30_method_79_code 0 = .ok (.aload_n 0, 1) := zo_42 (zd_b zq_prog_30_method_79_code_0 0 rfl rfl rfl)
theorem d_String_indexOf_0_1 : decode prog_30_method_79_code 1 = .ok (.iload_n 1, 1) := zo_27 (zd_b zq_prog_30_method_79_code_0 1 rfl rfl rfl)
theorem d_String_indexOf_0_2 : decode prog_30_method_79_code 2 = .ok (.iconst 0, 1) := zo_3 (zd_b zq_prog_30_method_79_code_0 2 rfl rfl rfl)
theorem d_String_indexOf_0_3 : decode prog_30_method_79_code 3 = .ok (.invokevirtual 633, 3) := zo_182 (d := 2) (e := 121) (zd_b zq_prog_30_method_79_code_0 3 rfl rfl rfl) (zd_b zq_prog_30_method_79_code_0 4 rfl rfl rfl) (zd_b zq_prog_30_method_79_code_0 5 rfl rfl rfl)
theorem ok_String_indexOf_0_String_indexOf_1 : z_ok M_String_indexOf_0 M_String_indexOf_1 2 := ⟨z_mj3 (i := 62) rfl (by decide +kernel), rfl, ⟨by decide +kernel, by decide +kernel, by decide +kernel⟩, ⟨by decide, by decide⟩, z_mj1 (i := 15) rfl (by decide +kernel), rfl⟩
theorem ln_String_633 : Cond.methodLink "java/lang/String" 633 M_String_indexOf_1.1 ∈ z_gw := z_mj3 (i := 59) rfl (by decide +kernel)
theorem w_im_String_indexOf_1 : Cond.instanceMethod M_String_indexOf_1.1 ∈ z_gw := z_mj3 (i := 60) rfl (by decide +kernel)
theorem w_se_String_indexOf_1 : Cond.selects M_String_indexOf_1.1.cls M_String_indexOf_1.1 M_String_indexOf_1.1 ∈ z_gw := z_mj3 (i := 61) rfl (by decide +kernel)
theorem d_String_indexOf_0_6 : decode prog_30_method_79_code 6 = .ok (.ireturn, 1) := zo_172 (zd_b zq_prog_30_method_79_code_0 6 rfl rfl rfl)
set_option maxHeartbeats 4000000 in
set_option maxRecDepth 100000 in
theorem C_St_indexOf (g : zG) (i : Nat) (hi : i < 6) (ch : Int32) : CT g M_String_indexOf_0 [.ref (g.2.2 (5 + i)), .int ch] [] (fun o cs1 => o = .inl (some (.int (z_ix i ch))) ∧ cs1 = []) 0 0 := by
  refine z_of (by decide) rfl (Nat.le_of_ble_eq_true rfl) (fun w0 => ?_)
  refine r_lvE (lv2 := [(0, .ref (g.2.2 (5 + i))), (1, .int ch)]) rfl ?_
  refine r_aload_n d_String_indexOf_0_0 rfl 0 rfl ?_
  refine r_iload_n d_String_indexOf_0_1 rfl 1 rfl ?_
  refine r_iconst d_String_indexOf_0_2 (v := 0) (by decide) ?_
  refine r_callVS (As := [.int ch, .int 0]) (rest := []) (csC := []) (is := []) (i := i) (by first | assumption | decide) rfl ln_String_633 w_im_String_indexOf_1 w_se_String_indexOf_1 ok_String_indexOf_0_String_indexOf_1 d_String_indexOf_0_3 (C_St_indexOf2 g i hi ch) rfl rfl (Nat.le_of_ble_eq_true rfl) rfl (by decide) (by omega) (by omega) (fun E cs1 hx => ?_) (fun v cs1 hx => ?_)
  · exact absurd hx.1 (by simp)
  · obtain ⟨e1, rfl⟩ := hx
    cases e1
    refine ⟨rfl, ?_⟩
    refine r_st (st2 := [.int (z_ix i ch)]) rfl ?_
    refine r_cs (cs2 := []) rfl ?_
    refine r_iret d_String_indexOf_0_6 rfl rfl ?_
    exact ⟨rfl, rfl⟩
abbrev M_Arrays_fill : zM := (⟨"java/util/Arrays", "fill", "([II)V"⟩, prog_41_method_103_code, 4, (Option.none : Option FieldType), 1, 20, [])
theorem d_Arrays_fill_5 : decode prog_41_method_103_code 5 = .ok (.iload_n 2, 1) := zo_28 (zd_b zq_prog_41_method_103_code_0 5 rfl rfl rfl)
theorem d_Arrays_fill_6 : decode prog_41_method_103_code 6 = .ok (.iload_n 3, 1) := zo_29 (zd_b zq_prog_41_method_103_code_0 6 rfl rfl rfl)
theorem d_Arrays_fill_7 : decode prog_41_method_103_code 7 = .ok (.if_icmp .ge 13, 3) := zo_162 (d := 0) (e := 13) (zd_b zq_prog_41_method_103_code_0 7 rfl rfl rfl) (zd_b zq_prog_41_method_103_code_0 8 rfl rfl rfl) (zd_b zq_prog_41_method_103_code_0 9 rfl rfl rfl) (by decide +kernel)
theorem d_Arrays_fill_20 : decode prog_41_method_103_code 20 = .ok (.return_, 1) := zo_177 (zd_b zq_prog_41_method_103_code_0 20 rfl rfl rfl)
theorem d_Arrays_fill_10 : decode prog_41_method_103_code 10 = .ok (.aload_n 0, 1) := zo_42 (zd_b zq_prog_41_method_103_code_0 10 rfl rfl rfl)
theorem d_Arrays_fill_11 : decode prog_41_method_103_code 11 = .ok (.iload_n 2, 1) := zo_28 (zd_b zq_prog_41_method_103_code_0 11 rfl rfl rfl)
theorem d_Arrays_fill_12 : decode prog_41_method_103_code 12 = .ok (.iload_n 1, 1) := zo_27 (zd_b zq_prog_41_method_103_code_0 12 rfl rfl rfl)
theorem d_Arrays_fill_13 : decode prog_41_method_103_code 13 = .ok (.iastore, 1) := zo_79 (zd_b zq_prog_41_method_103_code_0 13 rfl rfl rfl)
theorem d_Arrays_fill_14 : decode prog_41_method_103_code 14 = .ok (.iinc 2 1, 3) := by decide +kernel
theorem d_Arrays_fill_17 : decode prog_41_method_103_code 17 = .ok (.goto (-12), 3) := zo_167 (d := 255) (e := 244) (zd_b zq_prog_41_method_103_code_0 17 rfl rfl rfl) (zd_b zq_prog_41_method_103_code_0 18 rfl rfl rfl) (zd_b zq_prog_41_method_103_code_0 19 rfl rfl rfl) (by decide +kernel)
theorem d_Arrays_fill_0 : decode prog_41_method_103_code 0 = .ok (.iconst 0, 1) := zo_3 (zd_b zq_prog_41_method_103_code_0 0 rfl rfl rfl)
theorem d_Arrays_fill_1 : decode prog_41_method_103_code 1 = .ok (.istore_n 2, 1) := zo_61 (zd_b zq_prog_41_method_103_code_0 1 rfl rfl rfl)
theorem d_Arrays_fill_2 : decode prog_41_method_103_code 2 = .ok (.aload_n 0, 1) := zo_42 (zd_b zq_prog_41_method_103_code_0 2 rfl rfl rfl)
theorem d_Arrays_fill_3 : decode prog_41_method_103_code 3 = .ok (.arraylength, 1) := zo_190 (zd_b zq_prog_41_method_103_code_0 3 rfl rfl rfl)
theorem d_Arrays_fill_4 : decode prog_41_method_103_code 4 = .ok (.istore_n 3, 1) := zo_62 (zd_b zq_prog_41_method_103_code_0 4 rfl rfl rfl)
set_option maxHeartbeats 4000000 in
set_option maxRecDepth 100000 in
theorem L_Ar_fill_5 (g : zG) (a : Nat) (v : Int32) (f : Nat → Int32) (w0 : zW) (n : Nat) : ∀ (d i : Nat), i ≤ 108 → 108 < i + d → DV g M_Arrays_fill (fun o cs1 => o = .inl none ∧ cs1 = [(a, .inl (0, 108, .inl (fa_fill (fun _ => v) f 108)))]) w0 n 5 [(2, .int (nI i)), (3, .int 108), (0, .ref a), (1, .int v)] [] [(a, .inl (0, 108, .inl (fa_fill (fun _ => v) f i)))] 0 0 := by
  intro d
  induction d with
  | zero => intro i h1 h2 ; exact absurd h2 (by omega)
  | succ d ih =>
    intro i h1 h2 
    refine r_iload_n d_Arrays_fill_5 rfl 0 rfl ?_
    refine r_iload_n d_Arrays_fill_6 rfl 1 rfl ?_
    refine r_icmp_ge (tgt := 20) d_Arrays_fill_7 (by decide) (fun c_7 => ?_) (fun c_7 => ?_)
    · have hn := z_le (a := 108) (by omega) (by decide) c_7
      obtain rfl : i = 108 := by omega
      refine r_vret d_Arrays_fill_20 rfl ?_
      exact ⟨rfl, rfl⟩
    · have hn := z_nle (a := 108) (by omega) (by decide) c_7
      refine r_aload_n d_Arrays_fill_10 rfl 2 rfl ?_
      refine r_iload_n d_Arrays_fill_11 rfl 0 rfl ?_
      refine r_iload_n d_Arrays_fill_12 rfl 3 rfl ?_
      refine r_iast d_Arrays_fill_13 (q0 := 0) rfl (vp_in_nI (by omega) (by omega)) (f' := fa_fill (fun _ => v) f (i + 1)) (by rw [nI_clamp (by omega)]; exact fill_nI v f i) (cs' := [(a, .inl (0, 108, .inl (fa_fill (fun _ => v) f (i + 1))))]) rfl ?_
      refine r_iinc (lv' := [(2, .int (nI (i + 1))), (3, .int 108), (0, .ref a), (1, .int v)]) (v := nI (i + 1)) d_Arrays_fill_14 (j := 0) rfl (nI_add _ _) (by decide) rfl ?_
      refine r_goto (tgt := 5) d_Arrays_fill_17 (by decide) ?_
      refine r_lvE (lv2 := [(2, .int (nI (i + 1))), (3, .int 108), (0, .ref a), (1, .int v)]) (rfl) ?_
      refine r_cs (cs2 := [(a, .inl (0, 108, .inl (fa_fill (fun _ => v) f (i + 1))))]) (rfl) ?_
      exact ih (i + 1) (by omega) (by omega)
set_option maxHeartbeats 4000000 in
set_option maxRecDepth 100000 in
theorem C_Ar_fill (g : zG) (a : Nat) (v : Int32) (f : Nat → Int32) : CT g M_Arrays_fill [.ref a, .int v] [(a, .inl (0, 108, .inl f))] (fun o cs1 => o = .inl none ∧ cs1 = [(a, .inl (0, 108, .inl (fa_fill (fun _ => v) f 108)))]) 0 0 := by
  refine z_of (by decide) rfl (Nat.le_of_ble_eq_true rfl) (fun w0 => ?_)
  refine r_lvE (lv2 := [(0, .ref a), (1, .int v)]) rfl ?_
  refine r_iconst d_Arrays_fill_0 (v := 0) (by decide) ?_
  refine r_istore_n (lv' := [(2, .int 0), (0, .ref a), (1, .int v)]) d_Arrays_fill_1 rfl (by decide) rfl ?_
  refine r_aload_n d_Arrays_fill_2 rfl 1 rfl ?_
  refine r_alen d_Arrays_fill_3 (q0 := 0) rfl rfl (v := 108) rfl ?_
  refine r_istore_n (lv' := [(3, .int 108), (2, .int 0), (0, .ref a), (1, .int v)]) d_Arrays_fill_4 rfl (by decide) rfl ?_
  refine r_lv (lv' := [(2, .int 0), (3, .int 108), (0, .ref a), (1, .int v)]) [1, 0, 2, 3] rfl ?_
  refine r_lvE (lv2 := [(2, .int (nI 0)), (3, .int 108), (0, .ref a), (1, .int v)]) (rfl) ?_
  refine r_cs (cs2 := [(a, .inl (0, 108, .inl (fa_fill (fun _ => v) f 0)))]) (rfl) ?_
  exact L_Ar_fill_5 g a v f w0 _  (108 + 1) 0 (Nat.zero_le _) (by omega)
abbrev M_Tr_take : zM := (⟨"Ironpour$Trial", "take", "([C)V"⟩, prog_12_method_2_code, 2, (Option.none : Option FieldType), 2, 100, [])
theorem d_Tr_take_0 : decode prog_12_method_2_code 0 = .ok (.aload_n 1, 1) := zo_43 (zd_b zq_prog_12_method_2_code_0 0 rfl rfl rfl)
theorem d_Tr_take_1 : decode prog_12_method_2_code 1 = .ok (.iconst 0, 1) := zo_3 (zd_b zq_prog_12_method_2_code_0 1 rfl rfl rfl)
theorem d_Tr_take_2 : decode prog_12_method_2_code 2 = .ok (.aload_n 0, 1) := zo_42 (zd_b zq_prog_12_method_2_code_0 2 rfl rfl rfl)
theorem d_Tr_take_3 : decode prog_12_method_2_code 3 = .ok (.getfield 9, 3) := zo_180 (d := 0) (e := 9) (zd_b zq_prog_12_method_2_code_0 3 rfl rfl rfl) (zd_b zq_prog_12_method_2_code_0 4 rfl rfl rfl) (zd_b zq_prog_12_method_2_code_0 5 rfl rfl rfl)
theorem d_Tr_take_6 : decode prog_12_method_2_code 6 = .ok (.iconst 0, 1) := zo_3 (zd_b zq_prog_12_method_2_code_0 6 rfl rfl rfl)
theorem d_Tr_take_7 : decode prog_12_method_2_code 7 = .ok (.bipush 108, 2) := zo_16 (d := 108) (zd_b zq_prog_12_method_2_code_0 7 rfl rfl rfl) (zd_b zq_prog_12_method_2_code_0 8 rfl rfl rfl) (by decide +kernel)
theorem d_Tr_take_9 : decode prog_12_method_2_code 9 = .ok (.invokestatic 36, 3) := zo_184 (d := 0) (e := 36) (zd_b zq_prog_12_method_2_code_0 9 rfl rfl rfl) (zd_b zq_prog_12_method_2_code_0 10 rfl rfl rfl) (zd_b zq_prog_12_method_2_code_0 11 rfl rfl rfl)
theorem ln_Tr_36 : Cond.methodLink "Ironpour$Trial" 36 arraycopyName ∈ z_gw := z_mj3 (i := 226) rfl (by decide +kernel)
theorem w_ac1 : Cond.native arraycopyName ∈ z_gw := z_mj3 (i := 228) rfl (by decide +kernel)
theorem w_ac2 : Cond.static arraycopyName ∈ z_gw := z_mj3 (i := 227) rfl (by decide +kernel)
theorem w_ac3 : Cond.initialized "java/lang/System" ∈ z_gw := z_mj1 (i := 25) rfl (by decide +kernel)
theorem d_Tr_take_12 : decode prog_12_method_2_code 12 = .ok (.aload_n 0, 1) := zo_42 (zd_b zq_prog_12_method_2_code_0 12 rfl rfl rfl)
theorem d_Tr_take_13 : decode prog_12_method_2_code 13 = .ok (.iconst 0, 1) := zo_3 (zd_b zq_prog_12_method_2_code_0 13 rfl rfl rfl)
theorem d_Tr_take_14 : decode prog_12_method_2_code 14 = .ok (.putfield 42, 3) := zo_181 (d := 0) (e := 42) (zd_b zq_prog_12_method_2_code_0 14 rfl rfl rfl) (zd_b zq_prog_12_method_2_code_0 15 rfl rfl rfl) (zd_b zq_prog_12_method_2_code_0 16 rfl rfl rfl)
theorem fp_Tr_42 : z_fp "Ironpour$Trial" 42 10 6 false .boolean := ⟨R_Tr, "Ironpour$Trial", F_Tr, 8, t_Tr, rfl, u_Tr, by decide, t_Tr_ok, n_Tr, rfl, rfl, Or.inl ⟨z_mj1 (i := 119) rfl (by decide +kernel), Or.inl rfl, fun h => nomatch h⟩⟩
theorem d_Tr_take_17 : decode prog_12_method_2_code 17 = .ok (.aload_n 0, 1) := zo_42 (zd_b zq_prog_12_method_2_code_0 17 rfl rfl rfl)
theorem d_Tr_take_18 : decode prog_12_method_2_code 18 = .ok (.iconst 0, 1) := zo_3 (zd_b zq_prog_12_method_2_code_0 18 rfl rfl rfl)
theorem d_Tr_take_19 : decode prog_12_method_2_code 19 = .ok (.putfield 46, 3) := zo_181 (d := 0) (e := 46) (zd_b zq_prog_12_method_2_code_0 19 rfl rfl rfl) (zd_b zq_prog_12_method_2_code_0 20 rfl rfl rfl) (zd_b zq_prog_12_method_2_code_0 21 rfl rfl rfl)
theorem fp_Tr_46 : z_fp "Ironpour$Trial" 46 10 7 false .int := ⟨R_Tr, "Ironpour$Trial", F_Tr, 8, t_Tr, rfl, u_Tr, by decide, t_Tr_ok, n_Tr, rfl, rfl, Or.inl ⟨z_mj1 (i := 120) rfl (by decide +kernel), Or.inl rfl, fun h => nomatch h⟩⟩
theorem d_Tr_take_22 : decode prog_12_method_2_code 22 = .ok (.return_, 1) := zo_177 (zd_b zq_prog_12_method_2_code_0 22 rfl rfl rfl)
set_option maxHeartbeats 4000000 in
set_option maxRecDepth 100000 in
theorem C_Tr_take (g : zG) (a a1 a2 az a4 a5 a6 : Nat) (run fo : Int32) (b : Nat) (f ce : Nat → Int32) (hf : z_ch f) : CT g M_Tr_take [.ref a, .ref b] [(a, .inr (10, [.ref a1, .ref a2, .ref az, .ref a4, .ref a5, .ref a6, .int run, .int fo])), (a1, .inl (1, 108, .inl ce)), (b, .inl (1, 108, .inl f))] (fun o cs1 => o = .inl none ∧ cs1 = [(a, .inr (10, [.ref a1, .ref a2, .ref az, .ref a4, .ref a5, .ref a6, .int 0, .int 0])), (a1, .inl (1, 108, .inl (fa_fill f ce 108))), (b, .inl (1, 108, .inl f))]) 0 0 := by
  refine z_of (by decide) rfl (Nat.le_of_ble_eq_true rfl) (fun w0 => ?_)
  refine r_lvE (lv2 := [(0, .ref a), (1, .ref b)]) rfl ?_
  refine r_aload_n d_Tr_take_0 rfl 1 rfl ?_
  refine r_iconst d_Tr_take_1 (v := 0) (by decide) ?_
  refine r_aload_n d_Tr_take_2 rfl 0 rfl ?_
  refine r_get fs_Tr_9 d_Tr_take_3 (q0 := 0) rfl rfl ?_
  refine r_iconst d_Tr_take_6 (v := 0) (by decide) ?_
  refine r_bipush d_Tr_take_7 (v := 108) (by decide) ?_
  refine r_copyc (m := 108) (f' := fa_fill f ce 108) (q0 := 2) (q1 := 1) (cs' := [(a, .inr (10, [.ref a1, .ref a2, .ref az, .ref a4, .ref a5, .ref a6, .int run, .int fo])), (a1, .inl (1, 108, .inl (fa_fill f ce 108))), (b, .inl (1, 108, .inl f))]) rfl ln_Tr_36 w_ac1 w_ac2 w_ac3 d_Tr_take_9 rfl rfl (by decide) (by decide) (by decide) (fun i hi => z_kind_f (hf i hi)) rfl rfl (by decide) (by decide +kernel) (Nat.le_of_ble_eq_true rfl) ?_
  refine r_aload_n d_Tr_take_12 rfl 0 rfl ?_
  refine r_iconst d_Tr_take_13 (v := 0) (by decide) ?_
  refine r_put fp_Tr_42 d_Tr_take_14 (fun h => nomatch h) (by decide) (by decide) (q0 := 0) rfl (Nat.le_of_ble_eq_true rfl) (cs' := [(a, .inr (10, [.ref a1, .ref a2, .ref az, .ref a4, .ref a5, .ref a6, .int 0, .int fo])), (a1, .inl (1, 108, .inl (fa_fill f ce 108))), (b, .inl (1, 108, .inl f))]) rfl ?_
  refine r_aload_n d_Tr_take_17 rfl 0 rfl ?_
  refine r_iconst d_Tr_take_18 (v := 0) (by decide) ?_
  refine r_put fp_Tr_46 d_Tr_take_19 (fun h => nomatch h) rfl rfl (q0 := 0) rfl (Nat.le_of_ble_eq_true rfl) (cs' := [(a, .inr (10, [.ref a1, .ref a2, .ref az, .ref a4, .ref a5, .ref a6, .int 0, .int 0])), (a1, .inl (1, 108, .inl (fa_fill f ce 108))), (b, .inl (1, 108, .inl f))]) rfl ?_
  refine r_vret d_Tr_take_22 rfl ?_
  exact ⟨rfl, rfl⟩
end
