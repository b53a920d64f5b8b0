set_option maxHeartbeats 4000000 in
set_option maxRecDepth 100000 in
theorem L_Pa_paint_10 (g : zG) (a a1 a2 a3 : Nat) (f sn qu : Nat → Int32) (part : Int32) (k : Int32) (hk : z_kind k) (x y u v : Nat) (hx : x + u ≤ 12) (hy : y + v ≤ 9) (w0 : zW) (n : Nat) : ∀ (d i : Nat), i ≤ v → v < i + d → DV g M_Pa_paint (fun o cs1 => o = .inl (some (.int (nI (prect k x y u (f, 0) v).2))) ∧ cs1 = [(a, .inr (8, [.ref a1, .ref a2, .ref a3, .int part])), (a1, .inl (1, 108, .inl ((prect k x y u (f, 0) v).1))), (a2, .inl (2, 108, .inl sn)), (a3, .inl (0, 108, .inl qu))]) w0 n 10 [(6, .int (nI (prect k x y u (f, 0) i).2)), (7, .int (nI (y + i))), (5, .int (nI v)), (4, .int (nI u)), (3, .int (nI y)), (2, .int (nI x)), (1, .int k), (0, .ref a)] [] [(a, .inr (8, [.ref a1, .ref a2, .ref a3, .int part])), (a1, .inl (1, 108, .inl ((prect k x y u (f, 0) i).1))), (a2, .inl (2, 108, .inl sn)), (a3, .inl (0, 108, .inl qu))] 0 0 := by
  intro d
  induction d with
  | zero => intro i h1 h2 ; exact absurd h2 (by omega)
  | succ d ih =>
    intro i h1 h2 
    refine r_iload d_Pa_paint_10 1 rfl ?_
    refine r_iload_n d_Pa_paint_12 rfl 4 rfl ?_
    refine r_iload d_Pa_paint_13 2 rfl ?_
    refine r_iadd d_Pa_paint_15 (v := nI (y + v)) (nI_add _ _) ?_
    refine r_icmp_ge (tgt := 93) d_Pa_paint_16 (by decide) (fun c_16 => ?_) (fun c_16 => ?_)
    · have hn := z_le (a := y + v) (by omega) (by omega) c_16
      have hv : i = v := by omega
      subst hv
      refine r_iload d_Pa_paint_93 0 rfl ?_
      refine r_iret d_Pa_paint_95 rfl rfl ?_
      exact ⟨rfl, rfl⟩
    · have hn := z_nle (a := y + v) (by omega) (by omega) c_16
      refine r_iload d_Pa_paint_19 1 rfl ?_
      refine r_bipush d_Pa_paint_21 (v := 9) (by decide) ?_
      refine r_icmp_ge (tgt := 93) d_Pa_paint_23 (by decide) (fun c_23 => ?_) (fun c_23 => ?_)
      · exact absurd (z_le (a := 9) (by omega) (by decide) c_23) (by omega)
      · refine r_iload_n d_Pa_paint_26 rfl 5 rfl ?_
        refine r_iconst d_Pa_paint_27 (v := 0) (by decide) ?_
        refine r_max (v := nI x) ln_Pa_27 w_mmax w_mi w_cmax d_Pa_paint_28 (by decide) (by decide) (Nat.le_of_ble_eq_true rfl) (by rw [if_neg (nI_pos (by omega))]) ?_
        refine r_istore (lv' := [(8, .int (nI x)), (6, .int (nI (prect k x y u (f, 0) i).2)), (7, .int (nI (y + i))), (5, .int (nI v)), (4, .int (nI u)), (3, .int (nI y)), (2, .int (nI x)), (1, .int k), (0, .ref a)]) d_Pa_paint_31 (by decide) rfl ?_
        refine r_lvE (lv2 := [(8, .int (nI (x + 0))), (6, .int (nI (prow k (12 * (y + i) + x) (prect k x y u (f, 0) i) 0).2)), (7, .int (nI (y + i))), (5, .int (nI v)), (4, .int (nI u)), (3, .int (nI y)), (2, .int (nI x)), (1, .int k), (0, .ref a)]) (rfl) ?_
        refine r_cs (cs2 := [(a, .inr (8, [.ref a1, .ref a2, .ref a3, .int part])), (a1, .inl (1, 108, .inl ((prow k (12 * (y + i) + x) (prect k x y u (f, 0) i) 0).1))), (a2, .inl (2, 108, .inl sn)), (a3, .inl (0, 108, .inl qu))]) (rfl) ?_
        refine L_Pa_paint_33 g a a1 a2 a3 f sn qu part k hk x y u v hx hy w0 _ i (by omega) (?_) (u + 1) 0 (Nat.zero_le _) (by omega)
        refine r_iinc (lv' := [(7, .int (nI ((y + i) + 1))), (8, .int (nI (x + u))), (6, .int (nI (prow k (12 * (y + i) + x) (prect k x y u (f, 0) i) u).2)), (5, .int (nI v)), (4, .int (nI u)), (3, .int (nI y)), (2, .int (nI x)), (1, .int k), (0, .ref a)]) (v := nI ((y + i) + 1)) d_Pa_paint_87 (j := 2) rfl (nI_add _ _) (by decide) rfl ?_
        refine r_goto (tgt := 10) d_Pa_paint_90 (by decide) ?_
        refine r_lv (lv' := [(6, .int (nI (prow k (12 * (y + i) + x) (prect k x y u (f, 0) i) u).2)), (7, .int (nI ((y + i) + 1))), (5, .int (nI v)), (4, .int (nI u)), (3, .int (nI y)), (2, .int (nI x)), (1, .int k), (0, .ref a)]) [2, 0, 3, 4, 5, 6, 7, 8] rfl ?_
        refine r_lvE (lv2 := [(6, .int (nI (prect k x y u (f, 0) (i + 1)).2)), (7, .int (nI (y + (i + 1)))), (5, .int (nI v)), (4, .int (nI u)), (3, .int (nI y)), (2, .int (nI x)), (1, .int k), (0, .ref a)]) (rfl) ?_
        refine r_cs (cs2 := [(a, .inr (8, [.ref a1, .ref a2, .ref a3, .int part])), (a1, .inl (1, 108, .inl ((prect k x y u (f, 0) (i + 1)).1))), (a2, .inl (2, 108, .inl sn)), (a3, .inl (0, 108, .inl qu))]) (rfl) ?_
        exact ih (i + 1) (by omega) (by omega)
set_option maxHeartbeats 4000000 in
set_option maxRecDepth 100000 in
theorem C_Pa_paint (g : zG) (a a1 a2 a3 : Nat) (f sn qu : Nat → Int32) (part : Int32) (k : Int32) (hk : z_kind k) (x y u v : Nat) (hx : x + u ≤ 12) (hy : y + v ≤ 9) : CT g M_Pa_paint [.ref a, .int k, .int (nI x), .int (nI y), .int (nI u), .int (nI v)] [(a, .inr (8, [.ref a1, .ref a2, .ref a3, .int part])), (a1, .inl (1, 108, .inl f)), (a2, .inl (2, 108, .inl sn)), (a3, .inl (0, 108, .inl qu))] (fun o cs1 => o = .inl (some (.int (nI (prect k x y u (f, 0) v).2))) ∧ cs1 = [(a, .inr (8, [.ref a1, .ref a2, .ref a3, .int part])), (a1, .inl (1, 108, .inl ((prect k x y u (f, 0) v).1))), (a2, .inl (2, 108, .inl sn)), (a3, .inl (0, 108, .inl qu))]) 0 0 := by
  refine z_of (by decide) rfl (Nat.le_of_ble_eq_true rfl) (fun w0 => ?_)
  refine r_lvE (lv2 := [(0, .ref a), (1, .int k), (2, .int (nI x)), (3, .int (nI y)), (4, .int (nI u)), (5, .int (nI v))]) rfl ?_
  refine r_iconst d_Pa_paint_0 (v := 0) (by decide) ?_
  refine r_istore (lv' := [(6, .int 0), (0, .ref a), (1, .int k), (2, .int (nI x)), (3, .int (nI y)), (4, .int (nI u)), (5, .int (nI v))]) d_Pa_paint_1 (by decide) rfl ?_
  refine r_iload_n d_Pa_paint_3 rfl 4 rfl ?_
  refine r_iconst d_Pa_paint_4 (v := 0) (by decide) ?_
  refine r_max (v := nI y) ln_Pa_27 w_mmax w_mi w_cmax d_Pa_paint_5 (by decide) (by decide) (Nat.le_of_ble_eq_true rfl) (by rw [if_neg (nI_pos (by omega))]) ?_
  refine r_istore (lv' := [(7, .int (nI y)), (6, .int 0), (0, .ref a), (1, .int k), (2, .int (nI x)), (3, .int (nI y)), (4, .int (nI u)), (5, .int (nI v))]) d_Pa_paint_8 (by decide) rfl ?_
  refine r_lv (lv' := [(6, .int 0), (7, .int (nI y)), (5, .int (nI v)), (4, .int (nI u)), (3, .int (nI y)), (2, .int (nI x)), (1, .int k), (0, .ref a)]) [1, 0, 7, 6, 5, 4, 3, 2] rfl ?_
  refine r_lvE (lv2 := [(6, .int (nI (prect k x y u (f, 0) 0).2)), (7, .int (nI (y + 0))), (5, .int (nI v)), (4, .int (nI u)), (3, .int (nI y)), (2, .int (nI x)), (1, .int k), (0, .ref a)]) (rfl) ?_
  refine r_cs (cs2 := [(a, .inr (8, [.ref a1, .ref a2, .ref a3, .int part])), (a1, .inl (1, 108, .inl ((prect k x y u (f, 0) 0).1))), (a2, .inl (2, 108, .inl sn)), (a3, .inl (0, 108, .inl qu))]) (rfl) ?_
  exact L_Pa_paint_10 g a a1 a2 a3 f sn qu part k hk x y u v hx hy w0 _  (v + 1) 0 (Nat.zero_le _) (by omega)
abbrev M_Fz_heatWhenFilled : zM := (⟨"Ironpour$Freezing", "heatWhenFilled", "(II)I"⟩, prog_4_method_2_code, 2, (Option.some FieldType.int), 1, 20, [])
theorem d_Fz_heatWhenFilled_0 : decode prog_4_method_2_code 0 = .ok (.iload_n 0, 1) := zo_26 (zd_b zq_prog_4_method_2_code_0 0 rfl rfl rfl)
theorem d_Fz_heatWhenFilled_1 : decode prog_4_method_2_code 1 = .ok (.iconst 2, 1) := zo_5 (zd_b zq_prog_4_method_2_code_0 1 rfl rfl rfl)
theorem d_Fz_heatWhenFilled_2 : decode prog_4_method_2_code 2 = .ok (.iload_n 1, 1) := zo_27 (zd_b zq_prog_4_method_2_code_0 2 rfl rfl rfl)
theorem d_Fz_heatWhenFilled_3 : decode prog_4_method_2_code 3 = .ok (.imul, 1) := zo_104 (zd_b zq_prog_4_method_2_code_0 3 rfl rfl rfl)
theorem d_Fz_heatWhenFilled_4 : decode prog_4_method_2_code 4 = .ok (.isub, 1) := zo_100 (zd_b zq_prog_4_method_2_code_0 4 rfl rfl rfl)
theorem d_Fz_heatWhenFilled_5 : decode prog_4_method_2_code 5 = .ok (.ireturn, 1) := zo_172 (zd_b zq_prog_4_method_2_code_0 5 rfl rfl rfl)
set_option maxHeartbeats 4000000 in
set_option maxRecDepth 100000 in
theorem C_Fz_hwf (g : zG) (h s : Int32) : CT g M_Fz_heatWhenFilled [.int h, .int s] [] (fun o cs1 => o = .inl (some (.int (z_hwf h s))) ∧ cs1 = []) 0 0 := by
  refine z_of (by decide) rfl (Nat.le_of_ble_eq_true rfl) (fun w0 => ?_)
  refine r_lvE (lv2 := [(0, .int h), (1, .int s)]) rfl ?_
  refine r_iload_n d_Fz_heatWhenFilled_0 rfl 0 rfl ?_
  refine r_iconst d_Fz_heatWhenFilled_1 (v := 2) (by decide) ?_
  refine r_iload_n d_Fz_heatWhenFilled_2 rfl 1 rfl ?_
  refine r_imul d_Fz_heatWhenFilled_3 (v := 2 * s) rfl ?_
  refine r_isub d_Fz_heatWhenFilled_4 (v := h - (2 * s)) rfl ?_
  refine r_iret d_Fz_heatWhenFilled_5 rfl rfl ?_
  exact ⟨rfl, rfl⟩
abbrev M_Fz_becomeHeat : zM := (⟨"Ironpour$Freezing", "becomeHeat", "(III)V"⟩, prog_4_method_8_code, 4, (Option.none : Option FieldType), 1, 20, [])
theorem d_Fz_becomeHeat_0 : decode prog_4_method_8_code 0 = .ok (.aload_n 0, 1) := zo_42 (zd_b zq_prog_4_method_8_code_0 0 rfl rfl rfl)
theorem d_Fz_becomeHeat_1 : decode prog_4_method_8_code 1 = .ok (.getfield 21, 3) := zo_180 (d := 0) (e := 21) (zd_b zq_prog_4_method_8_code_0 1 rfl rfl rfl) (zd_b zq_prog_4_method_8_code_0 2 rfl rfl rfl) (zd_b zq_prog_4_method_8_code_0 3 rfl rfl rfl)
theorem fs_Fz_21 : z_fs "Ironpour$Freezing" 21 2 3 := ⟨R_Fz, "Ironpour$Freezing", F_Fz, 7, rfl, u_Fz, by decide, Or.inl ⟨z_mj1 (i := 87) rfl (by decide +kernel), Or.inl rfl⟩⟩
theorem d_Fz_becomeHeat_4 : decode prog_4_method_8_code 4 = .ok (.iload_n 1, 1) := zo_27 (zd_b zq_prog_4_method_8_code_0 4 rfl rfl rfl)
theorem d_Fz_becomeHeat_5 : decode prog_4_method_8_code 5 = .ok (.iaload, 1) := zo_46 (zd_b zq_prog_4_method_8_code_0 5 rfl rfl rfl)
theorem d_Fz_becomeHeat_6 : decode prog_4_method_8_code 6 = .ok (.sipush 401, 3) := zo_17 (d := 1) (e := 145) (zd_b zq_prog_4_method_8_code_0 6 rfl rfl rfl) (zd_b zq_prog_4_method_8_code_0 7 rfl rfl rfl) (zd_b zq_prog_4_method_8_code_0 8 rfl rfl rfl) (by decide +kernel)
theorem d_Fz_becomeHeat_9 : decode prog_4_method_8_code 9 = .ok (.if_icmp .ne 10, 3) := zo_160 (d := 0) (e := 10) (zd_b zq_prog_4_method_8_code_0 9 rfl rfl rfl) (zd_b zq_prog_4_method_8_code_0 10 rfl rfl rfl) (zd_b zq_prog_4_method_8_code_0 11 rfl rfl rfl) (by decide +kernel)
theorem d_Fz_becomeHeat_19 : decode prog_4_method_8_code 19 = .ok (.aload_n 0, 1) := zo_42 (zd_b zq_prog_4_method_8_code_0 19 rfl rfl rfl)
theorem d_Fz_becomeHeat_20 : decode prog_4_method_8_code 20 = .ok (.getfield 9, 3) := zo_180 (d := 0) (e := 9) (zd_b zq_prog_4_method_8_code_0 20 rfl rfl rfl) (zd_b zq_prog_4_method_8_code_0 21 rfl rfl rfl) (zd_b zq_prog_4_method_8_code_0 22 rfl rfl rfl)
theorem fs_Fz_9 : z_fs "Ironpour$Freezing" 9 2 0 := ⟨R_Fz, "Ironpour$Freezing", F_Fz, 7, rfl, u_Fz, by decide, Or.inl ⟨z_mj1 (i := 83) rfl (by decide +kernel), Or.inl rfl⟩⟩
theorem d_Fz_becomeHeat_23 : decode prog_4_method_8_code 23 = .ok (.iload_n 1, 1) := zo_27 (zd_b zq_prog_4_method_8_code_0 23 rfl rfl rfl)
theorem d_Fz_becomeHeat_24 : decode prog_4_method_8_code 24 = .ok (.iload_n 2, 1) := zo_28 (zd_b zq_prog_4_method_8_code_0 24 rfl rfl rfl)
theorem d_Fz_becomeHeat_25 : decode prog_4_method_8_code 25 = .ok (.iastore, 1) := zo_79 (zd_b zq_prog_4_method_8_code_0 25 rfl rfl rfl)
theorem d_Fz_becomeHeat_26 : decode prog_4_method_8_code 26 = .ok (.return_, 1) := zo_177 (zd_b zq_prog_4_method_8_code_0 26 rfl rfl rfl)
theorem d_Fz_becomeHeat_12 : decode prog_4_method_8_code 12 = .ok (.iload_n 2, 1) := zo_28 (zd_b zq_prog_4_method_8_code_0 12 rfl rfl rfl)
theorem d_Fz_becomeHeat_13 : decode prog_4_method_8_code 13 = .ok (.sipush 1150, 3) := zo_17 (d := 4) (e := 126) (zd_b zq_prog_4_method_8_code_0 13 rfl rfl rfl) (zd_b zq_prog_4_method_8_code_0 14 rfl rfl rfl) (zd_b zq_prog_4_method_8_code_0 15 rfl rfl rfl) (by decide +kernel)
theorem d_Fz_becomeHeat_16 : decode prog_4_method_8_code 16 = .ok (.if_icmp .lt 11, 3) := zo_161 (d := 0) (e := 11) (zd_b zq_prog_4_method_8_code_0 16 rfl rfl rfl) (zd_b zq_prog_4_method_8_code_0 17 rfl rfl rfl) (zd_b zq_prog_4_method_8_code_0 18 rfl rfl rfl) (by decide +kernel)
theorem d_Fz_becomeHeat_27 : decode prog_4_method_8_code 27 = .ok (.aload_n 0, 1) := zo_42 (zd_b zq_prog_4_method_8_code_0 27 rfl rfl rfl)
theorem d_Fz_becomeHeat_28 : decode prog_4_method_8_code 28 = .ok (.getfield 9, 3) := zo_180 (d := 0) (e := 9) (zd_b zq_prog_4_method_8_code_0 28 rfl rfl rfl) (zd_b zq_prog_4_method_8_code_0 29 rfl rfl rfl) (zd_b zq_prog_4_method_8_code_0 30 rfl rfl rfl)
theorem d_Fz_becomeHeat_31 : decode prog_4_method_8_code 31 = .ok (.iload_n 1, 1) := zo_27 (zd_b zq_prog_4_method_8_code_0 31 rfl rfl rfl)
theorem d_Fz_becomeHeat_32 : decode prog_4_method_8_code 32 = .ok (.sipush 1150, 3) := zo_17 (d := 4) (e := 126) (zd_b zq_prog_4_method_8_code_1 0 rfl rfl rfl) (zd_b zq_prog_4_method_8_code_1 1 rfl rfl rfl) (zd_b zq_prog_4_method_8_code_1 2 rfl rfl rfl) (by decide +kernel)
theorem d_Fz_becomeHeat_35 : decode prog_4_method_8_code 35 = .ok (.iastore, 1) := zo_79 (zd_b zq_prog_4_method_8_code_1 3 rfl rfl rfl)
theorem d_Fz_becomeHeat_36 : decode prog_4_method_8_code 36 = .ok (.aload_n 0, 1) := zo_42 (zd_b zq_prog_4_method_8_code_1 4 rfl rfl rfl)
theorem d_Fz_becomeHeat_37 : decode prog_4_method_8_code 37 = .ok (.getfield 18, 3) := zo_180 (d := 0) (e := 18) (zd_b zq_prog_4_method_8_code_1 5 rfl rfl rfl) (zd_b zq_prog_4_method_8_code_1 6 rfl rfl rfl) (zd_b zq_prog_4_method_8_code_1 7 rfl rfl rfl)
theorem fs_Fz_18 : z_fs "Ironpour$Freezing" 18 2 2 := ⟨R_Fz, "Ironpour$Freezing", F_Fz, 7, rfl, u_Fz, by decide, Or.inl ⟨z_mj1 (i := 86) rfl (by decide +kernel), Or.inl rfl⟩⟩
theorem d_Fz_becomeHeat_40 : decode prog_4_method_8_code 40 = .ok (.iload_n 1, 1) := zo_27 (zd_b zq_prog_4_method_8_code_1 8 rfl rfl rfl)
theorem d_Fz_becomeHeat_41 : decode prog_4_method_8_code 41 = .ok (.dup2, 1) := zo_92 (zd_b zq_prog_4_method_8_code_1 9 rfl rfl rfl)
theorem d_Fz_becomeHeat_42 : decode prog_4_method_8_code 42 = .ok (.iaload, 1) := zo_46 (zd_b zq_prog_4_method_8_code_1 10 rfl rfl rfl)
theorem d_Fz_becomeHeat_43 : decode prog_4_method_8_code 43 = .ok (.sipush 1150, 3) := zo_17 (d := 4) (e := 126) (zd_b zq_prog_4_method_8_code_1 11 rfl rfl rfl) (zd_b zq_prog_4_method_8_code_1 12 rfl rfl rfl) (zd_b zq_prog_4_method_8_code_1 13 rfl rfl rfl) (by decide +kernel)
theorem d_Fz_becomeHeat_46 : decode prog_4_method_8_code 46 = .ok (.iload_n 2, 1) := zo_28 (zd_b zq_prog_4_method_8_code_1 14 rfl rfl rfl)
theorem d_Fz_becomeHeat_47 : decode prog_4_method_8_code 47 = .ok (.isub, 1) := zo_100 (zd_b zq_prog_4_method_8_code_1 15 rfl rfl rfl)
theorem d_Fz_becomeHeat_48 : decode prog_4_method_8_code 48 = .ok (.isub, 1) := zo_100 (zd_b zq_prog_4_method_8_code_1 16 rfl rfl rfl)
theorem d_Fz_becomeHeat_49 : decode prog_4_method_8_code 49 = .ok (.iastore, 1) := zo_79 (zd_b zq_prog_4_method_8_code_1 17 rfl rfl rfl)
theorem d_Fz_becomeHeat_50 : decode prog_4_method_8_code 50 = .ok (.aload_n 0, 1) := zo_42 (zd_b zq_prog_4_method_8_code_1 18 rfl rfl rfl)
theorem d_Fz_becomeHeat_51 : decode prog_4_method_8_code 51 = .ok (.getfield 18, 3) := zo_180 (d := 0) (e := 18) (zd_b zq_prog_4_method_8_code_1 19 rfl rfl rfl) (zd_b zq_prog_4_method_8_code_1 20 rfl rfl rfl) (zd_b zq_prog_4_method_8_code_1 21 rfl rfl rfl)
theorem d_Fz_becomeHeat_54 : decode prog_4_method_8_code 54 = .ok (.iload_n 1, 1) := zo_27 (zd_b zq_prog_4_method_8_code_1 22 rfl rfl rfl)
theorem d_Fz_becomeHeat_55 : decode prog_4_method_8_code 55 = .ok (.iaload, 1) := zo_46 (zd_b zq_prog_4_method_8_code_1 23 rfl rfl rfl)
theorem d_Fz_becomeHeat_56 : decode prog_4_method_8_code 56 = .ok (.ifCond .gt 20, 3) := zo_157 (d := 0) (e := 20) (zd_b zq_prog_4_method_8_code_1 24 rfl rfl rfl) (zd_b zq_prog_4_method_8_code_1 25 rfl rfl rfl) (zd_b zq_prog_4_method_8_code_1 26 rfl rfl rfl) (by decide +kernel)
theorem d_Fz_becomeHeat_76 : decode prog_4_method_8_code 76 = .ok (.return_, 1) := zo_177 (zd_b zq_prog_4_method_8_code_2 12 rfl rfl rfl)
theorem d_Fz_becomeHeat_59 : decode prog_4_method_8_code 59 = .ok (.aload_n 0, 1) := zo_42 (zd_b zq_prog_4_method_8_code_1 27 rfl rfl rfl)
theorem d_Fz_becomeHeat_60 : decode prog_4_method_8_code 60 = .ok (.getfield 21, 3) := zo_180 (d := 0) (e := 21) (zd_b zq_prog_4_method_8_code_1 28 rfl rfl rfl) (zd_b zq_prog_4_method_8_code_1 29 rfl rfl rfl) (zd_b zq_prog_4_method_8_code_1 30 rfl rfl rfl)
theorem d_Fz_becomeHeat_63 : decode prog_4_method_8_code 63 = .ok (.iload_n 1, 1) := zo_27 (zd_b zq_prog_4_method_8_code_1 31 rfl rfl rfl)
theorem d_Fz_becomeHeat_64 : decode prog_4_method_8_code 64 = .ok (.iload_n 3, 1) := zo_29 (zd_b zq_prog_4_method_8_code_2 0 rfl rfl rfl)
theorem d_Fz_becomeHeat_65 : decode prog_4_method_8_code 65 = .ok (.iastore, 1) := zo_79 (zd_b zq_prog_4_method_8_code_2 1 rfl rfl rfl)
theorem d_Fz_becomeHeat_66 : decode prog_4_method_8_code 66 = .ok (.aload_n 0, 1) := zo_42 (zd_b zq_prog_4_method_8_code_2 2 rfl rfl rfl)
theorem d_Fz_becomeHeat_67 : decode prog_4_method_8_code 67 = .ok (.dup, 1) := zo_89 (zd_b zq_prog_4_method_8_code_2 3 rfl rfl rfl)
theorem d_Fz_becomeHeat_68 : decode prog_4_method_8_code 68 = .ok (.getfield 30, 3) := zo_180 (d := 0) (e := 30) (zd_b zq_prog_4_method_8_code_2 4 rfl rfl rfl) (zd_b zq_prog_4_method_8_code_2 5 rfl rfl rfl) (zd_b zq_prog_4_method_8_code_2 6 rfl rfl rfl)
theorem fs_Fz_30 : z_fs "Ironpour$Freezing" 30 2 6 := ⟨R_Fz, "Ironpour$Freezing", F_Fz, 7, rfl, u_Fz, by decide, Or.inl ⟨z_mj1 (i := 92) rfl (by decide +kernel), Or.inl rfl⟩⟩
theorem d_Fz_becomeHeat_71 : decode prog_4_method_8_code 71 = .ok (.iconst 1, 1) := zo_4 (zd_b zq_prog_4_method_8_code_2 7 rfl rfl rfl)
theorem d_Fz_becomeHeat_72 : decode prog_4_method_8_code 72 = .ok (.isub, 1) := zo_100 (zd_b zq_prog_4_method_8_code_2 8 rfl rfl rfl)
theorem d_Fz_becomeHeat_73 : decode prog_4_method_8_code 73 = .ok (.putfield 30, 3) := zo_181 (d := 0) (e := 30) (zd_b zq_prog_4_method_8_code_2 9 rfl rfl rfl) (zd_b zq_prog_4_method_8_code_2 10 rfl rfl rfl) (zd_b zq_prog_4_method_8_code_2 11 rfl rfl rfl)
theorem fp_Fz_30 : z_fp "Ironpour$Freezing" 30 2 6 false .int := ⟨R_Fz, "Ironpour$Freezing", F_Fz, 7, t_Fz, rfl, u_Fz, by decide, t_Fz_ok, n_Fz, rfl, rfl, Or.inl ⟨z_mj1 (i := 92) rfl (by decide +kernel), Or.inl rfl, fun h => nomatch h⟩⟩
