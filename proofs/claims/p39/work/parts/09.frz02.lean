set_option maxHeartbeats 4000000 in
set_option maxRecDepth 100000 in
theorem C_Fz_becomeHeat (g : zG) (a a1 a2 a3 a4 a5 a6 : Nat) (F1 F2 F3 F4 F5 F6 : Nat → Int32) (liq : Int32) (c : Nat) (hc : c < 108) (nx st : Int32) : CT g M_Fz_becomeHeat [.ref a, .int (nI c), .int nx, .int st] [(a, .inr (2, [.ref a1, .ref a2, .ref a3, .ref a4, .ref a5, .ref a6, .int liq])), (a1, .inl (0, 108, .inl F1)), (a2, .inl (0, 108, .inl F2)), (a3, .inl (0, 108, .inl F3)), (a4, .inl (0, 108, .inl F4)), (a5, .inl (0, 108, .inl F5)), (a6, .inl (0, 108, .inl F6))] (fun o cs1 => o = .inl none ∧ cs1 = [(a, .inr (2, [.ref a1, .ref a2, .ref a3, .ref a4, .ref a5, .ref a6, .int ((bhS c nx st (F1, F3, F4, liq)).2.2.2)])), (a1, .inl (0, 108, .inl ((bhS c nx st (F1, F3, F4, liq)).1))), (a2, .inl (0, 108, .inl F2)), (a3, .inl (0, 108, .inl ((bhS c nx st (F1, F3, F4, liq)).2.1))), (a4, .inl (0, 108, .inl ((bhS c nx st (F1, F3, F4, liq)).2.2.1))), (a5, .inl (0, 108, .inl F5)), (a6, .inl (0, 108, .inl F6))]) 0 0 := by
  refine z_of (by decide) rfl (Nat.le_of_ble_eq_true rfl) (fun w0 => ?_)
  refine r_lvE (lv2 := [(0, .ref a), (1, .int (nI c)), (2, .int nx), (3, .int st)]) rfl ?_
  refine r_aload_n d_Fz_becomeHeat_0 rfl 0 rfl ?_
  refine r_get fs_Fz_21 d_Fz_becomeHeat_1 (q0 := 0) rfl rfl ?_
  refine r_iload_n d_Fz_becomeHeat_4 rfl 1 rfl ?_
  refine r_iald d_Fz_becomeHeat_5 (q0 := 4) rfl (vp_in_nI (by omega) (by omega)) (v := F4 c) (by rw [nI_clamp (by omega)]) ?_
  refine r_sipush d_Fz_becomeHeat_6 (v := 401) (by decide) ?_
  refine r_icmp_ne (tgt := 19) d_Fz_becomeHeat_9 (by decide) (fun c_9 => ?_) (fun c_9 => ?_)
  · refine r_aload_n d_Fz_becomeHeat_19 rfl 0 rfl ?_
    refine r_get fs_Fz_9 d_Fz_becomeHeat_20 (q0 := 0) rfl rfl ?_
    refine r_iload_n d_Fz_becomeHeat_23 rfl 1 rfl ?_
    refine r_iload_n d_Fz_becomeHeat_24 rfl 2 rfl ?_
    refine r_iast d_Fz_becomeHeat_25 (q0 := 1) rfl (vp_in_nI (by omega) (by omega)) (f' := upd F1 c nx) (by rw [nI_clamp (by omega)]) (cs' := [(a, .inr (2, [.ref a1, .ref a2, .ref a3, .ref a4, .ref a5, .ref a6, .int liq])), (a1, .inl (0, 108, .inl (upd F1 c nx))), (a2, .inl (0, 108, .inl F2)), (a3, .inl (0, 108, .inl F3)), (a4, .inl (0, 108, .inl F4)), (a5, .inl (0, 108, .inl F5)), (a6, .inl (0, 108, .inl F6))]) rfl ?_
    refine r_vret d_Fz_becomeHeat_26 rfl ?_
    refine ⟨rfl, ?_⟩
    unfold bhS
    first | (rw [if_pos (Or.inl (by assumption))] <;> rfl) | (rw [if_pos (Or.inr (by assumption))] <;> rfl) | (rw [if_neg (by rintro (h | h) <;> contradiction)]; first | (rw [if_pos (by assumption)] <;> rfl) | (rw [if_neg (by assumption)] <;> rfl))
  · refine r_iload_n d_Fz_becomeHeat_12 rfl 2 rfl ?_
    refine r_sipush d_Fz_becomeHeat_13 (v := 1150) (by decide) ?_
    refine r_icmp_lt (tgt := 27) d_Fz_becomeHeat_16 (by decide) (fun c_16 => ?_) (fun c_16 => ?_)
    · refine r_aload_n d_Fz_becomeHeat_27 rfl 0 rfl ?_
      refine r_get fs_Fz_9 d_Fz_becomeHeat_28 (q0 := 0) rfl rfl ?_
      refine r_iload_n d_Fz_becomeHeat_31 rfl 1 rfl ?_
      refine r_sipush d_Fz_becomeHeat_32 (v := 1150) (by decide) ?_
      refine r_iast d_Fz_becomeHeat_35 (q0 := 1) rfl (vp_in_nI (by omega) (by omega)) (f' := upd F1 c 1150) (by rw [nI_clamp (by omega)]) (cs' := [(a, .inr (2, [.ref a1, .ref a2, .ref a3, .ref a4, .ref a5, .ref a6, .int liq])), (a1, .inl (0, 108, .inl (upd F1 c 1150))), (a2, .inl (0, 108, .inl F2)), (a3, .inl (0, 108, .inl F3)), (a4, .inl (0, 108, .inl F4)), (a5, .inl (0, 108, .inl F5)), (a6, .inl (0, 108, .inl F6))]) rfl ?_
      refine r_aload_n d_Fz_becomeHeat_36 rfl 0 rfl ?_
      refine r_get fs_Fz_18 d_Fz_becomeHeat_37 (q0 := 0) rfl rfl ?_
      refine r_iload_n d_Fz_becomeHeat_40 rfl 1 rfl ?_
      refine r_dup2_11 d_Fz_becomeHeat_41 rfl rfl ?_
      refine r_iald d_Fz_becomeHeat_42 (q0 := 3) rfl (vp_in_nI (by omega) (by omega)) (v := F3 c) (by rw [nI_clamp (by omega)]) ?_
      refine r_sipush d_Fz_becomeHeat_43 (v := 1150) (by decide) ?_
      refine r_iload_n d_Fz_becomeHeat_46 rfl 2 rfl ?_
      refine r_isub d_Fz_becomeHeat_47 (v := 1150 - nx) rfl ?_
      refine r_isub d_Fz_becomeHeat_48 (v := (F3 c) - (1150 - nx)) rfl ?_
      refine r_iast d_Fz_becomeHeat_49 (q0 := 3) rfl (vp_in_nI (by omega) (by omega)) (f' := upd F3 c ((F3 c) - (1150 - nx))) (by rw [nI_clamp (by omega)]) (cs' := [(a, .inr (2, [.ref a1, .ref a2, .ref a3, .ref a4, .ref a5, .ref a6, .int liq])), (a1, .inl (0, 108, .inl (upd F1 c 1150))), (a2, .inl (0, 108, .inl F2)), (a3, .inl (0, 108, .inl (upd F3 c ((F3 c) - (1150 - nx))))), (a4, .inl (0, 108, .inl F4)), (a5, .inl (0, 108, .inl F5)), (a6, .inl (0, 108, .inl F6))]) rfl ?_
      refine r_aload_n d_Fz_becomeHeat_50 rfl 0 rfl ?_
      refine r_get fs_Fz_18 d_Fz_becomeHeat_51 (q0 := 0) rfl rfl ?_
      refine r_iload_n d_Fz_becomeHeat_54 rfl 1 rfl ?_
      refine r_iald d_Fz_becomeHeat_55 (q0 := 3) rfl (vp_in_nI (by omega) (by omega)) (v := F3 c - (1150 - nx)) (by rw [nI_clamp (by omega)]; exact if_pos rfl) ?_
      refine r_if_gt (tgt := 76) d_Fz_becomeHeat_56 (by decide) (fun c_56 => ?_) (fun c_56 => ?_)
      · refine r_vret d_Fz_becomeHeat_76 rfl ?_
        refine ⟨rfl, ?_⟩
        unfold bhS
        first | (rw [if_pos (Or.inl (by assumption))] <;> rfl) | (rw [if_pos (Or.inr (by assumption))] <;> rfl) | (rw [if_neg (by rintro (h | h) <;> contradiction)]; first | (rw [if_pos (by assumption)] <;> rfl) | (rw [if_neg (by assumption)] <;> rfl))
      · refine r_aload_n d_Fz_becomeHeat_59 rfl 0 rfl ?_
        refine r_get fs_Fz_21 d_Fz_becomeHeat_60 (q0 := 0) rfl rfl ?_
        refine r_iload_n d_Fz_becomeHeat_63 rfl 1 rfl ?_
        refine r_iload_n d_Fz_becomeHeat_64 rfl 3 rfl ?_
        refine r_iast d_Fz_becomeHeat_65 (q0 := 4) rfl (vp_in_nI (by omega) (by omega)) (f' := upd F4 c st) (by rw [nI_clamp (by omega)]) (cs' := [(a, .inr (2, [.ref a1, .ref a2, .ref a3, .ref a4, .ref a5, .ref a6, .int liq])), (a1, .inl (0, 108, .inl (upd F1 c 1150))), (a2, .inl (0, 108, .inl F2)), (a3, .inl (0, 108, .inl (upd F3 c ((F3 c) - (1150 - nx))))), (a4, .inl (0, 108, .inl (upd F4 c st))), (a5, .inl (0, 108, .inl F5)), (a6, .inl (0, 108, .inl F6))]) rfl ?_
        refine r_aload_n d_Fz_becomeHeat_66 rfl 0 rfl ?_
        refine r_dup d_Fz_becomeHeat_67 rfl ?_
        refine r_get fs_Fz_30 d_Fz_becomeHeat_68 (q0 := 0) rfl rfl ?_
        refine r_iconst d_Fz_becomeHeat_71 (v := 1) (by decide) ?_
        refine r_isub d_Fz_becomeHeat_72 (v := liq - 1) rfl ?_
        refine r_put fp_Fz_30 d_Fz_becomeHeat_73 (fun h => nomatch h) rfl rfl (q0 := 0) rfl (Nat.le_of_ble_eq_true rfl) (cs' := [(a, .inr (2, [.ref a1, .ref a2, .ref a3, .ref a4, .ref a5, .ref a6, .int (liq - 1)])), (a1, .inl (0, 108, .inl (upd F1 c 1150))), (a2, .inl (0, 108, .inl F2)), (a3, .inl (0, 108, .inl (upd F3 c ((F3 c) - (1150 - nx))))), (a4, .inl (0, 108, .inl (upd F4 c st))), (a5, .inl (0, 108, .inl F5)), (a6, .inl (0, 108, .inl F6))]) rfl ?_
        refine r_vret d_Fz_becomeHeat_76 rfl ?_
        refine ⟨rfl, ?_⟩
        unfold bhS
        first | (rw [if_pos (Or.inl (by assumption))] <;> rfl) | (rw [if_pos (Or.inr (by assumption))] <;> rfl) | (rw [if_neg (by rintro (h | h) <;> contradiction)]; first | (rw [if_pos (by assumption)] <;> rfl) | (rw [if_neg (by assumption)] <;> rfl))
    · refine r_aload_n d_Fz_becomeHeat_19 rfl 0 rfl ?_
      refine r_get fs_Fz_9 d_Fz_becomeHeat_20 (q0 := 0) rfl rfl ?_
      refine r_iload_n d_Fz_becomeHeat_23 rfl 1 rfl ?_
      refine r_iload_n d_Fz_becomeHeat_24 rfl 2 rfl ?_
      refine r_iast d_Fz_becomeHeat_25 (q0 := 1) rfl (vp_in_nI (by omega) (by omega)) (f' := upd F1 c nx) (by rw [nI_clamp (by omega)]) (cs' := [(a, .inr (2, [.ref a1, .ref a2, .ref a3, .ref a4, .ref a5, .ref a6, .int liq])), (a1, .inl (0, 108, .inl (upd F1 c nx))), (a2, .inl (0, 108, .inl F2)), (a3, .inl (0, 108, .inl F3)), (a4, .inl (0, 108, .inl F4)), (a5, .inl (0, 108, .inl F5)), (a6, .inl (0, 108, .inl F6))]) rfl ?_
      refine r_vret d_Fz_becomeHeat_26 rfl ?_
      refine ⟨rfl, ?_⟩
      unfold bhS
      first | (rw [if_pos (Or.inl (by assumption))] <;> rfl) | (rw [if_pos (Or.inr (by assumption))] <;> rfl) | (rw [if_neg (by rintro (h | h) <;> contradiction)]; first | (rw [if_pos (by assumption)] <;> rfl) | (rw [if_neg (by assumption)] <;> rfl))
abbrev M_Fz_exchange : zM := (⟨"Ironpour$Freezing", "exchange", "(III)V"⟩, prog_4_method_6_code, 5, (Option.none : Option FieldType), 1, 20, [])
theorem d_Fz_exchange_0 : decode prog_4_method_6_code 0 = .ok (.aload_n 0, 1) := zo_42 (zd_b zq_prog_4_method_6_code_0 0 rfl rfl rfl)
theorem d_Fz_exchange_1 : decode prog_4_method_6_code 1 = .ok (.getfield 9, 3) := zo_180 (d := 0) (e := 9) (zd_b zq_prog_4_method_6_code_0 1 rfl rfl rfl) (zd_b zq_prog_4_method_6_code_0 2 rfl rfl rfl) (zd_b zq_prog_4_method_6_code_0 3 rfl rfl rfl)
theorem d_Fz_exchange_4 : decode prog_4_method_6_code 4 = .ok (.iload_n 2, 1) := zo_28 (zd_b zq_prog_4_method_6_code_0 4 rfl rfl rfl)
theorem d_Fz_exchange_5 : decode prog_4_method_6_code 5 = .ok (.iaload, 1) := zo_46 (zd_b zq_prog_4_method_6_code_0 5 rfl rfl rfl)
theorem d_Fz_exchange_6 : decode prog_4_method_6_code 6 = .ok (.aload_n 0, 1) := zo_42 (zd_b zq_prog_4_method_6_code_0 6 rfl rfl rfl)
theorem d_Fz_exchange_7 : decode prog_4_method_6_code 7 = .ok (.getfield 9, 3) := zo_180 (d := 0) (e := 9) (zd_b zq_prog_4_method_6_code_0 7 rfl rfl rfl) (zd_b zq_prog_4_method_6_code_0 8 rfl rfl rfl) (zd_b zq_prog_4_method_6_code_0 9 rfl rfl rfl)
theorem d_Fz_exchange_10 : decode prog_4_method_6_code 10 = .ok (.iload_n 1, 1) := zo_27 (zd_b zq_prog_4_method_6_code_0 10 rfl rfl rfl)
theorem d_Fz_exchange_11 : decode prog_4_method_6_code 11 = .ok (.iaload, 1) := zo_46 (zd_b zq_prog_4_method_6_code_0 11 rfl rfl rfl)
theorem d_Fz_exchange_12 : decode prog_4_method_6_code 12 = .ok (.isub, 1) := zo_100 (zd_b zq_prog_4_method_6_code_0 12 rfl rfl rfl)
theorem d_Fz_exchange_13 : decode prog_4_method_6_code 13 = .ok (.iload_n 3, 1) := zo_29 (zd_b zq_prog_4_method_6_code_0 13 rfl rfl rfl)
theorem d_Fz_exchange_14 : decode prog_4_method_6_code 14 = .ok (.imul, 1) := zo_104 (zd_b zq_prog_4_method_6_code_0 14 rfl rfl rfl)
theorem d_Fz_exchange_15 : decode prog_4_method_6_code 15 = .ok (.bipush 64, 2) := zo_16 (d := 64) (zd_b zq_prog_4_method_6_code_0 15 rfl rfl rfl) (zd_b zq_prog_4_method_6_code_0 16 rfl rfl rfl) (by decide +kernel)
theorem d_Fz_exchange_17 : decode prog_4_method_6_code 17 = .ok (.idiv, 1) := zo_108 (zd_b zq_prog_4_method_6_code_0 17 rfl rfl rfl)
theorem d_Fz_exchange_18 : decode prog_4_method_6_code 18 = .ok (.istore 4, 2) := zo_54 (d := 4) (zd_b zq_prog_4_method_6_code_0 18 rfl rfl rfl) (zd_b zq_prog_4_method_6_code_0 19 rfl rfl rfl)
theorem d_Fz_exchange_20 : decode prog_4_method_6_code 20 = .ok (.aload_n 0, 1) := zo_42 (zd_b zq_prog_4_method_6_code_0 20 rfl rfl rfl)
theorem d_Fz_exchange_21 : decode prog_4_method_6_code 21 = .ok (.getfield 15, 3) := zo_180 (d := 0) (e := 15) (zd_b zq_prog_4_method_6_code_0 21 rfl rfl rfl) (zd_b zq_prog_4_method_6_code_0 22 rfl rfl rfl) (zd_b zq_prog_4_method_6_code_0 23 rfl rfl rfl)
theorem fs_Fz_15 : z_fs "Ironpour$Freezing" 15 2 1 := ⟨R_Fz, "Ironpour$Freezing", F_Fz, 7, rfl, u_Fz, by decide, Or.inl ⟨z_mj1 (i := 85) rfl (by decide +kernel), Or.inl rfl⟩⟩
theorem d_Fz_exchange_24 : decode prog_4_method_6_code 24 = .ok (.iload_n 1, 1) := zo_27 (zd_b zq_prog_4_method_6_code_0 24 rfl rfl rfl)
theorem d_Fz_exchange_25 : decode prog_4_method_6_code 25 = .ok (.dup2, 1) := zo_92 (zd_b zq_prog_4_method_6_code_0 25 rfl rfl rfl)
theorem d_Fz_exchange_26 : decode prog_4_method_6_code 26 = .ok (.iaload, 1) := zo_46 (zd_b zq_prog_4_method_6_code_0 26 rfl rfl rfl)
theorem d_Fz_exchange_27 : decode prog_4_method_6_code 27 = .ok (.iload 4, 2) := zo_21 (d := 4) (zd_b zq_prog_4_method_6_code_0 27 rfl rfl rfl) (zd_b zq_prog_4_method_6_code_0 28 rfl rfl rfl)
theorem d_Fz_exchange_29 : decode prog_4_method_6_code 29 = .ok (.iadd, 1) := zo_96 (zd_b zq_prog_4_method_6_code_0 29 rfl rfl rfl)
theorem d_Fz_exchange_30 : decode prog_4_method_6_code 30 = .ok (.iastore, 1) := zo_79 (zd_b zq_prog_4_method_6_code_0 30 rfl rfl rfl)
theorem d_Fz_exchange_31 : decode prog_4_method_6_code 31 = .ok (.aload_n 0, 1) := zo_42 (zd_b zq_prog_4_method_6_code_0 31 rfl rfl rfl)
theorem d_Fz_exchange_32 : decode prog_4_method_6_code 32 = .ok (.getfield 15, 3) := zo_180 (d := 0) (e := 15) (zd_b zq_prog_4_method_6_code_1 0 rfl rfl rfl) (zd_b zq_prog_4_method_6_code_1 1 rfl rfl rfl) (zd_b zq_prog_4_method_6_code_1 2 rfl rfl rfl)
theorem d_Fz_exchange_35 : decode prog_4_method_6_code 35 = .ok (.iload_n 2, 1) := zo_28 (zd_b zq_prog_4_method_6_code_1 3 rfl rfl rfl)
theorem d_Fz_exchange_36 : decode prog_4_method_6_code 36 = .ok (.dup2, 1) := zo_92 (zd_b zq_prog_4_method_6_code_1 4 rfl rfl rfl)
theorem d_Fz_exchange_37 : decode prog_4_method_6_code 37 = .ok (.iaload, 1) := zo_46 (zd_b zq_prog_4_method_6_code_1 5 rfl rfl rfl)
theorem d_Fz_exchange_38 : decode prog_4_method_6_code 38 = .ok (.iload 4, 2) := zo_21 (d := 4) (zd_b zq_prog_4_method_6_code_1 6 rfl rfl rfl) (zd_b zq_prog_4_method_6_code_1 7 rfl rfl rfl)
theorem d_Fz_exchange_40 : decode prog_4_method_6_code 40 = .ok (.isub, 1) := zo_100 (zd_b zq_prog_4_method_6_code_1 8 rfl rfl rfl)
theorem d_Fz_exchange_41 : decode prog_4_method_6_code 41 = .ok (.iastore, 1) := zo_79 (zd_b zq_prog_4_method_6_code_1 9 rfl rfl rfl)
theorem d_Fz_exchange_42 : decode prog_4_method_6_code 42 = .ok (.return_, 1) := zo_177 (zd_b zq_prog_4_method_6_code_1 10 rfl rfl rfl)
set_option maxHeartbeats 4000000 in
set_option maxRecDepth 100000 in
theorem C_Fz_exchange (g : zG) (a a1 a2 a3 a4 a5 a6 : Nat) (F1 F2 F3 F4 F5 F6 : Nat → Int32) (liq : Int32) (oo p : Nat) (ho : oo < 108) (hp : p < 108) (num : Int32) : CT g M_Fz_exchange [.ref a, .int (nI oo), .int (nI p), .int num] [(a, .inr (2, [.ref a1, .ref a2, .ref a3, .ref a4, .ref a5, .ref a6, .int liq])), (a1, .inl (0, 108, .inl F1)), (a2, .inl (0, 108, .inl F2)), (a3, .inl (0, 108, .inl F3)), (a4, .inl (0, 108, .inl F4)), (a5, .inl (0, 108, .inl F5)), (a6, .inl (0, 108, .inl F6))] (fun o cs1 => o = .inl none ∧ cs1 = [(a, .inr (2, [.ref a1, .ref a2, .ref a3, .ref a4, .ref a5, .ref a6, .int liq])), (a1, .inl (0, 108, .inl F1)), (a2, .inl (0, 108, .inl (exS F1 oo p num F2))), (a3, .inl (0, 108, .inl F3)), (a4, .inl (0, 108, .inl F4)), (a5, .inl (0, 108, .inl F5)), (a6, .inl (0, 108, .inl F6))]) 0 0 := by
  refine z_of (by decide) rfl (Nat.le_of_ble_eq_true rfl) (fun w0 => ?_)
  refine r_lvE (lv2 := [(0, .ref a), (1, .int (nI oo)), (2, .int (nI p)), (3, .int num)]) rfl ?_
  refine r_aload_n d_Fz_exchange_0 rfl 0 rfl ?_
  refine r_get fs_Fz_9 d_Fz_exchange_1 (q0 := 0) rfl rfl ?_
  refine r_iload_n d_Fz_exchange_4 rfl 2 rfl ?_
  refine r_iald d_Fz_exchange_5 (q0 := 1) rfl (vp_in_nI (by omega) (by omega)) (v := F1 p) (by rw [nI_clamp (by omega)]) ?_
  refine r_aload_n d_Fz_exchange_6 rfl 0 rfl ?_
  refine r_get fs_Fz_9 d_Fz_exchange_7 (q0 := 0) rfl rfl ?_
  refine r_iload_n d_Fz_exchange_10 rfl 1 rfl ?_
  refine r_iald d_Fz_exchange_11 (q0 := 1) rfl (vp_in_nI (by omega) (by omega)) (v := F1 oo) (by rw [nI_clamp (by omega)]) ?_
  refine r_isub d_Fz_exchange_12 (v := (F1 p) - (F1 oo)) rfl ?_
  refine r_iload_n d_Fz_exchange_13 rfl 3 rfl ?_
  refine r_imul d_Fz_exchange_14 (v := ((F1 p) - (F1 oo)) * num) rfl ?_
  refine r_bipush d_Fz_exchange_15 (v := 64) (by decide) ?_
  refine r_idiv d_Fz_exchange_17 (v := (((F1 p) - (F1 oo)) * num) / 64) (by decide) rfl ?_
  refine r_istore (lv' := [(4, .int ((((F1 p) - (F1 oo)) * num) / 64)), (0, .ref a), (1, .int (nI oo)), (2, .int (nI p)), (3, .int num)]) d_Fz_exchange_18 (by decide) rfl ?_
  refine r_aload_n d_Fz_exchange_20 rfl 1 rfl ?_
  refine r_get fs_Fz_15 d_Fz_exchange_21 (q0 := 0) rfl rfl ?_
  refine r_iload_n d_Fz_exchange_24 rfl 2 rfl ?_
  refine r_dup2_11 d_Fz_exchange_25 rfl rfl ?_
  refine r_iald d_Fz_exchange_26 (q0 := 2) rfl (vp_in_nI (by omega) (by omega)) (v := F2 oo) (by rw [nI_clamp (by omega)]) ?_
  refine r_iload d_Fz_exchange_27 0 rfl ?_
  refine r_iadd d_Fz_exchange_29 (v := (F2 oo) + ((((F1 p) - (F1 oo)) * num) / 64)) rfl ?_
  refine r_iast d_Fz_exchange_30 (q0 := 2) rfl (vp_in_nI (by omega) (by omega)) (f' := upd F2 oo ((F2 oo) + ((((F1 p) - (F1 oo)) * num) / 64))) (by rw [nI_clamp (by omega)]) (cs' := [(a, .inr (2, [.ref a1, .ref a2, .ref a3, .ref a4, .ref a5, .ref a6, .int liq])), (a1, .inl (0, 108, .inl F1)), (a2, .inl (0, 108, .inl (upd F2 oo ((F2 oo) + ((((F1 p) - (F1 oo)) * num) / 64))))), (a3, .inl (0, 108, .inl F3)), (a4, .inl (0, 108, .inl F4)), (a5, .inl (0, 108, .inl F5)), (a6, .inl (0, 108, .inl F6))]) rfl ?_
  refine r_aload_n d_Fz_exchange_31 rfl 1 rfl ?_
  refine r_get fs_Fz_15 d_Fz_exchange_32 (q0 := 0) rfl rfl ?_
  refine r_iload_n d_Fz_exchange_35 rfl 3 rfl ?_
  refine r_dup2_11 d_Fz_exchange_36 rfl rfl ?_
  refine r_iald d_Fz_exchange_37 (q0 := 2) rfl (vp_in_nI (by omega) (by omega)) (v := (upd F2 oo ((F2 oo) + ((((F1 p) - (F1 oo)) * num) / 64))) p) (by rw [nI_clamp (by omega)]) ?_
  refine r_iload d_Fz_exchange_38 0 rfl ?_
  refine r_isub d_Fz_exchange_40 (v := ((upd F2 oo ((F2 oo) + ((((F1 p) - (F1 oo)) * num) / 64))) p) - ((((F1 p) - (F1 oo)) * num) / 64)) rfl ?_
  refine r_iast d_Fz_exchange_41 (q0 := 2) rfl (vp_in_nI (by omega) (by omega)) (f' := upd (upd F2 oo ((F2 oo) + ((((F1 p) - (F1 oo)) * num) / 64))) p (((upd F2 oo ((F2 oo) + ((((F1 p) - (F1 oo)) * num) / 64))) p) - ((((F1 p) - (F1 oo)) * num) / 64))) (by rw [nI_clamp (by omega)]) (cs' := [(a, .inr (2, [.ref a1, .ref a2, .ref a3, .ref a4, .ref a5, .ref a6, .int liq])), (a1, .inl (0, 108, .inl F1)), (a2, .inl (0, 108, .inl (upd (upd F2 oo ((F2 oo) + ((((F1 p) - (F1 oo)) * num) / 64))) p (((upd F2 oo ((F2 oo) + ((((F1 p) - (F1 oo)) * num) / 64))) p) - ((((F1 p) - (F1 oo)) * num) / 64))))), (a3, .inl (0, 108, .inl F3)), (a4, .inl (0, 108, .inl F4)), (a5, .inl (0, 108, .inl F5)), (a6, .inl (0, 108, .inl F6))]) rfl ?_
  refine r_vret d_Fz_exchange_42 rfl ?_
  exact ⟨rfl, rfl⟩
abbrev M_Fz_flowFromBeyond : zM := (⟨"Ironpour$Freezing", "flowFromBeyond", "(I)I"⟩, prog_4_method_7_code, 2, (Option.some FieldType.int), 1, 20, [])
theorem d_Fz_flowFromBeyond_0 : decode prog_4_method_7_code 0 = .ok (.bipush 20, 2) := zo_16 (d := 20) (zd_b zq_prog_4_method_7_code_0 0 rfl rfl rfl) (zd_b zq_prog_4_method_7_code_0 1 rfl rfl rfl) (by decide +kernel)
theorem d_Fz_flowFromBeyond_2 : decode prog_4_method_7_code 2 = .ok (.aload_n 0, 1) := zo_42 (zd_b zq_prog_4_method_7_code_0 2 rfl rfl rfl)
theorem d_Fz_flowFromBeyond_3 : decode prog_4_method_7_code 3 = .ok (.getfield 9, 3) := zo_180 (d := 0) (e := 9) (zd_b zq_prog_4_method_7_code_0 3 rfl rfl rfl) (zd_b zq_prog_4_method_7_code_0 4 rfl rfl rfl) (zd_b zq_prog_4_method_7_code_0 5 rfl rfl rfl)
theorem d_Fz_flowFromBeyond_6 : decode prog_4_method_7_code 6 = .ok (.iload_n 1, 1) := zo_27 (zd_b zq_prog_4_method_7_code_0 6 rfl rfl rfl)
theorem d_Fz_flowFromBeyond_7 : decode prog_4_method_7_code 7 = .ok (.iaload, 1) := zo_46 (zd_b zq_prog_4_method_7_code_0 7 rfl rfl rfl)
theorem d_Fz_flowFromBeyond_8 : decode prog_4_method_7_code 8 = .ok (.isub, 1) := zo_100 (zd_b zq_prog_4_method_7_code_0 8 rfl rfl rfl)
theorem d_Fz_flowFromBeyond_9 : decode prog_4_method_7_code 9 = .ok (.iconst 4, 1) := zo_7 (zd_b zq_prog_4_method_7_code_0 9 rfl rfl rfl)
theorem d_Fz_flowFromBeyond_10 : decode prog_4_method_7_code 10 = .ok (.imul, 1) := zo_104 (zd_b zq_prog_4_method_7_code_0 10 rfl rfl rfl)
theorem d_Fz_flowFromBeyond_11 : decode prog_4_method_7_code 11 = .ok (.bipush 64, 2) := zo_16 (d := 64) (zd_b zq_prog_4_method_7_code_0 11 rfl rfl rfl) (zd_b zq_prog_4_method_7_code_0 12 rfl rfl rfl) (by decide +kernel)
theorem d_Fz_flowFromBeyond_13 : decode prog_4_method_7_code 13 = .ok (.idiv, 1) := zo_108 (zd_b zq_prog_4_method_7_code_0 13 rfl rfl rfl)
theorem d_Fz_flowFromBeyond_14 : decode prog_4_method_7_code 14 = .ok (.ireturn, 1) := zo_172 (zd_b zq_prog_4_method_7_code_0 14 rfl rfl rfl)
set_option maxHeartbeats 4000000 in
set_option maxRecDepth 100000 in
theorem C_Fz_flow (g : zG) (a a1 a2 a3 a4 a5 a6 : Nat) (F1 F2 F3 F4 F5 F6 : Nat → Int32) (liq : Int32) (oo : Nat) (ho : oo < 108) : CT g M_Fz_flowFromBeyond [.ref a, .int (nI oo)] [(a, .inr (2, [.ref a1, .ref a2, .ref a3, .ref a4, .ref a5, .ref a6, .int liq])), (a1, .inl (0, 108, .inl F1)), (a2, .inl (0, 108, .inl F2)), (a3, .inl (0, 108, .inl F3)), (a4, .inl (0, 108, .inl F4)), (a5, .inl (0, 108, .inl F5)), (a6, .inl (0, 108, .inl F6))] (fun o cs1 => o = .inl (some (.int (flS F1 oo))) ∧ cs1 = [(a, .inr (2, [.ref a1, .ref a2, .ref a3, .ref a4, .ref a5, .ref a6, .int liq])), (a1, .inl (0, 108, .inl F1)), (a2, .inl (0, 108, .inl F2)), (a3, .inl (0, 108, .inl F3)), (a4, .inl (0, 108, .inl F4)), (a5, .inl (0, 108, .inl F5)), (a6, .inl (0, 108, .inl F6))]) 0 0 := by
  refine z_of (by decide) rfl (Nat.le_of_ble_eq_true rfl) (fun w0 => ?_)
  refine r_lvE (lv2 := [(0, .ref a), (1, .int (nI oo))]) rfl ?_
  refine r_bipush d_Fz_flowFromBeyond_0 (v := 20) (by decide) ?_
  refine r_aload_n d_Fz_flowFromBeyond_2 rfl 0 rfl ?_
  refine r_get fs_Fz_9 d_Fz_flowFromBeyond_3 (q0 := 0) rfl rfl ?_
  refine r_iload_n d_Fz_flowFromBeyond_6 rfl 1 rfl ?_
  refine r_iald d_Fz_flowFromBeyond_7 (q0 := 1) rfl (vp_in_nI (by omega) (by omega)) (v := F1 oo) (by rw [nI_clamp (by omega)]) ?_
  refine r_isub d_Fz_flowFromBeyond_8 (v := 20 - (F1 oo)) rfl ?_
  refine r_iconst d_Fz_flowFromBeyond_9 (v := 4) (by decide) ?_
  refine r_imul d_Fz_flowFromBeyond_10 (v := (20 - (F1 oo)) * 4) rfl ?_
  refine r_bipush d_Fz_flowFromBeyond_11 (v := 64) (by decide) ?_
  refine r_idiv d_Fz_flowFromBeyond_13 (v := ((20 - (F1 oo)) * 4) / 64) (by decide) rfl ?_
  refine r_iret d_Fz_flowFromBeyond_14 rfl rfl ?_
  exact ⟨rfl, rfl⟩
abbrev M_Fz_passingBetween : zM := (⟨"Ironpour$Freezing", "passingBetween", "([C[III)I"⟩, prog_4_method_4_code, 7, (Option.some FieldType.int), 1, 20, [])
theorem d_Fz_passingBetween_0 : decode prog_4_method_4_code 0 = .ok (.aload_n 1, 1) := zo_43 (zd_b zq_prog_4_method_4_code_0 0 rfl rfl rfl)
theorem d_Fz_passingBetween_1 : decode prog_4_method_4_code 1 = .ok (.iload_n 2, 1) := zo_28 (zd_b zq_prog_4_method_4_code_0 1 rfl rfl rfl)
theorem d_Fz_passingBetween_2 : decode prog_4_method_4_code 2 = .ok (.iaload, 1) := zo_46 (zd_b zq_prog_4_method_4_code_0 2 rfl rfl rfl)
theorem d_Fz_passingBetween_3 : decode prog_4_method_4_code 3 = .ok (.ifCond .lt 7, 3) := zo_155 (d := 0) (e := 7) (zd_b zq_prog_4_method_4_code_0 3 rfl rfl rfl) (zd_b zq_prog_4_method_4_code_0 4 rfl rfl rfl) (zd_b zq_prog_4_method_4_code_0 5 rfl rfl rfl) (by decide +kernel)
theorem d_Fz_passingBetween_10 : decode prog_4_method_4_code 10 = .ok (.iconst 0, 1) := zo_3 (zd_b zq_prog_4_method_4_code_0 10 rfl rfl rfl)
theorem d_Fz_passingBetween_11 : decode prog_4_method_4_code 11 = .ok (.istore 4, 2) := zo_54 (d := 4) (zd_b zq_prog_4_method_4_code_0 11 rfl rfl rfl) (zd_b zq_prog_4_method_4_code_0 12 rfl rfl rfl)
theorem d_Fz_passingBetween_13 : decode prog_4_method_4_code 13 = .ok (.aload_n 1, 1) := zo_43 (zd_b zq_prog_4_method_4_code_0 13 rfl rfl rfl)
theorem d_Fz_passingBetween_14 : decode prog_4_method_4_code 14 = .ok (.iload_n 3, 1) := zo_29 (zd_b zq_prog_4_method_4_code_0 14 rfl rfl rfl)
theorem d_Fz_passingBetween_15 : decode prog_4_method_4_code 15 = .ok (.iaload, 1) := zo_46 (zd_b zq_prog_4_method_4_code_0 15 rfl rfl rfl)
theorem d_Fz_passingBetween_16 : decode prog_4_method_4_code 16 = .ok (.ifCond .lt 7, 3) := zo_155 (d := 0) (e := 7) (zd_b zq_prog_4_method_4_code_0 16 rfl rfl rfl) (zd_b zq_prog_4_method_4_code_0 17 rfl rfl rfl) (zd_b zq_prog_4_method_4_code_0 18 rfl rfl rfl) (by decide +kernel)
theorem d_Fz_passingBetween_23 : decode prog_4_method_4_code 23 = .ok (.iconst 0, 1) := zo_3 (zd_b zq_prog_4_method_4_code_0 23 rfl rfl rfl)
theorem d_Fz_passingBetween_24 : decode prog_4_method_4_code 24 = .ok (.istore 5, 2) := zo_54 (d := 5) (zd_b zq_prog_4_method_4_code_0 24 rfl rfl rfl) (zd_b zq_prog_4_method_4_code_0 25 rfl rfl rfl)
theorem d_Fz_passingBetween_26 : decode prog_4_method_4_code 26 = .ok (.iload 4, 2) := zo_21 (d := 4) (zd_b zq_prog_4_method_4_code_0 26 rfl rfl rfl) (zd_b zq_prog_4_method_4_code_0 27 rfl rfl rfl)
theorem d_Fz_passingBetween_28 : decode prog_4_method_4_code 28 = .ok (.ifCond .eq 11, 3) := zo_153 (d := 0) (e := 11) (zd_b zq_prog_4_method_4_code_0 28 rfl rfl rfl) (zd_b zq_prog_4_method_4_code_0 29 rfl rfl rfl) (zd_b zq_prog_4_method_4_code_0 30 rfl rfl rfl) (by decide +kernel)
theorem d_Fz_passingBetween_39 : decode prog_4_method_4_code 39 = .ok (.iload 4, 2) := zo_21 (d := 4) (zd_b zq_prog_4_method_4_code_1 7 rfl rfl rfl) (zd_b zq_prog_4_method_4_code_1 8 rfl rfl rfl)
theorem d_Fz_passingBetween_41 : decode prog_4_method_4_code 41 = .ok (.ifCond .ne 10, 3) := zo_154 (d := 0) (e := 10) (zd_b zq_prog_4_method_4_code_1 9 rfl rfl rfl) (zd_b zq_prog_4_method_4_code_1 10 rfl rfl rfl) (zd_b zq_prog_4_method_4_code_1 11 rfl rfl rfl) (by decide +kernel)
theorem d_Fz_passingBetween_44 : decode prog_4_method_4_code 44 = .ok (.iload 5, 2) := zo_21 (d := 5) (zd_b zq_prog_4_method_4_code_1 12 rfl rfl rfl) (zd_b zq_prog_4_method_4_code_1 13 rfl rfl rfl)
