section
abbrev M_Mm_strength : zM := (⟨"IronpourModel", "strength", "()I"⟩, prog_14_method_44_code, 1, (Option.some FieldType.int), 2, 40, [])
theorem d_Mm_strength_0 : decode prog_14_method_44_code 0 = .ok (.iconst 0, 1) := zo_3 (zd_b zq_prog_14_method_44_code_0 0 rfl rfl rfl)
theorem d_Mm_strength_1 : decode prog_14_method_44_code 1 = .ok (.iconst 2, 1) := zo_5 (zd_b zq_prog_14_method_44_code_0 1 rfl rfl rfl)
theorem d_Mm_strength_2 : decode prog_14_method_44_code 2 = .ok (.aload_n 0, 1) := zo_42 (zd_b zq_prog_14_method_44_code_0 2 rfl rfl rfl)
theorem d_Mm_strength_3 : decode prog_14_method_44_code 3 = .ok (.getfield 43, 3) := zo_180 (d := 0) (e := 43) (zd_b zq_prog_14_method_44_code_0 3 rfl rfl rfl) (zd_b zq_prog_14_method_44_code_0 4 rfl rfl rfl) (zd_b zq_prog_14_method_44_code_0 5 rfl rfl rfl)
theorem fs_Mm_43 : z_fs "IronpourModel" 43 12 11 := ⟨R_Mm, "IronpourModel", F_Mm, 31, rfl, u_Mm, by decide, Or.inl ⟨z_mj7 (i := 94) rfl (by decide +kernel), Or.inl rfl⟩⟩
theorem d_Mm_strength_6 : decode prog_14_method_44_code 6 = .ok (.imul, 1) := zo_104 (zd_b zq_prog_14_method_44_code_0 6 rfl rfl rfl)
theorem d_Mm_strength_7 : decode prog_14_method_44_code 7 = .ok (.bipush 10, 2) := zo_16 (d := 10) (zd_b zq_prog_14_method_44_code_0 7 rfl rfl rfl) (zd_b zq_prog_14_method_44_code_0 8 rfl rfl rfl) (by decide +kernel)
theorem d_Mm_strength_9 : decode prog_14_method_44_code 9 = .ok (.aload_n 0, 1) := zo_42 (zd_b zq_prog_14_method_44_code_0 9 rfl rfl rfl)
theorem d_Mm_strength_10 : decode prog_14_method_44_code 10 = .ok (.getfield 46, 3) := zo_180 (d := 0) (e := 46) (zd_b zq_prog_14_method_44_code_0 10 rfl rfl rfl) (zd_b zq_prog_14_method_44_code_0 11 rfl rfl rfl) (zd_b zq_prog_14_method_44_code_0 12 rfl rfl rfl)
theorem fs_Mm_46 : z_fs "IronpourModel" 46 12 12 := ⟨R_Mm, "IronpourModel", F_Mm, 31, rfl, u_Mm, by decide, Or.inl ⟨z_mj7 (i := 95) rfl (by decide +kernel), Or.inl rfl⟩⟩
theorem d_Mm_strength_13 : decode prog_14_method_44_code 13 = .ok (.imul, 1) := zo_104 (zd_b zq_prog_14_method_44_code_0 13 rfl rfl rfl)
theorem d_Mm_strength_14 : decode prog_14_method_44_code 14 = .ok (.iconst 4, 1) := zo_7 (zd_b zq_prog_14_method_44_code_0 14 rfl rfl rfl)
theorem d_Mm_strength_15 : decode prog_14_method_44_code 15 = .ok (.aload_n 0, 1) := zo_42 (zd_b zq_prog_14_method_44_code_0 15 rfl rfl rfl)
theorem d_Mm_strength_16 : decode prog_14_method_44_code 16 = .ok (.getfield 43, 3) := zo_180 (d := 0) (e := 43) (zd_b zq_prog_14_method_44_code_0 16 rfl rfl rfl) (zd_b zq_prog_14_method_44_code_0 17 rfl rfl rfl) (zd_b zq_prog_14_method_44_code_0 18 rfl rfl rfl)
theorem d_Mm_strength_19 : decode prog_14_method_44_code 19 = .ok (.imul, 1) := zo_104 (zd_b zq_prog_14_method_44_code_0 19 rfl rfl rfl)
theorem d_Mm_strength_20 : decode prog_14_method_44_code 20 = .ok (.isub, 1) := zo_100 (zd_b zq_prog_14_method_44_code_0 20 rfl rfl rfl)
theorem d_Mm_strength_21 : decode prog_14_method_44_code 21 = .ok (.invokestatic 187, 3) := zo_184 (d := 0) (e := 187) (zd_b zq_prog_14_method_44_code_0 21 rfl rfl rfl) (zd_b zq_prog_14_method_44_code_0 22 rfl rfl rfl) (zd_b zq_prog_14_method_44_code_0 23 rfl rfl rfl)
theorem ln_Mm_187 : Cond.methodLink "IronpourModel" 187 Lib.Math.abs.name ∈ z_gw := z_mj8 (i := 110) rfl (by decide +kernel)
theorem d_Mm_strength_24 : decode prog_14_method_44_code 24 = .ok (.iconst 5, 1) := zo_8 (zd_b zq_prog_14_method_44_code_0 24 rfl rfl rfl)
theorem d_Mm_strength_25 : decode prog_14_method_44_code 25 = .ok (.idiv, 1) := zo_108 (zd_b zq_prog_14_method_44_code_0 25 rfl rfl rfl)
theorem d_Mm_strength_26 : decode prog_14_method_44_code 26 = .ok (.isub, 1) := zo_100 (zd_b zq_prog_14_method_44_code_0 26 rfl rfl rfl)
theorem d_Mm_strength_27 : decode prog_14_method_44_code 27 = .ok (.aload_n 0, 1) := zo_42 (zd_b zq_prog_14_method_44_code_0 27 rfl rfl rfl)
theorem d_Mm_strength_28 : decode prog_14_method_44_code 28 = .ok (.getfield 190, 3) := zo_180 (d := 0) (e := 190) (zd_b zq_prog_14_method_44_code_0 28 rfl rfl rfl) (zd_b zq_prog_14_method_44_code_0 29 rfl rfl rfl) (zd_b zq_prog_14_method_44_code_0 30 rfl rfl rfl)
theorem fs_Mm_190 : z_fs "IronpourModel" 190 12 15 := ⟨R_Mm, "IronpourModel", F_Mm, 31, rfl, u_Mm, by decide, Or.inl ⟨z_mj7 (i := 98) rfl (by decide +kernel), Or.inl rfl⟩⟩
theorem d_Mm_strength_31 : decode prog_14_method_44_code 31 = .ok (.iconst 4, 1) := zo_7 (zd_b zq_prog_14_method_44_code_0 31 rfl rfl rfl)
theorem d_Mm_strength_32 : decode prog_14_method_44_code 32 = .ok (.idiv, 1) := zo_108 (zd_b zq_prog_14_method_44_code_1 0 rfl rfl rfl)
theorem d_Mm_strength_33 : decode prog_14_method_44_code 33 = .ok (.isub, 1) := zo_100 (zd_b zq_prog_14_method_44_code_1 1 rfl rfl rfl)
theorem d_Mm_strength_34 : decode prog_14_method_44_code 34 = .ok (.invokestatic 193, 3) := zo_184 (d := 0) (e := 193) (zd_b zq_prog_14_method_44_code_1 2 rfl rfl rfl) (zd_b zq_prog_14_method_44_code_1 3 rfl rfl rfl) (zd_b zq_prog_14_method_44_code_1 4 rfl rfl rfl)
theorem ln_Mm_193 : Cond.methodLink "IronpourModel" 193 Lib.Math.max.name ∈ z_gw := z_mj8 (i := 105) rfl (by decide +kernel)
theorem d_Mm_strength_37 : decode prog_14_method_44_code 37 = .ok (.ireturn, 1) := zo_172 (zd_b zq_prog_14_method_44_code_1 5 rfl rfl rfl)
def S_Mm_strength (m mp mf mh mn mt mz mc_ mq mgr ml mi mr mm mu mk mx : Nat) (th pt cl wa co_ fi bu ho lh mg wd fpi fal : Int32) (po de : Int64) : Int32 := (if 0 < ((2 * cl) - ((if 0 ≤ (10 * wa) - (4 * cl) then (10 * wa) - (4 * cl) else 0 - ((10 * wa) - (4 * cl))) / 5)) - (bu / 4) then ((2 * cl) - ((if 0 ≤ (10 * wa) - (4 * cl) then (10 * wa) - (4 * cl) else 0 - ((10 * wa) - (4 * cl))) / 5)) - (bu / 4) else 0)
set_option maxHeartbeats 4000000 in
set_option maxRecDepth 100000 in
theorem C_Mm_strength (g : zG) (m mp mf mh mn mt mz mc_ mq mgr ml mi mr mm mu mk mx : Nat) (th pt cl wa co_ fi bu ho lh mg wd fpi fal : Int32) (po de : Int64) : CT g M_Mm_strength [.ref m] [(m, .inr (12, [.int th, .ref mp, .int pt, .ref mf, .ref mh, .ref mn, .ref mt, .ref mz, .ref mc_, .ref mq, .ref mgr, .int cl, .int wa, .int co_, .int fi, .int bu, .int ho, .ref ml, .ref mi, .ref mr, .int lh, .int mg, .int wd, .int fpi, .int fal, .ref mm, .ref mu, .ref mk, .ref mx, .long po, .long de]))] (fun o cs1 => o = .inl (some (.int (S_Mm_strength m mp mf mh mn mt mz mc_ mq mgr ml mi mr mm mu mk mx th pt cl wa co_ fi bu ho lh mg wd fpi fal po de))) ∧ cs1 = [(m, .inr (12, [.int th, .ref mp, .int pt, .ref mf, .ref mh, .ref mn, .ref mt, .ref mz, .ref mc_, .ref mq, .ref mgr, .int cl, .int wa, .int co_, .int fi, .int bu, .int ho, .ref ml, .ref mi, .ref mr, .int lh, .int mg, .int wd, .int fpi, .int fal, .ref mm, .ref mu, .ref mk, .ref mx, .long po, .long de]))]) 0 0 := by
  refine z_of (by decide) rfl (Nat.le_of_ble_eq_true rfl) (fun w0 => ?_)
  refine r_lvE (lv2 := [(0, .ref m)]) rfl ?_
  refine r_iconst d_Mm_strength_0 (v := 0) (by decide) ?_
  refine r_iconst d_Mm_strength_1 (v := 2) (by decide) ?_
  refine r_aload_n d_Mm_strength_2 rfl 0 rfl ?_
  refine r_get fs_Mm_43 d_Mm_strength_3 (q0 := 0) rfl rfl ?_
  refine r_imul d_Mm_strength_6 (v := 2 * cl) rfl ?_
  refine r_bipush d_Mm_strength_7 (v := 10) (by decide) ?_
  refine r_aload_n d_Mm_strength_9 rfl 0 rfl ?_
  refine r_get fs_Mm_46 d_Mm_strength_10 (q0 := 0) rfl rfl ?_
  refine r_imul d_Mm_strength_13 (v := 10 * wa) rfl ?_
  refine r_iconst d_Mm_strength_14 (v := 4) (by decide) ?_
  refine r_aload_n d_Mm_strength_15 rfl 0 rfl ?_
  refine r_get fs_Mm_43 d_Mm_strength_16 (q0 := 0) rfl rfl ?_
  refine r_imul d_Mm_strength_19 (v := 4 * cl) rfl ?_
  refine r_isub d_Mm_strength_20 (v := (10 * wa) - (4 * cl)) rfl ?_
  refine r_abs (v := (if 0 ≤ (10 * wa) - (4 * cl) then (10 * wa) - (4 * cl) else 0 - ((10 * wa) - (4 * cl)))) ln_Mm_187 w_mabs w_mi w_cabs d_Mm_strength_21 (by decide) (by decide) (Nat.le_of_ble_eq_true rfl) rfl ?_
  refine r_iconst d_Mm_strength_24 (v := 5) (by decide) ?_
  refine r_idiv d_Mm_strength_25 (v := (if 0 ≤ (10 * wa) - (4 * cl) then (10 * wa) - (4 * cl) else 0 - ((10 * wa) - (4 * cl))) / 5) (by decide) rfl ?_
  refine r_isub d_Mm_strength_26 (v := (2 * cl) - ((if 0 ≤ (10 * wa) - (4 * cl) then (10 * wa) - (4 * cl) else 0 - ((10 * wa) - (4 * cl))) / 5)) rfl ?_
  refine r_aload_n d_Mm_strength_27 rfl 0 rfl ?_
  refine r_get fs_Mm_190 d_Mm_strength_28 (q0 := 0) rfl rfl ?_
  refine r_iconst d_Mm_strength_31 (v := 4) (by decide) ?_
  refine r_idiv d_Mm_strength_32 (v := bu / 4) (by decide) rfl ?_
  refine r_isub d_Mm_strength_33 (v := ((2 * cl) - ((if 0 ≤ (10 * wa) - (4 * cl) then (10 * wa) - (4 * cl) else 0 - ((10 * wa) - (4 * cl))) / 5)) - (bu / 4)) rfl ?_
  refine r_max (v := (if 0 < ((2 * cl) - ((if 0 ≤ (10 * wa) - (4 * cl) then (10 * wa) - (4 * cl) else 0 - ((10 * wa) - (4 * cl))) / 5)) - (bu / 4) then ((2 * cl) - ((if 0 ≤ (10 * wa) - (4 * cl) then (10 * wa) - (4 * cl) else 0 - ((10 * wa) - (4 * cl))) / 5)) - (bu / 4) else 0)) ln_Mm_193 w_mmax w_mi w_cmax d_Mm_strength_34 (by decide) (by decide) (Nat.le_of_ble_eq_true rfl) rfl ?_
  refine r_iret d_Mm_strength_37 rfl rfl ?_
  exact ⟨rfl, rfl⟩
abbrev M_Mm_draught : zM := (⟨"IronpourModel", "draught", "()I"⟩, prog_14_method_45_code, 1, (Option.some FieldType.int), 2, 40, [])
theorem d_Mm_draught_0 : decode prog_14_method_45_code 0 = .ok (.iconst 0, 1) := zo_3 (zd_b zq_prog_14_method_45_code_0 0 rfl rfl rfl)
theorem d_Mm_draught_1 : decode prog_14_method_45_code 1 = .ok (.sipush 200, 3) := zo_17 (d := 0) (e := 200) (zd_b zq_prog_14_method_45_code_0 1 rfl rfl rfl) (zd_b zq_prog_14_method_45_code_0 2 rfl rfl rfl) (zd_b zq_prog_14_method_45_code_0 3 rfl rfl rfl) (by decide +kernel)
theorem d_Mm_draught_4 : decode prog_14_method_45_code 4 = .ok (.aload_n 0, 1) := zo_42 (zd_b zq_prog_14_method_45_code_0 4 rfl rfl rfl)
theorem d_Mm_draught_5 : decode prog_14_method_45_code 5 = .ok (.getfield 52, 3) := zo_180 (d := 0) (e := 52) (zd_b zq_prog_14_method_45_code_0 5 rfl rfl rfl) (zd_b zq_prog_14_method_45_code_0 6 rfl rfl rfl) (zd_b zq_prog_14_method_45_code_0 7 rfl rfl rfl)
theorem fs_Mm_52 : z_fs "IronpourModel" 52 12 14 := ⟨R_Mm, "IronpourModel", F_Mm, 31, rfl, u_Mm, by decide, Or.inl ⟨z_mj7 (i := 97) rfl (by decide +kernel), Or.inl rfl⟩⟩
theorem d_Mm_draught_8 : decode prog_14_method_45_code 8 = .ok (.isub, 1) := zo_100 (zd_b zq_prog_14_method_45_code_0 8 rfl rfl rfl)
theorem d_Mm_draught_9 : decode prog_14_method_45_code 9 = .ok (.aload_n 0, 1) := zo_42 (zd_b zq_prog_14_method_45_code_0 9 rfl rfl rfl)
theorem d_Mm_draught_10 : decode prog_14_method_45_code 10 = .ok (.getfield 49, 3) := zo_180 (d := 0) (e := 49) (zd_b zq_prog_14_method_45_code_0 10 rfl rfl rfl) (zd_b zq_prog_14_method_45_code_0 11 rfl rfl rfl) (zd_b zq_prog_14_method_45_code_0 12 rfl rfl rfl)
theorem fs_Mm_49 : z_fs "IronpourModel" 49 12 13 := ⟨R_Mm, "IronpourModel", F_Mm, 31, rfl, u_Mm, by decide, Or.inl ⟨z_mj7 (i := 96) rfl (by decide +kernel), Or.inl rfl⟩⟩
theorem d_Mm_draught_13 : decode prog_14_method_45_code 13 = .ok (.iconst 2, 1) := zo_5 (zd_b zq_prog_14_method_45_code_0 13 rfl rfl rfl)
theorem d_Mm_draught_14 : decode prog_14_method_45_code 14 = .ok (.idiv, 1) := zo_108 (zd_b zq_prog_14_method_45_code_0 14 rfl rfl rfl)
theorem d_Mm_draught_15 : decode prog_14_method_45_code 15 = .ok (.isub, 1) := zo_100 (zd_b zq_prog_14_method_45_code_0 15 rfl rfl rfl)
theorem d_Mm_draught_16 : decode prog_14_method_45_code 16 = .ok (.aload_n 0, 1) := zo_42 (zd_b zq_prog_14_method_45_code_0 16 rfl rfl rfl)
theorem d_Mm_draught_17 : decode prog_14_method_45_code 17 = .ok (.getfield 190, 3) := zo_180 (d := 0) (e := 190) (zd_b zq_prog_14_method_45_code_0 17 rfl rfl rfl) (zd_b zq_prog_14_method_45_code_0 18 rfl rfl rfl) (zd_b zq_prog_14_method_45_code_0 19 rfl rfl rfl)
theorem d_Mm_draught_20 : decode prog_14_method_45_code 20 = .ok (.isub, 1) := zo_100 (zd_b zq_prog_14_method_45_code_0 20 rfl rfl rfl)
theorem d_Mm_draught_21 : decode prog_14_method_45_code 21 = .ok (.invokestatic 193, 3) := zo_184 (d := 0) (e := 193) (zd_b zq_prog_14_method_45_code_0 21 rfl rfl rfl) (zd_b zq_prog_14_method_45_code_0 22 rfl rfl rfl) (zd_b zq_prog_14_method_45_code_0 23 rfl rfl rfl)
theorem d_Mm_draught_24 : decode prog_14_method_45_code 24 = .ok (.ireturn, 1) := zo_172 (zd_b zq_prog_14_method_45_code_0 24 rfl rfl rfl)
def S_Mm_draught (m mp mf mh mn mt mz mc_ mq mgr ml mi mr mm mu mk mx : Nat) (th pt cl wa co_ fi bu ho lh mg wd fpi fal : Int32) (po de : Int64) : Int32 := (if 0 < ((200 - fi) - (co_ / 2)) - bu then ((200 - fi) - (co_ / 2)) - bu else 0)
set_option maxHeartbeats 4000000 in
set_option maxRecDepth 100000 in
theorem C_Mm_draught (g : zG) (m mp mf mh mn mt mz mc_ mq mgr ml mi mr mm mu mk mx : Nat) (th pt cl wa co_ fi bu ho lh mg wd fpi fal : Int32) (po de : Int64) : CT g M_Mm_draught [.ref m] [(m, .inr (12, [.int th, .ref mp, .int pt, .ref mf, .ref mh, .ref mn, .ref mt, .ref mz, .ref mc_, .ref mq, .ref mgr, .int cl, .int wa, .int co_, .int fi, .int bu, .int ho, .ref ml, .ref mi, .ref mr, .int lh, .int mg, .int wd, .int fpi, .int fal, .ref mm, .ref mu, .ref mk, .ref mx, .long po, .long de]))] (fun o cs1 => o = .inl (some (.int (S_Mm_draught m mp mf mh mn mt mz mc_ mq mgr ml mi mr mm mu mk mx th pt cl wa co_ fi bu ho lh mg wd fpi fal po de))) ∧ cs1 = [(m, .inr (12, [.int th, .ref mp, .int pt, .ref mf, .ref mh, .ref mn, .ref mt, .ref mz, .ref mc_, .ref mq, .ref mgr, .int cl, .int wa, .int co_, .int fi, .int bu, .int ho, .ref ml, .ref mi, .ref mr, .int lh, .int mg, .int wd, .int fpi, .int fal, .ref mm, .ref mu, .ref mk, .ref mx, .long po, .long de]))]) 0 0 := by
  refine z_of (by decide) rfl (Nat.le_of_ble_eq_true rfl) (fun w0 => ?_)
  refine r_lvE (lv2 := [(0, .ref m)]) rfl ?_
  refine r_iconst d_Mm_draught_0 (v := 0) (by decide) ?_
  refine r_sipush d_Mm_draught_1 (v := 200) (by decide) ?_
  refine r_aload_n d_Mm_draught_4 rfl 0 rfl ?_
  refine r_get fs_Mm_52 d_Mm_draught_5 (q0 := 0) rfl rfl ?_
  refine r_isub d_Mm_draught_8 (v := 200 - fi) rfl ?_
  refine r_aload_n d_Mm_draught_9 rfl 0 rfl ?_
  refine r_get fs_Mm_49 d_Mm_draught_10 (q0 := 0) rfl rfl ?_
  refine r_iconst d_Mm_draught_13 (v := 2) (by decide) ?_
  refine r_idiv d_Mm_draught_14 (v := co_ / 2) (by decide) rfl ?_
  refine r_isub d_Mm_draught_15 (v := (200 - fi) - (co_ / 2)) rfl ?_
  refine r_aload_n d_Mm_draught_16 rfl 0 rfl ?_
  refine r_get fs_Mm_190 d_Mm_draught_17 (q0 := 0) rfl rfl ?_
  refine r_isub d_Mm_draught_20 (v := ((200 - fi) - (co_ / 2)) - bu) rfl ?_
  refine r_max (v := (if 0 < ((200 - fi) - (co_ / 2)) - bu then ((200 - fi) - (co_ / 2)) - bu else 0)) ln_Mm_193 w_mmax w_mi w_cmax d_Mm_draught_21 (by decide) (by decide) (Nat.le_of_ble_eq_true rfl) rfl ?_
  refine r_iret d_Mm_draught_24 rfl rfl ?_
  exact ⟨rfl, rfl⟩
abbrev M_Mm_most : zM := (⟨"IronpourModel", "most", "(I)I"⟩, prog_14_method_46_code, 1, (Option.some FieldType.int), 2, 40, [])
theorem d_Mm_most_0 : decode prog_14_method_46_code 0 = .ok (.iconst 0, 1) := zo_3 (zd_b zq_prog_14_method_46_code_0 0 rfl rfl rfl)
theorem d_Mm_most_1 : decode prog_14_method_46_code 1 = .ok (.sipush 300, 3) := zo_17 (d := 1) (e := 44) (zd_b zq_prog_14_method_46_code_0 1 rfl rfl rfl) (zd_b zq_prog_14_method_46_code_0 2 rfl rfl rfl) (zd_b zq_prog_14_method_46_code_0 3 rfl rfl rfl) (by decide +kernel)
theorem d_Mm_most_4 : decode prog_14_method_46_code 4 = .ok (.iload_n 0, 1) := zo_26 (zd_b zq_prog_14_method_46_code_0 4 rfl rfl rfl)
theorem d_Mm_most_5 : decode prog_14_method_46_code 5 = .ok (.invokestatic 182, 3) := zo_184 (d := 0) (e := 182) (zd_b zq_prog_14_method_46_code_0 5 rfl rfl rfl) (zd_b zq_prog_14_method_46_code_0 6 rfl rfl rfl) (zd_b zq_prog_14_method_46_code_0 7 rfl rfl rfl)
theorem ln_Mm_182 : Cond.methodLink "IronpourModel" 182 Lib.Math.min.name ∈ z_gw := z_mj8 (i := 97) rfl (by decide +kernel)
theorem d_Mm_most_8 : decode prog_14_method_46_code 8 = .ok (.invokestatic 193, 3) := zo_184 (d := 0) (e := 193) (zd_b zq_prog_14_method_46_code_0 8 rfl rfl rfl) (zd_b zq_prog_14_method_46_code_0 9 rfl rfl rfl) (zd_b zq_prog_14_method_46_code_0 10 rfl rfl rfl)
theorem d_Mm_most_11 : decode prog_14_method_46_code 11 = .ok (.ireturn, 1) := zo_172 (zd_b zq_prog_14_method_46_code_0 11 rfl rfl rfl)
def S_Mm_most (x : Int32) : Int32 := (if 0 < (if x < 300 then x else 300) then (if x < 300 then x else 300) else 0)
set_option maxHeartbeats 4000000 in
set_option maxRecDepth 100000 in
theorem C_Mm_most (g : zG) (x : Int32) : CT g M_Mm_most [.int x] [] (fun o cs1 => o = .inl (some (.int (S_Mm_most x))) ∧ cs1 = []) 0 0 := by
  refine z_of (by decide) rfl (Nat.le_of_ble_eq_true rfl) (fun w0 => ?_)
  refine r_lvE (lv2 := [(0, .int x)]) rfl ?_
  refine r_iconst d_Mm_most_0 (v := 0) (by decide) ?_
  refine r_sipush d_Mm_most_1 (v := 300) (by decide) ?_
  refine r_iload_n d_Mm_most_4 rfl 0 rfl ?_
  refine r_min (v := (if x < 300 then x else 300)) ln_Mm_182 w_mmin w_mi w_cmin d_Mm_most_5 (by decide) (by decide) (Nat.le_of_ble_eq_true rfl) rfl ?_
  refine r_max (v := (if 0 < (if x < 300 then x else 300) then (if x < 300 then x else 300) else 0)) ln_Mm_193 w_mmax w_mi w_cmax d_Mm_most_8 (by decide) (by decide) (Nat.le_of_ble_eq_true rfl) rfl ?_
  refine r_iret d_Mm_most_11 rfl rfl ?_
  exact ⟨rfl, rfl⟩
abbrev M_Mm_mill : zM := (⟨"IronpourModel", "mill", "(IIII)I"⟩, prog_14_method_47_code, 5, (Option.some FieldType.int), 3, 60, [])
theorem d_Mm_mill_0 : decode prog_14_method_47_code 0 = .ok (.aload_n 0, 1) := zo_42 (zd_b zq_prog_14_method_47_code_0 0 rfl rfl rfl)
theorem d_Mm_mill_1 : decode prog_14_method_47_code 1 = .ok (.iconst 0, 1) := zo_3 (zd_b zq_prog_14_method_47_code_0 1 rfl rfl rfl)
theorem d_Mm_mill_2 : decode prog_14_method_47_code 2 = .ok (.putfield 84, 3) := zo_181 (d := 0) (e := 84) (zd_b zq_prog_14_method_47_code_0 2 rfl rfl rfl) (zd_b zq_prog_14_method_47_code_0 3 rfl rfl rfl) (zd_b zq_prog_14_method_47_code_0 4 rfl rfl rfl)
theorem d_Mm_mill_5 : decode prog_14_method_47_code 5 = .ok (.aload_n 0, 1) := zo_42 (zd_b zq_prog_14_method_47_code_0 5 rfl rfl rfl)
theorem d_Mm_mill_6 : decode prog_14_method_47_code 6 = .ok (.iload_n 1, 1) := zo_27 (zd_b zq_prog_14_method_47_code_0 6 rfl rfl rfl)
theorem d_Mm_mill_7 : decode prog_14_method_47_code 7 = .ok (.iconst 0, 1) := zo_3 (zd_b zq_prog_14_method_47_code_0 7 rfl rfl rfl)
theorem d_Mm_mill_8 : decode prog_14_method_47_code 8 = .ok (.bipush 20, 2) := zo_16 (d := 20) (zd_b zq_prog_14_method_47_code_0 8 rfl rfl rfl) (zd_b zq_prog_14_method_47_code_0 9 rfl rfl rfl) (by decide +kernel)
theorem d_Mm_mill_10 : decode prog_14_method_47_code 10 = .ok (.invokestatic 87, 3) := zo_184 (d := 0) (e := 87) (zd_b zq_prog_14_method_47_code_0 10 rfl rfl rfl) (zd_b zq_prog_14_method_47_code_0 11 rfl rfl rfl) (zd_b zq_prog_14_method_47_code_0 12 rfl rfl rfl)
theorem ok_Mm_mill_Mm_in : z_ok M_Mm_mill M_Mm_in 3 := ⟨z_mj7 (i := 190) rfl (by decide +kernel), rfl, ⟨by decide +kernel, by decide +kernel, by decide +kernel⟩, ⟨by decide, by decide⟩, z_mj1 (i := 14) rfl (by decide +kernel), rfl⟩
theorem d_Mm_mill_13 : decode prog_14_method_47_code 13 = .ok (.ifCond .eq 34, 3) := zo_153 (d := 0) (e := 34) (zd_b zq_prog_14_method_47_code_0 13 rfl rfl rfl) (zd_b zq_prog_14_method_47_code_0 14 rfl rfl rfl) (zd_b zq_prog_14_method_47_code_0 15 rfl rfl rfl) (by decide +kernel)
theorem d_Mm_mill_47 : decode prog_14_method_47_code 47 = .ok (.iconst 1, 1) := zo_4 (zd_b zq_prog_14_method_47_code_1 15 rfl rfl rfl)
theorem d_Mm_mill_48 : decode prog_14_method_47_code 48 = .ok (.goto 4, 3) := zo_167 (d := 0) (e := 4) (zd_b zq_prog_14_method_47_code_1 16 rfl rfl rfl) (zd_b zq_prog_14_method_47_code_1 17 rfl rfl rfl) (zd_b zq_prog_14_method_47_code_1 18 rfl rfl rfl) (by decide +kernel)
theorem d_Mm_mill_52 : decode prog_14_method_47_code 52 = .ok (.iconst 1, 1) := zo_4 (zd_b zq_prog_14_method_47_code_1 20 rfl rfl rfl)
theorem d_Mm_mill_53 : decode prog_14_method_47_code 53 = .ok (.invokevirtual 103, 3) := zo_182 (d := 0) (e := 103) (zd_b zq_prog_14_method_47_code_1 21 rfl rfl rfl) (zd_b zq_prog_14_method_47_code_1 22 rfl rfl rfl) (zd_b zq_prog_14_method_47_code_1 23 rfl rfl rfl)
theorem ok_Mm_mill_Mm_fails : z_ok M_Mm_mill M_Mm_fails 2 := ⟨z_mj7 (i := 196) rfl (by decide +kernel), rfl, ⟨by decide +kernel, by decide +kernel, by decide +kernel⟩, ⟨by decide, by decide⟩, z_mj1 (i := 14) rfl (by decide +kernel), rfl⟩
theorem d_Mm_mill_56 : decode prog_14_method_47_code 56 = .ok (.ifCond .eq 5, 3) := zo_153 (d := 0) (e := 5) (zd_b zq_prog_14_method_47_code_1 24 rfl rfl rfl) (zd_b zq_prog_14_method_47_code_1 25 rfl rfl rfl) (zd_b zq_prog_14_method_47_code_1 26 rfl rfl rfl) (by decide +kernel)
theorem d_Mm_mill_59 : decode prog_14_method_47_code 59 = .ok (.iconst 0, 1) := zo_3 (zd_b zq_prog_14_method_47_code_1 27 rfl rfl rfl)
theorem d_Mm_mill_60 : decode prog_14_method_47_code 60 = .ok (.ireturn, 1) := zo_172 (zd_b zq_prog_14_method_47_code_1 28 rfl rfl rfl)
theorem d_Mm_mill_16 : decode prog_14_method_47_code 16 = .ok (.iload_n 2, 1) := zo_28 (zd_b zq_prog_14_method_47_code_0 16 rfl rfl rfl)
theorem d_Mm_mill_17 : decode prog_14_method_47_code 17 = .ok (.iconst 0, 1) := zo_3 (zd_b zq_prog_14_method_47_code_0 17 rfl rfl rfl)
theorem d_Mm_mill_18 : decode prog_14_method_47_code 18 = .ok (.bipush 20, 2) := zo_16 (d := 20) (zd_b zq_prog_14_method_47_code_0 18 rfl rfl rfl) (zd_b zq_prog_14_method_47_code_0 19 rfl rfl rfl) (by decide +kernel)
theorem d_Mm_mill_20 : decode prog_14_method_47_code 20 = .ok (.invokestatic 87, 3) := zo_184 (d := 0) (e := 87) (zd_b zq_prog_14_method_47_code_0 20 rfl rfl rfl) (zd_b zq_prog_14_method_47_code_0 21 rfl rfl rfl) (zd_b zq_prog_14_method_47_code_0 22 rfl rfl rfl)
theorem d_Mm_mill_23 : decode prog_14_method_47_code 23 = .ok (.ifCond .eq 24, 3) := zo_153 (d := 0) (e := 24) (zd_b zq_prog_14_method_47_code_0 23 rfl rfl rfl) (zd_b zq_prog_14_method_47_code_0 24 rfl rfl rfl) (zd_b zq_prog_14_method_47_code_0 25 rfl rfl rfl) (by decide +kernel)
theorem d_Mm_mill_26 : decode prog_14_method_47_code 26 = .ok (.iload_n 3, 1) := zo_29 (zd_b zq_prog_14_method_47_code_0 26 rfl rfl rfl)
theorem d_Mm_mill_27 : decode prog_14_method_47_code 27 = .ok (.iconst 0, 1) := zo_3 (zd_b zq_prog_14_method_47_code_0 27 rfl rfl rfl)
theorem d_Mm_mill_28 : decode prog_14_method_47_code 28 = .ok (.bipush 20, 2) := zo_16 (d := 20) (zd_b zq_prog_14_method_47_code_0 28 rfl rfl rfl) (zd_b zq_prog_14_method_47_code_0 29 rfl rfl rfl) (by decide +kernel)
theorem d_Mm_mill_30 : decode prog_14_method_47_code 30 = .ok (.invokestatic 87, 3) := zo_184 (d := 0) (e := 87) (zd_b zq_prog_14_method_47_code_0 30 rfl rfl rfl) (zd_b zq_prog_14_method_47_code_0 31 rfl rfl rfl) (zd_b zq_prog_14_method_47_code_1 0 rfl rfl rfl)
theorem d_Mm_mill_33 : decode prog_14_method_47_code 33 = .ok (.ifCond .eq 14, 3) := zo_153 (d := 0) (e := 14) (zd_b zq_prog_14_method_47_code_1 1 rfl rfl rfl) (zd_b zq_prog_14_method_47_code_1 2 rfl rfl rfl) (zd_b zq_prog_14_method_47_code_1 3 rfl rfl rfl) (by decide +kernel)
theorem d_Mm_mill_36 : decode prog_14_method_47_code 36 = .ok (.iload 4, 2) := zo_21 (d := 4) (zd_b zq_prog_14_method_47_code_1 4 rfl rfl rfl) (zd_b zq_prog_14_method_47_code_1 5 rfl rfl rfl)
theorem d_Mm_mill_38 : decode prog_14_method_47_code 38 = .ok (.iconst 0, 1) := zo_3 (zd_b zq_prog_14_method_47_code_1 6 rfl rfl rfl)
theorem d_Mm_mill_39 : decode prog_14_method_47_code 39 = .ok (.bipush 50, 2) := zo_16 (d := 50) (zd_b zq_prog_14_method_47_code_1 7 rfl rfl rfl) (zd_b zq_prog_14_method_47_code_1 8 rfl rfl rfl) (by decide +kernel)
theorem d_Mm_mill_41 : decode prog_14_method_47_code 41 = .ok (.invokestatic 87, 3) := zo_184 (d := 0) (e := 87) (zd_b zq_prog_14_method_47_code_1 9 rfl rfl rfl) (zd_b zq_prog_14_method_47_code_1 10 rfl rfl rfl) (zd_b zq_prog_14_method_47_code_1 11 rfl rfl rfl)
theorem d_Mm_mill_44 : decode prog_14_method_47_code 44 = .ok (.ifCond .ne 7, 3) := zo_154 (d := 0) (e := 7) (zd_b zq_prog_14_method_47_code_1 12 rfl rfl rfl) (zd_b zq_prog_14_method_47_code_1 13 rfl rfl rfl) (zd_b zq_prog_14_method_47_code_1 14 rfl rfl rfl) (by decide +kernel)
set_option maxHeartbeats 4000000 in
set_option maxRecDepth 100000 in
theorem C_Mm_millE (g : zG) (m mp mf mh mn mt mz mc_ mq mgr ml mi mr mm mu mk mx : Nat) (th pt cl wa co_ fi bu ho lh mg wd fpi fal : Int32) (po de : Int64) (m1 m2 m3 m4 : Int32) (hw : ¬ ((0 ≤ m1 ∧ m1 ≤ 20) ∧ (0 ≤ m2 ∧ m2 ≤ 20) ∧ (0 ≤ m3 ∧ m3 ≤ 20) ∧ (0 ≤ m4 ∧ m4 ≤ 50))) : CT g M_Mm_mill [.ref m, .int m1, .int m2, .int m3, .int m4] [(m, .inr (12, [.int th, .ref mp, .int pt, .ref mf, .ref mh, .ref mn, .ref mt, .ref mz, .ref mc_, .ref mq, .ref mgr, .int cl, .int wa, .int co_, .int fi, .int bu, .int ho, .ref ml, .ref mi, .ref mr, .int lh, .int mg, .int wd, .int fpi, .int fal, .ref mm, .ref mu, .ref mk, .ref mx, .long po, .long de]))] (fun o cs1 => o = .inl (some (.int 0)) ∧ cs1 = [(m, .inr (12, [.int 1, .ref mp, .int pt, .ref mf, .ref mh, .ref mn, .ref mt, .ref mz, .ref mc_, .ref mq, .ref mgr, .int cl, .int wa, .int co_, .int fi, .int bu, .int ho, .ref ml, .ref mi, .ref mr, .int lh, .int mg, .int wd, .int fpi, .int fal, .ref mm, .ref mu, .ref mk, .ref mx, .long po, .long de]))]) 0 0 := by
  refine z_of (by decide) rfl (Nat.le_of_ble_eq_true rfl) (fun w0 => ?_)
  refine r_lvE (lv2 := [(0, .ref m), (1, .int m1), (2, .int m2), (3, .int m3), (4, .int m4)]) rfl ?_
  refine r_aload_n d_Mm_mill_0 rfl 0 rfl ?_
  refine r_iconst d_Mm_mill_1 (v := 0) (by decide) ?_
  refine r_put fp_Mm_84 d_Mm_mill_2 (fun h => nomatch h) rfl rfl (q0 := 0) rfl (Nat.le_of_ble_eq_true rfl) (cs' := [(m, .inr (12, [.int 0, .ref mp, .int pt, .ref mf, .ref mh, .ref mn, .ref mt, .ref mz, .ref mc_, .ref mq, .ref mgr, .int cl, .int wa, .int co_, .int fi, .int bu, .int ho, .ref ml, .ref mi, .ref mr, .int lh, .int mg, .int wd, .int fpi, .int fal, .ref mm, .ref mu, .ref mk, .ref mx, .long po, .long de]))]) rfl ?_
  refine r_aload_n d_Mm_mill_5 rfl 0 rfl ?_
  refine r_iload_n d_Mm_mill_6 rfl 1 rfl ?_
  refine r_iconst d_Mm_mill_7 (v := 0) (by decide) ?_
  refine r_bipush d_Mm_mill_8 (v := 20) (by decide) ?_
  refine r_callS (As := [.int m1, .int 0, .int 20]) (rest := [.ref m]) (csC := []) (is := []) ln_Mm_87 w_st_Mm_in ok_Mm_mill_Mm_in d_Mm_mill_10 (C_Mm_in g m1 0 20) rfl rfl (Nat.le_of_ble_eq_true rfl) rfl (by decide) (by omega) (by omega) (fun E cs1 hx => ?_) (fun v cs1 hx => ?_)
  · exact absurd hx.1 (by simp)
  · obtain ⟨e1, rfl⟩ := hx
    cases e1
    refine ⟨rfl, ?_⟩
    refine r_st (st2 := [.int (if 0 ≤ m1 ∧ m1 ≤ 20 then 1 else 0), .ref m]) rfl ?_
    refine r_cs (cs2 := [(m, .inr (12, [.int 0, .ref mp, .int pt, .ref mf, .ref mh, .ref mn, .ref mt, .ref mz, .ref mc_, .ref mq, .ref mgr, .int cl, .int wa, .int co_, .int fi, .int bu, .int ho, .ref ml, .ref mi, .ref mr, .int lh, .int mg, .int wd, .int fpi, .int fal, .ref mm, .ref mu, .ref mk, .ref mx, .long po, .long de]))]) rfl ?_
    refine r_if_eq (tgt := 47) d_Mm_mill_13 (by decide) (fun c_13 => ?_) (fun c_13 => ?_)
    · refine r_iconst d_Mm_mill_47 (v := 1) (by decide) ?_
      refine r_goto (tgt := 52) d_Mm_mill_48 (by decide) ?_
      refine r_iconst d_Mm_mill_52 (v := 1) (by decide) ?_
      refine r_callV (As := [.int 1, .int 1]) (rest := []) (csC := [(m, .inr (12, [.int 0, .ref mp, .int pt, .ref mf, .ref mh, .ref mn, .ref mt, .ref mz, .ref mc_, .ref mq, .ref mgr, .int cl, .int wa, .int co_, .int fi, .int bu, .int ho, .ref ml, .ref mi, .ref mr, .int lh, .int mg, .int wd, .int fpi, .int fal, .ref mm, .ref mu, .ref mk, .ref mx, .long po, .long de]))]) (is := [0]) (q0 := 0) rfl rfl ln_Mm_103 w_im_Mm_fails w_se_Mm_fails ok_Mm_mill_Mm_fails d_Mm_mill_53 (C_Mm_fails1 g m mp mf mh mn mt mz mc_ mq mgr ml mi mr mm mu mk mx th pt cl wa co_ fi bu ho lh mg wd fpi fal po de) rfl rfl (Nat.le_of_ble_eq_true rfl) rfl (by decide) (by omega) (by omega) (fun E cs1 hx => ?_) (fun v cs1 hx => ?_)
      · exact absurd hx.1 (by simp)
      · obtain ⟨e1, rfl⟩ := hx
        cases e1
        refine ⟨rfl, ?_⟩
        refine r_st (st2 := [.int 1]) rfl ?_
        refine r_cs (cs2 := [(m, .inr (12, [.int 1, .ref mp, .int pt, .ref mf, .ref mh, .ref mn, .ref mt, .ref mz, .ref mc_, .ref mq, .ref mgr, .int cl, .int wa, .int co_, .int fi, .int bu, .int ho, .ref ml, .ref mi, .ref mr, .int lh, .int mg, .int wd, .int fpi, .int fal, .ref mm, .ref mu, .ref mk, .ref mx, .long po, .long de]))]) rfl ?_
        refine r_if_eq (tgt := 61) d_Mm_mill_56 (by decide) (fun c_56 => ?_) (fun c_56 => ?_)
        · exact absurd c_56 (by decide)
        · refine r_iconst d_Mm_mill_59 (v := 0) (by decide) ?_
          refine r_iret d_Mm_mill_60 rfl rfl ?_
          exact ⟨rfl, rfl⟩
    · refine r_iload_n d_Mm_mill_16 rfl 2 rfl ?_
      refine r_iconst d_Mm_mill_17 (v := 0) (by decide) ?_
      refine r_bipush d_Mm_mill_18 (v := 20) (by decide) ?_
      refine r_callS (As := [.int m2, .int 0, .int 20]) (rest := [.ref m]) (csC := []) (is := []) ln_Mm_87 w_st_Mm_in ok_Mm_mill_Mm_in d_Mm_mill_20 (C_Mm_in g m2 0 20) rfl rfl (Nat.le_of_ble_eq_true rfl) rfl (by decide) (by omega) (by omega) (fun E cs1 hx => ?_) (fun v cs1 hx => ?_)
      · exact absurd hx.1 (by simp)
      · obtain ⟨e1, rfl⟩ := hx
        cases e1
        refine ⟨rfl, ?_⟩
        refine r_st (st2 := [.int (if 0 ≤ m2 ∧ m2 ≤ 20 then 1 else 0), .ref m]) rfl ?_
        refine r_cs (cs2 := [(m, .inr (12, [.int 0, .ref mp, .int pt, .ref mf, .ref mh, .ref mn, .ref mt, .ref mz, .ref mc_, .ref mq, .ref mgr, .int cl, .int wa, .int co_, .int fi, .int bu, .int ho, .ref ml, .ref mi, .ref mr, .int lh, .int mg, .int wd, .int fpi, .int fal, .ref mm, .ref mu, .ref mk, .ref mx, .long po, .long de]))]) rfl ?_
        refine r_if_eq (tgt := 47) d_Mm_mill_23 (by decide) (fun c_23 => ?_) (fun c_23 => ?_)
        · refine r_iconst d_Mm_mill_47 (v := 1) (by decide) ?_
          refine r_goto (tgt := 52) d_Mm_mill_48 (by decide) ?_
          refine r_iconst d_Mm_mill_52 (v := 1) (by decide) ?_
          refine r_callV (As := [.int 1, .int 1]) (rest := []) (csC := [(m, .inr (12, [.int 0, .ref mp, .int pt, .ref mf, .ref mh, .ref mn, .ref mt, .ref mz, .ref mc_, .ref mq, .ref mgr, .int cl, .int wa, .int co_, .int fi, .int bu, .int ho, .ref ml, .ref mi, .ref mr, .int lh, .int mg, .int wd, .int fpi, .int fal, .ref mm, .ref mu, .ref mk, .ref mx, .long po, .long de]))]) (is := [0]) (q0 := 0) rfl rfl ln_Mm_103 w_im_Mm_fails w_se_Mm_fails ok_Mm_mill_Mm_fails d_Mm_mill_53 (C_Mm_fails1 g m mp mf mh mn mt mz mc_ mq mgr ml mi mr mm mu mk mx th pt cl wa co_ fi bu ho lh mg wd fpi fal po de) rfl rfl (Nat.le_of_ble_eq_true rfl) rfl (by decide) (by omega) (by omega) (fun E cs1 hx => ?_) (fun v cs1 hx => ?_)
          · exact absurd hx.1 (by simp)
          · obtain ⟨e1, rfl⟩ := hx
            cases e1
            refine ⟨rfl, ?_⟩
            refine r_st (st2 := [.int 1]) rfl ?_
            refine r_cs (cs2 := [(m, .inr (12, [.int 1, .ref mp, .int pt, .ref mf, .ref mh, .ref mn, .ref mt, .ref mz, .ref mc_, .ref mq, .ref mgr, .int cl, .int wa, .int co_, .int fi, .int bu, .int ho, .ref ml, .ref mi, .ref mr, .int lh, .int mg, .int wd, .int fpi, .int fal, .ref mm, .ref mu, .ref mk, .ref mx, .long po, .long de]))]) rfl ?_
            refine r_if_eq (tgt := 61) d_Mm_mill_56 (by decide) (fun c_56 => ?_) (fun c_56 => ?_)
            · exact absurd c_56 (by decide)
            · refine r_iconst d_Mm_mill_59 (v := 0) (by decide) ?_
              refine r_iret d_Mm_mill_60 rfl rfl ?_
              exact ⟨rfl, rfl⟩
        · refine r_iload_n d_Mm_mill_26 rfl 3 rfl ?_
          refine r_iconst d_Mm_mill_27 (v := 0) (by decide) ?_
          refine r_bipush d_Mm_mill_28 (v := 20) (by decide) ?_
          refine r_callS (As := [.int m3, .int 0, .int 20]) (rest := [.ref m]) (csC := []) (is := []) ln_Mm_87 w_st_Mm_in ok_Mm_mill_Mm_in d_Mm_mill_30 (C_Mm_in g m3 0 20) rfl rfl (Nat.le_of_ble_eq_true rfl) rfl (by decide) (by omega) (by omega) (fun E cs1 hx => ?_) (fun v cs1 hx => ?_)
          · exact absurd hx.1 (by simp)
          · obtain ⟨e1, rfl⟩ := hx
            cases e1
            refine ⟨rfl, ?_⟩
            refine r_st (st2 := [.int (if 0 ≤ m3 ∧ m3 ≤ 20 then 1 else 0), .ref m]) rfl ?_
            refine r_cs (cs2 := [(m, .inr (12, [.int 0, .ref mp, .int pt, .ref mf, .ref mh, .ref mn, .ref mt, .ref mz, .ref mc_, .ref mq, .ref mgr, .int cl, .int wa, .int co_, .int fi, .int bu, .int ho, .ref ml, .ref mi, .ref mr, .int lh, .int mg, .int wd, .int fpi, .int fal, .ref mm, .ref mu, .ref mk, .ref mx, .long po, .long de]))]) rfl ?_
            refine r_if_eq (tgt := 47) d_Mm_mill_33 (by decide) (fun c_33 => ?_) (fun c_33 => ?_)
            · refine r_iconst d_Mm_mill_47 (v := 1) (by decide) ?_
              refine r_goto (tgt := 52) d_Mm_mill_48 (by decide) ?_
              refine r_iconst d_Mm_mill_52 (v := 1) (by decide) ?_
              refine r_callV (As := [.int 1, .int 1]) (rest := []) (csC := [(m, .inr (12, [.int 0, .ref mp, .int pt, .ref mf, .ref mh, .ref mn, .ref mt, .ref mz, .ref mc_, .ref mq, .ref mgr, .int cl, .int wa, .int co_, .int fi, .int bu, .int ho, .ref ml, .ref mi, .ref mr, .int lh, .int mg, .int wd, .int fpi, .int fal, .ref mm, .ref mu, .ref mk, .ref mx, .long po, .long de]))]) (is := [0]) (q0 := 0) rfl rfl ln_Mm_103 w_im_Mm_fails w_se_Mm_fails ok_Mm_mill_Mm_fails d_Mm_mill_53 (C_Mm_fails1 g m mp mf mh mn mt mz mc_ mq mgr ml mi mr mm mu mk mx th pt cl wa co_ fi bu ho lh mg wd fpi fal po de) rfl rfl (Nat.le_of_ble_eq_true rfl) rfl (by decide) (by omega) (by omega) (fun E cs1 hx => ?_) (fun v cs1 hx => ?_)
              · exact absurd hx.1 (by simp)
              · obtain ⟨e1, rfl⟩ := hx
                cases e1
                refine ⟨rfl, ?_⟩
                refine r_st (st2 := [.int 1]) rfl ?_
                refine r_cs (cs2 := [(m, .inr (12, [.int 1, .ref mp, .int pt, .ref mf, .ref mh, .ref mn, .ref mt, .ref mz, .ref mc_, .ref mq, .ref mgr, .int cl, .int wa, .int co_, .int fi, .int bu, .int ho, .ref ml, .ref mi, .ref mr, .int lh, .int mg, .int wd, .int fpi, .int fal, .ref mm, .ref mu, .ref mk, .ref mx, .long po, .long de]))]) rfl ?_
                refine r_if_eq (tgt := 61) d_Mm_mill_56 (by decide) (fun c_56 => ?_) (fun c_56 => ?_)
                · exact absurd c_56 (by decide)
                · refine r_iconst d_Mm_mill_59 (v := 0) (by decide) ?_
                  refine r_iret d_Mm_mill_60 rfl rfl ?_
                  exact ⟨rfl, rfl⟩
            · refine r_iload d_Mm_mill_36 4 rfl ?_
              refine r_iconst d_Mm_mill_38 (v := 0) (by decide) ?_
              refine r_bipush d_Mm_mill_39 (v := 50) (by decide) ?_
              refine r_callS (As := [.int m4, .int 0, .int 50]) (rest := [.ref m]) (csC := []) (is := []) ln_Mm_87 w_st_Mm_in ok_Mm_mill_Mm_in d_Mm_mill_41 (C_Mm_in g m4 0 50) rfl rfl (Nat.le_of_ble_eq_true rfl) rfl (by decide) (by omega) (by omega) (fun E cs1 hx => ?_) (fun v cs1 hx => ?_)
              · exact absurd hx.1 (by simp)
              · obtain ⟨e1, rfl⟩ := hx
                cases e1
                refine ⟨rfl, ?_⟩
                refine r_st (st2 := [.int (if 0 ≤ m4 ∧ m4 ≤ 50 then 1 else 0), .ref m]) rfl ?_
                refine r_cs (cs2 := [(m, .inr (12, [.int 0, .ref mp, .int pt, .ref mf, .ref mh, .ref mn, .ref mt, .ref mz, .ref mc_, .ref mq, .ref mgr, .int cl, .int wa, .int co_, .int fi, .int bu, .int ho, .ref ml, .ref mi, .ref mr, .int lh, .int mg, .int wd, .int fpi, .int fal, .ref mm, .ref mu, .ref mk, .ref mx, .long po, .long de]))]) rfl ?_
                refine r_if_ne (tgt := 51) d_Mm_mill_44 (by decide) (fun c_44 => ?_) (fun c_44 => ?_)
                · exact absurd ⟨z_b1 c_13, z_b1 c_23, z_b1 c_33, z_b1 c_44⟩ hw
                · refine r_iconst d_Mm_mill_47 (v := 1) (by decide) ?_
                  refine r_goto (tgt := 52) d_Mm_mill_48 (by decide) ?_
                  refine r_iconst d_Mm_mill_52 (v := 1) (by decide) ?_
                  refine r_callV (As := [.int 1, .int 1]) (rest := []) (csC := [(m, .inr (12, [.int 0, .ref mp, .int pt, .ref mf, .ref mh, .ref mn, .ref mt, .ref mz, .ref mc_, .ref mq, .ref mgr, .int cl, .int wa, .int co_, .int fi, .int bu, .int ho, .ref ml, .ref mi, .ref mr, .int lh, .int mg, .int wd, .int fpi, .int fal, .ref mm, .ref mu, .ref mk, .ref mx, .long po, .long de]))]) (is := [0]) (q0 := 0) rfl rfl ln_Mm_103 w_im_Mm_fails w_se_Mm_fails ok_Mm_mill_Mm_fails d_Mm_mill_53 (C_Mm_fails1 g m mp mf mh mn mt mz mc_ mq mgr ml mi mr mm mu mk mx th pt cl wa co_ fi bu ho lh mg wd fpi fal po de) rfl rfl (Nat.le_of_ble_eq_true rfl) rfl (by decide) (by omega) (by omega) (fun E cs1 hx => ?_) (fun v cs1 hx => ?_)
                  · exact absurd hx.1 (by simp)
                  · obtain ⟨e1, rfl⟩ := hx
                    cases e1
                    refine ⟨rfl, ?_⟩
                    refine r_st (st2 := [.int 1]) rfl ?_
                    refine r_cs (cs2 := [(m, .inr (12, [.int 1, .ref mp, .int pt, .ref mf, .ref mh, .ref mn, .ref mt, .ref mz, .ref mc_, .ref mq, .ref mgr, .int cl, .int wa, .int co_, .int fi, .int bu, .int ho, .ref ml, .ref mi, .ref mr, .int lh, .int mg, .int wd, .int fpi, .int fal, .ref mm, .ref mu, .ref mk, .ref mx, .long po, .long de]))]) rfl ?_
                    refine r_if_eq (tgt := 61) d_Mm_mill_56 (by decide) (fun c_56 => ?_) (fun c_56 => ?_)
                    · exact absurd c_56 (by decide)
                    · refine r_iconst d_Mm_mill_59 (v := 0) (by decide) ?_
                      refine r_iret d_Mm_mill_60 rfl rfl ?_
                      exact ⟨rfl, rfl⟩
theorem d_Mm_mill_51 : decode prog_14_method_47_code 51 = .ok (.iconst 0, 1) := zo_3 (zd_b zq_prog_14_method_47_code_1 19 rfl rfl rfl)
theorem d_Mm_mill_61 : decode prog_14_method_47_code 61 = .ok (.aload_n 0, 1) := zo_42 (zd_b zq_prog_14_method_47_code_1 29 rfl rfl rfl)
theorem d_Mm_mill_62 : decode prog_14_method_47_code 62 = .ok (.dup, 1) := zo_89 (zd_b zq_prog_14_method_47_code_1 30 rfl rfl rfl)
theorem d_Mm_mill_63 : decode prog_14_method_47_code 63 = .ok (.getfield 52, 3) := zo_180 (d := 0) (e := 52) (zd_b zq_prog_14_method_47_code_1 31 rfl rfl rfl) (zd_b zq_prog_14_method_47_code_2 0 rfl rfl rfl) (zd_b zq_prog_14_method_47_code_2 1 rfl rfl rfl)
theorem d_Mm_mill_66 : decode prog_14_method_47_code 66 = .ok (.aload_n 0, 1) := zo_42 (zd_b zq_prog_14_method_47_code_2 2 rfl rfl rfl)
theorem d_Mm_mill_67 : decode prog_14_method_47_code 67 = .ok (.getfield 52, 3) := zo_180 (d := 0) (e := 52) (zd_b zq_prog_14_method_47_code_2 3 rfl rfl rfl) (zd_b zq_prog_14_method_47_code_2 4 rfl rfl rfl) (zd_b zq_prog_14_method_47_code_2 5 rfl rfl rfl)
theorem d_Mm_mill_70 : decode prog_14_method_47_code 70 = .ok (.iload 4, 2) := zo_21 (d := 4) (zd_b zq_prog_14_method_47_code_2 6 rfl rfl rfl) (zd_b zq_prog_14_method_47_code_2 7 rfl rfl rfl)
theorem d_Mm_mill_72 : decode prog_14_method_47_code 72 = .ok (.imul, 1) := zo_104 (zd_b zq_prog_14_method_47_code_2 8 rfl rfl rfl)
theorem d_Mm_mill_73 : decode prog_14_method_47_code 73 = .ok (.bipush 100, 2) := zo_16 (d := 100) (zd_b zq_prog_14_method_47_code_2 9 rfl rfl rfl) (zd_b zq_prog_14_method_47_code_2 10 rfl rfl rfl) (by decide +kernel)
theorem d_Mm_mill_75 : decode prog_14_method_47_code 75 = .ok (.idiv, 1) := zo_108 (zd_b zq_prog_14_method_47_code_2 11 rfl rfl rfl)
theorem d_Mm_mill_76 : decode prog_14_method_47_code 76 = .ok (.isub, 1) := zo_100 (zd_b zq_prog_14_method_47_code_2 12 rfl rfl rfl)
theorem d_Mm_mill_77 : decode prog_14_method_47_code 77 = .ok (.putfield 52, 3) := zo_181 (d := 0) (e := 52) (zd_b zq_prog_14_method_47_code_2 13 rfl rfl rfl) (zd_b zq_prog_14_method_47_code_2 14 rfl rfl rfl) (zd_b zq_prog_14_method_47_code_2 15 rfl rfl rfl)
theorem fp_Mm_52 : z_fp "IronpourModel" 52 12 14 false .int := ⟨R_Mm, "IronpourModel", F_Mm, 31, t_Mm, rfl, u_Mm, by decide, t_Mm_ok, n_Mm, rfl, rfl, Or.inl ⟨z_mj7 (i := 97) rfl (by decide +kernel), Or.inl rfl, fun h => nomatch h⟩⟩
theorem d_Mm_mill_80 : decode prog_14_method_47_code 80 = .ok (.aload_n 0, 1) := zo_42 (zd_b zq_prog_14_method_47_code_2 16 rfl rfl rfl)
theorem d_Mm_mill_81 : decode prog_14_method_47_code 81 = .ok (.dup, 1) := zo_89 (zd_b zq_prog_14_method_47_code_2 17 rfl rfl rfl)
theorem d_Mm_mill_82 : decode prog_14_method_47_code 82 = .ok (.getfield 190, 3) := zo_180 (d := 0) (e := 190) (zd_b zq_prog_14_method_47_code_2 18 rfl rfl rfl) (zd_b zq_prog_14_method_47_code_2 19 rfl rfl rfl) (zd_b zq_prog_14_method_47_code_2 20 rfl rfl rfl)
theorem d_Mm_mill_85 : decode prog_14_method_47_code 85 = .ok (.aload_n 0, 1) := zo_42 (zd_b zq_prog_14_method_47_code_2 21 rfl rfl rfl)
theorem d_Mm_mill_86 : decode prog_14_method_47_code 86 = .ok (.getfield 190, 3) := zo_180 (d := 0) (e := 190) (zd_b zq_prog_14_method_47_code_2 22 rfl rfl rfl) (zd_b zq_prog_14_method_47_code_2 23 rfl rfl rfl) (zd_b zq_prog_14_method_47_code_2 24 rfl rfl rfl)
theorem d_Mm_mill_89 : decode prog_14_method_47_code 89 = .ok (.iload 4, 2) := zo_21 (d := 4) (zd_b zq_prog_14_method_47_code_2 25 rfl rfl rfl) (zd_b zq_prog_14_method_47_code_2 26 rfl rfl rfl)
theorem d_Mm_mill_91 : decode prog_14_method_47_code 91 = .ok (.imul, 1) := zo_104 (zd_b zq_prog_14_method_47_code_2 27 rfl rfl rfl)
theorem d_Mm_mill_92 : decode prog_14_method_47_code 92 = .ok (.bipush 100, 2) := zo_16 (d := 100) (zd_b zq_prog_14_method_47_code_2 28 rfl rfl rfl) (zd_b zq_prog_14_method_47_code_2 29 rfl rfl rfl) (by decide +kernel)
theorem d_Mm_mill_94 : decode prog_14_method_47_code 94 = .ok (.idiv, 1) := zo_108 (zd_b zq_prog_14_method_47_code_2 30 rfl rfl rfl)
theorem d_Mm_mill_95 : decode prog_14_method_47_code 95 = .ok (.isub, 1) := zo_100 (zd_b zq_prog_14_method_47_code_2 31 rfl rfl rfl)
theorem d_Mm_mill_96 : decode prog_14_method_47_code 96 = .ok (.putfield 190, 3) := zo_181 (d := 0) (e := 190) (zd_b zq_prog_14_method_47_code_3 0 rfl rfl rfl) (zd_b zq_prog_14_method_47_code_3 1 rfl rfl rfl) (zd_b zq_prog_14_method_47_code_3 2 rfl rfl rfl)
theorem fp_Mm_190 : z_fp "IronpourModel" 190 12 15 false .int := ⟨R_Mm, "IronpourModel", F_Mm, 31, t_Mm, rfl, u_Mm, by decide, t_Mm_ok, n_Mm, rfl, rfl, Or.inl ⟨z_mj7 (i := 98) rfl (by decide +kernel), Or.inl rfl, fun h => nomatch h⟩⟩
theorem d_Mm_mill_99 : decode prog_14_method_47_code 99 = .ok (.aload_n 0, 1) := zo_42 (zd_b zq_prog_14_method_47_code_3 3 rfl rfl rfl)
theorem d_Mm_mill_100 : decode prog_14_method_47_code 100 = .ok (.aload_n 0, 1) := zo_42 (zd_b zq_prog_14_method_47_code_3 4 rfl rfl rfl)
theorem d_Mm_mill_101 : decode prog_14_method_47_code 101 = .ok (.getfield 43, 3) := zo_180 (d := 0) (e := 43) (zd_b zq_prog_14_method_47_code_3 5 rfl rfl rfl) (zd_b zq_prog_14_method_47_code_3 6 rfl rfl rfl) (zd_b zq_prog_14_method_47_code_3 7 rfl rfl rfl)
theorem d_Mm_mill_104 : decode prog_14_method_47_code 104 = .ok (.iload_n 1, 1) := zo_27 (zd_b zq_prog_14_method_47_code_3 8 rfl rfl rfl)
theorem d_Mm_mill_105 : decode prog_14_method_47_code 105 = .ok (.iadd, 1) := zo_96 (zd_b zq_prog_14_method_47_code_3 9 rfl rfl rfl)
theorem d_Mm_mill_106 : decode prog_14_method_47_code 106 = .ok (.invokestatic 196, 3) := zo_184 (d := 0) (e := 196) (zd_b zq_prog_14_method_47_code_3 10 rfl rfl rfl) (zd_b zq_prog_14_method_47_code_3 11 rfl rfl rfl) (zd_b zq_prog_14_method_47_code_3 12 rfl rfl rfl)
theorem ok_Mm_mill_Mm_most : z_ok M_Mm_mill M_Mm_most 1 := ⟨z_mj8 (i := 104) rfl (by decide +kernel), rfl, ⟨by decide +kernel, by decide +kernel, by decide +kernel⟩, ⟨by decide, by decide⟩, z_mj1 (i := 14) rfl (by decide +kernel), rfl⟩
theorem ln_Mm_196 : Cond.methodLink "IronpourModel" 196 M_Mm_most.1 ∈ z_gw := z_mj8 (i := 102) rfl (by decide +kernel)
theorem w_st_Mm_most : Cond.static M_Mm_most.1 ∈ z_gw := z_mj8 (i := 103) rfl (by decide +kernel)
theorem d_Mm_mill_109 : decode prog_14_method_47_code 109 = .ok (.putfield 43, 3) := zo_181 (d := 0) (e := 43) (zd_b zq_prog_14_method_47_code_3 13 rfl rfl rfl) (zd_b zq_prog_14_method_47_code_3 14 rfl rfl rfl) (zd_b zq_prog_14_method_47_code_3 15 rfl rfl rfl)
theorem fp_Mm_43 : z_fp "IronpourModel" 43 12 11 false .int := ⟨R_Mm, "IronpourModel", F_Mm, 31, t_Mm, rfl, u_Mm, by decide, t_Mm_ok, n_Mm, rfl, rfl, Or.inl ⟨z_mj7 (i := 94) rfl (by decide +kernel), Or.inl rfl, fun h => nomatch h⟩⟩
theorem d_Mm_mill_112 : decode prog_14_method_47_code 112 = .ok (.aload_n 0, 1) := zo_42 (zd_b zq_prog_14_method_47_code_3 16 rfl rfl rfl)
theorem d_Mm_mill_113 : decode prog_14_method_47_code 113 = .ok (.aload_n 0, 1) := zo_42 (zd_b zq_prog_14_method_47_code_3 17 rfl rfl rfl)
theorem d_Mm_mill_114 : decode prog_14_method_47_code 114 = .ok (.getfield 46, 3) := zo_180 (d := 0) (e := 46) (zd_b zq_prog_14_method_47_code_3 18 rfl rfl rfl) (zd_b zq_prog_14_method_47_code_3 19 rfl rfl rfl) (zd_b zq_prog_14_method_47_code_3 20 rfl rfl rfl)
theorem d_Mm_mill_117 : decode prog_14_method_47_code 117 = .ok (.iload_n 2, 1) := zo_28 (zd_b zq_prog_14_method_47_code_3 21 rfl rfl rfl)
theorem d_Mm_mill_118 : decode prog_14_method_47_code 118 = .ok (.iadd, 1) := zo_96 (zd_b zq_prog_14_method_47_code_3 22 rfl rfl rfl)
theorem d_Mm_mill_119 : decode prog_14_method_47_code 119 = .ok (.invokestatic 196, 3) := zo_184 (d := 0) (e := 196) (zd_b zq_prog_14_method_47_code_3 23 rfl rfl rfl) (zd_b zq_prog_14_method_47_code_3 24 rfl rfl rfl) (zd_b zq_prog_14_method_47_code_3 25 rfl rfl rfl)
theorem d_Mm_mill_122 : decode prog_14_method_47_code 122 = .ok (.putfield 46, 3) := zo_181 (d := 0) (e := 46) (zd_b zq_prog_14_method_47_code_3 26 rfl rfl rfl) (zd_b zq_prog_14_method_47_code_3 27 rfl rfl rfl) (zd_b zq_prog_14_method_47_code_3 28 rfl rfl rfl)
theorem fp_Mm_46 : z_fp "IronpourModel" 46 12 12 false .int := ⟨R_Mm, "IronpourModel", F_Mm, 31, t_Mm, rfl, u_Mm, by decide, t_Mm_ok, n_Mm, rfl, rfl, Or.inl ⟨z_mj7 (i := 95) rfl (by decide +kernel), Or.inl rfl, fun h => nomatch h⟩⟩
theorem d_Mm_mill_125 : decode prog_14_method_47_code 125 = .ok (.aload_n 0, 1) := zo_42 (zd_b zq_prog_14_method_47_code_3 29 rfl rfl rfl)
theorem d_Mm_mill_126 : decode prog_14_method_47_code 126 = .ok (.aload_n 0, 1) := zo_42 (zd_b zq_prog_14_method_47_code_3 30 rfl rfl rfl)
theorem d_Mm_mill_127 : decode prog_14_method_47_code 127 = .ok (.getfield 49, 3) := zo_180 (d := 0) (e := 49) (zd_b zq_prog_14_method_47_code_3 31 rfl rfl rfl) (zd_b zq_prog_14_method_47_code_4 0 rfl rfl rfl) (zd_b zq_prog_14_method_47_code_4 1 rfl rfl rfl)
theorem d_Mm_mill_130 : decode prog_14_method_47_code 130 = .ok (.iload_n 3, 1) := zo_29 (zd_b zq_prog_14_method_47_code_4 2 rfl rfl rfl)
theorem d_Mm_mill_131 : decode prog_14_method_47_code 131 = .ok (.iadd, 1) := zo_96 (zd_b zq_prog_14_method_47_code_4 3 rfl rfl rfl)
theorem d_Mm_mill_132 : decode prog_14_method_47_code 132 = .ok (.invokestatic 196, 3) := zo_184 (d := 0) (e := 196) (zd_b zq_prog_14_method_47_code_4 4 rfl rfl rfl) (zd_b zq_prog_14_method_47_code_4 5 rfl rfl rfl) (zd_b zq_prog_14_method_47_code_4 6 rfl rfl rfl)
theorem d_Mm_mill_135 : decode prog_14_method_47_code 135 = .ok (.putfield 49, 3) := zo_181 (d := 0) (e := 49) (zd_b zq_prog_14_method_47_code_4 7 rfl rfl rfl) (zd_b zq_prog_14_method_47_code_4 8 rfl rfl rfl) (zd_b zq_prog_14_method_47_code_4 9 rfl rfl rfl)
theorem fp_Mm_49 : z_fp "IronpourModel" 49 12 13 false .int := ⟨R_Mm, "IronpourModel", F_Mm, 31, t_Mm, rfl, u_Mm, by decide, t_Mm_ok, n_Mm, rfl, rfl, Or.inl ⟨z_mj7 (i := 96) rfl (by decide +kernel), Or.inl rfl, fun h => nomatch h⟩⟩
theorem d_Mm_mill_138 : decode prog_14_method_47_code 138 = .ok (.aload_n 0, 1) := zo_42 (zd_b zq_prog_14_method_47_code_4 10 rfl rfl rfl)
theorem d_Mm_mill_139 : decode prog_14_method_47_code 139 = .ok (.invokevirtual 199, 3) := zo_182 (d := 0) (e := 199) (zd_b zq_prog_14_method_47_code_4 11 rfl rfl rfl) (zd_b zq_prog_14_method_47_code_4 12 rfl rfl rfl) (zd_b zq_prog_14_method_47_code_4 13 rfl rfl rfl)
theorem ok_Mm_mill_Mm_strength : z_ok M_Mm_mill M_Mm_strength 0 := ⟨z_mj8 (i := 109) rfl (by decide +kernel), rfl, ⟨by decide +kernel, by decide +kernel, by decide +kernel⟩, ⟨by decide, by decide⟩, z_mj1 (i := 14) rfl (by decide +kernel), rfl⟩
theorem ln_Mm_199 : Cond.methodLink "IronpourModel" 199 M_Mm_strength.1 ∈ z_gw := z_mj8 (i := 106) rfl (by decide +kernel)
theorem w_im_Mm_strength : Cond.instanceMethod M_Mm_strength.1 ∈ z_gw := z_mj8 (i := 108) rfl (by decide +kernel)
theorem w_se_Mm_strength : Cond.selects M_Mm_strength.1.cls M_Mm_strength.1 M_Mm_strength.1 ∈ z_gw := z_mem (i := 44) (by decide +kernel) (by decide +kernel)
theorem d_Mm_mill_142 : decode prog_14_method_47_code 142 = .ok (.ireturn, 1) := zo_172 (zd_b zq_prog_14_method_47_code_4 14 rfl rfl rfl)
set_option maxHeartbeats 4000000 in
set_option maxRecDepth 100000 in
theorem C_Mm_millN (g : zG) (m mp mf mh mn mt mz mc_ mq mgr ml mi mr mm mu mk mx : Nat) (th pt cl wa co_ fi bu ho lh mg wd fpi fal : Int32) (po de : Int64) (m1 m2 m3 m4 : Int32) (hw : ((0 ≤ m1 ∧ m1 ≤ 20) ∧ (0 ≤ m2 ∧ m2 ≤ 20) ∧ (0 ≤ m3 ∧ m3 ≤ 20) ∧ (0 ≤ m4 ∧ m4 ≤ 50))) : CT g M_Mm_mill [.ref m, .int m1, .int m2, .int m3, .int m4] [(m, .inr (12, [.int th, .ref mp, .int pt, .ref mf, .ref mh, .ref mn, .ref mt, .ref mz, .ref mc_, .ref mq, .ref mgr, .int cl, .int wa, .int co_, .int fi, .int bu, .int ho, .ref ml, .ref mi, .ref mr, .int lh, .int mg, .int wd, .int fpi, .int fal, .ref mm, .ref mu, .ref mk, .ref mx, .long po, .long de]))] (fun o cs1 => o = .inl (some (.int (S_Mm_strength m mp mf mh mn mt mz mc_ mq mgr ml mi mr mm mu mk mx 0 pt (S_Mm_most (cl + m1)) (S_Mm_most (wa + m2)) (S_Mm_most (co_ + m3)) (fi - ((fi * m4) / 100)) (bu - ((bu * m4) / 100)) ho lh mg wd fpi fal po de))) ∧ cs1 = [(m, .inr (12, [.int 0, .ref mp, .int pt, .ref mf, .ref mh, .ref mn, .ref mt, .ref mz, .ref mc_, .ref mq, .ref mgr, .int (S_Mm_most (cl + m1)), .int (S_Mm_most (wa + m2)), .int (S_Mm_most (co_ + m3)), .int (fi - ((fi * m4) / 100)), .int (bu - ((bu * m4) / 100)), .int ho, .ref ml, .ref mi, .ref mr, .int lh, .int mg, .int wd, .int fpi, .int fal, .ref mm, .ref mu, .ref mk, .ref mx, .long po, .long de]))]) 0 0 := by
  refine z_of (by decide) rfl (Nat.le_of_ble_eq_true rfl) (fun w0 => ?_)
  refine r_lvE (lv2 := [(0, .ref m), (1, .int m1), (2, .int m2), (3, .int m3), (4, .int m4)]) rfl ?_
  refine r_aload_n d_Mm_mill_0 rfl 0 rfl ?_
  refine r_iconst d_Mm_mill_1 (v := 0) (by decide) ?_
  refine r_put fp_Mm_84 d_Mm_mill_2 (fun h => nomatch h) rfl rfl (q0 := 0) rfl (Nat.le_of_ble_eq_true rfl) (cs' := [(m, .inr (12, [.int 0, .ref mp, .int pt, .ref mf, .ref mh, .ref mn, .ref mt, .ref mz, .ref mc_, .ref mq, .ref mgr, .int cl, .int wa, .int co_, .int fi, .int bu, .int ho, .ref ml, .ref mi, .ref mr, .int lh, .int mg, .int wd, .int fpi, .int fal, .ref mm, .ref mu, .ref mk, .ref mx, .long po, .long de]))]) rfl ?_
  refine r_aload_n d_Mm_mill_5 rfl 0 rfl ?_
  refine r_iload_n d_Mm_mill_6 rfl 1 rfl ?_
  refine r_iconst d_Mm_mill_7 (v := 0) (by decide) ?_
  refine r_bipush d_Mm_mill_8 (v := 20) (by decide) ?_
  refine r_callS (As := [.int m1, .int 0, .int 20]) (rest := [.ref m]) (csC := []) (is := []) ln_Mm_87 w_st_Mm_in ok_Mm_mill_Mm_in d_Mm_mill_10 (C_Mm_in g m1 0 20) rfl rfl (Nat.le_of_ble_eq_true rfl) rfl (by decide) (by omega) (by omega) (fun E cs1 hx => ?_) (fun v cs1 hx => ?_)
  · exact absurd hx.1 (by simp)
  · obtain ⟨e1, rfl⟩ := hx
    rw [if_pos hw.1] at e1
    cases e1
    refine ⟨rfl, ?_⟩
    refine r_st (st2 := [.int 1, .ref m]) rfl ?_
    refine r_cs (cs2 := [(m, .inr (12, [.int 0, .ref mp, .int pt, .ref mf, .ref mh, .ref mn, .ref mt, .ref mz, .ref mc_, .ref mq, .ref mgr, .int cl, .int wa, .int co_, .int fi, .int bu, .int ho, .ref ml, .ref mi, .ref mr, .int lh, .int mg, .int wd, .int fpi, .int fal, .ref mm, .ref mu, .ref mk, .ref mx, .long po, .long de]))]) rfl ?_
    refine r_if_eq (tgt := 47) d_Mm_mill_13 (by decide) (fun c_13 => ?_) (fun c_13 => ?_)
    · exact absurd c_13 (by decide)
    · refine r_iload_n d_Mm_mill_16 rfl 2 rfl ?_
      refine r_iconst d_Mm_mill_17 (v := 0) (by decide) ?_
      refine r_bipush d_Mm_mill_18 (v := 20) (by decide) ?_
      refine r_callS (As := [.int m2, .int 0, .int 20]) (rest := [.ref m]) (csC := []) (is := []) ln_Mm_87 w_st_Mm_in ok_Mm_mill_Mm_in d_Mm_mill_20 (C_Mm_in g m2 0 20) rfl rfl (Nat.le_of_ble_eq_true rfl) rfl (by decide) (by omega) (by omega) (fun E cs1 hx => ?_) (fun v cs1 hx => ?_)
      · exact absurd hx.1 (by simp)
      · obtain ⟨e1, rfl⟩ := hx
        rw [if_pos hw.2.1] at e1
        cases e1
        refine ⟨rfl, ?_⟩
        refine r_st (st2 := [.int 1, .ref m]) rfl ?_
        refine r_cs (cs2 := [(m, .inr (12, [.int 0, .ref mp, .int pt, .ref mf, .ref mh, .ref mn, .ref mt, .ref mz, .ref mc_, .ref mq, .ref mgr, .int cl, .int wa, .int co_, .int fi, .int bu, .int ho, .ref ml, .ref mi, .ref mr, .int lh, .int mg, .int wd, .int fpi, .int fal, .ref mm, .ref mu, .ref mk, .ref mx, .long po, .long de]))]) rfl ?_
        refine r_if_eq (tgt := 47) d_Mm_mill_23 (by decide) (fun c_23 => ?_) (fun c_23 => ?_)
        · exact absurd c_23 (by decide)
        · refine r_iload_n d_Mm_mill_26 rfl 3 rfl ?_
          refine r_iconst d_Mm_mill_27 (v := 0) (by decide) ?_
          refine r_bipush d_Mm_mill_28 (v := 20) (by decide) ?_
          refine r_callS (As := [.int m3, .int 0, .int 20]) (rest := [.ref m]) (csC := []) (is := []) ln_Mm_87 w_st_Mm_in ok_Mm_mill_Mm_in d_Mm_mill_30 (C_Mm_in g m3 0 20) rfl rfl (Nat.le_of_ble_eq_true rfl) rfl (by decide) (by omega) (by omega) (fun E cs1 hx => ?_) (fun v cs1 hx => ?_)
          · exact absurd hx.1 (by simp)
          · obtain ⟨e1, rfl⟩ := hx
            rw [if_pos hw.2.2.1] at e1
            cases e1
            refine ⟨rfl, ?_⟩
            refine r_st (st2 := [.int 1, .ref m]) rfl ?_
            refine r_cs (cs2 := [(m, .inr (12, [.int 0, .ref mp, .int pt, .ref mf, .ref mh, .ref mn, .ref mt, .ref mz, .ref mc_, .ref mq, .ref mgr, .int cl, .int wa, .int co_, .int fi, .int bu, .int ho, .ref ml, .ref mi, .ref mr, .int lh, .int mg, .int wd, .int fpi, .int fal, .ref mm, .ref mu, .ref mk, .ref mx, .long po, .long de]))]) rfl ?_
            refine r_if_eq (tgt := 47) d_Mm_mill_33 (by decide) (fun c_33 => ?_) (fun c_33 => ?_)
            · exact absurd c_33 (by decide)
            · refine r_iload d_Mm_mill_36 4 rfl ?_
              refine r_iconst d_Mm_mill_38 (v := 0) (by decide) ?_
              refine r_bipush d_Mm_mill_39 (v := 50) (by decide) ?_
              refine r_callS (As := [.int m4, .int 0, .int 50]) (rest := [.ref m]) (csC := []) (is := []) ln_Mm_87 w_st_Mm_in ok_Mm_mill_Mm_in d_Mm_mill_41 (C_Mm_in g m4 0 50) rfl rfl (Nat.le_of_ble_eq_true rfl) rfl (by decide) (by omega) (by omega) (fun E cs1 hx => ?_) (fun v cs1 hx => ?_)
              · exact absurd hx.1 (by simp)
              · obtain ⟨e1, rfl⟩ := hx
                rw [if_pos hw.2.2.2] at e1
                cases e1
                refine ⟨rfl, ?_⟩
                refine r_st (st2 := [.int 1, .ref m]) rfl ?_
                refine r_cs (cs2 := [(m, .inr (12, [.int 0, .ref mp, .int pt, .ref mf, .ref mh, .ref mn, .ref mt, .ref mz, .ref mc_, .ref mq, .ref mgr, .int cl, .int wa, .int co_, .int fi, .int bu, .int ho, .ref ml, .ref mi, .ref mr, .int lh, .int mg, .int wd, .int fpi, .int fal, .ref mm, .ref mu, .ref mk, .ref mx, .long po, .long de]))]) rfl ?_
                refine r_if_ne (tgt := 51) d_Mm_mill_44 (by decide) (fun c_44 => ?_) (fun c_44 => ?_)
                · refine r_iconst d_Mm_mill_51 (v := 0) (by decide) ?_
                  refine r_iconst d_Mm_mill_52 (v := 1) (by decide) ?_
                  refine r_callV (As := [.int 0, .int 1]) (rest := []) (csC := [(m, .inr (12, [.int 0, .ref mp, .int pt, .ref mf, .ref mh, .ref mn, .ref mt, .ref mz, .ref mc_, .ref mq, .ref mgr, .int cl, .int wa, .int co_, .int fi, .int bu, .int ho, .ref ml, .ref mi, .ref mr, .int lh, .int mg, .int wd, .int fpi, .int fal, .ref mm, .ref mu, .ref mk, .ref mx, .long po, .long de]))]) (is := [0]) (q0 := 0) rfl rfl ln_Mm_103 w_im_Mm_fails w_se_Mm_fails ok_Mm_mill_Mm_fails d_Mm_mill_53 (C_Mm_fails0 g m mp mf mh mn mt mz mc_ mq mgr ml mi mr mm mu mk mx th pt cl wa co_ fi bu ho lh mg wd fpi fal po de 1) rfl rfl (Nat.le_of_ble_eq_true rfl) rfl (by decide) (by omega) (by omega) (fun E cs1 hx => ?_) (fun v cs1 hx => ?_)
                  · exact absurd hx.1 (by simp)
                  · obtain ⟨e1, rfl⟩ := hx
                    cases e1
                    refine ⟨rfl, ?_⟩
                    refine r_st (st2 := [.int 0]) rfl ?_
                    refine r_cs (cs2 := [(m, .inr (12, [.int 0, .ref mp, .int pt, .ref mf, .ref mh, .ref mn, .ref mt, .ref mz, .ref mc_, .ref mq, .ref mgr, .int cl, .int wa, .int co_, .int fi, .int bu, .int ho, .ref ml, .ref mi, .ref mr, .int lh, .int mg, .int wd, .int fpi, .int fal, .ref mm, .ref mu, .ref mk, .ref mx, .long po, .long de]))]) rfl ?_
                    refine r_if_eq (tgt := 61) d_Mm_mill_56 (by decide) (fun c_56 => ?_) (fun c_56 => ?_)
                    · refine r_aload_n d_Mm_mill_61 rfl 0 rfl ?_
                      refine r_dup d_Mm_mill_62 rfl ?_
                      refine r_get fs_Mm_52 d_Mm_mill_63 (q0 := 0) rfl rfl ?_
                      refine r_aload_n d_Mm_mill_66 rfl 0 rfl ?_
                      refine r_get fs_Mm_52 d_Mm_mill_67 (q0 := 0) rfl rfl ?_
                      refine r_iload d_Mm_mill_70 4 rfl ?_
                      refine r_imul d_Mm_mill_72 (v := (fi * m4)) rfl ?_
                      refine r_bipush d_Mm_mill_73 (v := 100) (by decide) ?_
                      refine r_idiv d_Mm_mill_75 (v := ((fi * m4) / 100)) (by decide) rfl ?_
                      refine r_isub d_Mm_mill_76 (v := (fi - ((fi * m4) / 100))) rfl ?_
                      refine r_put fp_Mm_52 d_Mm_mill_77 (fun h => nomatch h) rfl rfl (q0 := 0) rfl (Nat.le_of_ble_eq_true rfl) (cs' := [(m, .inr (12, [.int 0, .ref mp, .int pt, .ref mf, .ref mh, .ref mn, .ref mt, .ref mz, .ref mc_, .ref mq, .ref mgr, .int cl, .int wa, .int co_, .int (fi - ((fi * m4) / 100)), .int bu, .int ho, .ref ml, .ref mi, .ref mr, .int lh, .int mg, .int wd, .int fpi, .int fal, .ref mm, .ref mu, .ref mk, .ref mx, .long po, .long de]))]) rfl ?_
                      refine r_aload_n d_Mm_mill_80 rfl 0 rfl ?_
                      refine r_dup d_Mm_mill_81 rfl ?_
                      refine r_get fs_Mm_190 d_Mm_mill_82 (q0 := 0) rfl rfl ?_
                      refine r_aload_n d_Mm_mill_85 rfl 0 rfl ?_
                      refine r_get fs_Mm_190 d_Mm_mill_86 (q0 := 0) rfl rfl ?_
                      refine r_iload d_Mm_mill_89 4 rfl ?_
                      refine r_imul d_Mm_mill_91 (v := (bu * m4)) rfl ?_
                      refine r_bipush d_Mm_mill_92 (v := 100) (by decide) ?_
                      refine r_idiv d_Mm_mill_94 (v := ((bu * m4) / 100)) (by decide) rfl ?_
                      refine r_isub d_Mm_mill_95 (v := (bu - ((bu * m4) / 100))) rfl ?_
                      refine r_put fp_Mm_190 d_Mm_mill_96 (fun h => nomatch h) rfl rfl (q0 := 0) rfl (Nat.le_of_ble_eq_true rfl) (cs' := [(m, .inr (12, [.int 0, .ref mp, .int pt, .ref mf, .ref mh, .ref mn, .ref mt, .ref mz, .ref mc_, .ref mq, .ref mgr, .int cl, .int wa, .int co_, .int (fi - ((fi * m4) / 100)), .int (bu - ((bu * m4) / 100)), .int ho, .ref ml, .ref mi, .ref mr, .int lh, .int mg, .int wd, .int fpi, .int fal, .ref mm, .ref mu, .ref mk, .ref mx, .long po, .long de]))]) rfl ?_
                      refine r_aload_n d_Mm_mill_99 rfl 0 rfl ?_
                      refine r_aload_n d_Mm_mill_100 rfl 0 rfl ?_
                      refine r_get fs_Mm_43 d_Mm_mill_101 (q0 := 0) rfl rfl ?_
                      refine r_iload_n d_Mm_mill_104 rfl 1 rfl ?_
                      refine r_iadd d_Mm_mill_105 (v := cl + m1) rfl ?_
                      refine r_callS (As := [.int (cl + m1)]) (rest := [.ref m]) (csC := []) (is := []) ln_Mm_196 w_st_Mm_most ok_Mm_mill_Mm_most d_Mm_mill_106 (C_Mm_most g (cl + m1)) rfl rfl (Nat.le_of_ble_eq_true rfl) rfl (by decide) (by omega) (by omega) (fun E cs1 hx => ?_) (fun v cs1 hx => ?_)
                      · exact absurd hx.1 (by simp)
                      · obtain ⟨e1, rfl⟩ := hx
                        cases e1
                        refine ⟨rfl, ?_⟩
                        refine r_st (st2 := [.int (S_Mm_most (cl + m1)), .ref m]) rfl ?_
                        refine r_cs (cs2 := [(m, .inr (12, [.int 0, .ref mp, .int pt, .ref mf, .ref mh, .ref mn, .ref mt, .ref mz, .ref mc_, .ref mq, .ref mgr, .int cl, .int wa, .int co_, .int (fi - ((fi * m4) / 100)), .int (bu - ((bu * m4) / 100)), .int ho, .ref ml, .ref mi, .ref mr, .int lh, .int mg, .int wd, .int fpi, .int fal, .ref mm, .ref mu, .ref mk, .ref mx, .long po, .long de]))]) rfl ?_
                        refine r_put fp_Mm_43 d_Mm_mill_109 (fun h => nomatch h) rfl rfl (q0 := 0) rfl (Nat.le_of_ble_eq_true rfl) (cs' := [(m, .inr (12, [.int 0, .ref mp, .int pt, .ref mf, .ref mh, .ref mn, .ref mt, .ref mz, .ref mc_, .ref mq, .ref mgr, .int (S_Mm_most (cl + m1)), .int wa, .int co_, .int (fi - ((fi * m4) / 100)), .int (bu - ((bu * m4) / 100)), .int ho, .ref ml, .ref mi, .ref mr, .int lh, .int mg, .int wd, .int fpi, .int fal, .ref mm, .ref mu, .ref mk, .ref mx, .long po, .long de]))]) rfl ?_
                        refine r_aload_n d_Mm_mill_112 rfl 0 rfl ?_
                        refine r_aload_n d_Mm_mill_113 rfl 0 rfl ?_
                        refine r_get fs_Mm_46 d_Mm_mill_114 (q0 := 0) rfl rfl ?_
                        refine r_iload_n d_Mm_mill_117 rfl 2 rfl ?_
                        refine r_iadd d_Mm_mill_118 (v := wa + m2) rfl ?_
                        refine r_callS (As := [.int (wa + m2)]) (rest := [.ref m]) (csC := []) (is := []) ln_Mm_196 w_st_Mm_most ok_Mm_mill_Mm_most d_Mm_mill_119 (C_Mm_most g (wa + m2)) rfl rfl (Nat.le_of_ble_eq_true rfl) rfl (by decide) (by omega) (by omega) (fun E cs1 hx => ?_) (fun v cs1 hx => ?_)
                        · exact absurd hx.1 (by simp)
                        · obtain ⟨e1, rfl⟩ := hx
                          cases e1
                          refine ⟨rfl, ?_⟩
                          refine r_st (st2 := [.int (S_Mm_most (wa + m2)), .ref m]) rfl ?_
                          refine r_cs (cs2 := [(m, .inr (12, [.int 0, .ref mp, .int pt, .ref mf, .ref mh, .ref mn, .ref mt, .ref mz, .ref mc_, .ref mq, .ref mgr, .int (S_Mm_most (cl + m1)), .int wa, .int co_, .int (fi - ((fi * m4) / 100)), .int (bu - ((bu * m4) / 100)), .int ho, .ref ml, .ref mi, .ref mr, .int lh, .int mg, .int wd, .int fpi, .int fal, .ref mm, .ref mu, .ref mk, .ref mx, .long po, .long de]))]) rfl ?_
                          refine r_put fp_Mm_46 d_Mm_mill_122 (fun h => nomatch h) rfl rfl (q0 := 0) rfl (Nat.le_of_ble_eq_true rfl) (cs' := [(m, .inr (12, [.int 0, .ref mp, .int pt, .ref mf, .ref mh, .ref mn, .ref mt, .ref mz, .ref mc_, .ref mq, .ref mgr, .int (S_Mm_most (cl + m1)), .int (S_Mm_most (wa + m2)), .int co_, .int (fi - ((fi * m4) / 100)), .int (bu - ((bu * m4) / 100)), .int ho, .ref ml, .ref mi, .ref mr, .int lh, .int mg, .int wd, .int fpi, .int fal, .ref mm, .ref mu, .ref mk, .ref mx, .long po, .long de]))]) rfl ?_
                          refine r_aload_n d_Mm_mill_125 rfl 0 rfl ?_
                          refine r_aload_n d_Mm_mill_126 rfl 0 rfl ?_
                          refine r_get fs_Mm_49 d_Mm_mill_127 (q0 := 0) rfl rfl ?_
                          refine r_iload_n d_Mm_mill_130 rfl 3 rfl ?_
                          refine r_iadd d_Mm_mill_131 (v := co_ + m3) rfl ?_
                          refine r_callS (As := [.int (co_ + m3)]) (rest := [.ref m]) (csC := []) (is := []) ln_Mm_196 w_st_Mm_most ok_Mm_mill_Mm_most d_Mm_mill_132 (C_Mm_most g (co_ + m3)) rfl rfl (Nat.le_of_ble_eq_true rfl) rfl (by decide) (by omega) (by omega) (fun E cs1 hx => ?_) (fun v cs1 hx => ?_)
                          · exact absurd hx.1 (by simp)
                          · obtain ⟨e1, rfl⟩ := hx
                            cases e1
                            refine ⟨rfl, ?_⟩
                            refine r_st (st2 := [.int (S_Mm_most (co_ + m3)), .ref m]) rfl ?_
                            refine r_cs (cs2 := [(m, .inr (12, [.int 0, .ref mp, .int pt, .ref mf, .ref mh, .ref mn, .ref mt, .ref mz, .ref mc_, .ref mq, .ref mgr, .int (S_Mm_most (cl + m1)), .int (S_Mm_most (wa + m2)), .int co_, .int (fi - ((fi * m4) / 100)), .int (bu - ((bu * m4) / 100)), .int ho, .ref ml, .ref mi, .ref mr, .int lh, .int mg, .int wd, .int fpi, .int fal, .ref mm, .ref mu, .ref mk, .ref mx, .long po, .long de]))]) rfl ?_
                            refine r_put fp_Mm_49 d_Mm_mill_135 (fun h => nomatch h) rfl rfl (q0 := 0) rfl (Nat.le_of_ble_eq_true rfl) (cs' := [(m, .inr (12, [.int 0, .ref mp, .int pt, .ref mf, .ref mh, .ref mn, .ref mt, .ref mz, .ref mc_, .ref mq, .ref mgr, .int (S_Mm_most (cl + m1)), .int (S_Mm_most (wa + m2)), .int (S_Mm_most (co_ + m3)), .int (fi - ((fi * m4) / 100)), .int (bu - ((bu * m4) / 100)), .int ho, .ref ml, .ref mi, .ref mr, .int lh, .int mg, .int wd, .int fpi, .int fal, .ref mm, .ref mu, .ref mk, .ref mx, .long po, .long de]))]) rfl ?_
                            refine r_aload_n d_Mm_mill_138 rfl 0 rfl ?_
                            refine r_callV (As := []) (rest := []) (csC := [(m, .inr (12, [.int 0, .ref mp, .int pt, .ref mf, .ref mh, .ref mn, .ref mt, .ref mz, .ref mc_, .ref mq, .ref mgr, .int (S_Mm_most (cl + m1)), .int (S_Mm_most (wa + m2)), .int (S_Mm_most (co_ + m3)), .int (fi - ((fi * m4) / 100)), .int (bu - ((bu * m4) / 100)), .int ho, .ref ml, .ref mi, .ref mr, .int lh, .int mg, .int wd, .int fpi, .int fal, .ref mm, .ref mu, .ref mk, .ref mx, .long po, .long de]))]) (is := [0]) (q0 := 0) rfl rfl ln_Mm_199 w_im_Mm_strength w_se_Mm_strength ok_Mm_mill_Mm_strength d_Mm_mill_139 (C_Mm_strength g m mp mf mh mn mt mz mc_ mq mgr ml mi mr mm mu mk mx 0 pt (S_Mm_most (cl + m1)) (S_Mm_most (wa + m2)) (S_Mm_most (co_ + m3)) (fi - ((fi * m4) / 100)) (bu - ((bu * m4) / 100)) ho lh mg wd fpi fal po de) rfl rfl (Nat.le_of_ble_eq_true rfl) rfl (by decide) (by omega) (by omega) (fun E cs1 hx => ?_) (fun v cs1 hx => ?_)
                            · exact absurd hx.1 (by simp)
                            · obtain ⟨e1, rfl⟩ := hx
                              cases e1
                              refine ⟨rfl, ?_⟩
                              refine r_st (st2 := [.int (S_Mm_strength m mp mf mh mn mt mz mc_ mq mgr ml mi mr mm mu mk mx 0 pt (S_Mm_most (cl + m1)) (S_Mm_most (wa + m2)) (S_Mm_most (co_ + m3)) (fi - ((fi * m4) / 100)) (bu - ((bu * m4) / 100)) ho lh mg wd fpi fal po de)]) rfl ?_
                              refine r_cs (cs2 := [(m, .inr (12, [.int 0, .ref mp, .int pt, .ref mf, .ref mh, .ref mn, .ref mt, .ref mz, .ref mc_, .ref mq, .ref mgr, .int (S_Mm_most (cl + m1)), .int (S_Mm_most (wa + m2)), .int (S_Mm_most (co_ + m3)), .int (fi - ((fi * m4) / 100)), .int (bu - ((bu * m4) / 100)), .int ho, .ref ml, .ref mi, .ref mr, .int lh, .int mg, .int wd, .int fpi, .int fal, .ref mm, .ref mu, .ref mk, .ref mx, .long po, .long de]))]) rfl ?_
                              refine r_iret d_Mm_mill_142 rfl rfl ?_
                              exact ⟨rfl, rfl⟩
                    · exact absurd c_56 (by decide)
                · exact absurd c_44 (by decide)
abbrev M_Mm_sand : zM := (⟨"IronpourModel", "sand", "(C)I"⟩, prog_14_method_48_code, 2, (Option.some FieldType.int), 8, 179, [])
theorem d_Mm_sand_0 : decode prog_14_method_48_code 0 = .ok (.aload_n 0, 1) := zo_42 (zd_b zq_prog_14_method_48_code_0 0 rfl rfl rfl)
theorem d_Mm_sand_1 : decode prog_14_method_48_code 1 = .ok (.iconst 0, 1) := zo_3 (zd_b zq_prog_14_method_48_code_0 1 rfl rfl rfl)
theorem d_Mm_sand_2 : decode prog_14_method_48_code 2 = .ok (.putfield 84, 3) := zo_181 (d := 0) (e := 84) (zd_b zq_prog_14_method_48_code_0 2 rfl rfl rfl) (zd_b zq_prog_14_method_48_code_0 3 rfl rfl rfl) (zd_b zq_prog_14_method_48_code_0 4 rfl rfl rfl)
theorem d_Mm_sand_5 : decode prog_14_method_48_code 5 = .ok (.aload_n 0, 1) := zo_42 (zd_b zq_prog_14_method_48_code_0 5 rfl rfl rfl)
theorem d_Mm_sand_6 : decode prog_14_method_48_code 6 = .ok (.ldc 203, 2) := zo_18 (d := 203) (zd_b zq_prog_14_method_48_code_0 6 rfl rfl rfl) (zd_b zq_prog_14_method_48_code_0 7 rfl rfl rfl)
theorem d_Mm_sand_8 : decode prog_14_method_48_code 8 = .ok (.iload_n 1, 1) := zo_27 (zd_b zq_prog_14_method_48_code_0 8 rfl rfl rfl)
theorem d_Mm_sand_9 : decode prog_14_method_48_code 9 = .ok (.invokevirtual 97, 3) := zo_182 (d := 0) (e := 97) (zd_b zq_prog_14_method_48_code_0 9 rfl rfl rfl) (zd_b zq_prog_14_method_48_code_0 10 rfl rfl rfl) (zd_b zq_prog_14_method_48_code_0 11 rfl rfl rfl)
theorem ok_Mm_sand_String_indexOf_0 : z_ok M_Mm_sand M_String_indexOf_0 1 := ⟨z_mj3 (i := 58) rfl (by decide +kernel), rfl, ⟨by decide +kernel, by decide +kernel, by decide +kernel⟩, ⟨by decide, by decide⟩, z_mj1 (i := 15) rfl (by decide +kernel), rfl⟩
theorem d_Mm_sand_12 : decode prog_14_method_48_code 12 = .ok (.ifCond .ge 7, 3) := zo_156 (d := 0) (e := 7) (zd_b zq_prog_14_method_48_code_0 12 rfl rfl rfl) (zd_b zq_prog_14_method_48_code_0 13 rfl rfl rfl) (zd_b zq_prog_14_method_48_code_0 14 rfl rfl rfl) (by decide +kernel)
theorem d_Mm_sand_15 : decode prog_14_method_48_code 15 = .ok (.iconst 1, 1) := zo_4 (zd_b zq_prog_14_method_48_code_0 15 rfl rfl rfl)
theorem d_Mm_sand_16 : decode prog_14_method_48_code 16 = .ok (.goto 4, 3) := zo_167 (d := 0) (e := 4) (zd_b zq_prog_14_method_48_code_0 16 rfl rfl rfl) (zd_b zq_prog_14_method_48_code_0 17 rfl rfl rfl) (zd_b zq_prog_14_method_48_code_0 18 rfl rfl rfl) (by decide +kernel)
theorem d_Mm_sand_20 : decode prog_14_method_48_code 20 = .ok (.iconst 1, 1) := zo_4 (zd_b zq_prog_14_method_48_code_0 20 rfl rfl rfl)
theorem d_Mm_sand_21 : decode prog_14_method_48_code 21 = .ok (.invokevirtual 103, 3) := zo_182 (d := 0) (e := 103) (zd_b zq_prog_14_method_48_code_0 21 rfl rfl rfl) (zd_b zq_prog_14_method_48_code_0 22 rfl rfl rfl) (zd_b zq_prog_14_method_48_code_0 23 rfl rfl rfl)
theorem ok_Mm_sand_Mm_fails : z_ok M_Mm_sand M_Mm_fails 2 := ⟨z_mj7 (i := 196) rfl (by decide +kernel), rfl, ⟨by decide +kernel, by decide +kernel, by decide +kernel⟩, ⟨by decide, by decide⟩, z_mj1 (i := 14) rfl (by decide +kernel), rfl⟩
theorem d_Mm_sand_24 : decode prog_14_method_48_code 24 = .ok (.ifCond .eq 5, 3) := zo_153 (d := 0) (e := 5) (zd_b zq_prog_14_method_48_code_0 24 rfl rfl rfl) (zd_b zq_prog_14_method_48_code_0 25 rfl rfl rfl) (zd_b zq_prog_14_method_48_code_0 26 rfl rfl rfl) (by decide +kernel)
theorem d_Mm_sand_27 : decode prog_14_method_48_code 27 = .ok (.iconst 0, 1) := zo_3 (zd_b zq_prog_14_method_48_code_0 27 rfl rfl rfl)
theorem d_Mm_sand_28 : decode prog_14_method_48_code 28 = .ok (.ireturn, 1) := zo_172 (zd_b zq_prog_14_method_48_code_0 28 rfl rfl rfl)
set_option maxHeartbeats 4000000 in
set_option maxRecDepth 100000 in
theorem C_Mm_sandE (g : zG) (m mp mf mh mn mt mz mc_ mq mgr ml mi mr mm mu mk mx : Nat) (th pt cl wa co_ fi bu ho lh mg wd fpi fal : Int32) (po de : Int64) (w : Int32) (hw : z_ix 5 w < 0) : CT g M_Mm_sand [.ref m, .int w] [(m, .inr (12, [.int th, .ref mp, .int pt, .ref mf, .ref mh, .ref mn, .ref mt, .ref mz, .ref mc_, .ref mq, .ref mgr, .int cl, .int wa, .int co_, .int fi, .int bu, .int ho, .ref ml, .ref mi, .ref mr, .int lh, .int mg, .int wd, .int fpi, .int fal, .ref mm, .ref mu, .ref mk, .ref mx, .long po, .long de]))] (fun o cs1 => o = .inl (some (.int 0)) ∧ cs1 = [(m, .inr (12, [.int 1, .ref mp, .int pt, .ref mf, .ref mh, .ref mn, .ref mt, .ref mz, .ref mc_, .ref mq, .ref mgr, .int cl, .int wa, .int co_, .int fi, .int bu, .int ho, .ref ml, .ref mi, .ref mr, .int lh, .int mg, .int wd, .int fpi, .int fal, .ref mm, .ref mu, .ref mk, .ref mx, .long po, .long de]))]) 0 0 := by
  refine z_of (by decide) rfl (Nat.le_of_ble_eq_true rfl) (fun w0 => ?_)
  refine r_lvE (lv2 := [(0, .ref m), (1, .int w)]) rfl ?_
  refine r_aload_n d_Mm_sand_0 rfl 0 rfl ?_
  refine r_iconst d_Mm_sand_1 (v := 0) (by decide) ?_
  refine r_put fp_Mm_84 d_Mm_sand_2 (fun h => nomatch h) rfl rfl (q0 := 0) rfl (Nat.le_of_ble_eq_true rfl) (cs' := [(m, .inr (12, [.int 0, .ref mp, .int pt, .ref mf, .ref mh, .ref mn, .ref mt, .ref mz, .ref mc_, .ref mq, .ref mgr, .int cl, .int wa, .int co_, .int fi, .int bu, .int ho, .ref ml, .ref mi, .ref mr, .int lh, .int mg, .int wd, .int fpi, .int fal, .ref mm, .ref mu, .ref mk, .ref mx, .long po, .long de]))]) rfl ?_
  refine r_aload_n d_Mm_sand_5 rfl 0 rfl ?_
  refine r_ldcS (own := "IronpourModel") (i := 5) (by decide) d_Mm_sand_6 ?_
  refine r_iload_n d_Mm_sand_8 rfl 1 rfl ?_
  refine r_callVS (As := [.int w]) (rest := [.ref m]) (csC := []) (is := []) (i := 5) (by first | assumption | decide) rfl ln_Mm_97 w_im_String_indexOf_0 w_se_String_indexOf_0 ok_Mm_sand_String_indexOf_0 d_Mm_sand_9 (C_St_indexOf g 5 (by decide) w) rfl rfl (Nat.le_of_ble_eq_true rfl) rfl (by decide) (by omega) (by omega) (fun E cs1 hx => ?_) (fun v cs1 hx => ?_)
  · exact absurd hx.1 (by simp)
  · obtain ⟨e1, rfl⟩ := hx
    cases e1
    refine ⟨rfl, ?_⟩
    refine r_st (st2 := [.int (z_ix 5 w), .ref m]) rfl ?_
    refine r_cs (cs2 := [(m, .inr (12, [.int 0, .ref mp, .int pt, .ref mf, .ref mh, .ref mn, .ref mt, .ref mz, .ref mc_, .ref mq, .ref mgr, .int cl, .int wa, .int co_, .int fi, .int bu, .int ho, .ref ml, .ref mi, .ref mr, .int lh, .int mg, .int wd, .int fpi, .int fal, .ref mm, .ref mu, .ref mk, .ref mx, .long po, .long de]))]) rfl ?_
    refine r_if_ge (tgt := 19) d_Mm_sand_12 (by decide) (fun c_12 => ?_) (fun c_12 => ?_)
    · exact absurd hw (Int32.not_lt.mpr c_12)
    · refine r_iconst d_Mm_sand_15 (v := 1) (by decide) ?_
      refine r_goto (tgt := 20) d_Mm_sand_16 (by decide) ?_
      refine r_iconst d_Mm_sand_20 (v := 1) (by decide) ?_
      refine r_callV (As := [.int 1, .int 1]) (rest := []) (csC := [(m, .inr (12, [.int 0, .ref mp, .int pt, .ref mf, .ref mh, .ref mn, .ref mt, .ref mz, .ref mc_, .ref mq, .ref mgr, .int cl, .int wa, .int co_, .int fi, .int bu, .int ho, .ref ml, .ref mi, .ref mr, .int lh, .int mg, .int wd, .int fpi, .int fal, .ref mm, .ref mu, .ref mk, .ref mx, .long po, .long de]))]) (is := [0]) (q0 := 0) rfl rfl ln_Mm_103 w_im_Mm_fails w_se_Mm_fails ok_Mm_sand_Mm_fails d_Mm_sand_21 (C_Mm_fails1 g m mp mf mh mn mt mz mc_ mq mgr ml mi mr mm mu mk mx th pt cl wa co_ fi bu ho lh mg wd fpi fal po de) rfl rfl (Nat.le_of_ble_eq_true rfl) rfl (by decide) (by omega) (by omega) (fun E cs1 hx => ?_) (fun v cs1 hx => ?_)
      · exact absurd hx.1 (by simp)
      · obtain ⟨e1, rfl⟩ := hx
        cases e1
        refine ⟨rfl, ?_⟩
        refine r_st (st2 := [.int 1]) rfl ?_
        refine r_cs (cs2 := [(m, .inr (12, [.int 1, .ref mp, .int pt, .ref mf, .ref mh, .ref mn, .ref mt, .ref mz, .ref mc_, .ref mq, .ref mgr, .int cl, .int wa, .int co_, .int fi, .int bu, .int ho, .ref ml, .ref mi, .ref mr, .int lh, .int mg, .int wd, .int fpi, .int fal, .ref mm, .ref mu, .ref mk, .ref mx, .long po, .long de]))]) rfl ?_
        refine r_if_eq (tgt := 29) d_Mm_sand_24 (by decide) (fun c_24 => ?_) (fun c_24 => ?_)
        · exact absurd c_24 (by decide)
        · refine r_iconst d_Mm_sand_27 (v := 0) (by decide) ?_
          refine r_iret d_Mm_sand_28 rfl rfl ?_
          exact ⟨rfl, rfl⟩
theorem d_Mm_sand_19 : decode prog_14_method_48_code 19 = .ok (.iconst 0, 1) := zo_3 (zd_b zq_prog_14_method_48_code_0 19 rfl rfl rfl)
theorem d_Mm_sand_29 : decode prog_14_method_48_code 29 = .ok (.iload_n 1, 1) := zo_27 (zd_b zq_prog_14_method_48_code_0 29 rfl rfl rfl)
theorem d_Mm_sand_30 : decode prog_14_method_48_code 30 = .ok (.lookupswitch 88 #[(98, 78), (99, 58), (102, 73), (107, 68), (115, 83), (119, 63)], 58) := by decide +kernel
theorem d_Mm_sand_88 : decode prog_14_method_48_code 88 = .ok (.aload_n 0, 1) := zo_42 (zd_b zq_prog_14_method_48_code_2 24 rfl rfl rfl)
theorem d_Mm_sand_89 : decode prog_14_method_48_code 89 = .ok (.getfield 43, 3) := zo_180 (d := 0) (e := 43) (zd_b zq_prog_14_method_48_code_2 25 rfl rfl rfl) (zd_b zq_prog_14_method_48_code_2 26 rfl rfl rfl) (zd_b zq_prog_14_method_48_code_2 27 rfl rfl rfl)
theorem d_Mm_sand_92 : decode prog_14_method_48_code 92 = .ok (.ireturn, 1) := zo_172 (zd_b zq_prog_14_method_48_code_2 28 rfl rfl rfl)
set_option maxHeartbeats 4000000 in
set_option maxRecDepth 100000 in
theorem C_Mm_sand99 (g : zG) (m mp mf mh mn mt mz mc_ mq mgr ml mi mr mm mu mk mx : Nat) (th pt cl wa co_ fi bu ho lh mg wd fpi fal : Int32) (po de : Int64) : CT g M_Mm_sand [.ref m, .int 99] [(m, .inr (12, [.int th, .ref mp, .int pt, .ref mf, .ref mh, .ref mn, .ref mt, .ref mz, .ref mc_, .ref mq, .ref mgr, .int cl, .int wa, .int co_, .int fi, .int bu, .int ho, .ref ml, .ref mi, .ref mr, .int lh, .int mg, .int wd, .int fpi, .int fal, .ref mm, .ref mu, .ref mk, .ref mx, .long po, .long de]))] (fun o cs1 => o = .inl (some (.int cl)) ∧ cs1 = [(m, .inr (12, [.int 0, .ref mp, .int pt, .ref mf, .ref mh, .ref mn, .ref mt, .ref mz, .ref mc_, .ref mq, .ref mgr, .int cl, .int wa, .int co_, .int fi, .int bu, .int ho, .ref ml, .ref mi, .ref mr, .int lh, .int mg, .int wd, .int fpi, .int fal, .ref mm, .ref mu, .ref mk, .ref mx, .long po, .long de]))]) 0 0 := by
  refine z_of (by decide) rfl (Nat.le_of_ble_eq_true rfl) (fun w0 => ?_)
  refine r_lvE (lv2 := [(0, .ref m), (1, .int 99)]) rfl ?_
  refine r_aload_n d_Mm_sand_0 rfl 0 rfl ?_
  refine r_iconst d_Mm_sand_1 (v := 0) (by decide) ?_
  refine r_put fp_Mm_84 d_Mm_sand_2 (fun h => nomatch h) rfl rfl (q0 := 0) rfl (Nat.le_of_ble_eq_true rfl) (cs' := [(m, .inr (12, [.int 0, .ref mp, .int pt, .ref mf, .ref mh, .ref mn, .ref mt, .ref mz, .ref mc_, .ref mq, .ref mgr, .int cl, .int wa, .int co_, .int fi, .int bu, .int ho, .ref ml, .ref mi, .ref mr, .int lh, .int mg, .int wd, .int fpi, .int fal, .ref mm, .ref mu, .ref mk, .ref mx, .long po, .long de]))]) rfl ?_
  refine r_aload_n d_Mm_sand_5 rfl 0 rfl ?_
  refine r_ldcS (own := "IronpourModel") (i := 5) (by decide) d_Mm_sand_6 ?_
  refine r_iload_n d_Mm_sand_8 rfl 1 rfl ?_
  refine r_callVS (As := [.int 99]) (rest := [.ref m]) (csC := []) (is := []) (i := 5) (by first | assumption | decide) rfl ln_Mm_97 w_im_String_indexOf_0 w_se_String_indexOf_0 ok_Mm_sand_String_indexOf_0 d_Mm_sand_9 (C_St_indexOf g 5 (by decide) 99) rfl rfl (Nat.le_of_ble_eq_true rfl) rfl (by decide) (by omega) (by omega) (fun E cs1 hx => ?_) (fun v cs1 hx => ?_)
  · exact absurd hx.1 (by simp)
  · obtain ⟨e1, rfl⟩ := hx
    cases e1
    refine ⟨rfl, ?_⟩
    refine r_st (st2 := [.int (z_ix 5 99), .ref m]) rfl ?_
    refine r_cs (cs2 := [(m, .inr (12, [.int 0, .ref mp, .int pt, .ref mf, .ref mh, .ref mn, .ref mt, .ref mz, .ref mc_, .ref mq, .ref mgr, .int cl, .int wa, .int co_, .int fi, .int bu, .int ho, .ref ml, .ref mi, .ref mr, .int lh, .int mg, .int wd, .int fpi, .int fal, .ref mm, .ref mu, .ref mk, .ref mx, .long po, .long de]))]) rfl ?_
    refine r_if_ge (tgt := 19) d_Mm_sand_12 (by decide) (fun c_12 => ?_) (fun c_12 => ?_)
    · refine r_iconst d_Mm_sand_19 (v := 0) (by decide) ?_
      refine r_iconst d_Mm_sand_20 (v := 1) (by decide) ?_
      refine r_callV (As := [.int 0, .int 1]) (rest := []) (csC := [(m, .inr (12, [.int 0, .ref mp, .int pt, .ref mf, .ref mh, .ref mn, .ref mt, .ref mz, .ref mc_, .ref mq, .ref mgr, .int cl, .int wa, .int co_, .int fi, .int bu, .int ho, .ref ml, .ref mi, .ref mr, .int lh, .int mg, .int wd, .int fpi, .int fal, .ref mm, .ref mu, .ref mk, .ref mx, .long po, .long de]))]) (is := [0]) (q0 := 0) rfl rfl ln_Mm_103 w_im_Mm_fails w_se_Mm_fails ok_Mm_sand_Mm_fails d_Mm_sand_21 (C_Mm_fails0 g m mp mf mh mn mt mz mc_ mq mgr ml mi mr mm mu mk mx th pt cl wa co_ fi bu ho lh mg wd fpi fal po de 1) rfl rfl (Nat.le_of_ble_eq_true rfl) rfl (by decide) (by omega) (by omega) (fun E cs1 hx => ?_) (fun v cs1 hx => ?_)
      · exact absurd hx.1 (by simp)
      · obtain ⟨e1, rfl⟩ := hx
        cases e1
        refine ⟨rfl, ?_⟩
        refine r_st (st2 := [.int 0]) rfl ?_
        refine r_cs (cs2 := [(m, .inr (12, [.int 0, .ref mp, .int pt, .ref mf, .ref mh, .ref mn, .ref mt, .ref mz, .ref mc_, .ref mq, .ref mgr, .int cl, .int wa, .int co_, .int fi, .int bu, .int ho, .ref ml, .ref mi, .ref mr, .int lh, .int mg, .int wd, .int fpi, .int fal, .ref mm, .ref mu, .ref mk, .ref mx, .long po, .long de]))]) rfl ?_
        refine r_if_eq (tgt := 29) d_Mm_sand_24 (by decide) (fun c_24 => ?_) (fun c_24 => ?_)
        · refine r_iload_n d_Mm_sand_29 rfl 1 rfl ?_
          · refine r_lookup (off := 58) (tgt := 88) d_Mm_sand_30 (by decide) (by decide) (by decide) ?_
            refine r_aload_n d_Mm_sand_88 rfl 0 rfl ?_
            refine r_get fs_Mm_43 d_Mm_sand_89 (q0 := 0) rfl rfl ?_
            refine r_iret d_Mm_sand_92 rfl rfl ?_
            exact ⟨rfl, rfl⟩
        · exact absurd c_24 (by decide)
    · exact absurd (by decide) c_12
theorem d_Mm_sand_93 : decode prog_14_method_48_code 93 = .ok (.aload_n 0, 1) := zo_42 (zd_b zq_prog_14_method_48_code_2 29 rfl rfl rfl)
theorem d_Mm_sand_94 : decode prog_14_method_48_code 94 = .ok (.getfield 46, 3) := zo_180 (d := 0) (e := 46) (zd_b zq_prog_14_method_48_code_2 30 rfl rfl rfl) (zd_b zq_prog_14_method_48_code_2 31 rfl rfl rfl) (zd_b zq_prog_14_method_48_code_3 0 rfl rfl rfl)
theorem d_Mm_sand_97 : decode prog_14_method_48_code 97 = .ok (.ireturn, 1) := zo_172 (zd_b zq_prog_14_method_48_code_3 1 rfl rfl rfl)
set_option maxHeartbeats 4000000 in
set_option maxRecDepth 100000 in
theorem C_Mm_sand119 (g : zG) (m mp mf mh mn mt mz mc_ mq mgr ml mi mr mm mu mk mx : Nat) (th pt cl wa co_ fi bu ho lh mg wd fpi fal : Int32) (po de : Int64) : CT g M_Mm_sand [.ref m, .int 119] [(m, .inr (12, [.int th, .ref mp, .int pt, .ref mf, .ref mh, .ref mn, .ref mt, .ref mz, .ref mc_, .ref mq, .ref mgr, .int cl, .int wa, .int co_, .int fi, .int bu, .int ho, .ref ml, .ref mi, .ref mr, .int lh, .int mg, .int wd, .int fpi, .int fal, .ref mm, .ref mu, .ref mk, .ref mx, .long po, .long de]))] (fun o cs1 => o = .inl (some (.int wa)) ∧ cs1 = [(m, .inr (12, [.int 0, .ref mp, .int pt, .ref mf, .ref mh, .ref mn, .ref mt, .ref mz, .ref mc_, .ref mq, .ref mgr, .int cl, .int wa, .int co_, .int fi, .int bu, .int ho, .ref ml, .ref mi, .ref mr, .int lh, .int mg, .int wd, .int fpi, .int fal, .ref mm, .ref mu, .ref mk, .ref mx, .long po, .long de]))]) 0 0 := by
  refine z_of (by decide) rfl (Nat.le_of_ble_eq_true rfl) (fun w0 => ?_)
  refine r_lvE (lv2 := [(0, .ref m), (1, .int 119)]) rfl ?_
  refine r_aload_n d_Mm_sand_0 rfl 0 rfl ?_
  refine r_iconst d_Mm_sand_1 (v := 0) (by decide) ?_
  refine r_put fp_Mm_84 d_Mm_sand_2 (fun h => nomatch h) rfl rfl (q0 := 0) rfl (Nat.le_of_ble_eq_true rfl) (cs' := [(m, .inr (12, [.int 0, .ref mp, .int pt, .ref mf, .ref mh, .ref mn, .ref mt, .ref mz, .ref mc_, .ref mq, .ref mgr, .int cl, .int wa, .int co_, .int fi, .int bu, .int ho, .ref ml, .ref mi, .ref mr, .int lh, .int mg, .int wd, .int fpi, .int fal, .ref mm, .ref mu, .ref mk, .ref mx, .long po, .long de]))]) rfl ?_
  refine r_aload_n d_Mm_sand_5 rfl 0 rfl ?_
  refine r_ldcS (own := "IronpourModel") (i := 5) (by decide) d_Mm_sand_6 ?_
  refine r_iload_n d_Mm_sand_8 rfl 1 rfl ?_
  refine r_callVS (As := [.int 119]) (rest := [.ref m]) (csC := []) (is := []) (i := 5) (by first | assumption | decide) rfl ln_Mm_97 w_im_String_indexOf_0 w_se_String_indexOf_0 ok_Mm_sand_String_indexOf_0 d_Mm_sand_9 (C_St_indexOf g 5 (by decide) 119) rfl rfl (Nat.le_of_ble_eq_true rfl) rfl (by decide) (by omega) (by omega) (fun E cs1 hx => ?_) (fun v cs1 hx => ?_)
  · exact absurd hx.1 (by simp)
  · obtain ⟨e1, rfl⟩ := hx
    cases e1
    refine ⟨rfl, ?_⟩
    refine r_st (st2 := [.int (z_ix 5 119), .ref m]) rfl ?_
    refine r_cs (cs2 := [(m, .inr (12, [.int 0, .ref mp, .int pt, .ref mf, .ref mh, .ref mn, .ref mt, .ref mz, .ref mc_, .ref mq, .ref mgr, .int cl, .int wa, .int co_, .int fi, .int bu, .int ho, .ref ml, .ref mi, .ref mr, .int lh, .int mg, .int wd, .int fpi, .int fal, .ref mm, .ref mu, .ref mk, .ref mx, .long po, .long de]))]) rfl ?_
    refine r_if_ge (tgt := 19) d_Mm_sand_12 (by decide) (fun c_12 => ?_) (fun c_12 => ?_)
    · refine r_iconst d_Mm_sand_19 (v := 0) (by decide) ?_
      refine r_iconst d_Mm_sand_20 (v := 1) (by decide) ?_
      refine r_callV (As := [.int 0, .int 1]) (rest := []) (csC := [(m, .inr (12, [.int 0, .ref mp, .int pt, .ref mf, .ref mh, .ref mn, .ref mt, .ref mz, .ref mc_, .ref mq, .ref mgr, .int cl, .int wa, .int co_, .int fi, .int bu, .int ho, .ref ml, .ref mi, .ref mr, .int lh, .int mg, .int wd, .int fpi, .int fal, .ref mm, .ref mu, .ref mk, .ref mx, .long po, .long de]))]) (is := [0]) (q0 := 0) rfl rfl ln_Mm_103 w_im_Mm_fails w_se_Mm_fails ok_Mm_sand_Mm_fails d_Mm_sand_21 (C_Mm_fails0 g m mp mf mh mn mt mz mc_ mq mgr ml mi mr mm mu mk mx th pt cl wa co_ fi bu ho lh mg wd fpi fal po de 1) rfl rfl (Nat.le_of_ble_eq_true rfl) rfl (by decide) (by omega) (by omega) (fun E cs1 hx => ?_) (fun v cs1 hx => ?_)
      · exact absurd hx.1 (by simp)
      · obtain ⟨e1, rfl⟩ := hx
        cases e1
        refine ⟨rfl, ?_⟩
        refine r_st (st2 := [.int 0]) rfl ?_
        refine r_cs (cs2 := [(m, .inr (12, [.int 0, .ref mp, .int pt, .ref mf, .ref mh, .ref mn, .ref mt, .ref mz, .ref mc_, .ref mq, .ref mgr, .int cl, .int wa, .int co_, .int fi, .int bu, .int ho, .ref ml, .ref mi, .ref mr, .int lh, .int mg, .int wd, .int fpi, .int fal, .ref mm, .ref mu, .ref mk, .ref mx, .long po, .long de]))]) rfl ?_
        refine r_if_eq (tgt := 29) d_Mm_sand_24 (by decide) (fun c_24 => ?_) (fun c_24 => ?_)
        · refine r_iload_n d_Mm_sand_29 rfl 1 rfl ?_
          · refine r_lookup (off := 63) (tgt := 93) d_Mm_sand_30 (by decide) (by decide) (by decide) ?_
            refine r_aload_n d_Mm_sand_93 rfl 0 rfl ?_
            refine r_get fs_Mm_46 d_Mm_sand_94 (q0 := 0) rfl rfl ?_
            refine r_iret d_Mm_sand_97 rfl rfl ?_
            exact ⟨rfl, rfl⟩
        · exact absurd c_24 (by decide)
    · exact absurd (by decide) c_12
theorem d_Mm_sand_98 : decode prog_14_method_48_code 98 = .ok (.aload_n 0, 1) := zo_42 (zd_b zq_prog_14_method_48_code_3 2 rfl rfl rfl)
theorem d_Mm_sand_99 : decode prog_14_method_48_code 99 = .ok (.getfield 49, 3) := zo_180 (d := 0) (e := 49) (zd_b zq_prog_14_method_48_code_3 3 rfl rfl rfl) (zd_b zq_prog_14_method_48_code_3 4 rfl rfl rfl) (zd_b zq_prog_14_method_48_code_3 5 rfl rfl rfl)
theorem d_Mm_sand_102 : decode prog_14_method_48_code 102 = .ok (.ireturn, 1) := zo_172 (zd_b zq_prog_14_method_48_code_3 6 rfl rfl rfl)
set_option maxHeartbeats 4000000 in
set_option maxRecDepth 100000 in
theorem C_Mm_sand107 (g : zG) (m mp mf mh mn mt mz mc_ mq mgr ml mi mr mm mu mk mx : Nat) (th pt cl wa co_ fi bu ho lh mg wd fpi fal : Int32) (po de : Int64) : CT g M_Mm_sand [.ref m, .int 107] [(m, .inr (12, [.int th, .ref mp, .int pt, .ref mf, .ref mh, .ref mn, .ref mt, .ref mz, .ref mc_, .ref mq, .ref mgr, .int cl, .int wa, .int co_, .int fi, .int bu, .int ho, .ref ml, .ref mi, .ref mr, .int lh, .int mg, .int wd, .int fpi, .int fal, .ref mm, .ref mu, .ref mk, .ref mx, .long po, .long de]))] (fun o cs1 => o = .inl (some (.int co_)) ∧ cs1 = [(m, .inr (12, [.int 0, .ref mp, .int pt, .ref mf, .ref mh, .ref mn, .ref mt, .ref mz, .ref mc_, .ref mq, .ref mgr, .int cl, .int wa, .int co_, .int fi, .int bu, .int ho, .ref ml, .ref mi, .ref mr, .int lh, .int mg, .int wd, .int fpi, .int fal, .ref mm, .ref mu, .ref mk, .ref mx, .long po, .long de]))]) 0 0 := by
  refine z_of (by decide) rfl (Nat.le_of_ble_eq_true rfl) (fun w0 => ?_)
  refine r_lvE (lv2 := [(0, .ref m), (1, .int 107)]) rfl ?_
  refine r_aload_n d_Mm_sand_0 rfl 0 rfl ?_
  refine r_iconst d_Mm_sand_1 (v := 0) (by decide) ?_
  refine r_put fp_Mm_84 d_Mm_sand_2 (fun h => nomatch h) rfl rfl (q0 := 0) rfl (Nat.le_of_ble_eq_true rfl) (cs' := [(m, .inr (12, [.int 0, .ref mp, .int pt, .ref mf, .ref mh, .ref mn, .ref mt, .ref mz, .ref mc_, .ref mq, .ref mgr, .int cl, .int wa, .int co_, .int fi, .int bu, .int ho, .ref ml, .ref mi, .ref mr, .int lh, .int mg, .int wd, .int fpi, .int fal, .ref mm, .ref mu, .ref mk, .ref mx, .long po, .long de]))]) rfl ?_
  refine r_aload_n d_Mm_sand_5 rfl 0 rfl ?_
  refine r_ldcS (own := "IronpourModel") (i := 5) (by decide) d_Mm_sand_6 ?_
  refine r_iload_n d_Mm_sand_8 rfl 1 rfl ?_
  refine r_callVS (As := [.int 107]) (rest := [.ref m]) (csC := []) (is := []) (i := 5) (by first | assumption | decide) rfl ln_Mm_97 w_im_String_indexOf_0 w_se_String_indexOf_0 ok_Mm_sand_String_indexOf_0 d_Mm_sand_9 (C_St_indexOf g 5 (by decide) 107) rfl rfl (Nat.le_of_ble_eq_true rfl) rfl (by decide) (by omega) (by omega) (fun E cs1 hx => ?_) (fun v cs1 hx => ?_)
  · exact absurd hx.1 (by simp)
  · obtain ⟨e1, rfl⟩ := hx
    cases e1
    refine ⟨rfl, ?_⟩
    refine r_st (st2 := [.int (z_ix 5 107), .ref m]) rfl ?_
    refine r_cs (cs2 := [(m, .inr (12, [.int 0, .ref mp, .int pt, .ref mf, .ref mh, .ref mn, .ref mt, .ref mz, .ref mc_, .ref mq, .ref mgr, .int cl, .int wa, .int co_, .int fi, .int bu, .int ho, .ref ml, .ref mi, .ref mr, .int lh, .int mg, .int wd, .int fpi, .int fal, .ref mm, .ref mu, .ref mk, .ref mx, .long po, .long de]))]) rfl ?_
    refine r_if_ge (tgt := 19) d_Mm_sand_12 (by decide) (fun c_12 => ?_) (fun c_12 => ?_)
    · refine r_iconst d_Mm_sand_19 (v := 0) (by decide) ?_
      refine r_iconst d_Mm_sand_20 (v := 1) (by decide) ?_
      refine r_callV (As := [.int 0, .int 1]) (rest := []) (csC := [(m, .inr (12, [.int 0, .ref mp, .int pt, .ref mf, .ref mh, .ref mn, .ref mt, .ref mz, .ref mc_, .ref mq, .ref mgr, .int cl, .int wa, .int co_, .int fi, .int bu, .int ho, .ref ml, .ref mi, .ref mr, .int lh, .int mg, .int wd, .int fpi, .int fal, .ref mm, .ref mu, .ref mk, .ref mx, .long po, .long de]))]) (is := [0]) (q0 := 0) rfl rfl ln_Mm_103 w_im_Mm_fails w_se_Mm_fails ok_Mm_sand_Mm_fails d_Mm_sand_21 (C_Mm_fails0 g m mp mf mh mn mt mz mc_ mq mgr ml mi mr mm mu mk mx th pt cl wa co_ fi bu ho lh mg wd fpi fal po de 1) rfl rfl (Nat.le_of_ble_eq_true rfl) rfl (by decide) (by omega) (by omega) (fun E cs1 hx => ?_) (fun v cs1 hx => ?_)
      · exact absurd hx.1 (by simp)
      · obtain ⟨e1, rfl⟩ := hx
        cases e1
        refine ⟨rfl, ?_⟩
        refine r_st (st2 := [.int 0]) rfl ?_
        refine r_cs (cs2 := [(m, .inr (12, [.int 0, .ref mp, .int pt, .ref mf, .ref mh, .ref mn, .ref mt, .ref mz, .ref mc_, .ref mq, .ref mgr, .int cl, .int wa, .int co_, .int fi, .int bu, .int ho, .ref ml, .ref mi, .ref mr, .int lh, .int mg, .int wd, .int fpi, .int fal, .ref mm, .ref mu, .ref mk, .ref mx, .long po, .long de]))]) rfl ?_
        refine r_if_eq (tgt := 29) d_Mm_sand_24 (by decide) (fun c_24 => ?_) (fun c_24 => ?_)
        · refine r_iload_n d_Mm_sand_29 rfl 1 rfl ?_
          · refine r_lookup (off := 68) (tgt := 98) d_Mm_sand_30 (by decide) (by decide) (by decide) ?_
            refine r_aload_n d_Mm_sand_98 rfl 0 rfl ?_
            refine r_get fs_Mm_49 d_Mm_sand_99 (q0 := 0) rfl rfl ?_
            refine r_iret d_Mm_sand_102 rfl rfl ?_
            exact ⟨rfl, rfl⟩
        · exact absurd c_24 (by decide)
    · exact absurd (by decide) c_12
theorem d_Mm_sand_103 : decode prog_14_method_48_code 103 = .ok (.aload_n 0, 1) := zo_42 (zd_b zq_prog_14_method_48_code_3 7 rfl rfl rfl)
theorem d_Mm_sand_104 : decode prog_14_method_48_code 104 = .ok (.getfield 52, 3) := zo_180 (d := 0) (e := 52) (zd_b zq_prog_14_method_48_code_3 8 rfl rfl rfl) (zd_b zq_prog_14_method_48_code_3 9 rfl rfl rfl) (zd_b zq_prog_14_method_48_code_3 10 rfl rfl rfl)
theorem d_Mm_sand_107 : decode prog_14_method_48_code 107 = .ok (.ireturn, 1) := zo_172 (zd_b zq_prog_14_method_48_code_3 11 rfl rfl rfl)
set_option maxHeartbeats 4000000 in
set_option maxRecDepth 100000 in
theorem C_Mm_sand102 (g : zG) (m mp mf mh mn mt mz mc_ mq mgr ml mi mr mm mu mk mx : Nat) (th pt cl wa co_ fi bu ho lh mg wd fpi fal : Int32) (po de : Int64) : CT g M_Mm_sand [.ref m, .int 102] [(m, .inr (12, [.int th, .ref mp, .int pt, .ref mf, .ref mh, .ref mn, .ref mt, .ref mz, .ref mc_, .ref mq, .ref mgr, .int cl, .int wa, .int co_, .int fi, .int bu, .int ho, .ref ml, .ref mi, .ref mr, .int lh, .int mg, .int wd, .int fpi, .int fal, .ref mm, .ref mu, .ref mk, .ref mx, .long po, .long de]))] (fun o cs1 => o = .inl (some (.int fi)) ∧ cs1 = [(m, .inr (12, [.int 0, .ref mp, .int pt, .ref mf, .ref mh, .ref mn, .ref mt, .ref mz, .ref mc_, .ref mq, .ref mgr, .int cl, .int wa, .int co_, .int fi, .int bu, .int ho, .ref ml, .ref mi, .ref mr, .int lh, .int mg, .int wd, .int fpi, .int fal, .ref mm, .ref mu, .ref mk, .ref mx, .long po, .long de]))]) 0 0 := by
  refine z_of (by decide) rfl (Nat.le_of_ble_eq_true rfl) (fun w0 => ?_)
  refine r_lvE (lv2 := [(0, .ref m), (1, .int 102)]) rfl ?_
  refine r_aload_n d_Mm_sand_0 rfl 0 rfl ?_
  refine r_iconst d_Mm_sand_1 (v := 0) (by decide) ?_
  refine r_put fp_Mm_84 d_Mm_sand_2 (fun h => nomatch h) rfl rfl (q0 := 0) rfl (Nat.le_of_ble_eq_true rfl) (cs' := [(m, .inr (12, [.int 0, .ref mp, .int pt, .ref mf, .ref mh, .ref mn, .ref mt, .ref mz, .ref mc_, .ref mq, .ref mgr, .int cl, .int wa, .int co_, .int fi, .int bu, .int ho, .ref ml, .ref mi, .ref mr, .int lh, .int mg, .int wd, .int fpi, .int fal, .ref mm, .ref mu, .ref mk, .ref mx, .long po, .long de]))]) rfl ?_
  refine r_aload_n d_Mm_sand_5 rfl 0 rfl ?_
  refine r_ldcS (own := "IronpourModel") (i := 5) (by decide) d_Mm_sand_6 ?_
  refine r_iload_n d_Mm_sand_8 rfl 1 rfl ?_
  refine r_callVS (As := [.int 102]) (rest := [.ref m]) (csC := []) (is := []) (i := 5) (by first | assumption | decide) rfl ln_Mm_97 w_im_String_indexOf_0 w_se_String_indexOf_0 ok_Mm_sand_String_indexOf_0 d_Mm_sand_9 (C_St_indexOf g 5 (by decide) 102) rfl rfl (Nat.le_of_ble_eq_true rfl) rfl (by decide) (by omega) (by omega) (fun E cs1 hx => ?_) (fun v cs1 hx => ?_)
  · exact absurd hx.1 (by simp)
  · obtain ⟨e1, rfl⟩ := hx
    cases e1
    refine ⟨rfl, ?_⟩
    refine r_st (st2 := [.int (z_ix 5 102), .ref m]) rfl ?_
    refine r_cs (cs2 := [(m, .inr (12, [.int 0, .ref mp, .int pt, .ref mf, .ref mh, .ref mn, .ref mt, .ref mz, .ref mc_, .ref mq, .ref mgr, .int cl, .int wa, .int co_, .int fi, .int bu, .int ho, .ref ml, .ref mi, .ref mr, .int lh, .int mg, .int wd, .int fpi, .int fal, .ref mm, .ref mu, .ref mk, .ref mx, .long po, .long de]))]) rfl ?_
    refine r_if_ge (tgt := 19) d_Mm_sand_12 (by decide) (fun c_12 => ?_) (fun c_12 => ?_)
    · refine r_iconst d_Mm_sand_19 (v := 0) (by decide) ?_
      refine r_iconst d_Mm_sand_20 (v := 1) (by decide) ?_
      refine r_callV (As := [.int 0, .int 1]) (rest := []) (csC := [(m, .inr (12, [.int 0, .ref mp, .int pt, .ref mf, .ref mh, .ref mn, .ref mt, .ref mz, .ref mc_, .ref mq, .ref mgr, .int cl, .int wa, .int co_, .int fi, .int bu, .int ho, .ref ml, .ref mi, .ref mr, .int lh, .int mg, .int wd, .int fpi, .int fal, .ref mm, .ref mu, .ref mk, .ref mx, .long po, .long de]))]) (is := [0]) (q0 := 0) rfl rfl ln_Mm_103 w_im_Mm_fails w_se_Mm_fails ok_Mm_sand_Mm_fails d_Mm_sand_21 (C_Mm_fails0 g m mp mf mh mn mt mz mc_ mq mgr ml mi mr mm mu mk mx th pt cl wa co_ fi bu ho lh mg wd fpi fal po de 1) rfl rfl (Nat.le_of_ble_eq_true rfl) rfl (by decide) (by omega) (by omega) (fun E cs1 hx => ?_) (fun v cs1 hx => ?_)
      · exact absurd hx.1 (by simp)
      · obtain ⟨e1, rfl⟩ := hx
        cases e1
        refine ⟨rfl, ?_⟩
        refine r_st (st2 := [.int 0]) rfl ?_
        refine r_cs (cs2 := [(m, .inr (12, [.int 0, .ref mp, .int pt, .ref mf, .ref mh, .ref mn, .ref mt, .ref mz, .ref mc_, .ref mq, .ref mgr, .int cl, .int wa, .int co_, .int fi, .int bu, .int ho, .ref ml, .ref mi, .ref mr, .int lh, .int mg, .int wd, .int fpi, .int fal, .ref mm, .ref mu, .ref mk, .ref mx, .long po, .long de]))]) rfl ?_
        refine r_if_eq (tgt := 29) d_Mm_sand_24 (by decide) (fun c_24 => ?_) (fun c_24 => ?_)
        · refine r_iload_n d_Mm_sand_29 rfl 1 rfl ?_
          · refine r_lookup (off := 73) (tgt := 103) d_Mm_sand_30 (by decide) (by decide) (by decide) ?_
            refine r_aload_n d_Mm_sand_103 rfl 0 rfl ?_
            refine r_get fs_Mm_52 d_Mm_sand_104 (q0 := 0) rfl rfl ?_
            refine r_iret d_Mm_sand_107 rfl rfl ?_
            exact ⟨rfl, rfl⟩
        · exact absurd c_24 (by decide)
    · exact absurd (by decide) c_12
theorem d_Mm_sand_108 : decode prog_14_method_48_code 108 = .ok (.aload_n 0, 1) := zo_42 (zd_b zq_prog_14_method_48_code_3 12 rfl rfl rfl)
theorem d_Mm_sand_109 : decode prog_14_method_48_code 109 = .ok (.getfield 190, 3) := zo_180 (d := 0) (e := 190) (zd_b zq_prog_14_method_48_code_3 13 rfl rfl rfl) (zd_b zq_prog_14_method_48_code_3 14 rfl rfl rfl) (zd_b zq_prog_14_method_48_code_3 15 rfl rfl rfl)
theorem d_Mm_sand_112 : decode prog_14_method_48_code 112 = .ok (.ireturn, 1) := zo_172 (zd_b zq_prog_14_method_48_code_3 16 rfl rfl rfl)
set_option maxHeartbeats 4000000 in
set_option maxRecDepth 100000 in
theorem C_Mm_sand98 (g : zG) (m mp mf mh mn mt mz mc_ mq mgr ml mi mr mm mu mk mx : Nat) (th pt cl wa co_ fi bu ho lh mg wd fpi fal : Int32) (po de : Int64) : CT g M_Mm_sand [.ref m, .int 98] [(m, .inr (12, [.int th, .ref mp, .int pt, .ref mf, .ref mh, .ref mn, .ref mt, .ref mz, .ref mc_, .ref mq, .ref mgr, .int cl, .int wa, .int co_, .int fi, .int bu, .int ho, .ref ml, .ref mi, .ref mr, .int lh, .int mg, .int wd, .int fpi, .int fal, .ref mm, .ref mu, .ref mk, .ref mx, .long po, .long de]))] (fun o cs1 => o = .inl (some (.int bu)) ∧ cs1 = [(m, .inr (12, [.int 0, .ref mp, .int pt, .ref mf, .ref mh, .ref mn, .ref mt, .ref mz, .ref mc_, .ref mq, .ref mgr, .int cl, .int wa, .int co_, .int fi, .int bu, .int ho, .ref ml, .ref mi, .ref mr, .int lh, .int mg, .int wd, .int fpi, .int fal, .ref mm, .ref mu, .ref mk, .ref mx, .long po, .long de]))]) 0 0 := by
  refine z_of (by decide) rfl (Nat.le_of_ble_eq_true rfl) (fun w0 => ?_)
  refine r_lvE (lv2 := [(0, .ref m), (1, .int 98)]) rfl ?_
  refine r_aload_n d_Mm_sand_0 rfl 0 rfl ?_
  refine r_iconst d_Mm_sand_1 (v := 0) (by decide) ?_
  refine r_put fp_Mm_84 d_Mm_sand_2 (fun h => nomatch h) rfl rfl (q0 := 0) rfl (Nat.le_of_ble_eq_true rfl) (cs' := [(m, .inr (12, [.int 0, .ref mp, .int pt, .ref mf, .ref mh, .ref mn, .ref mt, .ref mz, .ref mc_, .ref mq, .ref mgr, .int cl, .int wa, .int co_, .int fi, .int bu, .int ho, .ref ml, .ref mi, .ref mr, .int lh, .int mg, .int wd, .int fpi, .int fal, .ref mm, .ref mu, .ref mk, .ref mx, .long po, .long de]))]) rfl ?_
  refine r_aload_n d_Mm_sand_5 rfl 0 rfl ?_
  refine r_ldcS (own := "IronpourModel") (i := 5) (by decide) d_Mm_sand_6 ?_
  refine r_iload_n d_Mm_sand_8 rfl 1 rfl ?_
  refine r_callVS (As := [.int 98]) (rest := [.ref m]) (csC := []) (is := []) (i := 5) (by first | assumption | decide) rfl ln_Mm_97 w_im_String_indexOf_0 w_se_String_indexOf_0 ok_Mm_sand_String_indexOf_0 d_Mm_sand_9 (C_St_indexOf g 5 (by decide) 98) rfl rfl (Nat.le_of_ble_eq_true rfl) rfl (by decide) (by omega) (by omega) (fun E cs1 hx => ?_) (fun v cs1 hx => ?_)
  · exact absurd hx.1 (by simp)
  · obtain ⟨e1, rfl⟩ := hx
    cases e1
    refine ⟨rfl, ?_⟩
    refine r_st (st2 := [.int (z_ix 5 98), .ref m]) rfl ?_
    refine r_cs (cs2 := [(m, .inr (12, [.int 0, .ref mp, .int pt, .ref mf, .ref mh, .ref mn, .ref mt, .ref mz, .ref mc_, .ref mq, .ref mgr, .int cl, .int wa, .int co_, .int fi, .int bu, .int ho, .ref ml, .ref mi, .ref mr, .int lh, .int mg, .int wd, .int fpi, .int fal, .ref mm, .ref mu, .ref mk, .ref mx, .long po, .long de]))]) rfl ?_
    refine r_if_ge (tgt := 19) d_Mm_sand_12 (by decide) (fun c_12 => ?_) (fun c_12 => ?_)
    · refine r_iconst d_Mm_sand_19 (v := 0) (by decide) ?_
      refine r_iconst d_Mm_sand_20 (v := 1) (by decide) ?_
      refine r_callV (As := [.int 0, .int 1]) (rest := []) (csC := [(m, .inr (12, [.int 0, .ref mp, .int pt, .ref mf, .ref mh, .ref mn, .ref mt, .ref mz, .ref mc_, .ref mq, .ref mgr, .int cl, .int wa, .int co_, .int fi, .int bu, .int ho, .ref ml, .ref mi, .ref mr, .int lh, .int mg, .int wd, .int fpi, .int fal, .ref mm, .ref mu, .ref mk, .ref mx, .long po, .long de]))]) (is := [0]) (q0 := 0) rfl rfl ln_Mm_103 w_im_Mm_fails w_se_Mm_fails ok_Mm_sand_Mm_fails d_Mm_sand_21 (C_Mm_fails0 g m mp mf mh mn mt mz mc_ mq mgr ml mi mr mm mu mk mx th pt cl wa co_ fi bu ho lh mg wd fpi fal po de 1) rfl rfl (Nat.le_of_ble_eq_true rfl) rfl (by decide) (by omega) (by omega) (fun E cs1 hx => ?_) (fun v cs1 hx => ?_)
      · exact absurd hx.1 (by simp)
      · obtain ⟨e1, rfl⟩ := hx
        cases e1
        refine ⟨rfl, ?_⟩
        refine r_st (st2 := [.int 0]) rfl ?_
        refine r_cs (cs2 := [(m, .inr (12, [.int 0, .ref mp, .int pt, .ref mf, .ref mh, .ref mn, .ref mt, .ref mz, .ref mc_, .ref mq, .ref mgr, .int cl, .int wa, .int co_, .int fi, .int bu, .int ho, .ref ml, .ref mi, .ref mr, .int lh, .int mg, .int wd, .int fpi, .int fal, .ref mm, .ref mu, .ref mk, .ref mx, .long po, .long de]))]) rfl ?_
        refine r_if_eq (tgt := 29) d_Mm_sand_24 (by decide) (fun c_24 => ?_) (fun c_24 => ?_)
        · refine r_iload_n d_Mm_sand_29 rfl 1 rfl ?_
          · refine r_lookup (off := 78) (tgt := 108) d_Mm_sand_30 (by decide) (by decide) (by decide) ?_
            refine r_aload_n d_Mm_sand_108 rfl 0 rfl ?_
            refine r_get fs_Mm_190 d_Mm_sand_109 (q0 := 0) rfl rfl ?_
            refine r_iret d_Mm_sand_112 rfl rfl ?_
            exact ⟨rfl, rfl⟩
        · exact absurd c_24 (by decide)
    · exact absurd (by decide) c_12
theorem d_Mm_sand_113 : decode prog_14_method_48_code 113 = .ok (.aload_n 0, 1) := zo_42 (zd_b zq_prog_14_method_48_code_3 17 rfl rfl rfl)
theorem d_Mm_sand_114 : decode prog_14_method_48_code 114 = .ok (.invokevirtual 199, 3) := zo_182 (d := 0) (e := 199) (zd_b zq_prog_14_method_48_code_3 18 rfl rfl rfl) (zd_b zq_prog_14_method_48_code_3 19 rfl rfl rfl) (zd_b zq_prog_14_method_48_code_3 20 rfl rfl rfl)
theorem ok_Mm_sand_Mm_strength : z_ok M_Mm_sand M_Mm_strength 0 := ⟨z_mj8 (i := 109) rfl (by decide +kernel), rfl, ⟨by decide +kernel, by decide +kernel, by decide +kernel⟩, ⟨by decide, by decide⟩, z_mj1 (i := 14) rfl (by decide +kernel), rfl⟩
theorem d_Mm_sand_117 : decode prog_14_method_48_code 117 = .ok (.ireturn, 1) := zo_172 (zd_b zq_prog_14_method_48_code_3 21 rfl rfl rfl)
set_option maxHeartbeats 4000000 in
set_option maxRecDepth 100000 in
theorem C_Mm_sand115 (g : zG) (m mp mf mh mn mt mz mc_ mq mgr ml mi mr mm mu mk mx : Nat) (th pt cl wa co_ fi bu ho lh mg wd fpi fal : Int32) (po de : Int64) : CT g M_Mm_sand [.ref m, .int 115] [(m, .inr (12, [.int th, .ref mp, .int pt, .ref mf, .ref mh, .ref mn, .ref mt, .ref mz, .ref mc_, .ref mq, .ref mgr, .int cl, .int wa, .int co_, .int fi, .int bu, .int ho, .ref ml, .ref mi, .ref mr, .int lh, .int mg, .int wd, .int fpi, .int fal, .ref mm, .ref mu, .ref mk, .ref mx, .long po, .long de]))] (fun o cs1 => o = .inl (some (.int (S_Mm_strength m mp mf mh mn mt mz mc_ mq mgr ml mi mr mm mu mk mx 0 pt cl wa co_ fi bu ho lh mg wd fpi fal po de))) ∧ cs1 = [(m, .inr (12, [.int 0, .ref mp, .int pt, .ref mf, .ref mh, .ref mn, .ref mt, .ref mz, .ref mc_, .ref mq, .ref mgr, .int cl, .int wa, .int co_, .int fi, .int bu, .int ho, .ref ml, .ref mi, .ref mr, .int lh, .int mg, .int wd, .int fpi, .int fal, .ref mm, .ref mu, .ref mk, .ref mx, .long po, .long de]))]) 0 0 := by
  refine z_of (by decide) rfl (Nat.le_of_ble_eq_true rfl) (fun w0 => ?_)
  refine r_lvE (lv2 := [(0, .ref m), (1, .int 115)]) rfl ?_
  refine r_aload_n d_Mm_sand_0 rfl 0 rfl ?_
  refine r_iconst d_Mm_sand_1 (v := 0) (by decide) ?_
  refine r_put fp_Mm_84 d_Mm_sand_2 (fun h => nomatch h) rfl rfl (q0 := 0) rfl (Nat.le_of_ble_eq_true rfl) (cs' := [(m, .inr (12, [.int 0, .ref mp, .int pt, .ref mf, .ref mh, .ref mn, .ref mt, .ref mz, .ref mc_, .ref mq, .ref mgr, .int cl, .int wa, .int co_, .int fi, .int bu, .int ho, .ref ml, .ref mi, .ref mr, .int lh, .int mg, .int wd, .int fpi, .int fal, .ref mm, .ref mu, .ref mk, .ref mx, .long po, .long de]))]) rfl ?_
  refine r_aload_n d_Mm_sand_5 rfl 0 rfl ?_
  refine r_ldcS (own := "IronpourModel") (i := 5) (by decide) d_Mm_sand_6 ?_
  refine r_iload_n d_Mm_sand_8 rfl 1 rfl ?_
  refine r_callVS (As := [.int 115]) (rest := [.ref m]) (csC := []) (is := []) (i := 5) (by first | assumption | decide) rfl ln_Mm_97 w_im_String_indexOf_0 w_se_String_indexOf_0 ok_Mm_sand_String_indexOf_0 d_Mm_sand_9 (C_St_indexOf g 5 (by decide) 115) rfl rfl (Nat.le_of_ble_eq_true rfl) rfl (by decide) (by omega) (by omega) (fun E cs1 hx => ?_) (fun v cs1 hx => ?_)
  · exact absurd hx.1 (by simp)
  · obtain ⟨e1, rfl⟩ := hx
    cases e1
    refine ⟨rfl, ?_⟩
    refine r_st (st2 := [.int (z_ix 5 115), .ref m]) rfl ?_
    refine r_cs (cs2 := [(m, .inr (12, [.int 0, .ref mp, .int pt, .ref mf, .ref mh, .ref mn, .ref mt, .ref mz, .ref mc_, .ref mq, .ref mgr, .int cl, .int wa, .int co_, .int fi, .int bu, .int ho, .ref ml, .ref mi, .ref mr, .int lh, .int mg, .int wd, .int fpi, .int fal, .ref mm, .ref mu, .ref mk, .ref mx, .long po, .long de]))]) rfl ?_
    refine r_if_ge (tgt := 19) d_Mm_sand_12 (by decide) (fun c_12 => ?_) (fun c_12 => ?_)
    · refine r_iconst d_Mm_sand_19 (v := 0) (by decide) ?_
      refine r_iconst d_Mm_sand_20 (v := 1) (by decide) ?_
      refine r_callV (As := [.int 0, .int 1]) (rest := []) (csC := [(m, .inr (12, [.int 0, .ref mp, .int pt, .ref mf, .ref mh, .ref mn, .ref mt, .ref mz, .ref mc_, .ref mq, .ref mgr, .int cl, .int wa, .int co_, .int fi, .int bu, .int ho, .ref ml, .ref mi, .ref mr, .int lh, .int mg, .int wd, .int fpi, .int fal, .ref mm, .ref mu, .ref mk, .ref mx, .long po, .long de]))]) (is := [0]) (q0 := 0) rfl rfl ln_Mm_103 w_im_Mm_fails w_se_Mm_fails ok_Mm_sand_Mm_fails d_Mm_sand_21 (C_Mm_fails0 g m mp mf mh mn mt mz mc_ mq mgr ml mi mr mm mu mk mx th pt cl wa co_ fi bu ho lh mg wd fpi fal po de 1) rfl rfl (Nat.le_of_ble_eq_true rfl) rfl (by decide) (by omega) (by omega) (fun E cs1 hx => ?_) (fun v cs1 hx => ?_)
      · exact absurd hx.1 (by simp)
      · obtain ⟨e1, rfl⟩ := hx
        cases e1
        refine ⟨rfl, ?_⟩
        refine r_st (st2 := [.int 0]) rfl ?_
        refine r_cs (cs2 := [(m, .inr (12, [.int 0, .ref mp, .int pt, .ref mf, .ref mh, .ref mn, .ref mt, .ref mz, .ref mc_, .ref mq, .ref mgr, .int cl, .int wa, .int co_, .int fi, .int bu, .int ho, .ref ml, .ref mi, .ref mr, .int lh, .int mg, .int wd, .int fpi, .int fal, .ref mm, .ref mu, .ref mk, .ref mx, .long po, .long de]))]) rfl ?_
        refine r_if_eq (tgt := 29) d_Mm_sand_24 (by decide) (fun c_24 => ?_) (fun c_24 => ?_)
        · refine r_iload_n d_Mm_sand_29 rfl 1 rfl ?_
          · refine r_lookup (off := 83) (tgt := 113) d_Mm_sand_30 (by decide) (by decide) (by decide) ?_
            refine r_aload_n d_Mm_sand_113 rfl 0 rfl ?_
            refine r_callV (As := []) (rest := []) (csC := [(m, .inr (12, [.int 0, .ref mp, .int pt, .ref mf, .ref mh, .ref mn, .ref mt, .ref mz, .ref mc_, .ref mq, .ref mgr, .int cl, .int wa, .int co_, .int fi, .int bu, .int ho, .ref ml, .ref mi, .ref mr, .int lh, .int mg, .int wd, .int fpi, .int fal, .ref mm, .ref mu, .ref mk, .ref mx, .long po, .long de]))]) (is := [0]) (q0 := 0) rfl rfl ln_Mm_199 w_im_Mm_strength w_se_Mm_strength ok_Mm_sand_Mm_strength d_Mm_sand_114 (C_Mm_strength g m mp mf mh mn mt mz mc_ mq mgr ml mi mr mm mu mk mx 0 pt cl wa co_ fi bu ho lh mg wd fpi fal po de) rfl rfl (Nat.le_of_ble_eq_true rfl) rfl (by decide) (by omega) (by omega) (fun E cs1 hx => ?_) (fun v cs1 hx => ?_)
            · exact absurd hx.1 (by simp)
            · obtain ⟨e1, rfl⟩ := hx
              cases e1
              refine ⟨rfl, ?_⟩
              refine r_st (st2 := [.int (S_Mm_strength m mp mf mh mn mt mz mc_ mq mgr ml mi mr mm mu mk mx 0 pt cl wa co_ fi bu ho lh mg wd fpi fal po de)]) rfl ?_
              refine r_cs (cs2 := [(m, .inr (12, [.int 0, .ref mp, .int pt, .ref mf, .ref mh, .ref mn, .ref mt, .ref mz, .ref mc_, .ref mq, .ref mgr, .int cl, .int wa, .int co_, .int fi, .int bu, .int ho, .ref ml, .ref mi, .ref mr, .int lh, .int mg, .int wd, .int fpi, .int fal, .ref mm, .ref mu, .ref mk, .ref mx, .long po, .long de]))]) rfl ?_
              refine r_iret d_Mm_sand_117 rfl rfl ?_
              exact ⟨rfl, rfl⟩
        · exact absurd c_24 (by decide)
    · exact absurd (by decide) c_12
theorem d_Mm_sand_118 : decode prog_14_method_48_code 118 = .ok (.aload_n 0, 1) := zo_42 (zd_b zq_prog_14_method_48_code_3 22 rfl rfl rfl)
theorem d_Mm_sand_119 : decode prog_14_method_48_code 119 = .ok (.invokevirtual 205, 3) := zo_182 (d := 0) (e := 205) (zd_b zq_prog_14_method_48_code_3 23 rfl rfl rfl) (zd_b zq_prog_14_method_48_code_3 24 rfl rfl rfl) (zd_b zq_prog_14_method_48_code_3 25 rfl rfl rfl)
theorem ok_Mm_sand_Mm_draught : z_ok M_Mm_sand M_Mm_draught 0 := ⟨z_mj8 (i := 119) rfl (by decide +kernel), rfl, ⟨by decide +kernel, by decide +kernel, by decide +kernel⟩, ⟨by decide, by decide⟩, z_mj1 (i := 14) rfl (by decide +kernel), rfl⟩
theorem ln_Mm_205 : Cond.methodLink "IronpourModel" 205 M_Mm_draught.1 ∈ z_gw := z_mj8 (i := 116) rfl (by decide +kernel)
theorem w_im_Mm_draught : Cond.instanceMethod M_Mm_draught.1 ∈ z_gw := z_mj8 (i := 118) rfl (by decide +kernel)
theorem w_se_Mm_draught : Cond.selects M_Mm_draught.1.cls M_Mm_draught.1 M_Mm_draught.1 ∈ z_gw := z_mem (i := 45) (by decide +kernel) (by decide +kernel)
theorem d_Mm_sand_122 : decode prog_14_method_48_code 122 = .ok (.ireturn, 1) := zo_172 (zd_b zq_prog_14_method_48_code_3 26 rfl rfl rfl)
set_option maxHeartbeats 4000000 in
set_option maxRecDepth 100000 in
theorem C_Mm_sand100 (g : zG) (m mp mf mh mn mt mz mc_ mq mgr ml mi mr mm mu mk mx : Nat) (th pt cl wa co_ fi bu ho lh mg wd fpi fal : Int32) (po de : Int64) : CT g M_Mm_sand [.ref m, .int 100] [(m, .inr (12, [.int th, .ref mp, .int pt, .ref mf, .ref mh, .ref mn, .ref mt, .ref mz, .ref mc_, .ref mq, .ref mgr, .int cl, .int wa, .int co_, .int fi, .int bu, .int ho, .ref ml, .ref mi, .ref mr, .int lh, .int mg, .int wd, .int fpi, .int fal, .ref mm, .ref mu, .ref mk, .ref mx, .long po, .long de]))] (fun o cs1 => o = .inl (some (.int (S_Mm_draught m mp mf mh mn mt mz mc_ mq mgr ml mi mr mm mu mk mx 0 pt cl wa co_ fi bu ho lh mg wd fpi fal po de))) ∧ cs1 = [(m, .inr (12, [.int 0, .ref mp, .int pt, .ref mf, .ref mh, .ref mn, .ref mt, .ref mz, .ref mc_, .ref mq, .ref mgr, .int cl, .int wa, .int co_, .int fi, .int bu, .int ho, .ref ml, .ref mi, .ref mr, .int lh, .int mg, .int wd, .int fpi, .int fal, .ref mm, .ref mu, .ref mk, .ref mx, .long po, .long de]))]) 0 0 := by
  refine z_of (by decide) rfl (Nat.le_of_ble_eq_true rfl) (fun w0 => ?_)
  refine r_lvE (lv2 := [(0, .ref m), (1, .int 100)]) rfl ?_
  refine r_aload_n d_Mm_sand_0 rfl 0 rfl ?_
  refine r_iconst d_Mm_sand_1 (v := 0) (by decide) ?_
  refine r_put fp_Mm_84 d_Mm_sand_2 (fun h => nomatch h) rfl rfl (q0 := 0) rfl (Nat.le_of_ble_eq_true rfl) (cs' := [(m, .inr (12, [.int 0, .ref mp, .int pt, .ref mf, .ref mh, .ref mn, .ref mt, .ref mz, .ref mc_, .ref mq, .ref mgr, .int cl, .int wa, .int co_, .int fi, .int bu, .int ho, .ref ml, .ref mi, .ref mr, .int lh, .int mg, .int wd, .int fpi, .int fal, .ref mm, .ref mu, .ref mk, .ref mx, .long po, .long de]))]) rfl ?_
  refine r_aload_n d_Mm_sand_5 rfl 0 rfl ?_
  refine r_ldcS (own := "IronpourModel") (i := 5) (by decide) d_Mm_sand_6 ?_
  refine r_iload_n d_Mm_sand_8 rfl 1 rfl ?_
  refine r_callVS (As := [.int 100]) (rest := [.ref m]) (csC := []) (is := []) (i := 5) (by first | assumption | decide) rfl ln_Mm_97 w_im_String_indexOf_0 w_se_String_indexOf_0 ok_Mm_sand_String_indexOf_0 d_Mm_sand_9 (C_St_indexOf g 5 (by decide) 100) rfl rfl (Nat.le_of_ble_eq_true rfl) rfl (by decide) (by omega) (by omega) (fun E cs1 hx => ?_) (fun v cs1 hx => ?_)
  · exact absurd hx.1 (by simp)
  · obtain ⟨e1, rfl⟩ := hx
    cases e1
    refine ⟨rfl, ?_⟩
    refine r_st (st2 := [.int (z_ix 5 100), .ref m]) rfl ?_
    refine r_cs (cs2 := [(m, .inr (12, [.int 0, .ref mp, .int pt, .ref mf, .ref mh, .ref mn, .ref mt, .ref mz, .ref mc_, .ref mq, .ref mgr, .int cl, .int wa, .int co_, .int fi, .int bu, .int ho, .ref ml, .ref mi, .ref mr, .int lh, .int mg, .int wd, .int fpi, .int fal, .ref mm, .ref mu, .ref mk, .ref mx, .long po, .long de]))]) rfl ?_
    refine r_if_ge (tgt := 19) d_Mm_sand_12 (by decide) (fun c_12 => ?_) (fun c_12 => ?_)
    · refine r_iconst d_Mm_sand_19 (v := 0) (by decide) ?_
      refine r_iconst d_Mm_sand_20 (v := 1) (by decide) ?_
      refine r_callV (As := [.int 0, .int 1]) (rest := []) (csC := [(m, .inr (12, [.int 0, .ref mp, .int pt, .ref mf, .ref mh, .ref mn, .ref mt, .ref mz, .ref mc_, .ref mq, .ref mgr, .int cl, .int wa, .int co_, .int fi, .int bu, .int ho, .ref ml, .ref mi, .ref mr, .int lh, .int mg, .int wd, .int fpi, .int fal, .ref mm, .ref mu, .ref mk, .ref mx, .long po, .long de]))]) (is := [0]) (q0 := 0) rfl rfl ln_Mm_103 w_im_Mm_fails w_se_Mm_fails ok_Mm_sand_Mm_fails d_Mm_sand_21 (C_Mm_fails0 g m mp mf mh mn mt mz mc_ mq mgr ml mi mr mm mu mk mx th pt cl wa co_ fi bu ho lh mg wd fpi fal po de 1) rfl rfl (Nat.le_of_ble_eq_true rfl) rfl (by decide) (by omega) (by omega) (fun E cs1 hx => ?_) (fun v cs1 hx => ?_)
      · exact absurd hx.1 (by simp)
      · obtain ⟨e1, rfl⟩ := hx
        cases e1
        refine ⟨rfl, ?_⟩
        refine r_st (st2 := [.int 0]) rfl ?_
        refine r_cs (cs2 := [(m, .inr (12, [.int 0, .ref mp, .int pt, .ref mf, .ref mh, .ref mn, .ref mt, .ref mz, .ref mc_, .ref mq, .ref mgr, .int cl, .int wa, .int co_, .int fi, .int bu, .int ho, .ref ml, .ref mi, .ref mr, .int lh, .int mg, .int wd, .int fpi, .int fal, .ref mm, .ref mu, .ref mk, .ref mx, .long po, .long de]))]) rfl ?_
        refine r_if_eq (tgt := 29) d_Mm_sand_24 (by decide) (fun c_24 => ?_) (fun c_24 => ?_)
        · refine r_iload_n d_Mm_sand_29 rfl 1 rfl ?_
          · refine r_lookup (off := 88) (tgt := 118) d_Mm_sand_30 (by decide) (by decide) (by decide) ?_
            refine r_aload_n d_Mm_sand_118 rfl 0 rfl ?_
            refine r_callV (As := []) (rest := []) (csC := [(m, .inr (12, [.int 0, .ref mp, .int pt, .ref mf, .ref mh, .ref mn, .ref mt, .ref mz, .ref mc_, .ref mq, .ref mgr, .int cl, .int wa, .int co_, .int fi, .int bu, .int ho, .ref ml, .ref mi, .ref mr, .int lh, .int mg, .int wd, .int fpi, .int fal, .ref mm, .ref mu, .ref mk, .ref mx, .long po, .long de]))]) (is := [0]) (q0 := 0) rfl rfl ln_Mm_205 w_im_Mm_draught w_se_Mm_draught ok_Mm_sand_Mm_draught d_Mm_sand_119 (C_Mm_draught g m mp mf mh mn mt mz mc_ mq mgr ml mi mr mm mu mk mx 0 pt cl wa co_ fi bu ho lh mg wd fpi fal po de) rfl rfl (Nat.le_of_ble_eq_true rfl) rfl (by decide) (by omega) (by omega) (fun E cs1 hx => ?_) (fun v cs1 hx => ?_)
            · exact absurd hx.1 (by simp)
            · obtain ⟨e1, rfl⟩ := hx
              cases e1
              refine ⟨rfl, ?_⟩
              refine r_st (st2 := [.int (S_Mm_draught m mp mf mh mn mt mz mc_ mq mgr ml mi mr mm mu mk mx 0 pt cl wa co_ fi bu ho lh mg wd fpi fal po de)]) rfl ?_
              refine r_cs (cs2 := [(m, .inr (12, [.int 0, .ref mp, .int pt, .ref mf, .ref mh, .ref mn, .ref mt, .ref mz, .ref mc_, .ref mq, .ref mgr, .int cl, .int wa, .int co_, .int fi, .int bu, .int ho, .ref ml, .ref mi, .ref mr, .int lh, .int mg, .int wd, .int fpi, .int fal, .ref mm, .ref mu, .ref mk, .ref mx, .long po, .long de]))]) rfl ?_
              refine r_iret d_Mm_sand_122 rfl rfl ?_
              exact ⟨rfl, rfl⟩
        · exact absurd c_24 (by decide)
    · exact absurd (by decide) c_12
abbrev M_Mm_good : zM := (⟨"IronpourModel", "good", "()I"⟩, prog_14_method_51_code, 3, (Option.some FieldType.int), 4, 84, [])
theorem d_Mm_good_0 : decode prog_14_method_51_code 0 = .ok (.iconst 0, 1) := zo_3 (zd_b zq_prog_14_method_51_code_0 0 rfl rfl rfl)
theorem d_Mm_good_1 : decode prog_14_method_51_code 1 = .ok (.istore_n 1, 1) := zo_60 (zd_b zq_prog_14_method_51_code_0 1 rfl rfl rfl)
theorem d_Mm_good_2 : decode prog_14_method_51_code 2 = .ok (.iconst 0, 1) := zo_3 (zd_b zq_prog_14_method_51_code_0 2 rfl rfl rfl)
theorem d_Mm_good_3 : decode prog_14_method_51_code 3 = .ok (.istore_n 2, 1) := zo_61 (zd_b zq_prog_14_method_51_code_0 3 rfl rfl rfl)
theorem d_Mm_good_4 : decode prog_14_method_51_code 4 = .ok (.iload_n 2, 1) := zo_28 (zd_b zq_prog_14_method_51_code_0 4 rfl rfl rfl)
theorem d_Mm_good_5 : decode prog_14_method_51_code 5 = .ok (.aload_n 0, 1) := zo_42 (zd_b zq_prog_14_method_51_code_0 5 rfl rfl rfl)
theorem d_Mm_good_6 : decode prog_14_method_51_code 6 = .ok (.getfield 58, 3) := zo_180 (d := 0) (e := 58) (zd_b zq_prog_14_method_51_code_0 6 rfl rfl rfl) (zd_b zq_prog_14_method_51_code_0 7 rfl rfl rfl) (zd_b zq_prog_14_method_51_code_0 8 rfl rfl rfl)
theorem fs_Mm_58 : z_fs "IronpourModel" 58 12 17 := ⟨R_Mm, "IronpourModel", F_Mm, 31, rfl, u_Mm, by decide, Or.inl ⟨z_mj7 (i := 100) rfl (by decide +kernel), Or.inl rfl⟩⟩
theorem d_Mm_good_9 : decode prog_14_method_51_code 9 = .ok (.invokevirtual 208, 3) := zo_182 (d := 0) (e := 208) (zd_b zq_prog_14_method_51_code_0 9 rfl rfl rfl) (zd_b zq_prog_14_method_51_code_0 10 rfl rfl rfl) (zd_b zq_prog_14_method_51_code_0 11 rfl rfl rfl)
theorem ok_Mm_good_AL_size : z_ok M_Mm_good M_AL_size 0 := ⟨z_mj2 (i := 172) rfl (by decide +kernel), rfl, ⟨by decide +kernel, by decide +kernel, by decide +kernel⟩, ⟨by decide, by decide⟩, z_mj1 (i := 13) rfl (by decide +kernel), rfl⟩
theorem ln_Mm_208 : Cond.methodLink "IronpourModel" 208 M_AL_size.1 ∈ z_gw := z_mj8 (i := 124) rfl (by decide +kernel)
theorem w_im_AL_size : Cond.instanceMethod M_AL_size.1 ∈ z_gw := z_mj2 (i := 170) rfl (by decide +kernel)
theorem w_se_AL_size : Cond.selects M_AL_size.1.cls M_AL_size.1 M_AL_size.1 ∈ z_gw := z_mj2 (i := 171) rfl (by decide +kernel)
theorem d_Mm_good_12 : decode prog_14_method_51_code 12 = .ok (.if_icmp .ge 49, 3) := zo_162 (d := 0) (e := 49) (zd_b zq_prog_14_method_51_code_0 12 rfl rfl rfl) (zd_b zq_prog_14_method_51_code_0 13 rfl rfl rfl) (zd_b zq_prog_14_method_51_code_0 14 rfl rfl rfl) (by decide +kernel)
theorem d_Mm_good_61 : decode prog_14_method_51_code 61 = .ok (.iload_n 1, 1) := zo_27 (zd_b zq_prog_14_method_51_code_1 29 rfl rfl rfl)
theorem d_Mm_good_62 : decode prog_14_method_51_code 62 = .ok (.ireturn, 1) := zo_172 (zd_b zq_prog_14_method_51_code_1 30 rfl rfl rfl)
abbrev M_Mm_goodCores : zM := (⟨"IronpourModel", "goodCores", "()I"⟩, prog_14_method_52_code, 1, (Option.some FieldType.int), 5, 106, [])
theorem d_Mm_goodCores_0 : decode prog_14_method_52_code 0 = .ok (.aload_n 0, 1) := zo_42 (zd_b zq_prog_14_method_52_code_0 0 rfl rfl rfl)
theorem d_Mm_goodCores_1 : decode prog_14_method_52_code 1 = .ok (.iconst 0, 1) := zo_3 (zd_b zq_prog_14_method_52_code_0 1 rfl rfl rfl)
theorem d_Mm_goodCores_2 : decode prog_14_method_52_code 2 = .ok (.putfield 84, 3) := zo_181 (d := 0) (e := 84) (zd_b zq_prog_14_method_52_code_0 2 rfl rfl rfl) (zd_b zq_prog_14_method_52_code_0 3 rfl rfl rfl) (zd_b zq_prog_14_method_52_code_0 4 rfl rfl rfl)
theorem d_Mm_goodCores_5 : decode prog_14_method_52_code 5 = .ok (.aload_n 0, 1) := zo_42 (zd_b zq_prog_14_method_52_code_0 5 rfl rfl rfl)
theorem d_Mm_goodCores_6 : decode prog_14_method_52_code 6 = .ok (.invokevirtual 226, 3) := zo_182 (d := 0) (e := 226) (zd_b zq_prog_14_method_52_code_0 6 rfl rfl rfl) (zd_b zq_prog_14_method_52_code_0 7 rfl rfl rfl) (zd_b zq_prog_14_method_52_code_0 8 rfl rfl rfl)
theorem ok_Mm_goodCores_Mm_good : z_ok M_Mm_goodCores M_Mm_good 0 := ⟨z_mj8 (i := 139) rfl (by decide +kernel), rfl, ⟨by decide +kernel, by decide +kernel, by decide +kernel⟩, ⟨by decide, by decide⟩, z_mj1 (i := 14) rfl (by decide +kernel), rfl⟩
theorem ln_Mm_226 : Cond.methodLink "IronpourModel" 226 M_Mm_good.1 ∈ z_gw := z_mj8 (i := 136) rfl (by decide +kernel)
theorem w_im_Mm_good : Cond.instanceMethod M_Mm_good.1 ∈ z_gw := z_mj8 (i := 138) rfl (by decide +kernel)
theorem w_se_Mm_good : Cond.selects M_Mm_good.1.cls M_Mm_good.1 M_Mm_good.1 ∈ z_gw := z_mem (i := 47) (by decide +kernel) (by decide +kernel)
theorem d_Mm_goodCores_9 : decode prog_14_method_52_code 9 = .ok (.ireturn, 1) := zo_172 (zd_b zq_prog_14_method_52_code_0 9 rfl rfl rfl)
abbrev M_Mm_hours : zM := (⟨"IronpourModel", "hours", "(I)I"⟩, prog_14_method_53_code, 4, (Option.some FieldType.int), 4, 146, [])
theorem d_Mm_hours_0 : decode prog_14_method_53_code 0 = .ok (.aload_n 0, 1) := zo_42 (zd_b zq_prog_14_method_53_code_0 0 rfl rfl rfl)
theorem d_Mm_hours_1 : decode prog_14_method_53_code 1 = .ok (.iconst 0, 1) := zo_3 (zd_b zq_prog_14_method_53_code_0 1 rfl rfl rfl)
theorem d_Mm_hours_2 : decode prog_14_method_53_code 2 = .ok (.putfield 84, 3) := zo_181 (d := 0) (e := 84) (zd_b zq_prog_14_method_53_code_0 2 rfl rfl rfl) (zd_b zq_prog_14_method_53_code_0 3 rfl rfl rfl) (zd_b zq_prog_14_method_53_code_0 4 rfl rfl rfl)
theorem d_Mm_hours_5 : decode prog_14_method_53_code 5 = .ok (.aload_n 0, 1) := zo_42 (zd_b zq_prog_14_method_53_code_0 5 rfl rfl rfl)
theorem d_Mm_hours_6 : decode prog_14_method_53_code 6 = .ok (.iload_n 1, 1) := zo_27 (zd_b zq_prog_14_method_53_code_0 6 rfl rfl rfl)
theorem d_Mm_hours_7 : decode prog_14_method_53_code 7 = .ok (.iconst 1, 1) := zo_4 (zd_b zq_prog_14_method_53_code_0 7 rfl rfl rfl)
theorem d_Mm_hours_8 : decode prog_14_method_53_code 8 = .ok (.bipush 48, 2) := zo_16 (d := 48) (zd_b zq_prog_14_method_53_code_0 8 rfl rfl rfl) (zd_b zq_prog_14_method_53_code_0 9 rfl rfl rfl) (by decide +kernel)
theorem d_Mm_hours_10 : decode prog_14_method_53_code 10 = .ok (.invokestatic 87, 3) := zo_184 (d := 0) (e := 87) (zd_b zq_prog_14_method_53_code_0 10 rfl rfl rfl) (zd_b zq_prog_14_method_53_code_0 11 rfl rfl rfl) (zd_b zq_prog_14_method_53_code_0 12 rfl rfl rfl)
theorem ok_Mm_hours_Mm_in : z_ok M_Mm_hours M_Mm_in 3 := ⟨z_mj7 (i := 190) rfl (by decide +kernel), rfl, ⟨by decide +kernel, by decide +kernel, by decide +kernel⟩, ⟨by decide, by decide⟩, z_mj1 (i := 14) rfl (by decide +kernel), rfl⟩
theorem d_Mm_hours_13 : decode prog_14_method_53_code 13 = .ok (.ifCond .ne 7, 3) := zo_154 (d := 0) (e := 7) (zd_b zq_prog_14_method_53_code_0 13 rfl rfl rfl) (zd_b zq_prog_14_method_53_code_0 14 rfl rfl rfl) (zd_b zq_prog_14_method_53_code_0 15 rfl rfl rfl) (by decide +kernel)
theorem d_Mm_hours_16 : decode prog_14_method_53_code 16 = .ok (.iconst 1, 1) := zo_4 (zd_b zq_prog_14_method_53_code_0 16 rfl rfl rfl)
theorem d_Mm_hours_17 : decode prog_14_method_53_code 17 = .ok (.goto 4, 3) := zo_167 (d := 0) (e := 4) (zd_b zq_prog_14_method_53_code_0 17 rfl rfl rfl) (zd_b zq_prog_14_method_53_code_0 18 rfl rfl rfl) (zd_b zq_prog_14_method_53_code_0 19 rfl rfl rfl) (by decide +kernel)
theorem d_Mm_hours_21 : decode prog_14_method_53_code 21 = .ok (.iconst 1, 1) := zo_4 (zd_b zq_prog_14_method_53_code_0 21 rfl rfl rfl)
theorem d_Mm_hours_22 : decode prog_14_method_53_code 22 = .ok (.invokevirtual 103, 3) := zo_182 (d := 0) (e := 103) (zd_b zq_prog_14_method_53_code_0 22 rfl rfl rfl) (zd_b zq_prog_14_method_53_code_0 23 rfl rfl rfl) (zd_b zq_prog_14_method_53_code_0 24 rfl rfl rfl)
theorem ok_Mm_hours_Mm_fails : z_ok M_Mm_hours M_Mm_fails 2 := ⟨z_mj7 (i := 196) rfl (by decide +kernel), rfl, ⟨by decide +kernel, by decide +kernel, by decide +kernel⟩, ⟨by decide, by decide⟩, z_mj1 (i := 14) rfl (by decide +kernel), rfl⟩
theorem d_Mm_hours_25 : decode prog_14_method_53_code 25 = .ok (.ifCond .eq 5, 3) := zo_153 (d := 0) (e := 5) (zd_b zq_prog_14_method_53_code_0 25 rfl rfl rfl) (zd_b zq_prog_14_method_53_code_0 26 rfl rfl rfl) (zd_b zq_prog_14_method_53_code_0 27 rfl rfl rfl) (by decide +kernel)
theorem d_Mm_hours_28 : decode prog_14_method_53_code 28 = .ok (.iconst 0, 1) := zo_3 (zd_b zq_prog_14_method_53_code_0 28 rfl rfl rfl)
theorem d_Mm_hours_29 : decode prog_14_method_53_code 29 = .ok (.ireturn, 1) := zo_172 (zd_b zq_prog_14_method_53_code_0 29 rfl rfl rfl)
theorem d_Mm_hours_20 : decode prog_14_method_53_code 20 = .ok (.iconst 0, 1) := zo_3 (zd_b zq_prog_14_method_53_code_0 20 rfl rfl rfl)
theorem d_Mm_hours_30 : decode prog_14_method_53_code 30 = .ok (.aload_n 0, 1) := zo_42 (zd_b zq_prog_14_method_53_code_0 30 rfl rfl rfl)
theorem d_Mm_hours_31 : decode prog_14_method_53_code 31 = .ok (.dup, 1) := zo_89 (zd_b zq_prog_14_method_53_code_0 31 rfl rfl rfl)
theorem d_Mm_hours_32 : decode prog_14_method_53_code 32 = .ok (.getfield 216, 3) := zo_180 (d := 0) (e := 216) (zd_b zq_prog_14_method_53_code_1 0 rfl rfl rfl) (zd_b zq_prog_14_method_53_code_1 1 rfl rfl rfl) (zd_b zq_prog_14_method_53_code_1 2 rfl rfl rfl)
theorem fs_Mm_216 : z_fs "IronpourModel" 216 12 16 := ⟨R_Mm, "IronpourModel", F_Mm, 31, rfl, u_Mm, by decide, Or.inl ⟨z_mj7 (i := 99) rfl (by decide +kernel), Or.inl rfl⟩⟩
theorem d_Mm_hours_35 : decode prog_14_method_53_code 35 = .ok (.iload_n 1, 1) := zo_27 (zd_b zq_prog_14_method_53_code_1 3 rfl rfl rfl)
theorem d_Mm_hours_36 : decode prog_14_method_53_code 36 = .ok (.iadd, 1) := zo_96 (zd_b zq_prog_14_method_53_code_1 4 rfl rfl rfl)
theorem d_Mm_hours_37 : decode prog_14_method_53_code 37 = .ok (.putfield 216, 3) := zo_181 (d := 0) (e := 216) (zd_b zq_prog_14_method_53_code_1 5 rfl rfl rfl) (zd_b zq_prog_14_method_53_code_1 6 rfl rfl rfl) (zd_b zq_prog_14_method_53_code_1 7 rfl rfl rfl)
theorem fp_Mm_216 : z_fp "IronpourModel" 216 12 16 false .int := ⟨R_Mm, "IronpourModel", F_Mm, 31, t_Mm, rfl, u_Mm, by decide, t_Mm_ok, n_Mm, rfl, rfl, Or.inl ⟨z_mj7 (i := 99) rfl (by decide +kernel), Or.inl rfl, fun h => nomatch h⟩⟩
theorem d_Mm_hours_40 : decode prog_14_method_53_code 40 = .ok (.iconst 0, 1) := zo_3 (zd_b zq_prog_14_method_53_code_1 8 rfl rfl rfl)
theorem d_Mm_hours_41 : decode prog_14_method_53_code 41 = .ok (.istore_n 2, 1) := zo_61 (zd_b zq_prog_14_method_53_code_1 9 rfl rfl rfl)
theorem d_Mm_hours_42 : decode prog_14_method_53_code 42 = .ok (.aload_n 0, 1) := zo_42 (zd_b zq_prog_14_method_53_code_1 10 rfl rfl rfl)
theorem d_Mm_hours_43 : decode prog_14_method_53_code 43 = .ok (.getfield 58, 3) := zo_180 (d := 0) (e := 58) (zd_b zq_prog_14_method_53_code_1 11 rfl rfl rfl) (zd_b zq_prog_14_method_53_code_1 12 rfl rfl rfl) (zd_b zq_prog_14_method_53_code_1 13 rfl rfl rfl)
theorem d_Mm_hours_46 : decode prog_14_method_53_code 46 = .ok (.invokevirtual 208, 3) := zo_182 (d := 0) (e := 208) (zd_b zq_prog_14_method_53_code_1 14 rfl rfl rfl) (zd_b zq_prog_14_method_53_code_1 15 rfl rfl rfl) (zd_b zq_prog_14_method_53_code_1 16 rfl rfl rfl)
theorem ok_Mm_hours_AL_size : z_ok M_Mm_hours M_AL_size 0 := ⟨z_mj2 (i := 172) rfl (by decide +kernel), rfl, ⟨by decide +kernel, by decide +kernel, by decide +kernel⟩, ⟨by decide, by decide⟩, z_mj1 (i := 13) rfl (by decide +kernel), rfl⟩
theorem d_Mm_hours_49 : decode prog_14_method_53_code 49 = .ok (.iconst 1, 1) := zo_4 (zd_b zq_prog_14_method_53_code_1 17 rfl rfl rfl)
theorem d_Mm_hours_50 : decode prog_14_method_53_code 50 = .ok (.isub, 1) := zo_100 (zd_b zq_prog_14_method_53_code_1 18 rfl rfl rfl)
theorem d_Mm_hours_51 : decode prog_14_method_53_code 51 = .ok (.istore_n 3, 1) := zo_62 (zd_b zq_prog_14_method_53_code_1 19 rfl rfl rfl)
theorem d_Mm_hours_52 : decode prog_14_method_53_code 52 = .ok (.iload_n 3, 1) := zo_29 (zd_b zq_prog_14_method_53_code_1 20 rfl rfl rfl)
theorem d_Mm_hours_53 : decode prog_14_method_53_code 53 = .ok (.ifCond .lt 57, 3) := zo_155 (d := 0) (e := 57) (zd_b zq_prog_14_method_53_code_1 21 rfl rfl rfl) (zd_b zq_prog_14_method_53_code_1 22 rfl rfl rfl) (zd_b zq_prog_14_method_53_code_1 23 rfl rfl rfl) (by decide +kernel)
theorem d_Mm_hours_110 : decode prog_14_method_53_code 110 = .ok (.iload_n 2, 1) := zo_28 (zd_b zq_prog_14_method_53_code_3 14 rfl rfl rfl)
theorem d_Mm_hours_111 : decode prog_14_method_53_code 111 = .ok (.ireturn, 1) := zo_172 (zd_b zq_prog_14_method_53_code_3 15 rfl rfl rfl)
abbrev M_Mm_makeCores : zM := (⟨"IronpourModel", "makeCores", "(II)I"⟩, prog_14_method_50_code, 4, (Option.some FieldType.int), 8, 231, [])
theorem d_Mm_makeCores_0 : decode prog_14_method_50_code 0 = .ok (.aload_n 0, 1) := zo_42 (zd_b zq_prog_14_method_50_code_0 0 rfl rfl rfl)
theorem d_Mm_makeCores_1 : decode prog_14_method_50_code 1 = .ok (.iconst 0, 1) := zo_3 (zd_b zq_prog_14_method_50_code_0 1 rfl rfl rfl)
theorem d_Mm_makeCores_2 : decode prog_14_method_50_code 2 = .ok (.putfield 84, 3) := zo_181 (d := 0) (e := 84) (zd_b zq_prog_14_method_50_code_0 2 rfl rfl rfl) (zd_b zq_prog_14_method_50_code_0 3 rfl rfl rfl) (zd_b zq_prog_14_method_50_code_0 4 rfl rfl rfl)
theorem d_Mm_makeCores_5 : decode prog_14_method_50_code 5 = .ok (.aload_n 0, 1) := zo_42 (zd_b zq_prog_14_method_50_code_0 5 rfl rfl rfl)
theorem d_Mm_makeCores_6 : decode prog_14_method_50_code 6 = .ok (.iload_n 1, 1) := zo_27 (zd_b zq_prog_14_method_50_code_0 6 rfl rfl rfl)
theorem d_Mm_makeCores_7 : decode prog_14_method_50_code 7 = .ok (.iconst 1, 1) := zo_4 (zd_b zq_prog_14_method_50_code_0 7 rfl rfl rfl)
theorem d_Mm_makeCores_8 : decode prog_14_method_50_code 8 = .ok (.bipush 10, 2) := zo_16 (d := 10) (zd_b zq_prog_14_method_50_code_0 8 rfl rfl rfl) (zd_b zq_prog_14_method_50_code_0 9 rfl rfl rfl) (by decide +kernel)
theorem d_Mm_makeCores_10 : decode prog_14_method_50_code 10 = .ok (.invokestatic 87, 3) := zo_184 (d := 0) (e := 87) (zd_b zq_prog_14_method_50_code_0 10 rfl rfl rfl) (zd_b zq_prog_14_method_50_code_0 11 rfl rfl rfl) (zd_b zq_prog_14_method_50_code_0 12 rfl rfl rfl)
theorem ok_Mm_makeCores_Mm_in : z_ok M_Mm_makeCores M_Mm_in 3 := ⟨z_mj7 (i := 190) rfl (by decide +kernel), rfl, ⟨by decide +kernel, by decide +kernel, by decide +kernel⟩, ⟨by decide, by decide⟩, z_mj1 (i := 14) rfl (by decide +kernel), rfl⟩
theorem d_Mm_makeCores_13 : decode prog_14_method_50_code 13 = .ok (.ifCond .eq 13, 3) := zo_153 (d := 0) (e := 13) (zd_b zq_prog_14_method_50_code_0 13 rfl rfl rfl) (zd_b zq_prog_14_method_50_code_0 14 rfl rfl rfl) (zd_b zq_prog_14_method_50_code_0 15 rfl rfl rfl) (by decide +kernel)
theorem d_Mm_makeCores_26 : decode prog_14_method_50_code 26 = .ok (.iconst 1, 1) := zo_4 (zd_b zq_prog_14_method_50_code_0 26 rfl rfl rfl)
theorem d_Mm_makeCores_27 : decode prog_14_method_50_code 27 = .ok (.goto 4, 3) := zo_167 (d := 0) (e := 4) (zd_b zq_prog_14_method_50_code_0 27 rfl rfl rfl) (zd_b zq_prog_14_method_50_code_0 28 rfl rfl rfl) (zd_b zq_prog_14_method_50_code_0 29 rfl rfl rfl) (by decide +kernel)
theorem d_Mm_makeCores_31 : decode prog_14_method_50_code 31 = .ok (.iconst 1, 1) := zo_4 (zd_b zq_prog_14_method_50_code_0 31 rfl rfl rfl)
theorem d_Mm_makeCores_32 : decode prog_14_method_50_code 32 = .ok (.invokevirtual 103, 3) := zo_182 (d := 0) (e := 103) (zd_b zq_prog_14_method_50_code_1 0 rfl rfl rfl) (zd_b zq_prog_14_method_50_code_1 1 rfl rfl rfl) (zd_b zq_prog_14_method_50_code_1 2 rfl rfl rfl)
theorem ok_Mm_makeCores_Mm_fails : z_ok M_Mm_makeCores M_Mm_fails 2 := ⟨z_mj7 (i := 196) rfl (by decide +kernel), rfl, ⟨by decide +kernel, by decide +kernel, by decide +kernel⟩, ⟨by decide, by decide⟩, z_mj1 (i := 14) rfl (by decide +kernel), rfl⟩
theorem d_Mm_makeCores_35 : decode prog_14_method_50_code 35 = .ok (.ifCond .ne 28, 3) := zo_154 (d := 0) (e := 28) (zd_b zq_prog_14_method_50_code_1 3 rfl rfl rfl) (zd_b zq_prog_14_method_50_code_1 4 rfl rfl rfl) (zd_b zq_prog_14_method_50_code_1 5 rfl rfl rfl) (by decide +kernel)
theorem d_Mm_makeCores_63 : decode prog_14_method_50_code 63 = .ok (.iconst 0, 1) := zo_3 (zd_b zq_prog_14_method_50_code_1 31 rfl rfl rfl)
theorem d_Mm_makeCores_64 : decode prog_14_method_50_code 64 = .ok (.ireturn, 1) := zo_172 (zd_b zq_prog_14_method_50_code_2 0 rfl rfl rfl)
theorem d_Mm_makeCores_16 : decode prog_14_method_50_code 16 = .ok (.iload_n 2, 1) := zo_28 (zd_b zq_prog_14_method_50_code_0 16 rfl rfl rfl)
theorem d_Mm_makeCores_17 : decode prog_14_method_50_code 17 = .ok (.iconst 1, 1) := zo_4 (zd_b zq_prog_14_method_50_code_0 17 rfl rfl rfl)
theorem d_Mm_makeCores_18 : decode prog_14_method_50_code 18 = .ok (.bipush 24, 2) := zo_16 (d := 24) (zd_b zq_prog_14_method_50_code_0 18 rfl rfl rfl) (zd_b zq_prog_14_method_50_code_0 19 rfl rfl rfl) (by decide +kernel)
theorem d_Mm_makeCores_20 : decode prog_14_method_50_code 20 = .ok (.invokestatic 87, 3) := zo_184 (d := 0) (e := 87) (zd_b zq_prog_14_method_50_code_0 20 rfl rfl rfl) (zd_b zq_prog_14_method_50_code_0 21 rfl rfl rfl) (zd_b zq_prog_14_method_50_code_0 22 rfl rfl rfl)
theorem d_Mm_makeCores_23 : decode prog_14_method_50_code 23 = .ok (.ifCond .ne 7, 3) := zo_154 (d := 0) (e := 7) (zd_b zq_prog_14_method_50_code_0 23 rfl rfl rfl) (zd_b zq_prog_14_method_50_code_0 24 rfl rfl rfl) (zd_b zq_prog_14_method_50_code_0 25 rfl rfl rfl) (by decide +kernel)
abbrev M_Mm_inStore : zM := (⟨"IronpourModel", "inStore", "()I"⟩, prog_14_method_49_code, 3, (Option.some FieldType.int), 4, 84, [])
theorem d_Mm_inStore_0 : decode prog_14_method_49_code 0 = .ok (.iconst 0, 1) := zo_3 (zd_b zq_prog_14_method_49_code_0 0 rfl rfl rfl)
theorem d_Mm_inStore_1 : decode prog_14_method_49_code 1 = .ok (.istore_n 1, 1) := zo_60 (zd_b zq_prog_14_method_49_code_0 1 rfl rfl rfl)
theorem d_Mm_inStore_2 : decode prog_14_method_49_code 2 = .ok (.iconst 0, 1) := zo_3 (zd_b zq_prog_14_method_49_code_0 2 rfl rfl rfl)
theorem d_Mm_inStore_3 : decode prog_14_method_49_code 3 = .ok (.istore_n 2, 1) := zo_61 (zd_b zq_prog_14_method_49_code_0 3 rfl rfl rfl)
theorem d_Mm_inStore_4 : decode prog_14_method_49_code 4 = .ok (.iload_n 2, 1) := zo_28 (zd_b zq_prog_14_method_49_code_0 4 rfl rfl rfl)
theorem d_Mm_inStore_5 : decode prog_14_method_49_code 5 = .ok (.aload_n 0, 1) := zo_42 (zd_b zq_prog_14_method_49_code_0 5 rfl rfl rfl)
theorem d_Mm_inStore_6 : decode prog_14_method_49_code 6 = .ok (.getfield 58, 3) := zo_180 (d := 0) (e := 58) (zd_b zq_prog_14_method_49_code_0 6 rfl rfl rfl) (zd_b zq_prog_14_method_49_code_0 7 rfl rfl rfl) (zd_b zq_prog_14_method_49_code_0 8 rfl rfl rfl)
theorem d_Mm_inStore_9 : decode prog_14_method_49_code 9 = .ok (.invokevirtual 208, 3) := zo_182 (d := 0) (e := 208) (zd_b zq_prog_14_method_49_code_0 9 rfl rfl rfl) (zd_b zq_prog_14_method_49_code_0 10 rfl rfl rfl) (zd_b zq_prog_14_method_49_code_0 11 rfl rfl rfl)
theorem ok_Mm_inStore_AL_size : z_ok M_Mm_inStore M_AL_size 0 := ⟨z_mj2 (i := 172) rfl (by decide +kernel), rfl, ⟨by decide +kernel, by decide +kernel, by decide +kernel⟩, ⟨by decide, by decide⟩, z_mj1 (i := 13) rfl (by decide +kernel), rfl⟩
theorem d_Mm_inStore_12 : decode prog_14_method_49_code 12 = .ok (.if_icmp .ge 25, 3) := zo_162 (d := 0) (e := 25) (zd_b zq_prog_14_method_49_code_0 12 rfl rfl rfl) (zd_b zq_prog_14_method_49_code_0 13 rfl rfl rfl) (zd_b zq_prog_14_method_49_code_0 14 rfl rfl rfl) (by decide +kernel)
theorem d_Mm_inStore_15 : decode prog_14_method_49_code 15 = .ok (.iload_n 1, 1) := zo_27 (zd_b zq_prog_14_method_49_code_0 15 rfl rfl rfl)
theorem d_Mm_inStore_16 : decode prog_14_method_49_code 16 = .ok (.aload_n 0, 1) := zo_42 (zd_b zq_prog_14_method_49_code_0 16 rfl rfl rfl)
theorem d_Mm_inStore_17 : decode prog_14_method_49_code 17 = .ok (.getfield 58, 3) := zo_180 (d := 0) (e := 58) (zd_b zq_prog_14_method_49_code_0 17 rfl rfl rfl) (zd_b zq_prog_14_method_49_code_0 18 rfl rfl rfl) (zd_b zq_prog_14_method_49_code_0 19 rfl rfl rfl)
theorem d_Mm_inStore_20 : decode prog_14_method_49_code 20 = .ok (.iload_n 2, 1) := zo_28 (zd_b zq_prog_14_method_49_code_0 20 rfl rfl rfl)
theorem d_Mm_inStore_21 : decode prog_14_method_49_code 21 = .ok (.invokevirtual 211, 3) := zo_182 (d := 0) (e := 211) (zd_b zq_prog_14_method_49_code_0 21 rfl rfl rfl) (zd_b zq_prog_14_method_49_code_0 22 rfl rfl rfl) (zd_b zq_prog_14_method_49_code_0 23 rfl rfl rfl)
theorem ok_Mm_inStore_AL_get : z_ok M_Mm_inStore M_AL_get 1 := ⟨z_mj2 (i := 180) rfl (by decide +kernel), rfl, ⟨by decide +kernel, by decide +kernel, by decide +kernel⟩, ⟨by decide, by decide⟩, z_mj1 (i := 13) rfl (by decide +kernel), rfl⟩
theorem ln_Mm_211 : Cond.methodLink "IronpourModel" 211 M_AL_get.1 ∈ z_gw := z_mj8 (i := 130) rfl (by decide +kernel)
theorem w_im_AL_get : Cond.instanceMethod M_AL_get.1 ∈ z_gw := z_mj2 (i := 178) rfl (by decide +kernel)
theorem w_se_AL_get : Cond.selects M_AL_get.1.cls M_AL_get.1 M_AL_get.1 ∈ z_gw := z_mj2 (i := 179) rfl (by decide +kernel)
theorem d_Mm_inStore_24 : decode prog_14_method_49_code 24 = .ok (.checkcast 215, 3) := zo_192 (d := 0) (e := 215) (zd_b zq_prog_14_method_49_code_0 24 rfl rfl rfl) (zd_b zq_prog_14_method_49_code_0 25 rfl rfl rfl) (zd_b zq_prog_14_method_49_code_0 26 rfl rfl rfl)
theorem lk_Mm_215 : Cond.classLink "IronpourModel" 215 (z_an 0) ∈ z_gw := z_mj8 (i := 131) rfl (by decide +kernel)
theorem d_Mm_inStore_27 : decode prog_14_method_49_code 27 = .ok (.iconst 0, 1) := zo_3 (zd_b zq_prog_14_method_49_code_0 27 rfl rfl rfl)
theorem d_Mm_inStore_28 : decode prog_14_method_49_code 28 = .ok (.iaload, 1) := zo_46 (zd_b zq_prog_14_method_49_code_0 28 rfl rfl rfl)
theorem d_Mm_inStore_29 : decode prog_14_method_49_code 29 = .ok (.iadd, 1) := zo_96 (zd_b zq_prog_14_method_49_code_0 29 rfl rfl rfl)
theorem d_Mm_inStore_30 : decode prog_14_method_49_code 30 = .ok (.istore_n 1, 1) := zo_60 (zd_b zq_prog_14_method_49_code_0 30 rfl rfl rfl)
theorem d_Mm_inStore_31 : decode prog_14_method_49_code 31 = .ok (.iinc 2 1, 3) := by decide +kernel
theorem d_Mm_inStore_34 : decode prog_14_method_49_code 34 = .ok (.goto (-30), 3) := zo_167 (d := 255) (e := 226) (zd_b zq_prog_14_method_49_code_1 2 rfl rfl rfl) (zd_b zq_prog_14_method_49_code_1 3 rfl rfl rfl) (zd_b zq_prog_14_method_49_code_1 4 rfl rfl rfl) (by decide +kernel)
theorem d_Mm_inStore_37 : decode prog_14_method_49_code 37 = .ok (.iload_n 1, 1) := zo_27 (zd_b zq_prog_14_method_49_code_1 5 rfl rfl rfl)
theorem d_Mm_inStore_38 : decode prog_14_method_49_code 38 = .ok (.ireturn, 1) := zo_172 (zd_b zq_prog_14_method_49_code_1 6 rfl rfl rfl)
theorem d_Mm_makeCores_30 : decode prog_14_method_50_code 30 = .ok (.iconst 0, 1) := zo_3 (zd_b zq_prog_14_method_50_code_0 30 rfl rfl rfl)
theorem d_Mm_makeCores_38 : decode prog_14_method_50_code 38 = .ok (.aload_n 0, 1) := zo_42 (zd_b zq_prog_14_method_50_code_1 6 rfl rfl rfl)
theorem d_Mm_makeCores_39 : decode prog_14_method_50_code 39 = .ok (.aload_n 0, 1) := zo_42 (zd_b zq_prog_14_method_50_code_1 7 rfl rfl rfl)
theorem d_Mm_makeCores_40 : decode prog_14_method_50_code 40 = .ok (.getfield 58, 3) := zo_180 (d := 0) (e := 58) (zd_b zq_prog_14_method_50_code_1 8 rfl rfl rfl) (zd_b zq_prog_14_method_50_code_1 9 rfl rfl rfl) (zd_b zq_prog_14_method_50_code_1 10 rfl rfl rfl)
theorem d_Mm_makeCores_43 : decode prog_14_method_50_code 43 = .ok (.invokevirtual 208, 3) := zo_182 (d := 0) (e := 208) (zd_b zq_prog_14_method_50_code_1 11 rfl rfl rfl) (zd_b zq_prog_14_method_50_code_1 12 rfl rfl rfl) (zd_b zq_prog_14_method_50_code_1 13 rfl rfl rfl)
theorem ok_Mm_makeCores_AL_size : z_ok M_Mm_makeCores M_AL_size 0 := ⟨z_mj2 (i := 172) rfl (by decide +kernel), rfl, ⟨by decide +kernel, by decide +kernel, by decide +kernel⟩, ⟨by decide, by decide⟩, z_mj1 (i := 13) rfl (by decide +kernel), rfl⟩
theorem d_Mm_makeCores_46 : decode prog_14_method_50_code 46 = .ok (.bipush 20, 2) := zo_16 (d := 20) (zd_b zq_prog_14_method_50_code_1 14 rfl rfl rfl) (zd_b zq_prog_14_method_50_code_1 15 rfl rfl rfl) (by decide +kernel)
theorem d_Mm_makeCores_48 : decode prog_14_method_50_code 48 = .ok (.if_icmp .ne 7, 3) := zo_160 (d := 0) (e := 7) (zd_b zq_prog_14_method_50_code_1 16 rfl rfl rfl) (zd_b zq_prog_14_method_50_code_1 17 rfl rfl rfl) (zd_b zq_prog_14_method_50_code_1 18 rfl rfl rfl) (by decide +kernel)
theorem d_Mm_makeCores_55 : decode prog_14_method_50_code 55 = .ok (.iconst 0, 1) := zo_3 (zd_b zq_prog_14_method_50_code_1 23 rfl rfl rfl)
theorem d_Mm_makeCores_56 : decode prog_14_method_50_code 56 = .ok (.iconst 2, 1) := zo_5 (zd_b zq_prog_14_method_50_code_1 24 rfl rfl rfl)
theorem d_Mm_makeCores_57 : decode prog_14_method_50_code 57 = .ok (.invokevirtual 103, 3) := zo_182 (d := 0) (e := 103) (zd_b zq_prog_14_method_50_code_1 25 rfl rfl rfl) (zd_b zq_prog_14_method_50_code_1 26 rfl rfl rfl) (zd_b zq_prog_14_method_50_code_1 27 rfl rfl rfl)
theorem d_Mm_makeCores_60 : decode prog_14_method_50_code 60 = .ok (.ifCond .eq 5, 3) := zo_153 (d := 0) (e := 5) (zd_b zq_prog_14_method_50_code_1 28 rfl rfl rfl) (zd_b zq_prog_14_method_50_code_1 29 rfl rfl rfl) (zd_b zq_prog_14_method_50_code_1 30 rfl rfl rfl) (by decide +kernel)
theorem d_Mm_makeCores_65 : decode prog_14_method_50_code 65 = .ok (.iconst 2, 1) := zo_5 (zd_b zq_prog_14_method_50_code_2 1 rfl rfl rfl)
theorem d_Mm_makeCores_66 : decode prog_14_method_50_code 66 = .ok (.newarray .int, 2) := by decide +kernel
theorem d_Mm_makeCores_68 : decode prog_14_method_50_code 68 = .ok (.astore_n 3, 1) := zo_78 (zd_b zq_prog_14_method_50_code_2 4 rfl rfl rfl)
theorem d_Mm_makeCores_69 : decode prog_14_method_50_code 69 = .ok (.aload_n 3, 1) := zo_45 (zd_b zq_prog_14_method_50_code_2 5 rfl rfl rfl)
theorem d_Mm_makeCores_70 : decode prog_14_method_50_code 70 = .ok (.iconst 0, 1) := zo_3 (zd_b zq_prog_14_method_50_code_2 6 rfl rfl rfl)
theorem d_Mm_makeCores_71 : decode prog_14_method_50_code 71 = .ok (.iload_n 1, 1) := zo_27 (zd_b zq_prog_14_method_50_code_2 7 rfl rfl rfl)
theorem d_Mm_makeCores_72 : decode prog_14_method_50_code 72 = .ok (.iastore, 1) := zo_79 (zd_b zq_prog_14_method_50_code_2 8 rfl rfl rfl)
theorem d_Mm_makeCores_73 : decode prog_14_method_50_code 73 = .ok (.aload_n 3, 1) := zo_45 (zd_b zq_prog_14_method_50_code_2 9 rfl rfl rfl)
theorem d_Mm_makeCores_74 : decode prog_14_method_50_code 74 = .ok (.iconst 1, 1) := zo_4 (zd_b zq_prog_14_method_50_code_2 10 rfl rfl rfl)
theorem d_Mm_makeCores_75 : decode prog_14_method_50_code 75 = .ok (.aload_n 0, 1) := zo_42 (zd_b zq_prog_14_method_50_code_2 11 rfl rfl rfl)
theorem d_Mm_makeCores_76 : decode prog_14_method_50_code 76 = .ok (.getfield 216, 3) := zo_180 (d := 0) (e := 216) (zd_b zq_prog_14_method_50_code_2 12 rfl rfl rfl) (zd_b zq_prog_14_method_50_code_2 13 rfl rfl rfl) (zd_b zq_prog_14_method_50_code_2 14 rfl rfl rfl)
theorem d_Mm_makeCores_79 : decode prog_14_method_50_code 79 = .ok (.iload_n 2, 1) := zo_28 (zd_b zq_prog_14_method_50_code_2 15 rfl rfl rfl)
theorem d_Mm_makeCores_80 : decode prog_14_method_50_code 80 = .ok (.iadd, 1) := zo_96 (zd_b zq_prog_14_method_50_code_2 16 rfl rfl rfl)
theorem d_Mm_makeCores_81 : decode prog_14_method_50_code 81 = .ok (.iastore, 1) := zo_79 (zd_b zq_prog_14_method_50_code_2 17 rfl rfl rfl)
theorem d_Mm_makeCores_82 : decode prog_14_method_50_code 82 = .ok (.aload_n 0, 1) := zo_42 (zd_b zq_prog_14_method_50_code_2 18 rfl rfl rfl)
theorem d_Mm_makeCores_83 : decode prog_14_method_50_code 83 = .ok (.getfield 58, 3) := zo_180 (d := 0) (e := 58) (zd_b zq_prog_14_method_50_code_2 19 rfl rfl rfl) (zd_b zq_prog_14_method_50_code_2 20 rfl rfl rfl) (zd_b zq_prog_14_method_50_code_2 21 rfl rfl rfl)
theorem d_Mm_makeCores_86 : decode prog_14_method_50_code 86 = .ok (.aload_n 3, 1) := zo_45 (zd_b zq_prog_14_method_50_code_2 22 rfl rfl rfl)
theorem d_Mm_makeCores_87 : decode prog_14_method_50_code 87 = .ok (.invokevirtual 219, 3) := zo_182 (d := 0) (e := 219) (zd_b zq_prog_14_method_50_code_2 23 rfl rfl rfl) (zd_b zq_prog_14_method_50_code_2 24 rfl rfl rfl) (zd_b zq_prog_14_method_50_code_2 25 rfl rfl rfl)
theorem ok_Mm_makeCores_AL_add_0 : z_ok M_Mm_makeCores M_AL_add_0 1 := ⟨z_mj6 (i := 34) rfl (by decide +kernel), rfl, ⟨by decide +kernel, by decide +kernel, by decide +kernel⟩, ⟨by decide, by decide⟩, z_mj1 (i := 13) rfl (by decide +kernel), rfl⟩
theorem ln_Mm_219 : Cond.methodLink "IronpourModel" 219 M_AL_add_0.1 ∈ z_gw := z_mj8 (i := 125) rfl (by decide +kernel)
theorem w_im_AL_add_0 : Cond.instanceMethod M_AL_add_0.1 ∈ z_gw := z_mj6 (i := 32) rfl (by decide +kernel)
theorem w_se_AL_add_0 : Cond.selects M_AL_add_0.1.cls M_AL_add_0.1 M_AL_add_0.1 ∈ z_gw := z_mj6 (i := 33) rfl (by decide +kernel)
theorem d_Mm_makeCores_90 : decode prog_14_method_50_code 90 = .ok (.pop, 1) := zo_87 (zd_b zq_prog_14_method_50_code_2 26 rfl rfl rfl)
theorem d_Mm_makeCores_91 : decode prog_14_method_50_code 91 = .ok (.aload_n 0, 1) := zo_42 (zd_b zq_prog_14_method_50_code_2 27 rfl rfl rfl)
theorem d_Mm_makeCores_92 : decode prog_14_method_50_code 92 = .ok (.invokevirtual 223, 3) := zo_182 (d := 0) (e := 223) (zd_b zq_prog_14_method_50_code_2 28 rfl rfl rfl) (zd_b zq_prog_14_method_50_code_2 29 rfl rfl rfl) (zd_b zq_prog_14_method_50_code_2 30 rfl rfl rfl)
theorem ok_Mm_makeCores_Mm_inStore : z_ok M_Mm_makeCores M_Mm_inStore 0 := ⟨z_mj8 (i := 129) rfl (by decide +kernel), rfl, ⟨by decide +kernel, by decide +kernel, by decide +kernel⟩, ⟨by decide, by decide⟩, z_mj1 (i := 14) rfl (by decide +kernel), rfl⟩
theorem ln_Mm_223 : Cond.methodLink "IronpourModel" 223 M_Mm_inStore.1 ∈ z_gw := z_mj8 (i := 126) rfl (by decide +kernel)
theorem w_im_Mm_inStore : Cond.instanceMethod M_Mm_inStore.1 ∈ z_gw := z_mj8 (i := 128) rfl (by decide +kernel)
theorem w_se_Mm_inStore : Cond.selects M_Mm_inStore.1.cls M_Mm_inStore.1 M_Mm_inStore.1 ∈ z_gw := z_mem (i := 46) (by decide +kernel) (by decide +kernel)
theorem d_Mm_makeCores_95 : decode prog_14_method_50_code 95 = .ok (.ireturn, 1) := zo_172 (zd_b zq_prog_14_method_50_code_2 31 rfl rfl rfl)
end
section
def hdE (gr : Nat → Int64) (e : Nat) (d : Int64) : Nat → Int64 := vp_updL gr e (gr e - gr e / d)
def hdR (gr : Nat → Int64) : Nat → Nat → Int64
  | 0 => gr
  | i + 1 => hdE (hdE (hdE (hdR gr i) 0 2000) 1 4000) 2 4000
abbrev M_Mm_element : zM := (⟨"IronpourModel", "element", "(C)I"⟩, prog_14_method_55_code, 1, (Option.some FieldType.int), 8, 179, [])
theorem d_Mm_element_0 : decode prog_14_method_55_code 0 = .ok (.ldc 232, 2) := zo_18 (d := 232) (zd_b zq_prog_14_method_55_code_0 0 rfl rfl rfl) (zd_b zq_prog_14_method_55_code_0 1 rfl rfl rfl)
theorem d_Mm_element_2 : decode prog_14_method_55_code 2 = .ok (.iload_n 0, 1) := zo_26 (zd_b zq_prog_14_method_55_code_0 2 rfl rfl rfl)
theorem d_Mm_element_3 : decode prog_14_method_55_code 3 = .ok (.invokevirtual 97, 3) := zo_182 (d := 0) (e := 97) (zd_b zq_prog_14_method_55_code_0 3 rfl rfl rfl) (zd_b zq_prog_14_method_55_code_0 4 rfl rfl rfl) (zd_b zq_prog_14_method_55_code_0 5 rfl rfl rfl)
theorem ok_Mm_element_String_indexOf_0 : z_ok M_Mm_element M_String_indexOf_0 1 := ⟨z_mj3 (i := 58) rfl (by decide +kernel), rfl, ⟨by decide +kernel, by decide +kernel, by decide +kernel⟩, ⟨by decide, by decide⟩, z_mj1 (i := 15) rfl (by decide +kernel), rfl⟩
theorem d_Mm_element_6 : decode prog_14_method_55_code 6 = .ok (.ireturn, 1) := zo_172 (zd_b zq_prog_14_method_55_code_0 6 rfl rfl rfl)
set_option maxHeartbeats 4000000 in
set_option maxRecDepth 100000 in
theorem C_Mm_element (g : zG) (k : Int32) : CT g M_Mm_element [.int k] [] (fun o cs1 => o = .inl (some (.int (z_ix 2 k))) ∧ cs1 = []) 0 0 := by
  refine z_of (by decide) rfl (Nat.le_of_ble_eq_true rfl) (fun w0 => ?_)
  refine r_lvE (lv2 := [(0, .int k)]) rfl ?_
  refine r_ldcS (own := "IronpourModel") (i := 2) (by decide) d_Mm_element_0 ?_
  refine r_iload_n d_Mm_element_2 rfl 0 rfl ?_
  refine r_callVS (As := [.int k]) (rest := []) (csC := []) (is := []) (i := 2) (by first | assumption | decide) rfl ln_Mm_97 w_im_String_indexOf_0 w_se_String_indexOf_0 ok_Mm_element_String_indexOf_0 d_Mm_element_3 (C_St_indexOf g 2 (by decide) k) rfl rfl (Nat.le_of_ble_eq_true rfl) rfl (by decide) (by omega) (by omega) (fun E cs1 hx => ?_) (fun v cs1 hx => ?_)
  · exact absurd hx.1 (by simp)
  · obtain ⟨e1, rfl⟩ := hx
    cases e1
    refine ⟨rfl, ?_⟩
    refine r_st (st2 := [.int (z_ix 2 k)]) rfl ?_
    refine r_cs (cs2 := []) rfl ?_
    refine r_iret d_Mm_element_6 rfl rfl ?_
    exact ⟨rfl, rfl⟩
abbrev M_Mm_place : zM := (⟨"IronpourModel", "place", "(C)I"⟩, prog_14_method_67_code, 1, (Option.some FieldType.int), 1, 20, [])
theorem d_Mm_place_0 : decode prog_14_method_67_code 0 = .ok (.iload_n 0, 1) := zo_26 (zd_b zq_prog_14_method_67_code_0 0 rfl rfl rfl)
theorem d_Mm_place_1 : decode prog_14_method_67_code 1 = .ok (.bipush 103, 2) := zo_16 (d := 103) (zd_b zq_prog_14_method_67_code_0 1 rfl rfl rfl) (zd_b zq_prog_14_method_67_code_0 2 rfl rfl rfl) (by decide +kernel)
theorem d_Mm_place_3 : decode prog_14_method_67_code 3 = .ok (.if_icmp .ne 7, 3) := zo_160 (d := 0) (e := 7) (zd_b zq_prog_14_method_67_code_0 3 rfl rfl rfl) (zd_b zq_prog_14_method_67_code_0 4 rfl rfl rfl) (zd_b zq_prog_14_method_67_code_0 5 rfl rfl rfl) (by decide +kernel)
theorem d_Mm_place_6 : decode prog_14_method_67_code 6 = .ok (.iconst 2, 1) := zo_5 (zd_b zq_prog_14_method_67_code_0 6 rfl rfl rfl)
theorem d_Mm_place_7 : decode prog_14_method_67_code 7 = .ok (.goto 14, 3) := zo_167 (d := 0) (e := 14) (zd_b zq_prog_14_method_67_code_0 7 rfl rfl rfl) (zd_b zq_prog_14_method_67_code_0 8 rfl rfl rfl) (zd_b zq_prog_14_method_67_code_0 9 rfl rfl rfl) (by decide +kernel)
theorem d_Mm_place_21 : decode prog_14_method_67_code 21 = .ok (.ireturn, 1) := zo_172 (zd_b zq_prog_14_method_67_code_0 21 rfl rfl rfl)
set_option maxHeartbeats 4000000 in
set_option maxRecDepth 100000 in
theorem C_Mm_placeG (g : zG)  : CT g M_Mm_place [.int 103] [] (fun o cs1 => o = .inl (some (.int 2)) ∧ cs1 = []) 0 0 := by
  refine z_of (by decide) rfl (Nat.le_of_ble_eq_true rfl) (fun w0 => ?_)
  refine r_lvE (lv2 := [(0, .int 103)]) rfl ?_
  refine r_iload_n d_Mm_place_0 rfl 0 rfl ?_
  refine r_bipush d_Mm_place_1 (v := 103) (by decide) ?_
  refine r_icmp_ne (tgt := 10) d_Mm_place_3 (by decide) (fun c_3 => ?_) (fun c_3 => ?_)
  · exact absurd c_3 (by decide)
  · refine r_iconst d_Mm_place_6 (v := 2) (by decide) ?_
    refine r_goto (tgt := 21) d_Mm_place_7 (by decide) ?_
    refine r_iret d_Mm_place_21 rfl rfl ?_
    exact ⟨rfl, rfl⟩
theorem d_Mm_place_10 : decode prog_14_method_67_code 10 = .ok (.iload_n 0, 1) := zo_26 (zd_b zq_prog_14_method_67_code_0 10 rfl rfl rfl)
theorem d_Mm_place_11 : decode prog_14_method_67_code 11 = .ok (.bipush 100, 2) := zo_16 (d := 100) (zd_b zq_prog_14_method_67_code_0 11 rfl rfl rfl) (zd_b zq_prog_14_method_67_code_0 12 rfl rfl rfl) (by decide +kernel)
theorem d_Mm_place_13 : decode prog_14_method_67_code 13 = .ok (.if_icmp .ne 7, 3) := zo_160 (d := 0) (e := 7) (zd_b zq_prog_14_method_67_code_0 13 rfl rfl rfl) (zd_b zq_prog_14_method_67_code_0 14 rfl rfl rfl) (zd_b zq_prog_14_method_67_code_0 15 rfl rfl rfl) (by decide +kernel)
theorem d_Mm_place_16 : decode prog_14_method_67_code 16 = .ok (.iconst 3, 1) := zo_6 (zd_b zq_prog_14_method_67_code_0 16 rfl rfl rfl)
theorem d_Mm_place_17 : decode prog_14_method_67_code 17 = .ok (.goto 4, 3) := zo_167 (d := 0) (e := 4) (zd_b zq_prog_14_method_67_code_0 17 rfl rfl rfl) (zd_b zq_prog_14_method_67_code_0 18 rfl rfl rfl) (zd_b zq_prog_14_method_67_code_0 19 rfl rfl rfl) (by decide +kernel)
set_option maxHeartbeats 4000000 in
set_option maxRecDepth 100000 in
theorem C_Mm_placeD (g : zG)  : CT g M_Mm_place [.int 100] [] (fun o cs1 => o = .inl (some (.int 3)) ∧ cs1 = []) 0 0 := by
  refine z_of (by decide) rfl (Nat.le_of_ble_eq_true rfl) (fun w0 => ?_)
  refine r_lvE (lv2 := [(0, .int 100)]) rfl ?_
  refine r_iload_n d_Mm_place_0 rfl 0 rfl ?_
  refine r_bipush d_Mm_place_1 (v := 103) (by decide) ?_
  refine r_icmp_ne (tgt := 10) d_Mm_place_3 (by decide) (fun c_3 => ?_) (fun c_3 => ?_)
  · refine r_iload_n d_Mm_place_10 rfl 0 rfl ?_
    refine r_bipush d_Mm_place_11 (v := 100) (by decide) ?_
    refine r_icmp_ne (tgt := 20) d_Mm_place_13 (by decide) (fun c_13 => ?_) (fun c_13 => ?_)
    · exact absurd c_13 (by decide)
    · refine r_iconst d_Mm_place_16 (v := 3) (by decide) ?_
      refine r_goto (tgt := 21) d_Mm_place_17 (by decide) ?_
      refine r_iret d_Mm_place_21 rfl rfl ?_
      exact ⟨rfl, rfl⟩
  · exact absurd c_3 (by decide)
theorem d_Mm_place_20 : decode prog_14_method_67_code 20 = .ok (.iconst (-1), 1) := zo_2 (zd_b zq_prog_14_method_67_code_0 20 rfl rfl rfl)
set_option maxHeartbeats 4000000 in
set_option maxRecDepth 100000 in
theorem C_Mm_placeO (g : zG) (k : Int32) (h1 : ¬ k = 103) (h2 : ¬ k = 100) : CT g M_Mm_place [.int k] [] (fun o cs1 => o = .inl (some (.int (-1))) ∧ cs1 = []) 0 0 := by
  refine z_of (by decide) rfl (Nat.le_of_ble_eq_true rfl) (fun w0 => ?_)
  refine r_lvE (lv2 := [(0, .int k)]) rfl ?_
  refine r_iload_n d_Mm_place_0 rfl 0 rfl ?_
  refine r_bipush d_Mm_place_1 (v := 103) (by decide) ?_
  refine r_icmp_ne (tgt := 10) d_Mm_place_3 (by decide) (fun c_3 => ?_) (fun c_3 => ?_)
  · refine r_iload_n d_Mm_place_10 rfl 0 rfl ?_
    refine r_bipush d_Mm_place_11 (v := 100) (by decide) ?_
    refine r_icmp_ne (tgt := 20) d_Mm_place_13 (by decide) (fun c_13 => ?_) (fun c_13 => ?_)
    · refine r_iconst d_Mm_place_20 (v := (-1)) (by decide) ?_
      refine r_iret d_Mm_place_21 rfl rfl ?_
      exact ⟨rfl, rfl⟩
    · exact absurd c_13 h2
  · exact absurd c_3 h1
abbrev M_Mm_tenths : zM := (⟨"IronpourModel", "tenths", "(CI)I"⟩, prog_14_method_56_code, 2, (Option.some FieldType.int), 1, 20, [])
theorem d_Mm_tenths_0 : decode prog_14_method_56_code 0 = .ok (.iload_n 0, 1) := zo_26 (zd_b zq_prog_14_method_56_code_0 0 rfl rfl rfl)
theorem d_Mm_tenths_1 : decode prog_14_method_56_code 1 = .ok (.lookupswitch 120 #[(102, 99), (112, 35), (115, 68)], 35) := by decide +kernel
theorem d_Mm_tenths_36 : decode prog_14_method_56_code 36 = .ok (.iload_n 1, 1) := zo_27 (zd_b zq_prog_14_method_56_code_1 4 rfl rfl rfl)
theorem d_Mm_tenths_37 : decode prog_14_method_56_code 37 = .ok (.ifCond .ne 9, 3) := zo_154 (d := 0) (e := 9) (zd_b zq_prog_14_method_56_code_1 5 rfl rfl rfl) (zd_b zq_prog_14_method_56_code_1 6 rfl rfl rfl) (zd_b zq_prog_14_method_56_code_1 7 rfl rfl rfl) (by decide +kernel)
theorem d_Mm_tenths_40 : decode prog_14_method_56_code 40 = .ok (.sipush 420, 3) := zo_17 (d := 1) (e := 164) (zd_b zq_prog_14_method_56_code_1 8 rfl rfl rfl) (zd_b zq_prog_14_method_56_code_1 9 rfl rfl rfl) (zd_b zq_prog_14_method_56_code_1 10 rfl rfl rfl) (by decide +kernel)
theorem d_Mm_tenths_43 : decode prog_14_method_56_code 43 = .ok (.goto 25, 3) := zo_167 (d := 0) (e := 25) (zd_b zq_prog_14_method_56_code_1 11 rfl rfl rfl) (zd_b zq_prog_14_method_56_code_1 12 rfl rfl rfl) (zd_b zq_prog_14_method_56_code_1 13 rfl rfl rfl) (by decide +kernel)
theorem d_Mm_tenths_68 : decode prog_14_method_56_code 68 = .ok (.ireturn, 1) := zo_172 (zd_b zq_prog_14_method_56_code_2 4 rfl rfl rfl)
set_option maxHeartbeats 4000000 in
set_option maxRecDepth 100000 in
theorem C_Mm_tenths112_0 (g : zG)  : CT g M_Mm_tenths [.int 112, .int 0] [] (fun o cs1 => o = .inl (some (.int 420)) ∧ cs1 = []) 0 0 := by
  refine z_of (by decide) rfl (Nat.le_of_ble_eq_true rfl) (fun w0 => ?_)
  refine r_lvE (lv2 := [(0, .int 112), (1, .int 0)]) rfl ?_
  refine r_iload_n d_Mm_tenths_0 rfl 0 rfl ?_
  · refine r_lookup (off := 35) (tgt := 36) d_Mm_tenths_1 (by decide) (by decide) (by decide) ?_
    refine r_iload_n d_Mm_tenths_36 rfl 1 rfl ?_
    refine r_if_ne (tgt := 46) d_Mm_tenths_37 (by decide) (fun c_37 => ?_) (fun c_37 => ?_)
    · exact absurd c_37 (by decide)
    · refine r_sipush d_Mm_tenths_40 (v := 420) (by decide) ?_
      refine r_goto (tgt := 68) d_Mm_tenths_43 (by decide) ?_
      refine r_iret d_Mm_tenths_68 rfl rfl ?_
      exact ⟨rfl, rfl⟩
theorem d_Mm_tenths_46 : decode prog_14_method_56_code 46 = .ok (.iload_n 1, 1) := zo_27 (zd_b zq_prog_14_method_56_code_1 14 rfl rfl rfl)
theorem d_Mm_tenths_47 : decode prog_14_method_56_code 47 = .ok (.iconst 1, 1) := zo_4 (zd_b zq_prog_14_method_56_code_1 15 rfl rfl rfl)
theorem d_Mm_tenths_48 : decode prog_14_method_56_code 48 = .ok (.if_icmp .ne 8, 3) := zo_160 (d := 0) (e := 8) (zd_b zq_prog_14_method_56_code_1 16 rfl rfl rfl) (zd_b zq_prog_14_method_56_code_1 17 rfl rfl rfl) (zd_b zq_prog_14_method_56_code_1 18 rfl rfl rfl) (by decide +kernel)
theorem d_Mm_tenths_51 : decode prog_14_method_56_code 51 = .ok (.bipush 100, 2) := zo_16 (d := 100) (zd_b zq_prog_14_method_56_code_1 19 rfl rfl rfl) (zd_b zq_prog_14_method_56_code_1 20 rfl rfl rfl) (by decide +kernel)
theorem d_Mm_tenths_53 : decode prog_14_method_56_code 53 = .ok (.goto 15, 3) := zo_167 (d := 0) (e := 15) (zd_b zq_prog_14_method_56_code_1 21 rfl rfl rfl) (zd_b zq_prog_14_method_56_code_1 22 rfl rfl rfl) (zd_b zq_prog_14_method_56_code_1 23 rfl rfl rfl) (by decide +kernel)
set_option maxHeartbeats 4000000 in
set_option maxRecDepth 100000 in
theorem C_Mm_tenths112_1 (g : zG)  : CT g M_Mm_tenths [.int 112, .int 1] [] (fun o cs1 => o = .inl (some (.int 100)) ∧ cs1 = []) 0 0 := by
  refine z_of (by decide) rfl (Nat.le_of_ble_eq_true rfl) (fun w0 => ?_)
  refine r_lvE (lv2 := [(0, .int 112), (1, .int 1)]) rfl ?_
  refine r_iload_n d_Mm_tenths_0 rfl 0 rfl ?_
  · refine r_lookup (off := 35) (tgt := 36) d_Mm_tenths_1 (by decide) (by decide) (by decide) ?_
    refine r_iload_n d_Mm_tenths_36 rfl 1 rfl ?_
    refine r_if_ne (tgt := 46) d_Mm_tenths_37 (by decide) (fun c_37 => ?_) (fun c_37 => ?_)
    · refine r_iload_n d_Mm_tenths_46 rfl 1 rfl ?_
      refine r_iconst d_Mm_tenths_47 (v := 1) (by decide) ?_
      refine r_icmp_ne (tgt := 56) d_Mm_tenths_48 (by decide) (fun c_48 => ?_) (fun c_48 => ?_)
      · exact absurd c_48 (by decide)
      · refine r_bipush d_Mm_tenths_51 (v := 100) (by decide) ?_
        refine r_goto (tgt := 68) d_Mm_tenths_53 (by decide) ?_
        refine r_iret d_Mm_tenths_68 rfl rfl ?_
        exact ⟨rfl, rfl⟩
    · exact absurd c_37 (by decide)
theorem d_Mm_tenths_56 : decode prog_14_method_56_code 56 = .ok (.iload_n 1, 1) := zo_27 (zd_b zq_prog_14_method_56_code_1 24 rfl rfl rfl)
theorem d_Mm_tenths_57 : decode prog_14_method_56_code 57 = .ok (.iconst 2, 1) := zo_5 (zd_b zq_prog_14_method_56_code_1 25 rfl rfl rfl)
theorem d_Mm_tenths_58 : decode prog_14_method_56_code 58 = .ok (.if_icmp .ne 8, 3) := zo_160 (d := 0) (e := 8) (zd_b zq_prog_14_method_56_code_1 26 rfl rfl rfl) (zd_b zq_prog_14_method_56_code_1 27 rfl rfl rfl) (zd_b zq_prog_14_method_56_code_1 28 rfl rfl rfl) (by decide +kernel)
theorem d_Mm_tenths_61 : decode prog_14_method_56_code 61 = .ok (.bipush 50, 2) := zo_16 (d := 50) (zd_b zq_prog_14_method_56_code_1 29 rfl rfl rfl) (zd_b zq_prog_14_method_56_code_1 30 rfl rfl rfl) (by decide +kernel)
theorem d_Mm_tenths_63 : decode prog_14_method_56_code 63 = .ok (.goto 5, 3) := zo_167 (d := 0) (e := 5) (zd_b zq_prog_14_method_56_code_1 31 rfl rfl rfl) (zd_b zq_prog_14_method_56_code_2 0 rfl rfl rfl) (zd_b zq_prog_14_method_56_code_2 1 rfl rfl rfl) (by decide +kernel)
set_option maxHeartbeats 4000000 in
set_option maxRecDepth 100000 in
theorem C_Mm_tenths112_2 (g : zG)  : CT g M_Mm_tenths [.int 112, .int 2] [] (fun o cs1 => o = .inl (some (.int 50)) ∧ cs1 = []) 0 0 := by
  refine z_of (by decide) rfl (Nat.le_of_ble_eq_true rfl) (fun w0 => ?_)
  refine r_lvE (lv2 := [(0, .int 112), (1, .int 2)]) rfl ?_
  refine r_iload_n d_Mm_tenths_0 rfl 0 rfl ?_
  · refine r_lookup (off := 35) (tgt := 36) d_Mm_tenths_1 (by decide) (by decide) (by decide) ?_
    refine r_iload_n d_Mm_tenths_36 rfl 1 rfl ?_
    refine r_if_ne (tgt := 46) d_Mm_tenths_37 (by decide) (fun c_37 => ?_) (fun c_37 => ?_)
    · refine r_iload_n d_Mm_tenths_46 rfl 1 rfl ?_
      refine r_iconst d_Mm_tenths_47 (v := 1) (by decide) ?_
      refine r_icmp_ne (tgt := 56) d_Mm_tenths_48 (by decide) (fun c_48 => ?_) (fun c_48 => ?_)
      · refine r_iload_n d_Mm_tenths_56 rfl 1 rfl ?_
        refine r_iconst d_Mm_tenths_57 (v := 2) (by decide) ?_
        refine r_icmp_ne (tgt := 66) d_Mm_tenths_58 (by decide) (fun c_58 => ?_) (fun c_58 => ?_)
        · exact absurd c_58 (by decide)
        · refine r_bipush d_Mm_tenths_61 (v := 50) (by decide) ?_
          refine r_goto (tgt := 68) d_Mm_tenths_63 (by decide) ?_
          refine r_iret d_Mm_tenths_68 rfl rfl ?_
          exact ⟨rfl, rfl⟩
      · exact absurd c_48 (by decide)
    · exact absurd c_37 (by decide)
theorem d_Mm_tenths_66 : decode prog_14_method_56_code 66 = .ok (.bipush 8, 2) := zo_16 (d := 8) (zd_b zq_prog_14_method_56_code_2 2 rfl rfl rfl) (zd_b zq_prog_14_method_56_code_2 3 rfl rfl rfl) (by decide +kernel)
set_option maxHeartbeats 4000000 in
set_option maxRecDepth 100000 in
theorem C_Mm_tenths112_3 (g : zG)  : CT g M_Mm_tenths [.int 112, .int 3] [] (fun o cs1 => o = .inl (some (.int 8)) ∧ cs1 = []) 0 0 := by
  refine z_of (by decide) rfl (Nat.le_of_ble_eq_true rfl) (fun w0 => ?_)
  refine r_lvE (lv2 := [(0, .int 112), (1, .int 3)]) rfl ?_
  refine r_iload_n d_Mm_tenths_0 rfl 0 rfl ?_
  · refine r_lookup (off := 35) (tgt := 36) d_Mm_tenths_1 (by decide) (by decide) (by decide) ?_
    refine r_iload_n d_Mm_tenths_36 rfl 1 rfl ?_
    refine r_if_ne (tgt := 46) d_Mm_tenths_37 (by decide) (fun c_37 => ?_) (fun c_37 => ?_)
    · refine r_iload_n d_Mm_tenths_46 rfl 1 rfl ?_
      refine r_iconst d_Mm_tenths_47 (v := 1) (by decide) ?_
      refine r_icmp_ne (tgt := 56) d_Mm_tenths_48 (by decide) (fun c_48 => ?_) (fun c_48 => ?_)
      · refine r_iload_n d_Mm_tenths_56 rfl 1 rfl ?_
        refine r_iconst d_Mm_tenths_57 (v := 2) (by decide) ?_
        refine r_icmp_ne (tgt := 66) d_Mm_tenths_58 (by decide) (fun c_58 => ?_) (fun c_58 => ?_)
        · refine r_bipush d_Mm_tenths_66 (v := 8) (by decide) ?_
          refine r_iret d_Mm_tenths_68 rfl rfl ?_
          exact ⟨rfl, rfl⟩
        · exact absurd c_58 (by decide)
      · exact absurd c_48 (by decide)
    · exact absurd c_37 (by decide)
theorem d_Mm_tenths_69 : decode prog_14_method_56_code 69 = .ok (.iload_n 1, 1) := zo_27 (zd_b zq_prog_14_method_56_code_2 5 rfl rfl rfl)
theorem d_Mm_tenths_70 : decode prog_14_method_56_code 70 = .ok (.ifCond .ne 8, 3) := zo_154 (d := 0) (e := 8) (zd_b zq_prog_14_method_56_code_2 6 rfl rfl rfl) (zd_b zq_prog_14_method_56_code_2 7 rfl rfl rfl) (zd_b zq_prog_14_method_56_code_2 8 rfl rfl rfl) (by decide +kernel)
theorem d_Mm_tenths_73 : decode prog_14_method_56_code 73 = .ok (.bipush 20, 2) := zo_16 (d := 20) (zd_b zq_prog_14_method_56_code_2 9 rfl rfl rfl) (zd_b zq_prog_14_method_56_code_2 10 rfl rfl rfl) (by decide +kernel)
theorem d_Mm_tenths_75 : decode prog_14_method_56_code 75 = .ok (.goto 24, 3) := zo_167 (d := 0) (e := 24) (zd_b zq_prog_14_method_56_code_2 11 rfl rfl rfl) (zd_b zq_prog_14_method_56_code_2 12 rfl rfl rfl) (zd_b zq_prog_14_method_56_code_2 13 rfl rfl rfl) (by decide +kernel)
theorem d_Mm_tenths_99 : decode prog_14_method_56_code 99 = .ok (.ireturn, 1) := zo_172 (zd_b zq_prog_14_method_56_code_3 3 rfl rfl rfl)
set_option maxHeartbeats 4000000 in
set_option maxRecDepth 100000 in
theorem C_Mm_tenths115_0 (g : zG)  : CT g M_Mm_tenths [.int 115, .int 0] [] (fun o cs1 => o = .inl (some (.int 20)) ∧ cs1 = []) 0 0 := by
  refine z_of (by decide) rfl (Nat.le_of_ble_eq_true rfl) (fun w0 => ?_)
  refine r_lvE (lv2 := [(0, .int 115), (1, .int 0)]) rfl ?_
  refine r_iload_n d_Mm_tenths_0 rfl 0 rfl ?_
  · refine r_lookup (off := 68) (tgt := 69) d_Mm_tenths_1 (by decide) (by decide) (by decide) ?_
    refine r_iload_n d_Mm_tenths_69 rfl 1 rfl ?_
    refine r_if_ne (tgt := 78) d_Mm_tenths_70 (by decide) (fun c_70 => ?_) (fun c_70 => ?_)
    · exact absurd c_70 (by decide)
    · refine r_bipush d_Mm_tenths_73 (v := 20) (by decide) ?_
      refine r_goto (tgt := 99) d_Mm_tenths_75 (by decide) ?_
      refine r_iret d_Mm_tenths_99 rfl rfl ?_
      exact ⟨rfl, rfl⟩
theorem d_Mm_tenths_78 : decode prog_14_method_56_code 78 = .ok (.iload_n 1, 1) := zo_27 (zd_b zq_prog_14_method_56_code_2 14 rfl rfl rfl)
theorem d_Mm_tenths_79 : decode prog_14_method_56_code 79 = .ok (.iconst 1, 1) := zo_4 (zd_b zq_prog_14_method_56_code_2 15 rfl rfl rfl)
theorem d_Mm_tenths_80 : decode prog_14_method_56_code 80 = .ok (.if_icmp .ne 8, 3) := zo_160 (d := 0) (e := 8) (zd_b zq_prog_14_method_56_code_2 16 rfl rfl rfl) (zd_b zq_prog_14_method_56_code_2 17 rfl rfl rfl) (zd_b zq_prog_14_method_56_code_2 18 rfl rfl rfl) (by decide +kernel)
theorem d_Mm_tenths_83 : decode prog_14_method_56_code 83 = .ok (.bipush 30, 2) := zo_16 (d := 30) (zd_b zq_prog_14_method_56_code_2 19 rfl rfl rfl) (zd_b zq_prog_14_method_56_code_2 20 rfl rfl rfl) (by decide +kernel)
theorem d_Mm_tenths_85 : decode prog_14_method_56_code 85 = .ok (.goto 14, 3) := zo_167 (d := 0) (e := 14) (zd_b zq_prog_14_method_56_code_2 21 rfl rfl rfl) (zd_b zq_prog_14_method_56_code_2 22 rfl rfl rfl) (zd_b zq_prog_14_method_56_code_2 23 rfl rfl rfl) (by decide +kernel)
set_option maxHeartbeats 4000000 in
set_option maxRecDepth 100000 in
theorem C_Mm_tenths115_1 (g : zG)  : CT g M_Mm_tenths [.int 115, .int 1] [] (fun o cs1 => o = .inl (some (.int 30)) ∧ cs1 = []) 0 0 := by
  refine z_of (by decide) rfl (Nat.le_of_ble_eq_true rfl) (fun w0 => ?_)
  refine r_lvE (lv2 := [(0, .int 115), (1, .int 1)]) rfl ?_
  refine r_iload_n d_Mm_tenths_0 rfl 0 rfl ?_
  · refine r_lookup (off := 68) (tgt := 69) d_Mm_tenths_1 (by decide) (by decide) (by decide) ?_
    refine r_iload_n d_Mm_tenths_69 rfl 1 rfl ?_
    refine r_if_ne (tgt := 78) d_Mm_tenths_70 (by decide) (fun c_70 => ?_) (fun c_70 => ?_)
    · refine r_iload_n d_Mm_tenths_78 rfl 1 rfl ?_
      refine r_iconst d_Mm_tenths_79 (v := 1) (by decide) ?_
      refine r_icmp_ne (tgt := 88) d_Mm_tenths_80 (by decide) (fun c_80 => ?_) (fun c_80 => ?_)
      · exact absurd c_80 (by decide)
      · refine r_bipush d_Mm_tenths_83 (v := 30) (by decide) ?_
        refine r_goto (tgt := 99) d_Mm_tenths_85 (by decide) ?_
        refine r_iret d_Mm_tenths_99 rfl rfl ?_
        exact ⟨rfl, rfl⟩
    · exact absurd c_70 (by decide)
theorem d_Mm_tenths_88 : decode prog_14_method_56_code 88 = .ok (.iload_n 1, 1) := zo_27 (zd_b zq_prog_14_method_56_code_2 24 rfl rfl rfl)
theorem d_Mm_tenths_89 : decode prog_14_method_56_code 89 = .ok (.iconst 2, 1) := zo_5 (zd_b zq_prog_14_method_56_code_2 25 rfl rfl rfl)
theorem d_Mm_tenths_90 : decode prog_14_method_56_code 90 = .ok (.if_icmp .ne 8, 3) := zo_160 (d := 0) (e := 8) (zd_b zq_prog_14_method_56_code_2 26 rfl rfl rfl) (zd_b zq_prog_14_method_56_code_2 27 rfl rfl rfl) (zd_b zq_prog_14_method_56_code_2 28 rfl rfl rfl) (by decide +kernel)
theorem d_Mm_tenths_93 : decode prog_14_method_56_code 93 = .ok (.bipush 80, 2) := zo_16 (d := 80) (zd_b zq_prog_14_method_56_code_2 29 rfl rfl rfl) (zd_b zq_prog_14_method_56_code_2 30 rfl rfl rfl) (by decide +kernel)
theorem d_Mm_tenths_95 : decode prog_14_method_56_code 95 = .ok (.goto 4, 3) := zo_167 (d := 0) (e := 4) (zd_b zq_prog_14_method_56_code_2 31 rfl rfl rfl) (zd_b zq_prog_14_method_56_code_3 0 rfl rfl rfl) (zd_b zq_prog_14_method_56_code_3 1 rfl rfl rfl) (by decide +kernel)
set_option maxHeartbeats 4000000 in
set_option maxRecDepth 100000 in
theorem C_Mm_tenths115_2 (g : zG)  : CT g M_Mm_tenths [.int 115, .int 2] [] (fun o cs1 => o = .inl (some (.int 80)) ∧ cs1 = []) 0 0 := by
  refine z_of (by decide) rfl (Nat.le_of_ble_eq_true rfl) (fun w0 => ?_)
  refine r_lvE (lv2 := [(0, .int 115), (1, .int 2)]) rfl ?_
  refine r_iload_n d_Mm_tenths_0 rfl 0 rfl ?_
  · refine r_lookup (off := 68) (tgt := 69) d_Mm_tenths_1 (by decide) (by decide) (by decide) ?_
    refine r_iload_n d_Mm_tenths_69 rfl 1 rfl ?_
    refine r_if_ne (tgt := 78) d_Mm_tenths_70 (by decide) (fun c_70 => ?_) (fun c_70 => ?_)
    · refine r_iload_n d_Mm_tenths_78 rfl 1 rfl ?_
      refine r_iconst d_Mm_tenths_79 (v := 1) (by decide) ?_
      refine r_icmp_ne (tgt := 88) d_Mm_tenths_80 (by decide) (fun c_80 => ?_) (fun c_80 => ?_)
      · refine r_iload_n d_Mm_tenths_88 rfl 1 rfl ?_
        refine r_iconst d_Mm_tenths_89 (v := 2) (by decide) ?_
        refine r_icmp_ne (tgt := 98) d_Mm_tenths_90 (by decide) (fun c_90 => ?_) (fun c_90 => ?_)
        · exact absurd c_90 (by decide)
        · refine r_bipush d_Mm_tenths_93 (v := 80) (by decide) ?_
          refine r_goto (tgt := 99) d_Mm_tenths_95 (by decide) ?_
          refine r_iret d_Mm_tenths_99 rfl rfl ?_
          exact ⟨rfl, rfl⟩
      · exact absurd c_80 (by decide)
    · exact absurd c_70 (by decide)
theorem d_Mm_tenths_98 : decode prog_14_method_56_code 98 = .ok (.iconst 2, 1) := zo_5 (zd_b zq_prog_14_method_56_code_3 2 rfl rfl rfl)
set_option maxHeartbeats 4000000 in
set_option maxRecDepth 100000 in
theorem C_Mm_tenths115_3 (g : zG)  : CT g M_Mm_tenths [.int 115, .int 3] [] (fun o cs1 => o = .inl (some (.int 2)) ∧ cs1 = []) 0 0 := by
  refine z_of (by decide) rfl (Nat.le_of_ble_eq_true rfl) (fun w0 => ?_)
  refine r_lvE (lv2 := [(0, .int 115), (1, .int 3)]) rfl ?_
  refine r_iload_n d_Mm_tenths_0 rfl 0 rfl ?_
  · refine r_lookup (off := 68) (tgt := 69) d_Mm_tenths_1 (by decide) (by decide) (by decide) ?_
    refine r_iload_n d_Mm_tenths_69 rfl 1 rfl ?_
    refine r_if_ne (tgt := 78) d_Mm_tenths_70 (by decide) (fun c_70 => ?_) (fun c_70 => ?_)
    · refine r_iload_n d_Mm_tenths_78 rfl 1 rfl ?_
      refine r_iconst d_Mm_tenths_79 (v := 1) (by decide) ?_
      refine r_icmp_ne (tgt := 88) d_Mm_tenths_80 (by decide) (fun c_80 => ?_) (fun c_80 => ?_)
      · refine r_iload_n d_Mm_tenths_88 rfl 1 rfl ?_
        refine r_iconst d_Mm_tenths_89 (v := 2) (by decide) ?_
        refine r_icmp_ne (tgt := 98) d_Mm_tenths_90 (by decide) (fun c_90 => ?_) (fun c_90 => ?_)
        · refine r_iconst d_Mm_tenths_98 (v := 2) (by decide) ?_
          refine r_iret d_Mm_tenths_99 rfl rfl ?_
          exact ⟨rfl, rfl⟩
        · exact absurd c_90 (by decide)
      · exact absurd c_80 (by decide)
    · exact absurd c_70 (by decide)
theorem d_Mm_tenths_100 : decode prog_14_method_56_code 100 = .ok (.iload_n 1, 1) := zo_27 (zd_b zq_prog_14_method_56_code_3 4 rfl rfl rfl)
theorem d_Mm_tenths_101 : decode prog_14_method_56_code 101 = .ok (.ifCond .ne 7, 3) := zo_154 (d := 0) (e := 7) (zd_b zq_prog_14_method_56_code_3 5 rfl rfl rfl) (zd_b zq_prog_14_method_56_code_3 6 rfl rfl rfl) (zd_b zq_prog_14_method_56_code_3 7 rfl rfl rfl) (by decide +kernel)
theorem d_Mm_tenths_104 : decode prog_14_method_56_code 104 = .ok (.iconst 1, 1) := zo_4 (zd_b zq_prog_14_method_56_code_3 8 rfl rfl rfl)
theorem d_Mm_tenths_105 : decode prog_14_method_56_code 105 = .ok (.goto 15, 3) := zo_167 (d := 0) (e := 15) (zd_b zq_prog_14_method_56_code_3 9 rfl rfl rfl) (zd_b zq_prog_14_method_56_code_3 10 rfl rfl rfl) (zd_b zq_prog_14_method_56_code_3 11 rfl rfl rfl) (by decide +kernel)
theorem d_Mm_tenths_120 : decode prog_14_method_56_code 120 = .ok (.ireturn, 1) := zo_172 (zd_b zq_prog_14_method_56_code_3 24 rfl rfl rfl)
set_option maxHeartbeats 4000000 in
set_option maxRecDepth 100000 in
theorem C_Mm_tenths102_0 (g : zG)  : CT g M_Mm_tenths [.int 102, .int 0] [] (fun o cs1 => o = .inl (some (.int 1)) ∧ cs1 = []) 0 0 := by
  refine z_of (by decide) rfl (Nat.le_of_ble_eq_true rfl) (fun w0 => ?_)
  refine r_lvE (lv2 := [(0, .int 102), (1, .int 0)]) rfl ?_
  refine r_iload_n d_Mm_tenths_0 rfl 0 rfl ?_
  · refine r_lookup (off := 99) (tgt := 100) d_Mm_tenths_1 (by decide) (by decide) (by decide) ?_
    refine r_iload_n d_Mm_tenths_100 rfl 1 rfl ?_
    refine r_if_ne (tgt := 108) d_Mm_tenths_101 (by decide) (fun c_101 => ?_) (fun c_101 => ?_)
    · exact absurd c_101 (by decide)
    · refine r_iconst d_Mm_tenths_104 (v := 1) (by decide) ?_
      refine r_goto (tgt := 120) d_Mm_tenths_105 (by decide) ?_
      refine r_iret d_Mm_tenths_120 rfl rfl ?_
      exact ⟨rfl, rfl⟩
theorem d_Mm_tenths_108 : decode prog_14_method_56_code 108 = .ok (.iload_n 1, 1) := zo_27 (zd_b zq_prog_14_method_56_code_3 12 rfl rfl rfl)
theorem d_Mm_tenths_109 : decode prog_14_method_56_code 109 = .ok (.iconst 1, 1) := zo_4 (zd_b zq_prog_14_method_56_code_3 13 rfl rfl rfl)
theorem d_Mm_tenths_110 : decode prog_14_method_56_code 110 = .ok (.if_icmp .ne 9, 3) := zo_160 (d := 0) (e := 9) (zd_b zq_prog_14_method_56_code_3 14 rfl rfl rfl) (zd_b zq_prog_14_method_56_code_3 15 rfl rfl rfl) (zd_b zq_prog_14_method_56_code_3 16 rfl rfl rfl) (by decide +kernel)
theorem d_Mm_tenths_113 : decode prog_14_method_56_code 113 = .ok (.sipush 750, 3) := zo_17 (d := 2) (e := 238) (zd_b zq_prog_14_method_56_code_3 17 rfl rfl rfl) (zd_b zq_prog_14_method_56_code_3 18 rfl rfl rfl) (zd_b zq_prog_14_method_56_code_3 19 rfl rfl rfl) (by decide +kernel)
theorem d_Mm_tenths_116 : decode prog_14_method_56_code 116 = .ok (.goto 4, 3) := zo_167 (d := 0) (e := 4) (zd_b zq_prog_14_method_56_code_3 20 rfl rfl rfl) (zd_b zq_prog_14_method_56_code_3 21 rfl rfl rfl) (zd_b zq_prog_14_method_56_code_3 22 rfl rfl rfl) (by decide +kernel)
set_option maxHeartbeats 4000000 in
set_option maxRecDepth 100000 in
theorem C_Mm_tenths102_1 (g : zG)  : CT g M_Mm_tenths [.int 102, .int 1] [] (fun o cs1 => o = .inl (some (.int 750)) ∧ cs1 = []) 0 0 := by
  refine z_of (by decide) rfl (Nat.le_of_ble_eq_true rfl) (fun w0 => ?_)
  refine r_lvE (lv2 := [(0, .int 102), (1, .int 1)]) rfl ?_
  refine r_iload_n d_Mm_tenths_0 rfl 0 rfl ?_
  · refine r_lookup (off := 99) (tgt := 100) d_Mm_tenths_1 (by decide) (by decide) (by decide) ?_
    refine r_iload_n d_Mm_tenths_100 rfl 1 rfl ?_
    refine r_if_ne (tgt := 108) d_Mm_tenths_101 (by decide) (fun c_101 => ?_) (fun c_101 => ?_)
    · refine r_iload_n d_Mm_tenths_108 rfl 1 rfl ?_
      refine r_iconst d_Mm_tenths_109 (v := 1) (by decide) ?_
      refine r_icmp_ne (tgt := 119) d_Mm_tenths_110 (by decide) (fun c_110 => ?_) (fun c_110 => ?_)
      · exact absurd c_110 (by decide)
      · refine r_sipush d_Mm_tenths_113 (v := 750) (by decide) ?_
        refine r_goto (tgt := 120) d_Mm_tenths_116 (by decide) ?_
        refine r_iret d_Mm_tenths_120 rfl rfl ?_
        exact ⟨rfl, rfl⟩
    · exact absurd c_101 (by decide)
theorem d_Mm_tenths_119 : decode prog_14_method_56_code 119 = .ok (.iconst 0, 1) := zo_3 (zd_b zq_prog_14_method_56_code_3 23 rfl rfl rfl)
set_option maxHeartbeats 4000000 in
set_option maxRecDepth 100000 in
theorem C_Mm_tenths102_2 (g : zG)  : CT g M_Mm_tenths [.int 102, .int 2] [] (fun o cs1 => o = .inl (some (.int 0)) ∧ cs1 = []) 0 0 := by
  refine z_of (by decide) rfl (Nat.le_of_ble_eq_true rfl) (fun w0 => ?_)
  refine r_lvE (lv2 := [(0, .int 102), (1, .int 2)]) rfl ?_
  refine r_iload_n d_Mm_tenths_0 rfl 0 rfl ?_
  · refine r_lookup (off := 99) (tgt := 100) d_Mm_tenths_1 (by decide) (by decide) (by decide) ?_
    refine r_iload_n d_Mm_tenths_100 rfl 1 rfl ?_
    refine r_if_ne (tgt := 108) d_Mm_tenths_101 (by decide) (fun c_101 => ?_) (fun c_101 => ?_)
    · refine r_iload_n d_Mm_tenths_108 rfl 1 rfl ?_
      refine r_iconst d_Mm_tenths_109 (v := 1) (by decide) ?_
      refine r_icmp_ne (tgt := 119) d_Mm_tenths_110 (by decide) (fun c_110 => ?_) (fun c_110 => ?_)
      · refine r_iconst d_Mm_tenths_119 (v := 0) (by decide) ?_
        refine r_iret d_Mm_tenths_120 rfl rfl ?_
        exact ⟨rfl, rfl⟩
      · exact absurd c_110 (by decide)
    · exact absurd c_101 (by decide)
set_option maxHeartbeats 4000000 in
set_option maxRecDepth 100000 in
theorem C_Mm_tenths102_3 (g : zG)  : CT g M_Mm_tenths [.int 102, .int 3] [] (fun o cs1 => o = .inl (some (.int 0)) ∧ cs1 = []) 0 0 := by
  refine z_of (by decide) rfl (Nat.le_of_ble_eq_true rfl) (fun w0 => ?_)
  refine r_lvE (lv2 := [(0, .int 102), (1, .int 3)]) rfl ?_
  refine r_iload_n d_Mm_tenths_0 rfl 0 rfl ?_
  · refine r_lookup (off := 99) (tgt := 100) d_Mm_tenths_1 (by decide) (by decide) (by decide) ?_
    refine r_iload_n d_Mm_tenths_100 rfl 1 rfl ?_
    refine r_if_ne (tgt := 108) d_Mm_tenths_101 (by decide) (fun c_101 => ?_) (fun c_101 => ?_)
    · refine r_iload_n d_Mm_tenths_108 rfl 1 rfl ?_
      refine r_iconst d_Mm_tenths_109 (v := 1) (by decide) ?_
      refine r_icmp_ne (tgt := 119) d_Mm_tenths_110 (by decide) (fun c_110 => ?_) (fun c_110 => ?_)
      · refine r_iconst d_Mm_tenths_119 (v := 0) (by decide) ?_
        refine r_iret d_Mm_tenths_120 rfl rfl ?_
        exact ⟨rfl, rfl⟩
      · exact absurd c_110 (by decide)
    · exact absurd c_101 (by decide)
theorem d_Mm_tenths_121 : decode prog_14_method_56_code 121 = .ok (.iload_n 1, 1) := zo_27 (zd_b zq_prog_14_method_56_code_3 25 rfl rfl rfl)
theorem d_Mm_tenths_122 : decode prog_14_method_56_code 122 = .ok (.ifCond .ne 9, 3) := zo_154 (d := 0) (e := 9) (zd_b zq_prog_14_method_56_code_3 26 rfl rfl rfl) (zd_b zq_prog_14_method_56_code_3 27 rfl rfl rfl) (zd_b zq_prog_14_method_56_code_3 28 rfl rfl rfl) (by decide +kernel)
theorem d_Mm_tenths_125 : decode prog_14_method_56_code 125 = .ok (.sipush 950, 3) := zo_17 (d := 3) (e := 182) (zd_b zq_prog_14_method_56_code_3 29 rfl rfl rfl) (zd_b zq_prog_14_method_56_code_3 30 rfl rfl rfl) (zd_b zq_prog_14_method_56_code_3 31 rfl rfl rfl) (by decide +kernel)
theorem d_Mm_tenths_128 : decode prog_14_method_56_code 128 = .ok (.goto 4, 3) := zo_167 (d := 0) (e := 4) (zd_b zq_prog_14_method_56_code_4 0 rfl rfl rfl) (zd_b zq_prog_14_method_56_code_4 1 rfl rfl rfl) (zd_b zq_prog_14_method_56_code_4 2 rfl rfl rfl) (by decide +kernel)
theorem d_Mm_tenths_132 : decode prog_14_method_56_code 132 = .ok (.ireturn, 1) := zo_172 (zd_b zq_prog_14_method_56_code_4 4 rfl rfl rfl)
set_option maxHeartbeats 4000000 in
set_option maxRecDepth 100000 in
theorem C_Mm_tenths107_0 (g : zG)  : CT g M_Mm_tenths [.int 107, .int 0] [] (fun o cs1 => o = .inl (some (.int 950)) ∧ cs1 = []) 0 0 := by
  refine z_of (by decide) rfl (Nat.le_of_ble_eq_true rfl) (fun w0 => ?_)
  refine r_lvE (lv2 := [(0, .int 107), (1, .int 0)]) rfl ?_
  refine r_iload_n d_Mm_tenths_0 rfl 0 rfl ?_
  · refine r_lookup (off := 120) (tgt := 121) d_Mm_tenths_1 (by decide) (by decide) (by decide) ?_
    refine r_iload_n d_Mm_tenths_121 rfl 1 rfl ?_
    refine r_if_ne (tgt := 131) d_Mm_tenths_122 (by decide) (fun c_122 => ?_) (fun c_122 => ?_)
    · exact absurd c_122 (by decide)
    · refine r_sipush d_Mm_tenths_125 (v := 950) (by decide) ?_
      refine r_goto (tgt := 132) d_Mm_tenths_128 (by decide) ?_
      refine r_iret d_Mm_tenths_132 rfl rfl ?_
      exact ⟨rfl, rfl⟩
theorem d_Mm_tenths_131 : decode prog_14_method_56_code 131 = .ok (.iconst 0, 1) := zo_3 (zd_b zq_prog_14_method_56_code_4 3 rfl rfl rfl)
set_option maxHeartbeats 4000000 in
set_option maxRecDepth 100000 in
theorem C_Mm_tenths107_1 (g : zG)  : CT g M_Mm_tenths [.int 107, .int 1] [] (fun o cs1 => o = .inl (some (.int 0)) ∧ cs1 = []) 0 0 := by
  refine z_of (by decide) rfl (Nat.le_of_ble_eq_true rfl) (fun w0 => ?_)
  refine r_lvE (lv2 := [(0, .int 107), (1, .int 1)]) rfl ?_
  refine r_iload_n d_Mm_tenths_0 rfl 0 rfl ?_
  · refine r_lookup (off := 120) (tgt := 121) d_Mm_tenths_1 (by decide) (by decide) (by decide) ?_
    refine r_iload_n d_Mm_tenths_121 rfl 1 rfl ?_
    refine r_if_ne (tgt := 131) d_Mm_tenths_122 (by decide) (fun c_122 => ?_) (fun c_122 => ?_)
    · refine r_iconst d_Mm_tenths_131 (v := 0) (by decide) ?_
      refine r_iret d_Mm_tenths_132 rfl rfl ?_
      exact ⟨rfl, rfl⟩
    · exact absurd c_122 (by decide)
set_option maxHeartbeats 4000000 in
set_option maxRecDepth 100000 in
theorem C_Mm_tenths107_2 (g : zG)  : CT g M_Mm_tenths [.int 107, .int 2] [] (fun o cs1 => o = .inl (some (.int 0)) ∧ cs1 = []) 0 0 := by
  refine z_of (by decide) rfl (Nat.le_of_ble_eq_true rfl) (fun w0 => ?_)
  refine r_lvE (lv2 := [(0, .int 107), (1, .int 2)]) rfl ?_
  refine r_iload_n d_Mm_tenths_0 rfl 0 rfl ?_
  · refine r_lookup (off := 120) (tgt := 121) d_Mm_tenths_1 (by decide) (by decide) (by decide) ?_
    refine r_iload_n d_Mm_tenths_121 rfl 1 rfl ?_
    refine r_if_ne (tgt := 131) d_Mm_tenths_122 (by decide) (fun c_122 => ?_) (fun c_122 => ?_)
    · refine r_iconst d_Mm_tenths_131 (v := 0) (by decide) ?_
      refine r_iret d_Mm_tenths_132 rfl rfl ?_
      exact ⟨rfl, rfl⟩
    · exact absurd c_122 (by decide)
set_option maxHeartbeats 4000000 in
set_option maxRecDepth 100000 in
theorem C_Mm_tenths107_3 (g : zG)  : CT g M_Mm_tenths [.int 107, .int 3] [] (fun o cs1 => o = .inl (some (.int 0)) ∧ cs1 = []) 0 0 := by
  refine z_of (by decide) rfl (Nat.le_of_ble_eq_true rfl) (fun w0 => ?_)
  refine r_lvE (lv2 := [(0, .int 107), (1, .int 3)]) rfl ?_
  refine r_iload_n d_Mm_tenths_0 rfl 0 rfl ?_
  · refine r_lookup (off := 120) (tgt := 121) d_Mm_tenths_1 (by decide) (by decide) (by decide) ?_
    refine r_iload_n d_Mm_tenths_121 rfl 1 rfl ?_
    refine r_if_ne (tgt := 131) d_Mm_tenths_122 (by decide) (fun c_122 => ?_) (fun c_122 => ?_)
    · refine r_iconst d_Mm_tenths_131 (v := 0) (by decide) ?_
      refine r_iret d_Mm_tenths_132 rfl rfl ?_
      exact ⟨rfl, rfl⟩
    · exact absurd c_122 (by decide)
end
