theorem z_clN {x y : Int32} (h : z_cl x y = none) : ¬ (0 ≤ x ∧ x < 12 ∧ 0 ≤ y ∧ y < 9) := fun q => by rw [z_cl, if_pos q] at h; cases h
theorem z_sub1 {a : Nat} (h : 1 ≤ a) : nI a + (-1) = nI (a - 1) := by rw [← nI_sub1 h, Int32.sub_eq_add_neg]
abbrev M_Mm_fails : zM := (⟨"IronpourModel", "fails", "(ZI)Z"⟩, prog_14_method_4_code, 3, (Option.some FieldType.boolean), 1, 20, [])
theorem d_Mm_fails_0 : decode prog_14_method_4_code 0 = .ok (.iload_n 1, 1) := zo_27 (zd_b zq_prog_14_method_4_code_0 0 rfl rfl rfl)
theorem d_Mm_fails_1 : decode prog_14_method_4_code 1 = .ok (.ifCond .eq 15, 3) := zo_153 (d := 0) (e := 15) (zd_b zq_prog_14_method_4_code_0 1 rfl rfl rfl) (zd_b zq_prog_14_method_4_code_0 2 rfl rfl rfl) (zd_b zq_prog_14_method_4_code_0 3 rfl rfl rfl) (by decide +kernel)
theorem d_Mm_fails_16 : decode prog_14_method_4_code 16 = .ok (.aload_n 0, 1) := zo_42 (zd_b zq_prog_14_method_4_code_0 16 rfl rfl rfl)
theorem d_Mm_fails_17 : decode prog_14_method_4_code 17 = .ok (.getfield 84, 3) := zo_180 (d := 0) (e := 84) (zd_b zq_prog_14_method_4_code_0 17 rfl rfl rfl) (zd_b zq_prog_14_method_4_code_0 18 rfl rfl rfl) (zd_b zq_prog_14_method_4_code_0 19 rfl rfl rfl)
theorem u_Mm : ∀ x ∈ u_ws R_Mm F_Mm 31, x ∈ z_gw := fun x hx => List.mem_filter.mpr ⟨(z_au [(7, 114), (7, 116), (7, 118), (7, 120), (7, 122), (7, 124), (7, 126), (7, 128), (7, 130), (7, 132), (7, 134), (7, 136), (7, 138), (7, 140), (7, 142), (7, 144), (7, 146), (7, 148), (7, 150), (7, 152), (7, 154), (7, 156), (7, 158), (7, 160), (7, 162), (7, 164), (7, 166), (7, 168), (7, 170), (7, 172), (7, 174)] (by decide +kernel) : ∀ x ∈ u_ws R_Mm F_Mm 31, x ∈ lw_tbl) x hx, (show ∀ x ∈ u_ws R_Mm F_Mm 31, goodWord x = true by decide +kernel) x hx⟩
theorem fs_Mm_84 : z_fs "IronpourModel" 84 12 0 := ⟨R_Mm, "IronpourModel", F_Mm, 31, rfl, u_Mm, by decide, Or.inl ⟨z_mj7 (i := 83) rfl (by decide +kernel), Or.inl rfl⟩⟩
theorem d_Mm_fails_20 : decode prog_14_method_4_code 20 = .ok (.ifCond .eq 7, 3) := zo_153 (d := 0) (e := 7) (zd_b zq_prog_14_method_4_code_0 20 rfl rfl rfl) (zd_b zq_prog_14_method_4_code_0 21 rfl rfl rfl) (zd_b zq_prog_14_method_4_code_0 22 rfl rfl rfl) (by decide +kernel)
theorem d_Mm_fails_27 : decode prog_14_method_4_code 27 = .ok (.iconst 0, 1) := zo_3 (zd_b zq_prog_14_method_4_code_0 27 rfl rfl rfl)
theorem d_Mm_fails_28 : decode prog_14_method_4_code 28 = .ok (.ireturn, 1) := zo_172 (zd_b zq_prog_14_method_4_code_0 28 rfl rfl rfl)
set_option maxHeartbeats 4000000 in
set_option maxRecDepth 100000 in
theorem C_Mm_fails0 (g : zG) (m mp mf mh mn mt mz mc_ mq mgr ml mi mr mm mu mk mx : Nat) (th pt cl wa co_ fi bu ho lh mg wd fpi fal : Int32) (po de : Int64) (e : Int32) : CT g M_Mm_fails [.ref m, .int 0, .int e] [(m, .inr (12, [.int 0, .ref mp, .int pt, .ref mf, .ref mh, .ref mn, .ref mt, .ref mz, .ref mc_, .ref mq, .ref mgr, .int cl, .int wa, .int co_, .int fi, .int bu, .int ho, .ref ml, .ref mi, .ref mr, .int lh, .int mg, .int wd, .int fpi, .int fal, .ref mm, .ref mu, .ref mk, .ref mx, .long po, .long de]))] (fun o cs1 => o = .inl (some (.int 0)) ∧ cs1 = [(m, .inr (12, [.int 0, .ref mp, .int pt, .ref mf, .ref mh, .ref mn, .ref mt, .ref mz, .ref mc_, .ref mq, .ref mgr, .int cl, .int wa, .int co_, .int fi, .int bu, .int ho, .ref ml, .ref mi, .ref mr, .int lh, .int mg, .int wd, .int fpi, .int fal, .ref mm, .ref mu, .ref mk, .ref mx, .long po, .long de]))]) 0 0 := by
  refine z_of (by decide) rfl (Nat.le_of_ble_eq_true rfl) (fun w0 => ?_)
  refine r_lvE (lv2 := [(0, .ref m), (1, .int 0), (2, .int e)]) rfl ?_
  refine r_iload_n d_Mm_fails_0 rfl 1 rfl ?_
  refine r_if_eq (tgt := 16) d_Mm_fails_1 (by decide) (fun c_1 => ?_) (fun c_1 => ?_)
  · refine r_aload_n d_Mm_fails_16 rfl 0 rfl ?_
    refine r_get fs_Mm_84 d_Mm_fails_17 (q0 := 0) rfl rfl ?_
    refine r_if_eq (tgt := 27) d_Mm_fails_20 (by decide) (fun c_20 => ?_) (fun c_20 => ?_)
    · refine r_iconst d_Mm_fails_27 (v := 0) (by decide) ?_
      refine r_iret d_Mm_fails_28 rfl rfl ?_
      exact ⟨rfl, rfl⟩
    · exact absurd c_20 (by decide)
  · exact absurd c_1 (by decide)
theorem d_Mm_fails_4 : decode prog_14_method_4_code 4 = .ok (.aload_n 0, 1) := zo_42 (zd_b zq_prog_14_method_4_code_0 4 rfl rfl rfl)
theorem d_Mm_fails_5 : decode prog_14_method_4_code 5 = .ok (.getfield 84, 3) := zo_180 (d := 0) (e := 84) (zd_b zq_prog_14_method_4_code_0 5 rfl rfl rfl) (zd_b zq_prog_14_method_4_code_0 6 rfl rfl rfl) (zd_b zq_prog_14_method_4_code_0 7 rfl rfl rfl)
theorem d_Mm_fails_8 : decode prog_14_method_4_code 8 = .ok (.ifCond .ne 8, 3) := zo_154 (d := 0) (e := 8) (zd_b zq_prog_14_method_4_code_0 8 rfl rfl rfl) (zd_b zq_prog_14_method_4_code_0 9 rfl rfl rfl) (zd_b zq_prog_14_method_4_code_0 10 rfl rfl rfl) (by decide +kernel)
theorem d_Mm_fails_11 : decode prog_14_method_4_code 11 = .ok (.aload_n 0, 1) := zo_42 (zd_b zq_prog_14_method_4_code_0 11 rfl rfl rfl)
theorem d_Mm_fails_12 : decode prog_14_method_4_code 12 = .ok (.iload_n 2, 1) := zo_28 (zd_b zq_prog_14_method_4_code_0 12 rfl rfl rfl)
theorem d_Mm_fails_13 : decode prog_14_method_4_code 13 = .ok (.putfield 84, 3) := zo_181 (d := 0) (e := 84) (zd_b zq_prog_14_method_4_code_0 13 rfl rfl rfl) (zd_b zq_prog_14_method_4_code_0 14 rfl rfl rfl) (zd_b zq_prog_14_method_4_code_0 15 rfl rfl rfl)
theorem fp_Mm_84 : z_fp "IronpourModel" 84 12 0 false .int := ⟨R_Mm, "IronpourModel", F_Mm, 31, t_Mm, rfl, u_Mm, by decide, t_Mm_ok, n_Mm, rfl, rfl, Or.inl ⟨z_mj7 (i := 83) rfl (by decide +kernel), Or.inl rfl, fun h => nomatch h⟩⟩
theorem d_Mm_fails_23 : decode prog_14_method_4_code 23 = .ok (.iconst 1, 1) := zo_4 (zd_b zq_prog_14_method_4_code_0 23 rfl rfl rfl)
theorem d_Mm_fails_24 : decode prog_14_method_4_code 24 = .ok (.goto 4, 3) := zo_167 (d := 0) (e := 4) (zd_b zq_prog_14_method_4_code_0 24 rfl rfl rfl) (zd_b zq_prog_14_method_4_code_0 25 rfl rfl rfl) (zd_b zq_prog_14_method_4_code_0 26 rfl rfl rfl) (by decide +kernel)
set_option maxHeartbeats 4000000 in
set_option maxRecDepth 100000 in
theorem C_Mm_fails1 (g : zG) (m mp mf mh mn mt mz mc_ mq mgr ml mi mr mm mu mk mx : Nat) (th pt cl wa co_ fi bu ho lh mg wd fpi fal : Int32) (po de : Int64) : CT g M_Mm_fails [.ref m, .int 1, .int 1] [(m, .inr (12, [.int 0, .ref mp, .int pt, .ref mf, .ref mh, .ref mn, .ref mt, .ref mz, .ref mc_, .ref mq, .ref mgr, .int cl, .int wa, .int co_, .int fi, .int bu, .int ho, .ref ml, .ref mi, .ref mr, .int lh, .int mg, .int wd, .int fpi, .int fal, .ref mm, .ref mu, .ref mk, .ref mx, .long po, .long de]))] (fun o cs1 => o = .inl (some (.int 1)) ∧ cs1 = [(m, .inr (12, [.int 1, .ref mp, .int pt, .ref mf, .ref mh, .ref mn, .ref mt, .ref mz, .ref mc_, .ref mq, .ref mgr, .int cl, .int wa, .int co_, .int fi, .int bu, .int ho, .ref ml, .ref mi, .ref mr, .int lh, .int mg, .int wd, .int fpi, .int fal, .ref mm, .ref mu, .ref mk, .ref mx, .long po, .long de]))]) 0 0 := by
  refine z_of (by decide) rfl (Nat.le_of_ble_eq_true rfl) (fun w0 => ?_)
  refine r_lvE (lv2 := [(0, .ref m), (1, .int 1), (2, .int 1)]) rfl ?_
  refine r_iload_n d_Mm_fails_0 rfl 1 rfl ?_
  refine r_if_eq (tgt := 16) d_Mm_fails_1 (by decide) (fun c_1 => ?_) (fun c_1 => ?_)
  · exact absurd c_1 (by decide)
  · refine r_aload_n d_Mm_fails_4 rfl 0 rfl ?_
    refine r_get fs_Mm_84 d_Mm_fails_5 (q0 := 0) rfl rfl ?_
    refine r_if_ne (tgt := 16) d_Mm_fails_8 (by decide) (fun c_8 => ?_) (fun c_8 => ?_)
    · exact absurd c_8 (by decide)
    · refine r_aload_n d_Mm_fails_11 rfl 0 rfl ?_
      refine r_iload_n d_Mm_fails_12 rfl 2 rfl ?_
      refine r_put fp_Mm_84 d_Mm_fails_13 (fun h => nomatch h) rfl rfl (q0 := 0) rfl (Nat.le_of_ble_eq_true rfl) (cs' := [(m, .inr (12, [.int 1, .ref mp, .int pt, .ref mf, .ref mh, .ref mn, .ref mt, .ref mz, .ref mc_, .ref mq, .ref mgr, .int cl, .int wa, .int co_, .int fi, .int bu, .int ho, .ref ml, .ref mi, .ref mr, .int lh, .int mg, .int wd, .int fpi, .int fal, .ref mm, .ref mu, .ref mk, .ref mx, .long po, .long de]))]) rfl ?_
      refine r_aload_n d_Mm_fails_16 rfl 0 rfl ?_
      refine r_get fs_Mm_84 d_Mm_fails_17 (q0 := 0) rfl rfl ?_
      refine r_if_eq (tgt := 27) d_Mm_fails_20 (by decide) (fun c_20 => ?_) (fun c_20 => ?_)
      · exact absurd c_20 (by decide)
      · refine r_iconst d_Mm_fails_23 (v := 1) (by decide) ?_
        refine r_goto (tgt := 28) d_Mm_fails_24 (by decide) ?_
        refine r_iret d_Mm_fails_28 rfl rfl ?_
        exact ⟨rfl, rfl⟩
set_option maxHeartbeats 4000000 in
set_option maxRecDepth 100000 in
theorem C_Mm_fails2 (g : zG) (m mp mf mh mn mt mz mc_ mq mgr ml mi mr mm mu mk mx : Nat) (th pt cl wa co_ fi bu ho lh mg wd fpi fal : Int32) (po de : Int64) : CT g M_Mm_fails [.ref m, .int 1, .int 2] [(m, .inr (12, [.int 0, .ref mp, .int pt, .ref mf, .ref mh, .ref mn, .ref mt, .ref mz, .ref mc_, .ref mq, .ref mgr, .int cl, .int wa, .int co_, .int fi, .int bu, .int ho, .ref ml, .ref mi, .ref mr, .int lh, .int mg, .int wd, .int fpi, .int fal, .ref mm, .ref mu, .ref mk, .ref mx, .long po, .long de]))] (fun o cs1 => o = .inl (some (.int 1)) ∧ cs1 = [(m, .inr (12, [.int 2, .ref mp, .int pt, .ref mf, .ref mh, .ref mn, .ref mt, .ref mz, .ref mc_, .ref mq, .ref mgr, .int cl, .int wa, .int co_, .int fi, .int bu, .int ho, .ref ml, .ref mi, .ref mr, .int lh, .int mg, .int wd, .int fpi, .int fal, .ref mm, .ref mu, .ref mk, .ref mx, .long po, .long de]))]) 0 0 := by
  refine z_of (by decide) rfl (Nat.le_of_ble_eq_true rfl) (fun w0 => ?_)
  refine r_lvE (lv2 := [(0, .ref m), (1, .int 1), (2, .int 2)]) rfl ?_
  refine r_iload_n d_Mm_fails_0 rfl 1 rfl ?_
  refine r_if_eq (tgt := 16) d_Mm_fails_1 (by decide) (fun c_1 => ?_) (fun c_1 => ?_)
  · exact absurd c_1 (by decide)
  · refine r_aload_n d_Mm_fails_4 rfl 0 rfl ?_
    refine r_get fs_Mm_84 d_Mm_fails_5 (q0 := 0) rfl rfl ?_
    refine r_if_ne (tgt := 16) d_Mm_fails_8 (by decide) (fun c_8 => ?_) (fun c_8 => ?_)
    · exact absurd c_8 (by decide)
    · refine r_aload_n d_Mm_fails_11 rfl 0 rfl ?_
      refine r_iload_n d_Mm_fails_12 rfl 2 rfl ?_
      refine r_put fp_Mm_84 d_Mm_fails_13 (fun h => nomatch h) rfl rfl (q0 := 0) rfl (Nat.le_of_ble_eq_true rfl) (cs' := [(m, .inr (12, [.int 2, .ref mp, .int pt, .ref mf, .ref mh, .ref mn, .ref mt, .ref mz, .ref mc_, .ref mq, .ref mgr, .int cl, .int wa, .int co_, .int fi, .int bu, .int ho, .ref ml, .ref mi, .ref mr, .int lh, .int mg, .int wd, .int fpi, .int fal, .ref mm, .ref mu, .ref mk, .ref mx, .long po, .long de]))]) rfl ?_
      refine r_aload_n d_Mm_fails_16 rfl 0 rfl ?_
      refine r_get fs_Mm_84 d_Mm_fails_17 (q0 := 0) rfl rfl ?_
      refine r_if_eq (tgt := 27) d_Mm_fails_20 (by decide) (fun c_20 => ?_) (fun c_20 => ?_)
      · exact absurd c_20 (by decide)
      · refine r_iconst d_Mm_fails_23 (v := 1) (by decide) ?_
        refine r_goto (tgt := 28) d_Mm_fails_24 (by decide) ?_
        refine r_iret d_Mm_fails_28 rfl rfl ?_
        exact ⟨rfl, rfl⟩
set_option maxHeartbeats 4000000 in
set_option maxRecDepth 100000 in
theorem C_Mm_fails3 (g : zG) (m mp mf mh mn mt mz mc_ mq mgr ml mi mr mm mu mk mx : Nat) (th pt cl wa co_ fi bu ho lh mg wd fpi fal : Int32) (po de : Int64) : CT g M_Mm_fails [.ref m, .int 1, .int 3] [(m, .inr (12, [.int 0, .ref mp, .int pt, .ref mf, .ref mh, .ref mn, .ref mt, .ref mz, .ref mc_, .ref mq, .ref mgr, .int cl, .int wa, .int co_, .int fi, .int bu, .int ho, .ref ml, .ref mi, .ref mr, .int lh, .int mg, .int wd, .int fpi, .int fal, .ref mm, .ref mu, .ref mk, .ref mx, .long po, .long de]))] (fun o cs1 => o = .inl (some (.int 1)) ∧ cs1 = [(m, .inr (12, [.int 3, .ref mp, .int pt, .ref mf, .ref mh, .ref mn, .ref mt, .ref mz, .ref mc_, .ref mq, .ref mgr, .int cl, .int wa, .int co_, .int fi, .int bu, .int ho, .ref ml, .ref mi, .ref mr, .int lh, .int mg, .int wd, .int fpi, .int fal, .ref mm, .ref mu, .ref mk, .ref mx, .long po, .long de]))]) 0 0 := by
  refine z_of (by decide) rfl (Nat.le_of_ble_eq_true rfl) (fun w0 => ?_)
  refine r_lvE (lv2 := [(0, .ref m), (1, .int 1), (2, .int 3)]) rfl ?_
  refine r_iload_n d_Mm_fails_0 rfl 1 rfl ?_
  refine r_if_eq (tgt := 16) d_Mm_fails_1 (by decide) (fun c_1 => ?_) (fun c_1 => ?_)
  · exact absurd c_1 (by decide)
  · refine r_aload_n d_Mm_fails_4 rfl 0 rfl ?_
    refine r_get fs_Mm_84 d_Mm_fails_5 (q0 := 0) rfl rfl ?_
    refine r_if_ne (tgt := 16) d_Mm_fails_8 (by decide) (fun c_8 => ?_) (fun c_8 => ?_)
    · exact absurd c_8 (by decide)
    · refine r_aload_n d_Mm_fails_11 rfl 0 rfl ?_
      refine r_iload_n d_Mm_fails_12 rfl 2 rfl ?_
      refine r_put fp_Mm_84 d_Mm_fails_13 (fun h => nomatch h) rfl rfl (q0 := 0) rfl (Nat.le_of_ble_eq_true rfl) (cs' := [(m, .inr (12, [.int 3, .ref mp, .int pt, .ref mf, .ref mh, .ref mn, .ref mt, .ref mz, .ref mc_, .ref mq, .ref mgr, .int cl, .int wa, .int co_, .int fi, .int bu, .int ho, .ref ml, .ref mi, .ref mr, .int lh, .int mg, .int wd, .int fpi, .int fal, .ref mm, .ref mu, .ref mk, .ref mx, .long po, .long de]))]) rfl ?_
      refine r_aload_n d_Mm_fails_16 rfl 0 rfl ?_
      refine r_get fs_Mm_84 d_Mm_fails_17 (q0 := 0) rfl rfl ?_
      refine r_if_eq (tgt := 27) d_Mm_fails_20 (by decide) (fun c_20 => ?_) (fun c_20 => ?_)
      · exact absurd c_20 (by decide)
      · refine r_iconst d_Mm_fails_23 (v := 1) (by decide) ?_
        refine r_goto (tgt := 28) d_Mm_fails_24 (by decide) ?_
        refine r_iret d_Mm_fails_28 rfl rfl ?_
        exact ⟨rfl, rfl⟩
abbrev M_Mm_isCell : zM := (⟨"IronpourModel", "isCell", "(II)Z"⟩, prog_14_method_5_code, 2, (Option.some FieldType.boolean), 2, 42, [])
theorem d_Mm_isCell_0 : decode prog_14_method_5_code 0 = .ok (.iload_n 0, 1) := zo_26 (zd_b zq_prog_14_method_5_code_0 0 rfl rfl rfl)
theorem d_Mm_isCell_1 : decode prog_14_method_5_code 1 = .ok (.iconst 0, 1) := zo_3 (zd_b zq_prog_14_method_5_code_0 1 rfl rfl rfl)
theorem d_Mm_isCell_2 : decode prog_14_method_5_code 2 = .ok (.bipush 11, 2) := zo_16 (d := 11) (zd_b zq_prog_14_method_5_code_0 2 rfl rfl rfl) (zd_b zq_prog_14_method_5_code_0 3 rfl rfl rfl) (by decide +kernel)
theorem d_Mm_isCell_4 : decode prog_14_method_5_code 4 = .ok (.invokestatic 87, 3) := zo_184 (d := 0) (e := 87) (zd_b zq_prog_14_method_5_code_0 4 rfl rfl rfl) (zd_b zq_prog_14_method_5_code_0 5 rfl rfl rfl) (zd_b zq_prog_14_method_5_code_0 6 rfl rfl rfl)
theorem ok_Mm_isCell_Mm_in : z_ok M_Mm_isCell M_Mm_in 3 := ⟨z_mj7 (i := 190) rfl (by decide +kernel), rfl, ⟨by decide +kernel, by decide +kernel, by decide +kernel⟩, ⟨by decide, by decide⟩, z_mj1 (i := 14) rfl (by decide +kernel), rfl⟩
theorem ln_Mm_87 : Cond.methodLink "IronpourModel" 87 M_Mm_in.1 ∈ z_gw := z_mj7 (i := 188) rfl (by decide +kernel)
theorem w_st_Mm_in : Cond.static M_Mm_in.1 ∈ z_gw := z_mj7 (i := 189) rfl (by decide +kernel)
theorem d_Mm_isCell_7 : decode prog_14_method_5_code 7 = .ok (.ifCond .eq 17, 3) := zo_153 (d := 0) (e := 17) (zd_b zq_prog_14_method_5_code_0 7 rfl rfl rfl) (zd_b zq_prog_14_method_5_code_0 8 rfl rfl rfl) (zd_b zq_prog_14_method_5_code_0 9 rfl rfl rfl) (by decide +kernel)
theorem d_Mm_isCell_24 : decode prog_14_method_5_code 24 = .ok (.iconst 0, 1) := zo_3 (zd_b zq_prog_14_method_5_code_0 24 rfl rfl rfl)
theorem d_Mm_isCell_25 : decode prog_14_method_5_code 25 = .ok (.ireturn, 1) := zo_172 (zd_b zq_prog_14_method_5_code_0 25 rfl rfl rfl)
theorem d_Mm_isCell_10 : decode prog_14_method_5_code 10 = .ok (.iload_n 1, 1) := zo_27 (zd_b zq_prog_14_method_5_code_0 10 rfl rfl rfl)
theorem d_Mm_isCell_11 : decode prog_14_method_5_code 11 = .ok (.iconst 0, 1) := zo_3 (zd_b zq_prog_14_method_5_code_0 11 rfl rfl rfl)
theorem d_Mm_isCell_12 : decode prog_14_method_5_code 12 = .ok (.bipush 8, 2) := zo_16 (d := 8) (zd_b zq_prog_14_method_5_code_0 12 rfl rfl rfl) (zd_b zq_prog_14_method_5_code_0 13 rfl rfl rfl) (by decide +kernel)
theorem d_Mm_isCell_14 : decode prog_14_method_5_code 14 = .ok (.invokestatic 87, 3) := zo_184 (d := 0) (e := 87) (zd_b zq_prog_14_method_5_code_0 14 rfl rfl rfl) (zd_b zq_prog_14_method_5_code_0 15 rfl rfl rfl) (zd_b zq_prog_14_method_5_code_0 16 rfl rfl rfl)
theorem d_Mm_isCell_17 : decode prog_14_method_5_code 17 = .ok (.ifCond .eq 7, 3) := zo_153 (d := 0) (e := 7) (zd_b zq_prog_14_method_5_code_0 17 rfl rfl rfl) (zd_b zq_prog_14_method_5_code_0 18 rfl rfl rfl) (zd_b zq_prog_14_method_5_code_0 19 rfl rfl rfl) (by decide +kernel)
theorem d_Mm_isCell_20 : decode prog_14_method_5_code 20 = .ok (.iconst 1, 1) := zo_4 (zd_b zq_prog_14_method_5_code_0 20 rfl rfl rfl)
theorem d_Mm_isCell_21 : decode prog_14_method_5_code 21 = .ok (.goto 4, 3) := zo_167 (d := 0) (e := 4) (zd_b zq_prog_14_method_5_code_0 21 rfl rfl rfl) (zd_b zq_prog_14_method_5_code_0 22 rfl rfl rfl) (zd_b zq_prog_14_method_5_code_0 23 rfl rfl rfl) (by decide +kernel)
set_option maxHeartbeats 4000000 in
set_option maxRecDepth 100000 in
theorem C_Mm_isCell (g : zG) (x y : Int32) : CT g M_Mm_isCell [.int x, .int y] [] (fun o cs1 => o = .inl (some (.int (if 0 ≤ x ∧ x < 12 ∧ 0 ≤ y ∧ y < 9 then 1 else 0))) ∧ cs1 = []) 0 0 := by
  refine z_of (by decide) rfl (Nat.le_of_ble_eq_true rfl) (fun w0 => ?_)
  refine r_lvE (lv2 := [(0, .int x), (1, .int y)]) rfl ?_
  refine r_iload_n d_Mm_isCell_0 rfl 0 rfl ?_
  refine r_iconst d_Mm_isCell_1 (v := 0) (by decide) ?_
  refine r_bipush d_Mm_isCell_2 (v := 11) (by decide) ?_
  refine r_callS (As := [.int x, .int 0, .int 11]) (rest := []) (csC := []) (is := []) ln_Mm_87 w_st_Mm_in ok_Mm_isCell_Mm_in d_Mm_isCell_4 (C_Mm_in g x 0 11) rfl rfl (Nat.le_of_ble_eq_true rfl) rfl (by decide) (by omega) (by omega) (fun E cs1 hx => ?_) (fun v cs1 hx => ?_)
  · exact absurd hx.1 (by simp)
  · obtain ⟨e1, rfl⟩ := hx
    cases e1
    refine ⟨rfl, ?_⟩
    refine r_st (st2 := [.int (if 0 ≤ x ∧ x ≤ 11 then 1 else 0)]) rfl ?_
    refine r_cs (cs2 := []) rfl ?_
    refine r_if_eq (tgt := 24) d_Mm_isCell_7 (by decide) (fun c_7 => ?_) (fun c_7 => ?_)
    · have h7 := z_b0 c_7
      refine r_iconst d_Mm_isCell_24 (v := 0) (by decide) ?_
      refine r_iret d_Mm_isCell_25 rfl rfl ?_
      refine ⟨?_, rfl⟩
      split <;> first | rfl | (exfalso; simp only [fa_lt, fa_le] at *; have e0 : (0 : Int32).toInt = 0 := rfl; have e12 : (12 : Int32).toInt = 12 := rfl; have e9 : (9 : Int32).toInt = 9 := rfl; have e11 : (11 : Int32).toInt = 11 := rfl; have e8 : (8 : Int32).toInt = 8 := rfl; omega)
    · have h7 := z_b1 c_7
      refine r_iload_n d_Mm_isCell_10 rfl 1 rfl ?_
      refine r_iconst d_Mm_isCell_11 (v := 0) (by decide) ?_
      refine r_bipush d_Mm_isCell_12 (v := 8) (by decide) ?_
      refine r_callS (As := [.int y, .int 0, .int 8]) (rest := []) (csC := []) (is := []) ln_Mm_87 w_st_Mm_in ok_Mm_isCell_Mm_in d_Mm_isCell_14 (C_Mm_in g y 0 8) rfl rfl (Nat.le_of_ble_eq_true rfl) rfl (by decide) (by omega) (by omega) (fun E cs1 hx => ?_) (fun v cs1 hx => ?_)
      · exact absurd hx.1 (by simp)
      · obtain ⟨e1, rfl⟩ := hx
        cases e1
        refine ⟨rfl, ?_⟩
        refine r_st (st2 := [.int (if 0 ≤ y ∧ y ≤ 8 then 1 else 0)]) rfl ?_
        refine r_cs (cs2 := []) rfl ?_
        refine r_if_eq (tgt := 24) d_Mm_isCell_17 (by decide) (fun c_17 => ?_) (fun c_17 => ?_)
        · have h17 := z_b0 c_17
          refine r_iconst d_Mm_isCell_24 (v := 0) (by decide) ?_
          refine r_iret d_Mm_isCell_25 rfl rfl ?_
          refine ⟨?_, rfl⟩
          split <;> first | rfl | (exfalso; simp only [fa_lt, fa_le] at *; have e0 : (0 : Int32).toInt = 0 := rfl; have e12 : (12 : Int32).toInt = 12 := rfl; have e9 : (9 : Int32).toInt = 9 := rfl; have e11 : (11 : Int32).toInt = 11 := rfl; have e8 : (8 : Int32).toInt = 8 := rfl; omega)
        · have h17 := z_b1 c_17
          refine r_iconst d_Mm_isCell_20 (v := 1) (by decide) ?_
          refine r_goto (tgt := 25) d_Mm_isCell_21 (by decide) ?_
          refine r_iret d_Mm_isCell_25 rfl rfl ?_
          refine ⟨?_, rfl⟩
          split <;> first | rfl | (exfalso; simp only [fa_lt, fa_le] at *; have e0 : (0 : Int32).toInt = 0 := rfl; have e12 : (12 : Int32).toInt = 12 := rfl; have e9 : (9 : Int32).toInt = 9 := rfl; have e11 : (11 : Int32).toInt = 11 := rfl; have e8 : (8 : Int32).toInt = 8 := rfl; omega)
abbrev M_Mm_noHeat : zM := (⟨"IronpourModel", "noHeat", "(I)Z"⟩, prog_14_method_32_code, 1, (Option.some FieldType.boolean), 2, 42, [])
theorem d_Mm_noHeat_0 : decode prog_14_method_32_code 0 = .ok (.iload_n 0, 1) := zo_26 (zd_b zq_prog_14_method_32_code_0 0 rfl rfl rfl)
theorem d_Mm_noHeat_1 : decode prog_14_method_32_code 1 = .ok (.sipush 1200, 3) := zo_17 (d := 4) (e := 176) (zd_b zq_prog_14_method_32_code_0 1 rfl rfl rfl) (zd_b zq_prog_14_method_32_code_0 2 rfl rfl rfl) (zd_b zq_prog_14_method_32_code_0 3 rfl rfl rfl) (by decide +kernel)
theorem d_Mm_noHeat_4 : decode prog_14_method_32_code 4 = .ok (.sipush 1500, 3) := zo_17 (d := 5) (e := 220) (zd_b zq_prog_14_method_32_code_0 4 rfl rfl rfl) (zd_b zq_prog_14_method_32_code_0 5 rfl rfl rfl) (zd_b zq_prog_14_method_32_code_0 6 rfl rfl rfl) (by decide +kernel)
theorem d_Mm_noHeat_7 : decode prog_14_method_32_code 7 = .ok (.invokestatic 87, 3) := zo_184 (d := 0) (e := 87) (zd_b zq_prog_14_method_32_code_0 7 rfl rfl rfl) (zd_b zq_prog_14_method_32_code_0 8 rfl rfl rfl) (zd_b zq_prog_14_method_32_code_0 9 rfl rfl rfl)
theorem ok_Mm_noHeat_Mm_in : z_ok M_Mm_noHeat M_Mm_in 3 := ⟨z_mj7 (i := 190) rfl (by decide +kernel), rfl, ⟨by decide +kernel, by decide +kernel, by decide +kernel⟩, ⟨by decide, by decide⟩, z_mj1 (i := 14) rfl (by decide +kernel), rfl⟩
theorem d_Mm_noHeat_10 : decode prog_14_method_32_code 10 = .ok (.ifCond .ne 7, 3) := zo_154 (d := 0) (e := 7) (zd_b zq_prog_14_method_32_code_0 10 rfl rfl rfl) (zd_b zq_prog_14_method_32_code_0 11 rfl rfl rfl) (zd_b zq_prog_14_method_32_code_0 12 rfl rfl rfl) (by decide +kernel)
theorem d_Mm_noHeat_17 : decode prog_14_method_32_code 17 = .ok (.iconst 0, 1) := zo_3 (zd_b zq_prog_14_method_32_code_0 17 rfl rfl rfl)
theorem d_Mm_noHeat_18 : decode prog_14_method_32_code 18 = .ok (.ireturn, 1) := zo_172 (zd_b zq_prog_14_method_32_code_0 18 rfl rfl rfl)
set_option maxHeartbeats 4000000 in
set_option maxRecDepth 100000 in
theorem C_Mm_noHeat0 (g : zG) (h : Int32) (hh : 1200 ≤ h ∧ h ≤ 1500) : CT g M_Mm_noHeat [.int h] [] (fun o cs1 => o = .inl (some (.int 0)) ∧ cs1 = []) 0 0 := by
  refine z_of (by decide) rfl (Nat.le_of_ble_eq_true rfl) (fun w0 => ?_)
  refine r_lvE (lv2 := [(0, .int h)]) rfl ?_
  refine r_iload_n d_Mm_noHeat_0 rfl 0 rfl ?_
  refine r_sipush d_Mm_noHeat_1 (v := 1200) (by decide) ?_
  refine r_sipush d_Mm_noHeat_4 (v := 1500) (by decide) ?_
  refine r_callS (As := [.int h, .int 1200, .int 1500]) (rest := []) (csC := []) (is := []) ln_Mm_87 w_st_Mm_in ok_Mm_noHeat_Mm_in d_Mm_noHeat_7 (C_Mm_in g h 1200 1500) rfl rfl (Nat.le_of_ble_eq_true rfl) rfl (by decide) (by omega) (by omega) (fun E cs1 hx => ?_) (fun v cs1 hx => ?_)
  · exact absurd hx.1 (by simp)
  · obtain ⟨e1, rfl⟩ := hx
    rw [if_pos hh] at e1
    cases e1
    refine ⟨rfl, ?_⟩
    refine r_st (st2 := [.int 1]) rfl ?_
    refine r_cs (cs2 := []) rfl ?_
    refine r_if_ne (tgt := 17) d_Mm_noHeat_10 (by decide) (fun c_10 => ?_) (fun c_10 => ?_)
    · refine r_iconst d_Mm_noHeat_17 (v := 0) (by decide) ?_
      refine r_iret d_Mm_noHeat_18 rfl rfl ?_
      exact ⟨rfl, rfl⟩
    · exact absurd c_10 (by decide)
theorem d_Mm_noHeat_13 : decode prog_14_method_32_code 13 = .ok (.iconst 1, 1) := zo_4 (zd_b zq_prog_14_method_32_code_0 13 rfl rfl rfl)
theorem d_Mm_noHeat_14 : decode prog_14_method_32_code 14 = .ok (.goto 4, 3) := zo_167 (d := 0) (e := 4) (zd_b zq_prog_14_method_32_code_0 14 rfl rfl rfl) (zd_b zq_prog_14_method_32_code_0 15 rfl rfl rfl) (zd_b zq_prog_14_method_32_code_0 16 rfl rfl rfl) (by decide +kernel)
set_option maxHeartbeats 4000000 in
set_option maxRecDepth 100000 in
theorem C_Mm_noHeat1 (g : zG) (h : Int32) (hh : ¬ (1200 ≤ h ∧ h ≤ 1500)) : CT g M_Mm_noHeat [.int h] [] (fun o cs1 => o = .inl (some (.int 1)) ∧ cs1 = []) 0 0 := by
  refine z_of (by decide) rfl (Nat.le_of_ble_eq_true rfl) (fun w0 => ?_)
  refine r_lvE (lv2 := [(0, .int h)]) rfl ?_
  refine r_iload_n d_Mm_noHeat_0 rfl 0 rfl ?_
  refine r_sipush d_Mm_noHeat_1 (v := 1200) (by decide) ?_
  refine r_sipush d_Mm_noHeat_4 (v := 1500) (by decide) ?_
  refine r_callS (As := [.int h, .int 1200, .int 1500]) (rest := []) (csC := []) (is := []) ln_Mm_87 w_st_Mm_in ok_Mm_noHeat_Mm_in d_Mm_noHeat_7 (C_Mm_in g h 1200 1500) rfl rfl (Nat.le_of_ble_eq_true rfl) rfl (by decide) (by omega) (by omega) (fun E cs1 hx => ?_) (fun v cs1 hx => ?_)
  · exact absurd hx.1 (by simp)
  · obtain ⟨e1, rfl⟩ := hx
    rw [if_neg hh] at e1
    cases e1
    refine ⟨rfl, ?_⟩
    refine r_st (st2 := [.int 0]) rfl ?_
    refine r_cs (cs2 := []) rfl ?_
    refine r_if_ne (tgt := 17) d_Mm_noHeat_10 (by decide) (fun c_10 => ?_) (fun c_10 => ?_)
    · exact absurd c_10 (by decide)
    · refine r_iconst d_Mm_noHeat_13 (v := 1) (by decide) ?_
      refine r_goto (tgt := 18) d_Mm_noHeat_14 (by decide) ?_
      refine r_iret d_Mm_noHeat_18 rfl rfl ?_
      exact ⟨rfl, rfl⟩
abbrev M_Mm_beside : zM := (⟨"IronpourModel", "beside", "(II)I"⟩, prog_14_method_6_code, 4, (Option.some FieldType.int), 3, 63, [])
theorem d_Mm_beside_0 : decode prog_14_method_6_code 0 = .ok (.iload_n 0, 1) := zo_26 (zd_b zq_prog_14_method_6_code_0 0 rfl rfl rfl)
theorem d_Mm_beside_1 : decode prog_14_method_6_code 1 = .ok (.bipush 12, 2) := zo_16 (d := 12) (zd_b zq_prog_14_method_6_code_0 1 rfl rfl rfl) (zd_b zq_prog_14_method_6_code_0 2 rfl rfl rfl) (by decide +kernel)
theorem d_Mm_beside_3 : decode prog_14_method_6_code 3 = .ok (.irem, 1) := zo_112 (zd_b zq_prog_14_method_6_code_0 3 rfl rfl rfl)
theorem d_Mm_beside_4 : decode prog_14_method_6_code 4 = .ok (.iload_n 1, 1) := zo_27 (zd_b zq_prog_14_method_6_code_0 4 rfl rfl rfl)
theorem d_Mm_beside_5 : decode prog_14_method_6_code 5 = .ok (.iconst 1, 1) := zo_4 (zd_b zq_prog_14_method_6_code_0 5 rfl rfl rfl)
theorem d_Mm_beside_6 : decode prog_14_method_6_code 6 = .ok (.if_icmp .ne 7, 3) := zo_160 (d := 0) (e := 7) (zd_b zq_prog_14_method_6_code_0 6 rfl rfl rfl) (zd_b zq_prog_14_method_6_code_0 7 rfl rfl rfl) (zd_b zq_prog_14_method_6_code_0 8 rfl rfl rfl) (by decide +kernel)
theorem d_Mm_beside_13 : decode prog_14_method_6_code 13 = .ok (.iload_n 1, 1) := zo_27 (zd_b zq_prog_14_method_6_code_0 13 rfl rfl rfl)
theorem d_Mm_beside_14 : decode prog_14_method_6_code 14 = .ok (.iconst 2, 1) := zo_5 (zd_b zq_prog_14_method_6_code_0 14 rfl rfl rfl)
theorem d_Mm_beside_15 : decode prog_14_method_6_code 15 = .ok (.if_icmp .ne 7, 3) := zo_160 (d := 0) (e := 7) (zd_b zq_prog_14_method_6_code_0 15 rfl rfl rfl) (zd_b zq_prog_14_method_6_code_0 16 rfl rfl rfl) (zd_b zq_prog_14_method_6_code_0 17 rfl rfl rfl) (by decide +kernel)
theorem d_Mm_beside_22 : decode prog_14_method_6_code 22 = .ok (.iconst 0, 1) := zo_3 (zd_b zq_prog_14_method_6_code_0 22 rfl rfl rfl)
theorem d_Mm_beside_23 : decode prog_14_method_6_code 23 = .ok (.iadd, 1) := zo_96 (zd_b zq_prog_14_method_6_code_0 23 rfl rfl rfl)
theorem d_Mm_beside_24 : decode prog_14_method_6_code 24 = .ok (.istore_n 2, 1) := zo_61 (zd_b zq_prog_14_method_6_code_0 24 rfl rfl rfl)
theorem d_Mm_beside_25 : decode prog_14_method_6_code 25 = .ok (.iload_n 0, 1) := zo_26 (zd_b zq_prog_14_method_6_code_0 25 rfl rfl rfl)
theorem d_Mm_beside_26 : decode prog_14_method_6_code 26 = .ok (.bipush 12, 2) := zo_16 (d := 12) (zd_b zq_prog_14_method_6_code_0 26 rfl rfl rfl) (zd_b zq_prog_14_method_6_code_0 27 rfl rfl rfl) (by decide +kernel)
theorem d_Mm_beside_28 : decode prog_14_method_6_code 28 = .ok (.idiv, 1) := zo_108 (zd_b zq_prog_14_method_6_code_0 28 rfl rfl rfl)
theorem d_Mm_beside_29 : decode prog_14_method_6_code 29 = .ok (.iload_n 1, 1) := zo_27 (zd_b zq_prog_14_method_6_code_0 29 rfl rfl rfl)
theorem d_Mm_beside_30 : decode prog_14_method_6_code 30 = .ok (.ifCond .ne 7, 3) := zo_154 (d := 0) (e := 7) (zd_b zq_prog_14_method_6_code_0 30 rfl rfl rfl) (zd_b zq_prog_14_method_6_code_0 31 rfl rfl rfl) (zd_b zq_prog_14_method_6_code_1 0 rfl rfl rfl) (by decide +kernel)
theorem d_Mm_beside_33 : decode prog_14_method_6_code 33 = .ok (.iconst (-1), 1) := zo_2 (zd_b zq_prog_14_method_6_code_1 1 rfl rfl rfl)
theorem d_Mm_beside_34 : decode prog_14_method_6_code 34 = .ok (.goto 13, 3) := zo_167 (d := 0) (e := 13) (zd_b zq_prog_14_method_6_code_1 2 rfl rfl rfl) (zd_b zq_prog_14_method_6_code_1 3 rfl rfl rfl) (zd_b zq_prog_14_method_6_code_1 4 rfl rfl rfl) (by decide +kernel)
theorem d_Mm_beside_47 : decode prog_14_method_6_code 47 = .ok (.iadd, 1) := zo_96 (zd_b zq_prog_14_method_6_code_1 15 rfl rfl rfl)
theorem d_Mm_beside_48 : decode prog_14_method_6_code 48 = .ok (.istore_n 3, 1) := zo_62 (zd_b zq_prog_14_method_6_code_1 16 rfl rfl rfl)
theorem d_Mm_beside_49 : decode prog_14_method_6_code 49 = .ok (.iload_n 2, 1) := zo_28 (zd_b zq_prog_14_method_6_code_1 17 rfl rfl rfl)
theorem d_Mm_beside_50 : decode prog_14_method_6_code 50 = .ok (.iload_n 3, 1) := zo_29 (zd_b zq_prog_14_method_6_code_1 18 rfl rfl rfl)
theorem d_Mm_beside_51 : decode prog_14_method_6_code 51 = .ok (.invokestatic 91, 3) := zo_184 (d := 0) (e := 91) (zd_b zq_prog_14_method_6_code_1 19 rfl rfl rfl) (zd_b zq_prog_14_method_6_code_1 20 rfl rfl rfl) (zd_b zq_prog_14_method_6_code_1 21 rfl rfl rfl)
theorem ok_Mm_beside_Mm_isCell : z_ok M_Mm_beside M_Mm_isCell 2 := ⟨z_mj7 (i := 187) rfl (by decide +kernel), rfl, ⟨by decide +kernel, by decide +kernel, by decide +kernel⟩, ⟨by decide, by decide⟩, z_mj1 (i := 14) rfl (by decide +kernel), rfl⟩
theorem ln_Mm_91 : Cond.methodLink "IronpourModel" 91 M_Mm_isCell.1 ∈ z_gw := z_mj7 (i := 185) rfl (by decide +kernel)
theorem w_st_Mm_isCell : Cond.static M_Mm_isCell.1 ∈ z_gw := z_mj7 (i := 186) rfl (by decide +kernel)
theorem d_Mm_beside_54 : decode prog_14_method_6_code 54 = .ok (.ifCond .eq 12, 3) := zo_153 (d := 0) (e := 12) (zd_b zq_prog_14_method_6_code_1 22 rfl rfl rfl) (zd_b zq_prog_14_method_6_code_1 23 rfl rfl rfl) (zd_b zq_prog_14_method_6_code_1 24 rfl rfl rfl) (by decide +kernel)
theorem d_Mm_beside_66 : decode prog_14_method_6_code 66 = .ok (.iconst (-1), 1) := zo_2 (zd_b zq_prog_14_method_6_code_2 2 rfl rfl rfl)
theorem d_Mm_beside_67 : decode prog_14_method_6_code 67 = .ok (.ireturn, 1) := zo_172 (zd_b zq_prog_14_method_6_code_2 3 rfl rfl rfl)
set_option maxHeartbeats 4000000 in
set_option maxRecDepth 100000 in
theorem C_Mm_beside0a (g : zG) (c : Nat) (hc : c < 108) (hq : c < 12) : CT g M_Mm_beside [.int (nI c), .int 0] [] (fun o cs1 => o = .inl (some (.int (-1))) ∧ cs1 = []) 0 0 := by
  refine z_of (by decide) rfl (Nat.le_of_ble_eq_true rfl) (fun w0 => ?_)
  refine r_lvE (lv2 := [(0, .int (nI c)), (1, .int 0)]) rfl ?_
  refine r_iload_n d_Mm_beside_0 rfl 0 rfl ?_
  refine r_bipush d_Mm_beside_1 (v := 12) (by decide) ?_
  refine r_irem d_Mm_beside_3 (v := nI (c % 12)) (by decide) (nI_mod12 (by omega)) ?_
  refine r_iload_n d_Mm_beside_4 rfl 1 rfl ?_
  refine r_iconst d_Mm_beside_5 (v := 1) (by decide) ?_
  refine r_icmp_ne (tgt := 13) d_Mm_beside_6 (by decide) (fun c_6 => ?_) (fun c_6 => ?_)
  · refine r_iload_n d_Mm_beside_13 rfl 1 rfl ?_
    refine r_iconst d_Mm_beside_14 (v := 2) (by decide) ?_
    refine r_icmp_ne (tgt := 22) d_Mm_beside_15 (by decide) (fun c_15 => ?_) (fun c_15 => ?_)
    · refine r_iconst d_Mm_beside_22 (v := 0) (by decide) ?_
      refine r_iadd d_Mm_beside_23 (v := nI (c % 12)) (Int32.add_zero _) ?_
      refine r_istore_n (lv' := [(2, .int (nI (c % 12))), (0, .int (nI c)), (1, .int 0)]) d_Mm_beside_24 rfl (by decide) rfl ?_
      refine r_iload_n d_Mm_beside_25 rfl 1 rfl ?_
      refine r_bipush d_Mm_beside_26 (v := 12) (by decide) ?_
      refine r_idiv d_Mm_beside_28 (v := nI (c / 12)) (by decide) (nI_div12 (by omega)) ?_
      refine r_iload_n d_Mm_beside_29 rfl 2 rfl ?_
      refine r_if_ne (tgt := 37) d_Mm_beside_30 (by decide) (fun c_30 => ?_) (fun c_30 => ?_)
      · exact absurd c_30 (by decide)
      · refine r_iconst d_Mm_beside_33 (v := (-1)) (by decide) ?_
        refine r_goto (tgt := 47) d_Mm_beside_34 (by decide) ?_
        refine r_iadd d_Mm_beside_47 (v := (-1)) (by rw [show c / 12 = 0 by omega]; rfl) ?_
        refine r_istore_n (lv' := [(3, .int (-1)), (2, .int (nI (c % 12))), (0, .int (nI c)), (1, .int 0)]) d_Mm_beside_48 rfl (by decide) rfl ?_
        refine r_iload_n d_Mm_beside_49 rfl 1 rfl ?_
        refine r_iload_n d_Mm_beside_50 rfl 0 rfl ?_
        refine r_callS (As := [.int (nI (c % 12)), .int (-1)]) (rest := []) (csC := []) (is := []) ln_Mm_91 w_st_Mm_isCell ok_Mm_beside_Mm_isCell d_Mm_beside_51 (C_Mm_isCell g (nI (c % 12)) (-1)) rfl rfl (Nat.le_of_ble_eq_true rfl) rfl (by decide) (by omega) (by omega) (fun E cs1 hx => ?_) (fun v cs1 hx => ?_)
        · exact absurd hx.1 (by simp)
        · obtain ⟨e1, rfl⟩ := hx
          rw [if_neg (fun q => absurd q.2.2.1 (by decide))] at e1
          cases e1
          refine ⟨rfl, ?_⟩
          refine r_st (st2 := [.int 0]) rfl ?_
          refine r_cs (cs2 := []) rfl ?_
          refine r_if_eq (tgt := 66) d_Mm_beside_54 (by decide) (fun c_54 => ?_) (fun c_54 => ?_)
          · refine r_iconst d_Mm_beside_66 (v := (-1)) (by decide) ?_
            refine r_iret d_Mm_beside_67 rfl rfl ?_
            exact ⟨rfl, rfl⟩
          · exact absurd c_54 (by decide)
    · exact absurd c_15 (by decide)
  · exact absurd c_6 (by decide)
theorem d_Mm_beside_57 : decode prog_14_method_6_code 57 = .ok (.bipush 12, 2) := zo_16 (d := 12) (zd_b zq_prog_14_method_6_code_1 25 rfl rfl rfl) (zd_b zq_prog_14_method_6_code_1 26 rfl rfl rfl) (by decide +kernel)
theorem d_Mm_beside_59 : decode prog_14_method_6_code 59 = .ok (.iload_n 3, 1) := zo_29 (zd_b zq_prog_14_method_6_code_1 27 rfl rfl rfl)
theorem d_Mm_beside_60 : decode prog_14_method_6_code 60 = .ok (.imul, 1) := zo_104 (zd_b zq_prog_14_method_6_code_1 28 rfl rfl rfl)
theorem d_Mm_beside_61 : decode prog_14_method_6_code 61 = .ok (.iload_n 2, 1) := zo_28 (zd_b zq_prog_14_method_6_code_1 29 rfl rfl rfl)
theorem d_Mm_beside_62 : decode prog_14_method_6_code 62 = .ok (.iadd, 1) := zo_96 (zd_b zq_prog_14_method_6_code_1 30 rfl rfl rfl)
theorem d_Mm_beside_63 : decode prog_14_method_6_code 63 = .ok (.goto 4, 3) := zo_167 (d := 0) (e := 4) (zd_b zq_prog_14_method_6_code_1 31 rfl rfl rfl) (zd_b zq_prog_14_method_6_code_2 0 rfl rfl rfl) (zd_b zq_prog_14_method_6_code_2 1 rfl rfl rfl) (by decide +kernel)
set_option maxHeartbeats 4000000 in
set_option maxRecDepth 100000 in
theorem C_Mm_beside0b (g : zG) (c : Nat) (hc : c < 108) (hq : 12 ≤ c) : CT g M_Mm_beside [.int (nI c), .int 0] [] (fun o cs1 => o = .inl (some (.int (nI (c - 12)))) ∧ cs1 = []) 0 0 := by
  refine z_of (by decide) rfl (Nat.le_of_ble_eq_true rfl) (fun w0 => ?_)
  refine r_lvE (lv2 := [(0, .int (nI c)), (1, .int 0)]) rfl ?_
  refine r_iload_n d_Mm_beside_0 rfl 0 rfl ?_
  refine r_bipush d_Mm_beside_1 (v := 12) (by decide) ?_
  refine r_irem d_Mm_beside_3 (v := nI (c % 12)) (by decide) (nI_mod12 (by omega)) ?_
  refine r_iload_n d_Mm_beside_4 rfl 1 rfl ?_
  refine r_iconst d_Mm_beside_5 (v := 1) (by decide) ?_
  refine r_icmp_ne (tgt := 13) d_Mm_beside_6 (by decide) (fun c_6 => ?_) (fun c_6 => ?_)
  · refine r_iload_n d_Mm_beside_13 rfl 1 rfl ?_
    refine r_iconst d_Mm_beside_14 (v := 2) (by decide) ?_
    refine r_icmp_ne (tgt := 22) d_Mm_beside_15 (by decide) (fun c_15 => ?_) (fun c_15 => ?_)
    · refine r_iconst d_Mm_beside_22 (v := 0) (by decide) ?_
      refine r_iadd d_Mm_beside_23 (v := nI (c % 12)) (Int32.add_zero _) ?_
      refine r_istore_n (lv' := [(2, .int (nI (c % 12))), (0, .int (nI c)), (1, .int 0)]) d_Mm_beside_24 rfl (by decide) rfl ?_
      refine r_iload_n d_Mm_beside_25 rfl 1 rfl ?_
      refine r_bipush d_Mm_beside_26 (v := 12) (by decide) ?_
      refine r_idiv d_Mm_beside_28 (v := nI (c / 12)) (by decide) (nI_div12 (by omega)) ?_
      refine r_iload_n d_Mm_beside_29 rfl 2 rfl ?_
      refine r_if_ne (tgt := 37) d_Mm_beside_30 (by decide) (fun c_30 => ?_) (fun c_30 => ?_)
      · exact absurd c_30 (by decide)
      · refine r_iconst d_Mm_beside_33 (v := (-1)) (by decide) ?_
        refine r_goto (tgt := 47) d_Mm_beside_34 (by decide) ?_
        refine r_iadd d_Mm_beside_47 (v := nI (c / 12 - 1)) (z_sub1 (by omega)) ?_
        refine r_istore_n (lv' := [(3, .int (nI (c / 12 - 1))), (2, .int (nI (c % 12))), (0, .int (nI c)), (1, .int 0)]) d_Mm_beside_48 rfl (by decide) rfl ?_
        refine r_iload_n d_Mm_beside_49 rfl 1 rfl ?_
        refine r_iload_n d_Mm_beside_50 rfl 0 rfl ?_
        refine r_callS (As := [.int (nI (c % 12)), .int (nI (c / 12 - 1))]) (rest := []) (csC := []) (is := []) ln_Mm_91 w_st_Mm_isCell ok_Mm_beside_Mm_isCell d_Mm_beside_51 (C_Mm_isCell g (nI (c % 12)) (nI (c / 12 - 1))) rfl rfl (Nat.le_of_ble_eq_true rfl) rfl (by decide) (by omega) (by omega) (fun E cs1 hx => ?_) (fun v cs1 hx => ?_)
        · exact absurd hx.1 (by simp)
        · obtain ⟨e1, rfl⟩ := hx
          rw [if_pos (z_cellN (by omega) (by omega))] at e1
          cases e1
          refine ⟨rfl, ?_⟩
          refine r_st (st2 := [.int 1]) rfl ?_
          refine r_cs (cs2 := []) rfl ?_
          refine r_if_eq (tgt := 66) d_Mm_beside_54 (by decide) (fun c_54 => ?_) (fun c_54 => ?_)
          · exact absurd c_54 (by decide)
          · refine r_bipush d_Mm_beside_57 (v := 12) (by decide) ?_
            refine r_iload_n d_Mm_beside_59 rfl 0 rfl ?_
            refine r_imul d_Mm_beside_60 (v := nI (12 * (c / 12 - 1))) (pk_mul _ _) ?_
            refine r_iload_n d_Mm_beside_61 rfl 1 rfl ?_
            refine r_iadd d_Mm_beside_62 (v := nI (c - 12)) (by rw [nI_add]; congr 1; omega) ?_
            refine r_goto (tgt := 67) d_Mm_beside_63 (by decide) ?_
            refine r_iret d_Mm_beside_67 rfl rfl ?_
            exact ⟨rfl, rfl⟩
    · exact absurd c_15 (by decide)
  · exact absurd c_6 (by decide)
theorem d_Mm_beside_9 : decode prog_14_method_6_code 9 = .ok (.iconst (-1), 1) := zo_2 (zd_b zq_prog_14_method_6_code_0 9 rfl rfl rfl)
theorem d_Mm_beside_10 : decode prog_14_method_6_code 10 = .ok (.goto 13, 3) := zo_167 (d := 0) (e := 13) (zd_b zq_prog_14_method_6_code_0 10 rfl rfl rfl) (zd_b zq_prog_14_method_6_code_0 11 rfl rfl rfl) (zd_b zq_prog_14_method_6_code_0 12 rfl rfl rfl) (by decide +kernel)
theorem d_Mm_beside_37 : decode prog_14_method_6_code 37 = .ok (.iload_n 1, 1) := zo_27 (zd_b zq_prog_14_method_6_code_1 5 rfl rfl rfl)
theorem d_Mm_beside_38 : decode prog_14_method_6_code 38 = .ok (.iconst 3, 1) := zo_6 (zd_b zq_prog_14_method_6_code_1 6 rfl rfl rfl)
theorem d_Mm_beside_39 : decode prog_14_method_6_code 39 = .ok (.if_icmp .ne 7, 3) := zo_160 (d := 0) (e := 7) (zd_b zq_prog_14_method_6_code_1 7 rfl rfl rfl) (zd_b zq_prog_14_method_6_code_1 8 rfl rfl rfl) (zd_b zq_prog_14_method_6_code_1 9 rfl rfl rfl) (by decide +kernel)
theorem d_Mm_beside_46 : decode prog_14_method_6_code 46 = .ok (.iconst 0, 1) := zo_3 (zd_b zq_prog_14_method_6_code_1 14 rfl rfl rfl)
set_option maxHeartbeats 4000000 in
set_option maxRecDepth 100000 in
theorem C_Mm_beside1a (g : zG) (c : Nat) (hc : c < 108) (hq : c % 12 = 0) : CT g M_Mm_beside [.int (nI c), .int 1] [] (fun o cs1 => o = .inl (some (.int (-1))) ∧ cs1 = []) 0 0 := by
  refine z_of (by decide) rfl (Nat.le_of_ble_eq_true rfl) (fun w0 => ?_)
  refine r_lvE (lv2 := [(0, .int (nI c)), (1, .int 1)]) rfl ?_
  refine r_iload_n d_Mm_beside_0 rfl 0 rfl ?_
  refine r_bipush d_Mm_beside_1 (v := 12) (by decide) ?_
  refine r_irem d_Mm_beside_3 (v := nI (c % 12)) (by decide) (nI_mod12 (by omega)) ?_
  refine r_iload_n d_Mm_beside_4 rfl 1 rfl ?_
  refine r_iconst d_Mm_beside_5 (v := 1) (by decide) ?_
  refine r_icmp_ne (tgt := 13) d_Mm_beside_6 (by decide) (fun c_6 => ?_) (fun c_6 => ?_)
  · exact absurd c_6 (by decide)
  · refine r_iconst d_Mm_beside_9 (v := (-1)) (by decide) ?_
    refine r_goto (tgt := 23) d_Mm_beside_10 (by decide) ?_
    refine r_iadd d_Mm_beside_23 (v := (-1)) (by rw [hq]; rfl) ?_
    refine r_istore_n (lv' := [(2, .int (-1)), (0, .int (nI c)), (1, .int 1)]) d_Mm_beside_24 rfl (by decide) rfl ?_
    refine r_iload_n d_Mm_beside_25 rfl 1 rfl ?_
    refine r_bipush d_Mm_beside_26 (v := 12) (by decide) ?_
    refine r_idiv d_Mm_beside_28 (v := nI (c / 12)) (by decide) (nI_div12 (by omega)) ?_
    refine r_iload_n d_Mm_beside_29 rfl 2 rfl ?_
    refine r_if_ne (tgt := 37) d_Mm_beside_30 (by decide) (fun c_30 => ?_) (fun c_30 => ?_)
    · refine r_iload_n d_Mm_beside_37 rfl 2 rfl ?_
      refine r_iconst d_Mm_beside_38 (v := 3) (by decide) ?_
      refine r_icmp_ne (tgt := 46) d_Mm_beside_39 (by decide) (fun c_39 => ?_) (fun c_39 => ?_)
      · refine r_iconst d_Mm_beside_46 (v := 0) (by decide) ?_
        refine r_iadd d_Mm_beside_47 (v := nI (c / 12)) (Int32.add_zero _) ?_
        refine r_istore_n (lv' := [(3, .int (nI (c / 12))), (2, .int (-1)), (0, .int (nI c)), (1, .int 1)]) d_Mm_beside_48 rfl (by decide) rfl ?_
        refine r_iload_n d_Mm_beside_49 rfl 1 rfl ?_
        refine r_iload_n d_Mm_beside_50 rfl 0 rfl ?_
        refine r_callS (As := [.int (-1), .int (nI (c / 12))]) (rest := []) (csC := []) (is := []) ln_Mm_91 w_st_Mm_isCell ok_Mm_beside_Mm_isCell d_Mm_beside_51 (C_Mm_isCell g (-1) (nI (c / 12))) rfl rfl (Nat.le_of_ble_eq_true rfl) rfl (by decide) (by omega) (by omega) (fun E cs1 hx => ?_) (fun v cs1 hx => ?_)
        · exact absurd hx.1 (by simp)
        · obtain ⟨e1, rfl⟩ := hx
          rw [if_neg (fun q => absurd q.1 (by decide))] at e1
          cases e1
          refine ⟨rfl, ?_⟩
          refine r_st (st2 := [.int 0]) rfl ?_
          refine r_cs (cs2 := []) rfl ?_
          refine r_if_eq (tgt := 66) d_Mm_beside_54 (by decide) (fun c_54 => ?_) (fun c_54 => ?_)
          · refine r_iconst d_Mm_beside_66 (v := (-1)) (by decide) ?_
            refine r_iret d_Mm_beside_67 rfl rfl ?_
            exact ⟨rfl, rfl⟩
          · exact absurd c_54 (by decide)
      · exact absurd c_39 (by decide)
    · exact absurd c_30 (by decide)
set_option maxHeartbeats 4000000 in
set_option maxRecDepth 100000 in
theorem C_Mm_beside1b (g : zG) (c : Nat) (hc : c < 108) (hq : 0 < c % 12) : CT g M_Mm_beside [.int (nI c), .int 1] [] (fun o cs1 => o = .inl (some (.int (nI (c - 1)))) ∧ cs1 = []) 0 0 := by
  refine z_of (by decide) rfl (Nat.le_of_ble_eq_true rfl) (fun w0 => ?_)
  refine r_lvE (lv2 := [(0, .int (nI c)), (1, .int 1)]) rfl ?_
  refine r_iload_n d_Mm_beside_0 rfl 0 rfl ?_
  refine r_bipush d_Mm_beside_1 (v := 12) (by decide) ?_
  refine r_irem d_Mm_beside_3 (v := nI (c % 12)) (by decide) (nI_mod12 (by omega)) ?_
  refine r_iload_n d_Mm_beside_4 rfl 1 rfl ?_
  refine r_iconst d_Mm_beside_5 (v := 1) (by decide) ?_
  refine r_icmp_ne (tgt := 13) d_Mm_beside_6 (by decide) (fun c_6 => ?_) (fun c_6 => ?_)
  · exact absurd c_6 (by decide)
  · refine r_iconst d_Mm_beside_9 (v := (-1)) (by decide) ?_
    refine r_goto (tgt := 23) d_Mm_beside_10 (by decide) ?_
    refine r_iadd d_Mm_beside_23 (v := nI (c % 12 - 1)) (z_sub1 (by omega)) ?_
    refine r_istore_n (lv' := [(2, .int (nI (c % 12 - 1))), (0, .int (nI c)), (1, .int 1)]) d_Mm_beside_24 rfl (by decide) rfl ?_
    refine r_iload_n d_Mm_beside_25 rfl 1 rfl ?_
    refine r_bipush d_Mm_beside_26 (v := 12) (by decide) ?_
    refine r_idiv d_Mm_beside_28 (v := nI (c / 12)) (by decide) (nI_div12 (by omega)) ?_
    refine r_iload_n d_Mm_beside_29 rfl 2 rfl ?_
    refine r_if_ne (tgt := 37) d_Mm_beside_30 (by decide) (fun c_30 => ?_) (fun c_30 => ?_)
    · refine r_iload_n d_Mm_beside_37 rfl 2 rfl ?_
      refine r_iconst d_Mm_beside_38 (v := 3) (by decide) ?_
      refine r_icmp_ne (tgt := 46) d_Mm_beside_39 (by decide) (fun c_39 => ?_) (fun c_39 => ?_)
      · refine r_iconst d_Mm_beside_46 (v := 0) (by decide) ?_
        refine r_iadd d_Mm_beside_47 (v := nI (c / 12)) (Int32.add_zero _) ?_
        refine r_istore_n (lv' := [(3, .int (nI (c / 12))), (2, .int (nI (c % 12 - 1))), (0, .int (nI c)), (1, .int 1)]) d_Mm_beside_48 rfl (by decide) rfl ?_
        refine r_iload_n d_Mm_beside_49 rfl 1 rfl ?_
        refine r_iload_n d_Mm_beside_50 rfl 0 rfl ?_
        refine r_callS (As := [.int (nI (c % 12 - 1)), .int (nI (c / 12))]) (rest := []) (csC := []) (is := []) ln_Mm_91 w_st_Mm_isCell ok_Mm_beside_Mm_isCell d_Mm_beside_51 (C_Mm_isCell g (nI (c % 12 - 1)) (nI (c / 12))) rfl rfl (Nat.le_of_ble_eq_true rfl) rfl (by decide) (by omega) (by omega) (fun E cs1 hx => ?_) (fun v cs1 hx => ?_)
        · exact absurd hx.1 (by simp)
        · obtain ⟨e1, rfl⟩ := hx
          rw [if_pos (z_cellN (by omega) (by omega))] at e1
          cases e1
          refine ⟨rfl, ?_⟩
          refine r_st (st2 := [.int 1]) rfl ?_
          refine r_cs (cs2 := []) rfl ?_
          refine r_if_eq (tgt := 66) d_Mm_beside_54 (by decide) (fun c_54 => ?_) (fun c_54 => ?_)
          · exact absurd c_54 (by decide)
          · refine r_bipush d_Mm_beside_57 (v := 12) (by decide) ?_
            refine r_iload_n d_Mm_beside_59 rfl 0 rfl ?_
            refine r_imul d_Mm_beside_60 (v := nI (12 * (c / 12))) (pk_mul _ _) ?_
            refine r_iload_n d_Mm_beside_61 rfl 1 rfl ?_
            refine r_iadd d_Mm_beside_62 (v := nI (c - 1)) (by rw [nI_add]; congr 1; omega) ?_
            refine r_goto (tgt := 67) d_Mm_beside_63 (by decide) ?_
            refine r_iret d_Mm_beside_67 rfl rfl ?_
            exact ⟨rfl, rfl⟩
      · exact absurd c_39 (by decide)
    · exact absurd c_30 (by decide)
theorem d_Mm_beside_18 : decode prog_14_method_6_code 18 = .ok (.iconst 1, 1) := zo_4 (zd_b zq_prog_14_method_6_code_0 18 rfl rfl rfl)
theorem d_Mm_beside_19 : decode prog_14_method_6_code 19 = .ok (.goto 4, 3) := zo_167 (d := 0) (e := 4) (zd_b zq_prog_14_method_6_code_0 19 rfl rfl rfl) (zd_b zq_prog_14_method_6_code_0 20 rfl rfl rfl) (zd_b zq_prog_14_method_6_code_0 21 rfl rfl rfl) (by decide +kernel)
set_option maxHeartbeats 4000000 in
set_option maxRecDepth 100000 in
theorem C_Mm_beside2a (g : zG) (c : Nat) (hc : c < 108) (hq : 11 ≤ c % 12) : CT g M_Mm_beside [.int (nI c), .int 2] [] (fun o cs1 => o = .inl (some (.int (-1))) ∧ cs1 = []) 0 0 := by
  refine z_of (by decide) rfl (Nat.le_of_ble_eq_true rfl) (fun w0 => ?_)
  refine r_lvE (lv2 := [(0, .int (nI c)), (1, .int 2)]) rfl ?_
  refine r_iload_n d_Mm_beside_0 rfl 0 rfl ?_
  refine r_bipush d_Mm_beside_1 (v := 12) (by decide) ?_
  refine r_irem d_Mm_beside_3 (v := nI (c % 12)) (by decide) (nI_mod12 (by omega)) ?_
  refine r_iload_n d_Mm_beside_4 rfl 1 rfl ?_
  refine r_iconst d_Mm_beside_5 (v := 1) (by decide) ?_
  refine r_icmp_ne (tgt := 13) d_Mm_beside_6 (by decide) (fun c_6 => ?_) (fun c_6 => ?_)
  · refine r_iload_n d_Mm_beside_13 rfl 1 rfl ?_
    refine r_iconst d_Mm_beside_14 (v := 2) (by decide) ?_
    refine r_icmp_ne (tgt := 22) d_Mm_beside_15 (by decide) (fun c_15 => ?_) (fun c_15 => ?_)
    · exact absurd c_15 (by decide)
    · refine r_iconst d_Mm_beside_18 (v := 1) (by decide) ?_
      refine r_goto (tgt := 23) d_Mm_beside_19 (by decide) ?_
      refine r_iadd d_Mm_beside_23 (v := 12) (by rw [show c % 12 = 11 by omega]; rfl) ?_
      refine r_istore_n (lv' := [(2, .int 12), (0, .int (nI c)), (1, .int 2)]) d_Mm_beside_24 rfl (by decide) rfl ?_
      refine r_iload_n d_Mm_beside_25 rfl 1 rfl ?_
      refine r_bipush d_Mm_beside_26 (v := 12) (by decide) ?_
      refine r_idiv d_Mm_beside_28 (v := nI (c / 12)) (by decide) (nI_div12 (by omega)) ?_
      refine r_iload_n d_Mm_beside_29 rfl 2 rfl ?_
      refine r_if_ne (tgt := 37) d_Mm_beside_30 (by decide) (fun c_30 => ?_) (fun c_30 => ?_)
      · refine r_iload_n d_Mm_beside_37 rfl 2 rfl ?_
        refine r_iconst d_Mm_beside_38 (v := 3) (by decide) ?_
        refine r_icmp_ne (tgt := 46) d_Mm_beside_39 (by decide) (fun c_39 => ?_) (fun c_39 => ?_)
        · refine r_iconst d_Mm_beside_46 (v := 0) (by decide) ?_
          refine r_iadd d_Mm_beside_47 (v := nI (c / 12)) (Int32.add_zero _) ?_
          refine r_istore_n (lv' := [(3, .int (nI (c / 12))), (2, .int 12), (0, .int (nI c)), (1, .int 2)]) d_Mm_beside_48 rfl (by decide) rfl ?_
          refine r_iload_n d_Mm_beside_49 rfl 1 rfl ?_
          refine r_iload_n d_Mm_beside_50 rfl 0 rfl ?_
          refine r_callS (As := [.int 12, .int (nI (c / 12))]) (rest := []) (csC := []) (is := []) ln_Mm_91 w_st_Mm_isCell ok_Mm_beside_Mm_isCell d_Mm_beside_51 (C_Mm_isCell g 12 (nI (c / 12))) rfl rfl (Nat.le_of_ble_eq_true rfl) rfl (by decide) (by omega) (by omega) (fun E cs1 hx => ?_) (fun v cs1 hx => ?_)
          · exact absurd hx.1 (by simp)
          · obtain ⟨e1, rfl⟩ := hx
            rw [if_neg (fun q => absurd q.2.1 (by decide))] at e1
            cases e1
            refine ⟨rfl, ?_⟩
            refine r_st (st2 := [.int 0]) rfl ?_
            refine r_cs (cs2 := []) rfl ?_
            refine r_if_eq (tgt := 66) d_Mm_beside_54 (by decide) (fun c_54 => ?_) (fun c_54 => ?_)
            · refine r_iconst d_Mm_beside_66 (v := (-1)) (by decide) ?_
              refine r_iret d_Mm_beside_67 rfl rfl ?_
              exact ⟨rfl, rfl⟩
            · exact absurd c_54 (by decide)
        · exact absurd c_39 (by decide)
      · exact absurd c_30 (by decide)
  · exact absurd c_6 (by decide)
set_option maxHeartbeats 4000000 in
set_option maxRecDepth 100000 in
theorem C_Mm_beside2b (g : zG) (c : Nat) (hc : c < 108) (hq : c % 12 < 11) : CT g M_Mm_beside [.int (nI c), .int 2] [] (fun o cs1 => o = .inl (some (.int (nI (c + 1)))) ∧ cs1 = []) 0 0 := by
  refine z_of (by decide) rfl (Nat.le_of_ble_eq_true rfl) (fun w0 => ?_)
  refine r_lvE (lv2 := [(0, .int (nI c)), (1, .int 2)]) rfl ?_
  refine r_iload_n d_Mm_beside_0 rfl 0 rfl ?_
  refine r_bipush d_Mm_beside_1 (v := 12) (by decide) ?_
  refine r_irem d_Mm_beside_3 (v := nI (c % 12)) (by decide) (nI_mod12 (by omega)) ?_
  refine r_iload_n d_Mm_beside_4 rfl 1 rfl ?_
  refine r_iconst d_Mm_beside_5 (v := 1) (by decide) ?_
  refine r_icmp_ne (tgt := 13) d_Mm_beside_6 (by decide) (fun c_6 => ?_) (fun c_6 => ?_)
  · refine r_iload_n d_Mm_beside_13 rfl 1 rfl ?_
    refine r_iconst d_Mm_beside_14 (v := 2) (by decide) ?_
    refine r_icmp_ne (tgt := 22) d_Mm_beside_15 (by decide) (fun c_15 => ?_) (fun c_15 => ?_)
    · exact absurd c_15 (by decide)
    · refine r_iconst d_Mm_beside_18 (v := 1) (by decide) ?_
      refine r_goto (tgt := 23) d_Mm_beside_19 (by decide) ?_
      refine r_iadd d_Mm_beside_23 (v := nI (c % 12 + 1)) (nI_add _ _) ?_
      refine r_istore_n (lv' := [(2, .int (nI (c % 12 + 1))), (0, .int (nI c)), (1, .int 2)]) d_Mm_beside_24 rfl (by decide) rfl ?_
      refine r_iload_n d_Mm_beside_25 rfl 1 rfl ?_
      refine r_bipush d_Mm_beside_26 (v := 12) (by decide) ?_
      refine r_idiv d_Mm_beside_28 (v := nI (c / 12)) (by decide) (nI_div12 (by omega)) ?_
      refine r_iload_n d_Mm_beside_29 rfl 2 rfl ?_
      refine r_if_ne (tgt := 37) d_Mm_beside_30 (by decide) (fun c_30 => ?_) (fun c_30 => ?_)
      · refine r_iload_n d_Mm_beside_37 rfl 2 rfl ?_
        refine r_iconst d_Mm_beside_38 (v := 3) (by decide) ?_
        refine r_icmp_ne (tgt := 46) d_Mm_beside_39 (by decide) (fun c_39 => ?_) (fun c_39 => ?_)
        · refine r_iconst d_Mm_beside_46 (v := 0) (by decide) ?_
          refine r_iadd d_Mm_beside_47 (v := nI (c / 12)) (Int32.add_zero _) ?_
          refine r_istore_n (lv' := [(3, .int (nI (c / 12))), (2, .int (nI (c % 12 + 1))), (0, .int (nI c)), (1, .int 2)]) d_Mm_beside_48 rfl (by decide) rfl ?_
          refine r_iload_n d_Mm_beside_49 rfl 1 rfl ?_
          refine r_iload_n d_Mm_beside_50 rfl 0 rfl ?_
          refine r_callS (As := [.int (nI (c % 12 + 1)), .int (nI (c / 12))]) (rest := []) (csC := []) (is := []) ln_Mm_91 w_st_Mm_isCell ok_Mm_beside_Mm_isCell d_Mm_beside_51 (C_Mm_isCell g (nI (c % 12 + 1)) (nI (c / 12))) rfl rfl (Nat.le_of_ble_eq_true rfl) rfl (by decide) (by omega) (by omega) (fun E cs1 hx => ?_) (fun v cs1 hx => ?_)
          · exact absurd hx.1 (by simp)
          · obtain ⟨e1, rfl⟩ := hx
            rw [if_pos (z_cellN (by omega) (by omega))] at e1
            cases e1
            refine ⟨rfl, ?_⟩
            refine r_st (st2 := [.int 1]) rfl ?_
            refine r_cs (cs2 := []) rfl ?_
            refine r_if_eq (tgt := 66) d_Mm_beside_54 (by decide) (fun c_54 => ?_) (fun c_54 => ?_)
            · exact absurd c_54 (by decide)
            · refine r_bipush d_Mm_beside_57 (v := 12) (by decide) ?_
              refine r_iload_n d_Mm_beside_59 rfl 0 rfl ?_
              refine r_imul d_Mm_beside_60 (v := nI (12 * (c / 12))) (pk_mul _ _) ?_
              refine r_iload_n d_Mm_beside_61 rfl 1 rfl ?_
              refine r_iadd d_Mm_beside_62 (v := nI (c + 1)) (by rw [nI_add]; congr 1; omega) ?_
              refine r_goto (tgt := 67) d_Mm_beside_63 (by decide) ?_
              refine r_iret d_Mm_beside_67 rfl rfl ?_
              exact ⟨rfl, rfl⟩
        · exact absurd c_39 (by decide)
      · exact absurd c_30 (by decide)
  · exact absurd c_6 (by decide)
theorem d_Mm_beside_42 : decode prog_14_method_6_code 42 = .ok (.iconst 1, 1) := zo_4 (zd_b zq_prog_14_method_6_code_1 10 rfl rfl rfl)
theorem d_Mm_beside_43 : decode prog_14_method_6_code 43 = .ok (.goto 4, 3) := zo_167 (d := 0) (e := 4) (zd_b zq_prog_14_method_6_code_1 11 rfl rfl rfl) (zd_b zq_prog_14_method_6_code_1 12 rfl rfl rfl) (zd_b zq_prog_14_method_6_code_1 13 rfl rfl rfl) (by decide +kernel)
set_option maxHeartbeats 4000000 in
set_option maxRecDepth 100000 in
theorem C_Mm_beside3a (g : zG) (c : Nat) (hc : c < 108) (hq : 96 ≤ c) : CT g M_Mm_beside [.int (nI c), .int 3] [] (fun o cs1 => o = .inl (some (.int (-1))) ∧ cs1 = []) 0 0 := by
  refine z_of (by decide) rfl (Nat.le_of_ble_eq_true rfl) (fun w0 => ?_)
  refine r_lvE (lv2 := [(0, .int (nI c)), (1, .int 3)]) rfl ?_
  refine r_iload_n d_Mm_beside_0 rfl 0 rfl ?_
  refine r_bipush d_Mm_beside_1 (v := 12) (by decide) ?_
  refine r_irem d_Mm_beside_3 (v := nI (c % 12)) (by decide) (nI_mod12 (by omega)) ?_
  refine r_iload_n d_Mm_beside_4 rfl 1 rfl ?_
  refine r_iconst d_Mm_beside_5 (v := 1) (by decide) ?_
  refine r_icmp_ne (tgt := 13) d_Mm_beside_6 (by decide) (fun c_6 => ?_) (fun c_6 => ?_)
  · refine r_iload_n d_Mm_beside_13 rfl 1 rfl ?_
    refine r_iconst d_Mm_beside_14 (v := 2) (by decide) ?_
    refine r_icmp_ne (tgt := 22) d_Mm_beside_15 (by decide) (fun c_15 => ?_) (fun c_15 => ?_)
    · refine r_iconst d_Mm_beside_22 (v := 0) (by decide) ?_
      refine r_iadd d_Mm_beside_23 (v := nI (c % 12)) (Int32.add_zero _) ?_
      refine r_istore_n (lv' := [(2, .int (nI (c % 12))), (0, .int (nI c)), (1, .int 3)]) d_Mm_beside_24 rfl (by decide) rfl ?_
      refine r_iload_n d_Mm_beside_25 rfl 1 rfl ?_
      refine r_bipush d_Mm_beside_26 (v := 12) (by decide) ?_
      refine r_idiv d_Mm_beside_28 (v := nI (c / 12)) (by decide) (nI_div12 (by omega)) ?_
      refine r_iload_n d_Mm_beside_29 rfl 2 rfl ?_
      refine r_if_ne (tgt := 37) d_Mm_beside_30 (by decide) (fun c_30 => ?_) (fun c_30 => ?_)
      · refine r_iload_n d_Mm_beside_37 rfl 2 rfl ?_
        refine r_iconst d_Mm_beside_38 (v := 3) (by decide) ?_
        refine r_icmp_ne (tgt := 46) d_Mm_beside_39 (by decide) (fun c_39 => ?_) (fun c_39 => ?_)
        · exact absurd c_39 (by decide)
        · refine r_iconst d_Mm_beside_42 (v := 1) (by decide) ?_
          refine r_goto (tgt := 47) d_Mm_beside_43 (by decide) ?_
          refine r_iadd d_Mm_beside_47 (v := 9) (by rw [show c / 12 = 8 by omega]; rfl) ?_
          refine r_istore_n (lv' := [(3, .int 9), (2, .int (nI (c % 12))), (0, .int (nI c)), (1, .int 3)]) d_Mm_beside_48 rfl (by decide) rfl ?_
          refine r_iload_n d_Mm_beside_49 rfl 1 rfl ?_
          refine r_iload_n d_Mm_beside_50 rfl 0 rfl ?_
          refine r_callS (As := [.int (nI (c % 12)), .int 9]) (rest := []) (csC := []) (is := []) ln_Mm_91 w_st_Mm_isCell ok_Mm_beside_Mm_isCell d_Mm_beside_51 (C_Mm_isCell g (nI (c % 12)) 9) rfl rfl (Nat.le_of_ble_eq_true rfl) rfl (by decide) (by omega) (by omega) (fun E cs1 hx => ?_) (fun v cs1 hx => ?_)
          · exact absurd hx.1 (by simp)
          · obtain ⟨e1, rfl⟩ := hx
            rw [if_neg (fun q => absurd q.2.2.2 (by decide))] at e1
            cases e1
            refine ⟨rfl, ?_⟩
            refine r_st (st2 := [.int 0]) rfl ?_
            refine r_cs (cs2 := []) rfl ?_
            refine r_if_eq (tgt := 66) d_Mm_beside_54 (by decide) (fun c_54 => ?_) (fun c_54 => ?_)
            · refine r_iconst d_Mm_beside_66 (v := (-1)) (by decide) ?_
              refine r_iret d_Mm_beside_67 rfl rfl ?_
              exact ⟨rfl, rfl⟩
            · exact absurd c_54 (by decide)
      · exact absurd c_30 (by decide)
    · exact absurd c_15 (by decide)
  · exact absurd c_6 (by decide)
set_option maxHeartbeats 4000000 in
set_option maxRecDepth 100000 in
theorem C_Mm_beside3b (g : zG) (c : Nat) (hc : c < 108) (hq : c < 96) : CT g M_Mm_beside [.int (nI c), .int 3] [] (fun o cs1 => o = .inl (some (.int (nI (c + 12)))) ∧ cs1 = []) 0 0 := by
  refine z_of (by decide) rfl (Nat.le_of_ble_eq_true rfl) (fun w0 => ?_)
  refine r_lvE (lv2 := [(0, .int (nI c)), (1, .int 3)]) rfl ?_
  refine r_iload_n d_Mm_beside_0 rfl 0 rfl ?_
  refine r_bipush d_Mm_beside_1 (v := 12) (by decide) ?_
  refine r_irem d_Mm_beside_3 (v := nI (c % 12)) (by decide) (nI_mod12 (by omega)) ?_
  refine r_iload_n d_Mm_beside_4 rfl 1 rfl ?_
  refine r_iconst d_Mm_beside_5 (v := 1) (by decide) ?_
  refine r_icmp_ne (tgt := 13) d_Mm_beside_6 (by decide) (fun c_6 => ?_) (fun c_6 => ?_)
  · refine r_iload_n d_Mm_beside_13 rfl 1 rfl ?_
    refine r_iconst d_Mm_beside_14 (v := 2) (by decide) ?_
    refine r_icmp_ne (tgt := 22) d_Mm_beside_15 (by decide) (fun c_15 => ?_) (fun c_15 => ?_)
    · refine r_iconst d_Mm_beside_22 (v := 0) (by decide) ?_
      refine r_iadd d_Mm_beside_23 (v := nI (c % 12)) (Int32.add_zero _) ?_
      refine r_istore_n (lv' := [(2, .int (nI (c % 12))), (0, .int (nI c)), (1, .int 3)]) d_Mm_beside_24 rfl (by decide) rfl ?_
      refine r_iload_n d_Mm_beside_25 rfl 1 rfl ?_
      refine r_bipush d_Mm_beside_26 (v := 12) (by decide) ?_
      refine r_idiv d_Mm_beside_28 (v := nI (c / 12)) (by decide) (nI_div12 (by omega)) ?_
      refine r_iload_n d_Mm_beside_29 rfl 2 rfl ?_
      refine r_if_ne (tgt := 37) d_Mm_beside_30 (by decide) (fun c_30 => ?_) (fun c_30 => ?_)
      · refine r_iload_n d_Mm_beside_37 rfl 2 rfl ?_
        refine r_iconst d_Mm_beside_38 (v := 3) (by decide) ?_
        refine r_icmp_ne (tgt := 46) d_Mm_beside_39 (by decide) (fun c_39 => ?_) (fun c_39 => ?_)
        · exact absurd c_39 (by decide)
        · refine r_iconst d_Mm_beside_42 (v := 1) (by decide) ?_
          refine r_goto (tgt := 47) d_Mm_beside_43 (by decide) ?_
          refine r_iadd d_Mm_beside_47 (v := nI (c / 12 + 1)) (nI_add _ _) ?_
          refine r_istore_n (lv' := [(3, .int (nI (c / 12 + 1))), (2, .int (nI (c % 12))), (0, .int (nI c)), (1, .int 3)]) d_Mm_beside_48 rfl (by decide) rfl ?_
          refine r_iload_n d_Mm_beside_49 rfl 1 rfl ?_
          refine r_iload_n d_Mm_beside_50 rfl 0 rfl ?_
          refine r_callS (As := [.int (nI (c % 12)), .int (nI (c / 12 + 1))]) (rest := []) (csC := []) (is := []) ln_Mm_91 w_st_Mm_isCell ok_Mm_beside_Mm_isCell d_Mm_beside_51 (C_Mm_isCell g (nI (c % 12)) (nI (c / 12 + 1))) rfl rfl (Nat.le_of_ble_eq_true rfl) rfl (by decide) (by omega) (by omega) (fun E cs1 hx => ?_) (fun v cs1 hx => ?_)
          · exact absurd hx.1 (by simp)
          · obtain ⟨e1, rfl⟩ := hx
            rw [if_pos (z_cellN (by omega) (by omega))] at e1
            cases e1
            refine ⟨rfl, ?_⟩
            refine r_st (st2 := [.int 1]) rfl ?_
            refine r_cs (cs2 := []) rfl ?_
            refine r_if_eq (tgt := 66) d_Mm_beside_54 (by decide) (fun c_54 => ?_) (fun c_54 => ?_)
            · exact absurd c_54 (by decide)
            · refine r_bipush d_Mm_beside_57 (v := 12) (by decide) ?_
              refine r_iload_n d_Mm_beside_59 rfl 0 rfl ?_
              refine r_imul d_Mm_beside_60 (v := nI (12 * (c / 12 + 1))) (pk_mul _ _) ?_
              refine r_iload_n d_Mm_beside_61 rfl 1 rfl ?_
              refine r_iadd d_Mm_beside_62 (v := nI (c + 12)) (by rw [nI_add]; congr 1; omega) ?_
              refine r_goto (tgt := 67) d_Mm_beside_63 (by decide) ?_
              refine r_iret d_Mm_beside_67 rfl rfl ?_
              exact ⟨rfl, rfl⟩
      · exact absurd c_30 (by decide)
    · exact absurd c_15 (by decide)
  · exact absurd c_6 (by decide)
abbrev M_Mm_thrown : zM := (⟨"IronpourModel", "thrown", "()I"⟩, prog_14_method_2_code, 1, (Option.some FieldType.int), 1, 20, [])
theorem d_Mm_thrown_0 : decode prog_14_method_2_code 0 = .ok (.aload_n 0, 1) := zo_42 (zd_b zq_prog_14_method_2_code_0 0 rfl rfl rfl)
theorem d_Mm_thrown_1 : decode prog_14_method_2_code 1 = .ok (.getfield 84, 3) := zo_180 (d := 0) (e := 84) (zd_b zq_prog_14_method_2_code_0 1 rfl rfl rfl) (zd_b zq_prog_14_method_2_code_0 2 rfl rfl rfl) (zd_b zq_prog_14_method_2_code_0 3 rfl rfl rfl)
theorem d_Mm_thrown_4 : decode prog_14_method_2_code 4 = .ok (.ireturn, 1) := zo_172 (zd_b zq_prog_14_method_2_code_0 4 rfl rfl rfl)
set_option maxHeartbeats 4000000 in
set_option maxRecDepth 100000 in
theorem C_Mm_thrown (g : zG) (m mp mf mh mn mt mz mc_ mq mgr ml mi mr mm mu mk mx : Nat) (th pt cl wa co_ fi bu ho lh mg wd fpi fal : Int32) (po de : Int64) : CT g M_Mm_thrown [.ref m] [(m, .inr (12, [.int th, .ref mp, .int pt, .ref mf, .ref mh, .ref mn, .ref mt, .ref mz, .ref mc_, .ref mq, .ref mgr, .int cl, .int wa, .int co_, .int fi, .int bu, .int ho, .ref ml, .ref mi, .ref mr, .int lh, .int mg, .int wd, .int fpi, .int fal, .ref mm, .ref mu, .ref mk, .ref mx, .long po, .long de]))] (fun o cs1 => o = .inl (some (.int th)) ∧ cs1 = [(m, .inr (12, [.int th, .ref mp, .int pt, .ref mf, .ref mh, .ref mn, .ref mt, .ref mz, .ref mc_, .ref mq, .ref mgr, .int cl, .int wa, .int co_, .int fi, .int bu, .int ho, .ref ml, .ref mi, .ref mr, .int lh, .int mg, .int wd, .int fpi, .int fal, .ref mm, .ref mu, .ref mk, .ref mx, .long po, .long de]))]) 0 0 := by
  refine z_of (by decide) rfl (Nat.le_of_ble_eq_true rfl) (fun w0 => ?_)
  refine r_lvE (lv2 := [(0, .ref m)]) rfl ?_
  refine r_aload_n d_Mm_thrown_0 rfl 0 rfl ?_
  refine r_get fs_Mm_84 d_Mm_thrown_1 (q0 := 0) rfl rfl ?_
  refine r_iret d_Mm_thrown_4 rfl rfl ?_
  exact ⟨rfl, rfl⟩
abbrev M_Mm_cellsIn : zM := (⟨"IronpourModel", "cellsIn", "([C)I"⟩, prog_14_method_19_code, 3, (Option.some FieldType.int), 2, 40, [])
theorem d_Mm_cellsIn_4 : decode prog_14_method_19_code 4 = .ok (.iload_n 2, 1) := zo_28 (zd_b zq_prog_14_method_19_code_0 4 rfl rfl rfl)
theorem d_Mm_cellsIn_5 : decode prog_14_method_19_code 5 = .ok (.bipush 108, 2) := zo_16 (d := 108) (zd_b zq_prog_14_method_19_code_0 5 rfl rfl rfl) (zd_b zq_prog_14_method_19_code_0 6 rfl rfl rfl) (by decide +kernel)
theorem d_Mm_cellsIn_7 : decode prog_14_method_19_code 7 = .ok (.if_icmp .ge 26, 3) := zo_162 (d := 0) (e := 26) (zd_b zq_prog_14_method_19_code_0 7 rfl rfl rfl) (zd_b zq_prog_14_method_19_code_0 8 rfl rfl rfl) (zd_b zq_prog_14_method_19_code_0 9 rfl rfl rfl) (by decide +kernel)
theorem d_Mm_cellsIn_33 : decode prog_14_method_19_code 33 = .ok (.iload_n 1, 1) := zo_27 (zd_b zq_prog_14_method_19_code_1 1 rfl rfl rfl)
theorem d_Mm_cellsIn_34 : decode prog_14_method_19_code 34 = .ok (.ireturn, 1) := zo_172 (zd_b zq_prog_14_method_19_code_1 2 rfl rfl rfl)
theorem d_Mm_cellsIn_10 : decode prog_14_method_19_code 10 = .ok (.iload_n 1, 1) := zo_27 (zd_b zq_prog_14_method_19_code_0 10 rfl rfl rfl)
theorem d_Mm_cellsIn_11 : decode prog_14_method_19_code 11 = .ok (.aload_n 0, 1) := zo_42 (zd_b zq_prog_14_method_19_code_0 11 rfl rfl rfl)
theorem d_Mm_cellsIn_12 : decode prog_14_method_19_code 12 = .ok (.iload_n 2, 1) := zo_28 (zd_b zq_prog_14_method_19_code_0 12 rfl rfl rfl)
theorem d_Mm_cellsIn_13 : decode prog_14_method_19_code 13 = .ok (.caload, 1) := zo_52 (zd_b zq_prog_14_method_19_code_0 13 rfl rfl rfl)
theorem d_Mm_cellsIn_14 : decode prog_14_method_19_code 14 = .ok (.invokestatic 107, 3) := zo_184 (d := 0) (e := 107) (zd_b zq_prog_14_method_19_code_0 14 rfl rfl rfl) (zd_b zq_prog_14_method_19_code_0 15 rfl rfl rfl) (zd_b zq_prog_14_method_19_code_0 16 rfl rfl rfl)
theorem ok_Mm_cellsIn_Mm_isMetal : z_ok M_Mm_cellsIn M_Mm_isMetal 1 := ⟨z_mj7 (i := 214) rfl (by decide +kernel), rfl, ⟨by decide +kernel, by decide +kernel, by decide +kernel⟩, ⟨by decide, by decide⟩, z_mj1 (i := 14) rfl (by decide +kernel), rfl⟩
theorem ln_Mm_107 : Cond.methodLink "IronpourModel" 107 M_Mm_isMetal.1 ∈ z_gw := z_mj7 (i := 212) rfl (by decide +kernel)
theorem w_st_Mm_isMetal : Cond.static M_Mm_isMetal.1 ∈ z_gw := z_mj7 (i := 213) rfl (by decide +kernel)
theorem d_Mm_cellsIn_17 : decode prog_14_method_19_code 17 = .ok (.ifCond .eq 7, 3) := zo_153 (d := 0) (e := 7) (zd_b zq_prog_14_method_19_code_0 17 rfl rfl rfl) (zd_b zq_prog_14_method_19_code_0 18 rfl rfl rfl) (zd_b zq_prog_14_method_19_code_0 19 rfl rfl rfl) (by decide +kernel)
theorem d_Mm_cellsIn_24 : decode prog_14_method_19_code 24 = .ok (.iconst 0, 1) := zo_3 (zd_b zq_prog_14_method_19_code_0 24 rfl rfl rfl)
theorem d_Mm_cellsIn_25 : decode prog_14_method_19_code 25 = .ok (.iadd, 1) := zo_96 (zd_b zq_prog_14_method_19_code_0 25 rfl rfl rfl)
theorem d_Mm_cellsIn_26 : decode prog_14_method_19_code 26 = .ok (.istore_n 1, 1) := zo_60 (zd_b zq_prog_14_method_19_code_0 26 rfl rfl rfl)
theorem d_Mm_cellsIn_27 : decode prog_14_method_19_code 27 = .ok (.iinc 2 1, 3) := by decide +kernel
theorem d_Mm_cellsIn_30 : decode prog_14_method_19_code 30 = .ok (.goto (-26), 3) := zo_167 (d := 255) (e := 230) (zd_b zq_prog_14_method_19_code_0 30 rfl rfl rfl) (zd_b zq_prog_14_method_19_code_0 31 rfl rfl rfl) (zd_b zq_prog_14_method_19_code_1 0 rfl rfl rfl) (by decide +kernel)
theorem d_Mm_cellsIn_20 : decode prog_14_method_19_code 20 = .ok (.iconst 1, 1) := zo_4 (zd_b zq_prog_14_method_19_code_0 20 rfl rfl rfl)
theorem d_Mm_cellsIn_21 : decode prog_14_method_19_code 21 = .ok (.goto 4, 3) := zo_167 (d := 0) (e := 4) (zd_b zq_prog_14_method_19_code_0 21 rfl rfl rfl) (zd_b zq_prog_14_method_19_code_0 22 rfl rfl rfl) (zd_b zq_prog_14_method_19_code_0 23 rfl rfl rfl) (by decide +kernel)
theorem d_Mm_cellsIn_0 : decode prog_14_method_19_code 0 = .ok (.iconst 0, 1) := zo_3 (zd_b zq_prog_14_method_19_code_0 0 rfl rfl rfl)
theorem d_Mm_cellsIn_1 : decode prog_14_method_19_code 1 = .ok (.istore_n 1, 1) := zo_60 (zd_b zq_prog_14_method_19_code_0 1 rfl rfl rfl)
theorem d_Mm_cellsIn_2 : decode prog_14_method_19_code 2 = .ok (.iconst 0, 1) := zo_3 (zd_b zq_prog_14_method_19_code_0 2 rfl rfl rfl)
theorem d_Mm_cellsIn_3 : decode prog_14_method_19_code 3 = .ok (.istore_n 2, 1) := zo_61 (zd_b zq_prog_14_method_19_code_0 3 rfl rfl rfl)
set_option maxHeartbeats 4000000 in
set_option maxRecDepth 100000 in
theorem L_Mm_cellsIn_4 (g : zG) (b : Nat) (f : Nat → Int32) (w0 : zW) (n : Nat) : ∀ (d i : Nat), i ≤ 108 → 108 < i + d → DV g M_Mm_cellsIn (fun o cs1 => o = .inl (some (.int (nI (fa_cnt (fun k => tmB (f k)) 108)))) ∧ cs1 = [(b, .inl (1, 108, .inl f))]) w0 n 4 [(2, .int (nI i)), (1, .int (nI (fa_cnt (fun k => tmB (f k)) i))), (0, .ref b)] [] [(b, .inl (1, 108, .inl f))] 0 0 := by
  intro d
  induction d with
  | zero => intro i h1 h2 ; exact absurd h2 (by omega)
  | succ d ih =>
    intro i h1 h2 
    refine r_iload_n d_Mm_cellsIn_4 rfl 0 rfl ?_
    refine r_bipush d_Mm_cellsIn_5 (v := 108) (by decide) ?_
    refine r_icmp_ge (tgt := 33) d_Mm_cellsIn_7 (by decide) (fun c_7 => ?_) (fun c_7 => ?_)
    · have hn := z_le (a := 108) (by omega) (by decide) c_7
      obtain rfl : i = 108 := by omega
      refine r_iload_n d_Mm_cellsIn_33 rfl 1 rfl ?_
      refine r_iret d_Mm_cellsIn_34 rfl rfl ?_
      exact ⟨rfl, rfl⟩
    · have hn := z_nle (a := 108) (by omega) (by decide) c_7
      refine r_iload_n d_Mm_cellsIn_10 rfl 1 rfl ?_
      refine r_aload_n d_Mm_cellsIn_11 rfl 2 rfl ?_
      refine r_iload_n d_Mm_cellsIn_12 rfl 0 rfl ?_
      refine r_cald d_Mm_cellsIn_13 (q0 := 0) rfl (vp_in_nI (by omega) (by omega)) (v := f i) (by rw [nI_clamp (by omega)]) ?_
      refine r_callS (As := [.int (f i)]) (rest := [.int (nI (fa_cnt (fun k => tmB (f k)) i))]) (csC := []) (is := []) ln_Mm_107 w_st_Mm_isMetal ok_Mm_cellsIn_Mm_isMetal d_Mm_cellsIn_14 (C_Mm_isMetal g (f i)) rfl rfl (Nat.le_of_ble_eq_true rfl) rfl (by decide) (by omega) (by omega) (fun E cs1 hx => ?_) (fun v cs1 hx => ?_)
      · exact absurd hx.1 (by simp)
      · obtain ⟨e1, rfl⟩ := hx
        cases e1
        refine ⟨rfl, ?_⟩
        refine r_st (st2 := [.int (z_bi (tmB (f i))), .int (nI (fa_cnt (fun k => tmB (f k)) i))]) rfl ?_
        refine r_cs (cs2 := [(b, .inl (1, 108, .inl f))]) rfl ?_
        refine r_if_eq (tgt := 24) d_Mm_cellsIn_17 (by decide) (fun c_17 => ?_) (fun c_17 => ?_)
        · have hb := z_bi0 c_17
          refine r_iconst d_Mm_cellsIn_24 (v := 0) (by decide) ?_
          refine r_iadd d_Mm_cellsIn_25 (v := nI ((fa_cnt (fun k => tmB (f k)) i) + 0)) (nI_add _ _) ?_
          refine r_istore_n (lv' := [(1, .int (nI ((fa_cnt (fun k => tmB (f k)) i) + 0))), (2, .int (nI i)), (0, .ref b)]) d_Mm_cellsIn_26 rfl (by decide) rfl ?_
          refine r_iinc (lv' := [(2, .int (nI (i + 1))), (1, .int (nI ((fa_cnt (fun k => tmB (f k)) i) + 0))), (0, .ref b)]) (v := nI (i + 1)) d_Mm_cellsIn_27 (j := 1) rfl (nI_add _ _) (by decide) rfl ?_
          refine r_goto (tgt := 4) d_Mm_cellsIn_30 (by decide) ?_
          refine r_lvE (lv2 := [(2, .int (nI (i + 1))), (1, .int (nI (fa_cnt (fun k => tmB (f k)) (i + 1)))), (0, .ref b)]) (by first | (rw [fa_cnt_yes (p := fun k => tmB (f k)) hb] <;> rfl) | (rw [fa_cnt_no (p := fun k => tmB (f k)) hb] <;> rfl)) ?_
          refine r_cs (cs2 := [(b, .inl (1, 108, .inl f))]) (rfl) ?_
          exact ih (i + 1) (by omega) (by omega)
        · have hb := z_bi1 c_17
          refine r_iconst d_Mm_cellsIn_20 (v := 1) (by decide) ?_
          refine r_goto (tgt := 25) d_Mm_cellsIn_21 (by decide) ?_
          refine r_iadd d_Mm_cellsIn_25 (v := nI ((fa_cnt (fun k => tmB (f k)) i) + 1)) (nI_add _ _) ?_
          refine r_istore_n (lv' := [(1, .int (nI ((fa_cnt (fun k => tmB (f k)) i) + 1))), (2, .int (nI i)), (0, .ref b)]) d_Mm_cellsIn_26 rfl (by decide) rfl ?_
          refine r_iinc (lv' := [(2, .int (nI (i + 1))), (1, .int (nI ((fa_cnt (fun k => tmB (f k)) i) + 1))), (0, .ref b)]) (v := nI (i + 1)) d_Mm_cellsIn_27 (j := 1) rfl (nI_add _ _) (by decide) rfl ?_
          refine r_goto (tgt := 4) d_Mm_cellsIn_30 (by decide) ?_
          refine r_lvE (lv2 := [(2, .int (nI (i + 1))), (1, .int (nI (fa_cnt (fun k => tmB (f k)) (i + 1)))), (0, .ref b)]) (by first | (rw [fa_cnt_yes (p := fun k => tmB (f k)) hb] <;> rfl) | (rw [fa_cnt_no (p := fun k => tmB (f k)) hb] <;> rfl)) ?_
          refine r_cs (cs2 := [(b, .inl (1, 108, .inl f))]) (rfl) ?_
          exact ih (i + 1) (by omega) (by omega)
set_option maxHeartbeats 4000000 in
set_option maxRecDepth 100000 in
theorem C_Mm_cellsIn (g : zG) (b : Nat) (f : Nat → Int32) : CT g M_Mm_cellsIn [.ref b] [(b, .inl (1, 108, .inl f))] (fun o cs1 => o = .inl (some (.int (nI (fa_cnt (fun k => tmB (f k)) 108)))) ∧ cs1 = [(b, .inl (1, 108, .inl f))]) 0 0 := by
  refine z_of (by decide) rfl (Nat.le_of_ble_eq_true rfl) (fun w0 => ?_)
  refine r_lvE (lv2 := [(0, .ref b)]) rfl ?_
  refine r_iconst d_Mm_cellsIn_0 (v := 0) (by decide) ?_
  refine r_istore_n (lv' := [(1, .int 0), (0, .ref b)]) d_Mm_cellsIn_1 rfl (by decide) rfl ?_
  refine r_iconst d_Mm_cellsIn_2 (v := 0) (by decide) ?_
  refine r_istore_n (lv' := [(2, .int 0), (1, .int 0), (0, .ref b)]) d_Mm_cellsIn_3 rfl (by decide) rfl ?_
  refine r_lvE (lv2 := [(2, .int (nI 0)), (1, .int (nI (fa_cnt (fun k => tmB (f k)) 0))), (0, .ref b)]) (rfl) ?_
  refine r_cs (cs2 := [(b, .inl (1, 108, .inl f))]) (rfl) ?_
  exact L_Mm_cellsIn_4 g b f w0 _  (108 + 1) 0 (Nat.zero_le _) (by omega)
abbrev M_Mm_gates : zM := (⟨"IronpourModel", "gates", "([C)I"⟩, prog_14_method_21_code, 3, (Option.some FieldType.int), 1, 20, [])
theorem d_Mm_gates_4 : decode prog_14_method_21_code 4 = .ok (.iload_n 2, 1) := zo_28 (zd_b zq_prog_14_method_21_code_0 4 rfl rfl rfl)
theorem d_Mm_gates_5 : decode prog_14_method_21_code 5 = .ok (.bipush 12, 2) := zo_16 (d := 12) (zd_b zq_prog_14_method_21_code_0 5 rfl rfl rfl) (zd_b zq_prog_14_method_21_code_0 6 rfl rfl rfl) (by decide +kernel)
theorem d_Mm_gates_7 : decode prog_14_method_21_code 7 = .ok (.if_icmp .ge 25, 3) := zo_162 (d := 0) (e := 25) (zd_b zq_prog_14_method_21_code_0 7 rfl rfl rfl) (zd_b zq_prog_14_method_21_code_0 8 rfl rfl rfl) (zd_b zq_prog_14_method_21_code_0 9 rfl rfl rfl) (by decide +kernel)
theorem d_Mm_gates_32 : decode prog_14_method_21_code 32 = .ok (.iload_n 1, 1) := zo_27 (zd_b zq_prog_14_method_21_code_1 0 rfl rfl rfl)
theorem d_Mm_gates_33 : decode prog_14_method_21_code 33 = .ok (.ireturn, 1) := zo_172 (zd_b zq_prog_14_method_21_code_1 1 rfl rfl rfl)
theorem d_Mm_gates_10 : decode prog_14_method_21_code 10 = .ok (.iload_n 1, 1) := zo_27 (zd_b zq_prog_14_method_21_code_0 10 rfl rfl rfl)
theorem d_Mm_gates_11 : decode prog_14_method_21_code 11 = .ok (.aload_n 0, 1) := zo_42 (zd_b zq_prog_14_method_21_code_0 11 rfl rfl rfl)
theorem d_Mm_gates_12 : decode prog_14_method_21_code 12 = .ok (.iload_n 2, 1) := zo_28 (zd_b zq_prog_14_method_21_code_0 12 rfl rfl rfl)
theorem d_Mm_gates_13 : decode prog_14_method_21_code 13 = .ok (.caload, 1) := zo_52 (zd_b zq_prog_14_method_21_code_0 13 rfl rfl rfl)
theorem d_Mm_gates_14 : decode prog_14_method_21_code 14 = .ok (.bipush 103, 2) := zo_16 (d := 103) (zd_b zq_prog_14_method_21_code_0 14 rfl rfl rfl) (zd_b zq_prog_14_method_21_code_0 15 rfl rfl rfl) (by decide +kernel)
theorem d_Mm_gates_16 : decode prog_14_method_21_code 16 = .ok (.if_icmp .ne 7, 3) := zo_160 (d := 0) (e := 7) (zd_b zq_prog_14_method_21_code_0 16 rfl rfl rfl) (zd_b zq_prog_14_method_21_code_0 17 rfl rfl rfl) (zd_b zq_prog_14_method_21_code_0 18 rfl rfl rfl) (by decide +kernel)
theorem d_Mm_gates_23 : decode prog_14_method_21_code 23 = .ok (.iconst 0, 1) := zo_3 (zd_b zq_prog_14_method_21_code_0 23 rfl rfl rfl)
theorem d_Mm_gates_24 : decode prog_14_method_21_code 24 = .ok (.iadd, 1) := zo_96 (zd_b zq_prog_14_method_21_code_0 24 rfl rfl rfl)
theorem d_Mm_gates_25 : decode prog_14_method_21_code 25 = .ok (.istore_n 1, 1) := zo_60 (zd_b zq_prog_14_method_21_code_0 25 rfl rfl rfl)
theorem d_Mm_gates_26 : decode prog_14_method_21_code 26 = .ok (.iinc 2 1, 3) := by decide +kernel
theorem d_Mm_gates_29 : decode prog_14_method_21_code 29 = .ok (.goto (-25), 3) := zo_167 (d := 255) (e := 231) (zd_b zq_prog_14_method_21_code_0 29 rfl rfl rfl) (zd_b zq_prog_14_method_21_code_0 30 rfl rfl rfl) (zd_b zq_prog_14_method_21_code_0 31 rfl rfl rfl) (by decide +kernel)
theorem d_Mm_gates_19 : decode prog_14_method_21_code 19 = .ok (.iconst 1, 1) := zo_4 (zd_b zq_prog_14_method_21_code_0 19 rfl rfl rfl)
theorem d_Mm_gates_20 : decode prog_14_method_21_code 20 = .ok (.goto 4, 3) := zo_167 (d := 0) (e := 4) (zd_b zq_prog_14_method_21_code_0 20 rfl rfl rfl) (zd_b zq_prog_14_method_21_code_0 21 rfl rfl rfl) (zd_b zq_prog_14_method_21_code_0 22 rfl rfl rfl) (by decide +kernel)
theorem d_Mm_gates_0 : decode prog_14_method_21_code 0 = .ok (.iconst 0, 1) := zo_3 (zd_b zq_prog_14_method_21_code_0 0 rfl rfl rfl)
theorem d_Mm_gates_1 : decode prog_14_method_21_code 1 = .ok (.istore_n 1, 1) := zo_60 (zd_b zq_prog_14_method_21_code_0 1 rfl rfl rfl)
theorem d_Mm_gates_2 : decode prog_14_method_21_code 2 = .ok (.iconst 0, 1) := zo_3 (zd_b zq_prog_14_method_21_code_0 2 rfl rfl rfl)
theorem d_Mm_gates_3 : decode prog_14_method_21_code 3 = .ok (.istore_n 2, 1) := zo_61 (zd_b zq_prog_14_method_21_code_0 3 rfl rfl rfl)
set_option maxHeartbeats 4000000 in
set_option maxRecDepth 100000 in
theorem L_Mm_gates_4 (g : zG) (b : Nat) (f : Nat → Int32) (w0 : zW) (n : Nat) : ∀ (d i : Nat), i ≤ 12 → 12 < i + d → DV g M_Mm_gates (fun o cs1 => o = .inl (some (.int (nI (fa_cnt (fun k => decide (f k = 103)) 12)))) ∧ cs1 = [(b, .inl (1, 108, .inl f))]) w0 n 4 [(2, .int (nI i)), (1, .int (nI (fa_cnt (fun k => decide (f k = 103)) i))), (0, .ref b)] [] [(b, .inl (1, 108, .inl f))] 0 0 := by
  intro d
  induction d with
  | zero => intro i h1 h2 ; exact absurd h2 (by omega)
  | succ d ih =>
    intro i h1 h2 
    refine r_iload_n d_Mm_gates_4 rfl 0 rfl ?_
    refine r_bipush d_Mm_gates_5 (v := 12) (by decide) ?_
    refine r_icmp_ge (tgt := 32) d_Mm_gates_7 (by decide) (fun c_7 => ?_) (fun c_7 => ?_)
    · have hn := z_le (a := 12) (by omega) (by decide) c_7
      obtain rfl : i = 12 := by omega
      refine r_iload_n d_Mm_gates_32 rfl 1 rfl ?_
      refine r_iret d_Mm_gates_33 rfl rfl ?_
      exact ⟨rfl, rfl⟩
    · have hn := z_nle (a := 12) (by omega) (by decide) c_7
      refine r_iload_n d_Mm_gates_10 rfl 1 rfl ?_
      refine r_aload_n d_Mm_gates_11 rfl 2 rfl ?_
      refine r_iload_n d_Mm_gates_12 rfl 0 rfl ?_
      refine r_cald d_Mm_gates_13 (q0 := 0) rfl (vp_in_nI (by omega) (by omega)) (v := f i) (by rw [nI_clamp (by omega)]) ?_
      refine r_bipush d_Mm_gates_14 (v := 103) (by decide) ?_
      refine r_icmp_ne (tgt := 23) d_Mm_gates_16 (by decide) (fun c_16 => ?_) (fun c_16 => ?_)
      · have hb : decide (f i = 103) = false := decide_eq_false c_16
        refine r_iconst d_Mm_gates_23 (v := 0) (by decide) ?_
        refine r_iadd d_Mm_gates_24 (v := nI ((fa_cnt (fun k => decide (f k = 103)) i) + 0)) (nI_add _ _) ?_
        refine r_istore_n (lv' := [(1, .int (nI ((fa_cnt (fun k => decide (f k = 103)) i) + 0))), (2, .int (nI i)), (0, .ref b)]) d_Mm_gates_25 rfl (by decide) rfl ?_
        refine r_iinc (lv' := [(2, .int (nI (i + 1))), (1, .int (nI ((fa_cnt (fun k => decide (f k = 103)) i) + 0))), (0, .ref b)]) (v := nI (i + 1)) d_Mm_gates_26 (j := 1) rfl (nI_add _ _) (by decide) rfl ?_
        refine r_goto (tgt := 4) d_Mm_gates_29 (by decide) ?_
        refine r_lvE (lv2 := [(2, .int (nI (i + 1))), (1, .int (nI (fa_cnt (fun k => decide (f k = 103)) (i + 1)))), (0, .ref b)]) (by first | (rw [fa_cnt_yes (p := fun k => decide (f k = 103)) hb] <;> rfl) | (rw [fa_cnt_no (p := fun k => decide (f k = 103)) hb] <;> rfl)) ?_
        refine r_cs (cs2 := [(b, .inl (1, 108, .inl f))]) (rfl) ?_
        exact ih (i + 1) (by omega) (by omega)
      · have hb : decide (f i = 103) = true := decide_eq_true c_16
        refine r_iconst d_Mm_gates_19 (v := 1) (by decide) ?_
        refine r_goto (tgt := 24) d_Mm_gates_20 (by decide) ?_
        refine r_iadd d_Mm_gates_24 (v := nI ((fa_cnt (fun k => decide (f k = 103)) i) + 1)) (nI_add _ _) ?_
        refine r_istore_n (lv' := [(1, .int (nI ((fa_cnt (fun k => decide (f k = 103)) i) + 1))), (2, .int (nI i)), (0, .ref b)]) d_Mm_gates_25 rfl (by decide) rfl ?_
        refine r_iinc (lv' := [(2, .int (nI (i + 1))), (1, .int (nI ((fa_cnt (fun k => decide (f k = 103)) i) + 1))), (0, .ref b)]) (v := nI (i + 1)) d_Mm_gates_26 (j := 1) rfl (nI_add _ _) (by decide) rfl ?_
        refine r_goto (tgt := 4) d_Mm_gates_29 (by decide) ?_
        refine r_lvE (lv2 := [(2, .int (nI (i + 1))), (1, .int (nI (fa_cnt (fun k => decide (f k = 103)) (i + 1)))), (0, .ref b)]) (by first | (rw [fa_cnt_yes (p := fun k => decide (f k = 103)) hb] <;> rfl) | (rw [fa_cnt_no (p := fun k => decide (f k = 103)) hb] <;> rfl)) ?_
        refine r_cs (cs2 := [(b, .inl (1, 108, .inl f))]) (rfl) ?_
        exact ih (i + 1) (by omega) (by omega)
set_option maxHeartbeats 4000000 in
set_option maxRecDepth 100000 in
theorem C_Mm_gates (g : zG) (b : Nat) (f : Nat → Int32) : CT g M_Mm_gates [.ref b] [(b, .inl (1, 108, .inl f))] (fun o cs1 => o = .inl (some (.int (nI (fa_cnt (fun k => decide (f k = 103)) 12)))) ∧ cs1 = [(b, .inl (1, 108, .inl f))]) 0 0 := by
  refine z_of (by decide) rfl (Nat.le_of_ble_eq_true rfl) (fun w0 => ?_)
  refine r_lvE (lv2 := [(0, .ref b)]) rfl ?_
  refine r_iconst d_Mm_gates_0 (v := 0) (by decide) ?_
  refine r_istore_n (lv' := [(1, .int 0), (0, .ref b)]) d_Mm_gates_1 rfl (by decide) rfl ?_
  refine r_iconst d_Mm_gates_2 (v := 0) (by decide) ?_
  refine r_istore_n (lv' := [(2, .int 0), (1, .int 0), (0, .ref b)]) d_Mm_gates_3 rfl (by decide) rfl ?_
  refine r_lvE (lv2 := [(2, .int (nI 0)), (1, .int (nI (fa_cnt (fun k => decide (f k = 103)) 0))), (0, .ref b)]) (rfl) ?_
  refine r_cs (cs2 := [(b, .inl (1, 108, .inl f))]) (rfl) ?_
  exact L_Mm_gates_4 g b f w0 _  (12 + 1) 0 (Nat.zero_le _) (by omega)
abbrev M_Mm_cell : zM := (⟨"IronpourModel", "cell", "(II)C"⟩, prog_14_method_9_code, 3, (Option.some FieldType.char), 3, 63, [])
theorem d_Mm_cell_0 : decode prog_14_method_9_code 0 = .ok (.aload_n 0, 1) := zo_42 (zd_b zq_prog_14_method_9_code_0 0 rfl rfl rfl)
theorem d_Mm_cell_1 : decode prog_14_method_9_code 1 = .ok (.iconst 0, 1) := zo_3 (zd_b zq_prog_14_method_9_code_0 1 rfl rfl rfl)
theorem d_Mm_cell_2 : decode prog_14_method_9_code 2 = .ok (.putfield 84, 3) := zo_181 (d := 0) (e := 84) (zd_b zq_prog_14_method_9_code_0 2 rfl rfl rfl) (zd_b zq_prog_14_method_9_code_0 3 rfl rfl rfl) (zd_b zq_prog_14_method_9_code_0 4 rfl rfl rfl)
theorem d_Mm_cell_5 : decode prog_14_method_9_code 5 = .ok (.aload_n 0, 1) := zo_42 (zd_b zq_prog_14_method_9_code_0 5 rfl rfl rfl)
theorem d_Mm_cell_6 : decode prog_14_method_9_code 6 = .ok (.iload_n 1, 1) := zo_27 (zd_b zq_prog_14_method_9_code_0 6 rfl rfl rfl)
theorem d_Mm_cell_7 : decode prog_14_method_9_code 7 = .ok (.iload_n 2, 1) := zo_28 (zd_b zq_prog_14_method_9_code_0 7 rfl rfl rfl)
theorem d_Mm_cell_8 : decode prog_14_method_9_code 8 = .ok (.invokestatic 91, 3) := zo_184 (d := 0) (e := 91) (zd_b zq_prog_14_method_9_code_0 8 rfl rfl rfl) (zd_b zq_prog_14_method_9_code_0 9 rfl rfl rfl) (zd_b zq_prog_14_method_9_code_0 10 rfl rfl rfl)
theorem ok_Mm_cell_Mm_isCell : z_ok M_Mm_cell M_Mm_isCell 2 := ⟨z_mj7 (i := 187) rfl (by decide +kernel), rfl, ⟨by decide +kernel, by decide +kernel, by decide +kernel⟩, ⟨by decide, by decide⟩, z_mj1 (i := 14) rfl (by decide +kernel), rfl⟩
theorem d_Mm_cell_11 : decode prog_14_method_9_code 11 = .ok (.ifCond .ne 7, 3) := zo_154 (d := 0) (e := 7) (zd_b zq_prog_14_method_9_code_0 11 rfl rfl rfl) (zd_b zq_prog_14_method_9_code_0 12 rfl rfl rfl) (zd_b zq_prog_14_method_9_code_0 13 rfl rfl rfl) (by decide +kernel)
theorem d_Mm_cell_14 : decode prog_14_method_9_code 14 = .ok (.iconst 1, 1) := zo_4 (zd_b zq_prog_14_method_9_code_0 14 rfl rfl rfl)
theorem d_Mm_cell_15 : decode prog_14_method_9_code 15 = .ok (.goto 4, 3) := zo_167 (d := 0) (e := 4) (zd_b zq_prog_14_method_9_code_0 15 rfl rfl rfl) (zd_b zq_prog_14_method_9_code_0 16 rfl rfl rfl) (zd_b zq_prog_14_method_9_code_0 17 rfl rfl rfl) (by decide +kernel)
theorem d_Mm_cell_19 : decode prog_14_method_9_code 19 = .ok (.iconst 1, 1) := zo_4 (zd_b zq_prog_14_method_9_code_0 19 rfl rfl rfl)
theorem d_Mm_cell_20 : decode prog_14_method_9_code 20 = .ok (.invokevirtual 103, 3) := zo_182 (d := 0) (e := 103) (zd_b zq_prog_14_method_9_code_0 20 rfl rfl rfl) (zd_b zq_prog_14_method_9_code_0 21 rfl rfl rfl) (zd_b zq_prog_14_method_9_code_0 22 rfl rfl rfl)
theorem ok_Mm_cell_Mm_fails : z_ok M_Mm_cell M_Mm_fails 2 := ⟨z_mj7 (i := 196) rfl (by decide +kernel), rfl, ⟨by decide +kernel, by decide +kernel, by decide +kernel⟩, ⟨by decide, by decide⟩, z_mj1 (i := 14) rfl (by decide +kernel), rfl⟩
theorem ln_Mm_103 : Cond.methodLink "IronpourModel" 103 M_Mm_fails.1 ∈ z_gw := z_mj7 (i := 193) rfl (by decide +kernel)
theorem w_im_Mm_fails : Cond.instanceMethod M_Mm_fails.1 ∈ z_gw := z_mj7 (i := 195) rfl (by decide +kernel)
theorem w_se_Mm_fails : Cond.selects M_Mm_fails.1.cls M_Mm_fails.1 M_Mm_fails.1 ∈ z_gw := z_mem (i := 29) (by decide +kernel) (by decide +kernel)
theorem d_Mm_cell_23 : decode prog_14_method_9_code 23 = .ok (.ifCond .eq 7, 3) := zo_153 (d := 0) (e := 7) (zd_b zq_prog_14_method_9_code_0 23 rfl rfl rfl) (zd_b zq_prog_14_method_9_code_0 24 rfl rfl rfl) (zd_b zq_prog_14_method_9_code_0 25 rfl rfl rfl) (by decide +kernel)
theorem d_Mm_cell_26 : decode prog_14_method_9_code 26 = .ok (.iconst 0, 1) := zo_3 (zd_b zq_prog_14_method_9_code_0 26 rfl rfl rfl)
theorem d_Mm_cell_27 : decode prog_14_method_9_code 27 = .ok (.goto 14, 3) := zo_167 (d := 0) (e := 14) (zd_b zq_prog_14_method_9_code_0 27 rfl rfl rfl) (zd_b zq_prog_14_method_9_code_0 28 rfl rfl rfl) (zd_b zq_prog_14_method_9_code_0 29 rfl rfl rfl) (by decide +kernel)
theorem d_Mm_cell_41 : decode prog_14_method_9_code 41 = .ok (.ireturn, 1) := zo_172 (zd_b zq_prog_14_method_9_code_1 9 rfl rfl rfl)
set_option maxHeartbeats 4000000 in
set_option maxRecDepth 100000 in
theorem C_Mm_cellE (g : zG) (m mp mf mh mn mt mz mc_ mq mgr ml mi mr mm mu mk mx : Nat) (th pt cl wa co_ fi bu ho lh mg wd fpi fal : Int32) (po de : Int64) (f : Nat → Int32) (x y : Int32) (hz : z_cl x y = none) : CT g M_Mm_cell [.ref m, .int x, .int y] [(m, .inr (12, [.int th, .ref mp, .int pt, .ref mf, .ref mh, .ref mn, .ref mt, .ref mz, .ref mc_, .ref mq, .ref mgr, .int cl, .int wa, .int co_, .int fi, .int bu, .int ho, .ref ml, .ref mi, .ref mr, .int lh, .int mg, .int wd, .int fpi, .int fal, .ref mm, .ref mu, .ref mk, .ref mx, .long po, .long de])), (mp, .inl (1, 108, .inl f))] (fun o cs1 => o = .inl (some (.int 0)) ∧ cs1 = [(m, .inr (12, [.int 1, .ref mp, .int pt, .ref mf, .ref mh, .ref mn, .ref mt, .ref mz, .ref mc_, .ref mq, .ref mgr, .int cl, .int wa, .int co_, .int fi, .int bu, .int ho, .ref ml, .ref mi, .ref mr, .int lh, .int mg, .int wd, .int fpi, .int fal, .ref mm, .ref mu, .ref mk, .ref mx, .long po, .long de])), (mp, .inl (1, 108, .inl f))]) 0 0 := by
  refine z_of (by decide) rfl (Nat.le_of_ble_eq_true rfl) (fun w0 => ?_)
  refine r_lvE (lv2 := [(0, .ref m), (1, .int x), (2, .int y)]) rfl ?_
  refine r_aload_n d_Mm_cell_0 rfl 0 rfl ?_
  refine r_iconst d_Mm_cell_1 (v := 0) (by decide) ?_
  refine r_put fp_Mm_84 d_Mm_cell_2 (fun h => nomatch h) rfl rfl (q0 := 0) rfl (Nat.le_of_ble_eq_true rfl) (cs' := [(m, .inr (12, [.int 0, .ref mp, .int pt, .ref mf, .ref mh, .ref mn, .ref mt, .ref mz, .ref mc_, .ref mq, .ref mgr, .int cl, .int wa, .int co_, .int fi, .int bu, .int ho, .ref ml, .ref mi, .ref mr, .int lh, .int mg, .int wd, .int fpi, .int fal, .ref mm, .ref mu, .ref mk, .ref mx, .long po, .long de])), (mp, .inl (1, 108, .inl f))]) rfl ?_
  refine r_aload_n d_Mm_cell_5 rfl 0 rfl ?_
  refine r_iload_n d_Mm_cell_6 rfl 1 rfl ?_
  refine r_iload_n d_Mm_cell_7 rfl 2 rfl ?_
  refine r_callS (As := [.int x, .int y]) (rest := [.ref m]) (csC := []) (is := []) ln_Mm_91 w_st_Mm_isCell ok_Mm_cell_Mm_isCell d_Mm_cell_8 (C_Mm_isCell g x y) rfl rfl (Nat.le_of_ble_eq_true rfl) rfl (by decide) (by omega) (by omega) (fun E cs1 hx => ?_) (fun v cs1 hx => ?_)
  · exact absurd hx.1 (by simp)
  · obtain ⟨e1, rfl⟩ := hx
    rw [if_neg (z_clN hz)] at e1
    cases e1
    refine ⟨rfl, ?_⟩
    refine r_st (st2 := [.int 0, .ref m]) rfl ?_
    refine r_cs (cs2 := [(m, .inr (12, [.int 0, .ref mp, .int pt, .ref mf, .ref mh, .ref mn, .ref mt, .ref mz, .ref mc_, .ref mq, .ref mgr, .int cl, .int wa, .int co_, .int fi, .int bu, .int ho, .ref ml, .ref mi, .ref mr, .int lh, .int mg, .int wd, .int fpi, .int fal, .ref mm, .ref mu, .ref mk, .ref mx, .long po, .long de])), (mp, .inl (1, 108, .inl f))]) rfl ?_
    refine r_if_ne (tgt := 18) d_Mm_cell_11 (by decide) (fun c_11 => ?_) (fun c_11 => ?_)
    · exact absurd c_11 (by decide)
    · refine r_iconst d_Mm_cell_14 (v := 1) (by decide) ?_
      refine r_goto (tgt := 19) d_Mm_cell_15 (by decide) ?_
      refine r_iconst d_Mm_cell_19 (v := 1) (by decide) ?_
      refine r_callV (As := [.int 1, .int 1]) (rest := []) (csC := [(m, .inr (12, [.int 0, .ref mp, .int pt, .ref mf, .ref mh, .ref mn, .ref mt, .ref mz, .ref mc_, .ref mq, .ref mgr, .int cl, .int wa, .int co_, .int fi, .int bu, .int ho, .ref ml, .ref mi, .ref mr, .int lh, .int mg, .int wd, .int fpi, .int fal, .ref mm, .ref mu, .ref mk, .ref mx, .long po, .long de]))]) (is := [0]) (q0 := 0) rfl rfl ln_Mm_103 w_im_Mm_fails w_se_Mm_fails ok_Mm_cell_Mm_fails d_Mm_cell_20 (C_Mm_fails1 g m mp mf mh mn mt mz mc_ mq mgr ml mi mr mm mu mk mx th pt cl wa co_ fi bu ho lh mg wd fpi fal po de) rfl rfl (Nat.le_of_ble_eq_true rfl) rfl (by decide) (by omega) (by omega) (fun E cs1 hx => ?_) (fun v cs1 hx => ?_)
      · exact absurd hx.1 (by simp)
      · obtain ⟨e1, rfl⟩ := hx
        cases e1
        refine ⟨rfl, ?_⟩
        refine r_st (st2 := [.int 1]) rfl ?_
        refine r_cs (cs2 := [(m, .inr (12, [.int 1, .ref mp, .int pt, .ref mf, .ref mh, .ref mn, .ref mt, .ref mz, .ref mc_, .ref mq, .ref mgr, .int cl, .int wa, .int co_, .int fi, .int bu, .int ho, .ref ml, .ref mi, .ref mr, .int lh, .int mg, .int wd, .int fpi, .int fal, .ref mm, .ref mu, .ref mk, .ref mx, .long po, .long de])), (mp, .inl (1, 108, .inl f))]) rfl ?_
        refine r_if_eq (tgt := 30) d_Mm_cell_23 (by decide) (fun c_23 => ?_) (fun c_23 => ?_)
        · exact absurd c_23 (by decide)
        · refine r_iconst d_Mm_cell_26 (v := 0) (by decide) ?_
          refine r_goto (tgt := 41) d_Mm_cell_27 (by decide) ?_
          refine r_iret d_Mm_cell_41 rfl rfl ?_
          exact ⟨rfl, rfl⟩
theorem d_Mm_cell_18 : decode prog_14_method_9_code 18 = .ok (.iconst 0, 1) := zo_3 (zd_b zq_prog_14_method_9_code_0 18 rfl rfl rfl)
theorem d_Mm_cell_30 : decode prog_14_method_9_code 30 = .ok (.aload_n 0, 1) := zo_42 (zd_b zq_prog_14_method_9_code_0 30 rfl rfl rfl)
theorem d_Mm_cell_31 : decode prog_14_method_9_code 31 = .ok (.getfield 7, 3) := zo_180 (d := 0) (e := 7) (zd_b zq_prog_14_method_9_code_0 31 rfl rfl rfl) (zd_b zq_prog_14_method_9_code_1 0 rfl rfl rfl) (zd_b zq_prog_14_method_9_code_1 1 rfl rfl rfl)
theorem fs_Mm_7 : z_fs "IronpourModel" 7 12 1 := ⟨R_Mm, "IronpourModel", F_Mm, 31, rfl, u_Mm, by decide, Or.inl ⟨z_mj7 (i := 84) rfl (by decide +kernel), Or.inl rfl⟩⟩
theorem d_Mm_cell_34 : decode prog_14_method_9_code 34 = .ok (.bipush 12, 2) := zo_16 (d := 12) (zd_b zq_prog_14_method_9_code_1 2 rfl rfl rfl) (zd_b zq_prog_14_method_9_code_1 3 rfl rfl rfl) (by decide +kernel)
theorem d_Mm_cell_36 : decode prog_14_method_9_code 36 = .ok (.iload_n 2, 1) := zo_28 (zd_b zq_prog_14_method_9_code_1 4 rfl rfl rfl)
theorem d_Mm_cell_37 : decode prog_14_method_9_code 37 = .ok (.imul, 1) := zo_104 (zd_b zq_prog_14_method_9_code_1 5 rfl rfl rfl)
theorem d_Mm_cell_38 : decode prog_14_method_9_code 38 = .ok (.iload_n 1, 1) := zo_27 (zd_b zq_prog_14_method_9_code_1 6 rfl rfl rfl)
theorem d_Mm_cell_39 : decode prog_14_method_9_code 39 = .ok (.iadd, 1) := zo_96 (zd_b zq_prog_14_method_9_code_1 7 rfl rfl rfl)
theorem d_Mm_cell_40 : decode prog_14_method_9_code 40 = .ok (.caload, 1) := zo_52 (zd_b zq_prog_14_method_9_code_1 8 rfl rfl rfl)
set_option maxHeartbeats 4000000 in
set_option maxRecDepth 100000 in
theorem C_Mm_cellN (g : zG) (m mp mf mh mn mt mz mc_ mq mgr ml mi mr mm mu mk mx : Nat) (th pt cl wa co_ fi bu ho lh mg wd fpi fal : Int32) (po de : Int64) (f : Nat → Int32) (x y : Nat) (hx0 : x < 12) (hy0 : y < 9) (hf : z_ch f) : CT g M_Mm_cell [.ref m, .int (nI x), .int (nI y)] [(m, .inr (12, [.int th, .ref mp, .int pt, .ref mf, .ref mh, .ref mn, .ref mt, .ref mz, .ref mc_, .ref mq, .ref mgr, .int cl, .int wa, .int co_, .int fi, .int bu, .int ho, .ref ml, .ref mi, .ref mr, .int lh, .int mg, .int wd, .int fpi, .int fal, .ref mm, .ref mu, .ref mk, .ref mx, .long po, .long de])), (mp, .inl (1, 108, .inl f))] (fun o cs1 => o = .inl (some (.int (f (12 * y + x)))) ∧ cs1 = [(m, .inr (12, [.int 0, .ref mp, .int pt, .ref mf, .ref mh, .ref mn, .ref mt, .ref mz, .ref mc_, .ref mq, .ref mgr, .int cl, .int wa, .int co_, .int fi, .int bu, .int ho, .ref ml, .ref mi, .ref mr, .int lh, .int mg, .int wd, .int fpi, .int fal, .ref mm, .ref mu, .ref mk, .ref mx, .long po, .long de])), (mp, .inl (1, 108, .inl f))]) 0 0 := by
  refine z_of (by decide) rfl (Nat.le_of_ble_eq_true rfl) (fun w0 => ?_)
  refine r_lvE (lv2 := [(0, .ref m), (1, .int (nI x)), (2, .int (nI y))]) rfl ?_
  refine r_aload_n d_Mm_cell_0 rfl 0 rfl ?_
  refine r_iconst d_Mm_cell_1 (v := 0) (by decide) ?_
  refine r_put fp_Mm_84 d_Mm_cell_2 (fun h => nomatch h) rfl rfl (q0 := 0) rfl (Nat.le_of_ble_eq_true rfl) (cs' := [(m, .inr (12, [.int 0, .ref mp, .int pt, .ref mf, .ref mh, .ref mn, .ref mt, .ref mz, .ref mc_, .ref mq, .ref mgr, .int cl, .int wa, .int co_, .int fi, .int bu, .int ho, .ref ml, .ref mi, .ref mr, .int lh, .int mg, .int wd, .int fpi, .int fal, .ref mm, .ref mu, .ref mk, .ref mx, .long po, .long de])), (mp, .inl (1, 108, .inl f))]) rfl ?_
  refine r_aload_n d_Mm_cell_5 rfl 0 rfl ?_
  refine r_iload_n d_Mm_cell_6 rfl 1 rfl ?_
  refine r_iload_n d_Mm_cell_7 rfl 2 rfl ?_
  refine r_callS (As := [.int (nI x), .int (nI y)]) (rest := [.ref m]) (csC := []) (is := []) ln_Mm_91 w_st_Mm_isCell ok_Mm_cell_Mm_isCell d_Mm_cell_8 (C_Mm_isCell g (nI x) (nI y)) rfl rfl (Nat.le_of_ble_eq_true rfl) rfl (by decide) (by omega) (by omega) (fun E cs1 hx => ?_) (fun v cs1 hx => ?_)
  · exact absurd hx.1 (by simp)
  · obtain ⟨e1, rfl⟩ := hx
    rw [if_pos (z_cellN (by omega) (by omega))] at e1
    cases e1
    refine ⟨rfl, ?_⟩
    refine r_st (st2 := [.int 1, .ref m]) rfl ?_
    refine r_cs (cs2 := [(m, .inr (12, [.int 0, .ref mp, .int pt, .ref mf, .ref mh, .ref mn, .ref mt, .ref mz, .ref mc_, .ref mq, .ref mgr, .int cl, .int wa, .int co_, .int fi, .int bu, .int ho, .ref ml, .ref mi, .ref mr, .int lh, .int mg, .int wd, .int fpi, .int fal, .ref mm, .ref mu, .ref mk, .ref mx, .long po, .long de])), (mp, .inl (1, 108, .inl f))]) rfl ?_
    refine r_if_ne (tgt := 18) d_Mm_cell_11 (by decide) (fun c_11 => ?_) (fun c_11 => ?_)
    · refine r_iconst d_Mm_cell_18 (v := 0) (by decide) ?_
      refine r_iconst d_Mm_cell_19 (v := 1) (by decide) ?_
      refine r_callV (As := [.int 0, .int 1]) (rest := []) (csC := [(m, .inr (12, [.int 0, .ref mp, .int pt, .ref mf, .ref mh, .ref mn, .ref mt, .ref mz, .ref mc_, .ref mq, .ref mgr, .int cl, .int wa, .int co_, .int fi, .int bu, .int ho, .ref ml, .ref mi, .ref mr, .int lh, .int mg, .int wd, .int fpi, .int fal, .ref mm, .ref mu, .ref mk, .ref mx, .long po, .long de]))]) (is := [0]) (q0 := 0) rfl rfl ln_Mm_103 w_im_Mm_fails w_se_Mm_fails ok_Mm_cell_Mm_fails d_Mm_cell_20 (C_Mm_fails0 g m mp mf mh mn mt mz mc_ mq mgr ml mi mr mm mu mk mx th pt cl wa co_ fi bu ho lh mg wd fpi fal po de 1) rfl rfl (Nat.le_of_ble_eq_true rfl) rfl (by decide) (by omega) (by omega) (fun E cs1 hx => ?_) (fun v cs1 hx => ?_)
      · exact absurd hx.1 (by simp)
      · obtain ⟨e1, rfl⟩ := hx
        cases e1
        refine ⟨rfl, ?_⟩
        refine r_st (st2 := [.int 0]) rfl ?_
        refine r_cs (cs2 := [(m, .inr (12, [.int 0, .ref mp, .int pt, .ref mf, .ref mh, .ref mn, .ref mt, .ref mz, .ref mc_, .ref mq, .ref mgr, .int cl, .int wa, .int co_, .int fi, .int bu, .int ho, .ref ml, .ref mi, .ref mr, .int lh, .int mg, .int wd, .int fpi, .int fal, .ref mm, .ref mu, .ref mk, .ref mx, .long po, .long de])), (mp, .inl (1, 108, .inl f))]) rfl ?_
        refine r_if_eq (tgt := 30) d_Mm_cell_23 (by decide) (fun c_23 => ?_) (fun c_23 => ?_)
        · refine r_aload_n d_Mm_cell_30 rfl 0 rfl ?_
          refine r_get fs_Mm_7 d_Mm_cell_31 (q0 := 0) rfl rfl ?_
          refine r_bipush d_Mm_cell_34 (v := 12) (by decide) ?_
          refine r_iload_n d_Mm_cell_36 rfl 2 rfl ?_
          refine r_imul d_Mm_cell_37 (v := nI (12 * y)) (pk_mul _ _) ?_
          refine r_iload_n d_Mm_cell_38 rfl 1 rfl ?_
          refine r_iadd d_Mm_cell_39 (v := nI (12 * y + x)) (nI_add _ _) ?_
          refine r_cald d_Mm_cell_40 (q0 := 1) rfl (vp_in_nI (by omega) (by omega)) (v := f (12 * y + x)) (by rw [nI_clamp (by omega)]) ?_
          refine r_iret d_Mm_cell_41 rfl (congrArg Value.int (z_kind_c (hf (12 * y + x) (by omega)))) ?_
          exact ⟨rfl, rfl⟩
        · exact absurd c_23 (by decide)
    · exact absurd c_11 (by decide)
abbrev M_Mm_part : zM := (⟨"IronpourModel", "part", "(I)I"⟩, prog_14_method_10_code, 3, (Option.some FieldType.int), 2, 42, [])
theorem d_Mm_part_0 : decode prog_14_method_10_code 0 = .ok (.aload_n 0, 1) := zo_42 (zd_b zq_prog_14_method_10_code_0 0 rfl rfl rfl)
theorem d_Mm_part_1 : decode prog_14_method_10_code 1 = .ok (.iconst 0, 1) := zo_3 (zd_b zq_prog_14_method_10_code_0 1 rfl rfl rfl)
theorem d_Mm_part_2 : decode prog_14_method_10_code 2 = .ok (.putfield 84, 3) := zo_181 (d := 0) (e := 84) (zd_b zq_prog_14_method_10_code_0 2 rfl rfl rfl) (zd_b zq_prog_14_method_10_code_0 3 rfl rfl rfl) (zd_b zq_prog_14_method_10_code_0 4 rfl rfl rfl)
theorem d_Mm_part_5 : decode prog_14_method_10_code 5 = .ok (.aload_n 0, 1) := zo_42 (zd_b zq_prog_14_method_10_code_0 5 rfl rfl rfl)
theorem d_Mm_part_6 : decode prog_14_method_10_code 6 = .ok (.iload_n 1, 1) := zo_27 (zd_b zq_prog_14_method_10_code_0 6 rfl rfl rfl)
theorem d_Mm_part_7 : decode prog_14_method_10_code 7 = .ok (.iconst 1, 1) := zo_4 (zd_b zq_prog_14_method_10_code_0 7 rfl rfl rfl)
theorem d_Mm_part_8 : decode prog_14_method_10_code 8 = .ok (.bipush 8, 2) := zo_16 (d := 8) (zd_b zq_prog_14_method_10_code_0 8 rfl rfl rfl) (zd_b zq_prog_14_method_10_code_0 9 rfl rfl rfl) (by decide +kernel)
theorem d_Mm_part_10 : decode prog_14_method_10_code 10 = .ok (.invokestatic 87, 3) := zo_184 (d := 0) (e := 87) (zd_b zq_prog_14_method_10_code_0 10 rfl rfl rfl) (zd_b zq_prog_14_method_10_code_0 11 rfl rfl rfl) (zd_b zq_prog_14_method_10_code_0 12 rfl rfl rfl)
theorem ok_Mm_part_Mm_in : z_ok M_Mm_part M_Mm_in 3 := ⟨z_mj7 (i := 190) rfl (by decide +kernel), rfl, ⟨by decide +kernel, by decide +kernel, by decide +kernel⟩, ⟨by decide, by decide⟩, z_mj1 (i := 14) rfl (by decide +kernel), rfl⟩
theorem d_Mm_part_13 : decode prog_14_method_10_code 13 = .ok (.ifCond .ne 7, 3) := zo_154 (d := 0) (e := 7) (zd_b zq_prog_14_method_10_code_0 13 rfl rfl rfl) (zd_b zq_prog_14_method_10_code_0 14 rfl rfl rfl) (zd_b zq_prog_14_method_10_code_0 15 rfl rfl rfl) (by decide +kernel)
theorem d_Mm_part_16 : decode prog_14_method_10_code 16 = .ok (.iconst 1, 1) := zo_4 (zd_b zq_prog_14_method_10_code_0 16 rfl rfl rfl)
theorem d_Mm_part_17 : decode prog_14_method_10_code 17 = .ok (.goto 4, 3) := zo_167 (d := 0) (e := 4) (zd_b zq_prog_14_method_10_code_0 17 rfl rfl rfl) (zd_b zq_prog_14_method_10_code_0 18 rfl rfl rfl) (zd_b zq_prog_14_method_10_code_0 19 rfl rfl rfl) (by decide +kernel)
theorem d_Mm_part_21 : decode prog_14_method_10_code 21 = .ok (.iconst 1, 1) := zo_4 (zd_b zq_prog_14_method_10_code_0 21 rfl rfl rfl)
theorem d_Mm_part_22 : decode prog_14_method_10_code 22 = .ok (.invokevirtual 103, 3) := zo_182 (d := 0) (e := 103) (zd_b zq_prog_14_method_10_code_0 22 rfl rfl rfl) (zd_b zq_prog_14_method_10_code_0 23 rfl rfl rfl) (zd_b zq_prog_14_method_10_code_0 24 rfl rfl rfl)
theorem ok_Mm_part_Mm_fails : z_ok M_Mm_part M_Mm_fails 2 := ⟨z_mj7 (i := 196) rfl (by decide +kernel), rfl, ⟨by decide +kernel, by decide +kernel, by decide +kernel⟩, ⟨by decide, by decide⟩, z_mj1 (i := 14) rfl (by decide +kernel), rfl⟩
theorem d_Mm_part_25 : decode prog_14_method_10_code 25 = .ok (.ifCond .eq 5, 3) := zo_153 (d := 0) (e := 5) (zd_b zq_prog_14_method_10_code_0 25 rfl rfl rfl) (zd_b zq_prog_14_method_10_code_0 26 rfl rfl rfl) (zd_b zq_prog_14_method_10_code_0 27 rfl rfl rfl) (by decide +kernel)
theorem d_Mm_part_28 : decode prog_14_method_10_code 28 = .ok (.iconst 0, 1) := zo_3 (zd_b zq_prog_14_method_10_code_0 28 rfl rfl rfl)
theorem d_Mm_part_29 : decode prog_14_method_10_code 29 = .ok (.ireturn, 1) := zo_172 (zd_b zq_prog_14_method_10_code_0 29 rfl rfl rfl)
set_option maxHeartbeats 4000000 in
set_option maxRecDepth 100000 in
theorem C_Mm_partE (g : zG) (m mp mf mh mn mt mz mc_ mq mgr ml mi mr mm mu mk mx : Nat) (th pt cl wa co_ fi bu ho lh mg wd fpi fal : Int32) (po de : Int64) (r : Int32) (hw : ¬ (1 ≤ r ∧ r ≤ 8)) : CT g M_Mm_part [.ref m, .int r] [(m, .inr (12, [.int th, .ref mp, .int pt, .ref mf, .ref mh, .ref mn, .ref mt, .ref mz, .ref mc_, .ref mq, .ref mgr, .int cl, .int wa, .int co_, .int fi, .int bu, .int ho, .ref ml, .ref mi, .ref mr, .int lh, .int mg, .int wd, .int fpi, .int fal, .ref mm, .ref mu, .ref mk, .ref mx, .long po, .long de]))] (fun o cs1 => o = .inl (some (.int 0)) ∧ cs1 = [(m, .inr (12, [.int 1, .ref mp, .int pt, .ref mf, .ref mh, .ref mn, .ref mt, .ref mz, .ref mc_, .ref mq, .ref mgr, .int cl, .int wa, .int co_, .int fi, .int bu, .int ho, .ref ml, .ref mi, .ref mr, .int lh, .int mg, .int wd, .int fpi, .int fal, .ref mm, .ref mu, .ref mk, .ref mx, .long po, .long de]))]) 0 0 := by
  refine z_of (by decide) rfl (Nat.le_of_ble_eq_true rfl) (fun w0 => ?_)
  refine r_lvE (lv2 := [(0, .ref m), (1, .int r)]) rfl ?_
  refine r_aload_n d_Mm_part_0 rfl 0 rfl ?_
  refine r_iconst d_Mm_part_1 (v := 0) (by decide) ?_
  refine r_put fp_Mm_84 d_Mm_part_2 (fun h => nomatch h) rfl rfl (q0 := 0) rfl (Nat.le_of_ble_eq_true rfl) (cs' := [(m, .inr (12, [.int 0, .ref mp, .int pt, .ref mf, .ref mh, .ref mn, .ref mt, .ref mz, .ref mc_, .ref mq, .ref mgr, .int cl, .int wa, .int co_, .int fi, .int bu, .int ho, .ref ml, .ref mi, .ref mr, .int lh, .int mg, .int wd, .int fpi, .int fal, .ref mm, .ref mu, .ref mk, .ref mx, .long po, .long de]))]) rfl ?_
  refine r_aload_n d_Mm_part_5 rfl 0 rfl ?_
  refine r_iload_n d_Mm_part_6 rfl 1 rfl ?_
  refine r_iconst d_Mm_part_7 (v := 1) (by decide) ?_
  refine r_bipush d_Mm_part_8 (v := 8) (by decide) ?_
  refine r_callS (As := [.int r, .int 1, .int 8]) (rest := [.ref m]) (csC := []) (is := []) ln_Mm_87 w_st_Mm_in ok_Mm_part_Mm_in d_Mm_part_10 (C_Mm_in g r 1 8) rfl rfl (Nat.le_of_ble_eq_true rfl) rfl (by decide) (by omega) (by omega) (fun E cs1 hx => ?_) (fun v cs1 hx => ?_)
  · exact absurd hx.1 (by simp)
  · obtain ⟨e1, rfl⟩ := hx
    rw [if_neg hw] at e1
    cases e1
    refine ⟨rfl, ?_⟩
    refine r_st (st2 := [.int 0, .ref m]) rfl ?_
    refine r_cs (cs2 := [(m, .inr (12, [.int 0, .ref mp, .int pt, .ref mf, .ref mh, .ref mn, .ref mt, .ref mz, .ref mc_, .ref mq, .ref mgr, .int cl, .int wa, .int co_, .int fi, .int bu, .int ho, .ref ml, .ref mi, .ref mr, .int lh, .int mg, .int wd, .int fpi, .int fal, .ref mm, .ref mu, .ref mk, .ref mx, .long po, .long de]))]) rfl ?_
    refine r_if_ne (tgt := 20) d_Mm_part_13 (by decide) (fun c_13 => ?_) (fun c_13 => ?_)
    · exact absurd c_13 (by decide)
    · refine r_iconst d_Mm_part_16 (v := 1) (by decide) ?_
      refine r_goto (tgt := 21) d_Mm_part_17 (by decide) ?_
      refine r_iconst d_Mm_part_21 (v := 1) (by decide) ?_
      refine r_callV (As := [.int 1, .int 1]) (rest := []) (csC := [(m, .inr (12, [.int 0, .ref mp, .int pt, .ref mf, .ref mh, .ref mn, .ref mt, .ref mz, .ref mc_, .ref mq, .ref mgr, .int cl, .int wa, .int co_, .int fi, .int bu, .int ho, .ref ml, .ref mi, .ref mr, .int lh, .int mg, .int wd, .int fpi, .int fal, .ref mm, .ref mu, .ref mk, .ref mx, .long po, .long de]))]) (is := [0]) (q0 := 0) rfl rfl ln_Mm_103 w_im_Mm_fails w_se_Mm_fails ok_Mm_part_Mm_fails d_Mm_part_22 (C_Mm_fails1 g m mp mf mh mn mt mz mc_ mq mgr ml mi mr mm mu mk mx th pt cl wa co_ fi bu ho lh mg wd fpi fal po de) rfl rfl (Nat.le_of_ble_eq_true rfl) rfl (by decide) (by omega) (by omega) (fun E cs1 hx => ?_) (fun v cs1 hx => ?_)
      · exact absurd hx.1 (by simp)
      · obtain ⟨e1, rfl⟩ := hx
        cases e1
        refine ⟨rfl, ?_⟩
        refine r_st (st2 := [.int 1]) rfl ?_
        refine r_cs (cs2 := [(m, .inr (12, [.int 1, .ref mp, .int pt, .ref mf, .ref mh, .ref mn, .ref mt, .ref mz, .ref mc_, .ref mq, .ref mgr, .int cl, .int wa, .int co_, .int fi, .int bu, .int ho, .ref ml, .ref mi, .ref mr, .int lh, .int mg, .int wd, .int fpi, .int fal, .ref mm, .ref mu, .ref mk, .ref mx, .long po, .long de]))]) rfl ?_
        refine r_if_eq (tgt := 30) d_Mm_part_25 (by decide) (fun c_25 => ?_) (fun c_25 => ?_)
        · exact absurd c_25 (by decide)
        · refine r_iconst d_Mm_part_28 (v := 0) (by decide) ?_
          refine r_iret d_Mm_part_29 rfl rfl ?_
          exact ⟨rfl, rfl⟩
theorem d_Mm_part_20 : decode prog_14_method_10_code 20 = .ok (.iconst 0, 1) := zo_3 (zd_b zq_prog_14_method_10_code_0 20 rfl rfl rfl)
theorem d_Mm_part_30 : decode prog_14_method_10_code 30 = .ok (.aload_n 0, 1) := zo_42 (zd_b zq_prog_14_method_10_code_0 30 rfl rfl rfl)
theorem d_Mm_part_31 : decode prog_14_method_10_code 31 = .ok (.getfield 13, 3) := zo_180 (d := 0) (e := 13) (zd_b zq_prog_14_method_10_code_0 31 rfl rfl rfl) (zd_b zq_prog_14_method_10_code_1 0 rfl rfl rfl) (zd_b zq_prog_14_method_10_code_1 1 rfl rfl rfl)
theorem fs_Mm_13 : z_fs "IronpourModel" 13 12 2 := ⟨R_Mm, "IronpourModel", F_Mm, 31, rfl, u_Mm, by decide, Or.inl ⟨z_mj7 (i := 85) rfl (by decide +kernel), Or.inl rfl⟩⟩
theorem d_Mm_part_34 : decode prog_14_method_10_code 34 = .ok (.istore_n 2, 1) := zo_61 (zd_b zq_prog_14_method_10_code_1 2 rfl rfl rfl)
theorem d_Mm_part_35 : decode prog_14_method_10_code 35 = .ok (.aload_n 0, 1) := zo_42 (zd_b zq_prog_14_method_10_code_1 3 rfl rfl rfl)
theorem d_Mm_part_36 : decode prog_14_method_10_code 36 = .ok (.iload_n 1, 1) := zo_27 (zd_b zq_prog_14_method_10_code_1 4 rfl rfl rfl)
theorem d_Mm_part_37 : decode prog_14_method_10_code 37 = .ok (.putfield 13, 3) := zo_181 (d := 0) (e := 13) (zd_b zq_prog_14_method_10_code_1 5 rfl rfl rfl) (zd_b zq_prog_14_method_10_code_1 6 rfl rfl rfl) (zd_b zq_prog_14_method_10_code_1 7 rfl rfl rfl)
theorem fp_Mm_13 : z_fp "IronpourModel" 13 12 2 false .int := ⟨R_Mm, "IronpourModel", F_Mm, 31, t_Mm, rfl, u_Mm, by decide, t_Mm_ok, n_Mm, rfl, rfl, Or.inl ⟨z_mj7 (i := 85) rfl (by decide +kernel), Or.inl rfl, fun h => nomatch h⟩⟩
theorem d_Mm_part_40 : decode prog_14_method_10_code 40 = .ok (.iload_n 2, 1) := zo_28 (zd_b zq_prog_14_method_10_code_1 8 rfl rfl rfl)
theorem d_Mm_part_41 : decode prog_14_method_10_code 41 = .ok (.ireturn, 1) := zo_172 (zd_b zq_prog_14_method_10_code_1 9 rfl rfl rfl)
set_option maxHeartbeats 4000000 in
set_option maxRecDepth 100000 in
theorem C_Mm_partN (g : zG) (m mp mf mh mn mt mz mc_ mq mgr ml mi mr mm mu mk mx : Nat) (th pt cl wa co_ fi bu ho lh mg wd fpi fal : Int32) (po de : Int64) (r : Int32) (hw : (1 ≤ r ∧ r ≤ 8)) : CT g M_Mm_part [.ref m, .int r] [(m, .inr (12, [.int th, .ref mp, .int pt, .ref mf, .ref mh, .ref mn, .ref mt, .ref mz, .ref mc_, .ref mq, .ref mgr, .int cl, .int wa, .int co_, .int fi, .int bu, .int ho, .ref ml, .ref mi, .ref mr, .int lh, .int mg, .int wd, .int fpi, .int fal, .ref mm, .ref mu, .ref mk, .ref mx, .long po, .long de]))] (fun o cs1 => o = .inl (some (.int pt)) ∧ cs1 = [(m, .inr (12, [.int 0, .ref mp, .int r, .ref mf, .ref mh, .ref mn, .ref mt, .ref mz, .ref mc_, .ref mq, .ref mgr, .int cl, .int wa, .int co_, .int fi, .int bu, .int ho, .ref ml, .ref mi, .ref mr, .int lh, .int mg, .int wd, .int fpi, .int fal, .ref mm, .ref mu, .ref mk, .ref mx, .long po, .long de]))]) 0 0 := by
  refine z_of (by decide) rfl (Nat.le_of_ble_eq_true rfl) (fun w0 => ?_)
  refine r_lvE (lv2 := [(0, .ref m), (1, .int r)]) rfl ?_
  refine r_aload_n d_Mm_part_0 rfl 0 rfl ?_
  refine r_iconst d_Mm_part_1 (v := 0) (by decide) ?_
  refine r_put fp_Mm_84 d_Mm_part_2 (fun h => nomatch h) rfl rfl (q0 := 0) rfl (Nat.le_of_ble_eq_true rfl) (cs' := [(m, .inr (12, [.int 0, .ref mp, .int pt, .ref mf, .ref mh, .ref mn, .ref mt, .ref mz, .ref mc_, .ref mq, .ref mgr, .int cl, .int wa, .int co_, .int fi, .int bu, .int ho, .ref ml, .ref mi, .ref mr, .int lh, .int mg, .int wd, .int fpi, .int fal, .ref mm, .ref mu, .ref mk, .ref mx, .long po, .long de]))]) rfl ?_
  refine r_aload_n d_Mm_part_5 rfl 0 rfl ?_
  refine r_iload_n d_Mm_part_6 rfl 1 rfl ?_
  refine r_iconst d_Mm_part_7 (v := 1) (by decide) ?_
  refine r_bipush d_Mm_part_8 (v := 8) (by decide) ?_
  refine r_callS (As := [.int r, .int 1, .int 8]) (rest := [.ref m]) (csC := []) (is := []) ln_Mm_87 w_st_Mm_in ok_Mm_part_Mm_in d_Mm_part_10 (C_Mm_in g r 1 8) rfl rfl (Nat.le_of_ble_eq_true rfl) rfl (by decide) (by omega) (by omega) (fun E cs1 hx => ?_) (fun v cs1 hx => ?_)
  · exact absurd hx.1 (by simp)
  · obtain ⟨e1, rfl⟩ := hx
    rw [if_pos hw] at e1
    cases e1
    refine ⟨rfl, ?_⟩
    refine r_st (st2 := [.int 1, .ref m]) rfl ?_
    refine r_cs (cs2 := [(m, .inr (12, [.int 0, .ref mp, .int pt, .ref mf, .ref mh, .ref mn, .ref mt, .ref mz, .ref mc_, .ref mq, .ref mgr, .int cl, .int wa, .int co_, .int fi, .int bu, .int ho, .ref ml, .ref mi, .ref mr, .int lh, .int mg, .int wd, .int fpi, .int fal, .ref mm, .ref mu, .ref mk, .ref mx, .long po, .long de]))]) rfl ?_
    refine r_if_ne (tgt := 20) d_Mm_part_13 (by decide) (fun c_13 => ?_) (fun c_13 => ?_)
    · refine r_iconst d_Mm_part_20 (v := 0) (by decide) ?_
      refine r_iconst d_Mm_part_21 (v := 1) (by decide) ?_
      refine r_callV (As := [.int 0, .int 1]) (rest := []) (csC := [(m, .inr (12, [.int 0, .ref mp, .int pt, .ref mf, .ref mh, .ref mn, .ref mt, .ref mz, .ref mc_, .ref mq, .ref mgr, .int cl, .int wa, .int co_, .int fi, .int bu, .int ho, .ref ml, .ref mi, .ref mr, .int lh, .int mg, .int wd, .int fpi, .int fal, .ref mm, .ref mu, .ref mk, .ref mx, .long po, .long de]))]) (is := [0]) (q0 := 0) rfl rfl ln_Mm_103 w_im_Mm_fails w_se_Mm_fails ok_Mm_part_Mm_fails d_Mm_part_22 (C_Mm_fails0 g m mp mf mh mn mt mz mc_ mq mgr ml mi mr mm mu mk mx th pt cl wa co_ fi bu ho lh mg wd fpi fal po de 1) rfl rfl (Nat.le_of_ble_eq_true rfl) rfl (by decide) (by omega) (by omega) (fun E cs1 hx => ?_) (fun v cs1 hx => ?_)
      · exact absurd hx.1 (by simp)
      · obtain ⟨e1, rfl⟩ := hx
        cases e1
        refine ⟨rfl, ?_⟩
        refine r_st (st2 := [.int 0]) rfl ?_
        refine r_cs (cs2 := [(m, .inr (12, [.int 0, .ref mp, .int pt, .ref mf, .ref mh, .ref mn, .ref mt, .ref mz, .ref mc_, .ref mq, .ref mgr, .int cl, .int wa, .int co_, .int fi, .int bu, .int ho, .ref ml, .ref mi, .ref mr, .int lh, .int mg, .int wd, .int fpi, .int fal, .ref mm, .ref mu, .ref mk, .ref mx, .long po, .long de]))]) rfl ?_
        refine r_if_eq (tgt := 30) d_Mm_part_25 (by decide) (fun c_25 => ?_) (fun c_25 => ?_)
        · refine r_aload_n d_Mm_part_30 rfl 0 rfl ?_
          refine r_get fs_Mm_13 d_Mm_part_31 (q0 := 0) rfl rfl ?_
          refine r_istore_n (lv' := [(2, .int pt), (0, .ref m), (1, .int r)]) d_Mm_part_34 rfl (by decide) rfl ?_
          refine r_aload_n d_Mm_part_35 rfl 1 rfl ?_
          refine r_iload_n d_Mm_part_36 rfl 2 rfl ?_
          refine r_put fp_Mm_13 d_Mm_part_37 (fun h => nomatch h) rfl rfl (q0 := 0) rfl (Nat.le_of_ble_eq_true rfl) (cs' := [(m, .inr (12, [.int 0, .ref mp, .int r, .ref mf, .ref mh, .ref mn, .ref mt, .ref mz, .ref mc_, .ref mq, .ref mgr, .int cl, .int wa, .int co_, .int fi, .int bu, .int ho, .ref ml, .ref mi, .ref mr, .int lh, .int mg, .int wd, .int fpi, .int fal, .ref mm, .ref mu, .ref mk, .ref mx, .long po, .long de]))]) rfl ?_
          refine r_iload_n d_Mm_part_40 rfl 0 rfl ?_
          refine r_iret d_Mm_part_41 rfl rfl ?_
          exact ⟨rfl, rfl⟩
        · exact absurd c_25 (by decide)
    · exact absurd c_13 (by decide)
abbrev M_Mm_weight : zM := (⟨"IronpourModel", "weight", "()I"⟩, prog_14_method_20_code, 1, (Option.some FieldType.int), 3, 62, [])
theorem d_Mm_weight_0 : decode prog_14_method_20_code 0 = .ok (.aload_n 0, 1) := zo_42 (zd_b zq_prog_14_method_20_code_0 0 rfl rfl rfl)
theorem d_Mm_weight_1 : decode prog_14_method_20_code 1 = .ok (.iconst 0, 1) := zo_3 (zd_b zq_prog_14_method_20_code_0 1 rfl rfl rfl)
theorem d_Mm_weight_2 : decode prog_14_method_20_code 2 = .ok (.putfield 84, 3) := zo_181 (d := 0) (e := 84) (zd_b zq_prog_14_method_20_code_0 2 rfl rfl rfl) (zd_b zq_prog_14_method_20_code_0 3 rfl rfl rfl) (zd_b zq_prog_14_method_20_code_0 4 rfl rfl rfl)
theorem d_Mm_weight_5 : decode prog_14_method_20_code 5 = .ok (.iconst 2, 1) := zo_5 (zd_b zq_prog_14_method_20_code_0 5 rfl rfl rfl)
theorem d_Mm_weight_6 : decode prog_14_method_20_code 6 = .ok (.aload_n 0, 1) := zo_42 (zd_b zq_prog_14_method_20_code_0 6 rfl rfl rfl)
theorem d_Mm_weight_7 : decode prog_14_method_20_code 7 = .ok (.getfield 7, 3) := zo_180 (d := 0) (e := 7) (zd_b zq_prog_14_method_20_code_0 7 rfl rfl rfl) (zd_b zq_prog_14_method_20_code_0 8 rfl rfl rfl) (zd_b zq_prog_14_method_20_code_0 9 rfl rfl rfl)
theorem d_Mm_weight_10 : decode prog_14_method_20_code 10 = .ok (.invokestatic 134, 3) := zo_184 (d := 0) (e := 134) (zd_b zq_prog_14_method_20_code_0 10 rfl rfl rfl) (zd_b zq_prog_14_method_20_code_0 11 rfl rfl rfl) (zd_b zq_prog_14_method_20_code_0 12 rfl rfl rfl)
theorem ok_Mm_weight_Mm_cellsIn : z_ok M_Mm_weight M_Mm_cellsIn 1 := ⟨z_mj8 (i := 7) rfl (by decide +kernel), rfl, ⟨by decide +kernel, by decide +kernel, by decide +kernel⟩, ⟨by decide, by decide⟩, z_mj1 (i := 14) rfl (by decide +kernel), rfl⟩
theorem ln_Mm_134 : Cond.methodLink "IronpourModel" 134 M_Mm_cellsIn.1 ∈ z_gw := z_mj8 (i := 5) rfl (by decide +kernel)
theorem w_st_Mm_cellsIn : Cond.static M_Mm_cellsIn.1 ∈ z_gw := z_mj8 (i := 6) rfl (by decide +kernel)
theorem d_Mm_weight_13 : decode prog_14_method_20_code 13 = .ok (.imul, 1) := zo_104 (zd_b zq_prog_14_method_20_code_0 13 rfl rfl rfl)
theorem d_Mm_weight_14 : decode prog_14_method_20_code 14 = .ok (.ireturn, 1) := zo_172 (zd_b zq_prog_14_method_20_code_0 14 rfl rfl rfl)
set_option maxHeartbeats 4000000 in
set_option maxRecDepth 100000 in
theorem C_Mm_weight (g : zG) (m mp mf mh mn mt mz mc_ mq mgr ml mi mr mm mu mk mx : Nat) (th pt cl wa co_ fi bu ho lh mg wd fpi fal : Int32) (po de : Int64) (f : Nat → Int32) : CT g M_Mm_weight [.ref m] [(m, .inr (12, [.int th, .ref mp, .int pt, .ref mf, .ref mh, .ref mn, .ref mt, .ref mz, .ref mc_, .ref mq, .ref mgr, .int cl, .int wa, .int co_, .int fi, .int bu, .int ho, .ref ml, .ref mi, .ref mr, .int lh, .int mg, .int wd, .int fpi, .int fal, .ref mm, .ref mu, .ref mk, .ref mx, .long po, .long de])), (mp, .inl (1, 108, .inl f))] (fun o cs1 => o = .inl (some (.int (2 * nI (fa_cnt (fun k => tmB (f k)) 108)))) ∧ cs1 = [(m, .inr (12, [.int 0, .ref mp, .int pt, .ref mf, .ref mh, .ref mn, .ref mt, .ref mz, .ref mc_, .ref mq, .ref mgr, .int cl, .int wa, .int co_, .int fi, .int bu, .int ho, .ref ml, .ref mi, .ref mr, .int lh, .int mg, .int wd, .int fpi, .int fal, .ref mm, .ref mu, .ref mk, .ref mx, .long po, .long de])), (mp, .inl (1, 108, .inl f))]) 0 0 := by
  refine z_of (by decide) rfl (Nat.le_of_ble_eq_true rfl) (fun w0 => ?_)
  refine r_lvE (lv2 := [(0, .ref m)]) rfl ?_
  refine r_aload_n d_Mm_weight_0 rfl 0 rfl ?_
  refine r_iconst d_Mm_weight_1 (v := 0) (by decide) ?_
  refine r_put fp_Mm_84 d_Mm_weight_2 (fun h => nomatch h) rfl rfl (q0 := 0) rfl (Nat.le_of_ble_eq_true rfl) (cs' := [(m, .inr (12, [.int 0, .ref mp, .int pt, .ref mf, .ref mh, .ref mn, .ref mt, .ref mz, .ref mc_, .ref mq, .ref mgr, .int cl, .int wa, .int co_, .int fi, .int bu, .int ho, .ref ml, .ref mi, .ref mr, .int lh, .int mg, .int wd, .int fpi, .int fal, .ref mm, .ref mu, .ref mk, .ref mx, .long po, .long de])), (mp, .inl (1, 108, .inl f))]) rfl ?_
  refine r_iconst d_Mm_weight_5 (v := 2) (by decide) ?_
  refine r_aload_n d_Mm_weight_6 rfl 0 rfl ?_
  refine r_get fs_Mm_7 d_Mm_weight_7 (q0 := 0) rfl rfl ?_
  refine r_callS (As := [.ref mp]) (rest := [.int 2]) (csC := [(mp, .inl (1, 108, .inl f))]) (is := [1]) ln_Mm_134 w_st_Mm_cellsIn ok_Mm_weight_Mm_cellsIn d_Mm_weight_10 (C_Mm_cellsIn g mp f) rfl rfl (Nat.le_of_ble_eq_true rfl) rfl (by decide) (by omega) (by omega) (fun E cs1 hx => ?_) (fun v cs1 hx => ?_)
  · exact absurd hx.1 (by simp)
  · obtain ⟨e1, rfl⟩ := hx
    cases e1
    refine ⟨rfl, ?_⟩
    refine r_st (st2 := [.int (nI (fa_cnt (fun k => tmB (f k)) 108)), .int 2]) rfl ?_
    refine r_cs (cs2 := [(m, .inr (12, [.int 0, .ref mp, .int pt, .ref mf, .ref mh, .ref mn, .ref mt, .ref mz, .ref mc_, .ref mq, .ref mgr, .int cl, .int wa, .int co_, .int fi, .int bu, .int ho, .ref ml, .ref mi, .ref mr, .int lh, .int mg, .int wd, .int fpi, .int fal, .ref mm, .ref mu, .ref mk, .ref mx, .long po, .long de])), (mp, .inl (1, 108, .inl f))]) rfl ?_
    refine r_imul d_Mm_weight_13 (v := 2 * nI (fa_cnt (fun k => tmB (f k)) 108)) rfl ?_
    refine r_iret d_Mm_weight_14 rfl rfl ?_
    exact ⟨rfl, rfl⟩
