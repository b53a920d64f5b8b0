theorem ok_Mm_ladle_Mm_fails : z_ok M_Mm_ladle M_Mm_fails 2 := ⟨z_mj7 (i := 196) rfl (by decide +kernel), rfl, ⟨by decide +kernel, by decide +kernel, by decide +kernel⟩, ⟨by decide, by decide⟩, z_mj1 (i := 14) rfl (by decide +kernel), rfl⟩
theorem d_Mm_ladle_25 : decode prog_14_method_65_code 25 = .ok (.ifCond .eq 5, 3) := zo_153 (d := 0) (e := 5) (zd_b zq_prog_14_method_65_code_0 25 rfl rfl rfl) (zd_b zq_prog_14_method_65_code_0 26 rfl rfl rfl) (zd_b zq_prog_14_method_65_code_0 27 rfl rfl rfl) (by decide +kernel)
theorem d_Mm_ladle_28 : decode prog_14_method_65_code 28 = .ok (.iconst 0, 1) := zo_3 (zd_b zq_prog_14_method_65_code_0 28 rfl rfl rfl)
theorem d_Mm_ladle_29 : decode prog_14_method_65_code 29 = .ok (.ireturn, 1) := zo_172 (zd_b zq_prog_14_method_65_code_0 29 rfl rfl rfl)
set_option maxHeartbeats 4000000 in
set_option maxRecDepth 100000 in
theorem C_Mm_ladleE (g : zG) (m mp mf mh mn mt mz mc_ mq mgr ml mi mr mm mu mk mx : Nat) (th pt cl wa co_ fi bu ho lh mg wd fpi fal : Int32) (po de : Int64) (w : Int32) (hw : z_ix 3 w < 0) : CT g M_Mm_ladle [.ref m, .int w] [(m, .inr (12, [.int th, .ref mp, .int pt, .ref mf, .ref mh, .ref mn, .ref mt, .ref mz, .ref mc_, .ref mq, .ref mgr, .int cl, .int wa, .int co_, .int fi, .int bu, .int ho, .ref ml, .ref mi, .ref mr, .int lh, .int mg, .int wd, .int fpi, .int fal, .ref mm, .ref mu, .ref mk, .ref mx, .long po, .long de]))] (fun o cs1 => o = .inl (some (.int 0)) ∧ cs1 = [(m, .inr (12, [.int 1, .ref mp, .int pt, .ref mf, .ref mh, .ref mn, .ref mt, .ref mz, .ref mc_, .ref mq, .ref mgr, .int cl, .int wa, .int co_, .int fi, .int bu, .int ho, .ref ml, .ref mi, .ref mr, .int lh, .int mg, .int wd, .int fpi, .int fal, .ref mm, .ref mu, .ref mk, .ref mx, .long po, .long de]))]) 0 0 := by
  refine z_of (by decide) rfl (Nat.le_of_ble_eq_true rfl) (fun w0 => ?_)
  refine r_lvE (lv2 := [(0, .ref m), (1, .int w)]) rfl ?_
  refine r_aload_n d_Mm_ladle_0 rfl 0 rfl ?_
  refine r_iconst d_Mm_ladle_1 (v := 0) (by decide) ?_
  refine r_put fp_Mm_84 d_Mm_ladle_2 (fun h => nomatch h) rfl rfl (q0 := 0) rfl (Nat.le_of_ble_eq_true rfl) (cs' := [(m, .inr (12, [.int 0, .ref mp, .int pt, .ref mf, .ref mh, .ref mn, .ref mt, .ref mz, .ref mc_, .ref mq, .ref mgr, .int cl, .int wa, .int co_, .int fi, .int bu, .int ho, .ref ml, .ref mi, .ref mr, .int lh, .int mg, .int wd, .int fpi, .int fal, .ref mm, .ref mu, .ref mk, .ref mx, .long po, .long de]))]) rfl ?_
  refine r_aload_n d_Mm_ladle_5 rfl 0 rfl ?_
  refine r_ldcWS (own := "IronpourModel") (i := 3) (by decide) d_Mm_ladle_6 ?_
  refine r_iload_n d_Mm_ladle_9 rfl 1 rfl ?_
  refine r_callVS (As := [.int w]) (rest := [.ref m]) (csC := []) (is := []) (i := 3) (by first | assumption | decide) rfl ln_Mm_97 w_im_String_indexOf_0 w_se_String_indexOf_0 ok_Mm_ladle_String_indexOf_0 d_Mm_ladle_10 (C_St_indexOf g 3 (by decide) w) rfl rfl (Nat.le_of_ble_eq_true rfl) rfl (by decide) (by omega) (by omega) (fun E cs1 hx => ?_) (fun v cs1 hx => ?_)
  · exact absurd hx.1 (by simp)
  · obtain ⟨e1, rfl⟩ := hx
    cases e1
    refine ⟨rfl, ?_⟩
    refine r_st (st2 := [.int (z_ix 3 w), .ref m]) rfl ?_
    refine r_cs (cs2 := [(m, .inr (12, [.int 0, .ref mp, .int pt, .ref mf, .ref mh, .ref mn, .ref mt, .ref mz, .ref mc_, .ref mq, .ref mgr, .int cl, .int wa, .int co_, .int fi, .int bu, .int ho, .ref ml, .ref mi, .ref mr, .int lh, .int mg, .int wd, .int fpi, .int fal, .ref mm, .ref mu, .ref mk, .ref mx, .long po, .long de]))]) rfl ?_
    refine r_if_ge (tgt := 20) d_Mm_ladle_13 (by decide) (fun c_13 => ?_) (fun c_13 => ?_)
    · exact absurd hw (Int32.not_lt.mpr c_13)
    · refine r_iconst d_Mm_ladle_16 (v := 1) (by decide) ?_
      refine r_goto (tgt := 21) d_Mm_ladle_17 (by decide) ?_
      refine r_iconst d_Mm_ladle_21 (v := 1) (by decide) ?_
      refine r_callV (As := [.int 1, .int 1]) (rest := []) (csC := [(m, .inr (12, [.int 0, .ref mp, .int pt, .ref mf, .ref mh, .ref mn, .ref mt, .ref mz, .ref mc_, .ref mq, .ref mgr, .int cl, .int wa, .int co_, .int fi, .int bu, .int ho, .ref ml, .ref mi, .ref mr, .int lh, .int mg, .int wd, .int fpi, .int fal, .ref mm, .ref mu, .ref mk, .ref mx, .long po, .long de]))]) (is := [0]) (q0 := 0) rfl rfl ln_Mm_103 w_im_Mm_fails w_se_Mm_fails ok_Mm_ladle_Mm_fails d_Mm_ladle_22 (C_Mm_fails1 g m mp mf mh mn mt mz mc_ mq mgr ml mi mr mm mu mk mx th pt cl wa co_ fi bu ho lh mg wd fpi fal po de) rfl rfl (Nat.le_of_ble_eq_true rfl) rfl (by decide) (by omega) (by omega) (fun E cs1 hx => ?_) (fun v cs1 hx => ?_)
      · exact absurd hx.1 (by simp)
      · obtain ⟨e1, rfl⟩ := hx
        cases e1
        refine ⟨rfl, ?_⟩
        refine r_st (st2 := [.int 1]) rfl ?_
        refine r_cs (cs2 := [(m, .inr (12, [.int 1, .ref mp, .int pt, .ref mf, .ref mh, .ref mn, .ref mt, .ref mz, .ref mc_, .ref mq, .ref mgr, .int cl, .int wa, .int co_, .int fi, .int bu, .int ho, .ref ml, .ref mi, .ref mr, .int lh, .int mg, .int wd, .int fpi, .int fal, .ref mm, .ref mu, .ref mk, .ref mx, .long po, .long de]))]) rfl ?_
        refine r_if_eq (tgt := 30) d_Mm_ladle_25 (by decide) (fun c_25 => ?_) (fun c_25 => ?_)
        · exact absurd c_25 (by decide)
        · refine r_iconst d_Mm_ladle_28 (v := 0) (by decide) ?_
          refine r_iret d_Mm_ladle_29 rfl rfl ?_
          exact ⟨rfl, rfl⟩
theorem d_Mm_ladle_20 : decode prog_14_method_65_code 20 = .ok (.iconst 0, 1) := zo_3 (zd_b zq_prog_14_method_65_code_0 20 rfl rfl rfl)
theorem d_Mm_ladle_30 : decode prog_14_method_65_code 30 = .ok (.aload_n 0, 1) := zo_42 (zd_b zq_prog_14_method_65_code_0 30 rfl rfl rfl)
theorem d_Mm_ladle_31 : decode prog_14_method_65_code 31 = .ok (.getfield 62, 3) := zo_180 (d := 0) (e := 62) (zd_b zq_prog_14_method_65_code_0 31 rfl rfl rfl) (zd_b zq_prog_14_method_65_code_1 0 rfl rfl rfl) (zd_b zq_prog_14_method_65_code_1 1 rfl rfl rfl)
theorem d_Mm_ladle_34 : decode prog_14_method_65_code 34 = .ok (.iconst 1, 1) := zo_4 (zd_b zq_prog_14_method_65_code_1 2 rfl rfl rfl)
theorem d_Mm_ladle_35 : decode prog_14_method_65_code 35 = .ok (.iaload, 1) := zo_46 (zd_b zq_prog_14_method_65_code_1 3 rfl rfl rfl)
theorem d_Mm_ladle_36 : decode prog_14_method_65_code 36 = .ok (.ifCond .ne 7, 3) := zo_154 (d := 0) (e := 7) (zd_b zq_prog_14_method_65_code_1 4 rfl rfl rfl) (zd_b zq_prog_14_method_65_code_1 5 rfl rfl rfl) (zd_b zq_prog_14_method_65_code_1 6 rfl rfl rfl) (by decide +kernel)
theorem d_Mm_ladle_39 : decode prog_14_method_65_code 39 = .ok (.iconst 0, 1) := zo_3 (zd_b zq_prog_14_method_65_code_1 7 rfl rfl rfl)
theorem d_Mm_ladle_40 : decode prog_14_method_65_code 40 = .ok (.goto 35, 3) := zo_167 (d := 0) (e := 35) (zd_b zq_prog_14_method_65_code_1 8 rfl rfl rfl) (zd_b zq_prog_14_method_65_code_1 9 rfl rfl rfl) (zd_b zq_prog_14_method_65_code_1 10 rfl rfl rfl) (by decide +kernel)
theorem d_Mm_ladle_75 : decode prog_14_method_65_code 75 = .ok (.ireturn, 1) := zo_172 (zd_b zq_prog_14_method_65_code_2 11 rfl rfl rfl)
set_option maxHeartbeats 4000000 in
set_option maxRecDepth 100000 in
theorem C_Mm_ladle0 (g : zG) (m mp mf mh mn mt mz mc_ mq mgr ml mi mr mm mu mk mx : Nat) (th pt cl wa co_ fi bu ho lh mg wd fpi fal : Int32) (po de : Int64) (ir : Nat → Int32) (w : Int32) (hw : ¬ z_ix 3 w < 0) (h1 : ir 1 = 0) : CT g M_Mm_ladle [.ref m, .int w] [(m, .inr (12, [.int th, .ref mp, .int pt, .ref mf, .ref mh, .ref mn, .ref mt, .ref mz, .ref mc_, .ref mq, .ref mgr, .int cl, .int wa, .int co_, .int fi, .int bu, .int ho, .ref ml, .ref mi, .ref mr, .int lh, .int mg, .int wd, .int fpi, .int fal, .ref mm, .ref mu, .ref mk, .ref mx, .long po, .long de])), (mi, .inl (0, 4, .inl ir))] (fun o cs1 => o = .inl (some (.int 0)) ∧ cs1 = [(m, .inr (12, [.int 0, .ref mp, .int pt, .ref mf, .ref mh, .ref mn, .ref mt, .ref mz, .ref mc_, .ref mq, .ref mgr, .int cl, .int wa, .int co_, .int fi, .int bu, .int ho, .ref ml, .ref mi, .ref mr, .int lh, .int mg, .int wd, .int fpi, .int fal, .ref mm, .ref mu, .ref mk, .ref mx, .long po, .long de])), (mi, .inl (0, 4, .inl ir))]) 0 0 := by
  refine z_of (by decide) rfl (Nat.le_of_ble_eq_true rfl) (fun w0 => ?_)
  refine r_lvE (lv2 := [(0, .ref m), (1, .int w)]) rfl ?_
  refine r_aload_n d_Mm_ladle_0 rfl 0 rfl ?_
  refine r_iconst d_Mm_ladle_1 (v := 0) (by decide) ?_
  refine r_put fp_Mm_84 d_Mm_ladle_2 (fun h => nomatch h) rfl rfl (q0 := 0) rfl (Nat.le_of_ble_eq_true rfl) (cs' := [(m, .inr (12, [.int 0, .ref mp, .int pt, .ref mf, .ref mh, .ref mn, .ref mt, .ref mz, .ref mc_, .ref mq, .ref mgr, .int cl, .int wa, .int co_, .int fi, .int bu, .int ho, .ref ml, .ref mi, .ref mr, .int lh, .int mg, .int wd, .int fpi, .int fal, .ref mm, .ref mu, .ref mk, .ref mx, .long po, .long de])), (mi, .inl (0, 4, .inl ir))]) rfl ?_
  refine r_aload_n d_Mm_ladle_5 rfl 0 rfl ?_
  refine r_ldcWS (own := "IronpourModel") (i := 3) (by decide) d_Mm_ladle_6 ?_
  refine r_iload_n d_Mm_ladle_9 rfl 1 rfl ?_
  refine r_callVS (As := [.int w]) (rest := [.ref m]) (csC := []) (is := []) (i := 3) (by first | assumption | decide) rfl ln_Mm_97 w_im_String_indexOf_0 w_se_String_indexOf_0 ok_Mm_ladle_String_indexOf_0 d_Mm_ladle_10 (C_St_indexOf g 3 (by decide) w) rfl rfl (Nat.le_of_ble_eq_true rfl) rfl (by decide) (by omega) (by omega) (fun E cs1 hx => ?_) (fun v cs1 hx => ?_)
  · exact absurd hx.1 (by simp)
  · obtain ⟨e1, rfl⟩ := hx
    cases e1
    refine ⟨rfl, ?_⟩
    refine r_st (st2 := [.int (z_ix 3 w), .ref m]) rfl ?_
    refine r_cs (cs2 := [(m, .inr (12, [.int 0, .ref mp, .int pt, .ref mf, .ref mh, .ref mn, .ref mt, .ref mz, .ref mc_, .ref mq, .ref mgr, .int cl, .int wa, .int co_, .int fi, .int bu, .int ho, .ref ml, .ref mi, .ref mr, .int lh, .int mg, .int wd, .int fpi, .int fal, .ref mm, .ref mu, .ref mk, .ref mx, .long po, .long de])), (mi, .inl (0, 4, .inl ir))]) rfl ?_
    refine r_if_ge (tgt := 20) d_Mm_ladle_13 (by decide) (fun c_13 => ?_) (fun c_13 => ?_)
    · refine r_iconst d_Mm_ladle_20 (v := 0) (by decide) ?_
      refine r_iconst d_Mm_ladle_21 (v := 1) (by decide) ?_
      refine r_callV (As := [.int 0, .int 1]) (rest := []) (csC := [(m, .inr (12, [.int 0, .ref mp, .int pt, .ref mf, .ref mh, .ref mn, .ref mt, .ref mz, .ref mc_, .ref mq, .ref mgr, .int cl, .int wa, .int co_, .int fi, .int bu, .int ho, .ref ml, .ref mi, .ref mr, .int lh, .int mg, .int wd, .int fpi, .int fal, .ref mm, .ref mu, .ref mk, .ref mx, .long po, .long de]))]) (is := [0]) (q0 := 0) rfl rfl ln_Mm_103 w_im_Mm_fails w_se_Mm_fails ok_Mm_ladle_Mm_fails d_Mm_ladle_22 (C_Mm_fails0 g m mp mf mh mn mt mz mc_ mq mgr ml mi mr mm mu mk mx th pt cl wa co_ fi bu ho lh mg wd fpi fal po de 1) rfl rfl (Nat.le_of_ble_eq_true rfl) rfl (by decide) (by omega) (by omega) (fun E cs1 hx => ?_) (fun v cs1 hx => ?_)
      · exact absurd hx.1 (by simp)
      · obtain ⟨e1, rfl⟩ := hx
        cases e1
        refine ⟨rfl, ?_⟩
        refine r_st (st2 := [.int 0]) rfl ?_
        refine r_cs (cs2 := [(m, .inr (12, [.int 0, .ref mp, .int pt, .ref mf, .ref mh, .ref mn, .ref mt, .ref mz, .ref mc_, .ref mq, .ref mgr, .int cl, .int wa, .int co_, .int fi, .int bu, .int ho, .ref ml, .ref mi, .ref mr, .int lh, .int mg, .int wd, .int fpi, .int fal, .ref mm, .ref mu, .ref mk, .ref mx, .long po, .long de])), (mi, .inl (0, 4, .inl ir))]) rfl ?_
        refine r_if_eq (tgt := 30) d_Mm_ladle_25 (by decide) (fun c_25 => ?_) (fun c_25 => ?_)
        · refine r_aload_n d_Mm_ladle_30 rfl 0 rfl ?_
          refine r_get fs_Mm_62 d_Mm_ladle_31 (q0 := 0) rfl rfl ?_
          refine r_iconst d_Mm_ladle_34 (v := 1) (by decide) ?_
          refine r_iald d_Mm_ladle_35 (q0 := 1) rfl (fun q => q.elim (by decide) (by decide)) (v := ir 1) rfl ?_
          refine r_if_ne (tgt := 43) d_Mm_ladle_36 (by decide) (fun c_36 => ?_) (fun c_36 => ?_)
          · exact absurd h1 c_36
          · refine r_iconst d_Mm_ladle_39 (v := 0) (by decide) ?_
            refine r_goto (tgt := 75) d_Mm_ladle_40 (by decide) ?_
            refine r_iret d_Mm_ladle_75 rfl rfl ?_
            exact ⟨rfl, rfl⟩
        · exact absurd c_25 (by decide)
    · exact absurd (Int32.not_le.mp c_13) hw
abbrev M_Mm_pig : zM := (⟨"IronpourModel", "pig", "()I"⟩, prog_14_method_66_code, 2, (Option.some FieldType.int), 2, 47, [])
theorem d_Mm_pig_0 : decode prog_14_method_66_code 0 = .ok (.aload_n 0, 1) := zo_42 (zd_b zq_prog_14_method_66_code_0 0 rfl rfl rfl)
theorem d_Mm_pig_1 : decode prog_14_method_66_code 1 = .ok (.iconst 0, 1) := zo_3 (zd_b zq_prog_14_method_66_code_0 1 rfl rfl rfl)
theorem d_Mm_pig_2 : decode prog_14_method_66_code 2 = .ok (.putfield 84, 3) := zo_181 (d := 0) (e := 84) (zd_b zq_prog_14_method_66_code_0 2 rfl rfl rfl) (zd_b zq_prog_14_method_66_code_0 3 rfl rfl rfl) (zd_b zq_prog_14_method_66_code_0 4 rfl rfl rfl)
theorem d_Mm_pig_5 : decode prog_14_method_66_code 5 = .ok (.aload_n 0, 1) := zo_42 (zd_b zq_prog_14_method_66_code_0 5 rfl rfl rfl)
theorem d_Mm_pig_6 : decode prog_14_method_66_code 6 = .ok (.aload_n 0, 1) := zo_42 (zd_b zq_prog_14_method_66_code_0 6 rfl rfl rfl)
theorem d_Mm_pig_7 : decode prog_14_method_66_code 7 = .ok (.getfield 62, 3) := zo_180 (d := 0) (e := 62) (zd_b zq_prog_14_method_66_code_0 7 rfl rfl rfl) (zd_b zq_prog_14_method_66_code_0 8 rfl rfl rfl) (zd_b zq_prog_14_method_66_code_0 9 rfl rfl rfl)
theorem d_Mm_pig_10 : decode prog_14_method_66_code 10 = .ok (.iconst 1, 1) := zo_4 (zd_b zq_prog_14_method_66_code_0 10 rfl rfl rfl)
theorem d_Mm_pig_11 : decode prog_14_method_66_code 11 = .ok (.iaload, 1) := zo_46 (zd_b zq_prog_14_method_66_code_0 11 rfl rfl rfl)
theorem d_Mm_pig_12 : decode prog_14_method_66_code 12 = .ok (.ifCond .ne 7, 3) := zo_154 (d := 0) (e := 7) (zd_b zq_prog_14_method_66_code_0 12 rfl rfl rfl) (zd_b zq_prog_14_method_66_code_0 13 rfl rfl rfl) (zd_b zq_prog_14_method_66_code_0 14 rfl rfl rfl) (by decide +kernel)
theorem d_Mm_pig_15 : decode prog_14_method_66_code 15 = .ok (.iconst 1, 1) := zo_4 (zd_b zq_prog_14_method_66_code_0 15 rfl rfl rfl)
theorem d_Mm_pig_16 : decode prog_14_method_66_code 16 = .ok (.goto 4, 3) := zo_167 (d := 0) (e := 4) (zd_b zq_prog_14_method_66_code_0 16 rfl rfl rfl) (zd_b zq_prog_14_method_66_code_0 17 rfl rfl rfl) (zd_b zq_prog_14_method_66_code_0 18 rfl rfl rfl) (by decide +kernel)
theorem d_Mm_pig_20 : decode prog_14_method_66_code 20 = .ok (.iconst 1, 1) := zo_4 (zd_b zq_prog_14_method_66_code_0 20 rfl rfl rfl)
theorem d_Mm_pig_21 : decode prog_14_method_66_code 21 = .ok (.invokevirtual 103, 3) := zo_182 (d := 0) (e := 103) (zd_b zq_prog_14_method_66_code_0 21 rfl rfl rfl) (zd_b zq_prog_14_method_66_code_0 22 rfl rfl rfl) (zd_b zq_prog_14_method_66_code_0 23 rfl rfl rfl)
theorem ok_Mm_pig_Mm_fails : z_ok M_Mm_pig M_Mm_fails 2 := ⟨z_mj7 (i := 196) rfl (by decide +kernel), rfl, ⟨by decide +kernel, by decide +kernel, by decide +kernel⟩, ⟨by decide, by decide⟩, z_mj1 (i := 14) rfl (by decide +kernel), rfl⟩
theorem d_Mm_pig_24 : decode prog_14_method_66_code 24 = .ok (.ifCond .eq 5, 3) := zo_153 (d := 0) (e := 5) (zd_b zq_prog_14_method_66_code_0 24 rfl rfl rfl) (zd_b zq_prog_14_method_66_code_0 25 rfl rfl rfl) (zd_b zq_prog_14_method_66_code_0 26 rfl rfl rfl) (by decide +kernel)
theorem d_Mm_pig_27 : decode prog_14_method_66_code 27 = .ok (.iconst 0, 1) := zo_3 (zd_b zq_prog_14_method_66_code_0 27 rfl rfl rfl)
theorem d_Mm_pig_28 : decode prog_14_method_66_code 28 = .ok (.ireturn, 1) := zo_172 (zd_b zq_prog_14_method_66_code_0 28 rfl rfl rfl)
set_option maxHeartbeats 4000000 in
set_option maxRecDepth 100000 in
theorem C_Mm_pigE (g : zG) (m mp mf mh mn mt mz mc_ mq mgr ml mi mr mm mu mk mx : Nat) (th pt cl wa co_ fi bu ho lh mg wd fpi fal : Int32) (po de : Int64) (ir : Nat → Int32) (h1 : ir 1 = 0) : CT g M_Mm_pig [.ref m] [(m, .inr (12, [.int th, .ref mp, .int pt, .ref mf, .ref mh, .ref mn, .ref mt, .ref mz, .ref mc_, .ref mq, .ref mgr, .int cl, .int wa, .int co_, .int fi, .int bu, .int ho, .ref ml, .ref mi, .ref mr, .int lh, .int mg, .int wd, .int fpi, .int fal, .ref mm, .ref mu, .ref mk, .ref mx, .long po, .long de])), (mi, .inl (0, 4, .inl ir))] (fun o cs1 => o = .inl (some (.int 0)) ∧ cs1 = [(m, .inr (12, [.int 1, .ref mp, .int pt, .ref mf, .ref mh, .ref mn, .ref mt, .ref mz, .ref mc_, .ref mq, .ref mgr, .int cl, .int wa, .int co_, .int fi, .int bu, .int ho, .ref ml, .ref mi, .ref mr, .int lh, .int mg, .int wd, .int fpi, .int fal, .ref mm, .ref mu, .ref mk, .ref mx, .long po, .long de])), (mi, .inl (0, 4, .inl ir))]) 0 0 := by
  refine z_of (by decide) rfl (Nat.le_of_ble_eq_true rfl) (fun w0 => ?_)
  refine r_lvE (lv2 := [(0, .ref m)]) rfl ?_
  refine r_aload_n d_Mm_pig_0 rfl 0 rfl ?_
  refine r_iconst d_Mm_pig_1 (v := 0) (by decide) ?_
  refine r_put fp_Mm_84 d_Mm_pig_2 (fun h => nomatch h) rfl rfl (q0 := 0) rfl (Nat.le_of_ble_eq_true rfl) (cs' := [(m, .inr (12, [.int 0, .ref mp, .int pt, .ref mf, .ref mh, .ref mn, .ref mt, .ref mz, .ref mc_, .ref mq, .ref mgr, .int cl, .int wa, .int co_, .int fi, .int bu, .int ho, .ref ml, .ref mi, .ref mr, .int lh, .int mg, .int wd, .int fpi, .int fal, .ref mm, .ref mu, .ref mk, .ref mx, .long po, .long de])), (mi, .inl (0, 4, .inl ir))]) rfl ?_
  refine r_aload_n d_Mm_pig_5 rfl 0 rfl ?_
  refine r_aload_n d_Mm_pig_6 rfl 0 rfl ?_
  refine r_get fs_Mm_62 d_Mm_pig_7 (q0 := 0) rfl rfl ?_
  refine r_iconst d_Mm_pig_10 (v := 1) (by decide) ?_
  refine r_iald d_Mm_pig_11 (q0 := 1) rfl (fun q => q.elim (by decide) (by decide)) (v := ir 1) rfl ?_
  refine r_if_ne (tgt := 19) d_Mm_pig_12 (by decide) (fun c_12 => ?_) (fun c_12 => ?_)
  · exact absurd h1 c_12
  · refine r_iconst d_Mm_pig_15 (v := 1) (by decide) ?_
    refine r_goto (tgt := 20) d_Mm_pig_16 (by decide) ?_
    refine r_iconst d_Mm_pig_20 (v := 1) (by decide) ?_
    refine r_callV (As := [.int 1, .int 1]) (rest := []) (csC := [(m, .inr (12, [.int 0, .ref mp, .int pt, .ref mf, .ref mh, .ref mn, .ref mt, .ref mz, .ref mc_, .ref mq, .ref mgr, .int cl, .int wa, .int co_, .int fi, .int bu, .int ho, .ref ml, .ref mi, .ref mr, .int lh, .int mg, .int wd, .int fpi, .int fal, .ref mm, .ref mu, .ref mk, .ref mx, .long po, .long de]))]) (is := [0]) (q0 := 0) rfl rfl ln_Mm_103 w_im_Mm_fails w_se_Mm_fails ok_Mm_pig_Mm_fails d_Mm_pig_21 (C_Mm_fails1 g m mp mf mh mn mt mz mc_ mq mgr ml mi mr mm mu mk mx th pt cl wa co_ fi bu ho lh mg wd fpi fal po de) rfl rfl (Nat.le_of_ble_eq_true rfl) rfl (by decide) (by omega) (by omega) (fun E cs1 hx => ?_) (fun v cs1 hx => ?_)
    · exact absurd hx.1 (by simp)
    · obtain ⟨e1, rfl⟩ := hx
      cases e1
      refine ⟨rfl, ?_⟩
      refine r_st (st2 := [.int 1]) rfl ?_
      refine r_cs (cs2 := [(m, .inr (12, [.int 1, .ref mp, .int pt, .ref mf, .ref mh, .ref mn, .ref mt, .ref mz, .ref mc_, .ref mq, .ref mgr, .int cl, .int wa, .int co_, .int fi, .int bu, .int ho, .ref ml, .ref mi, .ref mr, .int lh, .int mg, .int wd, .int fpi, .int fal, .ref mm, .ref mu, .ref mk, .ref mx, .long po, .long de])), (mi, .inl (0, 4, .inl ir))]) rfl ?_
      refine r_if_eq (tgt := 29) d_Mm_pig_24 (by decide) (fun c_24 => ?_) (fun c_24 => ?_)
      · exact absurd c_24 (by decide)
      · refine r_iconst d_Mm_pig_27 (v := 0) (by decide) ?_
        refine r_iret d_Mm_pig_28 rfl rfl ?_
        exact ⟨rfl, rfl⟩
abbrev M_Mm_cheapest : zM := (⟨"IronpourModel", "cheapest", "(C)I"⟩, prog_14_method_72_code, 2, (Option.some FieldType.int), 8, 179, [])
theorem d_Mm_cheapest_0 : decode prog_14_method_72_code 0 = .ok (.aload_n 0, 1) := zo_42 (zd_b zq_prog_14_method_72_code_0 0 rfl rfl rfl)
theorem d_Mm_cheapest_1 : decode prog_14_method_72_code 1 = .ok (.iconst 0, 1) := zo_3 (zd_b zq_prog_14_method_72_code_0 1 rfl rfl rfl)
theorem d_Mm_cheapest_2 : decode prog_14_method_72_code 2 = .ok (.putfield 84, 3) := zo_181 (d := 0) (e := 84) (zd_b zq_prog_14_method_72_code_0 2 rfl rfl rfl) (zd_b zq_prog_14_method_72_code_0 3 rfl rfl rfl) (zd_b zq_prog_14_method_72_code_0 4 rfl rfl rfl)
theorem d_Mm_cheapest_5 : decode prog_14_method_72_code 5 = .ok (.aload_n 0, 1) := zo_42 (zd_b zq_prog_14_method_72_code_0 5 rfl rfl rfl)
theorem d_Mm_cheapest_6 : decode prog_14_method_72_code 6 = .ok (.ldc_w 279, 3) := zo_19 (d := 1) (e := 23) (zd_b zq_prog_14_method_72_code_0 6 rfl rfl rfl) (zd_b zq_prog_14_method_72_code_0 7 rfl rfl rfl) (zd_b zq_prog_14_method_72_code_0 8 rfl rfl rfl)
theorem d_Mm_cheapest_9 : decode prog_14_method_72_code 9 = .ok (.iload_n 1, 1) := zo_27 (zd_b zq_prog_14_method_72_code_0 9 rfl rfl rfl)
theorem d_Mm_cheapest_10 : decode prog_14_method_72_code 10 = .ok (.invokevirtual 97, 3) := zo_182 (d := 0) (e := 97) (zd_b zq_prog_14_method_72_code_0 10 rfl rfl rfl) (zd_b zq_prog_14_method_72_code_0 11 rfl rfl rfl) (zd_b zq_prog_14_method_72_code_0 12 rfl rfl rfl)
theorem ok_Mm_cheapest_String_indexOf_0 : z_ok M_Mm_cheapest M_String_indexOf_0 1 := ⟨z_mj3 (i := 58) rfl (by decide +kernel), rfl, ⟨by decide +kernel, by decide +kernel, by decide +kernel⟩, ⟨by decide, by decide⟩, z_mj1 (i := 15) rfl (by decide +kernel), rfl⟩
theorem d_Mm_cheapest_13 : decode prog_14_method_72_code 13 = .ok (.ifCond .ge 7, 3) := zo_156 (d := 0) (e := 7) (zd_b zq_prog_14_method_72_code_0 13 rfl rfl rfl) (zd_b zq_prog_14_method_72_code_0 14 rfl rfl rfl) (zd_b zq_prog_14_method_72_code_0 15 rfl rfl rfl) (by decide +kernel)
theorem d_Mm_cheapest_16 : decode prog_14_method_72_code 16 = .ok (.iconst 1, 1) := zo_4 (zd_b zq_prog_14_method_72_code_0 16 rfl rfl rfl)
theorem d_Mm_cheapest_17 : decode prog_14_method_72_code 17 = .ok (.goto 4, 3) := zo_167 (d := 0) (e := 4) (zd_b zq_prog_14_method_72_code_0 17 rfl rfl rfl) (zd_b zq_prog_14_method_72_code_0 18 rfl rfl rfl) (zd_b zq_prog_14_method_72_code_0 19 rfl rfl rfl) (by decide +kernel)
theorem d_Mm_cheapest_21 : decode prog_14_method_72_code 21 = .ok (.iconst 1, 1) := zo_4 (zd_b zq_prog_14_method_72_code_0 21 rfl rfl rfl)
theorem d_Mm_cheapest_22 : decode prog_14_method_72_code 22 = .ok (.invokevirtual 103, 3) := zo_182 (d := 0) (e := 103) (zd_b zq_prog_14_method_72_code_0 22 rfl rfl rfl) (zd_b zq_prog_14_method_72_code_0 23 rfl rfl rfl) (zd_b zq_prog_14_method_72_code_0 24 rfl rfl rfl)
theorem ok_Mm_cheapest_Mm_fails : z_ok M_Mm_cheapest M_Mm_fails 2 := ⟨z_mj7 (i := 196) rfl (by decide +kernel), rfl, ⟨by decide +kernel, by decide +kernel, by decide +kernel⟩, ⟨by decide, by decide⟩, z_mj1 (i := 14) rfl (by decide +kernel), rfl⟩
theorem d_Mm_cheapest_25 : decode prog_14_method_72_code 25 = .ok (.ifCond .ne 24, 3) := zo_154 (d := 0) (e := 24) (zd_b zq_prog_14_method_72_code_0 25 rfl rfl rfl) (zd_b zq_prog_14_method_72_code_0 26 rfl rfl rfl) (zd_b zq_prog_14_method_72_code_0 27 rfl rfl rfl) (by decide +kernel)
theorem d_Mm_cheapest_49 : decode prog_14_method_72_code 49 = .ok (.iconst 0, 1) := zo_3 (zd_b zq_prog_14_method_72_code_1 17 rfl rfl rfl)
theorem d_Mm_cheapest_50 : decode prog_14_method_72_code 50 = .ok (.ireturn, 1) := zo_172 (zd_b zq_prog_14_method_72_code_1 18 rfl rfl rfl)
