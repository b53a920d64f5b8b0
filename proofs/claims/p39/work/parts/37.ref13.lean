set_option maxHeartbeats 4000000 in
set_option maxRecDepth 100000 in
theorem C_Mm_treatE (g : zG) (m mp mf mh mn mt mz mc_ mq mgr ml mi mr mm mu mk mx : Nat) (th pt cl wa co_ fi bu ho lh mg wd fpi fal : Int32) (po de : Int64) (h : Int32) (hw : ¬ (1 ≤ h ∧ h ≤ 100)) : CT g M_Mm_treat [.ref m, .int h] [(m, .inr (12, [.int th, .ref mp, .int pt, .ref mf, .ref mh, .ref mn, .ref mt, .ref mz, .ref mc_, .ref mq, .ref mgr, .int cl, .int wa, .int co_, .int fi, .int bu, .int ho, .ref ml, .ref mi, .ref mr, .int lh, .int mg, .int wd, .int fpi, .int fal, .ref mm, .ref mu, .ref mk, .ref mx, .long po, .long de]))] (fun o cs1 => o = .inl (some (.int 0)) ∧ cs1 = [(m, .inr (12, [.int 1, .ref mp, .int pt, .ref mf, .ref mh, .ref mn, .ref mt, .ref mz, .ref mc_, .ref mq, .ref mgr, .int cl, .int wa, .int co_, .int fi, .int bu, .int ho, .ref ml, .ref mi, .ref mr, .int lh, .int mg, .int wd, .int fpi, .int fal, .ref mm, .ref mu, .ref mk, .ref mx, .long po, .long de]))]) 0 0 := by
  refine z_of (by decide) rfl (Nat.le_of_ble_eq_true rfl) (fun w0 => ?_)
  refine r_lvE (lv2 := [(0, .ref m), (1, .int h)]) rfl ?_
  refine r_aload_n d_Mm_treat_0 rfl 0 rfl ?_
  refine r_iconst d_Mm_treat_1 (v := 0) (by decide) ?_
  refine r_put fp_Mm_84 d_Mm_treat_2 (fun h => nomatch h) rfl rfl (q0 := 0) rfl (Nat.le_of_ble_eq_true rfl) (cs' := [(m, .inr (12, [.int 0, .ref mp, .int pt, .ref mf, .ref mh, .ref mn, .ref mt, .ref mz, .ref mc_, .ref mq, .ref mgr, .int cl, .int wa, .int co_, .int fi, .int bu, .int ho, .ref ml, .ref mi, .ref mr, .int lh, .int mg, .int wd, .int fpi, .int fal, .ref mm, .ref mu, .ref mk, .ref mx, .long po, .long de]))]) rfl ?_
  refine r_aload_n d_Mm_treat_5 rfl 0 rfl ?_
  refine r_iload_n d_Mm_treat_6 rfl 1 rfl ?_
  refine r_iconst d_Mm_treat_7 (v := 1) (by decide) ?_
  refine r_bipush d_Mm_treat_8 (v := 100) (by decide) ?_
  refine r_callS (As := [.int h, .int 1, .int 100]) (rest := [.ref m]) (csC := []) (is := []) ln_Mm_87 w_st_Mm_in ok_Mm_treat_Mm_in d_Mm_treat_10 (C_Mm_in g h 1 100) rfl rfl (Nat.le_of_ble_eq_true rfl) rfl (by decide) (by omega) (by omega) (fun E cs1 hx => ?_) (fun v cs1 hx => ?_)
  · exact absurd hx.1 (by simp)
  · obtain ⟨e1, rfl⟩ := hx
    rw [if_neg hw] at e1
    cases e1
    refine ⟨rfl, ?_⟩
    refine r_st (st2 := [.int 0, .ref m]) rfl ?_
    refine r_cs (cs2 := [(m, .inr (12, [.int 0, .ref mp, .int pt, .ref mf, .ref mh, .ref mn, .ref mt, .ref mz, .ref mc_, .ref mq, .ref mgr, .int cl, .int wa, .int co_, .int fi, .int bu, .int ho, .ref ml, .ref mi, .ref mr, .int lh, .int mg, .int wd, .int fpi, .int fal, .ref mm, .ref mu, .ref mk, .ref mx, .long po, .long de]))]) rfl ?_
    refine r_if_ne (tgt := 20) d_Mm_treat_13 (by decide) (fun c_13 => ?_) (fun c_13 => ?_)
    · exact absurd c_13 (by decide)
    · refine r_iconst d_Mm_treat_16 (v := 1) (by decide) ?_
      refine r_goto (tgt := 21) d_Mm_treat_17 (by decide) ?_
      refine r_iconst d_Mm_treat_21 (v := 1) (by decide) ?_
      refine r_callV (As := [.int 1, .int 1]) (rest := []) (csC := [(m, .inr (12, [.int 0, .ref mp, .int pt, .ref mf, .ref mh, .ref mn, .ref mt, .ref mz, .ref mc_, .ref mq, .ref mgr, .int cl, .int wa, .int co_, .int fi, .int bu, .int ho, .ref ml, .ref mi, .ref mr, .int lh, .int mg, .int wd, .int fpi, .int fal, .ref mm, .ref mu, .ref mk, .ref mx, .long po, .long de]))]) (is := [0]) (q0 := 0) rfl rfl ln_Mm_103 w_im_Mm_fails w_se_Mm_fails ok_Mm_treat_Mm_fails d_Mm_treat_22 (C_Mm_fails1 g m mp mf mh mn mt mz mc_ mq mgr ml mi mr mm mu mk mx th pt cl wa co_ fi bu ho lh mg wd fpi fal po de) rfl rfl (Nat.le_of_ble_eq_true rfl) rfl (by decide) (by omega) (by omega) (fun E cs1 hx => ?_) (fun v cs1 hx => ?_)
      · exact absurd hx.1 (by simp)
      · obtain ⟨e1, rfl⟩ := hx
        cases e1
        refine ⟨rfl, ?_⟩
        refine r_st (st2 := [.int 1]) rfl ?_
        refine r_cs (cs2 := [(m, .inr (12, [.int 1, .ref mp, .int pt, .ref mf, .ref mh, .ref mn, .ref mt, .ref mz, .ref mc_, .ref mq, .ref mgr, .int cl, .int wa, .int co_, .int fi, .int bu, .int ho, .ref ml, .ref mi, .ref mr, .int lh, .int mg, .int wd, .int fpi, .int fal, .ref mm, .ref mu, .ref mk, .ref mx, .long po, .long de]))]) rfl ?_
        refine r_if_ne (tgt := 74) d_Mm_treat_25 (by decide) (fun c_25 => ?_) (fun c_25 => ?_)
        · refine r_iconst d_Mm_treat_74 (v := 0) (by decide) ?_
          refine r_iret d_Mm_treat_75 rfl rfl ?_
          exact ⟨rfl, rfl⟩
        · exact absurd c_25 (by decide)
theorem d_Mm_treat_20 : decode prog_14_method_63_code 20 = .ok (.iconst 0, 1) := zo_3 (zd_b zq_prog_14_method_63_code_0 20 rfl rfl rfl)
theorem d_Mm_treat_28 : decode prog_14_method_63_code 28 = .ok (.aload_n 0, 1) := zo_42 (zd_b zq_prog_14_method_63_code_0 28 rfl rfl rfl)
theorem d_Mm_treat_29 : decode prog_14_method_63_code 29 = .ok (.aload_n 0, 1) := zo_42 (zd_b zq_prog_14_method_63_code_0 29 rfl rfl rfl)
theorem d_Mm_treat_30 : decode prog_14_method_63_code 30 = .ok (.getfield 62, 3) := zo_180 (d := 0) (e := 62) (zd_b zq_prog_14_method_63_code_0 30 rfl rfl rfl) (zd_b zq_prog_14_method_63_code_0 31 rfl rfl rfl) (zd_b zq_prog_14_method_63_code_1 0 rfl rfl rfl)
theorem d_Mm_treat_33 : decode prog_14_method_63_code 33 = .ok (.iconst 1, 1) := zo_4 (zd_b zq_prog_14_method_63_code_1 1 rfl rfl rfl)
theorem d_Mm_treat_34 : decode prog_14_method_63_code 34 = .ok (.iaload, 1) := zo_46 (zd_b zq_prog_14_method_63_code_1 2 rfl rfl rfl)
theorem d_Mm_treat_35 : decode prog_14_method_63_code 35 = .ok (.ifCond .ne 7, 3) := zo_154 (d := 0) (e := 7) (zd_b zq_prog_14_method_63_code_1 3 rfl rfl rfl) (zd_b zq_prog_14_method_63_code_1 4 rfl rfl rfl) (zd_b zq_prog_14_method_63_code_1 5 rfl rfl rfl) (by decide +kernel)
theorem d_Mm_treat_38 : decode prog_14_method_63_code 38 = .ok (.iconst 1, 1) := zo_4 (zd_b zq_prog_14_method_63_code_1 6 rfl rfl rfl)
theorem d_Mm_treat_39 : decode prog_14_method_63_code 39 = .ok (.goto 4, 3) := zo_167 (d := 0) (e := 4) (zd_b zq_prog_14_method_63_code_1 7 rfl rfl rfl) (zd_b zq_prog_14_method_63_code_1 8 rfl rfl rfl) (zd_b zq_prog_14_method_63_code_1 9 rfl rfl rfl) (by decide +kernel)
theorem d_Mm_treat_43 : decode prog_14_method_63_code 43 = .ok (.iconst 2, 1) := zo_5 (zd_b zq_prog_14_method_63_code_1 11 rfl rfl rfl)
theorem d_Mm_treat_44 : decode prog_14_method_63_code 44 = .ok (.invokevirtual 103, 3) := zo_182 (d := 0) (e := 103) (zd_b zq_prog_14_method_63_code_1 12 rfl rfl rfl) (zd_b zq_prog_14_method_63_code_1 13 rfl rfl rfl) (zd_b zq_prog_14_method_63_code_1 14 rfl rfl rfl)
theorem d_Mm_treat_47 : decode prog_14_method_63_code 47 = .ok (.ifCond .ne 27, 3) := zo_154 (d := 0) (e := 27) (zd_b zq_prog_14_method_63_code_1 15 rfl rfl rfl) (zd_b zq_prog_14_method_63_code_1 16 rfl rfl rfl) (zd_b zq_prog_14_method_63_code_1 17 rfl rfl rfl) (by decide +kernel)
set_option maxHeartbeats 4000000 in
set_option maxRecDepth 100000 in
theorem C_Mm_treatF (g : zG) (m mp mf mh mn mt mz mc_ mq mgr ml mi mr mm mu mk mx : Nat) (th pt cl wa co_ fi bu ho lh mg wd fpi fal : Int32) (po de : Int64) (ir : Nat → Int32) (h : Int32) (hw : (1 ≤ h ∧ h ≤ 100)) (h1 : ir 1 = 0) : CT g M_Mm_treat [.ref m, .int h] [(m, .inr (12, [.int th, .ref mp, .int pt, .ref mf, .ref mh, .ref mn, .ref mt, .ref mz, .ref mc_, .ref mq, .ref mgr, .int cl, .int wa, .int co_, .int fi, .int bu, .int ho, .ref ml, .ref mi, .ref mr, .int lh, .int mg, .int wd, .int fpi, .int fal, .ref mm, .ref mu, .ref mk, .ref mx, .long po, .long de])), (mi, .inl (0, 4, .inl ir))] (fun o cs1 => o = .inl (some (.int 0)) ∧ cs1 = [(m, .inr (12, [.int 2, .ref mp, .int pt, .ref mf, .ref mh, .ref mn, .ref mt, .ref mz, .ref mc_, .ref mq, .ref mgr, .int cl, .int wa, .int co_, .int fi, .int bu, .int ho, .ref ml, .ref mi, .ref mr, .int lh, .int mg, .int wd, .int fpi, .int fal, .ref mm, .ref mu, .ref mk, .ref mx, .long po, .long de])), (mi, .inl (0, 4, .inl ir))]) 0 0 := by
  refine z_of (by decide) rfl (Nat.le_of_ble_eq_true rfl) (fun w0 => ?_)
  refine r_lvE (lv2 := [(0, .ref m), (1, .int h)]) rfl ?_
  refine r_aload_n d_Mm_treat_0 rfl 0 rfl ?_
  refine r_iconst d_Mm_treat_1 (v := 0) (by decide) ?_
  refine r_put fp_Mm_84 d_Mm_treat_2 (fun h => nomatch h) rfl rfl (q0 := 0) rfl (Nat.le_of_ble_eq_true rfl) (cs' := [(m, .inr (12, [.int 0, .ref mp, .int pt, .ref mf, .ref mh, .ref mn, .ref mt, .ref mz, .ref mc_, .ref mq, .ref mgr, .int cl, .int wa, .int co_, .int fi, .int bu, .int ho, .ref ml, .ref mi, .ref mr, .int lh, .int mg, .int wd, .int fpi, .int fal, .ref mm, .ref mu, .ref mk, .ref mx, .long po, .long de])), (mi, .inl (0, 4, .inl ir))]) rfl ?_
  refine r_aload_n d_Mm_treat_5 rfl 0 rfl ?_
  refine r_iload_n d_Mm_treat_6 rfl 1 rfl ?_
  refine r_iconst d_Mm_treat_7 (v := 1) (by decide) ?_
  refine r_bipush d_Mm_treat_8 (v := 100) (by decide) ?_
  refine r_callS (As := [.int h, .int 1, .int 100]) (rest := [.ref m]) (csC := []) (is := []) ln_Mm_87 w_st_Mm_in ok_Mm_treat_Mm_in d_Mm_treat_10 (C_Mm_in g h 1 100) rfl rfl (Nat.le_of_ble_eq_true rfl) rfl (by decide) (by omega) (by omega) (fun E cs1 hx => ?_) (fun v cs1 hx => ?_)
  · exact absurd hx.1 (by simp)
  · obtain ⟨e1, rfl⟩ := hx
    rw [if_pos hw] at e1
    cases e1
    refine ⟨rfl, ?_⟩
    refine r_st (st2 := [.int 1, .ref m]) rfl ?_
    refine r_cs (cs2 := [(m, .inr (12, [.int 0, .ref mp, .int pt, .ref mf, .ref mh, .ref mn, .ref mt, .ref mz, .ref mc_, .ref mq, .ref mgr, .int cl, .int wa, .int co_, .int fi, .int bu, .int ho, .ref ml, .ref mi, .ref mr, .int lh, .int mg, .int wd, .int fpi, .int fal, .ref mm, .ref mu, .ref mk, .ref mx, .long po, .long de])), (mi, .inl (0, 4, .inl ir))]) rfl ?_
    refine r_if_ne (tgt := 20) d_Mm_treat_13 (by decide) (fun c_13 => ?_) (fun c_13 => ?_)
    · refine r_iconst d_Mm_treat_20 (v := 0) (by decide) ?_
      refine r_iconst d_Mm_treat_21 (v := 1) (by decide) ?_
      refine r_callV (As := [.int 0, .int 1]) (rest := []) (csC := [(m, .inr (12, [.int 0, .ref mp, .int pt, .ref mf, .ref mh, .ref mn, .ref mt, .ref mz, .ref mc_, .ref mq, .ref mgr, .int cl, .int wa, .int co_, .int fi, .int bu, .int ho, .ref ml, .ref mi, .ref mr, .int lh, .int mg, .int wd, .int fpi, .int fal, .ref mm, .ref mu, .ref mk, .ref mx, .long po, .long de]))]) (is := [0]) (q0 := 0) rfl rfl ln_Mm_103 w_im_Mm_fails w_se_Mm_fails ok_Mm_treat_Mm_fails d_Mm_treat_22 (C_Mm_fails0 g m mp mf mh mn mt mz mc_ mq mgr ml mi mr mm mu mk mx th pt cl wa co_ fi bu ho lh mg wd fpi fal po de 1) rfl rfl (Nat.le_of_ble_eq_true rfl) rfl (by decide) (by omega) (by omega) (fun E cs1 hx => ?_) (fun v cs1 hx => ?_)
      · exact absurd hx.1 (by simp)
      · obtain ⟨e1, rfl⟩ := hx
        cases e1
        refine ⟨rfl, ?_⟩
        refine r_st (st2 := [.int 0]) rfl ?_
        refine r_cs (cs2 := [(m, .inr (12, [.int 0, .ref mp, .int pt, .ref mf, .ref mh, .ref mn, .ref mt, .ref mz, .ref mc_, .ref mq, .ref mgr, .int cl, .int wa, .int co_, .int fi, .int bu, .int ho, .ref ml, .ref mi, .ref mr, .int lh, .int mg, .int wd, .int fpi, .int fal, .ref mm, .ref mu, .ref mk, .ref mx, .long po, .long de])), (mi, .inl (0, 4, .inl ir))]) rfl ?_
        refine r_if_ne (tgt := 74) d_Mm_treat_25 (by decide) (fun c_25 => ?_) (fun c_25 => ?_)
        · exact absurd c_25 (by decide)
        · refine r_aload_n d_Mm_treat_28 rfl 0 rfl ?_
          refine r_aload_n d_Mm_treat_29 rfl 0 rfl ?_
          refine r_get fs_Mm_62 d_Mm_treat_30 (q0 := 0) rfl rfl ?_
          refine r_iconst d_Mm_treat_33 (v := 1) (by decide) ?_
          refine r_iald d_Mm_treat_34 (q0 := 1) rfl (fun q => q.elim (by decide) (by decide)) (v := ir 1) rfl ?_
          refine r_if_ne (tgt := 42) d_Mm_treat_35 (by decide) (fun c_35 => ?_) (fun c_35 => ?_)
          · exact absurd h1 c_35
          · refine r_iconst d_Mm_treat_38 (v := 1) (by decide) ?_
            refine r_goto (tgt := 43) d_Mm_treat_39 (by decide) ?_
            refine r_iconst d_Mm_treat_43 (v := 2) (by decide) ?_
            refine r_callV (As := [.int 1, .int 2]) (rest := []) (csC := [(m, .inr (12, [.int 0, .ref mp, .int pt, .ref mf, .ref mh, .ref mn, .ref mt, .ref mz, .ref mc_, .ref mq, .ref mgr, .int cl, .int wa, .int co_, .int fi, .int bu, .int ho, .ref ml, .ref mi, .ref mr, .int lh, .int mg, .int wd, .int fpi, .int fal, .ref mm, .ref mu, .ref mk, .ref mx, .long po, .long de]))]) (is := [0]) (q0 := 0) rfl rfl ln_Mm_103 w_im_Mm_fails w_se_Mm_fails ok_Mm_treat_Mm_fails d_Mm_treat_44 (C_Mm_fails2 g m mp mf mh mn mt mz mc_ mq mgr ml mi mr mm mu mk mx th pt cl wa co_ fi bu ho lh mg wd fpi fal po de) rfl rfl (Nat.le_of_ble_eq_true rfl) rfl (by decide) (by omega) (by omega) (fun E cs1 hx => ?_) (fun v cs1 hx => ?_)
            · exact absurd hx.1 (by simp)
            · obtain ⟨e1, rfl⟩ := hx
              cases e1
              refine ⟨rfl, ?_⟩
              refine r_st (st2 := [.int 1]) rfl ?_
              refine r_cs (cs2 := [(m, .inr (12, [.int 2, .ref mp, .int pt, .ref mf, .ref mh, .ref mn, .ref mt, .ref mz, .ref mc_, .ref mq, .ref mgr, .int cl, .int wa, .int co_, .int fi, .int bu, .int ho, .ref ml, .ref mi, .ref mr, .int lh, .int mg, .int wd, .int fpi, .int fal, .ref mm, .ref mu, .ref mk, .ref mx, .long po, .long de])), (mi, .inl (0, 4, .inl ir))]) rfl ?_
              refine r_if_ne (tgt := 74) d_Mm_treat_47 (by decide) (fun c_47 => ?_) (fun c_47 => ?_)
              · refine r_iconst d_Mm_treat_74 (v := 0) (by decide) ?_
                refine r_iret d_Mm_treat_75 rfl rfl ?_
                exact ⟨rfl, rfl⟩
              · exact absurd c_47 (by decide)
    · exact absurd c_13 (by decide)
abbrev M_Mm_minutes : zM := (⟨"IronpourModel", "minutes", "(I)I"⟩, prog_14_method_64_code, 3, (Option.some FieldType.int), 4, 84, [])
theorem d_Mm_minutes_0 : decode prog_14_method_64_code 0 = .ok (.aload_n 0, 1) := zo_42 (zd_b zq_prog_14_method_64_code_0 0 rfl rfl rfl)
theorem d_Mm_minutes_1 : decode prog_14_method_64_code 1 = .ok (.iconst 0, 1) := zo_3 (zd_b zq_prog_14_method_64_code_0 1 rfl rfl rfl)
theorem d_Mm_minutes_2 : decode prog_14_method_64_code 2 = .ok (.putfield 84, 3) := zo_181 (d := 0) (e := 84) (zd_b zq_prog_14_method_64_code_0 2 rfl rfl rfl) (zd_b zq_prog_14_method_64_code_0 3 rfl rfl rfl) (zd_b zq_prog_14_method_64_code_0 4 rfl rfl rfl)
theorem d_Mm_minutes_5 : decode prog_14_method_64_code 5 = .ok (.aload_n 0, 1) := zo_42 (zd_b zq_prog_14_method_64_code_0 5 rfl rfl rfl)
theorem d_Mm_minutes_6 : decode prog_14_method_64_code 6 = .ok (.iload_n 1, 1) := zo_27 (zd_b zq_prog_14_method_64_code_0 6 rfl rfl rfl)
theorem d_Mm_minutes_7 : decode prog_14_method_64_code 7 = .ok (.iconst 1, 1) := zo_4 (zd_b zq_prog_14_method_64_code_0 7 rfl rfl rfl)
theorem d_Mm_minutes_8 : decode prog_14_method_64_code 8 = .ok (.bipush 60, 2) := zo_16 (d := 60) (zd_b zq_prog_14_method_64_code_0 8 rfl rfl rfl) (zd_b zq_prog_14_method_64_code_0 9 rfl rfl rfl) (by decide +kernel)
theorem d_Mm_minutes_10 : decode prog_14_method_64_code 10 = .ok (.invokestatic 87, 3) := zo_184 (d := 0) (e := 87) (zd_b zq_prog_14_method_64_code_0 10 rfl rfl rfl) (zd_b zq_prog_14_method_64_code_0 11 rfl rfl rfl) (zd_b zq_prog_14_method_64_code_0 12 rfl rfl rfl)
theorem ok_Mm_minutes_Mm_in : z_ok M_Mm_minutes M_Mm_in 3 := ⟨z_mj7 (i := 190) rfl (by decide +kernel), rfl, ⟨by decide +kernel, by decide +kernel, by decide +kernel⟩, ⟨by decide, by decide⟩, z_mj1 (i := 14) rfl (by decide +kernel), rfl⟩
theorem d_Mm_minutes_13 : decode prog_14_method_64_code 13 = .ok (.ifCond .ne 7, 3) := zo_154 (d := 0) (e := 7) (zd_b zq_prog_14_method_64_code_0 13 rfl rfl rfl) (zd_b zq_prog_14_method_64_code_0 14 rfl rfl rfl) (zd_b zq_prog_14_method_64_code_0 15 rfl rfl rfl) (by decide +kernel)
theorem d_Mm_minutes_16 : decode prog_14_method_64_code 16 = .ok (.iconst 1, 1) := zo_4 (zd_b zq_prog_14_method_64_code_0 16 rfl rfl rfl)
theorem d_Mm_minutes_17 : decode prog_14_method_64_code 17 = .ok (.goto 4, 3) := zo_167 (d := 0) (e := 4) (zd_b zq_prog_14_method_64_code_0 17 rfl rfl rfl) (zd_b zq_prog_14_method_64_code_0 18 rfl rfl rfl) (zd_b zq_prog_14_method_64_code_0 19 rfl rfl rfl) (by decide +kernel)
theorem d_Mm_minutes_21 : decode prog_14_method_64_code 21 = .ok (.iconst 1, 1) := zo_4 (zd_b zq_prog_14_method_64_code_0 21 rfl rfl rfl)
theorem d_Mm_minutes_22 : decode prog_14_method_64_code 22 = .ok (.invokevirtual 103, 3) := zo_182 (d := 0) (e := 103) (zd_b zq_prog_14_method_64_code_0 22 rfl rfl rfl) (zd_b zq_prog_14_method_64_code_0 23 rfl rfl rfl) (zd_b zq_prog_14_method_64_code_0 24 rfl rfl rfl)
theorem ok_Mm_minutes_Mm_fails : z_ok M_Mm_minutes M_Mm_fails 2 := ⟨z_mj7 (i := 196) rfl (by decide +kernel), rfl, ⟨by decide +kernel, by decide +kernel, by decide +kernel⟩, ⟨by decide, by decide⟩, z_mj1 (i := 14) rfl (by decide +kernel), rfl⟩
theorem d_Mm_minutes_25 : decode prog_14_method_64_code 25 = .ok (.ifCond .eq 5, 3) := zo_153 (d := 0) (e := 5) (zd_b zq_prog_14_method_64_code_0 25 rfl rfl rfl) (zd_b zq_prog_14_method_64_code_0 26 rfl rfl rfl) (zd_b zq_prog_14_method_64_code_0 27 rfl rfl rfl) (by decide +kernel)
theorem d_Mm_minutes_28 : decode prog_14_method_64_code 28 = .ok (.iconst 0, 1) := zo_3 (zd_b zq_prog_14_method_64_code_0 28 rfl rfl rfl)
theorem d_Mm_minutes_29 : decode prog_14_method_64_code 29 = .ok (.ireturn, 1) := zo_172 (zd_b zq_prog_14_method_64_code_0 29 rfl rfl rfl)
theorem d_Mm_minutes_20 : decode prog_14_method_64_code 20 = .ok (.iconst 0, 1) := zo_3 (zd_b zq_prog_14_method_64_code_0 20 rfl rfl rfl)
theorem d_Mm_minutes_30 : decode prog_14_method_64_code 30 = .ok (.iconst 0, 1) := zo_3 (zd_b zq_prog_14_method_64_code_0 30 rfl rfl rfl)
theorem d_Mm_minutes_31 : decode prog_14_method_64_code 31 = .ok (.istore_n 2, 1) := zo_61 (zd_b zq_prog_14_method_64_code_0 31 rfl rfl rfl)
theorem d_Mm_minutes_32 : decode prog_14_method_64_code 32 = .ok (.iload_n 2, 1) := zo_28 (zd_b zq_prog_14_method_64_code_1 0 rfl rfl rfl)
theorem d_Mm_minutes_33 : decode prog_14_method_64_code 33 = .ok (.iload_n 1, 1) := zo_27 (zd_b zq_prog_14_method_64_code_1 1 rfl rfl rfl)
theorem d_Mm_minutes_34 : decode prog_14_method_64_code 34 = .ok (.if_icmp .ge 52, 3) := zo_162 (d := 0) (e := 52) (zd_b zq_prog_14_method_64_code_1 2 rfl rfl rfl) (zd_b zq_prog_14_method_64_code_1 3 rfl rfl rfl) (zd_b zq_prog_14_method_64_code_1 4 rfl rfl rfl) (by decide +kernel)
theorem d_Mm_minutes_86 : decode prog_14_method_64_code 86 = .ok (.iconst 0, 1) := zo_3 (zd_b zq_prog_14_method_64_code_2 22 rfl rfl rfl)
theorem d_Mm_minutes_87 : decode prog_14_method_64_code 87 = .ok (.istore_n 2, 1) := zo_61 (zd_b zq_prog_14_method_64_code_2 23 rfl rfl rfl)
theorem d_Mm_minutes_88 : decode prog_14_method_64_code 88 = .ok (.iload_n 2, 1) := zo_28 (zd_b zq_prog_14_method_64_code_2 24 rfl rfl rfl)
theorem d_Mm_minutes_89 : decode prog_14_method_64_code 89 = .ok (.aload_n 0, 1) := zo_42 (zd_b zq_prog_14_method_64_code_2 25 rfl rfl rfl)
theorem d_Mm_minutes_90 : decode prog_14_method_64_code 90 = .ok (.getfield 75, 3) := zo_180 (d := 0) (e := 75) (zd_b zq_prog_14_method_64_code_2 26 rfl rfl rfl) (zd_b zq_prog_14_method_64_code_2 27 rfl rfl rfl) (zd_b zq_prog_14_method_64_code_2 28 rfl rfl rfl)
theorem fs_Mm_75 : z_fs "IronpourModel" 75 12 26 := ⟨R_Mm, "IronpourModel", F_Mm, 31, rfl, u_Mm, by decide, Or.inl ⟨z_mj7 (i := 109) rfl (by decide +kernel), Or.inl rfl⟩⟩
theorem d_Mm_minutes_93 : decode prog_14_method_64_code 93 = .ok (.invokevirtual 208, 3) := zo_182 (d := 0) (e := 208) (zd_b zq_prog_14_method_64_code_2 29 rfl rfl rfl) (zd_b zq_prog_14_method_64_code_2 30 rfl rfl rfl) (zd_b zq_prog_14_method_64_code_2 31 rfl rfl rfl)
theorem ok_Mm_minutes_AL_size : z_ok M_Mm_minutes M_AL_size 0 := ⟨z_mj2 (i := 172) rfl (by decide +kernel), rfl, ⟨by decide +kernel, by decide +kernel, by decide +kernel⟩, ⟨by decide, by decide⟩, z_mj1 (i := 13) rfl (by decide +kernel), rfl⟩
theorem d_Mm_minutes_96 : decode prog_14_method_64_code 96 = .ok (.if_icmp .ge 26, 3) := zo_162 (d := 0) (e := 26) (zd_b zq_prog_14_method_64_code_3 0 rfl rfl rfl) (zd_b zq_prog_14_method_64_code_3 1 rfl rfl rfl) (zd_b zq_prog_14_method_64_code_3 2 rfl rfl rfl) (by decide +kernel)
theorem d_Mm_minutes_122 : decode prog_14_method_64_code 122 = .ok (.aload_n 0, 1) := zo_42 (zd_b zq_prog_14_method_64_code_3 26 rfl rfl rfl)
theorem d_Mm_minutes_123 : decode prog_14_method_64_code 123 = .ok (.getfield 62, 3) := zo_180 (d := 0) (e := 62) (zd_b zq_prog_14_method_64_code_3 27 rfl rfl rfl) (zd_b zq_prog_14_method_64_code_3 28 rfl rfl rfl) (zd_b zq_prog_14_method_64_code_3 29 rfl rfl rfl)
theorem d_Mm_minutes_126 : decode prog_14_method_64_code 126 = .ok (.iconst 1, 1) := zo_4 (zd_b zq_prog_14_method_64_code_3 30 rfl rfl rfl)
theorem d_Mm_minutes_127 : decode prog_14_method_64_code 127 = .ok (.iaload, 1) := zo_46 (zd_b zq_prog_14_method_64_code_3 31 rfl rfl rfl)
theorem d_Mm_minutes_128 : decode prog_14_method_64_code 128 = .ok (.ifCond .ne 7, 3) := zo_154 (d := 0) (e := 7) (zd_b zq_prog_14_method_64_code_4 0 rfl rfl rfl) (zd_b zq_prog_14_method_64_code_4 1 rfl rfl rfl) (zd_b zq_prog_14_method_64_code_4 2 rfl rfl rfl) (by decide +kernel)
theorem d_Mm_minutes_131 : decode prog_14_method_64_code 131 = .ok (.iconst 0, 1) := zo_3 (zd_b zq_prog_14_method_64_code_4 3 rfl rfl rfl)
theorem d_Mm_minutes_132 : decode prog_14_method_64_code 132 = .ok (.goto 7, 3) := zo_167 (d := 0) (e := 7) (zd_b zq_prog_14_method_64_code_4 4 rfl rfl rfl) (zd_b zq_prog_14_method_64_code_4 5 rfl rfl rfl) (zd_b zq_prog_14_method_64_code_4 6 rfl rfl rfl) (by decide +kernel)
theorem d_Mm_minutes_139 : decode prog_14_method_64_code 139 = .ok (.ireturn, 1) := zo_172 (zd_b zq_prog_14_method_64_code_4 11 rfl rfl rfl)
theorem d_Mm_minutes_37 : decode prog_14_method_64_code 37 = .ok (.aload_n 0, 1) := zo_42 (zd_b zq_prog_14_method_64_code_1 5 rfl rfl rfl)
theorem d_Mm_minutes_38 : decode prog_14_method_64_code 38 = .ok (.getfield 62, 3) := zo_180 (d := 0) (e := 62) (zd_b zq_prog_14_method_64_code_1 6 rfl rfl rfl) (zd_b zq_prog_14_method_64_code_1 7 rfl rfl rfl) (zd_b zq_prog_14_method_64_code_1 8 rfl rfl rfl)
theorem d_Mm_minutes_41 : decode prog_14_method_64_code 41 = .ok (.iconst 1, 1) := zo_4 (zd_b zq_prog_14_method_64_code_1 9 rfl rfl rfl)
theorem d_Mm_minutes_42 : decode prog_14_method_64_code 42 = .ok (.iaload, 1) := zo_46 (zd_b zq_prog_14_method_64_code_1 10 rfl rfl rfl)
theorem d_Mm_minutes_43 : decode prog_14_method_64_code 43 = .ok (.ifCond .le 43, 3) := zo_158 (d := 0) (e := 43) (zd_b zq_prog_14_method_64_code_1 11 rfl rfl rfl) (zd_b zq_prog_14_method_64_code_1 12 rfl rfl rfl) (zd_b zq_prog_14_method_64_code_1 13 rfl rfl rfl) (by decide +kernel)
abbrev M_Mm_ladle : zM := (⟨"IronpourModel", "ladle", "(C)I"⟩, prog_14_method_65_code, 2, (Option.some FieldType.int), 8, 179, [])
theorem d_Mm_ladle_0 : decode prog_14_method_65_code 0 = .ok (.aload_n 0, 1) := zo_42 (zd_b zq_prog_14_method_65_code_0 0 rfl rfl rfl)
theorem d_Mm_ladle_1 : decode prog_14_method_65_code 1 = .ok (.iconst 0, 1) := zo_3 (zd_b zq_prog_14_method_65_code_0 1 rfl rfl rfl)
theorem d_Mm_ladle_2 : decode prog_14_method_65_code 2 = .ok (.putfield 84, 3) := zo_181 (d := 0) (e := 84) (zd_b zq_prog_14_method_65_code_0 2 rfl rfl rfl) (zd_b zq_prog_14_method_65_code_0 3 rfl rfl rfl) (zd_b zq_prog_14_method_65_code_0 4 rfl rfl rfl)
theorem d_Mm_ladle_5 : decode prog_14_method_65_code 5 = .ok (.aload_n 0, 1) := zo_42 (zd_b zq_prog_14_method_65_code_0 5 rfl rfl rfl)
theorem d_Mm_ladle_6 : decode prog_14_method_65_code 6 = .ok (.ldc_w 267, 3) := zo_19 (d := 1) (e := 11) (zd_b zq_prog_14_method_65_code_0 6 rfl rfl rfl) (zd_b zq_prog_14_method_65_code_0 7 rfl rfl rfl) (zd_b zq_prog_14_method_65_code_0 8 rfl rfl rfl)
theorem d_Mm_ladle_9 : decode prog_14_method_65_code 9 = .ok (.iload_n 1, 1) := zo_27 (zd_b zq_prog_14_method_65_code_0 9 rfl rfl rfl)
theorem d_Mm_ladle_10 : decode prog_14_method_65_code 10 = .ok (.invokevirtual 97, 3) := zo_182 (d := 0) (e := 97) (zd_b zq_prog_14_method_65_code_0 10 rfl rfl rfl) (zd_b zq_prog_14_method_65_code_0 11 rfl rfl rfl) (zd_b zq_prog_14_method_65_code_0 12 rfl rfl rfl)
theorem ok_Mm_ladle_String_indexOf_0 : z_ok M_Mm_ladle M_String_indexOf_0 1 := ⟨z_mj3 (i := 58) rfl (by decide +kernel), rfl, ⟨by decide +kernel, by decide +kernel, by decide +kernel⟩, ⟨by decide, by decide⟩, z_mj1 (i := 15) rfl (by decide +kernel), rfl⟩
theorem d_Mm_ladle_13 : decode prog_14_method_65_code 13 = .ok (.ifCond .ge 7, 3) := zo_156 (d := 0) (e := 7) (zd_b zq_prog_14_method_65_code_0 13 rfl rfl rfl) (zd_b zq_prog_14_method_65_code_0 14 rfl rfl rfl) (zd_b zq_prog_14_method_65_code_0 15 rfl rfl rfl) (by decide +kernel)
theorem d_Mm_ladle_16 : decode prog_14_method_65_code 16 = .ok (.iconst 1, 1) := zo_4 (zd_b zq_prog_14_method_65_code_0 16 rfl rfl rfl)
theorem d_Mm_ladle_17 : decode prog_14_method_65_code 17 = .ok (.goto 4, 3) := zo_167 (d := 0) (e := 4) (zd_b zq_prog_14_method_65_code_0 17 rfl rfl rfl) (zd_b zq_prog_14_method_65_code_0 18 rfl rfl rfl) (zd_b zq_prog_14_method_65_code_0 19 rfl rfl rfl) (by decide +kernel)
theorem d_Mm_ladle_21 : decode prog_14_method_65_code 21 = .ok (.iconst 1, 1) := zo_4 (zd_b zq_prog_14_method_65_code_0 21 rfl rfl rfl)
theorem d_Mm_ladle_22 : decode prog_14_method_65_code 22 = .ok (.invokevirtual 103, 3) := zo_182 (d := 0) (e := 103) (zd_b zq_prog_14_method_65_code_0 22 rfl rfl rfl) (zd_b zq_prog_14_method_65_code_0 23 rfl rfl rfl) (zd_b zq_prog_14_method_65_code_0 24 rfl rfl rfl)
