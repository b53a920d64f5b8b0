set_option maxHeartbeats 4000000 in
set_option maxRecDepth 100000 in
theorem C_Mm_holdN (g : zG) (m mp mf mh mn mt mz mc_ mq mgr ml mi mr mm mu mk mx : Nat) (th pt cl wa co_ fi bu ho lh mg wd fpi fal : Int32) (po de : Int64) (gr : Nat → Int64) (h : Nat) (hh9 : h < 1000) (hw : (1 ≤ nI h ∧ nI h ≤ 120)) : CT g M_Mm_hold [.ref m, .int (nI h)] [(m, .inr (12, [.int th, .ref mp, .int pt, .ref mf, .ref mh, .ref mn, .ref mt, .ref mz, .ref mc_, .ref mq, .ref mgr, .int cl, .int wa, .int co_, .int fi, .int bu, .int ho, .ref ml, .ref mi, .ref mr, .int lh, .int mg, .int wd, .int fpi, .int fal, .ref mm, .ref mu, .ref mk, .ref mx, .long po, .long de])), (mr, .inl (3, 16, .inr (.inl gr)))] (fun o cs1 => o = .inl (some (.int ((hdR gr h 0).toInt32))) ∧ cs1 = [(m, .inr (12, [.int 0, .ref mp, .int pt, .ref mf, .ref mh, .ref mn, .ref mt, .ref mz, .ref mc_, .ref mq, .ref mgr, .int cl, .int wa, .int co_, .int fi, .int bu, .int ho, .ref ml, .ref mi, .ref mr, .int lh, .int mg, .int wd, .int fpi, .int fal, .ref mm, .ref mu, .ref mk, .ref mx, .long po, .long de])), (mr, .inl (3, 16, .inr (.inl (hdR gr h))))]) 0 0 := by
  refine z_of (by decide) rfl (Nat.le_of_ble_eq_true rfl) (fun w0 => ?_)
  refine r_lvE (lv2 := [(0, .ref m), (1, .int (nI h))]) rfl ?_
  refine r_aload_n d_Mm_hold_0 rfl 0 rfl ?_
  refine r_iconst d_Mm_hold_1 (v := 0) (by decide) ?_
  refine r_put fp_Mm_84 d_Mm_hold_2 (fun h => nomatch h) rfl rfl (q0 := 0) rfl (Nat.le_of_ble_eq_true rfl) (cs' := [(m, .inr (12, [.int 0, .ref mp, .int pt, .ref mf, .ref mh, .ref mn, .ref mt, .ref mz, .ref mc_, .ref mq, .ref mgr, .int cl, .int wa, .int co_, .int fi, .int bu, .int ho, .ref ml, .ref mi, .ref mr, .int lh, .int mg, .int wd, .int fpi, .int fal, .ref mm, .ref mu, .ref mk, .ref mx, .long po, .long de])), (mr, .inl (3, 16, .inr (.inl gr)))]) rfl ?_
  refine r_aload_n d_Mm_hold_5 rfl 0 rfl ?_
  refine r_iload_n d_Mm_hold_6 rfl 1 rfl ?_
  refine r_iconst d_Mm_hold_7 (v := 1) (by decide) ?_
  refine r_bipush d_Mm_hold_8 (v := 120) (by decide) ?_
  refine r_callS (As := [.int (nI h), .int 1, .int 120]) (rest := [.ref m]) (csC := []) (is := []) ln_Mm_87 w_st_Mm_in ok_Mm_hold_Mm_in d_Mm_hold_10 (C_Mm_in g (nI h) 1 120) rfl rfl (Nat.le_of_ble_eq_true rfl) rfl (by decide) (by omega) (by omega) (fun E cs1 hx => ?_) (fun v cs1 hx => ?_)
  · exact absurd hx.1 (by simp)
  · obtain ⟨e1, rfl⟩ := hx
    rw [if_pos hw] at e1
    cases e1
    refine ⟨rfl, ?_⟩
    refine r_st (st2 := [.int 1, .ref m]) rfl ?_
    refine r_cs (cs2 := [(m, .inr (12, [.int 0, .ref mp, .int pt, .ref mf, .ref mh, .ref mn, .ref mt, .ref mz, .ref mc_, .ref mq, .ref mgr, .int cl, .int wa, .int co_, .int fi, .int bu, .int ho, .ref ml, .ref mi, .ref mr, .int lh, .int mg, .int wd, .int fpi, .int fal, .ref mm, .ref mu, .ref mk, .ref mx, .long po, .long de])), (mr, .inl (3, 16, .inr (.inl gr)))]) rfl ?_
    refine r_if_ne (tgt := 20) d_Mm_hold_13 (by decide) (fun c_13 => ?_) (fun c_13 => ?_)
    · refine r_iconst d_Mm_hold_20 (v := 0) (by decide) ?_
      refine r_iconst d_Mm_hold_21 (v := 1) (by decide) ?_
      refine r_callV (As := [.int 0, .int 1]) (rest := []) (csC := [(m, .inr (12, [.int 0, .ref mp, .int pt, .ref mf, .ref mh, .ref mn, .ref mt, .ref mz, .ref mc_, .ref mq, .ref mgr, .int cl, .int wa, .int co_, .int fi, .int bu, .int ho, .ref ml, .ref mi, .ref mr, .int lh, .int mg, .int wd, .int fpi, .int fal, .ref mm, .ref mu, .ref mk, .ref mx, .long po, .long de]))]) (is := [0]) (q0 := 0) rfl rfl ln_Mm_103 w_im_Mm_fails w_se_Mm_fails ok_Mm_hold_Mm_fails d_Mm_hold_22 (C_Mm_fails0 g m mp mf mh mn mt mz mc_ mq mgr ml mi mr mm mu mk mx th pt cl wa co_ fi bu ho lh mg wd fpi fal po de 1) rfl rfl (Nat.le_of_ble_eq_true rfl) rfl (by decide) (by omega) (by omega) (fun E cs1 hx => ?_) (fun v cs1 hx => ?_)
      · exact absurd hx.1 (by simp)
      · obtain ⟨e1, rfl⟩ := hx
        cases e1
        refine ⟨rfl, ?_⟩
        refine r_st (st2 := [.int 0]) rfl ?_
        refine r_cs (cs2 := [(m, .inr (12, [.int 0, .ref mp, .int pt, .ref mf, .ref mh, .ref mn, .ref mt, .ref mz, .ref mc_, .ref mq, .ref mgr, .int cl, .int wa, .int co_, .int fi, .int bu, .int ho, .ref ml, .ref mi, .ref mr, .int lh, .int mg, .int wd, .int fpi, .int fal, .ref mm, .ref mu, .ref mk, .ref mx, .long po, .long de])), (mr, .inl (3, 16, .inr (.inl gr)))]) rfl ?_
        refine r_if_eq (tgt := 30) d_Mm_hold_25 (by decide) (fun c_25 => ?_) (fun c_25 => ?_)
        · refine r_iconst d_Mm_hold_30 (v := 0) (by decide) ?_
          refine r_istore_n (lv' := [(2, .int 0), (0, .ref m), (1, .int (nI h))]) d_Mm_hold_31 rfl (by decide) rfl ?_
          refine r_lv (lv' := [(2, .int 0), (1, .int (nI h)), (0, .ref m)]) [0, 2, 1] rfl ?_
          refine r_lvE (lv2 := [(2, .int (nI 0)), (1, .int (nI h)), (0, .ref m)]) (rfl) ?_
          refine r_cs (cs2 := [(m, .inr (12, [.int 0, .ref mp, .int pt, .ref mf, .ref mh, .ref mn, .ref mt, .ref mz, .ref mc_, .ref mq, .ref mgr, .int cl, .int wa, .int co_, .int fi, .int bu, .int ho, .ref ml, .ref mi, .ref mr, .int lh, .int mg, .int wd, .int fpi, .int fal, .ref mm, .ref mu, .ref mk, .ref mx, .long po, .long de])), (mr, .inl (3, 16, .inr (.inl (hdR gr 0))))]) (rfl) ?_
          exact L_Mm_holdN_32 g m mp mf mh mn mt mz mc_ mq mgr ml mi mr mm mu mk mx th pt cl wa co_ fi bu ho lh mg wd fpi fal po de gr h hh9 hw w0 _  (h + 1) 0 (Nat.zero_le _) (by omega)
        · exact absurd c_25 (by decide)
    · exact absurd c_13 (by decide)
abbrev M_Mm_tap : zM := (⟨"IronpourModel", "tap", "(I)I"⟩, prog_14_method_62_code, 2, (Option.some FieldType.int), 2, 47, [])
theorem d_Mm_tap_0 : decode prog_14_method_62_code 0 = .ok (.aload_n 0, 1) := zo_42 (zd_b zq_prog_14_method_62_code_0 0 rfl rfl rfl)
theorem d_Mm_tap_1 : decode prog_14_method_62_code 1 = .ok (.iconst 0, 1) := zo_3 (zd_b zq_prog_14_method_62_code_0 1 rfl rfl rfl)
theorem d_Mm_tap_2 : decode prog_14_method_62_code 2 = .ok (.putfield 84, 3) := zo_181 (d := 0) (e := 84) (zd_b zq_prog_14_method_62_code_0 2 rfl rfl rfl) (zd_b zq_prog_14_method_62_code_0 3 rfl rfl rfl) (zd_b zq_prog_14_method_62_code_0 4 rfl rfl rfl)
theorem d_Mm_tap_5 : decode prog_14_method_62_code 5 = .ok (.aload_n 0, 1) := zo_42 (zd_b zq_prog_14_method_62_code_0 5 rfl rfl rfl)
theorem d_Mm_tap_6 : decode prog_14_method_62_code 6 = .ok (.iload_n 1, 1) := zo_27 (zd_b zq_prog_14_method_62_code_0 6 rfl rfl rfl)
theorem d_Mm_tap_7 : decode prog_14_method_62_code 7 = .ok (.iconst 1, 1) := zo_4 (zd_b zq_prog_14_method_62_code_0 7 rfl rfl rfl)
theorem d_Mm_tap_8 : decode prog_14_method_62_code 8 = .ok (.sipush 500, 3) := zo_17 (d := 1) (e := 244) (zd_b zq_prog_14_method_62_code_0 8 rfl rfl rfl) (zd_b zq_prog_14_method_62_code_0 9 rfl rfl rfl) (zd_b zq_prog_14_method_62_code_0 10 rfl rfl rfl) (by decide +kernel)
theorem d_Mm_tap_11 : decode prog_14_method_62_code 11 = .ok (.invokestatic 87, 3) := zo_184 (d := 0) (e := 87) (zd_b zq_prog_14_method_62_code_0 11 rfl rfl rfl) (zd_b zq_prog_14_method_62_code_0 12 rfl rfl rfl) (zd_b zq_prog_14_method_62_code_0 13 rfl rfl rfl)
theorem ok_Mm_tap_Mm_in : z_ok M_Mm_tap M_Mm_in 3 := ⟨z_mj7 (i := 190) rfl (by decide +kernel), rfl, ⟨by decide +kernel, by decide +kernel, by decide +kernel⟩, ⟨by decide, by decide⟩, z_mj1 (i := 14) rfl (by decide +kernel), rfl⟩
theorem d_Mm_tap_14 : decode prog_14_method_62_code 14 = .ok (.ifCond .ne 7, 3) := zo_154 (d := 0) (e := 7) (zd_b zq_prog_14_method_62_code_0 14 rfl rfl rfl) (zd_b zq_prog_14_method_62_code_0 15 rfl rfl rfl) (zd_b zq_prog_14_method_62_code_0 16 rfl rfl rfl) (by decide +kernel)
theorem d_Mm_tap_17 : decode prog_14_method_62_code 17 = .ok (.iconst 1, 1) := zo_4 (zd_b zq_prog_14_method_62_code_0 17 rfl rfl rfl)
theorem d_Mm_tap_18 : decode prog_14_method_62_code 18 = .ok (.goto 4, 3) := zo_167 (d := 0) (e := 4) (zd_b zq_prog_14_method_62_code_0 18 rfl rfl rfl) (zd_b zq_prog_14_method_62_code_0 19 rfl rfl rfl) (zd_b zq_prog_14_method_62_code_0 20 rfl rfl rfl) (by decide +kernel)
theorem d_Mm_tap_22 : decode prog_14_method_62_code 22 = .ok (.iconst 1, 1) := zo_4 (zd_b zq_prog_14_method_62_code_0 22 rfl rfl rfl)
theorem d_Mm_tap_23 : decode prog_14_method_62_code 23 = .ok (.invokevirtual 103, 3) := zo_182 (d := 0) (e := 103) (zd_b zq_prog_14_method_62_code_0 23 rfl rfl rfl) (zd_b zq_prog_14_method_62_code_0 24 rfl rfl rfl) (zd_b zq_prog_14_method_62_code_0 25 rfl rfl rfl)
theorem ok_Mm_tap_Mm_fails : z_ok M_Mm_tap M_Mm_fails 2 := ⟨z_mj7 (i := 196) rfl (by decide +kernel), rfl, ⟨by decide +kernel, by decide +kernel, by decide +kernel⟩, ⟨by decide, by decide⟩, z_mj1 (i := 14) rfl (by decide +kernel), rfl⟩
theorem d_Mm_tap_26 : decode prog_14_method_62_code 26 = .ok (.ifCond .ne 48, 3) := zo_154 (d := 0) (e := 48) (zd_b zq_prog_14_method_62_code_0 26 rfl rfl rfl) (zd_b zq_prog_14_method_62_code_0 27 rfl rfl rfl) (zd_b zq_prog_14_method_62_code_0 28 rfl rfl rfl) (by decide +kernel)
theorem d_Mm_tap_74 : decode prog_14_method_62_code 74 = .ok (.iconst 0, 1) := zo_3 (zd_b zq_prog_14_method_62_code_2 10 rfl rfl rfl)
theorem d_Mm_tap_75 : decode prog_14_method_62_code 75 = .ok (.ireturn, 1) := zo_172 (zd_b zq_prog_14_method_62_code_2 11 rfl rfl rfl)
set_option maxHeartbeats 4000000 in
set_option maxRecDepth 100000 in
theorem C_Mm_tapE (g : zG) (m mp mf mh mn mt mz mc_ mq mgr ml mi mr mm mu mk mx : Nat) (th pt cl wa co_ fi bu ho lh mg wd fpi fal : Int32) (po de : Int64) (h : Int32) (hw : ¬ (1 ≤ h ∧ h ≤ 500)) : CT g M_Mm_tap [.ref m, .int h] [(m, .inr (12, [.int th, .ref mp, .int pt, .ref mf, .ref mh, .ref mn, .ref mt, .ref mz, .ref mc_, .ref mq, .ref mgr, .int cl, .int wa, .int co_, .int fi, .int bu, .int ho, .ref ml, .ref mi, .ref mr, .int lh, .int mg, .int wd, .int fpi, .int fal, .ref mm, .ref mu, .ref mk, .ref mx, .long po, .long de]))] (fun o cs1 => o = .inl (some (.int 0)) ∧ cs1 = [(m, .inr (12, [.int 1, .ref mp, .int pt, .ref mf, .ref mh, .ref mn, .ref mt, .ref mz, .ref mc_, .ref mq, .ref mgr, .int cl, .int wa, .int co_, .int fi, .int bu, .int ho, .ref ml, .ref mi, .ref mr, .int lh, .int mg, .int wd, .int fpi, .int fal, .ref mm, .ref mu, .ref mk, .ref mx, .long po, .long de]))]) 0 0 := by
  refine z_of (by decide) rfl (Nat.le_of_ble_eq_true rfl) (fun w0 => ?_)
  refine r_lvE (lv2 := [(0, .ref m), (1, .int h)]) rfl ?_
  refine r_aload_n d_Mm_tap_0 rfl 0 rfl ?_
  refine r_iconst d_Mm_tap_1 (v := 0) (by decide) ?_
  refine r_put fp_Mm_84 d_Mm_tap_2 (fun h => nomatch h) rfl rfl (q0 := 0) rfl (Nat.le_of_ble_eq_true rfl) (cs' := [(m, .inr (12, [.int 0, .ref mp, .int pt, .ref mf, .ref mh, .ref mn, .ref mt, .ref mz, .ref mc_, .ref mq, .ref mgr, .int cl, .int wa, .int co_, .int fi, .int bu, .int ho, .ref ml, .ref mi, .ref mr, .int lh, .int mg, .int wd, .int fpi, .int fal, .ref mm, .ref mu, .ref mk, .ref mx, .long po, .long de]))]) rfl ?_
  refine r_aload_n d_Mm_tap_5 rfl 0 rfl ?_
  refine r_iload_n d_Mm_tap_6 rfl 1 rfl ?_
  refine r_iconst d_Mm_tap_7 (v := 1) (by decide) ?_
  refine r_sipush d_Mm_tap_8 (v := 500) (by decide) ?_
  refine r_callS (As := [.int h, .int 1, .int 500]) (rest := [.ref m]) (csC := []) (is := []) ln_Mm_87 w_st_Mm_in ok_Mm_tap_Mm_in d_Mm_tap_11 (C_Mm_in g h 1 500) rfl rfl (Nat.le_of_ble_eq_true rfl) rfl (by decide) (by omega) (by omega) (fun E cs1 hx => ?_) (fun v cs1 hx => ?_)
  · exact absurd hx.1 (by simp)
  · obtain ⟨e1, rfl⟩ := hx
    rw [if_neg hw] at e1
    cases e1
    refine ⟨rfl, ?_⟩
    refine r_st (st2 := [.int 0, .ref m]) rfl ?_
    refine r_cs (cs2 := [(m, .inr (12, [.int 0, .ref mp, .int pt, .ref mf, .ref mh, .ref mn, .ref mt, .ref mz, .ref mc_, .ref mq, .ref mgr, .int cl, .int wa, .int co_, .int fi, .int bu, .int ho, .ref ml, .ref mi, .ref mr, .int lh, .int mg, .int wd, .int fpi, .int fal, .ref mm, .ref mu, .ref mk, .ref mx, .long po, .long de]))]) rfl ?_
    refine r_if_ne (tgt := 21) d_Mm_tap_14 (by decide) (fun c_14 => ?_) (fun c_14 => ?_)
    · exact absurd c_14 (by decide)
    · refine r_iconst d_Mm_tap_17 (v := 1) (by decide) ?_
      refine r_goto (tgt := 22) d_Mm_tap_18 (by decide) ?_
      refine r_iconst d_Mm_tap_22 (v := 1) (by decide) ?_
      refine r_callV (As := [.int 1, .int 1]) (rest := []) (csC := [(m, .inr (12, [.int 0, .ref mp, .int pt, .ref mf, .ref mh, .ref mn, .ref mt, .ref mz, .ref mc_, .ref mq, .ref mgr, .int cl, .int wa, .int co_, .int fi, .int bu, .int ho, .ref ml, .ref mi, .ref mr, .int lh, .int mg, .int wd, .int fpi, .int fal, .ref mm, .ref mu, .ref mk, .ref mx, .long po, .long de]))]) (is := [0]) (q0 := 0) rfl rfl ln_Mm_103 w_im_Mm_fails w_se_Mm_fails ok_Mm_tap_Mm_fails d_Mm_tap_23 (C_Mm_fails1 g m mp mf mh mn mt mz mc_ mq mgr ml mi mr mm mu mk mx th pt cl wa co_ fi bu ho lh mg wd fpi fal po de) rfl rfl (Nat.le_of_ble_eq_true rfl) rfl (by decide) (by omega) (by omega) (fun E cs1 hx => ?_) (fun v cs1 hx => ?_)
      · exact absurd hx.1 (by simp)
      · obtain ⟨e1, rfl⟩ := hx
        cases e1
        refine ⟨rfl, ?_⟩
        refine r_st (st2 := [.int 1]) rfl ?_
        refine r_cs (cs2 := [(m, .inr (12, [.int 1, .ref mp, .int pt, .ref mf, .ref mh, .ref mn, .ref mt, .ref mz, .ref mc_, .ref mq, .ref mgr, .int cl, .int wa, .int co_, .int fi, .int bu, .int ho, .ref ml, .ref mi, .ref mr, .int lh, .int mg, .int wd, .int fpi, .int fal, .ref mm, .ref mu, .ref mk, .ref mx, .long po, .long de]))]) rfl ?_
        refine r_if_ne (tgt := 74) d_Mm_tap_26 (by decide) (fun c_26 => ?_) (fun c_26 => ?_)
        · refine r_iconst d_Mm_tap_74 (v := 0) (by decide) ?_
          refine r_iret d_Mm_tap_75 rfl rfl ?_
          exact ⟨rfl, rfl⟩
        · exact absurd c_26 (by decide)
theorem d_Mm_tap_21 : decode prog_14_method_62_code 21 = .ok (.iconst 0, 1) := zo_3 (zd_b zq_prog_14_method_62_code_0 21 rfl rfl rfl)
theorem d_Mm_tap_29 : decode prog_14_method_62_code 29 = .ok (.aload_n 0, 1) := zo_42 (zd_b zq_prog_14_method_62_code_0 29 rfl rfl rfl)
theorem d_Mm_tap_30 : decode prog_14_method_62_code 30 = .ok (.aload_n 0, 1) := zo_42 (zd_b zq_prog_14_method_62_code_0 30 rfl rfl rfl)
theorem d_Mm_tap_31 : decode prog_14_method_62_code 31 = .ok (.getfield 62, 3) := zo_180 (d := 0) (e := 62) (zd_b zq_prog_14_method_62_code_0 31 rfl rfl rfl) (zd_b zq_prog_14_method_62_code_1 0 rfl rfl rfl) (zd_b zq_prog_14_method_62_code_1 1 rfl rfl rfl)
theorem d_Mm_tap_34 : decode prog_14_method_62_code 34 = .ok (.iconst 1, 1) := zo_4 (zd_b zq_prog_14_method_62_code_1 2 rfl rfl rfl)
theorem d_Mm_tap_35 : decode prog_14_method_62_code 35 = .ok (.iaload, 1) := zo_46 (zd_b zq_prog_14_method_62_code_1 3 rfl rfl rfl)
theorem d_Mm_tap_36 : decode prog_14_method_62_code 36 = .ok (.ifCond .le 7, 3) := zo_158 (d := 0) (e := 7) (zd_b zq_prog_14_method_62_code_1 4 rfl rfl rfl) (zd_b zq_prog_14_method_62_code_1 5 rfl rfl rfl) (zd_b zq_prog_14_method_62_code_1 6 rfl rfl rfl) (by decide +kernel)
theorem d_Mm_tap_43 : decode prog_14_method_62_code 43 = .ok (.iconst 0, 1) := zo_3 (zd_b zq_prog_14_method_62_code_1 11 rfl rfl rfl)
theorem d_Mm_tap_44 : decode prog_14_method_62_code 44 = .ok (.iconst 2, 1) := zo_5 (zd_b zq_prog_14_method_62_code_1 12 rfl rfl rfl)
theorem d_Mm_tap_45 : decode prog_14_method_62_code 45 = .ok (.invokevirtual 103, 3) := zo_182 (d := 0) (e := 103) (zd_b zq_prog_14_method_62_code_1 13 rfl rfl rfl) (zd_b zq_prog_14_method_62_code_1 14 rfl rfl rfl) (zd_b zq_prog_14_method_62_code_1 15 rfl rfl rfl)
theorem d_Mm_tap_48 : decode prog_14_method_62_code 48 = .ok (.ifCond .ne 26, 3) := zo_154 (d := 0) (e := 26) (zd_b zq_prog_14_method_62_code_1 16 rfl rfl rfl) (zd_b zq_prog_14_method_62_code_1 17 rfl rfl rfl) (zd_b zq_prog_14_method_62_code_1 18 rfl rfl rfl) (by decide +kernel)
theorem d_Mm_tap_51 : decode prog_14_method_62_code 51 = .ok (.aload_n 0, 1) := zo_42 (zd_b zq_prog_14_method_62_code_1 19 rfl rfl rfl)
theorem d_Mm_tap_52 : decode prog_14_method_62_code 52 = .ok (.aload_n 0, 1) := zo_42 (zd_b zq_prog_14_method_62_code_1 20 rfl rfl rfl)
theorem d_Mm_tap_53 : decode prog_14_method_62_code 53 = .ok (.getfield 62, 3) := zo_180 (d := 0) (e := 62) (zd_b zq_prog_14_method_62_code_1 21 rfl rfl rfl) (zd_b zq_prog_14_method_62_code_1 22 rfl rfl rfl) (zd_b zq_prog_14_method_62_code_1 23 rfl rfl rfl)
theorem d_Mm_tap_56 : decode prog_14_method_62_code 56 = .ok (.iconst 0, 1) := zo_3 (zd_b zq_prog_14_method_62_code_1 24 rfl rfl rfl)
theorem d_Mm_tap_57 : decode prog_14_method_62_code 57 = .ok (.iaload, 1) := zo_46 (zd_b zq_prog_14_method_62_code_1 25 rfl rfl rfl)
theorem d_Mm_tap_58 : decode prog_14_method_62_code 58 = .ok (.iload_n 1, 1) := zo_27 (zd_b zq_prog_14_method_62_code_1 26 rfl rfl rfl)
theorem d_Mm_tap_59 : decode prog_14_method_62_code 59 = .ok (.if_icmp .ge 7, 3) := zo_162 (d := 0) (e := 7) (zd_b zq_prog_14_method_62_code_1 27 rfl rfl rfl) (zd_b zq_prog_14_method_62_code_1 28 rfl rfl rfl) (zd_b zq_prog_14_method_62_code_1 29 rfl rfl rfl) (by decide +kernel)
theorem d_Mm_tap_62 : decode prog_14_method_62_code 62 = .ok (.iconst 1, 1) := zo_4 (zd_b zq_prog_14_method_62_code_1 30 rfl rfl rfl)
theorem d_Mm_tap_63 : decode prog_14_method_62_code 63 = .ok (.goto 4, 3) := zo_167 (d := 0) (e := 4) (zd_b zq_prog_14_method_62_code_1 31 rfl rfl rfl) (zd_b zq_prog_14_method_62_code_2 0 rfl rfl rfl) (zd_b zq_prog_14_method_62_code_2 1 rfl rfl rfl) (by decide +kernel)
theorem d_Mm_tap_67 : decode prog_14_method_62_code 67 = .ok (.iconst 3, 1) := zo_6 (zd_b zq_prog_14_method_62_code_2 3 rfl rfl rfl)
theorem d_Mm_tap_68 : decode prog_14_method_62_code 68 = .ok (.invokevirtual 103, 3) := zo_182 (d := 0) (e := 103) (zd_b zq_prog_14_method_62_code_2 4 rfl rfl rfl) (zd_b zq_prog_14_method_62_code_2 5 rfl rfl rfl) (zd_b zq_prog_14_method_62_code_2 6 rfl rfl rfl)
theorem d_Mm_tap_71 : decode prog_14_method_62_code 71 = .ok (.ifCond .eq 5, 3) := zo_153 (d := 0) (e := 5) (zd_b zq_prog_14_method_62_code_2 7 rfl rfl rfl) (zd_b zq_prog_14_method_62_code_2 8 rfl rfl rfl) (zd_b zq_prog_14_method_62_code_2 9 rfl rfl rfl) (by decide +kernel)
abbrev M_Mm_treat : zM := (⟨"IronpourModel", "treat", "(I)I"⟩, prog_14_method_63_code, 2, (Option.some FieldType.int), 2, 42, [])
theorem d_Mm_treat_0 : decode prog_14_method_63_code 0 = .ok (.aload_n 0, 1) := zo_42 (zd_b zq_prog_14_method_63_code_0 0 rfl rfl rfl)
theorem d_Mm_treat_1 : decode prog_14_method_63_code 1 = .ok (.iconst 0, 1) := zo_3 (zd_b zq_prog_14_method_63_code_0 1 rfl rfl rfl)
theorem d_Mm_treat_2 : decode prog_14_method_63_code 2 = .ok (.putfield 84, 3) := zo_181 (d := 0) (e := 84) (zd_b zq_prog_14_method_63_code_0 2 rfl rfl rfl) (zd_b zq_prog_14_method_63_code_0 3 rfl rfl rfl) (zd_b zq_prog_14_method_63_code_0 4 rfl rfl rfl)
theorem d_Mm_treat_5 : decode prog_14_method_63_code 5 = .ok (.aload_n 0, 1) := zo_42 (zd_b zq_prog_14_method_63_code_0 5 rfl rfl rfl)
theorem d_Mm_treat_6 : decode prog_14_method_63_code 6 = .ok (.iload_n 1, 1) := zo_27 (zd_b zq_prog_14_method_63_code_0 6 rfl rfl rfl)
theorem d_Mm_treat_7 : decode prog_14_method_63_code 7 = .ok (.iconst 1, 1) := zo_4 (zd_b zq_prog_14_method_63_code_0 7 rfl rfl rfl)
theorem d_Mm_treat_8 : decode prog_14_method_63_code 8 = .ok (.bipush 100, 2) := zo_16 (d := 100) (zd_b zq_prog_14_method_63_code_0 8 rfl rfl rfl) (zd_b zq_prog_14_method_63_code_0 9 rfl rfl rfl) (by decide +kernel)
theorem d_Mm_treat_10 : decode prog_14_method_63_code 10 = .ok (.invokestatic 87, 3) := zo_184 (d := 0) (e := 87) (zd_b zq_prog_14_method_63_code_0 10 rfl rfl rfl) (zd_b zq_prog_14_method_63_code_0 11 rfl rfl rfl) (zd_b zq_prog_14_method_63_code_0 12 rfl rfl rfl)
theorem ok_Mm_treat_Mm_in : z_ok M_Mm_treat M_Mm_in 3 := ⟨z_mj7 (i := 190) rfl (by decide +kernel), rfl, ⟨by decide +kernel, by decide +kernel, by decide +kernel⟩, ⟨by decide, by decide⟩, z_mj1 (i := 14) rfl (by decide +kernel), rfl⟩
theorem d_Mm_treat_13 : decode prog_14_method_63_code 13 = .ok (.ifCond .ne 7, 3) := zo_154 (d := 0) (e := 7) (zd_b zq_prog_14_method_63_code_0 13 rfl rfl rfl) (zd_b zq_prog_14_method_63_code_0 14 rfl rfl rfl) (zd_b zq_prog_14_method_63_code_0 15 rfl rfl rfl) (by decide +kernel)
theorem d_Mm_treat_16 : decode prog_14_method_63_code 16 = .ok (.iconst 1, 1) := zo_4 (zd_b zq_prog_14_method_63_code_0 16 rfl rfl rfl)
theorem d_Mm_treat_17 : decode prog_14_method_63_code 17 = .ok (.goto 4, 3) := zo_167 (d := 0) (e := 4) (zd_b zq_prog_14_method_63_code_0 17 rfl rfl rfl) (zd_b zq_prog_14_method_63_code_0 18 rfl rfl rfl) (zd_b zq_prog_14_method_63_code_0 19 rfl rfl rfl) (by decide +kernel)
theorem d_Mm_treat_21 : decode prog_14_method_63_code 21 = .ok (.iconst 1, 1) := zo_4 (zd_b zq_prog_14_method_63_code_0 21 rfl rfl rfl)
theorem d_Mm_treat_22 : decode prog_14_method_63_code 22 = .ok (.invokevirtual 103, 3) := zo_182 (d := 0) (e := 103) (zd_b zq_prog_14_method_63_code_0 22 rfl rfl rfl) (zd_b zq_prog_14_method_63_code_0 23 rfl rfl rfl) (zd_b zq_prog_14_method_63_code_0 24 rfl rfl rfl)
theorem ok_Mm_treat_Mm_fails : z_ok M_Mm_treat M_Mm_fails 2 := ⟨z_mj7 (i := 196) rfl (by decide +kernel), rfl, ⟨by decide +kernel, by decide +kernel, by decide +kernel⟩, ⟨by decide, by decide⟩, z_mj1 (i := 14) rfl (by decide +kernel), rfl⟩
theorem d_Mm_treat_25 : decode prog_14_method_63_code 25 = .ok (.ifCond .ne 49, 3) := zo_154 (d := 0) (e := 49) (zd_b zq_prog_14_method_63_code_0 25 rfl rfl rfl) (zd_b zq_prog_14_method_63_code_0 26 rfl rfl rfl) (zd_b zq_prog_14_method_63_code_0 27 rfl rfl rfl) (by decide +kernel)
theorem d_Mm_treat_74 : decode prog_14_method_63_code 74 = .ok (.iconst 0, 1) := zo_3 (zd_b zq_prog_14_method_63_code_2 10 rfl rfl rfl)
theorem d_Mm_treat_75 : decode prog_14_method_63_code 75 = .ok (.ireturn, 1) := zo_172 (zd_b zq_prog_14_method_63_code_2 11 rfl rfl rfl)
