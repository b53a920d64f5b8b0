theorem d_Mm_begin_33 : decode prog_14_method_30_code 33 = .ok (.iload_n 2, 1) := zo_28 (zd_b zq_prog_14_method_30_code_1 1 rfl rfl rfl)
theorem d_Mm_begin_34 : decode prog_14_method_30_code 34 = .ok (.iconst 2, 1) := zo_5 (zd_b zq_prog_14_method_30_code_1 2 rfl rfl rfl)
theorem d_Mm_begin_35 : decode prog_14_method_30_code 35 = .ok (.aload_n 0, 1) := zo_42 (zd_b zq_prog_14_method_30_code_1 3 rfl rfl rfl)
theorem d_Mm_begin_36 : decode prog_14_method_30_code 36 = .ok (.getfield 17, 3) := zo_180 (d := 0) (e := 17) (zd_b zq_prog_14_method_30_code_1 4 rfl rfl rfl) (zd_b zq_prog_14_method_30_code_1 5 rfl rfl rfl) (zd_b zq_prog_14_method_30_code_1 6 rfl rfl rfl)
theorem d_Mm_begin_39 : decode prog_14_method_30_code 39 = .ok (.iload_n 3, 1) := zo_29 (zd_b zq_prog_14_method_30_code_1 7 rfl rfl rfl)
theorem d_Mm_begin_40 : decode prog_14_method_30_code 40 = .ok (.iaload, 1) := zo_46 (zd_b zq_prog_14_method_30_code_1 8 rfl rfl rfl)
theorem d_Mm_begin_41 : decode prog_14_method_30_code 41 = .ok (.imul, 1) := zo_104 (zd_b zq_prog_14_method_30_code_1 9 rfl rfl rfl)
theorem d_Mm_begin_42 : decode prog_14_method_30_code 42 = .ok (.isub, 1) := zo_100 (zd_b zq_prog_14_method_30_code_1 10 rfl rfl rfl)
set_option maxHeartbeats 4000000 in
set_option maxRecDepth 100000 in
theorem L_Mm_beginW_7 (g : zG) (m mp mf mh mn mt mz mc_ mq mgr ml mi mr mm mu mk mx : Nat) (th pt cl wa co_ fi bu ho lh mg wd fpi fal : Int32) (po de : Int64) (b : Nat) (f : Nat → Int32) (fl : Nat → Int32) (he mtt fz : Nat → Int32) (h : Int32) (w0 : zW) (n : Nat) : ∀ (d i : Nat) (fl he mtt fz : Nat → Int32), i ≤ 108 → 108 < i + d → DV g M_Mm_begin (fun o cs1 => ∃ (fl9 he9 mt9 fz9 : Nat → Int32), o = .inl none ∧ cs1 = [(m, .inr (12, [.int th, .ref mp, .int pt, .ref mf, .ref mh, .ref mn, .ref mt, .ref mz, .ref mc_, .ref mq, .ref mgr, .int cl, .int wa, .int co_, .int fi, .int bu, .int ho, .ref ml, .ref mi, .ref mr, .int lh, .int mg, .int wd, .int fpi, .int fal, .ref mm, .ref mu, .ref mk, .ref mx, .long po, .long de])), (b, .inl (1, 108, .inl f)), (mf, .inl (0, 108, .inl fl9)), (mh, .inl (0, 108, .inl he9)), (mt, .inl (0, 108, .inl mt9)), (mz, .inl (0, 108, .inl fz9))]) w0 n 7 [(3, .int (nI i)), (0, .ref m), (1, .ref b), (2, .int h)] [] [(m, .inr (12, [.int th, .ref mp, .int pt, .ref mf, .ref mh, .ref mn, .ref mt, .ref mz, .ref mc_, .ref mq, .ref mgr, .int cl, .int wa, .int co_, .int fi, .int bu, .int ho, .ref ml, .ref mi, .ref mr, .int lh, .int mg, .int wd, .int fpi, .int fal, .ref mm, .ref mu, .ref mk, .ref mx, .long po, .long de])), (b, .inl (1, 108, .inl f)), (mf, .inl (0, 108, .inl fl)), (mh, .inl (0, 108, .inl he)), (mt, .inl (0, 108, .inl mtt)), (mz, .inl (0, 108, .inl fz))] 0 0 := by
  intro d
  induction d with
  | zero => intro i fl he mtt fz h1 h2 ; exact absurd h2 (by omega)
  | succ d ih =>
    intro i fl he mtt fz h1 h2 
    refine r_iload_n d_Mm_begin_7 rfl 0 rfl ?_
    refine r_bipush d_Mm_begin_8 (v := 108) (by decide) ?_
    refine r_icmp_ge (tgt := 66) d_Mm_begin_10 (by decide) (fun c_10 => ?_) (fun c_10 => ?_)
    · have hn := z_le (a := 108) (by omega) (by decide) c_10
      obtain rfl : i = 108 := by omega
      refine r_vret d_Mm_begin_66 rfl ?_
      exact ⟨_, _, _, _, rfl, rfl⟩
    · have hn := z_nle (a := 108) (by omega) (by decide) c_10
      refine r_aload_n d_Mm_begin_13 rfl 1 rfl ?_
      refine r_get fs_Mm_21 d_Mm_begin_14 (q0 := 0) rfl rfl ?_
      refine r_iload_n d_Mm_begin_17 rfl 0 rfl ?_
      refine r_aload_n d_Mm_begin_18 rfl 1 rfl ?_
      refine r_get fs_Mm_17 d_Mm_begin_19 (q0 := 0) rfl rfl ?_
      refine r_iload_n d_Mm_begin_22 rfl 0 rfl ?_
      refine r_iald d_Mm_begin_23 (q0 := 2) rfl (vp_in_nI (by omega) (by omega)) (v := fl i) (by rw [nI_clamp (by omega)]) ?_
      refine r_iconst d_Mm_begin_24 (v := (-1)) (by decide) ?_
      refine r_icmp_ne (tgt := 33) d_Mm_begin_25 (by decide) (fun c_25 => ?_) (fun c_25 => ?_)
      · refine r_iload_n d_Mm_begin_33 rfl 3 rfl ?_
        refine r_iconst d_Mm_begin_34 (v := 2) (by decide) ?_
        refine r_aload_n d_Mm_begin_35 rfl 1 rfl ?_
        refine r_get fs_Mm_17 d_Mm_begin_36 (q0 := 0) rfl rfl ?_
        refine r_iload_n d_Mm_begin_39 rfl 0 rfl ?_
        refine r_iald d_Mm_begin_40 (q0 := 2) rfl (vp_in_nI (by omega) (by omega)) (v := fl i) (by rw [nI_clamp (by omega)]) ?_
        refine r_imul d_Mm_begin_41 (v := 2 * (fl i)) rfl ?_
        refine r_isub d_Mm_begin_42 (v := h - (2 * (fl i))) rfl ?_
        refine r_iast d_Mm_begin_43 (q0 := 3) rfl (vp_in_nI (by omega) (by omega)) (f' := upd he i (h - (2 * (fl i)))) (by rw [nI_clamp (by omega)]) (cs' := [(m, .inr (12, [.int th, .ref mp, .int pt, .ref mf, .ref mh, .ref mn, .ref mt, .ref mz, .ref mc_, .ref mq, .ref mgr, .int cl, .int wa, .int co_, .int fi, .int bu, .int ho, .ref ml, .ref mi, .ref mr, .int lh, .int mg, .int wd, .int fpi, .int fal, .ref mm, .ref mu, .ref mk, .ref mx, .long po, .long de])), (b, .inl (1, 108, .inl f)), (mf, .inl (0, 108, .inl fl)), (mh, .inl (0, 108, .inl (upd he i (h - (2 * (fl i)))))), (mt, .inl (0, 108, .inl mtt)), (mz, .inl (0, 108, .inl fz))]) rfl ?_
        refine r_aload_n d_Mm_begin_44 rfl 1 rfl ?_
        refine r_get fs_Mm_27 d_Mm_begin_45 (q0 := 0) rfl rfl ?_
        refine r_iload_n d_Mm_begin_48 rfl 0 rfl ?_
        refine r_sipush d_Mm_begin_49 (v := 300) (by decide) ?_
        refine r_iast d_Mm_begin_52 (q0 := 4) rfl (vp_in_nI (by omega) (by omega)) (f' := upd mtt i 300) (by rw [nI_clamp (by omega)]) (cs' := [(m, .inr (12, [.int th, .ref mp, .int pt, .ref mf, .ref mh, .ref mn, .ref mt, .ref mz, .ref mc_, .ref mq, .ref mgr, .int cl, .int wa, .int co_, .int fi, .int bu, .int ho, .ref ml, .ref mi, .ref mr, .int lh, .int mg, .int wd, .int fpi, .int fal, .ref mm, .ref mu, .ref mk, .ref mx, .long po, .long de])), (b, .inl (1, 108, .inl f)), (mf, .inl (0, 108, .inl fl)), (mh, .inl (0, 108, .inl (upd he i (h - (2 * (fl i)))))), (mt, .inl (0, 108, .inl (upd mtt i 300))), (mz, .inl (0, 108, .inl fz))]) rfl ?_
        refine r_aload_n d_Mm_begin_53 rfl 1 rfl ?_
        refine r_get fs_Mm_30 d_Mm_begin_54 (q0 := 0) rfl rfl ?_
        refine r_iload_n d_Mm_begin_57 rfl 0 rfl ?_
        refine r_iconst d_Mm_begin_58 (v := 0) (by decide) ?_
        refine r_iast d_Mm_begin_59 (q0 := 5) rfl (vp_in_nI (by omega) (by omega)) (f' := upd fz i 0) (by rw [nI_clamp (by omega)]) (cs' := [(m, .inr (12, [.int th, .ref mp, .int pt, .ref mf, .ref mh, .ref mn, .ref mt, .ref mz, .ref mc_, .ref mq, .ref mgr, .int cl, .int wa, .int co_, .int fi, .int bu, .int ho, .ref ml, .ref mi, .ref mr, .int lh, .int mg, .int wd, .int fpi, .int fal, .ref mm, .ref mu, .ref mk, .ref mx, .long po, .long de])), (b, .inl (1, 108, .inl f)), (mf, .inl (0, 108, .inl fl)), (mh, .inl (0, 108, .inl (upd he i (h - (2 * (fl i)))))), (mt, .inl (0, 108, .inl (upd mtt i 300))), (mz, .inl (0, 108, .inl (upd fz i 0)))]) rfl ?_
        refine r_iinc (lv' := [(3, .int (nI (i + 1))), (0, .ref m), (1, .ref b), (2, .int h)]) (v := nI (i + 1)) d_Mm_begin_60 (j := 0) rfl (nI_add _ _) (by decide) rfl ?_
        refine r_goto (tgt := 7) d_Mm_begin_63 (by decide) ?_
        exact ih (i + 1) _ _ _ _ (by omega) (by omega)
      · refine r_bipush d_Mm_begin_28 (v := 20) (by decide) ?_
        refine r_goto (tgt := 43) d_Mm_begin_30 (by decide) ?_
        refine r_iast d_Mm_begin_43 (q0 := 3) rfl (vp_in_nI (by omega) (by omega)) (f' := upd he i 20) (by rw [nI_clamp (by omega)]) (cs' := [(m, .inr (12, [.int th, .ref mp, .int pt, .ref mf, .ref mh, .ref mn, .ref mt, .ref mz, .ref mc_, .ref mq, .ref mgr, .int cl, .int wa, .int co_, .int fi, .int bu, .int ho, .ref ml, .ref mi, .ref mr, .int lh, .int mg, .int wd, .int fpi, .int fal, .ref mm, .ref mu, .ref mk, .ref mx, .long po, .long de])), (b, .inl (1, 108, .inl f)), (mf, .inl (0, 108, .inl fl)), (mh, .inl (0, 108, .inl (upd he i 20))), (mt, .inl (0, 108, .inl mtt)), (mz, .inl (0, 108, .inl fz))]) rfl ?_
        refine r_aload_n d_Mm_begin_44 rfl 1 rfl ?_
        refine r_get fs_Mm_27 d_Mm_begin_45 (q0 := 0) rfl rfl ?_
        refine r_iload_n d_Mm_begin_48 rfl 0 rfl ?_
        refine r_sipush d_Mm_begin_49 (v := 300) (by decide) ?_
        refine r_iast d_Mm_begin_52 (q0 := 4) rfl (vp_in_nI (by omega) (by omega)) (f' := upd mtt i 300) (by rw [nI_clamp (by omega)]) (cs' := [(m, .inr (12, [.int th, .ref mp, .int pt, .ref mf, .ref mh, .ref mn, .ref mt, .ref mz, .ref mc_, .ref mq, .ref mgr, .int cl, .int wa, .int co_, .int fi, .int bu, .int ho, .ref ml, .ref mi, .ref mr, .int lh, .int mg, .int wd, .int fpi, .int fal, .ref mm, .ref mu, .ref mk, .ref mx, .long po, .long de])), (b, .inl (1, 108, .inl f)), (mf, .inl (0, 108, .inl fl)), (mh, .inl (0, 108, .inl (upd he i 20))), (mt, .inl (0, 108, .inl (upd mtt i 300))), (mz, .inl (0, 108, .inl fz))]) rfl ?_
        refine r_aload_n d_Mm_begin_53 rfl 1 rfl ?_
        refine r_get fs_Mm_30 d_Mm_begin_54 (q0 := 0) rfl rfl ?_
        refine r_iload_n d_Mm_begin_57 rfl 0 rfl ?_
        refine r_iconst d_Mm_begin_58 (v := 0) (by decide) ?_
        refine r_iast d_Mm_begin_59 (q0 := 5) rfl (vp_in_nI (by omega) (by omega)) (f' := upd fz i 0) (by rw [nI_clamp (by omega)]) (cs' := [(m, .inr (12, [.int th, .ref mp, .int pt, .ref mf, .ref mh, .ref mn, .ref mt, .ref mz, .ref mc_, .ref mq, .ref mgr, .int cl, .int wa, .int co_, .int fi, .int bu, .int ho, .ref ml, .ref mi, .ref mr, .int lh, .int mg, .int wd, .int fpi, .int fal, .ref mm, .ref mu, .ref mk, .ref mx, .long po, .long de])), (b, .inl (1, 108, .inl f)), (mf, .inl (0, 108, .inl fl)), (mh, .inl (0, 108, .inl (upd he i 20))), (mt, .inl (0, 108, .inl (upd mtt i 300))), (mz, .inl (0, 108, .inl (upd fz i 0)))]) rfl ?_
        refine r_iinc (lv' := [(3, .int (nI (i + 1))), (0, .ref m), (1, .ref b), (2, .int h)]) (v := nI (i + 1)) d_Mm_begin_60 (j := 0) rfl (nI_add _ _) (by decide) rfl ?_
        refine r_goto (tgt := 7) d_Mm_begin_63 (by decide) ?_
        exact ih (i + 1) _ _ _ _ (by omega) (by omega)
set_option maxHeartbeats 4000000 in
set_option maxRecDepth 100000 in
theorem C_Mm_beginW (g : zG) (m mp mf mh mn mt mz mc_ mq mgr ml mi mr mm mu mk mx : Nat) (th pt cl wa co_ fi bu ho lh mg wd fpi fal : Int32) (po de : Int64) (b : Nat) (f : Nat → Int32) (fl : Nat → Int32) (he mtt fz : Nat → Int32) (h : Int32) : CT g M_Mm_begin [.ref m, .ref b, .int h] [(m, .inr (12, [.int th, .ref mp, .int pt, .ref mf, .ref mh, .ref mn, .ref mt, .ref mz, .ref mc_, .ref mq, .ref mgr, .int cl, .int wa, .int co_, .int fi, .int bu, .int ho, .ref ml, .ref mi, .ref mr, .int lh, .int mg, .int wd, .int fpi, .int fal, .ref mm, .ref mu, .ref mk, .ref mx, .long po, .long de])), (b, .inl (1, 108, .inl f)), (mf, .inl (0, 108, .inl fl)), (mh, .inl (0, 108, .inl he)), (mt, .inl (0, 108, .inl mtt)), (mz, .inl (0, 108, .inl fz))] (fun o cs1 => ∃ (fl9 he9 mt9 fz9 : Nat → Int32), o = .inl none ∧ cs1 = [(m, .inr (12, [.int th, .ref mp, .int pt, .ref mf, .ref mh, .ref mn, .ref mt, .ref mz, .ref mc_, .ref mq, .ref mgr, .int cl, .int wa, .int co_, .int fi, .int bu, .int ho, .ref ml, .ref mi, .ref mr, .int lh, .int mg, .int wd, .int fpi, .int fal, .ref mm, .ref mu, .ref mk, .ref mx, .long po, .long de])), (b, .inl (1, 108, .inl f)), (mf, .inl (0, 108, .inl fl9)), (mh, .inl (0, 108, .inl he9)), (mt, .inl (0, 108, .inl mt9)), (mz, .inl (0, 108, .inl fz9))]) 0 0 := by
  refine z_of (by decide) rfl (Nat.le_of_ble_eq_true rfl) (fun w0 => ?_)
  refine r_lvE (lv2 := [(0, .ref m), (1, .ref b), (2, .int h)]) rfl ?_
  refine r_aload_n d_Mm_begin_0 rfl 0 rfl ?_
  refine r_aload_n d_Mm_begin_1 rfl 1 rfl ?_
  refine r_callV (As := [.ref b]) (rest := []) (csC := [(m, .inr (12, [.int th, .ref mp, .int pt, .ref mf, .ref mh, .ref mn, .ref mt, .ref mz, .ref mc_, .ref mq, .ref mgr, .int cl, .int wa, .int co_, .int fi, .int bu, .int ho, .ref ml, .ref mi, .ref mr, .int lh, .int mg, .int wd, .int fpi, .int fal, .ref mm, .ref mu, .ref mk, .ref mx, .long po, .long de])), (b, .inl (1, 108, .inl f)), (mf, .inl (0, 108, .inl fl))]) (is := [0, 1, 2]) (q0 := 0) rfl rfl ln_Mm_143 w_im_Mm_fill w_se_Mm_fill ok_Mm_begin_Mm_fill d_Mm_begin_2 (C_Mm_fillW g m mp mf mh mn mt mz mc_ mq mgr ml mi mr mm mu mk mx th pt cl wa co_ fi bu ho lh mg wd fpi fal po de b f fl) rfl rfl (Nat.le_of_ble_eq_true rfl) rfl (by decide) (by omega) (by omega) (fun E cs1 hx => ?_) (fun v cs1 hx => ?_)
  · obtain ⟨fl9, e1, -⟩ := hx
    cases e1
  · obtain ⟨fl9, e1, rfl⟩ := hx
    cases e1
    refine ⟨rfl, ?_⟩
    refine r_st (st2 := []) rfl ?_
    refine r_cs (cs2 := [(m, .inr (12, [.int th, .ref mp, .int pt, .ref mf, .ref mh, .ref mn, .ref mt, .ref mz, .ref mc_, .ref mq, .ref mgr, .int cl, .int wa, .int co_, .int fi, .int bu, .int ho, .ref ml, .ref mi, .ref mr, .int lh, .int mg, .int wd, .int fpi, .int fal, .ref mm, .ref mu, .ref mk, .ref mx, .long po, .long de])), (b, .inl (1, 108, .inl f)), (mf, .inl (0, 108, .inl fl9)), (mh, .inl (0, 108, .inl he)), (mt, .inl (0, 108, .inl mtt)), (mz, .inl (0, 108, .inl fz))]) rfl ?_
    refine r_iconst d_Mm_begin_5 (v := 0) (by decide) ?_
    refine r_istore_n (lv' := [(3, .int 0), (0, .ref m), (1, .ref b), (2, .int h)]) d_Mm_begin_6 rfl (by decide) rfl ?_
    exact L_Mm_beginW_7 g m mp mf mh mn mt mz mc_ mq mgr ml mi mr mm mu mk mx th pt cl wa co_ fi bu ho lh mg wd fpi fal po de b f fl he mtt fz h w0 _  (108 + 1) 0 _ _ _ _ (Nat.zero_le _) (by omega)
theorem d_Mm_freeze_68 : decode prog_14_method_31_code 68 = .ok (.aload_n 0, 1) := zo_42 (zd_b zq_prog_14_method_31_code_2 4 rfl rfl rfl)
theorem d_Mm_freeze_69 : decode prog_14_method_31_code 69 = .ok (.getfield 30, 3) := zo_180 (d := 0) (e := 30) (zd_b zq_prog_14_method_31_code_2 5 rfl rfl rfl) (zd_b zq_prog_14_method_31_code_2 6 rfl rfl rfl) (zd_b zq_prog_14_method_31_code_2 7 rfl rfl rfl)
theorem d_Mm_freeze_72 : decode prog_14_method_31_code 72 = .ok (.iload 4, 2) := zo_21 (d := 4) (zd_b zq_prog_14_method_31_code_2 8 rfl rfl rfl) (zd_b zq_prog_14_method_31_code_2 9 rfl rfl rfl)
theorem d_Mm_freeze_74 : decode prog_14_method_31_code 74 = .ok (.iaload, 1) := zo_46 (zd_b zq_prog_14_method_31_code_2 10 rfl rfl rfl)
theorem d_Mm_freeze_75 : decode prog_14_method_31_code 75 = .ok (.ifCond .ne 9, 3) := zo_154 (d := 0) (e := 9) (zd_b zq_prog_14_method_31_code_2 11 rfl rfl rfl) (zd_b zq_prog_14_method_31_code_2 12 rfl rfl rfl) (zd_b zq_prog_14_method_31_code_2 13 rfl rfl rfl) (by decide +kernel)
theorem d_Mm_freeze_84 : decode prog_14_method_31_code 84 = .ok (.aload_n 0, 1) := zo_42 (zd_b zq_prog_14_method_31_code_2 20 rfl rfl rfl)
theorem d_Mm_freeze_85 : decode prog_14_method_31_code 85 = .ok (.getfield 30, 3) := zo_180 (d := 0) (e := 30) (zd_b zq_prog_14_method_31_code_2 21 rfl rfl rfl) (zd_b zq_prog_14_method_31_code_2 22 rfl rfl rfl) (zd_b zq_prog_14_method_31_code_2 23 rfl rfl rfl)
theorem d_Mm_freeze_88 : decode prog_14_method_31_code 88 = .ok (.iload 4, 2) := zo_21 (d := 4) (zd_b zq_prog_14_method_31_code_2 24 rfl rfl rfl) (zd_b zq_prog_14_method_31_code_2 25 rfl rfl rfl)
theorem d_Mm_freeze_90 : decode prog_14_method_31_code 90 = .ok (.iaload, 1) := zo_46 (zd_b zq_prog_14_method_31_code_2 26 rfl rfl rfl)
theorem d_Mm_freeze_78 : decode prog_14_method_31_code 78 = .ok (.sipush 401, 3) := zo_17 (d := 1) (e := 145) (zd_b zq_prog_14_method_31_code_2 14 rfl rfl rfl) (zd_b zq_prog_14_method_31_code_2 15 rfl rfl rfl) (zd_b zq_prog_14_method_31_code_2 16 rfl rfl rfl) (by decide +kernel)
theorem d_Mm_freeze_81 : decode prog_14_method_31_code 81 = .ok (.goto 10, 3) := zo_167 (d := 0) (e := 10) (zd_b zq_prog_14_method_31_code_2 17 rfl rfl rfl) (zd_b zq_prog_14_method_31_code_2 18 rfl rfl rfl) (zd_b zq_prog_14_method_31_code_2 19 rfl rfl rfl) (by decide +kernel)
set_option maxHeartbeats 4000000 in
set_option maxRecDepth 100000 in
theorem L_Mm_freezeW_40 (g : zG) (m mp mf mh mn mt mz mc_ mq mgr ml mi mr mm mu mk mx : Nat) (th pt cl wa co_ fi bu ho lh mg wd fpi fal : Int32) (po de : Int64) (b : Nat) (f : Nat → Int32) (fl : Nat → Int32) (he nx mtt fz : Nat → Int32) (h : Int32) (w0 : zW) (n : Nat) : ∀ (d i : Nat) (fl he nx mtt fz : Nat → Int32), i ≤ 108 → 108 < i + d → DV g M_Mm_freeze (fun o cs1 => ∃ (fl9 he9 nx9 mt9 fz9 : Nat → Int32), o = .inl none ∧ cs1 = [(m, .inr (12, [.int th, .ref mp, .int pt, .ref mf, .ref mh, .ref mn, .ref mt, .ref mz, .ref mc_, .ref mq, .ref mgr, .int cl, .int wa, .int co_, .int fi, .int bu, .int ho, .ref ml, .ref mi, .ref mr, .int lh, .int mg, .int wd, .int fpi, .int fal, .ref mm, .ref mu, .ref mk, .ref mx, .long po, .long de])), (b, .inl (1, 108, .inl f)), (mf, .inl (0, 108, .inl fl9)), (mh, .inl (0, 108, .inl he9)), (mt, .inl (0, 108, .inl mt9)), (mz, .inl (0, 108, .inl fz9)), (mn, .inl (0, 108, .inl nx9))]) w0 n 40 [(4, .int (nI i)), (0, .ref m), (1, .ref b), (2, .int h)] [] [(m, .inr (12, [.int th, .ref mp, .int pt, .ref mf, .ref mh, .ref mn, .ref mt, .ref mz, .ref mc_, .ref mq, .ref mgr, .int cl, .int wa, .int co_, .int fi, .int bu, .int ho, .ref ml, .ref mi, .ref mr, .int lh, .int mg, .int wd, .int fpi, .int fal, .ref mm, .ref mu, .ref mk, .ref mx, .long po, .long de])), (b, .inl (1, 108, .inl f)), (mf, .inl (0, 108, .inl fl)), (mh, .inl (0, 108, .inl he)), (mt, .inl (0, 108, .inl mtt)), (mz, .inl (0, 108, .inl fz)), (mn, .inl (0, 108, .inl nx))] 0 0 := by
  intro d
  induction d with
  | zero => intro i fl he nx mtt fz h1 h2 ; exact absurd h2 (by omega)
  | succ d ih =>
    intro i fl he nx mtt fz h1 h2 
    refine r_iload d_Mm_freeze_40 0 rfl ?_
    refine r_bipush d_Mm_freeze_42 (v := 108) (by decide) ?_
    refine r_icmp_ge (tgt := 98) d_Mm_freeze_44 (by decide) (fun c_44 => ?_) (fun c_44 => ?_)
    · have hn := z_le (a := 108) (by omega) (by decide) c_44
      obtain rfl : i = 108 := by omega
      refine r_vret d_Mm_freeze_98 rfl ?_
      exact ⟨_, _, _, _, _, rfl, rfl⟩
    · have hn := z_nle (a := 108) (by omega) (by decide) c_44
      refine r_aload_n d_Mm_freeze_47 rfl 1 rfl ?_
      refine r_get fs_Mm_30 d_Mm_freeze_48 (q0 := 0) rfl rfl ?_
      refine r_iload d_Mm_freeze_51 0 rfl ?_
      refine r_aload_n d_Mm_freeze_53 rfl 1 rfl ?_
      refine r_get fs_Mm_17 d_Mm_freeze_54 (q0 := 0) rfl rfl ?_
      refine r_iload d_Mm_freeze_57 0 rfl ?_
      refine r_iald d_Mm_freeze_59 (q0 := 2) rfl (vp_in_nI (by omega) (by omega)) (v := fl i) (by rw [nI_clamp (by omega)]) ?_
      refine r_iconst d_Mm_freeze_60 (v := (-1)) (by decide) ?_
      refine r_icmp_ne (tgt := 68) d_Mm_freeze_61 (by decide) (fun c_61 => ?_) (fun c_61 => ?_)
      · refine r_aload_n d_Mm_freeze_68 rfl 1 rfl ?_
        refine r_get fs_Mm_30 d_Mm_freeze_69 (q0 := 0) rfl rfl ?_
        refine r_iload d_Mm_freeze_72 0 rfl ?_
        refine r_iald d_Mm_freeze_74 (q0 := 5) rfl (vp_in_nI (by omega) (by omega)) (v := fz i) (by rw [nI_clamp (by omega)]) ?_
        refine r_if_ne (tgt := 84) d_Mm_freeze_75 (by decide) (fun c_75 => ?_) (fun c_75 => ?_)
        · refine r_aload_n d_Mm_freeze_84 rfl 1 rfl ?_
          refine r_get fs_Mm_30 d_Mm_freeze_85 (q0 := 0) rfl rfl ?_
          refine r_iload d_Mm_freeze_88 0 rfl ?_
          refine r_iald d_Mm_freeze_90 (q0 := 5) rfl (vp_in_nI (by omega) (by omega)) (v := fz i) (by rw [nI_clamp (by omega)]) ?_
          refine r_iast d_Mm_freeze_91 (q0 := 5) rfl (vp_in_nI (by omega) (by omega)) (f' := upd fz i (fz i)) (by rw [nI_clamp (by omega)]) (cs' := [(m, .inr (12, [.int th, .ref mp, .int pt, .ref mf, .ref mh, .ref mn, .ref mt, .ref mz, .ref mc_, .ref mq, .ref mgr, .int cl, .int wa, .int co_, .int fi, .int bu, .int ho, .ref ml, .ref mi, .ref mr, .int lh, .int mg, .int wd, .int fpi, .int fal, .ref mm, .ref mu, .ref mk, .ref mx, .long po, .long de])), (b, .inl (1, 108, .inl f)), (mf, .inl (0, 108, .inl fl)), (mh, .inl (0, 108, .inl he)), (mt, .inl (0, 108, .inl mtt)), (mz, .inl (0, 108, .inl (upd fz i (fz i)))), (mn, .inl (0, 108, .inl nx))]) rfl ?_
          refine r_iinc (lv' := [(4, .int (nI (i + 1))), (0, .ref m), (1, .ref b), (2, .int h)]) (v := nI (i + 1)) d_Mm_freeze_92 (j := 0) rfl (nI_add _ _) (by decide) rfl ?_
          refine r_goto (tgt := 40) d_Mm_freeze_95 (by decide) ?_
          exact ih (i + 1) _ _ _ _ _ (by omega) (by omega)
        · refine r_sipush d_Mm_freeze_78 (v := 401) (by decide) ?_
          refine r_goto (tgt := 91) d_Mm_freeze_81 (by decide) ?_
          refine r_iast d_Mm_freeze_91 (q0 := 5) rfl (vp_in_nI (by omega) (by omega)) (f' := upd fz i 401) (by rw [nI_clamp (by omega)]) (cs' := [(m, .inr (12, [.int th, .ref mp, .int pt, .ref mf, .ref mh, .ref mn, .ref mt, .ref mz, .ref mc_, .ref mq, .ref mgr, .int cl, .int wa, .int co_, .int fi, .int bu, .int ho, .ref ml, .ref mi, .ref mr, .int lh, .int mg, .int wd, .int fpi, .int fal, .ref mm, .ref mu, .ref mk, .ref mx, .long po, .long de])), (b, .inl (1, 108, .inl f)), (mf, .inl (0, 108, .inl fl)), (mh, .inl (0, 108, .inl he)), (mt, .inl (0, 108, .inl mtt)), (mz, .inl (0, 108, .inl (upd fz i 401))), (mn, .inl (0, 108, .inl nx))]) rfl ?_
          refine r_iinc (lv' := [(4, .int (nI (i + 1))), (0, .ref m), (1, .ref b), (2, .int h)]) (v := nI (i + 1)) d_Mm_freeze_92 (j := 0) rfl (nI_add _ _) (by decide) rfl ?_
          refine r_goto (tgt := 40) d_Mm_freeze_95 (by decide) ?_
          exact ih (i + 1) _ _ _ _ _ (by omega) (by omega)
      · refine r_iconst d_Mm_freeze_64 (v := (-1)) (by decide) ?_
        refine r_goto (tgt := 91) d_Mm_freeze_65 (by decide) ?_
        refine r_iast d_Mm_freeze_91 (q0 := 5) rfl (vp_in_nI (by omega) (by omega)) (f' := upd fz i (-1)) (by rw [nI_clamp (by omega)]) (cs' := [(m, .inr (12, [.int th, .ref mp, .int pt, .ref mf, .ref mh, .ref mn, .ref mt, .ref mz, .ref mc_, .ref mq, .ref mgr, .int cl, .int wa, .int co_, .int fi, .int bu, .int ho, .ref ml, .ref mi, .ref mr, .int lh, .int mg, .int wd, .int fpi, .int fal, .ref mm, .ref mu, .ref mk, .ref mx, .long po, .long de])), (b, .inl (1, 108, .inl f)), (mf, .inl (0, 108, .inl fl)), (mh, .inl (0, 108, .inl he)), (mt, .inl (0, 108, .inl mtt)), (mz, .inl (0, 108, .inl (upd fz i (-1)))), (mn, .inl (0, 108, .inl nx))]) rfl ?_
        refine r_iinc (lv' := [(4, .int (nI (i + 1))), (0, .ref m), (1, .ref b), (2, .int h)]) (v := nI (i + 1)) d_Mm_freeze_92 (j := 0) rfl (nI_add _ _) (by decide) rfl ?_
        refine r_goto (tgt := 40) d_Mm_freeze_95 (by decide) ?_
        exact ih (i + 1) _ _ _ _ _ (by omega) (by omega)
set_option maxHeartbeats 4000000 in
set_option maxRecDepth 100000 in
theorem L_Mm_freezeW_11 (g : zG) (m mp mf mh mn mt mz mc_ mq mgr ml mi mr mm mu mk mx : Nat) (th pt cl wa co_ fi bu ho lh mg wd fpi fal : Int32) (po de : Int64) (b : Nat) (f : Nat → Int32) (fl : Nat → Int32) (he nx mtt fz : Nat → Int32) (h : Int32) (w0 : zW) (n : Nat) : ∀ (d i : Nat) (fl he nx mtt fz : Nat → Int32) (lf : Int32), i ≤ 400 → 400 < i + d → DV g M_Mm_freeze (fun o cs1 => ∃ (fl9 he9 nx9 mt9 fz9 : Nat → Int32), o = .inl none ∧ cs1 = [(m, .inr (12, [.int th, .ref mp, .int pt, .ref mf, .ref mh, .ref mn, .ref mt, .ref mz, .ref mc_, .ref mq, .ref mgr, .int cl, .int wa, .int co_, .int fi, .int bu, .int ho, .ref ml, .ref mi, .ref mr, .int lh, .int mg, .int wd, .int fpi, .int fal, .ref mm, .ref mu, .ref mk, .ref mx, .long po, .long de])), (b, .inl (1, 108, .inl f)), (mf, .inl (0, 108, .inl fl9)), (mh, .inl (0, 108, .inl he9)), (mt, .inl (0, 108, .inl mt9)), (mz, .inl (0, 108, .inl fz9)), (mn, .inl (0, 108, .inl nx9))]) w0 n 11 [(4, .int (nI (i + 1))), (3, .int lf), (0, .ref m), (1, .ref b), (2, .int h)] [] [(m, .inr (12, [.int th, .ref mp, .int pt, .ref mf, .ref mh, .ref mn, .ref mt, .ref mz, .ref mc_, .ref mq, .ref mgr, .int cl, .int wa, .int co_, .int fi, .int bu, .int ho, .ref ml, .ref mi, .ref mr, .int lh, .int mg, .int wd, .int fpi, .int fal, .ref mm, .ref mu, .ref mk, .ref mx, .long po, .long de])), (b, .inl (1, 108, .inl f)), (mf, .inl (0, 108, .inl fl)), (mh, .inl (0, 108, .inl he)), (mt, .inl (0, 108, .inl mtt)), (mz, .inl (0, 108, .inl fz)), (mn, .inl (0, 108, .inl nx))] 0 0 := by
  intro d
  induction d with
  | zero => intro i fl he nx mtt fz lf h1 h2 ; exact absurd h2 (by omega)
  | succ d ih =>
    intro i fl he nx mtt fz lf h1 h2 
    refine r_iload d_Mm_freeze_11 0 rfl ?_
    refine r_sipush d_Mm_freeze_13 (v := 400) (by decide) ?_
    refine r_icmp_gt (tgt := 37) d_Mm_freeze_16 (by decide) (fun c_16 => ?_) (fun c_16 => ?_)
    · refine r_iconst d_Mm_freeze_37 (v := 0) (by decide) ?_
      refine r_istore (lv' := [(4, .int 0), (3, .int lf), (0, .ref m), (1, .ref b), (2, .int h)]) d_Mm_freeze_38 (by decide) rfl ?_
      refine r_lv (lv' := [(4, .int 0), (0, .ref m), (1, .ref b), (2, .int h)]) [0, 2, 3, 4] rfl ?_
      exact L_Mm_freezeW_40 g m mp mf mh mn mt mz mc_ mq mgr ml mi mr mm mu mk mx th pt cl wa co_ fi bu ho lh mg wd fpi fal po de b f fl he nx mtt fz h w0 _  (108 + 1) 0 _ _ _ _ _ (Nat.zero_le _) (by omega)
    · have hn := z_nlt (a := 400) (b := i + 1) (by omega) (by decide) c_16
      refine r_iload_n d_Mm_freeze_19 rfl 1 rfl ?_
      refine r_if_eq (tgt := 37) d_Mm_freeze_20 (by decide) (fun c_20 => ?_) (fun c_20 => ?_)
      · refine r_iconst d_Mm_freeze_37 (v := 0) (by decide) ?_
        refine r_istore (lv' := [(4, .int 0), (3, .int lf), (0, .ref m), (1, .ref b), (2, .int h)]) d_Mm_freeze_38 (by decide) rfl ?_
        refine r_lv (lv' := [(4, .int 0), (0, .ref m), (1, .ref b), (2, .int h)]) [0, 2, 3, 4] rfl ?_
        exact L_Mm_freezeW_40 g m mp mf mh mn mt mz mc_ mq mgr ml mi mr mm mu mk mx th pt cl wa co_ fi bu ho lh mg wd fpi fal po de b f fl he nx mtt fz h w0 _  (108 + 1) 0 _ _ _ _ _ (Nat.zero_le _) (by omega)
      · refine r_aload_n d_Mm_freeze_23 rfl 2 rfl ?_
        refine r_aload_n d_Mm_freeze_24 rfl 3 rfl ?_
        refine r_iload d_Mm_freeze_25 0 rfl ?_
        refine r_callV (As := [.ref b, .int (nI (i + 1))]) (rest := []) (csC := [(m, .inr (12, [.int th, .ref mp, .int pt, .ref mf, .ref mh, .ref mn, .ref mt, .ref mz, .ref mc_, .ref mq, .ref mgr, .int cl, .int wa, .int co_, .int fi, .int bu, .int ho, .ref ml, .ref mi, .ref mr, .int lh, .int mg, .int wd, .int fpi, .int fal, .ref mm, .ref mu, .ref mk, .ref mx, .long po, .long de])), (b, .inl (1, 108, .inl f)), (mf, .inl (0, 108, .inl fl)), (mh, .inl (0, 108, .inl he)), (mn, .inl (0, 108, .inl nx)), (mt, .inl (0, 108, .inl mtt)), (mz, .inl (0, 108, .inl fz))]) (is := [0, 1, 2, 3, 6, 4, 5]) (q0 := 0) rfl rfl ln_Mm_160 w_im_Mm_freezeStep w_se_Mm_freezeStep ok_Mm_freeze_Mm_freezeStep d_Mm_freeze_27 (C_Mm_freezeStepW g m mp mf mh mn mt mz mc_ mq mgr ml mi mr mm mu mk mx th pt cl wa co_ fi bu ho lh mg wd fpi fal po de b f fl he nx mtt fz (nI (i + 1))) rfl rfl (Nat.le_of_ble_eq_true rfl) rfl (by decide) (by omega) (by omega) (fun E cs1 hx => ?_) (fun v cs1 hx => ?_)
        · obtain ⟨v9, he9, nx9, mt9, fz9, -, e1, -⟩ := hx
          cases e1
        · obtain ⟨v9, he9, nx9, mt9, fz9, h99, e1, rfl⟩ := hx
          cases e1
          refine ⟨rfl, ?_⟩
          refine r_st (st2 := [.int v9]) rfl ?_
          refine r_cs (cs2 := [(m, .inr (12, [.int th, .ref mp, .int pt, .ref mf, .ref mh, .ref mn, .ref mt, .ref mz, .ref mc_, .ref mq, .ref mgr, .int cl, .int wa, .int co_, .int fi, .int bu, .int ho, .ref ml, .ref mi, .ref mr, .int lh, .int mg, .int wd, .int fpi, .int fal, .ref mm, .ref mu, .ref mk, .ref mx, .long po, .long de])), (b, .inl (1, 108, .inl f)), (mf, .inl (0, 108, .inl fl)), (mh, .inl (0, 108, .inl he9)), (mt, .inl (0, 108, .inl mt9)), (mz, .inl (0, 108, .inl fz9)), (mn, .inl (0, 108, .inl nx9))]) rfl ?_
          refine r_istore_n (lv' := [(3, .int v9), (4, .int (nI (i + 1))), (0, .ref m), (1, .ref b), (2, .int h)]) d_Mm_freeze_30 rfl (by decide) rfl ?_
          refine r_iinc (lv' := [(4, .int (nI (i + 1 + 1))), (3, .int v9), (0, .ref m), (1, .ref b), (2, .int h)]) (v := nI (i + 1 + 1)) d_Mm_freeze_31 (j := 1) rfl (nI_add _ _) (by decide) rfl ?_
          refine r_goto (tgt := 11) d_Mm_freeze_34 (by decide) ?_
          exact ih (i + 1) _ _ _ _ _ _ (by omega) (by omega)
set_option maxHeartbeats 4000000 in
set_option maxRecDepth 100000 in
theorem C_Mm_freezeW (g : zG) (m mp mf mh mn mt mz mc_ mq mgr ml mi mr mm mu mk mx : Nat) (th pt cl wa co_ fi bu ho lh mg wd fpi fal : Int32) (po de : Int64) (b : Nat) (f : Nat → Int32) (fl : Nat → Int32) (he nx mtt fz : Nat → Int32) (h : Int32) : CT g M_Mm_freeze [.ref m, .ref b, .int h] [(m, .inr (12, [.int th, .ref mp, .int pt, .ref mf, .ref mh, .ref mn, .ref mt, .ref mz, .ref mc_, .ref mq, .ref mgr, .int cl, .int wa, .int co_, .int fi, .int bu, .int ho, .ref ml, .ref mi, .ref mr, .int lh, .int mg, .int wd, .int fpi, .int fal, .ref mm, .ref mu, .ref mk, .ref mx, .long po, .long de])), (b, .inl (1, 108, .inl f)), (mf, .inl (0, 108, .inl fl)), (mh, .inl (0, 108, .inl he)), (mt, .inl (0, 108, .inl mtt)), (mz, .inl (0, 108, .inl fz)), (mn, .inl (0, 108, .inl nx))] (fun o cs1 => ∃ (fl9 he9 nx9 mt9 fz9 : Nat → Int32), o = .inl none ∧ cs1 = [(m, .inr (12, [.int th, .ref mp, .int pt, .ref mf, .ref mh, .ref mn, .ref mt, .ref mz, .ref mc_, .ref mq, .ref mgr, .int cl, .int wa, .int co_, .int fi, .int bu, .int ho, .ref ml, .ref mi, .ref mr, .int lh, .int mg, .int wd, .int fpi, .int fal, .ref mm, .ref mu, .ref mk, .ref mx, .long po, .long de])), (b, .inl (1, 108, .inl f)), (mf, .inl (0, 108, .inl fl9)), (mh, .inl (0, 108, .inl he9)), (mt, .inl (0, 108, .inl mt9)), (mz, .inl (0, 108, .inl fz9)), (mn, .inl (0, 108, .inl nx9))]) 0 0 := by
  refine z_of (by decide) rfl (Nat.le_of_ble_eq_true rfl) (fun w0 => ?_)
  refine r_lvE (lv2 := [(0, .ref m), (1, .ref b), (2, .int h)]) rfl ?_
  refine r_aload_n d_Mm_freeze_0 rfl 0 rfl ?_
  refine r_aload_n d_Mm_freeze_1 rfl 1 rfl ?_
  refine r_iload_n d_Mm_freeze_2 rfl 2 rfl ?_
  refine r_callV (As := [.ref b, .int h]) (rest := []) (csC := [(m, .inr (12, [.int th, .ref mp, .int pt, .ref mf, .ref mh, .ref mn, .ref mt, .ref mz, .ref mc_, .ref mq, .ref mgr, .int cl, .int wa, .int co_, .int fi, .int bu, .int ho, .ref ml, .ref mi, .ref mr, .int lh, .int mg, .int wd, .int fpi, .int fal, .ref mm, .ref mu, .ref mk, .ref mx, .long po, .long de])), (b, .inl (1, 108, .inl f)), (mf, .inl (0, 108, .inl fl)), (mh, .inl (0, 108, .inl he)), (mt, .inl (0, 108, .inl mtt)), (mz, .inl (0, 108, .inl fz))]) (is := [0, 1, 2, 3, 4, 5]) (q0 := 0) rfl rfl ln_Mm_157 w_im_Mm_begin w_se_Mm_begin ok_Mm_freeze_Mm_begin d_Mm_freeze_3 (C_Mm_beginW g m mp mf mh mn mt mz mc_ mq mgr ml mi mr mm mu mk mx th pt cl wa co_ fi bu ho lh mg wd fpi fal po de b f fl he mtt fz h) rfl rfl (Nat.le_of_ble_eq_true rfl) rfl (by decide) (by omega) (by omega) (fun E cs1 hx => ?_) (fun v cs1 hx => ?_)
  · obtain ⟨fl9, he9, mt9, fz9, e1, -⟩ := hx
    cases e1
  · obtain ⟨fl9, he9, mt9, fz9, e1, rfl⟩ := hx
    cases e1
    refine ⟨rfl, ?_⟩
    refine r_st (st2 := []) rfl ?_
    refine r_cs (cs2 := [(m, .inr (12, [.int th, .ref mp, .int pt, .ref mf, .ref mh, .ref mn, .ref mt, .ref mz, .ref mc_, .ref mq, .ref mgr, .int cl, .int wa, .int co_, .int fi, .int bu, .int ho, .ref ml, .ref mi, .ref mr, .int lh, .int mg, .int wd, .int fpi, .int fal, .ref mm, .ref mu, .ref mk, .ref mx, .long po, .long de])), (b, .inl (1, 108, .inl f)), (mf, .inl (0, 108, .inl fl9)), (mh, .inl (0, 108, .inl he9)), (mt, .inl (0, 108, .inl mt9)), (mz, .inl (0, 108, .inl fz9)), (mn, .inl (0, 108, .inl nx))]) rfl ?_
    refine r_iconst d_Mm_freeze_6 (v := 1) (by decide) ?_
    refine r_istore_n (lv' := [(3, .int 1), (0, .ref m), (1, .ref b), (2, .int h)]) d_Mm_freeze_7 rfl (by decide) rfl ?_
    refine r_iconst d_Mm_freeze_8 (v := 1) (by decide) ?_
    refine r_istore (lv' := [(4, .int 1), (3, .int 1), (0, .ref m), (1, .ref b), (2, .int h)]) d_Mm_freeze_9 (by decide) rfl ?_
    exact L_Mm_freezeW_11 g m mp mf mh mn mt mz mc_ mq mgr ml mi mr mm mu mk mx th pt cl wa co_ fi bu ho lh mg wd fpi fal po de b f fl he nx mtt fz h w0 _  (400 + 1) 0 _ _ _ _ _ _ (Nat.zero_le _) (by omega)
