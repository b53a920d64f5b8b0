set_option maxHeartbeats 4000000 in
set_option maxRecDepth 100000 in
theorem L_Mm_heatAtW_72 (g : zG) (m mp mf mh mn mt mz mc_ mq mgr ml mi mr mm mu mk mx : Nat) (th pt cl wa co_ fi bu ho lh mg wd fpi fal : Int32) (po de : Int64) (f fl he nx mtt fz ic : Nat → Int32) (qn : Nat → Nat) (x y : Nat) (hx0 : x < 12) (hy0 : y < 9) (h : Int32) (kd : Nat) (hkd : kd ≤ 400) (hh : 1200 ≤ h ∧ h ≤ 1500) (w0 : zW) (n : Nat) : ∀ (d i : Nat) (fl he nx mtt fz : Nat → Int32), i ≤ kd → kd < i + d → DV g M_Mm_heatAt (fun o cs1 => ∃ (v9 th9 : Int32) (fl9 he9 nx9 mt9 fz9 ic9 : Nat → Int32) (qn9 : Nat → Nat), o = .inl (some (.int v9)) ∧ cs1 = [(m, .inr (12, [.int th9, .ref mp, .int pt, .ref mf, .ref mh, .ref mn, .ref mt, .ref mz, .ref mc_, .ref mq, .ref mgr, .int cl, .int wa, .int co_, .int fi, .int bu, .int ho, .ref ml, .ref mi, .ref mr, .int lh, .int mg, .int wd, .int fpi, .int fal, .ref mm, .ref mu, .ref mk, .ref mx, .long po, .long de])), (mp, .inl (1, 108, .inl f)), (mf, .inl (0, 108, .inl fl9)), (mh, .inl (0, 108, .inl he9)), (mt, .inl (0, 108, .inl mt9)), (mz, .inl (0, 108, .inl fz9)), (mn, .inl (0, 108, .inl nx9)), (mc_, .inl (2, 108, .inl ic9)), (mq, .inl (0, 108, .inl (fun k => nI (qn9 k))))]) w0 n 72 [(5, .int (nI (i + 1))), (4, .int (nI kd)), (2, .int (nI y)), (1, .int (nI x)), (0, .ref m)] [] [(m, .inr (12, [.int 0, .ref mp, .int pt, .ref mf, .ref mh, .ref mn, .ref mt, .ref mz, .ref mc_, .ref mq, .ref mgr, .int cl, .int wa, .int co_, .int fi, .int bu, .int ho, .ref ml, .ref mi, .ref mr, .int lh, .int mg, .int wd, .int fpi, .int fal, .ref mm, .ref mu, .ref mk, .ref mx, .long po, .long de])), (mp, .inl (1, 108, .inl f)), (mf, .inl (0, 108, .inl fl)), (mh, .inl (0, 108, .inl he)), (mt, .inl (0, 108, .inl mtt)), (mz, .inl (0, 108, .inl fz)), (mn, .inl (0, 108, .inl nx)), (mc_, .inl (2, 108, .inl ic)), (mq, .inl (0, 108, .inl (fun k => nI (qn k))))] 0 0 := by
  intro d
  induction d with
  | zero => intro i fl he nx mtt fz h1 h2 ; exact absurd h2 (by omega)
  | succ d ih =>
    intro i fl he nx mtt fz h1 h2 
    refine r_iload d_Mm_heatAt_72 0 rfl ?_
    refine r_iload d_Mm_heatAt_74 1 rfl ?_
    refine r_icmp_gt (tgt := 96) d_Mm_heatAt_76 (by decide) (fun c_76 => ?_) (fun c_76 => ?_)
    · refine r_aload_n d_Mm_heatAt_96 rfl 4 rfl ?_
      refine r_get fs_Mm_21 d_Mm_heatAt_97 (q0 := 0) rfl rfl ?_
      refine r_bipush d_Mm_heatAt_100 (v := 12) (by decide) ?_
      refine r_iload_n d_Mm_heatAt_102 rfl 2 rfl ?_
      refine r_imul d_Mm_heatAt_103 (v := nI (12 * y)) (pk_mul _ _) ?_
      refine r_iload_n d_Mm_heatAt_104 rfl 3 rfl ?_
      refine r_iadd d_Mm_heatAt_105 (v := nI (12 * y + x)) (nI_add _ _) ?_
      refine r_iald d_Mm_heatAt_106 (q0 := 3) rfl (vp_in_nI (by omega) (by omega)) (v := he (12 * y + x)) (by rw [nI_clamp (by omega)]) ?_
      refine r_iret d_Mm_heatAt_107 rfl rfl ?_
      exact ⟨_, _, _, _, _, _, _, _, _, rfl, rfl⟩
    · have hn := z_nlt (by omega) (by omega) c_76
      refine r_aload_n d_Mm_heatAt_79 rfl 4 rfl ?_
      refine r_aload_n d_Mm_heatAt_80 rfl 4 rfl ?_
      refine r_get fs_Mm_7 d_Mm_heatAt_81 (q0 := 0) rfl rfl ?_
      refine r_iload d_Mm_heatAt_84 0 rfl ?_
      refine r_callV (As := [.ref mp, .int (nI (i + 1))]) (rest := []) (csC := [(m, .inr (12, [.int 0, .ref mp, .int pt, .ref mf, .ref mh, .ref mn, .ref mt, .ref mz, .ref mc_, .ref mq, .ref mgr, .int cl, .int wa, .int co_, .int fi, .int bu, .int ho, .ref ml, .ref mi, .ref mr, .int lh, .int mg, .int wd, .int fpi, .int fal, .ref mm, .ref mu, .ref mk, .ref mx, .long po, .long de])), (mp, .inl (1, 108, .inl f)), (mf, .inl (0, 108, .inl fl)), (mh, .inl (0, 108, .inl he)), (mn, .inl (0, 108, .inl nx)), (mt, .inl (0, 108, .inl mtt)), (mz, .inl (0, 108, .inl fz))]) (is := [0, 1, 2, 3, 6, 4, 5]) (q0 := 0) rfl rfl ln_Mm_160 w_im_Mm_freezeStep w_se_Mm_freezeStep ok_Mm_heatAt_Mm_freezeStep d_Mm_heatAt_86 (C_Mm_freezeStepW g m mp mf mh mn mt mz mc_ mq mgr ml mi mr mm mu mk mx 0 pt cl wa co_ fi bu ho lh mg wd fpi fal po de mp f fl he nx mtt fz (nI (i + 1))) rfl rfl (Nat.le_of_ble_eq_true rfl) rfl (by decide) (by omega) (by omega) (fun E cs1 hx => ?_) (fun v cs1 hx => ?_)
      · obtain ⟨v9, he9, nx9, mt9, fz9, -, e1, -⟩ := hx
        cases e1
      · obtain ⟨v9, he9, nx9, mt9, fz9, -, e1, rfl⟩ := hx
        cases e1
        refine ⟨rfl, ?_⟩
        refine r_st (st2 := [.int v9]) rfl ?_
        refine r_cs (cs2 := [(m, .inr (12, [.int 0, .ref mp, .int pt, .ref mf, .ref mh, .ref mn, .ref mt, .ref mz, .ref mc_, .ref mq, .ref mgr, .int cl, .int wa, .int co_, .int fi, .int bu, .int ho, .ref ml, .ref mi, .ref mr, .int lh, .int mg, .int wd, .int fpi, .int fal, .ref mm, .ref mu, .ref mk, .ref mx, .long po, .long de])), (mp, .inl (1, 108, .inl f)), (mf, .inl (0, 108, .inl fl)), (mh, .inl (0, 108, .inl he9)), (mt, .inl (0, 108, .inl mt9)), (mz, .inl (0, 108, .inl fz9)), (mn, .inl (0, 108, .inl nx9)), (mc_, .inl (2, 108, .inl ic)), (mq, .inl (0, 108, .inl (fun k => nI (qn k))))]) rfl ?_
        refine r_pop d_Mm_heatAt_89 rfl ?_
        refine r_iinc (lv' := [(5, .int (nI ((i + 1) + 1))), (4, .int (nI kd)), (2, .int (nI y)), (1, .int (nI x)), (0, .ref m)]) (v := nI ((i + 1) + 1)) d_Mm_heatAt_90 (j := 0) rfl (nI_add _ _) (by decide) rfl ?_
        refine r_goto (tgt := 72) d_Mm_heatAt_93 (by decide) ?_
        exact ih (i + 1) _ _ _ _ _ (by omega) (by omega)
set_option maxHeartbeats 4000000 in
set_option maxRecDepth 100000 in
theorem C_Mm_heatAtW (g : zG) (m mp mf mh mn mt mz mc_ mq mgr ml mi mr mm mu mk mx : Nat) (th pt cl wa co_ fi bu ho lh mg wd fpi fal : Int32) (po de : Int64) (f fl he nx mtt fz ic : Nat → Int32) (qn : Nat → Nat) (x y : Nat) (hx0 : x < 12) (hy0 : y < 9) (h : Int32) (kd : Nat) (hkd : kd ≤ 400) (hh : 1200 ≤ h ∧ h ≤ 1500) : CT g M_Mm_heatAt [.ref m, .int (nI x), .int (nI y), .int h, .int (nI kd)] [(m, .inr (12, [.int th, .ref mp, .int pt, .ref mf, .ref mh, .ref mn, .ref mt, .ref mz, .ref mc_, .ref mq, .ref mgr, .int cl, .int wa, .int co_, .int fi, .int bu, .int ho, .ref ml, .ref mi, .ref mr, .int lh, .int mg, .int wd, .int fpi, .int fal, .ref mm, .ref mu, .ref mk, .ref mx, .long po, .long de])), (mp, .inl (1, 108, .inl f)), (mf, .inl (0, 108, .inl fl)), (mh, .inl (0, 108, .inl he)), (mt, .inl (0, 108, .inl mtt)), (mz, .inl (0, 108, .inl fz)), (mn, .inl (0, 108, .inl nx)), (mc_, .inl (2, 108, .inl ic)), (mq, .inl (0, 108, .inl (fun k => nI (qn k))))] (fun o cs1 => ∃ (v9 th9 : Int32) (fl9 he9 nx9 mt9 fz9 ic9 : Nat → Int32) (qn9 : Nat → Nat), o = .inl (some (.int v9)) ∧ cs1 = [(m, .inr (12, [.int th9, .ref mp, .int pt, .ref mf, .ref mh, .ref mn, .ref mt, .ref mz, .ref mc_, .ref mq, .ref mgr, .int cl, .int wa, .int co_, .int fi, .int bu, .int ho, .ref ml, .ref mi, .ref mr, .int lh, .int mg, .int wd, .int fpi, .int fal, .ref mm, .ref mu, .ref mk, .ref mx, .long po, .long de])), (mp, .inl (1, 108, .inl f)), (mf, .inl (0, 108, .inl fl9)), (mh, .inl (0, 108, .inl he9)), (mt, .inl (0, 108, .inl mt9)), (mz, .inl (0, 108, .inl fz9)), (mn, .inl (0, 108, .inl nx9)), (mc_, .inl (2, 108, .inl ic9)), (mq, .inl (0, 108, .inl (fun k => nI (qn9 k))))]) 0 0 := by
  refine z_of (by decide) rfl (Nat.le_of_ble_eq_true rfl) (fun w0 => ?_)
  refine r_lvE (lv2 := [(0, .ref m), (1, .int (nI x)), (2, .int (nI y)), (3, .int h), (4, .int (nI kd))]) rfl ?_
  refine r_aload_n d_Mm_heatAt_0 rfl 0 rfl ?_
  refine r_iconst d_Mm_heatAt_1 (v := 0) (by decide) ?_
  refine r_put fp_Mm_84 d_Mm_heatAt_2 (fun h => nomatch h) rfl rfl (q0 := 0) rfl (Nat.le_of_ble_eq_true rfl) (cs' := [(m, .inr (12, [.int 0, .ref mp, .int pt, .ref mf, .ref mh, .ref mn, .ref mt, .ref mz, .ref mc_, .ref mq, .ref mgr, .int cl, .int wa, .int co_, .int fi, .int bu, .int ho, .ref ml, .ref mi, .ref mr, .int lh, .int mg, .int wd, .int fpi, .int fal, .ref mm, .ref mu, .ref mk, .ref mx, .long po, .long de])), (mp, .inl (1, 108, .inl f)), (mf, .inl (0, 108, .inl fl)), (mh, .inl (0, 108, .inl he)), (mt, .inl (0, 108, .inl mtt)), (mz, .inl (0, 108, .inl fz)), (mn, .inl (0, 108, .inl nx)), (mc_, .inl (2, 108, .inl ic)), (mq, .inl (0, 108, .inl (fun k => nI (qn k))))]) rfl ?_
  refine r_aload_n d_Mm_heatAt_5 rfl 0 rfl ?_
  refine r_iload_n d_Mm_heatAt_6 rfl 1 rfl ?_
  refine r_iload_n d_Mm_heatAt_7 rfl 2 rfl ?_
  refine r_callS (As := [.int (nI x), .int (nI y)]) (rest := [.ref m]) (csC := []) (is := []) ln_Mm_91 w_st_Mm_isCell ok_Mm_heatAt_Mm_isCell d_Mm_heatAt_8 (C_Mm_isCell g (nI x) (nI y)) rfl rfl (Nat.le_of_ble_eq_true rfl) rfl (by decide) (by omega) (by omega) (fun E cs1 hx => ?_) (fun v cs1 hx => ?_)
  · exact absurd hx.1 (by simp)
  · obtain ⟨e1, rfl⟩ := hx
    rw [if_pos (z_cellN (by omega) (by omega))] at e1
    cases e1
    refine ⟨rfl, ?_⟩
    refine r_st (st2 := [.int 1, .ref m]) rfl ?_
    refine r_cs (cs2 := [(m, .inr (12, [.int 0, .ref mp, .int pt, .ref mf, .ref mh, .ref mn, .ref mt, .ref mz, .ref mc_, .ref mq, .ref mgr, .int cl, .int wa, .int co_, .int fi, .int bu, .int ho, .ref ml, .ref mi, .ref mr, .int lh, .int mg, .int wd, .int fpi, .int fal, .ref mm, .ref mu, .ref mk, .ref mx, .long po, .long de])), (mp, .inl (1, 108, .inl f)), (mf, .inl (0, 108, .inl fl)), (mh, .inl (0, 108, .inl he)), (mt, .inl (0, 108, .inl mtt)), (mz, .inl (0, 108, .inl fz)), (mn, .inl (0, 108, .inl nx)), (mc_, .inl (2, 108, .inl ic)), (mq, .inl (0, 108, .inl (fun k => nI (qn k))))]) rfl ?_
    refine r_if_ne (tgt := 18) d_Mm_heatAt_11 (by decide) (fun c_11 => ?_) (fun c_11 => ?_)
    · refine r_iconst d_Mm_heatAt_18 (v := 0) (by decide) ?_
      refine r_iconst d_Mm_heatAt_19 (v := 1) (by decide) ?_
      refine r_callV (As := [.int 0, .int 1]) (rest := []) (csC := [(m, .inr (12, [.int 0, .ref mp, .int pt, .ref mf, .ref mh, .ref mn, .ref mt, .ref mz, .ref mc_, .ref mq, .ref mgr, .int cl, .int wa, .int co_, .int fi, .int bu, .int ho, .ref ml, .ref mi, .ref mr, .int lh, .int mg, .int wd, .int fpi, .int fal, .ref mm, .ref mu, .ref mk, .ref mx, .long po, .long de]))]) (is := [0]) (q0 := 0) rfl rfl ln_Mm_103 w_im_Mm_fails w_se_Mm_fails ok_Mm_heatAt_Mm_fails d_Mm_heatAt_20 (C_Mm_fails0 g m mp mf mh mn mt mz mc_ mq mgr ml mi mr mm mu mk mx th pt cl wa co_ fi bu ho lh mg wd fpi fal po de 1) rfl rfl (Nat.le_of_ble_eq_true rfl) rfl (by decide) (by omega) (by omega) (fun E cs1 hx => ?_) (fun v cs1 hx => ?_)
      · exact absurd hx.1 (by simp)
      · obtain ⟨e1, rfl⟩ := hx
        cases e1
        refine ⟨rfl, ?_⟩
        refine r_st (st2 := [.int 0]) rfl ?_
        refine r_cs (cs2 := [(m, .inr (12, [.int 0, .ref mp, .int pt, .ref mf, .ref mh, .ref mn, .ref mt, .ref mz, .ref mc_, .ref mq, .ref mgr, .int cl, .int wa, .int co_, .int fi, .int bu, .int ho, .ref ml, .ref mi, .ref mr, .int lh, .int mg, .int wd, .int fpi, .int fal, .ref mm, .ref mu, .ref mk, .ref mx, .long po, .long de])), (mp, .inl (1, 108, .inl f)), (mf, .inl (0, 108, .inl fl)), (mh, .inl (0, 108, .inl he)), (mt, .inl (0, 108, .inl mtt)), (mz, .inl (0, 108, .inl fz)), (mn, .inl (0, 108, .inl nx)), (mc_, .inl (2, 108, .inl ic)), (mq, .inl (0, 108, .inl (fun k => nI (qn k))))]) rfl ?_
        refine r_if_ne (tgt := 58) d_Mm_heatAt_23 (by decide) (fun c_23 => ?_) (fun c_23 => ?_)
        · exact absurd c_23 (by decide)
        · refine r_aload_n d_Mm_heatAt_26 rfl 0 rfl ?_
          refine r_iload_n d_Mm_heatAt_27 rfl 3 rfl ?_
          refine r_callS (As := [.int h]) (rest := [.ref m]) (csC := []) (is := []) ln_Mm_163 w_st_Mm_noHeat ok_Mm_heatAt_Mm_noHeat d_Mm_heatAt_28 (C_Mm_noHeat0 g h hh) rfl rfl (Nat.le_of_ble_eq_true rfl) rfl (by decide) (by omega) (by omega) (fun E cs1 hx => ?_) (fun v cs1 hx => ?_)
          · exact absurd hx.1 (by simp)
          · obtain ⟨e1, rfl⟩ := hx
            cases e1
            refine ⟨rfl, ?_⟩
            refine r_st (st2 := [.int 0, .ref m]) rfl ?_
            refine r_cs (cs2 := [(m, .inr (12, [.int 0, .ref mp, .int pt, .ref mf, .ref mh, .ref mn, .ref mt, .ref mz, .ref mc_, .ref mq, .ref mgr, .int cl, .int wa, .int co_, .int fi, .int bu, .int ho, .ref ml, .ref mi, .ref mr, .int lh, .int mg, .int wd, .int fpi, .int fal, .ref mm, .ref mu, .ref mk, .ref mx, .long po, .long de])), (mp, .inl (1, 108, .inl f)), (mf, .inl (0, 108, .inl fl)), (mh, .inl (0, 108, .inl he)), (mt, .inl (0, 108, .inl mtt)), (mz, .inl (0, 108, .inl fz)), (mn, .inl (0, 108, .inl nx)), (mc_, .inl (2, 108, .inl ic)), (mq, .inl (0, 108, .inl (fun k => nI (qn k))))]) rfl ?_
            refine r_if_ne (tgt := 46) d_Mm_heatAt_31 (by decide) (fun c_31 => ?_) (fun c_31 => ?_)
            · exact absurd c_31 (by decide)
            · refine r_iload d_Mm_heatAt_34 4 rfl ?_
              refine r_iconst d_Mm_heatAt_36 (v := 0) (by decide) ?_
              refine r_sipush d_Mm_heatAt_37 (v := 400) (by decide) ?_
              refine r_callS (As := [.int (nI kd), .int 0, .int 400]) (rest := [.ref m]) (csC := []) (is := []) ln_Mm_87 w_st_Mm_in ok_Mm_heatAt_Mm_in d_Mm_heatAt_40 (C_Mm_in g (nI kd) 0 400) rfl rfl (Nat.le_of_ble_eq_true rfl) rfl (by decide) (by omega) (by omega) (fun E cs1 hx => ?_) (fun v cs1 hx => ?_)
              · exact absurd hx.1 (by simp)
              · obtain ⟨e1, rfl⟩ := hx
                rw [if_pos ⟨Int32.not_lt.mp (nI_nneg (by omega)), (nI_leI (b := 400) (by omega) (by decide)).mpr hkd⟩] at e1
                cases e1
                refine ⟨rfl, ?_⟩
                refine r_st (st2 := [.int 1, .ref m]) rfl ?_
                refine r_cs (cs2 := [(m, .inr (12, [.int 0, .ref mp, .int pt, .ref mf, .ref mh, .ref mn, .ref mt, .ref mz, .ref mc_, .ref mq, .ref mgr, .int cl, .int wa, .int co_, .int fi, .int bu, .int ho, .ref ml, .ref mi, .ref mr, .int lh, .int mg, .int wd, .int fpi, .int fal, .ref mm, .ref mu, .ref mk, .ref mx, .long po, .long de])), (mp, .inl (1, 108, .inl f)), (mf, .inl (0, 108, .inl fl)), (mh, .inl (0, 108, .inl he)), (mt, .inl (0, 108, .inl mtt)), (mz, .inl (0, 108, .inl fz)), (mn, .inl (0, 108, .inl nx)), (mc_, .inl (2, 108, .inl ic)), (mq, .inl (0, 108, .inl (fun k => nI (qn k))))]) rfl ?_
                refine r_if_ne (tgt := 50) d_Mm_heatAt_43 (by decide) (fun c_43 => ?_) (fun c_43 => ?_)
                · refine r_iconst d_Mm_heatAt_50 (v := 0) (by decide) ?_
                  refine r_iconst d_Mm_heatAt_51 (v := 2) (by decide) ?_
                  refine r_callV (As := [.int 0, .int 2]) (rest := []) (csC := [(m, .inr (12, [.int 0, .ref mp, .int pt, .ref mf, .ref mh, .ref mn, .ref mt, .ref mz, .ref mc_, .ref mq, .ref mgr, .int cl, .int wa, .int co_, .int fi, .int bu, .int ho, .ref ml, .ref mi, .ref mr, .int lh, .int mg, .int wd, .int fpi, .int fal, .ref mm, .ref mu, .ref mk, .ref mx, .long po, .long de]))]) (is := [0]) (q0 := 0) rfl rfl ln_Mm_103 w_im_Mm_fails w_se_Mm_fails ok_Mm_heatAt_Mm_fails d_Mm_heatAt_52 (C_Mm_fails0 g m mp mf mh mn mt mz mc_ mq mgr ml mi mr mm mu mk mx th pt cl wa co_ fi bu ho lh mg wd fpi fal po de 2) rfl rfl (Nat.le_of_ble_eq_true rfl) rfl (by decide) (by omega) (by omega) (fun E cs1 hx => ?_) (fun v cs1 hx => ?_)
                  · exact absurd hx.1 (by simp)
                  · obtain ⟨e1, rfl⟩ := hx
                    cases e1
                    refine ⟨rfl, ?_⟩
                    refine r_st (st2 := [.int 0]) rfl ?_
                    refine r_cs (cs2 := [(m, .inr (12, [.int 0, .ref mp, .int pt, .ref mf, .ref mh, .ref mn, .ref mt, .ref mz, .ref mc_, .ref mq, .ref mgr, .int cl, .int wa, .int co_, .int fi, .int bu, .int ho, .ref ml, .ref mi, .ref mr, .int lh, .int mg, .int wd, .int fpi, .int fal, .ref mm, .ref mu, .ref mk, .ref mx, .long po, .long de])), (mp, .inl (1, 108, .inl f)), (mf, .inl (0, 108, .inl fl)), (mh, .inl (0, 108, .inl he)), (mt, .inl (0, 108, .inl mtt)), (mz, .inl (0, 108, .inl fz)), (mn, .inl (0, 108, .inl nx)), (mc_, .inl (2, 108, .inl ic)), (mq, .inl (0, 108, .inl (fun k => nI (qn k))))]) rfl ?_
                    refine r_if_eq (tgt := 60) d_Mm_heatAt_55 (by decide) (fun c_55 => ?_) (fun c_55 => ?_)
                    · refine r_aload_n d_Mm_heatAt_60 rfl 0 rfl ?_
                      refine r_aload_n d_Mm_heatAt_61 rfl 0 rfl ?_
                      refine r_get fs_Mm_7 d_Mm_heatAt_62 (q0 := 0) rfl rfl ?_
                      refine r_iload_n d_Mm_heatAt_65 rfl 3 rfl ?_
                      refine r_callV (As := [.ref mp, .int h]) (rest := []) (csC := [(m, .inr (12, [.int 0, .ref mp, .int pt, .ref mf, .ref mh, .ref mn, .ref mt, .ref mz, .ref mc_, .ref mq, .ref mgr, .int cl, .int wa, .int co_, .int fi, .int bu, .int ho, .ref ml, .ref mi, .ref mr, .int lh, .int mg, .int wd, .int fpi, .int fal, .ref mm, .ref mu, .ref mk, .ref mx, .long po, .long de])), (mp, .inl (1, 108, .inl f)), (mf, .inl (0, 108, .inl fl)), (mh, .inl (0, 108, .inl he)), (mt, .inl (0, 108, .inl mtt)), (mz, .inl (0, 108, .inl fz))]) (is := [0, 1, 2, 3, 4, 5]) (q0 := 0) rfl rfl ln_Mm_157 w_im_Mm_begin w_se_Mm_begin ok_Mm_heatAt_Mm_begin d_Mm_heatAt_66 (C_Mm_beginW g m mp mf mh mn mt mz mc_ mq mgr ml mi mr mm mu mk mx 0 pt cl wa co_ fi bu ho lh mg wd fpi fal po de mp f fl he mtt fz h) rfl rfl (Nat.le_of_ble_eq_true rfl) rfl (by decide) (by omega) (by omega) (fun E cs1 hx => ?_) (fun v cs1 hx => ?_)
                      · obtain ⟨fl9, he9, mt9, fz9, e1, -⟩ := hx
                        cases e1
                      · obtain ⟨fl9, he9, mt9, fz9, e1, rfl⟩ := hx
                        cases e1
                        refine ⟨rfl, ?_⟩
                        refine r_st (st2 := []) rfl ?_
                        refine r_cs (cs2 := [(m, .inr (12, [.int 0, .ref mp, .int pt, .ref mf, .ref mh, .ref mn, .ref mt, .ref mz, .ref mc_, .ref mq, .ref mgr, .int cl, .int wa, .int co_, .int fi, .int bu, .int ho, .ref ml, .ref mi, .ref mr, .int lh, .int mg, .int wd, .int fpi, .int fal, .ref mm, .ref mu, .ref mk, .ref mx, .long po, .long de])), (mp, .inl (1, 108, .inl f)), (mf, .inl (0, 108, .inl fl9)), (mh, .inl (0, 108, .inl he9)), (mt, .inl (0, 108, .inl mt9)), (mz, .inl (0, 108, .inl fz9)), (mn, .inl (0, 108, .inl nx)), (mc_, .inl (2, 108, .inl ic)), (mq, .inl (0, 108, .inl (fun k => nI (qn k))))]) rfl ?_
                        refine r_iconst d_Mm_heatAt_69 (v := 1) (by decide) ?_
                        refine r_istore (lv' := [(5, .int 1), (0, .ref m), (1, .int (nI x)), (2, .int (nI y)), (3, .int h), (4, .int (nI kd))]) d_Mm_heatAt_70 (by decide) rfl ?_
                        refine r_lv (lv' := [(5, .int 1), (4, .int (nI kd)), (2, .int (nI y)), (1, .int (nI x)), (0, .ref m)]) [0, 5, 3, 2, 1] rfl ?_
                        exact L_Mm_heatAtW_72 g m mp mf mh mn mt mz mc_ mq mgr ml mi mr mm mu mk mx th pt cl wa co_ fi bu ho lh mg wd fpi fal po de f fl he nx mtt fz ic qn x y hx0 hy0 h kd hkd hh w0 _  (kd + 1) 0 _ _ _ _ _ (Nat.zero_le _) (by omega)
                    · exact absurd c_55 (by decide)
                · exact absurd c_43 (by decide)
    · exact absurd c_11 (by decide)
theorem d_Mm_looseIn_23 : decode prog_14_method_15_code 23 = .ok (.iload 6, 2) := zo_21 (d := 6) (zd_b zq_prog_14_method_15_code_0 23 rfl rfl rfl) (zd_b zq_prog_14_method_15_code_0 24 rfl rfl rfl)
theorem d_Mm_looseIn_25 : decode prog_14_method_15_code 25 = .ok (.bipush 108, 2) := zo_16 (d := 108) (zd_b zq_prog_14_method_15_code_0 25 rfl rfl rfl) (zd_b zq_prog_14_method_15_code_0 26 rfl rfl rfl) (by decide +kernel)
theorem d_Mm_looseIn_27 : decode prog_14_method_15_code 27 = .ok (.if_icmp .ge 40, 3) := zo_162 (d := 0) (e := 40) (zd_b zq_prog_14_method_15_code_0 27 rfl rfl rfl) (zd_b zq_prog_14_method_15_code_0 28 rfl rfl rfl) (zd_b zq_prog_14_method_15_code_0 29 rfl rfl rfl) (by decide +kernel)
theorem d_Mm_looseIn_30 : decode prog_14_method_15_code 30 = .ok (.iload 5, 2) := zo_21 (d := 5) (zd_b zq_prog_14_method_15_code_0 30 rfl rfl rfl) (zd_b zq_prog_14_method_15_code_0 31 rfl rfl rfl)
theorem d_Mm_looseIn_32 : decode prog_14_method_15_code 32 = .ok (.aload_n 0, 1) := zo_42 (zd_b zq_prog_14_method_15_code_1 0 rfl rfl rfl)
theorem d_Mm_looseIn_33 : decode prog_14_method_15_code 33 = .ok (.getfield 40, 3) := zo_180 (d := 0) (e := 40) (zd_b zq_prog_14_method_15_code_1 1 rfl rfl rfl) (zd_b zq_prog_14_method_15_code_1 2 rfl rfl rfl) (zd_b zq_prog_14_method_15_code_1 3 rfl rfl rfl)
theorem d_Mm_looseIn_36 : decode prog_14_method_15_code 36 = .ok (.iload 6, 2) := zo_21 (d := 6) (zd_b zq_prog_14_method_15_code_1 4 rfl rfl rfl) (zd_b zq_prog_14_method_15_code_1 5 rfl rfl rfl)
theorem d_Mm_looseIn_38 : decode prog_14_method_15_code 38 = .ok (.iaload, 1) := zo_46 (zd_b zq_prog_14_method_15_code_1 6 rfl rfl rfl)
theorem d_Mm_looseIn_39 : decode prog_14_method_15_code 39 = .ok (.iload 4, 2) := zo_21 (d := 4) (zd_b zq_prog_14_method_15_code_1 7 rfl rfl rfl) (zd_b zq_prog_14_method_15_code_1 8 rfl rfl rfl)
theorem d_Mm_looseIn_41 : decode prog_14_method_15_code 41 = .ok (.if_icmp .ne 16, 3) := zo_160 (d := 0) (e := 16) (zd_b zq_prog_14_method_15_code_1 9 rfl rfl rfl) (zd_b zq_prog_14_method_15_code_1 10 rfl rfl rfl) (zd_b zq_prog_14_method_15_code_1 11 rfl rfl rfl) (by decide +kernel)
theorem d_Mm_looseIn_57 : decode prog_14_method_15_code 57 = .ok (.iconst 0, 1) := zo_3 (zd_b zq_prog_14_method_15_code_1 25 rfl rfl rfl)
theorem d_Mm_looseIn_58 : decode prog_14_method_15_code 58 = .ok (.iadd, 1) := zo_96 (zd_b zq_prog_14_method_15_code_1 26 rfl rfl rfl)
theorem d_Mm_looseIn_59 : decode prog_14_method_15_code 59 = .ok (.istore 5, 2) := zo_54 (d := 5) (zd_b zq_prog_14_method_15_code_1 27 rfl rfl rfl) (zd_b zq_prog_14_method_15_code_1 28 rfl rfl rfl)
theorem d_Mm_looseIn_61 : decode prog_14_method_15_code 61 = .ok (.iinc 6 1, 3) := by decide +kernel
theorem d_Mm_looseIn_64 : decode prog_14_method_15_code 64 = .ok (.goto (-41), 3) := zo_167 (d := 255) (e := 215) (zd_b zq_prog_14_method_15_code_2 0 rfl rfl rfl) (zd_b zq_prog_14_method_15_code_2 1 rfl rfl rfl) (zd_b zq_prog_14_method_15_code_2 2 rfl rfl rfl) (by decide +kernel)
theorem d_Mm_looseIn_44 : decode prog_14_method_15_code 44 = .ok (.aload_n 1, 1) := zo_43 (zd_b zq_prog_14_method_15_code_1 12 rfl rfl rfl)
theorem d_Mm_looseIn_45 : decode prog_14_method_15_code 45 = .ok (.iload 6, 2) := zo_21 (d := 6) (zd_b zq_prog_14_method_15_code_1 13 rfl rfl rfl) (zd_b zq_prog_14_method_15_code_1 14 rfl rfl rfl)
theorem d_Mm_looseIn_47 : decode prog_14_method_15_code 47 = .ok (.invokestatic 127, 3) := zo_184 (d := 0) (e := 127) (zd_b zq_prog_14_method_15_code_1 15 rfl rfl rfl) (zd_b zq_prog_14_method_15_code_1 16 rfl rfl rfl) (zd_b zq_prog_14_method_15_code_1 17 rfl rfl rfl)
theorem ok_Mm_looseIn_Mm_isBesideSand : z_ok M_Mm_looseIn M_Mm_isBesideSand 2 := ⟨z_mj8 (i := 0) rfl (by decide +kernel), rfl, ⟨by decide +kernel, by decide +kernel, by decide +kernel⟩, ⟨by decide, by decide⟩, z_mj1 (i := 14) rfl (by decide +kernel), rfl⟩
theorem ln_Mm_127 : Cond.methodLink "IronpourModel" 127 M_Mm_isBesideSand.1 ∈ z_gw := z_mj7 (i := 238) rfl (by decide +kernel)
theorem w_st_Mm_isBesideSand : Cond.static M_Mm_isBesideSand.1 ∈ z_gw := z_mj7 (i := 239) rfl (by decide +kernel)
theorem d_Mm_looseIn_50 : decode prog_14_method_15_code 50 = .ok (.ifCond .eq 7, 3) := zo_153 (d := 0) (e := 7) (zd_b zq_prog_14_method_15_code_1 18 rfl rfl rfl) (zd_b zq_prog_14_method_15_code_1 19 rfl rfl rfl) (zd_b zq_prog_14_method_15_code_1 20 rfl rfl rfl) (by decide +kernel)
theorem d_Mm_looseIn_53 : decode prog_14_method_15_code 53 = .ok (.iconst 1, 1) := zo_4 (zd_b zq_prog_14_method_15_code_1 21 rfl rfl rfl)
theorem d_Mm_looseIn_54 : decode prog_14_method_15_code 54 = .ok (.goto 4, 3) := zo_167 (d := 0) (e := 4) (zd_b zq_prog_14_method_15_code_1 22 rfl rfl rfl) (zd_b zq_prog_14_method_15_code_1 23 rfl rfl rfl) (zd_b zq_prog_14_method_15_code_1 24 rfl rfl rfl) (by decide +kernel)
theorem d_Mm_looseIn_17 : decode prog_14_method_15_code 17 = .ok (.iconst 0, 1) := zo_3 (zd_b zq_prog_14_method_15_code_0 17 rfl rfl rfl)
theorem d_Mm_looseIn_18 : decode prog_14_method_15_code 18 = .ok (.istore 5, 2) := zo_54 (d := 5) (zd_b zq_prog_14_method_15_code_0 18 rfl rfl rfl) (zd_b zq_prog_14_method_15_code_0 19 rfl rfl rfl)
theorem d_Mm_looseIn_20 : decode prog_14_method_15_code 20 = .ok (.iconst 0, 1) := zo_3 (zd_b zq_prog_14_method_15_code_0 20 rfl rfl rfl)
theorem d_Mm_looseIn_21 : decode prog_14_method_15_code 21 = .ok (.istore 6, 2) := zo_54 (d := 6) (zd_b zq_prog_14_method_15_code_0 21 rfl rfl rfl) (zd_b zq_prog_14_method_15_code_0 22 rfl rfl rfl)
theorem d_Mm_looseIn_67 : decode prog_14_method_15_code 67 = .ok (.iload_n 3, 1) := zo_29 (zd_b zq_prog_14_method_15_code_2 3 rfl rfl rfl)
theorem d_Mm_looseIn_68 : decode prog_14_method_15_code 68 = .ok (.iload 5, 2) := zo_21 (d := 5) (zd_b zq_prog_14_method_15_code_2 4 rfl rfl rfl) (zd_b zq_prog_14_method_15_code_2 5 rfl rfl rfl)
theorem d_Mm_looseIn_70 : decode prog_14_method_15_code 70 = .ok (.iconst 2, 1) := zo_5 (zd_b zq_prog_14_method_15_code_2 6 rfl rfl rfl)
theorem d_Mm_looseIn_71 : decode prog_14_method_15_code 71 = .ok (.if_icmp .ge 7, 3) := zo_162 (d := 0) (e := 7) (zd_b zq_prog_14_method_15_code_2 7 rfl rfl rfl) (zd_b zq_prog_14_method_15_code_2 8 rfl rfl rfl) (zd_b zq_prog_14_method_15_code_2 9 rfl rfl rfl) (by decide +kernel)
theorem d_Mm_looseIn_78 : decode prog_14_method_15_code 78 = .ok (.iconst 0, 1) := zo_3 (zd_b zq_prog_14_method_15_code_2 14 rfl rfl rfl)
theorem d_Mm_looseIn_79 : decode prog_14_method_15_code 79 = .ok (.iadd, 1) := zo_96 (zd_b zq_prog_14_method_15_code_2 15 rfl rfl rfl)
theorem d_Mm_looseIn_80 : decode prog_14_method_15_code 80 = .ok (.istore_n 3, 1) := zo_62 (zd_b zq_prog_14_method_15_code_2 16 rfl rfl rfl)
theorem d_Mm_looseIn_81 : decode prog_14_method_15_code 81 = .ok (.iinc 4 1, 3) := by decide +kernel
theorem d_Mm_looseIn_84 : decode prog_14_method_15_code 84 = .ok (.goto (-73), 3) := zo_167 (d := 255) (e := 183) (zd_b zq_prog_14_method_15_code_2 20 rfl rfl rfl) (zd_b zq_prog_14_method_15_code_2 21 rfl rfl rfl) (zd_b zq_prog_14_method_15_code_2 22 rfl rfl rfl) (by decide +kernel)
theorem d_Mm_looseIn_74 : decode prog_14_method_15_code 74 = .ok (.iconst 1, 1) := zo_4 (zd_b zq_prog_14_method_15_code_2 10 rfl rfl rfl)
theorem d_Mm_looseIn_75 : decode prog_14_method_15_code 75 = .ok (.goto 4, 3) := zo_167 (d := 0) (e := 4) (zd_b zq_prog_14_method_15_code_2 11 rfl rfl rfl) (zd_b zq_prog_14_method_15_code_2 12 rfl rfl rfl) (zd_b zq_prog_14_method_15_code_2 13 rfl rfl rfl) (by decide +kernel)
set_option maxHeartbeats 4000000 in
set_option maxRecDepth 100000 in
theorem L_Mm_looseInW_23 (g : zG) (m mp mf mh mn mt mz mc_ mq mgr ml mi mr mm mu mk mx : Nat) (th pt cl wa co_ fi bu ho lh mg wd fpi fal : Int32) (po de : Int64) (b : Nat) (f : Nat → Int32) (gp : Nat → Int32) (qn : Nat → Nat) (w0 : zW) (n : Nat) (nn z : Nat) (ls : Int32) (K : ∀ (bs : Int32), DV g M_Mm_looseIn (fun o cs1 => ∃ (v9 : Int32) (gp9 : Nat → Int32) (qn9 : Nat → Nat), o = .inl (some (.int v9)) ∧ cs1 = [(m, .inr (12, [.int th, .ref mp, .int pt, .ref mf, .ref mh, .ref mn, .ref mt, .ref mz, .ref mc_, .ref mq, .ref mgr, .int cl, .int wa, .int co_, .int fi, .int bu, .int ho, .ref ml, .ref mi, .ref mr, .int lh, .int mg, .int wd, .int fpi, .int fal, .ref mm, .ref mu, .ref mk, .ref mx, .long po, .long de])), (b, .inl (1, 108, .inl f)), (mgr, .inl (0, 108, .inl gp9)), (mq, .inl (0, 108, .inl (fun k => nI (qn9 k))))]) w0 n 67 [(5, .int bs), (4, .int (nI z)), (3, .int ls), (2, .int (nI nn)), (0, .ref m), (1, .ref b)] [] [(m, .inr (12, [.int th, .ref mp, .int pt, .ref mf, .ref mh, .ref mn, .ref mt, .ref mz, .ref mc_, .ref mq, .ref mgr, .int cl, .int wa, .int co_, .int fi, .int bu, .int ho, .ref ml, .ref mi, .ref mr, .int lh, .int mg, .int wd, .int fpi, .int fal, .ref mm, .ref mu, .ref mk, .ref mx, .long po, .long de])), (b, .inl (1, 108, .inl f)), (mgr, .inl (0, 108, .inl gp)), (mq, .inl (0, 108, .inl (fun k => nI (qn k))))] 0 0) : ∀ (d i : Nat) (bs : Int32), i ≤ 108 → 108 < i + d → DV g M_Mm_looseIn (fun o cs1 => ∃ (v9 : Int32) (gp9 : Nat → Int32) (qn9 : Nat → Nat), o = .inl (some (.int v9)) ∧ cs1 = [(m, .inr (12, [.int th, .ref mp, .int pt, .ref mf, .ref mh, .ref mn, .ref mt, .ref mz, .ref mc_, .ref mq, .ref mgr, .int cl, .int wa, .int co_, .int fi, .int bu, .int ho, .ref ml, .ref mi, .ref mr, .int lh, .int mg, .int wd, .int fpi, .int fal, .ref mm, .ref mu, .ref mk, .ref mx, .long po, .long de])), (b, .inl (1, 108, .inl f)), (mgr, .inl (0, 108, .inl gp9)), (mq, .inl (0, 108, .inl (fun k => nI (qn9 k))))]) w0 n 23 [(6, .int (nI i)), (5, .int bs), (4, .int (nI z)), (3, .int ls), (2, .int (nI nn)), (0, .ref m), (1, .ref b)] [] [(m, .inr (12, [.int th, .ref mp, .int pt, .ref mf, .ref mh, .ref mn, .ref mt, .ref mz, .ref mc_, .ref mq, .ref mgr, .int cl, .int wa, .int co_, .int fi, .int bu, .int ho, .ref ml, .ref mi, .ref mr, .int lh, .int mg, .int wd, .int fpi, .int fal, .ref mm, .ref mu, .ref mk, .ref mx, .long po, .long de])), (b, .inl (1, 108, .inl f)), (mgr, .inl (0, 108, .inl gp)), (mq, .inl (0, 108, .inl (fun k => nI (qn k))))] 0 0 := by
  intro d
  induction d with
  | zero => intro i bs h1 h2 ; exact absurd h2 (by omega)
  | succ d ih =>
    intro i bs h1 h2 
    refine r_iload d_Mm_looseIn_23 0 rfl ?_
    refine r_bipush d_Mm_looseIn_25 (v := 108) (by decide) ?_
    refine r_icmp_ge (tgt := 67) d_Mm_looseIn_27 (by decide) (fun c_27 => ?_) (fun c_27 => ?_)
    · have hn := z_le (a := 108) (by omega) (by decide) c_27
      obtain rfl : i = 108 := by omega
      refine r_lv (lv' := [(5, .int bs), (4, .int (nI z)), (3, .int ls), (2, .int (nI nn)), (0, .ref m), (1, .ref b)]) [1, 2, 3, 4, 5, 6] rfl ?_
      exact K _
    · have hn := z_nle (a := 108) (by omega) (by decide) c_27
      refine r_iload d_Mm_looseIn_30 1 rfl ?_
      refine r_aload_n d_Mm_looseIn_32 rfl 5 rfl ?_
      refine r_get fs_Mm_40 d_Mm_looseIn_33 (q0 := 0) rfl rfl ?_
      refine r_iload d_Mm_looseIn_36 0 rfl ?_
      refine r_iald d_Mm_looseIn_38 (q0 := 2) rfl (vp_in_nI (by omega) (by omega)) (v := gp i) (by rw [nI_clamp (by omega)]) ?_
      refine r_iload d_Mm_looseIn_39 2 rfl ?_
      refine r_icmp_ne (tgt := 57) d_Mm_looseIn_41 (by decide) (fun c_41 => ?_) (fun c_41 => ?_)
      · refine r_iconst d_Mm_looseIn_57 (v := 0) (by decide) ?_
        refine r_iadd d_Mm_looseIn_58 (v := bs + 0) rfl ?_
        refine r_istore (lv' := [(5, .int (bs + 0)), (6, .int (nI i)), (4, .int (nI z)), (3, .int ls), (2, .int (nI nn)), (0, .ref m), (1, .ref b)]) d_Mm_looseIn_59 (by decide) rfl ?_
        refine r_iinc (lv' := [(6, .int (nI (i + 1))), (5, .int (bs + 0)), (4, .int (nI z)), (3, .int ls), (2, .int (nI nn)), (0, .ref m), (1, .ref b)]) (v := nI (i + 1)) d_Mm_looseIn_61 (j := 1) rfl (nI_add _ _) (by decide) rfl ?_
        refine r_goto (tgt := 23) d_Mm_looseIn_64 (by decide) ?_
        exact ih (i + 1) _ (by omega) (by omega)
      · refine r_aload_n d_Mm_looseIn_44 rfl 6 rfl ?_
        refine r_iload d_Mm_looseIn_45 0 rfl ?_
        refine r_callS (As := [.ref b, .int (nI i)]) (rest := [.int bs]) (csC := [(b, .inl (1, 108, .inl f))]) (is := [1]) ln_Mm_127 w_st_Mm_isBesideSand ok_Mm_looseIn_Mm_isBesideSand d_Mm_looseIn_47 (C_Mm_isBesideSandW g b f i (by omega)) rfl rfl (Nat.le_of_ble_eq_true rfl) rfl (by decide) (by omega) (by omega) (fun E cs1 hx => ?_) (fun v cs1 hx => ?_)
        · obtain ⟨v9, -, e1, -⟩ := hx
          cases e1
        · obtain ⟨v9, -, e1, rfl⟩ := hx
          cases e1
          refine ⟨rfl, ?_⟩
          refine r_st (st2 := [.int v9, .int bs]) rfl ?_
          refine r_cs (cs2 := [(m, .inr (12, [.int th, .ref mp, .int pt, .ref mf, .ref mh, .ref mn, .ref mt, .ref mz, .ref mc_, .ref mq, .ref mgr, .int cl, .int wa, .int co_, .int fi, .int bu, .int ho, .ref ml, .ref mi, .ref mr, .int lh, .int mg, .int wd, .int fpi, .int fal, .ref mm, .ref mu, .ref mk, .ref mx, .long po, .long de])), (b, .inl (1, 108, .inl f)), (mgr, .inl (0, 108, .inl gp)), (mq, .inl (0, 108, .inl (fun k => nI (qn k))))]) rfl ?_
          refine r_if_eq (tgt := 57) d_Mm_looseIn_50 (by decide) (fun c_50 => ?_) (fun c_50 => ?_)
          · refine r_iconst d_Mm_looseIn_57 (v := 0) (by decide) ?_
            refine r_iadd d_Mm_looseIn_58 (v := bs + 0) rfl ?_
            refine r_istore (lv' := [(5, .int (bs + 0)), (6, .int (nI i)), (4, .int (nI z)), (3, .int ls), (2, .int (nI nn)), (0, .ref m), (1, .ref b)]) d_Mm_looseIn_59 (by decide) rfl ?_
            refine r_iinc (lv' := [(6, .int (nI (i + 1))), (5, .int (bs + 0)), (4, .int (nI z)), (3, .int ls), (2, .int (nI nn)), (0, .ref m), (1, .ref b)]) (v := nI (i + 1)) d_Mm_looseIn_61 (j := 1) rfl (nI_add _ _) (by decide) rfl ?_
            refine r_goto (tgt := 23) d_Mm_looseIn_64 (by decide) ?_
            exact ih (i + 1) _ (by omega) (by omega)
          · refine r_iconst d_Mm_looseIn_53 (v := 1) (by decide) ?_
            refine r_goto (tgt := 58) d_Mm_looseIn_54 (by decide) ?_
            refine r_iadd d_Mm_looseIn_58 (v := bs + 1) rfl ?_
            refine r_istore (lv' := [(5, .int (bs + 1)), (6, .int (nI i)), (4, .int (nI z)), (3, .int ls), (2, .int (nI nn)), (0, .ref m), (1, .ref b)]) d_Mm_looseIn_59 (by decide) rfl ?_
            refine r_iinc (lv' := [(6, .int (nI (i + 1))), (5, .int (bs + 1)), (4, .int (nI z)), (3, .int ls), (2, .int (nI nn)), (0, .ref m), (1, .ref b)]) (v := nI (i + 1)) d_Mm_looseIn_61 (j := 1) rfl (nI_add _ _) (by decide) rfl ?_
            refine r_goto (tgt := 23) d_Mm_looseIn_64 (by decide) ?_
            exact ih (i + 1) _ (by omega) (by omega)
set_option maxHeartbeats 4000000 in
set_option maxRecDepth 100000 in
theorem L_Mm_looseInW_11 (g : zG) (m mp mf mh mn mt mz mc_ mq mgr ml mi mr mm mu mk mx : Nat) (th pt cl wa co_ fi bu ho lh mg wd fpi fal : Int32) (po de : Int64) (b : Nat) (f : Nat → Int32) (gp : Nat → Int32) (qn : Nat → Nat) (w0 : zW) (n : Nat) (nn : Nat) (hnn : nn ≤ 108) : ∀ (d z : Nat) (ls : Int32) (gp : Nat → Int32) (qn : Nat → Nat), z ≤ nn → nn < z + d → DV g M_Mm_looseIn (fun o cs1 => ∃ (v9 : Int32) (gp9 : Nat → Int32) (qn9 : Nat → Nat), o = .inl (some (.int v9)) ∧ cs1 = [(m, .inr (12, [.int th, .ref mp, .int pt, .ref mf, .ref mh, .ref mn, .ref mt, .ref mz, .ref mc_, .ref mq, .ref mgr, .int cl, .int wa, .int co_, .int fi, .int bu, .int ho, .ref ml, .ref mi, .ref mr, .int lh, .int mg, .int wd, .int fpi, .int fal, .ref mm, .ref mu, .ref mk, .ref mx, .long po, .long de])), (b, .inl (1, 108, .inl f)), (mgr, .inl (0, 108, .inl gp9)), (mq, .inl (0, 108, .inl (fun k => nI (qn9 k))))]) w0 n 11 [(4, .int (nI z)), (3, .int ls), (2, .int (nI nn)), (0, .ref m), (1, .ref b)] [] [(m, .inr (12, [.int th, .ref mp, .int pt, .ref mf, .ref mh, .ref mn, .ref mt, .ref mz, .ref mc_, .ref mq, .ref mgr, .int cl, .int wa, .int co_, .int fi, .int bu, .int ho, .ref ml, .ref mi, .ref mr, .int lh, .int mg, .int wd, .int fpi, .int fal, .ref mm, .ref mu, .ref mk, .ref mx, .long po, .long de])), (b, .inl (1, 108, .inl f)), (mgr, .inl (0, 108, .inl gp)), (mq, .inl (0, 108, .inl (fun k => nI (qn k))))] 0 0 := by
  intro d
  induction d with
  | zero => intro z ls gp qn h1 h2 ; exact absurd h2 (by omega)
  | succ d ih =>
    intro z ls gp qn h1 h2 
    refine r_iload d_Mm_looseIn_11 0 rfl ?_
    refine r_iload_n d_Mm_looseIn_13 rfl 2 rfl ?_
    refine r_icmp_ge (tgt := 87) d_Mm_looseIn_14 (by decide) (fun c_14 => ?_) (fun c_14 => ?_)
    · refine r_iload_n d_Mm_looseIn_87 rfl 1 rfl ?_
      refine r_iret d_Mm_looseIn_88 rfl rfl ?_
      exact ⟨_, _, _, rfl, rfl⟩
    · have hn := z_nle (a := nn) (by omega) (by omega) c_14
      refine r_iconst d_Mm_looseIn_17 (v := 0) (by decide) ?_
      refine r_istore (lv' := [(5, .int 0), (4, .int (nI z)), (3, .int ls), (2, .int (nI nn)), (0, .ref m), (1, .ref b)]) d_Mm_looseIn_18 (by decide) rfl ?_
      refine r_iconst d_Mm_looseIn_20 (v := 0) (by decide) ?_
      refine r_istore (lv' := [(6, .int 0), (5, .int 0), (4, .int (nI z)), (3, .int ls), (2, .int (nI nn)), (0, .ref m), (1, .ref b)]) d_Mm_looseIn_21 (by decide) rfl ?_
      refine L_Mm_looseInW_23 g m mp mf mh mn mt mz mc_ mq mgr ml mi mr mm mu mk mx th pt cl wa co_ fi bu ho lh mg wd fpi fal po de b f gp qn w0 _ nn z ls (fun bs => ?_) (108 + 1) 0 _ (Nat.zero_le _) (by omega)
      refine r_iload_n d_Mm_looseIn_67 rfl 2 rfl ?_
      refine r_iload d_Mm_looseIn_68 0 rfl ?_
      refine r_iconst d_Mm_looseIn_70 (v := 2) (by decide) ?_
      refine r_icmp_ge (tgt := 78) d_Mm_looseIn_71 (by decide) (fun c_71 => ?_) (fun c_71 => ?_)
      · refine r_iconst d_Mm_looseIn_78 (v := 0) (by decide) ?_
        refine r_iadd d_Mm_looseIn_79 (v := ls + 0) rfl ?_
        refine r_istore_n (lv' := [(3, .int (ls + 0)), (5, .int bs), (4, .int (nI z)), (2, .int (nI nn)), (0, .ref m), (1, .ref b)]) d_Mm_looseIn_80 rfl (by decide) rfl ?_
        refine r_iinc (lv' := [(4, .int (nI (z + 1))), (3, .int (ls + 0)), (5, .int bs), (2, .int (nI nn)), (0, .ref m), (1, .ref b)]) (v := nI (z + 1)) d_Mm_looseIn_81 (j := 2) rfl (nI_add _ _) (by decide) rfl ?_
        refine r_goto (tgt := 11) d_Mm_looseIn_84 (by decide) ?_
        refine r_lv (lv' := [(4, .int (nI (z + 1))), (3, .int (ls + 0)), (2, .int (nI nn)), (0, .ref m), (1, .ref b)]) [0, 1, 3, 4, 5] rfl ?_
        exact ih (z + 1) _ _ _ (by omega) (by omega)
      · refine r_iconst d_Mm_looseIn_74 (v := 1) (by decide) ?_
        refine r_goto (tgt := 79) d_Mm_looseIn_75 (by decide) ?_
        refine r_iadd d_Mm_looseIn_79 (v := ls + 1) rfl ?_
        refine r_istore_n (lv' := [(3, .int (ls + 1)), (5, .int bs), (4, .int (nI z)), (2, .int (nI nn)), (0, .ref m), (1, .ref b)]) d_Mm_looseIn_80 rfl (by decide) rfl ?_
        refine r_iinc (lv' := [(4, .int (nI (z + 1))), (3, .int (ls + 1)), (5, .int bs), (2, .int (nI nn)), (0, .ref m), (1, .ref b)]) (v := nI (z + 1)) d_Mm_looseIn_81 (j := 2) rfl (nI_add _ _) (by decide) rfl ?_
        refine r_goto (tgt := 11) d_Mm_looseIn_84 (by decide) ?_
        refine r_lv (lv' := [(4, .int (nI (z + 1))), (3, .int (ls + 1)), (2, .int (nI nn)), (0, .ref m), (1, .ref b)]) [0, 1, 3, 4, 5] rfl ?_
        exact ih (z + 1) _ _ _ (by omega) (by omega)
set_option maxHeartbeats 4000000 in
set_option maxRecDepth 100000 in
theorem C_Mm_looseInW (g : zG) (m mp mf mh mn mt mz mc_ mq mgr ml mi mr mm mu mk mx : Nat) (th pt cl wa co_ fi bu ho lh mg wd fpi fal : Int32) (po de : Int64) (b : Nat) (f : Nat → Int32) (gp : Nat → Int32) (qn : Nat → Nat) : CT g M_Mm_looseIn [.ref m, .ref b] [(m, .inr (12, [.int th, .ref mp, .int pt, .ref mf, .ref mh, .ref mn, .ref mt, .ref mz, .ref mc_, .ref mq, .ref mgr, .int cl, .int wa, .int co_, .int fi, .int bu, .int ho, .ref ml, .ref mi, .ref mr, .int lh, .int mg, .int wd, .int fpi, .int fal, .ref mm, .ref mu, .ref mk, .ref mx, .long po, .long de])), (b, .inl (1, 108, .inl f)), (mgr, .inl (0, 108, .inl gp)), (mq, .inl (0, 108, .inl (fun k => nI (qn k))))] (fun o cs1 => ∃ (v9 : Int32) (gp9 : Nat → Int32) (qn9 : Nat → Nat), o = .inl (some (.int v9)) ∧ cs1 = [(m, .inr (12, [.int th, .ref mp, .int pt, .ref mf, .ref mh, .ref mn, .ref mt, .ref mz, .ref mc_, .ref mq, .ref mgr, .int cl, .int wa, .int co_, .int fi, .int bu, .int ho, .ref ml, .ref mi, .ref mr, .int lh, .int mg, .int wd, .int fpi, .int fal, .ref mm, .ref mu, .ref mk, .ref mx, .long po, .long de])), (b, .inl (1, 108, .inl f)), (mgr, .inl (0, 108, .inl gp9)), (mq, .inl (0, 108, .inl (fun k => nI (qn9 k))))]) 0 0 := by
  refine z_of (by decide) rfl (Nat.le_of_ble_eq_true rfl) (fun w0 => ?_)
  refine r_lvE (lv2 := [(0, .ref m), (1, .ref b)]) rfl ?_
  refine r_aload_n d_Mm_looseIn_0 rfl 0 rfl ?_
  refine r_aload_n d_Mm_looseIn_1 rfl 1 rfl ?_
  refine r_callV (As := [.ref b]) (rest := []) (csC := [(m, .inr (12, [.int th, .ref mp, .int pt, .ref mf, .ref mh, .ref mn, .ref mt, .ref mz, .ref mc_, .ref mq, .ref mgr, .int cl, .int wa, .int co_, .int fi, .int bu, .int ho, .ref ml, .ref mi, .ref mr, .int lh, .int mg, .int wd, .int fpi, .int fal, .ref mm, .ref mu, .ref mk, .ref mx, .long po, .long de])), (b, .inl (1, 108, .inl f)), (mgr, .inl (0, 108, .inl gp)), (mq, .inl (0, 108, .inl (fun k => nI (qn k))))]) (is := [0, 1, 2, 3]) (q0 := 0) rfl rfl ln_Mm_123 w_im_Mm_groupIn w_se_Mm_groupIn ok_Mm_looseIn_Mm_groupIn d_Mm_looseIn_2 (C_Mm_groupInW g m mp mf mh mn mt mz mc_ mq mgr ml mi mr mm mu mk mx th pt cl wa co_ fi bu ho lh mg wd fpi fal po de b f gp qn) rfl rfl (Nat.le_of_ble_eq_true rfl) rfl (by decide) (by omega) (by omega) (fun E cs1 hx => ?_) (fun v cs1 hx => ?_)
  · obtain ⟨nn9, gp9, qn9, -, e1, -⟩ := hx
    cases e1
  · obtain ⟨nn9, gp9, qn9, hnn9, e1, rfl⟩ := hx
    cases e1
    refine ⟨rfl, ?_⟩
    refine r_st (st2 := [.int (nI nn9)]) rfl ?_
    refine r_cs (cs2 := [(m, .inr (12, [.int th, .ref mp, .int pt, .ref mf, .ref mh, .ref mn, .ref mt, .ref mz, .ref mc_, .ref mq, .ref mgr, .int cl, .int wa, .int co_, .int fi, .int bu, .int ho, .ref ml, .ref mi, .ref mr, .int lh, .int mg, .int wd, .int fpi, .int fal, .ref mm, .ref mu, .ref mk, .ref mx, .long po, .long de])), (b, .inl (1, 108, .inl f)), (mgr, .inl (0, 108, .inl gp9)), (mq, .inl (0, 108, .inl (fun k => nI (qn9 k))))]) rfl ?_
    refine r_istore_n (lv' := [(2, .int (nI nn9)), (0, .ref m), (1, .ref b)]) d_Mm_looseIn_5 rfl (by decide) rfl ?_
    refine r_iconst d_Mm_looseIn_6 (v := 0) (by decide) ?_
    refine r_istore_n (lv' := [(3, .int 0), (2, .int (nI nn9)), (0, .ref m), (1, .ref b)]) d_Mm_looseIn_7 rfl (by decide) rfl ?_
    refine r_iconst d_Mm_looseIn_8 (v := 0) (by decide) ?_
    refine r_istore (lv' := [(4, .int 0), (3, .int 0), (2, .int (nI nn9)), (0, .ref m), (1, .ref b)]) d_Mm_looseIn_9 (by decide) rfl ?_
    exact L_Mm_looseInW_11 g m mp mf mh mn mt mz mc_ mq mgr ml mi mr mm mu mk mx th pt cl wa co_ fi bu ho lh mg wd fpi fal po de b f gp qn w0 _ nn9 hnn9 (nn9 + 1) 0 _ _ _ (Nat.zero_le _) (by omega)
set_option maxHeartbeats 4000000 in
set_option maxRecDepth 100000 in
theorem C_Mm_coresW (g : zG) (m mp mf mh mn mt mz mc_ mq mgr ml mi mr mm mu mk mx : Nat) (th pt cl wa co_ fi bu ho lh mg wd fpi fal : Int32) (po de : Int64) (f gp : Nat → Int32) (qn : Nat → Nat) : CT g M_Mm_cores [.ref m] [(m, .inr (12, [.int th, .ref mp, .int pt, .ref mf, .ref mh, .ref mn, .ref mt, .ref mz, .ref mc_, .ref mq, .ref mgr, .int cl, .int wa, .int co_, .int fi, .int bu, .int ho, .ref ml, .ref mi, .ref mr, .int lh, .int mg, .int wd, .int fpi, .int fal, .ref mm, .ref mu, .ref mk, .ref mx, .long po, .long de])), (mp, .inl (1, 108, .inl f)), (mgr, .inl (0, 108, .inl gp)), (mq, .inl (0, 108, .inl (fun k => nI (qn k))))] (fun o cs1 => ∃ (v9 : Int32) (gp9 : Nat → Int32) (qn9 : Nat → Nat), o = .inl (some (.int v9)) ∧ cs1 = [(m, .inr (12, [.int 0, .ref mp, .int pt, .ref mf, .ref mh, .ref mn, .ref mt, .ref mz, .ref mc_, .ref mq, .ref mgr, .int cl, .int wa, .int co_, .int fi, .int bu, .int ho, .ref ml, .ref mi, .ref mr, .int lh, .int mg, .int wd, .int fpi, .int fal, .ref mm, .ref mu, .ref mk, .ref mx, .long po, .long de])), (mp, .inl (1, 108, .inl f)), (mgr, .inl (0, 108, .inl gp9)), (mq, .inl (0, 108, .inl (fun k => nI (qn9 k))))]) 0 0 := by
  refine z_of (by decide) rfl (Nat.le_of_ble_eq_true rfl) (fun w0 => ?_)
  refine r_lvE (lv2 := [(0, .ref m)]) rfl ?_
  refine r_aload_n d_Mm_cores_0 rfl 0 rfl ?_
  refine r_iconst d_Mm_cores_1 (v := 0) (by decide) ?_
  refine r_put fp_Mm_84 d_Mm_cores_2 (fun h => nomatch h) rfl rfl (q0 := 0) rfl (Nat.le_of_ble_eq_true rfl) (cs' := [(m, .inr (12, [.int 0, .ref mp, .int pt, .ref mf, .ref mh, .ref mn, .ref mt, .ref mz, .ref mc_, .ref mq, .ref mgr, .int cl, .int wa, .int co_, .int fi, .int bu, .int ho, .ref ml, .ref mi, .ref mr, .int lh, .int mg, .int wd, .int fpi, .int fal, .ref mm, .ref mu, .ref mk, .ref mx, .long po, .long de])), (mp, .inl (1, 108, .inl f)), (mgr, .inl (0, 108, .inl gp)), (mq, .inl (0, 108, .inl (fun k => nI (qn k))))]) rfl ?_
  refine r_aload_n d_Mm_cores_5 rfl 0 rfl ?_
  refine r_aload_n d_Mm_cores_6 rfl 0 rfl ?_
  refine r_get fs_Mm_7 d_Mm_cores_7 (q0 := 0) rfl rfl ?_
  refine r_callV (As := [.ref mp]) (rest := []) (csC := [(m, .inr (12, [.int 0, .ref mp, .int pt, .ref mf, .ref mh, .ref mn, .ref mt, .ref mz, .ref mc_, .ref mq, .ref mgr, .int cl, .int wa, .int co_, .int fi, .int bu, .int ho, .ref ml, .ref mi, .ref mr, .int lh, .int mg, .int wd, .int fpi, .int fal, .ref mm, .ref mu, .ref mk, .ref mx, .long po, .long de])), (mp, .inl (1, 108, .inl f)), (mgr, .inl (0, 108, .inl gp)), (mq, .inl (0, 108, .inl (fun k => nI (qn k))))]) (is := [0, 1, 2, 3]) (q0 := 0) rfl rfl ln_Mm_123 w_im_Mm_groupIn w_se_Mm_groupIn ok_Mm_cores_Mm_groupIn d_Mm_cores_10 (C_Mm_groupInW g m mp mf mh mn mt mz mc_ mq mgr ml mi mr mm mu mk mx 0 pt cl wa co_ fi bu ho lh mg wd fpi fal po de mp f gp qn) rfl rfl (Nat.le_of_ble_eq_true rfl) rfl (by decide) (by omega) (by omega) (fun E cs1 hx => ?_) (fun v cs1 hx => ?_)
  · obtain ⟨nn9, gp9, qn9, -, e1, -⟩ := hx
    cases e1
  · obtain ⟨nn9, gp9, qn9, hnn9, e1, rfl⟩ := hx
    cases e1
    refine ⟨rfl, ?_⟩
    refine r_st (st2 := [.int (nI nn9)]) rfl ?_
    refine r_cs (cs2 := [(m, .inr (12, [.int 0, .ref mp, .int pt, .ref mf, .ref mh, .ref mn, .ref mt, .ref mz, .ref mc_, .ref mq, .ref mgr, .int cl, .int wa, .int co_, .int fi, .int bu, .int ho, .ref ml, .ref mi, .ref mr, .int lh, .int mg, .int wd, .int fpi, .int fal, .ref mm, .ref mu, .ref mk, .ref mx, .long po, .long de])), (mp, .inl (1, 108, .inl f)), (mgr, .inl (0, 108, .inl gp9)), (mq, .inl (0, 108, .inl (fun k => nI (qn9 k))))]) rfl ?_
    refine r_iret d_Mm_cores_13 rfl rfl ?_
    exact ⟨_, _, _, rfl, rfl⟩
set_option maxHeartbeats 4000000 in
set_option maxRecDepth 100000 in
theorem C_Mm_looseW (g : zG) (m mp mf mh mn mt mz mc_ mq mgr ml mi mr mm mu mk mx : Nat) (th pt cl wa co_ fi bu ho lh mg wd fpi fal : Int32) (po de : Int64) (f gp : Nat → Int32) (qn : Nat → Nat) : CT g M_Mm_loose [.ref m] [(m, .inr (12, [.int th, .ref mp, .int pt, .ref mf, .ref mh, .ref mn, .ref mt, .ref mz, .ref mc_, .ref mq, .ref mgr, .int cl, .int wa, .int co_, .int fi, .int bu, .int ho, .ref ml, .ref mi, .ref mr, .int lh, .int mg, .int wd, .int fpi, .int fal, .ref mm, .ref mu, .ref mk, .ref mx, .long po, .long de])), (mp, .inl (1, 108, .inl f)), (mgr, .inl (0, 108, .inl gp)), (mq, .inl (0, 108, .inl (fun k => nI (qn k))))] (fun o cs1 => ∃ (v9 : Int32) (gp9 : Nat → Int32) (qn9 : Nat → Nat), o = .inl (some (.int v9)) ∧ cs1 = [(m, .inr (12, [.int 0, .ref mp, .int pt, .ref mf, .ref mh, .ref mn, .ref mt, .ref mz, .ref mc_, .ref mq, .ref mgr, .int cl, .int wa, .int co_, .int fi, .int bu, .int ho, .ref ml, .ref mi, .ref mr, .int lh, .int mg, .int wd, .int fpi, .int fal, .ref mm, .ref mu, .ref mk, .ref mx, .long po, .long de])), (mp, .inl (1, 108, .inl f)), (mgr, .inl (0, 108, .inl gp9)), (mq, .inl (0, 108, .inl (fun k => nI (qn9 k))))]) 0 0 := by
  refine z_of (by decide) rfl (Nat.le_of_ble_eq_true rfl) (fun w0 => ?_)
  refine r_lvE (lv2 := [(0, .ref m)]) rfl ?_
  refine r_aload_n d_Mm_loose_0 rfl 0 rfl ?_
  refine r_iconst d_Mm_loose_1 (v := 0) (by decide) ?_
  refine r_put fp_Mm_84 d_Mm_loose_2 (fun h => nomatch h) rfl rfl (q0 := 0) rfl (Nat.le_of_ble_eq_true rfl) (cs' := [(m, .inr (12, [.int 0, .ref mp, .int pt, .ref mf, .ref mh, .ref mn, .ref mt, .ref mz, .ref mc_, .ref mq, .ref mgr, .int cl, .int wa, .int co_, .int fi, .int bu, .int ho, .ref ml, .ref mi, .ref mr, .int lh, .int mg, .int wd, .int fpi, .int fal, .ref mm, .ref mu, .ref mk, .ref mx, .long po, .long de])), (mp, .inl (1, 108, .inl f)), (mgr, .inl (0, 108, .inl gp)), (mq, .inl (0, 108, .inl (fun k => nI (qn k))))]) rfl ?_
  refine r_aload_n d_Mm_loose_5 rfl 0 rfl ?_
  refine r_aload_n d_Mm_loose_6 rfl 0 rfl ?_
  refine r_get fs_Mm_7 d_Mm_loose_7 (q0 := 0) rfl rfl ?_
  refine r_callV (As := [.ref mp]) (rest := []) (csC := [(m, .inr (12, [.int 0, .ref mp, .int pt, .ref mf, .ref mh, .ref mn, .ref mt, .ref mz, .ref mc_, .ref mq, .ref mgr, .int cl, .int wa, .int co_, .int fi, .int bu, .int ho, .ref ml, .ref mi, .ref mr, .int lh, .int mg, .int wd, .int fpi, .int fal, .ref mm, .ref mu, .ref mk, .ref mx, .long po, .long de])), (mp, .inl (1, 108, .inl f)), (mgr, .inl (0, 108, .inl gp)), (mq, .inl (0, 108, .inl (fun k => nI (qn k))))]) (is := [0, 1, 2, 3]) (q0 := 0) rfl rfl ln_Mm_131 w_im_Mm_looseIn w_se_Mm_looseIn ok_Mm_loose_Mm_looseIn d_Mm_loose_10 (C_Mm_looseInW g m mp mf mh mn mt mz mc_ mq mgr ml mi mr mm mu mk mx 0 pt cl wa co_ fi bu ho lh mg wd fpi fal po de mp f gp qn) rfl rfl (Nat.le_of_ble_eq_true rfl) rfl (by decide) (by omega) (by omega) (fun E cs1 hx => ?_) (fun v cs1 hx => ?_)
  · obtain ⟨v9, gp9, qn9, e1, -⟩ := hx
    cases e1
  · obtain ⟨v9, gp9, qn9, e1, rfl⟩ := hx
    cases e1
    refine ⟨rfl, ?_⟩
    refine r_st (st2 := [.int v9]) rfl ?_
    refine r_cs (cs2 := [(m, .inr (12, [.int 0, .ref mp, .int pt, .ref mf, .ref mh, .ref mn, .ref mt, .ref mz, .ref mc_, .ref mq, .ref mgr, .int cl, .int wa, .int co_, .int fi, .int bu, .int ho, .ref ml, .ref mi, .ref mr, .int lh, .int mg, .int wd, .int fpi, .int fal, .ref mm, .ref mu, .ref mk, .ref mx, .long po, .long de])), (mp, .inl (1, 108, .inl f)), (mgr, .inl (0, 108, .inl gp9)), (mq, .inl (0, 108, .inl (fun k => nI (qn9 k))))]) rfl ?_
    refine r_iret d_Mm_loose_13 rfl rfl ?_
    exact ⟨_, _, _, rfl, rfl⟩
set_option maxHeartbeats 4000000 in
set_option maxRecDepth 100000 in
theorem C_Mm_isFedW (g : zG) (m mp mf mh mn mt mz mc_ mq mgr ml mi mr mm mu mk mx : Nat) (th pt cl wa co_ fi bu ho lh mg wd fpi fal : Int32) (po de : Int64) (f fl he nx mtt fz ic : Nat → Int32) (qn : Nat → Nat) (x y : Nat) (hx0 : x < 12) (hy0 : y < 9) (h : Int32) (hh : 1200 ≤ h ∧ h ≤ 1500) : CT g M_Mm_isFed [.ref m, .int (nI x), .int (nI y), .int h] [(m, .inr (12, [.int th, .ref mp, .int pt, .ref mf, .ref mh, .ref mn, .ref mt, .ref mz, .ref mc_, .ref mq, .ref mgr, .int cl, .int wa, .int co_, .int fi, .int bu, .int ho, .ref ml, .ref mi, .ref mr, .int lh, .int mg, .int wd, .int fpi, .int fal, .ref mm, .ref mu, .ref mk, .ref mx, .long po, .long de])), (mp, .inl (1, 108, .inl f)), (mf, .inl (0, 108, .inl fl)), (mh, .inl (0, 108, .inl he)), (mt, .inl (0, 108, .inl mtt)), (mz, .inl (0, 108, .inl fz)), (mn, .inl (0, 108, .inl nx)), (mc_, .inl (2, 108, .inl ic)), (mq, .inl (0, 108, .inl (fun k => nI (qn k))))] (fun o cs1 => ∃ (v9 th9 : Int32) (fl9 he9 nx9 mt9 fz9 ic9 : Nat → Int32) (qn9 : Nat → Nat), (v9 = 0 ∨ v9 = 1) ∧ o = .inl (some (.int v9)) ∧ cs1 = [(m, .inr (12, [.int th9, .ref mp, .int pt, .ref mf, .ref mh, .ref mn, .ref mt, .ref mz, .ref mc_, .ref mq, .ref mgr, .int cl, .int wa, .int co_, .int fi, .int bu, .int ho, .ref ml, .ref mi, .ref mr, .int lh, .int mg, .int wd, .int fpi, .int fal, .ref mm, .ref mu, .ref mk, .ref mx, .long po, .long de])), (mp, .inl (1, 108, .inl f)), (mf, .inl (0, 108, .inl fl9)), (mh, .inl (0, 108, .inl he9)), (mt, .inl (0, 108, .inl mt9)), (mz, .inl (0, 108, .inl fz9)), (mn, .inl (0, 108, .inl nx9)), (mc_, .inl (2, 108, .inl ic9)), (mq, .inl (0, 108, .inl (fun k => nI (qn9 k))))]) 0 0 := by
  refine z_of (by decide) rfl (Nat.le_of_ble_eq_true rfl) (fun w0 => ?_)
  refine r_lvE (lv2 := [(0, .ref m), (1, .int (nI x)), (2, .int (nI y)), (3, .int h)]) rfl ?_
  refine r_aload_n d_Mm_isFed_0 rfl 0 rfl ?_
  refine r_iconst d_Mm_isFed_1 (v := 0) (by decide) ?_
  refine r_put fp_Mm_84 d_Mm_isFed_2 (fun h => nomatch h) rfl rfl (q0 := 0) rfl (Nat.le_of_ble_eq_true rfl) (cs' := [(m, .inr (12, [.int 0, .ref mp, .int pt, .ref mf, .ref mh, .ref mn, .ref mt, .ref mz, .ref mc_, .ref mq, .ref mgr, .int cl, .int wa, .int co_, .int fi, .int bu, .int ho, .ref ml, .ref mi, .ref mr, .int lh, .int mg, .int wd, .int fpi, .int fal, .ref mm, .ref mu, .ref mk, .ref mx, .long po, .long de])), (mp, .inl (1, 108, .inl f)), (mf, .inl (0, 108, .inl fl)), (mh, .inl (0, 108, .inl he)), (mt, .inl (0, 108, .inl mtt)), (mz, .inl (0, 108, .inl fz)), (mn, .inl (0, 108, .inl nx)), (mc_, .inl (2, 108, .inl ic)), (mq, .inl (0, 108, .inl (fun k => nI (qn k))))]) rfl ?_
  refine r_aload_n d_Mm_isFed_5 rfl 0 rfl ?_
  refine r_iload_n d_Mm_isFed_6 rfl 1 rfl ?_
  refine r_iload_n d_Mm_isFed_7 rfl 2 rfl ?_
  refine r_callS (As := [.int (nI x), .int (nI y)]) (rest := [.ref m]) (csC := []) (is := []) ln_Mm_91 w_st_Mm_isCell ok_Mm_isFed_Mm_isCell d_Mm_isFed_8 (C_Mm_isCell g (nI x) (nI y)) rfl rfl (Nat.le_of_ble_eq_true rfl) rfl (by decide) (by omega) (by omega) (fun E cs1 hx => ?_) (fun v cs1 hx => ?_)
  · exact absurd hx.1 (by simp)
  · obtain ⟨e1, rfl⟩ := hx
    rw [if_pos (z_cellN (by omega) (by omega))] at e1
    cases e1
    refine ⟨rfl, ?_⟩
    refine r_st (st2 := [.int 1, .ref m]) rfl ?_
    refine r_cs (cs2 := [(m, .inr (12, [.int 0, .ref mp, .int pt, .ref mf, .ref mh, .ref mn, .ref mt, .ref mz, .ref mc_, .ref mq, .ref mgr, .int cl, .int wa, .int co_, .int fi, .int bu, .int ho, .ref ml, .ref mi, .ref mr, .int lh, .int mg, .int wd, .int fpi, .int fal, .ref mm, .ref mu, .ref mk, .ref mx, .long po, .long de])), (mp, .inl (1, 108, .inl f)), (mf, .inl (0, 108, .inl fl)), (mh, .inl (0, 108, .inl he)), (mt, .inl (0, 108, .inl mtt)), (mz, .inl (0, 108, .inl fz)), (mn, .inl (0, 108, .inl nx)), (mc_, .inl (2, 108, .inl ic)), (mq, .inl (0, 108, .inl (fun k => nI (qn k))))]) rfl ?_
    refine r_if_ne (tgt := 18) d_Mm_isFed_11 (by decide) (fun c_11 => ?_) (fun c_11 => ?_)
    · refine r_iconst d_Mm_isFed_18 (v := 0) (by decide) ?_
      refine r_iconst d_Mm_isFed_19 (v := 1) (by decide) ?_
      refine r_callV (As := [.int 0, .int 1]) (rest := []) (csC := [(m, .inr (12, [.int 0, .ref mp, .int pt, .ref mf, .ref mh, .ref mn, .ref mt, .ref mz, .ref mc_, .ref mq, .ref mgr, .int cl, .int wa, .int co_, .int fi, .int bu, .int ho, .ref ml, .ref mi, .ref mr, .int lh, .int mg, .int wd, .int fpi, .int fal, .ref mm, .ref mu, .ref mk, .ref mx, .long po, .long de]))]) (is := [0]) (q0 := 0) rfl rfl ln_Mm_103 w_im_Mm_fails w_se_Mm_fails ok_Mm_isFed_Mm_fails d_Mm_isFed_20 (C_Mm_fails0 g m mp mf mh mn mt mz mc_ mq mgr ml mi mr mm mu mk mx th pt cl wa co_ fi bu ho lh mg wd fpi fal po de 1) rfl rfl (Nat.le_of_ble_eq_true rfl) rfl (by decide) (by omega) (by omega) (fun E cs1 hx => ?_) (fun v cs1 hx => ?_)
      · exact absurd hx.1 (by simp)
      · obtain ⟨e1, rfl⟩ := hx
        cases e1
        refine ⟨rfl, ?_⟩
        refine r_st (st2 := [.int 0]) rfl ?_
        refine r_cs (cs2 := [(m, .inr (12, [.int 0, .ref mp, .int pt, .ref mf, .ref mh, .ref mn, .ref mt, .ref mz, .ref mc_, .ref mq, .ref mgr, .int cl, .int wa, .int co_, .int fi, .int bu, .int ho, .ref ml, .ref mi, .ref mr, .int lh, .int mg, .int wd, .int fpi, .int fal, .ref mm, .ref mu, .ref mk, .ref mx, .long po, .long de])), (mp, .inl (1, 108, .inl f)), (mf, .inl (0, 108, .inl fl)), (mh, .inl (0, 108, .inl he)), (mt, .inl (0, 108, .inl mtt)), (mz, .inl (0, 108, .inl fz)), (mn, .inl (0, 108, .inl nx)), (mc_, .inl (2, 108, .inl ic)), (mq, .inl (0, 108, .inl (fun k => nI (qn k))))]) rfl ?_
        refine r_if_ne (tgt := 38) d_Mm_isFed_23 (by decide) (fun c_23 => ?_) (fun c_23 => ?_)
        · exact absurd c_23 (by decide)
        · refine r_aload_n d_Mm_isFed_26 rfl 0 rfl ?_
          refine r_iload_n d_Mm_isFed_27 rfl 3 rfl ?_
          refine r_callS (As := [.int h]) (rest := [.ref m]) (csC := []) (is := []) ln_Mm_163 w_st_Mm_noHeat ok_Mm_isFed_Mm_noHeat d_Mm_isFed_28 (C_Mm_noHeat0 g h hh) rfl rfl (Nat.le_of_ble_eq_true rfl) rfl (by decide) (by omega) (by omega) (fun E cs1 hx => ?_) (fun v cs1 hx => ?_)
          · exact absurd hx.1 (by simp)
          · obtain ⟨e1, rfl⟩ := hx
            cases e1
            refine ⟨rfl, ?_⟩
            refine r_st (st2 := [.int 0, .ref m]) rfl ?_
            refine r_cs (cs2 := [(m, .inr (12, [.int 0, .ref mp, .int pt, .ref mf, .ref mh, .ref mn, .ref mt, .ref mz, .ref mc_, .ref mq, .ref mgr, .int cl, .int wa, .int co_, .int fi, .int bu, .int ho, .ref ml, .ref mi, .ref mr, .int lh, .int mg, .int wd, .int fpi, .int fal, .ref mm, .ref mu, .ref mk, .ref mx, .long po, .long de])), (mp, .inl (1, 108, .inl f)), (mf, .inl (0, 108, .inl fl)), (mh, .inl (0, 108, .inl he)), (mt, .inl (0, 108, .inl mtt)), (mz, .inl (0, 108, .inl fz)), (mn, .inl (0, 108, .inl nx)), (mc_, .inl (2, 108, .inl ic)), (mq, .inl (0, 108, .inl (fun k => nI (qn k))))]) rfl ?_
            refine r_iconst d_Mm_isFed_31 (v := 2) (by decide) ?_
            refine r_callV (As := [.int 0, .int 2]) (rest := []) (csC := [(m, .inr (12, [.int 0, .ref mp, .int pt, .ref mf, .ref mh, .ref mn, .ref mt, .ref mz, .ref mc_, .ref mq, .ref mgr, .int cl, .int wa, .int co_, .int fi, .int bu, .int ho, .ref ml, .ref mi, .ref mr, .int lh, .int mg, .int wd, .int fpi, .int fal, .ref mm, .ref mu, .ref mk, .ref mx, .long po, .long de]))]) (is := [0]) (q0 := 0) rfl rfl ln_Mm_103 w_im_Mm_fails w_se_Mm_fails ok_Mm_isFed_Mm_fails d_Mm_isFed_32 (C_Mm_fails0 g m mp mf mh mn mt mz mc_ mq mgr ml mi mr mm mu mk mx th pt cl wa co_ fi bu ho lh mg wd fpi fal po de 2) rfl rfl (Nat.le_of_ble_eq_true rfl) rfl (by decide) (by omega) (by omega) (fun E cs1 hx => ?_) (fun v cs1 hx => ?_)
            · exact absurd hx.1 (by simp)
            · obtain ⟨e1, rfl⟩ := hx
              cases e1
              refine ⟨rfl, ?_⟩
              refine r_st (st2 := [.int 0]) rfl ?_
              refine r_cs (cs2 := [(m, .inr (12, [.int 0, .ref mp, .int pt, .ref mf, .ref mh, .ref mn, .ref mt, .ref mz, .ref mc_, .ref mq, .ref mgr, .int cl, .int wa, .int co_, .int fi, .int bu, .int ho, .ref ml, .ref mi, .ref mr, .int lh, .int mg, .int wd, .int fpi, .int fal, .ref mm, .ref mu, .ref mk, .ref mx, .long po, .long de])), (mp, .inl (1, 108, .inl f)), (mf, .inl (0, 108, .inl fl)), (mh, .inl (0, 108, .inl he)), (mt, .inl (0, 108, .inl mtt)), (mz, .inl (0, 108, .inl fz)), (mn, .inl (0, 108, .inl nx)), (mc_, .inl (2, 108, .inl ic)), (mq, .inl (0, 108, .inl (fun k => nI (qn k))))]) rfl ?_
              refine r_if_eq (tgt := 40) d_Mm_isFed_35 (by decide) (fun c_35 => ?_) (fun c_35 => ?_)
              · refine r_aload_n d_Mm_isFed_40 rfl 0 rfl ?_
                refine r_aload_n d_Mm_isFed_41 rfl 0 rfl ?_
                refine r_get fs_Mm_7 d_Mm_isFed_42 (q0 := 0) rfl rfl ?_
                refine r_iload_n d_Mm_isFed_45 rfl 3 rfl ?_
                refine r_callV (As := [.ref mp, .int h]) (rest := []) (csC := [(m, .inr (12, [.int 0, .ref mp, .int pt, .ref mf, .ref mh, .ref mn, .ref mt, .ref mz, .ref mc_, .ref mq, .ref mgr, .int cl, .int wa, .int co_, .int fi, .int bu, .int ho, .ref ml, .ref mi, .ref mr, .int lh, .int mg, .int wd, .int fpi, .int fal, .ref mm, .ref mu, .ref mk, .ref mx, .long po, .long de])), (mp, .inl (1, 108, .inl f)), (mf, .inl (0, 108, .inl fl)), (mh, .inl (0, 108, .inl he)), (mt, .inl (0, 108, .inl mtt)), (mz, .inl (0, 108, .inl fz)), (mn, .inl (0, 108, .inl nx)), (mc_, .inl (2, 108, .inl ic)), (mq, .inl (0, 108, .inl (fun k => nI (qn k))))]) (is := [0, 1, 2, 3, 4, 5, 6, 7, 8]) (q0 := 0) rfl rfl ln_Mm_170 w_im_Mm_feed w_se_Mm_feed ok_Mm_isFed_Mm_feed d_Mm_isFed_46 (C_Mm_feedW g m mp mf mh mn mt mz mc_ mq mgr ml mi mr mm mu mk mx 0 pt cl wa co_ fi bu ho lh mg wd fpi fal po de mp f fl he nx mtt fz ic qn h) rfl rfl (Nat.le_of_ble_eq_true rfl) rfl (by decide) (by omega) (by omega) (fun E cs1 hx => ?_) (fun v cs1 hx => ?_)
                · obtain ⟨fl9, he9, nx9, mt9, fz9, ic9, qn9, -, e1, -⟩ := hx
                  cases e1
                · obtain ⟨fl9, he9, nx9, mt9, fz9, ic9, qn9, hb9, e1, rfl⟩ := hx
                  cases e1
                  refine ⟨rfl, ?_⟩
                  refine r_st (st2 := []) rfl ?_
                  refine r_cs (cs2 := [(m, .inr (12, [.int 0, .ref mp, .int pt, .ref mf, .ref mh, .ref mn, .ref mt, .ref mz, .ref mc_, .ref mq, .ref mgr, .int cl, .int wa, .int co_, .int fi, .int bu, .int ho, .ref ml, .ref mi, .ref mr, .int lh, .int mg, .int wd, .int fpi, .int fal, .ref mm, .ref mu, .ref mk, .ref mx, .long po, .long de])), (mp, .inl (1, 108, .inl f)), (mf, .inl (0, 108, .inl fl9)), (mh, .inl (0, 108, .inl he9)), (mt, .inl (0, 108, .inl mt9)), (mz, .inl (0, 108, .inl fz9)), (mn, .inl (0, 108, .inl nx9)), (mc_, .inl (2, 108, .inl ic9)), (mq, .inl (0, 108, .inl (fun k => nI (qn9 k))))]) rfl ?_
                  refine r_aload_n d_Mm_isFed_49 rfl 0 rfl ?_
                  refine r_get fs_Mm_33 d_Mm_isFed_50 (q0 := 0) rfl rfl ?_
                  refine r_bipush d_Mm_isFed_53 (v := 12) (by decide) ?_
                  refine r_iload_n d_Mm_isFed_55 rfl 2 rfl ?_
                  refine r_imul d_Mm_isFed_56 (v := nI (12 * y)) (pk_mul _ _) ?_
                  refine r_iload_n d_Mm_isFed_57 rfl 1 rfl ?_
                  refine r_iadd d_Mm_isFed_58 (v := nI (12 * y + x)) (nI_add _ _) ?_
                  refine r_zald d_Mm_isFed_59 (q0 := 7) rfl (vp_in_nI (by omega) (by omega)) (v := ic9 (12 * y + x)) (by rw [nI_clamp (by omega)]) ?_
                  refine r_iret d_Mm_isFed_60 rfl (z_nar01 (hb9 _ (by omega))) ?_
                  exact ⟨_, _, _, _, _, _, _, _, _, hb9 _ (by omega), rfl, rfl⟩
              · exact absurd c_35 (by decide)
    · exact absurd c_11 (by decide)
