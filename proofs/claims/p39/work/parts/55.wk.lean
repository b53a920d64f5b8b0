theorem upd_back {f : Nat → Int32} {i : Nat} {v w : Int32} (h : f i = w) : upd (upd f i v) i w = f := by
  funext k
  unfold upd
  split
  · rename_i q; rw [q, h]
  · rfl
set_option maxHeartbeats 4000000 in
set_option maxRecDepth 100000 in
theorem C_Mm_filledInW (g : zG) (m mp mf mh mn mt mz mc_ mq mgr ml mi mr mm mu mk mx : Nat) (th pt cl wa co_ fi bu ho lh mg wd fpi fal : Int32) (po de : Int64) (f fl he nx mtt fz ic : Nat → Int32) (qn : Nat → Nat) (x y : Nat) (hx0 : x < 12) (hy0 : y < 9) : CT g M_Mm_filledIn [.ref m, .int (nI x), .int (nI y)] [(m, .inr (12, [.int th, .ref mp, .int pt, .ref mf, .ref mh, .ref mn, .ref mt, .ref mz, .ref mc_, .ref mq, .ref mgr, .int cl, .int wa, .int co_, .int fi, .int bu, .int ho, .ref ml, .ref mi, .ref mr, .int lh, .int mg, .int wd, .int fpi, .int fal, .ref mm, .ref mu, .ref mk, .ref mx, .long po, .long de])), (mp, .inl (1, 108, .inl f)), (mf, .inl (0, 108, .inl fl)), (mh, .inl (0, 108, .inl he)), (mt, .inl (0, 108, .inl mtt)), (mz, .inl (0, 108, .inl fz)), (mn, .inl (0, 108, .inl nx)), (mc_, .inl (2, 108, .inl ic)), (mq, .inl (0, 108, .inl (fun k => nI (qn k))))] (fun o cs1 => ∃ (v9 th9 : Int32) (fl9 he9 nx9 mt9 fz9 ic9 : Nat → Int32) (qn9 : Nat → Nat), o = .inl (some (.int v9)) ∧ cs1 = [(m, .inr (12, [.int th9, .ref mp, .int pt, .ref mf, .ref mh, .ref mn, .ref mt, .ref mz, .ref mc_, .ref mq, .ref mgr, .int cl, .int wa, .int co_, .int fi, .int bu, .int ho, .ref ml, .ref mi, .ref mr, .int lh, .int mg, .int wd, .int fpi, .int fal, .ref mm, .ref mu, .ref mk, .ref mx, .long po, .long de])), (mp, .inl (1, 108, .inl f)), (mf, .inl (0, 108, .inl fl9)), (mh, .inl (0, 108, .inl he9)), (mt, .inl (0, 108, .inl mt9)), (mz, .inl (0, 108, .inl fz9)), (mn, .inl (0, 108, .inl nx9)), (mc_, .inl (2, 108, .inl ic9)), (mq, .inl (0, 108, .inl (fun k => nI (qn9 k))))]) 0 0 := by
  refine z_of (by decide) rfl (Nat.le_of_ble_eq_true rfl) (fun w0 => ?_)
  refine r_lvE (lv2 := [(0, .ref m), (1, .int (nI x)), (2, .int (nI y))]) rfl ?_
  refine r_aload_n d_Mm_filledIn_0 rfl 0 rfl ?_
  refine r_iconst d_Mm_filledIn_1 (v := 0) (by decide) ?_
  refine r_put fp_Mm_84 d_Mm_filledIn_2 (fun h => nomatch h) rfl rfl (q0 := 0) rfl (Nat.le_of_ble_eq_true rfl) (cs' := [(m, .inr (12, [.int 0, .ref mp, .int pt, .ref mf, .ref mh, .ref mn, .ref mt, .ref mz, .ref mc_, .ref mq, .ref mgr, .int cl, .int wa, .int co_, .int fi, .int bu, .int ho, .ref ml, .ref mi, .ref mr, .int lh, .int mg, .int wd, .int fpi, .int fal, .ref mm, .ref mu, .ref mk, .ref mx, .long po, .long de])), (mp, .inl (1, 108, .inl f)), (mf, .inl (0, 108, .inl fl)), (mh, .inl (0, 108, .inl he)), (mt, .inl (0, 108, .inl mtt)), (mz, .inl (0, 108, .inl fz)), (mn, .inl (0, 108, .inl nx)), (mc_, .inl (2, 108, .inl ic)), (mq, .inl (0, 108, .inl (fun k => nI (qn k))))]) rfl ?_
  refine r_aload_n d_Mm_filledIn_5 rfl 0 rfl ?_
  refine r_iload_n d_Mm_filledIn_6 rfl 1 rfl ?_
  refine r_iload_n d_Mm_filledIn_7 rfl 2 rfl ?_
  refine r_callS (As := [.int (nI x), .int (nI y)]) (rest := [.ref m]) (csC := []) (is := []) ln_Mm_91 w_st_Mm_isCell ok_Mm_filledIn_Mm_isCell d_Mm_filledIn_8 (C_Mm_isCell g (nI x) (nI y)) rfl rfl (Nat.le_of_ble_eq_true rfl) rfl (by decide) (by omega) (by omega) (fun E cs1 hx => ?_) (fun v cs1 hx => ?_)
  · exact absurd hx.1 (by simp)
  · obtain ⟨e1, rfl⟩ := hx
    rw [if_pos (z_cellN (by omega) (by omega))] at e1
    cases e1
    refine ⟨rfl, ?_⟩
    refine r_st (st2 := [.int 1, .ref m]) rfl ?_
    refine r_cs (cs2 := [(m, .inr (12, [.int 0, .ref mp, .int pt, .ref mf, .ref mh, .ref mn, .ref mt, .ref mz, .ref mc_, .ref mq, .ref mgr, .int cl, .int wa, .int co_, .int fi, .int bu, .int ho, .ref ml, .ref mi, .ref mr, .int lh, .int mg, .int wd, .int fpi, .int fal, .ref mm, .ref mu, .ref mk, .ref mx, .long po, .long de])), (mp, .inl (1, 108, .inl f)), (mf, .inl (0, 108, .inl fl)), (mh, .inl (0, 108, .inl he)), (mt, .inl (0, 108, .inl mtt)), (mz, .inl (0, 108, .inl fz)), (mn, .inl (0, 108, .inl nx)), (mc_, .inl (2, 108, .inl ic)), (mq, .inl (0, 108, .inl (fun k => nI (qn k))))]) rfl ?_
    refine r_if_ne (tgt := 18) d_Mm_filledIn_11 (by decide) (fun c_11 => ?_) (fun c_11 => ?_)
    · refine r_iconst d_Mm_filledIn_18 (v := 0) (by decide) ?_
      refine r_iconst d_Mm_filledIn_19 (v := 1) (by decide) ?_
      refine r_callV (As := [.int 0, .int 1]) (rest := []) (csC := [(m, .inr (12, [.int 0, .ref mp, .int pt, .ref mf, .ref mh, .ref mn, .ref mt, .ref mz, .ref mc_, .ref mq, .ref mgr, .int cl, .int wa, .int co_, .int fi, .int bu, .int ho, .ref ml, .ref mi, .ref mr, .int lh, .int mg, .int wd, .int fpi, .int fal, .ref mm, .ref mu, .ref mk, .ref mx, .long po, .long de]))]) (is := [0]) (q0 := 0) rfl rfl ln_Mm_103 w_im_Mm_fails w_se_Mm_fails ok_Mm_filledIn_Mm_fails d_Mm_filledIn_20 (C_Mm_fails0 g m mp mf mh mn mt mz mc_ mq mgr ml mi mr mm mu mk mx th pt cl wa co_ fi bu ho lh mg wd fpi fal po de 1) rfl rfl (Nat.le_of_ble_eq_true rfl) rfl (by decide) (by omega) (by omega) (fun E cs1 hx => ?_) (fun v cs1 hx => ?_)
      · exact absurd hx.1 (by simp)
      · obtain ⟨e1, rfl⟩ := hx
        cases e1
        refine ⟨rfl, ?_⟩
        refine r_st (st2 := [.int 0]) rfl ?_
        refine r_cs (cs2 := [(m, .inr (12, [.int 0, .ref mp, .int pt, .ref mf, .ref mh, .ref mn, .ref mt, .ref mz, .ref mc_, .ref mq, .ref mgr, .int cl, .int wa, .int co_, .int fi, .int bu, .int ho, .ref ml, .ref mi, .ref mr, .int lh, .int mg, .int wd, .int fpi, .int fal, .ref mm, .ref mu, .ref mk, .ref mx, .long po, .long de])), (mp, .inl (1, 108, .inl f)), (mf, .inl (0, 108, .inl fl)), (mh, .inl (0, 108, .inl he)), (mt, .inl (0, 108, .inl mtt)), (mz, .inl (0, 108, .inl fz)), (mn, .inl (0, 108, .inl nx)), (mc_, .inl (2, 108, .inl ic)), (mq, .inl (0, 108, .inl (fun k => nI (qn k))))]) rfl ?_
        refine r_if_eq (tgt := 28) d_Mm_filledIn_23 (by decide) (fun c_23 => ?_) (fun c_23 => ?_)
        · refine r_aload_n d_Mm_filledIn_28 rfl 0 rfl ?_
          refine r_aload_n d_Mm_filledIn_29 rfl 0 rfl ?_
          refine r_get fs_Mm_7 d_Mm_filledIn_30 (q0 := 0) rfl rfl ?_
          refine r_callV (As := [.ref mp]) (rest := []) (csC := [(m, .inr (12, [.int 0, .ref mp, .int pt, .ref mf, .ref mh, .ref mn, .ref mt, .ref mz, .ref mc_, .ref mq, .ref mgr, .int cl, .int wa, .int co_, .int fi, .int bu, .int ho, .ref ml, .ref mi, .ref mr, .int lh, .int mg, .int wd, .int fpi, .int fal, .ref mm, .ref mu, .ref mk, .ref mx, .long po, .long de])), (mp, .inl (1, 108, .inl f)), (mf, .inl (0, 108, .inl fl))]) (is := [0, 1, 2]) (q0 := 0) rfl rfl ln_Mm_143 w_im_Mm_fill w_se_Mm_fill ok_Mm_filledIn_Mm_fill d_Mm_filledIn_33 (C_Mm_fillW g m mp mf mh mn mt mz mc_ mq mgr ml mi mr mm mu mk mx 0 pt cl wa co_ fi bu ho lh mg wd fpi fal po de mp f fl) rfl rfl (Nat.le_of_ble_eq_true rfl) rfl (by decide) (by omega) (by omega) (fun E cs1 hx => ?_) (fun v cs1 hx => ?_)
          · obtain ⟨fl9, e1, -⟩ := hx
            cases e1
          · obtain ⟨fl9, e1, rfl⟩ := hx
            cases e1
            refine ⟨rfl, ?_⟩
            refine r_st (st2 := []) rfl ?_
            refine r_cs (cs2 := [(m, .inr (12, [.int 0, .ref mp, .int pt, .ref mf, .ref mh, .ref mn, .ref mt, .ref mz, .ref mc_, .ref mq, .ref mgr, .int cl, .int wa, .int co_, .int fi, .int bu, .int ho, .ref ml, .ref mi, .ref mr, .int lh, .int mg, .int wd, .int fpi, .int fal, .ref mm, .ref mu, .ref mk, .ref mx, .long po, .long de])), (mp, .inl (1, 108, .inl f)), (mf, .inl (0, 108, .inl fl9)), (mh, .inl (0, 108, .inl he)), (mt, .inl (0, 108, .inl mtt)), (mz, .inl (0, 108, .inl fz)), (mn, .inl (0, 108, .inl nx)), (mc_, .inl (2, 108, .inl ic)), (mq, .inl (0, 108, .inl (fun k => nI (qn k))))]) rfl ?_
            refine r_aload_n d_Mm_filledIn_36 rfl 0 rfl ?_
            refine r_get fs_Mm_17 d_Mm_filledIn_37 (q0 := 0) rfl rfl ?_
            refine r_bipush d_Mm_filledIn_40 (v := 12) (by decide) ?_
            refine r_iload_n d_Mm_filledIn_42 rfl 2 rfl ?_
            refine r_imul d_Mm_filledIn_43 (v := nI (12 * y)) (pk_mul _ _) ?_
            refine r_iload_n d_Mm_filledIn_44 rfl 1 rfl ?_
            refine r_iadd d_Mm_filledIn_45 (v := nI (12 * y + x)) (nI_add _ _) ?_
            refine r_iald d_Mm_filledIn_46 (q0 := 2) rfl (vp_in_nI (by omega) (by omega)) (v := fl9 (12 * y + x)) (by rw [nI_clamp (by omega)]) ?_
            refine r_iret d_Mm_filledIn_47 rfl rfl ?_
            exact ⟨_, _, _, _, _, _, _, _, _, rfl, rfl⟩
        · exact absurd c_23 (by decide)
    · exact absurd c_11 (by decide)
set_option maxHeartbeats 4000000 in
set_option maxRecDepth 100000 in
theorem C_Mm_frozenInW (g : zG) (m mp mf mh mn mt mz mc_ mq mgr ml mi mr mm mu mk mx : Nat) (th pt cl wa co_ fi bu ho lh mg wd fpi fal : Int32) (po de : Int64) (f fl he nx mtt fz ic : Nat → Int32) (qn : Nat → Nat) (x y : Nat) (hx0 : x < 12) (hy0 : y < 9) (h : Int32) (hh : 1200 ≤ h ∧ h ≤ 1500) : CT g M_Mm_frozenIn [.ref m, .int (nI x), .int (nI y), .int h] [(m, .inr (12, [.int th, .ref mp, .int pt, .ref mf, .ref mh, .ref mn, .ref mt, .ref mz, .ref mc_, .ref mq, .ref mgr, .int cl, .int wa, .int co_, .int fi, .int bu, .int ho, .ref ml, .ref mi, .ref mr, .int lh, .int mg, .int wd, .int fpi, .int fal, .ref mm, .ref mu, .ref mk, .ref mx, .long po, .long de])), (mp, .inl (1, 108, .inl f)), (mf, .inl (0, 108, .inl fl)), (mh, .inl (0, 108, .inl he)), (mt, .inl (0, 108, .inl mtt)), (mz, .inl (0, 108, .inl fz)), (mn, .inl (0, 108, .inl nx)), (mc_, .inl (2, 108, .inl ic)), (mq, .inl (0, 108, .inl (fun k => nI (qn k))))] (fun o cs1 => ∃ (v9 th9 : Int32) (fl9 he9 nx9 mt9 fz9 ic9 : Nat → Int32) (qn9 : Nat → Nat), o = .inl (some (.int v9)) ∧ cs1 = [(m, .inr (12, [.int th9, .ref mp, .int pt, .ref mf, .ref mh, .ref mn, .ref mt, .ref mz, .ref mc_, .ref mq, .ref mgr, .int cl, .int wa, .int co_, .int fi, .int bu, .int ho, .ref ml, .ref mi, .ref mr, .int lh, .int mg, .int wd, .int fpi, .int fal, .ref mm, .ref mu, .ref mk, .ref mx, .long po, .long de])), (mp, .inl (1, 108, .inl f)), (mf, .inl (0, 108, .inl fl9)), (mh, .inl (0, 108, .inl he9)), (mt, .inl (0, 108, .inl mt9)), (mz, .inl (0, 108, .inl fz9)), (mn, .inl (0, 108, .inl nx9)), (mc_, .inl (2, 108, .inl ic9)), (mq, .inl (0, 108, .inl (fun k => nI (qn9 k))))]) 0 0 := by
  refine z_of (by decide) rfl (Nat.le_of_ble_eq_true rfl) (fun w0 => ?_)
  refine r_lvE (lv2 := [(0, .ref m), (1, .int (nI x)), (2, .int (nI y)), (3, .int h)]) rfl ?_
  refine r_aload_n d_Mm_frozenIn_0 rfl 0 rfl ?_
  refine r_iconst d_Mm_frozenIn_1 (v := 0) (by decide) ?_
  refine r_put fp_Mm_84 d_Mm_frozenIn_2 (fun h => nomatch h) rfl rfl (q0 := 0) rfl (Nat.le_of_ble_eq_true rfl) (cs' := [(m, .inr (12, [.int 0, .ref mp, .int pt, .ref mf, .ref mh, .ref mn, .ref mt, .ref mz, .ref mc_, .ref mq, .ref mgr, .int cl, .int wa, .int co_, .int fi, .int bu, .int ho, .ref ml, .ref mi, .ref mr, .int lh, .int mg, .int wd, .int fpi, .int fal, .ref mm, .ref mu, .ref mk, .ref mx, .long po, .long de])), (mp, .inl (1, 108, .inl f)), (mf, .inl (0, 108, .inl fl)), (mh, .inl (0, 108, .inl he)), (mt, .inl (0, 108, .inl mtt)), (mz, .inl (0, 108, .inl fz)), (mn, .inl (0, 108, .inl nx)), (mc_, .inl (2, 108, .inl ic)), (mq, .inl (0, 108, .inl (fun k => nI (qn k))))]) rfl ?_
  refine r_aload_n d_Mm_frozenIn_5 rfl 0 rfl ?_
  refine r_iload_n d_Mm_frozenIn_6 rfl 1 rfl ?_
  refine r_iload_n d_Mm_frozenIn_7 rfl 2 rfl ?_
  refine r_callS (As := [.int (nI x), .int (nI y)]) (rest := [.ref m]) (csC := []) (is := []) ln_Mm_91 w_st_Mm_isCell ok_Mm_frozenIn_Mm_isCell d_Mm_frozenIn_8 (C_Mm_isCell g (nI x) (nI y)) rfl rfl (Nat.le_of_ble_eq_true rfl) rfl (by decide) (by omega) (by omega) (fun E cs1 hx => ?_) (fun v cs1 hx => ?_)
  · exact absurd hx.1 (by simp)
  · obtain ⟨e1, rfl⟩ := hx
    rw [if_pos (z_cellN (by omega) (by omega))] at e1
    cases e1
    refine ⟨rfl, ?_⟩
    refine r_st (st2 := [.int 1, .ref m]) rfl ?_
    refine r_cs (cs2 := [(m, .inr (12, [.int 0, .ref mp, .int pt, .ref mf, .ref mh, .ref mn, .ref mt, .ref mz, .ref mc_, .ref mq, .ref mgr, .int cl, .int wa, .int co_, .int fi, .int bu, .int ho, .ref ml, .ref mi, .ref mr, .int lh, .int mg, .int wd, .int fpi, .int fal, .ref mm, .ref mu, .ref mk, .ref mx, .long po, .long de])), (mp, .inl (1, 108, .inl f)), (mf, .inl (0, 108, .inl fl)), (mh, .inl (0, 108, .inl he)), (mt, .inl (0, 108, .inl mtt)), (mz, .inl (0, 108, .inl fz)), (mn, .inl (0, 108, .inl nx)), (mc_, .inl (2, 108, .inl ic)), (mq, .inl (0, 108, .inl (fun k => nI (qn k))))]) rfl ?_
    refine r_if_ne (tgt := 18) d_Mm_frozenIn_11 (by decide) (fun c_11 => ?_) (fun c_11 => ?_)
    · refine r_iconst d_Mm_frozenIn_18 (v := 0) (by decide) ?_
      refine r_iconst d_Mm_frozenIn_19 (v := 1) (by decide) ?_
      refine r_callV (As := [.int 0, .int 1]) (rest := []) (csC := [(m, .inr (12, [.int 0, .ref mp, .int pt, .ref mf, .ref mh, .ref mn, .ref mt, .ref mz, .ref mc_, .ref mq, .ref mgr, .int cl, .int wa, .int co_, .int fi, .int bu, .int ho, .ref ml, .ref mi, .ref mr, .int lh, .int mg, .int wd, .int fpi, .int fal, .ref mm, .ref mu, .ref mk, .ref mx, .long po, .long de]))]) (is := [0]) (q0 := 0) rfl rfl ln_Mm_103 w_im_Mm_fails w_se_Mm_fails ok_Mm_frozenIn_Mm_fails d_Mm_frozenIn_20 (C_Mm_fails0 g m mp mf mh mn mt mz mc_ mq mgr ml mi mr mm mu mk mx th pt cl wa co_ fi bu ho lh mg wd fpi fal po de 1) rfl rfl (Nat.le_of_ble_eq_true rfl) rfl (by decide) (by omega) (by omega) (fun E cs1 hx => ?_) (fun v cs1 hx => ?_)
      · exact absurd hx.1 (by simp)
      · obtain ⟨e1, rfl⟩ := hx
        cases e1
        refine ⟨rfl, ?_⟩
        refine r_st (st2 := [.int 0]) rfl ?_
        refine r_cs (cs2 := [(m, .inr (12, [.int 0, .ref mp, .int pt, .ref mf, .ref mh, .ref mn, .ref mt, .ref mz, .ref mc_, .ref mq, .ref mgr, .int cl, .int wa, .int co_, .int fi, .int bu, .int ho, .ref ml, .ref mi, .ref mr, .int lh, .int mg, .int wd, .int fpi, .int fal, .ref mm, .ref mu, .ref mk, .ref mx, .long po, .long de])), (mp, .inl (1, 108, .inl f)), (mf, .inl (0, 108, .inl fl)), (mh, .inl (0, 108, .inl he)), (mt, .inl (0, 108, .inl mtt)), (mz, .inl (0, 108, .inl fz)), (mn, .inl (0, 108, .inl nx)), (mc_, .inl (2, 108, .inl ic)), (mq, .inl (0, 108, .inl (fun k => nI (qn k))))]) rfl ?_
        refine r_if_ne (tgt := 38) d_Mm_frozenIn_23 (by decide) (fun c_23 => ?_) (fun c_23 => ?_)
        · exact absurd c_23 (by decide)
        · refine r_aload_n d_Mm_frozenIn_26 rfl 0 rfl ?_
          refine r_iload_n d_Mm_frozenIn_27 rfl 3 rfl ?_
          refine r_callS (As := [.int h]) (rest := [.ref m]) (csC := []) (is := []) ln_Mm_163 w_st_Mm_noHeat ok_Mm_frozenIn_Mm_noHeat d_Mm_frozenIn_28 (C_Mm_noHeat0 g h hh) rfl rfl (Nat.le_of_ble_eq_true rfl) rfl (by decide) (by omega) (by omega) (fun E cs1 hx => ?_) (fun v cs1 hx => ?_)
          · exact absurd hx.1 (by simp)
          · obtain ⟨e1, rfl⟩ := hx
            cases e1
            refine ⟨rfl, ?_⟩
            refine r_st (st2 := [.int 0, .ref m]) rfl ?_
            refine r_cs (cs2 := [(m, .inr (12, [.int 0, .ref mp, .int pt, .ref mf, .ref mh, .ref mn, .ref mt, .ref mz, .ref mc_, .ref mq, .ref mgr, .int cl, .int wa, .int co_, .int fi, .int bu, .int ho, .ref ml, .ref mi, .ref mr, .int lh, .int mg, .int wd, .int fpi, .int fal, .ref mm, .ref mu, .ref mk, .ref mx, .long po, .long de])), (mp, .inl (1, 108, .inl f)), (mf, .inl (0, 108, .inl fl)), (mh, .inl (0, 108, .inl he)), (mt, .inl (0, 108, .inl mtt)), (mz, .inl (0, 108, .inl fz)), (mn, .inl (0, 108, .inl nx)), (mc_, .inl (2, 108, .inl ic)), (mq, .inl (0, 108, .inl (fun k => nI (qn k))))]) rfl ?_
            refine r_iconst d_Mm_frozenIn_31 (v := 2) (by decide) ?_
            refine r_callV (As := [.int 0, .int 2]) (rest := []) (csC := [(m, .inr (12, [.int 0, .ref mp, .int pt, .ref mf, .ref mh, .ref mn, .ref mt, .ref mz, .ref mc_, .ref mq, .ref mgr, .int cl, .int wa, .int co_, .int fi, .int bu, .int ho, .ref ml, .ref mi, .ref mr, .int lh, .int mg, .int wd, .int fpi, .int fal, .ref mm, .ref mu, .ref mk, .ref mx, .long po, .long de]))]) (is := [0]) (q0 := 0) rfl rfl ln_Mm_103 w_im_Mm_fails w_se_Mm_fails ok_Mm_frozenIn_Mm_fails d_Mm_frozenIn_32 (C_Mm_fails0 g m mp mf mh mn mt mz mc_ mq mgr ml mi mr mm mu mk mx th pt cl wa co_ fi bu ho lh mg wd fpi fal po de 2) rfl rfl (Nat.le_of_ble_eq_true rfl) rfl (by decide) (by omega) (by omega) (fun E cs1 hx => ?_) (fun v cs1 hx => ?_)
            · exact absurd hx.1 (by simp)
            · obtain ⟨e1, rfl⟩ := hx
              cases e1
              refine ⟨rfl, ?_⟩
              refine r_st (st2 := [.int 0]) rfl ?_
              refine r_cs (cs2 := [(m, .inr (12, [.int 0, .ref mp, .int pt, .ref mf, .ref mh, .ref mn, .ref mt, .ref mz, .ref mc_, .ref mq, .ref mgr, .int cl, .int wa, .int co_, .int fi, .int bu, .int ho, .ref ml, .ref mi, .ref mr, .int lh, .int mg, .int wd, .int fpi, .int fal, .ref mm, .ref mu, .ref mk, .ref mx, .long po, .long de])), (mp, .inl (1, 108, .inl f)), (mf, .inl (0, 108, .inl fl)), (mh, .inl (0, 108, .inl he)), (mt, .inl (0, 108, .inl mtt)), (mz, .inl (0, 108, .inl fz)), (mn, .inl (0, 108, .inl nx)), (mc_, .inl (2, 108, .inl ic)), (mq, .inl (0, 108, .inl (fun k => nI (qn k))))]) rfl ?_
              refine r_if_eq (tgt := 40) d_Mm_frozenIn_35 (by decide) (fun c_35 => ?_) (fun c_35 => ?_)
              · refine r_aload_n d_Mm_frozenIn_40 rfl 0 rfl ?_
                refine r_aload_n d_Mm_frozenIn_41 rfl 0 rfl ?_
                refine r_get fs_Mm_7 d_Mm_frozenIn_42 (q0 := 0) rfl rfl ?_
                refine r_iload_n d_Mm_frozenIn_45 rfl 3 rfl ?_
                refine r_callV (As := [.ref mp, .int h]) (rest := []) (csC := [(m, .inr (12, [.int 0, .ref mp, .int pt, .ref mf, .ref mh, .ref mn, .ref mt, .ref mz, .ref mc_, .ref mq, .ref mgr, .int cl, .int wa, .int co_, .int fi, .int bu, .int ho, .ref ml, .ref mi, .ref mr, .int lh, .int mg, .int wd, .int fpi, .int fal, .ref mm, .ref mu, .ref mk, .ref mx, .long po, .long de])), (mp, .inl (1, 108, .inl f)), (mf, .inl (0, 108, .inl fl)), (mh, .inl (0, 108, .inl he)), (mt, .inl (0, 108, .inl mtt)), (mz, .inl (0, 108, .inl fz)), (mn, .inl (0, 108, .inl nx))]) (is := [0, 1, 2, 3, 4, 5, 6]) (q0 := 0) rfl rfl ln_Mm_167 w_im_Mm_freeze w_se_Mm_freeze ok_Mm_frozenIn_Mm_freeze d_Mm_frozenIn_46 (C_Mm_freezeW g m mp mf mh mn mt mz mc_ mq mgr ml mi mr mm mu mk mx 0 pt cl wa co_ fi bu ho lh mg wd fpi fal po de mp f fl he nx mtt fz h) rfl rfl (Nat.le_of_ble_eq_true rfl) rfl (by decide) (by omega) (by omega) (fun E cs1 hx => ?_) (fun v cs1 hx => ?_)
                · obtain ⟨fl9, he9, nx9, mt9, fz9, e1, -⟩ := hx
                  cases e1
                · obtain ⟨fl9, he9, nx9, mt9, fz9, e1, rfl⟩ := hx
                  cases e1
                  refine ⟨rfl, ?_⟩
                  refine r_st (st2 := []) rfl ?_
                  refine r_cs (cs2 := [(m, .inr (12, [.int 0, .ref mp, .int pt, .ref mf, .ref mh, .ref mn, .ref mt, .ref mz, .ref mc_, .ref mq, .ref mgr, .int cl, .int wa, .int co_, .int fi, .int bu, .int ho, .ref ml, .ref mi, .ref mr, .int lh, .int mg, .int wd, .int fpi, .int fal, .ref mm, .ref mu, .ref mk, .ref mx, .long po, .long de])), (mp, .inl (1, 108, .inl f)), (mf, .inl (0, 108, .inl fl9)), (mh, .inl (0, 108, .inl he9)), (mt, .inl (0, 108, .inl mt9)), (mz, .inl (0, 108, .inl fz9)), (mn, .inl (0, 108, .inl nx9)), (mc_, .inl (2, 108, .inl ic)), (mq, .inl (0, 108, .inl (fun k => nI (qn k))))]) rfl ?_
                  refine r_aload_n d_Mm_frozenIn_49 rfl 0 rfl ?_
                  refine r_get fs_Mm_30 d_Mm_frozenIn_50 (q0 := 0) rfl rfl ?_
                  refine r_bipush d_Mm_frozenIn_53 (v := 12) (by decide) ?_
                  refine r_iload_n d_Mm_frozenIn_55 rfl 2 rfl ?_
                  refine r_imul d_Mm_frozenIn_56 (v := nI (12 * y)) (pk_mul _ _) ?_
                  refine r_iload_n d_Mm_frozenIn_57 rfl 1 rfl ?_
                  refine r_iadd d_Mm_frozenIn_58 (v := nI (12 * y + x)) (nI_add _ _) ?_
                  refine r_iald d_Mm_frozenIn_59 (q0 := 5) rfl (vp_in_nI (by omega) (by omega)) (v := fz9 (12 * y + x)) (by rw [nI_clamp (by omega)]) ?_
                  refine r_iret d_Mm_frozenIn_60 rfl rfl ?_
                  exact ⟨_, _, _, _, _, _, _, _, _, rfl, rfl⟩
              · exact absurd c_35 (by decide)
    · exact absurd c_11 (by decide)
set_option maxHeartbeats 4000000 in
set_option maxRecDepth 100000 in
theorem C_Mm_shrunkW (g : zG) (m mp mf mh mn mt mz mc_ mq mgr ml mi mr mm mu mk mx : Nat) (th pt cl wa co_ fi bu ho lh mg wd fpi fal : Int32) (po de : Int64) (f fl he nx mtt fz ic : Nat → Int32) (qn : Nat → Nat) (h : Int32) (hh : 1200 ≤ h ∧ h ≤ 1500) : CT g M_Mm_shrunk [.ref m, .int h] [(m, .inr (12, [.int th, .ref mp, .int pt, .ref mf, .ref mh, .ref mn, .ref mt, .ref mz, .ref mc_, .ref mq, .ref mgr, .int cl, .int wa, .int co_, .int fi, .int bu, .int ho, .ref ml, .ref mi, .ref mr, .int lh, .int mg, .int wd, .int fpi, .int fal, .ref mm, .ref mu, .ref mk, .ref mx, .long po, .long de])), (mp, .inl (1, 108, .inl f)), (mf, .inl (0, 108, .inl fl)), (mh, .inl (0, 108, .inl he)), (mt, .inl (0, 108, .inl mtt)), (mz, .inl (0, 108, .inl fz)), (mn, .inl (0, 108, .inl nx)), (mc_, .inl (2, 108, .inl ic)), (mq, .inl (0, 108, .inl (fun k => nI (qn k))))] (fun o cs1 => ∃ (v9 th9 : Int32) (fl9 he9 nx9 mt9 fz9 ic9 : Nat → Int32) (qn9 : Nat → Nat), o = .inl (some (.int v9)) ∧ cs1 = [(m, .inr (12, [.int th9, .ref mp, .int pt, .ref mf, .ref mh, .ref mn, .ref mt, .ref mz, .ref mc_, .ref mq, .ref mgr, .int cl, .int wa, .int co_, .int fi, .int bu, .int ho, .ref ml, .ref mi, .ref mr, .int lh, .int mg, .int wd, .int fpi, .int fal, .ref mm, .ref mu, .ref mk, .ref mx, .long po, .long de])), (mp, .inl (1, 108, .inl f)), (mf, .inl (0, 108, .inl fl9)), (mh, .inl (0, 108, .inl he9)), (mt, .inl (0, 108, .inl mt9)), (mz, .inl (0, 108, .inl fz9)), (mn, .inl (0, 108, .inl nx9)), (mc_, .inl (2, 108, .inl ic9)), (mq, .inl (0, 108, .inl (fun k => nI (qn9 k))))]) 0 0 := by
  refine z_of (by decide) rfl (Nat.le_of_ble_eq_true rfl) (fun w0 => ?_)
  refine r_lvE (lv2 := [(0, .ref m), (1, .int h)]) rfl ?_
  refine r_aload_n d_Mm_shrunk_0 rfl 0 rfl ?_
  refine r_iconst d_Mm_shrunk_1 (v := 0) (by decide) ?_
  refine r_put fp_Mm_84 d_Mm_shrunk_2 (fun h => nomatch h) rfl rfl (q0 := 0) rfl (Nat.le_of_ble_eq_true rfl) (cs' := [(m, .inr (12, [.int 0, .ref mp, .int pt, .ref mf, .ref mh, .ref mn, .ref mt, .ref mz, .ref mc_, .ref mq, .ref mgr, .int cl, .int wa, .int co_, .int fi, .int bu, .int ho, .ref ml, .ref mi, .ref mr, .int lh, .int mg, .int wd, .int fpi, .int fal, .ref mm, .ref mu, .ref mk, .ref mx, .long po, .long de])), (mp, .inl (1, 108, .inl f)), (mf, .inl (0, 108, .inl fl)), (mh, .inl (0, 108, .inl he)), (mt, .inl (0, 108, .inl mtt)), (mz, .inl (0, 108, .inl fz)), (mn, .inl (0, 108, .inl nx)), (mc_, .inl (2, 108, .inl ic)), (mq, .inl (0, 108, .inl (fun k => nI (qn k))))]) rfl ?_
  refine r_aload_n d_Mm_shrunk_5 rfl 0 rfl ?_
  refine r_iload_n d_Mm_shrunk_6 rfl 1 rfl ?_
  refine r_callS (As := [.int h]) (rest := [.ref m]) (csC := []) (is := []) ln_Mm_163 w_st_Mm_noHeat ok_Mm_shrunk_Mm_noHeat d_Mm_shrunk_7 (C_Mm_noHeat0 g h hh) rfl rfl (Nat.le_of_ble_eq_true rfl) rfl (by decide) (by omega) (by omega) (fun E cs1 hx => ?_) (fun v cs1 hx => ?_)
  · exact absurd hx.1 (by simp)
  · obtain ⟨e1, rfl⟩ := hx
    cases e1
    refine ⟨rfl, ?_⟩
    refine r_st (st2 := [.int 0, .ref m]) rfl ?_
    refine r_cs (cs2 := [(m, .inr (12, [.int 0, .ref mp, .int pt, .ref mf, .ref mh, .ref mn, .ref mt, .ref mz, .ref mc_, .ref mq, .ref mgr, .int cl, .int wa, .int co_, .int fi, .int bu, .int ho, .ref ml, .ref mi, .ref mr, .int lh, .int mg, .int wd, .int fpi, .int fal, .ref mm, .ref mu, .ref mk, .ref mx, .long po, .long de])), (mp, .inl (1, 108, .inl f)), (mf, .inl (0, 108, .inl fl)), (mh, .inl (0, 108, .inl he)), (mt, .inl (0, 108, .inl mtt)), (mz, .inl (0, 108, .inl fz)), (mn, .inl (0, 108, .inl nx)), (mc_, .inl (2, 108, .inl ic)), (mq, .inl (0, 108, .inl (fun k => nI (qn k))))]) rfl ?_
    refine r_iconst d_Mm_shrunk_10 (v := 1) (by decide) ?_
    refine r_callV (As := [.int 0, .int 1]) (rest := []) (csC := [(m, .inr (12, [.int 0, .ref mp, .int pt, .ref mf, .ref mh, .ref mn, .ref mt, .ref mz, .ref mc_, .ref mq, .ref mgr, .int cl, .int wa, .int co_, .int fi, .int bu, .int ho, .ref ml, .ref mi, .ref mr, .int lh, .int mg, .int wd, .int fpi, .int fal, .ref mm, .ref mu, .ref mk, .ref mx, .long po, .long de]))]) (is := [0]) (q0 := 0) rfl rfl ln_Mm_103 w_im_Mm_fails w_se_Mm_fails ok_Mm_shrunk_Mm_fails d_Mm_shrunk_11 (C_Mm_fails0 g m mp mf mh mn mt mz mc_ mq mgr ml mi mr mm mu mk mx th pt cl wa co_ fi bu ho lh mg wd fpi fal po de 1) rfl rfl (Nat.le_of_ble_eq_true rfl) rfl (by decide) (by omega) (by omega) (fun E cs1 hx => ?_) (fun v cs1 hx => ?_)
    · exact absurd hx.1 (by simp)
    · obtain ⟨e1, rfl⟩ := hx
      cases e1
      refine ⟨rfl, ?_⟩
      refine r_st (st2 := [.int 0]) rfl ?_
      refine r_cs (cs2 := [(m, .inr (12, [.int 0, .ref mp, .int pt, .ref mf, .ref mh, .ref mn, .ref mt, .ref mz, .ref mc_, .ref mq, .ref mgr, .int cl, .int wa, .int co_, .int fi, .int bu, .int ho, .ref ml, .ref mi, .ref mr, .int lh, .int mg, .int wd, .int fpi, .int fal, .ref mm, .ref mu, .ref mk, .ref mx, .long po, .long de])), (mp, .inl (1, 108, .inl f)), (mf, .inl (0, 108, .inl fl)), (mh, .inl (0, 108, .inl he)), (mt, .inl (0, 108, .inl mtt)), (mz, .inl (0, 108, .inl fz)), (mn, .inl (0, 108, .inl nx)), (mc_, .inl (2, 108, .inl ic)), (mq, .inl (0, 108, .inl (fun k => nI (qn k))))]) rfl ?_
      refine r_if_eq (tgt := 21) d_Mm_shrunk_14 (by decide) (fun c_14 => ?_) (fun c_14 => ?_)
      · refine r_aload_n d_Mm_shrunk_21 rfl 0 rfl ?_
        refine r_aload_n d_Mm_shrunk_22 rfl 0 rfl ?_
        refine r_get fs_Mm_7 d_Mm_shrunk_23 (q0 := 0) rfl rfl ?_
        refine r_iload_n d_Mm_shrunk_26 rfl 1 rfl ?_
        refine r_callV (As := [.ref mp, .int h]) (rest := []) (csC := [(m, .inr (12, [.int 0, .ref mp, .int pt, .ref mf, .ref mh, .ref mn, .ref mt, .ref mz, .ref mc_, .ref mq, .ref mgr, .int cl, .int wa, .int co_, .int fi, .int bu, .int ho, .ref ml, .ref mi, .ref mr, .int lh, .int mg, .int wd, .int fpi, .int fal, .ref mm, .ref mu, .ref mk, .ref mx, .long po, .long de])), (mp, .inl (1, 108, .inl f)), (mf, .inl (0, 108, .inl fl)), (mh, .inl (0, 108, .inl he)), (mt, .inl (0, 108, .inl mtt)), (mz, .inl (0, 108, .inl fz)), (mn, .inl (0, 108, .inl nx)), (mc_, .inl (2, 108, .inl ic)), (mq, .inl (0, 108, .inl (fun k => nI (qn k))))]) (is := [0, 1, 2, 3, 4, 5, 6, 7, 8]) (q0 := 0) rfl rfl ln_Mm_173 w_im_Mm_shrunkOf w_se_Mm_shrunkOf ok_Mm_shrunk_Mm_shrunkOf d_Mm_shrunk_27 (C_Mm_shrunkOfW g m mp mf mh mn mt mz mc_ mq mgr ml mi mr mm mu mk mx 0 pt cl wa co_ fi bu ho lh mg wd fpi fal po de mp f fl he nx mtt fz ic qn h) rfl rfl (Nat.le_of_ble_eq_true rfl) rfl (by decide) (by omega) (by omega) (fun E cs1 hx => ?_) (fun v cs1 hx => ?_)
        · obtain ⟨v9, fl9, he9, nx9, mt9, fz9, ic9, qn9, e1, -⟩ := hx
          cases e1
        · obtain ⟨v9, fl9, he9, nx9, mt9, fz9, ic9, qn9, e1, rfl⟩ := hx
          cases e1
          refine ⟨rfl, ?_⟩
          refine r_st (st2 := [.int v9]) rfl ?_
          refine r_cs (cs2 := [(m, .inr (12, [.int 0, .ref mp, .int pt, .ref mf, .ref mh, .ref mn, .ref mt, .ref mz, .ref mc_, .ref mq, .ref mgr, .int cl, .int wa, .int co_, .int fi, .int bu, .int ho, .ref ml, .ref mi, .ref mr, .int lh, .int mg, .int wd, .int fpi, .int fal, .ref mm, .ref mu, .ref mk, .ref mx, .long po, .long de])), (mp, .inl (1, 108, .inl f)), (mf, .inl (0, 108, .inl fl9)), (mh, .inl (0, 108, .inl he9)), (mt, .inl (0, 108, .inl mt9)), (mz, .inl (0, 108, .inl fz9)), (mn, .inl (0, 108, .inl nx9)), (mc_, .inl (2, 108, .inl ic9)), (mq, .inl (0, 108, .inl (fun k => nI (qn9 k))))]) rfl ?_
          refine r_iret d_Mm_shrunk_30 rfl rfl ?_
          exact ⟨_, _, _, _, _, _, _, _, _, rfl, rfl⟩
      · exact absurd c_14 (by decide)
theorem d_Mm_shrunkAnew_50 : decode prog_14_method_40_code 50 = .ok (.aload_n 0, 1) := zo_42 (zd_b zq_prog_14_method_40_code_1 18 rfl rfl rfl)
theorem d_Mm_shrunkAnew_51 : decode prog_14_method_40_code 51 = .ok (.getfield 17, 3) := zo_180 (d := 0) (e := 17) (zd_b zq_prog_14_method_40_code_1 19 rfl rfl rfl) (zd_b zq_prog_14_method_40_code_1 20 rfl rfl rfl) (zd_b zq_prog_14_method_40_code_1 21 rfl rfl rfl)
theorem d_Mm_shrunkAnew_54 : decode prog_14_method_40_code 54 = .ok (.iload_n 3, 1) := zo_29 (zd_b zq_prog_14_method_40_code_1 22 rfl rfl rfl)
theorem d_Mm_shrunkAnew_55 : decode prog_14_method_40_code 55 = .ok (.iaload, 1) := zo_46 (zd_b zq_prog_14_method_40_code_1 23 rfl rfl rfl)
theorem d_Mm_shrunkAnew_56 : decode prog_14_method_40_code 56 = .ok (.iconst (-1), 1) := zo_2 (zd_b zq_prog_14_method_40_code_1 24 rfl rfl rfl)
theorem d_Mm_shrunkAnew_57 : decode prog_14_method_40_code 57 = .ok (.if_icmp .eq 15, 3) := zo_159 (d := 0) (e := 15) (zd_b zq_prog_14_method_40_code_1 25 rfl rfl rfl) (zd_b zq_prog_14_method_40_code_1 26 rfl rfl rfl) (zd_b zq_prog_14_method_40_code_1 27 rfl rfl rfl) (by decide +kernel)
theorem d_Mm_shrunkAnew_60 : decode prog_14_method_40_code 60 = .ok (.aload_n 0, 1) := zo_42 (zd_b zq_prog_14_method_40_code_1 28 rfl rfl rfl)
theorem d_Mm_shrunkAnew_61 : decode prog_14_method_40_code 61 = .ok (.iload_n 3, 1) := zo_29 (zd_b zq_prog_14_method_40_code_1 29 rfl rfl rfl)
theorem d_Mm_shrunkAnew_62 : decode prog_14_method_40_code 62 = .ok (.invokevirtual 176, 3) := zo_182 (d := 0) (e := 176) (zd_b zq_prog_14_method_40_code_1 30 rfl rfl rfl) (zd_b zq_prog_14_method_40_code_1 31 rfl rfl rfl) (zd_b zq_prog_14_method_40_code_2 0 rfl rfl rfl)
theorem ok_Mm_shrunkAnew_Mm_hasWay : z_ok M_Mm_shrunkAnew M_Mm_hasWay 1 := ⟨z_mj8 (i := 84) rfl (by decide +kernel), rfl, ⟨by decide +kernel, by decide +kernel, by decide +kernel⟩, ⟨by decide, by decide⟩, z_mj1 (i := 14) rfl (by decide +kernel), rfl⟩
theorem ln_Mm_176 : Cond.methodLink "IronpourModel" 176 M_Mm_hasWay.1 ∈ z_gw := z_mj8 (i := 81) rfl (by decide +kernel)
theorem w_im_Mm_hasWay : Cond.instanceMethod M_Mm_hasWay.1 ∈ z_gw := z_mj8 (i := 83) rfl (by decide +kernel)
theorem w_se_Mm_hasWay : Cond.selects M_Mm_hasWay.1.cls M_Mm_hasWay.1 M_Mm_hasWay.1 ∈ z_gw := z_mem (i := 42) (by decide +kernel) (by decide +kernel)
theorem d_Mm_shrunkAnew_65 : decode prog_14_method_40_code 65 = .ok (.ifCond .ne 7, 3) := zo_154 (d := 0) (e := 7) (zd_b zq_prog_14_method_40_code_2 1 rfl rfl rfl) (zd_b zq_prog_14_method_40_code_2 2 rfl rfl rfl) (zd_b zq_prog_14_method_40_code_2 3 rfl rfl rfl) (by decide +kernel)
theorem d_Mm_shrunkAnew_68 : decode prog_14_method_40_code 68 = .ok (.iconst 1, 1) := zo_4 (zd_b zq_prog_14_method_40_code_2 4 rfl rfl rfl)
theorem d_Mm_shrunkAnew_69 : decode prog_14_method_40_code 69 = .ok (.goto 4, 3) := zo_167 (d := 0) (e := 4) (zd_b zq_prog_14_method_40_code_2 5 rfl rfl rfl) (zd_b zq_prog_14_method_40_code_2 6 rfl rfl rfl) (zd_b zq_prog_14_method_40_code_2 7 rfl rfl rfl) (by decide +kernel)
set_option maxHeartbeats 4000000 in
set_option maxRecDepth 100000 in
theorem L_Mm_shrunkAnewW_32 (g : zG) (m mp mf mh mn mt mz mc_ mq mgr ml mi mr mm mu mk mx : Nat) (th pt cl wa co_ fi bu ho lh mg wd fpi fal : Int32) (po de : Int64) (f fl he nx mtt fz ic : Nat → Int32) (qn : Nat → Nat) (h : Int32) (hh : 1200 ≤ h ∧ h ≤ 1500) (w0 : zW) (n : Nat) : ∀ (d i : Nat) (fl he nx mtt fz ic : Nat → Int32) (qn : Nat → Nat) (nn : Int32), i ≤ 108 → 108 < i + d → DV g M_Mm_shrunkAnew (fun o cs1 => ∃ (v9 th9 : Int32) (fl9 he9 nx9 mt9 fz9 ic9 : Nat → Int32) (qn9 : Nat → Nat), o = .inl (some (.int v9)) ∧ cs1 = [(m, .inr (12, [.int th9, .ref mp, .int pt, .ref mf, .ref mh, .ref mn, .ref mt, .ref mz, .ref mc_, .ref mq, .ref mgr, .int cl, .int wa, .int co_, .int fi, .int bu, .int ho, .ref ml, .ref mi, .ref mr, .int lh, .int mg, .int wd, .int fpi, .int fal, .ref mm, .ref mu, .ref mk, .ref mx, .long po, .long de])), (mp, .inl (1, 108, .inl f)), (mf, .inl (0, 108, .inl fl9)), (mh, .inl (0, 108, .inl he9)), (mt, .inl (0, 108, .inl mt9)), (mz, .inl (0, 108, .inl fz9)), (mn, .inl (0, 108, .inl nx9)), (mc_, .inl (2, 108, .inl ic9)), (mq, .inl (0, 108, .inl (fun k => nI (qn9 k))))]) w0 n 32 [(3, .int (nI i)), (2, .int nn), (0, .ref m)] [] [(m, .inr (12, [.int 0, .ref mp, .int pt, .ref mf, .ref mh, .ref mn, .ref mt, .ref mz, .ref mc_, .ref mq, .ref mgr, .int cl, .int wa, .int co_, .int fi, .int bu, .int ho, .ref ml, .ref mi, .ref mr, .int lh, .int mg, .int wd, .int fpi, .int fal, .ref mm, .ref mu, .ref mk, .ref mx, .long po, .long de])), (mp, .inl (1, 108, .inl f)), (mf, .inl (0, 108, .inl fl)), (mh, .inl (0, 108, .inl he)), (mt, .inl (0, 108, .inl mtt)), (mz, .inl (0, 108, .inl fz)), (mn, .inl (0, 108, .inl nx)), (mc_, .inl (2, 108, .inl ic)), (mq, .inl (0, 108, .inl (fun k => nI (qn k))))] 0 0 := by
  intro d
  induction d with
  | zero => intro i fl he nx mtt fz ic qn nn h1 h2 ; exact absurd h2 (by omega)
  | succ d ih =>
    intro i fl he nx mtt fz ic qn nn h1 h2 
    refine r_iload_n d_Mm_shrunkAnew_32 rfl 0 rfl ?_
    refine r_bipush d_Mm_shrunkAnew_33 (v := 108) (by decide) ?_
    refine r_icmp_ge (tgt := 81) d_Mm_shrunkAnew_35 (by decide) (fun c_35 => ?_) (fun c_35 => ?_)
    · have hn := z_le (a := 108) (by omega) (by decide) c_35
      obtain rfl : i = 108 := by omega
      refine r_iload_n d_Mm_shrunkAnew_81 rfl 1 rfl ?_
      refine r_iret d_Mm_shrunkAnew_82 rfl rfl ?_
      exact ⟨_, _, _, _, _, _, _, _, _, rfl, rfl⟩
    · have hn := z_nle (a := 108) (by omega) (by decide) c_35
      refine r_iload_n d_Mm_shrunkAnew_38 rfl 1 rfl ?_
      refine r_aload_n d_Mm_shrunkAnew_39 rfl 2 rfl ?_
      refine r_get fs_Mm_7 d_Mm_shrunkAnew_40 (q0 := 0) rfl rfl ?_
      refine r_iload_n d_Mm_shrunkAnew_43 rfl 0 rfl ?_
      refine r_cald d_Mm_shrunkAnew_44 (q0 := 1) rfl (vp_in_nI (by omega) (by omega)) (v := f i) (by rw [nI_clamp (by omega)]) ?_
      refine r_bipush d_Mm_shrunkAnew_45 (v := 99) (by decide) ?_
      refine r_icmp_ne (tgt := 72) d_Mm_shrunkAnew_47 (by decide) (fun c_47 => ?_) (fun c_47 => ?_)
      · refine r_iconst d_Mm_shrunkAnew_72 (v := 0) (by decide) ?_
        refine r_iadd d_Mm_shrunkAnew_73 (v := nn + 0) rfl ?_
        refine r_istore_n (lv' := [(2, .int (nn + 0)), (3, .int (nI i)), (0, .ref m)]) d_Mm_shrunkAnew_74 rfl (by decide) rfl ?_
        refine r_iinc (lv' := [(3, .int (nI (i + 1))), (2, .int (nn + 0)), (0, .ref m)]) (v := nI (i + 1)) d_Mm_shrunkAnew_75 (j := 1) rfl (nI_add _ _) (by decide) rfl ?_
        refine r_goto (tgt := 32) d_Mm_shrunkAnew_78 (by decide) ?_
        exact ih (i + 1) _ _ _ _ _ _ _ _ (by omega) (by omega)
      · refine r_aload_n d_Mm_shrunkAnew_50 rfl 2 rfl ?_
        refine r_get fs_Mm_17 d_Mm_shrunkAnew_51 (q0 := 0) rfl rfl ?_
        refine r_iload_n d_Mm_shrunkAnew_54 rfl 0 rfl ?_
        refine r_iald d_Mm_shrunkAnew_55 (q0 := 2) rfl (vp_in_nI (by omega) (by omega)) (v := fl i) (by rw [nI_clamp (by omega)]) ?_
        refine r_iconst d_Mm_shrunkAnew_56 (v := (-1)) (by decide) ?_
        refine r_icmp_eq (tgt := 72) d_Mm_shrunkAnew_57 (by decide) (fun c_57 => ?_) (fun c_57 => ?_)
        · refine r_iconst d_Mm_shrunkAnew_72 (v := 0) (by decide) ?_
          refine r_iadd d_Mm_shrunkAnew_73 (v := nn + 0) rfl ?_
          refine r_istore_n (lv' := [(2, .int (nn + 0)), (3, .int (nI i)), (0, .ref m)]) d_Mm_shrunkAnew_74 rfl (by decide) rfl ?_
          refine r_iinc (lv' := [(3, .int (nI (i + 1))), (2, .int (nn + 0)), (0, .ref m)]) (v := nI (i + 1)) d_Mm_shrunkAnew_75 (j := 1) rfl (nI_add _ _) (by decide) rfl ?_
          refine r_goto (tgt := 32) d_Mm_shrunkAnew_78 (by decide) ?_
          exact ih (i + 1) _ _ _ _ _ _ _ _ (by omega) (by omega)
        · refine r_aload_n d_Mm_shrunkAnew_60 rfl 2 rfl ?_
          refine r_iload_n d_Mm_shrunkAnew_61 rfl 0 rfl ?_
          refine r_callV (As := [.int (nI i)]) (rest := [.int nn]) (csC := [(m, .inr (12, [.int 0, .ref mp, .int pt, .ref mf, .ref mh, .ref mn, .ref mt, .ref mz, .ref mc_, .ref mq, .ref mgr, .int cl, .int wa, .int co_, .int fi, .int bu, .int ho, .ref ml, .ref mi, .ref mr, .int lh, .int mg, .int wd, .int fpi, .int fal, .ref mm, .ref mu, .ref mk, .ref mx, .long po, .long de])), (mp, .inl (1, 108, .inl f)), (mf, .inl (0, 108, .inl fl)), (mz, .inl (0, 108, .inl fz)), (mc_, .inl (2, 108, .inl ic)), (mq, .inl (0, 108, .inl (fun k => nI (qn k))))]) (is := [0, 1, 2, 5, 7, 8]) (q0 := 0) rfl rfl ln_Mm_176 w_im_Mm_hasWay w_se_Mm_hasWay ok_Mm_shrunkAnew_Mm_hasWay d_Mm_shrunkAnew_62 (C_Mm_hasWayW g m mp mf mh mn mt mz mc_ mq mgr ml mi mr mm mu mk mx 0 pt cl wa co_ fi bu ho lh mg wd fpi fal po de f fl fz ic qn i (by omega)) rfl rfl (Nat.le_of_ble_eq_true rfl) rfl (by decide) (by omega) (by omega) (fun E cs1 hx => ?_) (fun v cs1 hx => ?_)
          · obtain ⟨v9, ic9, qn9, -, e1, -⟩ := hx
            cases e1
          · obtain ⟨v9, ic9, qn9, -, e1, rfl⟩ := hx
            cases e1
            refine ⟨rfl, ?_⟩
            refine r_st (st2 := [.int v9, .int nn]) rfl ?_
            refine r_cs (cs2 := [(m, .inr (12, [.int 0, .ref mp, .int pt, .ref mf, .ref mh, .ref mn, .ref mt, .ref mz, .ref mc_, .ref mq, .ref mgr, .int cl, .int wa, .int co_, .int fi, .int bu, .int ho, .ref ml, .ref mi, .ref mr, .int lh, .int mg, .int wd, .int fpi, .int fal, .ref mm, .ref mu, .ref mk, .ref mx, .long po, .long de])), (mp, .inl (1, 108, .inl f)), (mf, .inl (0, 108, .inl fl)), (mh, .inl (0, 108, .inl he)), (mt, .inl (0, 108, .inl mtt)), (mz, .inl (0, 108, .inl fz)), (mn, .inl (0, 108, .inl nx)), (mc_, .inl (2, 108, .inl ic9)), (mq, .inl (0, 108, .inl (fun k => nI (qn9 k))))]) rfl ?_
            refine r_if_ne (tgt := 72) d_Mm_shrunkAnew_65 (by decide) (fun c_65 => ?_) (fun c_65 => ?_)
            · refine r_iconst d_Mm_shrunkAnew_72 (v := 0) (by decide) ?_
              refine r_iadd d_Mm_shrunkAnew_73 (v := nn + 0) rfl ?_
              refine r_istore_n (lv' := [(2, .int (nn + 0)), (3, .int (nI i)), (0, .ref m)]) d_Mm_shrunkAnew_74 rfl (by decide) rfl ?_
              refine r_iinc (lv' := [(3, .int (nI (i + 1))), (2, .int (nn + 0)), (0, .ref m)]) (v := nI (i + 1)) d_Mm_shrunkAnew_75 (j := 1) rfl (nI_add _ _) (by decide) rfl ?_
              refine r_goto (tgt := 32) d_Mm_shrunkAnew_78 (by decide) ?_
              exact ih (i + 1) _ _ _ _ _ _ _ _ (by omega) (by omega)
            · refine r_iconst d_Mm_shrunkAnew_68 (v := 1) (by decide) ?_
              refine r_goto (tgt := 73) d_Mm_shrunkAnew_69 (by decide) ?_
              refine r_iadd d_Mm_shrunkAnew_73 (v := nn + 1) rfl ?_
              refine r_istore_n (lv' := [(2, .int (nn + 1)), (3, .int (nI i)), (0, .ref m)]) d_Mm_shrunkAnew_74 rfl (by decide) rfl ?_
              refine r_iinc (lv' := [(3, .int (nI (i + 1))), (2, .int (nn + 1)), (0, .ref m)]) (v := nI (i + 1)) d_Mm_shrunkAnew_75 (j := 1) rfl (nI_add _ _) (by decide) rfl ?_
              refine r_goto (tgt := 32) d_Mm_shrunkAnew_78 (by decide) ?_
              exact ih (i + 1) _ _ _ _ _ _ _ _ (by omega) (by omega)
set_option maxHeartbeats 4000000 in
set_option maxRecDepth 100000 in
theorem C_Mm_shrunkAnewW (g : zG) (m mp mf mh mn mt mz mc_ mq mgr ml mi mr mm mu mk mx : Nat) (th pt cl wa co_ fi bu ho lh mg wd fpi fal : Int32) (po de : Int64) (f fl he nx mtt fz ic : Nat → Int32) (qn : Nat → Nat) (h : Int32) (hh : 1200 ≤ h ∧ h ≤ 1500) : CT g M_Mm_shrunkAnew [.ref m, .int h] [(m, .inr (12, [.int th, .ref mp, .int pt, .ref mf, .ref mh, .ref mn, .ref mt, .ref mz, .ref mc_, .ref mq, .ref mgr, .int cl, .int wa, .int co_, .int fi, .int bu, .int ho, .ref ml, .ref mi, .ref mr, .int lh, .int mg, .int wd, .int fpi, .int fal, .ref mm, .ref mu, .ref mk, .ref mx, .long po, .long de])), (mp, .inl (1, 108, .inl f)), (mf, .inl (0, 108, .inl fl)), (mh, .inl (0, 108, .inl he)), (mt, .inl (0, 108, .inl mtt)), (mz, .inl (0, 108, .inl fz)), (mn, .inl (0, 108, .inl nx)), (mc_, .inl (2, 108, .inl ic)), (mq, .inl (0, 108, .inl (fun k => nI (qn k))))] (fun o cs1 => ∃ (v9 th9 : Int32) (fl9 he9 nx9 mt9 fz9 ic9 : Nat → Int32) (qn9 : Nat → Nat), o = .inl (some (.int v9)) ∧ cs1 = [(m, .inr (12, [.int th9, .ref mp, .int pt, .ref mf, .ref mh, .ref mn, .ref mt, .ref mz, .ref mc_, .ref mq, .ref mgr, .int cl, .int wa, .int co_, .int fi, .int bu, .int ho, .ref ml, .ref mi, .ref mr, .int lh, .int mg, .int wd, .int fpi, .int fal, .ref mm, .ref mu, .ref mk, .ref mx, .long po, .long de])), (mp, .inl (1, 108, .inl f)), (mf, .inl (0, 108, .inl fl9)), (mh, .inl (0, 108, .inl he9)), (mt, .inl (0, 108, .inl mt9)), (mz, .inl (0, 108, .inl fz9)), (mn, .inl (0, 108, .inl nx9)), (mc_, .inl (2, 108, .inl ic9)), (mq, .inl (0, 108, .inl (fun k => nI (qn9 k))))]) 0 0 := by
  refine z_of (by decide) rfl (Nat.le_of_ble_eq_true rfl) (fun w0 => ?_)
  refine r_lvE (lv2 := [(0, .ref m), (1, .int h)]) rfl ?_
  refine r_aload_n d_Mm_shrunkAnew_0 rfl 0 rfl ?_
  refine r_iconst d_Mm_shrunkAnew_1 (v := 0) (by decide) ?_
  refine r_put fp_Mm_84 d_Mm_shrunkAnew_2 (fun h => nomatch h) rfl rfl (q0 := 0) rfl (Nat.le_of_ble_eq_true rfl) (cs' := [(m, .inr (12, [.int 0, .ref mp, .int pt, .ref mf, .ref mh, .ref mn, .ref mt, .ref mz, .ref mc_, .ref mq, .ref mgr, .int cl, .int wa, .int co_, .int fi, .int bu, .int ho, .ref ml, .ref mi, .ref mr, .int lh, .int mg, .int wd, .int fpi, .int fal, .ref mm, .ref mu, .ref mk, .ref mx, .long po, .long de])), (mp, .inl (1, 108, .inl f)), (mf, .inl (0, 108, .inl fl)), (mh, .inl (0, 108, .inl he)), (mt, .inl (0, 108, .inl mtt)), (mz, .inl (0, 108, .inl fz)), (mn, .inl (0, 108, .inl nx)), (mc_, .inl (2, 108, .inl ic)), (mq, .inl (0, 108, .inl (fun k => nI (qn k))))]) rfl ?_
  refine r_aload_n d_Mm_shrunkAnew_5 rfl 0 rfl ?_
  refine r_iload_n d_Mm_shrunkAnew_6 rfl 1 rfl ?_
  refine r_callS (As := [.int h]) (rest := [.ref m]) (csC := []) (is := []) ln_Mm_163 w_st_Mm_noHeat ok_Mm_shrunkAnew_Mm_noHeat d_Mm_shrunkAnew_7 (C_Mm_noHeat0 g h hh) rfl rfl (Nat.le_of_ble_eq_true rfl) rfl (by decide) (by omega) (by omega) (fun E cs1 hx => ?_) (fun v cs1 hx => ?_)
  · exact absurd hx.1 (by simp)
  · obtain ⟨e1, rfl⟩ := hx
    cases e1
    refine ⟨rfl, ?_⟩
    refine r_st (st2 := [.int 0, .ref m]) rfl ?_
    refine r_cs (cs2 := [(m, .inr (12, [.int 0, .ref mp, .int pt, .ref mf, .ref mh, .ref mn, .ref mt, .ref mz, .ref mc_, .ref mq, .ref mgr, .int cl, .int wa, .int co_, .int fi, .int bu, .int ho, .ref ml, .ref mi, .ref mr, .int lh, .int mg, .int wd, .int fpi, .int fal, .ref mm, .ref mu, .ref mk, .ref mx, .long po, .long de])), (mp, .inl (1, 108, .inl f)), (mf, .inl (0, 108, .inl fl)), (mh, .inl (0, 108, .inl he)), (mt, .inl (0, 108, .inl mtt)), (mz, .inl (0, 108, .inl fz)), (mn, .inl (0, 108, .inl nx)), (mc_, .inl (2, 108, .inl ic)), (mq, .inl (0, 108, .inl (fun k => nI (qn k))))]) rfl ?_
    refine r_iconst d_Mm_shrunkAnew_10 (v := 1) (by decide) ?_
    refine r_callV (As := [.int 0, .int 1]) (rest := []) (csC := [(m, .inr (12, [.int 0, .ref mp, .int pt, .ref mf, .ref mh, .ref mn, .ref mt, .ref mz, .ref mc_, .ref mq, .ref mgr, .int cl, .int wa, .int co_, .int fi, .int bu, .int ho, .ref ml, .ref mi, .ref mr, .int lh, .int mg, .int wd, .int fpi, .int fal, .ref mm, .ref mu, .ref mk, .ref mx, .long po, .long de]))]) (is := [0]) (q0 := 0) rfl rfl ln_Mm_103 w_im_Mm_fails w_se_Mm_fails ok_Mm_shrunkAnew_Mm_fails d_Mm_shrunkAnew_11 (C_Mm_fails0 g m mp mf mh mn mt mz mc_ mq mgr ml mi mr mm mu mk mx th pt cl wa co_ fi bu ho lh mg wd fpi fal po de 1) rfl rfl (Nat.le_of_ble_eq_true rfl) rfl (by decide) (by omega) (by omega) (fun E cs1 hx => ?_) (fun v cs1 hx => ?_)
    · exact absurd hx.1 (by simp)
    · obtain ⟨e1, rfl⟩ := hx
      cases e1
      refine ⟨rfl, ?_⟩
      refine r_st (st2 := [.int 0]) rfl ?_
      refine r_cs (cs2 := [(m, .inr (12, [.int 0, .ref mp, .int pt, .ref mf, .ref mh, .ref mn, .ref mt, .ref mz, .ref mc_, .ref mq, .ref mgr, .int cl, .int wa, .int co_, .int fi, .int bu, .int ho, .ref ml, .ref mi, .ref mr, .int lh, .int mg, .int wd, .int fpi, .int fal, .ref mm, .ref mu, .ref mk, .ref mx, .long po, .long de])), (mp, .inl (1, 108, .inl f)), (mf, .inl (0, 108, .inl fl)), (mh, .inl (0, 108, .inl he)), (mt, .inl (0, 108, .inl mtt)), (mz, .inl (0, 108, .inl fz)), (mn, .inl (0, 108, .inl nx)), (mc_, .inl (2, 108, .inl ic)), (mq, .inl (0, 108, .inl (fun k => nI (qn k))))]) rfl ?_
      refine r_if_eq (tgt := 19) d_Mm_shrunkAnew_14 (by decide) (fun c_14 => ?_) (fun c_14 => ?_)
      · refine r_aload_n d_Mm_shrunkAnew_19 rfl 0 rfl ?_
        refine r_aload_n d_Mm_shrunkAnew_20 rfl 0 rfl ?_
        refine r_get fs_Mm_7 d_Mm_shrunkAnew_21 (q0 := 0) rfl rfl ?_
        refine r_iload_n d_Mm_shrunkAnew_24 rfl 1 rfl ?_
        refine r_callV (As := [.ref mp, .int h]) (rest := []) (csC := [(m, .inr (12, [.int 0, .ref mp, .int pt, .ref mf, .ref mh, .ref mn, .ref mt, .ref mz, .ref mc_, .ref mq, .ref mgr, .int cl, .int wa, .int co_, .int fi, .int bu, .int ho, .ref ml, .ref mi, .ref mr, .int lh, .int mg, .int wd, .int fpi, .int fal, .ref mm, .ref mu, .ref mk, .ref mx, .long po, .long de])), (mp, .inl (1, 108, .inl f)), (mf, .inl (0, 108, .inl fl)), (mh, .inl (0, 108, .inl he)), (mt, .inl (0, 108, .inl mtt)), (mz, .inl (0, 108, .inl fz)), (mn, .inl (0, 108, .inl nx))]) (is := [0, 1, 2, 3, 4, 5, 6]) (q0 := 0) rfl rfl ln_Mm_167 w_im_Mm_freeze w_se_Mm_freeze ok_Mm_shrunkAnew_Mm_freeze d_Mm_shrunkAnew_25 (C_Mm_freezeW g m mp mf mh mn mt mz mc_ mq mgr ml mi mr mm mu mk mx 0 pt cl wa co_ fi bu ho lh mg wd fpi fal po de mp f fl he nx mtt fz h) rfl rfl (Nat.le_of_ble_eq_true rfl) rfl (by decide) (by omega) (by omega) (fun E cs1 hx => ?_) (fun v cs1 hx => ?_)
        · obtain ⟨fl9, he9, nx9, mt9, fz9, e1, -⟩ := hx
          cases e1
        · obtain ⟨fl9, he9, nx9, mt9, fz9, e1, rfl⟩ := hx
          cases e1
          refine ⟨rfl, ?_⟩
          refine r_st (st2 := []) rfl ?_
          refine r_cs (cs2 := [(m, .inr (12, [.int 0, .ref mp, .int pt, .ref mf, .ref mh, .ref mn, .ref mt, .ref mz, .ref mc_, .ref mq, .ref mgr, .int cl, .int wa, .int co_, .int fi, .int bu, .int ho, .ref ml, .ref mi, .ref mr, .int lh, .int mg, .int wd, .int fpi, .int fal, .ref mm, .ref mu, .ref mk, .ref mx, .long po, .long de])), (mp, .inl (1, 108, .inl f)), (mf, .inl (0, 108, .inl fl9)), (mh, .inl (0, 108, .inl he9)), (mt, .inl (0, 108, .inl mt9)), (mz, .inl (0, 108, .inl fz9)), (mn, .inl (0, 108, .inl nx9)), (mc_, .inl (2, 108, .inl ic)), (mq, .inl (0, 108, .inl (fun k => nI (qn k))))]) rfl ?_
          refine r_iconst d_Mm_shrunkAnew_28 (v := 0) (by decide) ?_
          refine r_istore_n (lv' := [(2, .int 0), (0, .ref m), (1, .int h)]) d_Mm_shrunkAnew_29 rfl (by decide) rfl ?_
          refine r_iconst d_Mm_shrunkAnew_30 (v := 0) (by decide) ?_
          refine r_istore_n (lv' := [(3, .int 0), (2, .int 0), (0, .ref m), (1, .int h)]) d_Mm_shrunkAnew_31 rfl (by decide) rfl ?_
          refine r_lv (lv' := [(3, .int 0), (2, .int 0), (0, .ref m)]) [0, 1, 2] rfl ?_
          exact L_Mm_shrunkAnewW_32 g m mp mf mh mn mt mz mc_ mq mgr ml mi mr mm mu mk mx th pt cl wa co_ fi bu ho lh mg wd fpi fal po de f fl he nx mtt fz ic qn h hh w0 _  (108 + 1) 0 _ _ _ _ _ _ _ _ (Nat.zero_le _) (by omega)
      · exact absurd c_14 (by decide)
theorem d_Mm_lastPlace_113 : decode prog_14_method_41_code 113 = .ok (.iconst 0, 1) := zo_3 (zd_b zq_prog_14_method_41_code_3 17 rfl rfl rfl)
theorem d_Mm_lastPlace_125 : decode prog_14_method_41_code 125 = .ok (.iload_n 2, 1) := zo_28 (zd_b zq_prog_14_method_41_code_3 29 rfl rfl rfl)
theorem d_Mm_lastPlace_49 : decode prog_14_method_41_code 49 = .ok (.aload_n 0, 1) := zo_42 (zd_b zq_prog_14_method_41_code_1 17 rfl rfl rfl)
theorem d_Mm_lastPlace_50 : decode prog_14_method_41_code 50 = .ok (.getfield 17, 3) := zo_180 (d := 0) (e := 17) (zd_b zq_prog_14_method_41_code_1 18 rfl rfl rfl) (zd_b zq_prog_14_method_41_code_1 19 rfl rfl rfl) (zd_b zq_prog_14_method_41_code_1 20 rfl rfl rfl)
theorem d_Mm_lastPlace_53 : decode prog_14_method_41_code 53 = .ok (.iload_n 3, 1) := zo_29 (zd_b zq_prog_14_method_41_code_1 21 rfl rfl rfl)
theorem d_Mm_lastPlace_54 : decode prog_14_method_41_code 54 = .ok (.iaload, 1) := zo_46 (zd_b zq_prog_14_method_41_code_1 22 rfl rfl rfl)
theorem d_Mm_lastPlace_55 : decode prog_14_method_41_code 55 = .ok (.iconst (-1), 1) := zo_2 (zd_b zq_prog_14_method_41_code_1 23 rfl rfl rfl)
theorem d_Mm_lastPlace_56 : decode prog_14_method_41_code 56 = .ok (.if_icmp .eq 7, 3) := zo_159 (d := 0) (e := 7) (zd_b zq_prog_14_method_41_code_1 24 rfl rfl rfl) (zd_b zq_prog_14_method_41_code_1 25 rfl rfl rfl) (zd_b zq_prog_14_method_41_code_1 26 rfl rfl rfl) (by decide +kernel)
theorem d_Mm_lastPlace_59 : decode prog_14_method_41_code 59 = .ok (.iconst 1, 1) := zo_4 (zd_b zq_prog_14_method_41_code_1 27 rfl rfl rfl)
theorem d_Mm_lastPlace_60 : decode prog_14_method_41_code 60 = .ok (.goto 4, 3) := zo_167 (d := 0) (e := 4) (zd_b zq_prog_14_method_41_code_1 28 rfl rfl rfl) (zd_b zq_prog_14_method_41_code_1 29 rfl rfl rfl) (zd_b zq_prog_14_method_41_code_1 30 rfl rfl rfl) (by decide +kernel)
theorem d_Mm_lastPlace_71 : decode prog_14_method_41_code 71 = .ok (.iload_n 2, 1) := zo_28 (zd_b zq_prog_14_method_41_code_2 7 rfl rfl rfl)
theorem d_Mm_lastPlace_72 : decode prog_14_method_41_code 72 = .ok (.iconst (-1), 1) := zo_2 (zd_b zq_prog_14_method_41_code_2 8 rfl rfl rfl)
theorem d_Mm_lastPlace_73 : decode prog_14_method_41_code 73 = .ok (.if_icmp .eq 18, 3) := zo_159 (d := 0) (e := 18) (zd_b zq_prog_14_method_41_code_2 9 rfl rfl rfl) (zd_b zq_prog_14_method_41_code_2 10 rfl rfl rfl) (zd_b zq_prog_14_method_41_code_2 11 rfl rfl rfl) (by decide +kernel)
theorem d_Mm_lastPlace_91 : decode prog_14_method_41_code 91 = .ok (.iload_n 3, 1) := zo_29 (zd_b zq_prog_14_method_41_code_2 27 rfl rfl rfl)
theorem d_Mm_lastPlace_92 : decode prog_14_method_41_code 92 = .ok (.goto 4, 3) := zo_167 (d := 0) (e := 4) (zd_b zq_prog_14_method_41_code_2 28 rfl rfl rfl) (zd_b zq_prog_14_method_41_code_2 29 rfl rfl rfl) (zd_b zq_prog_14_method_41_code_2 30 rfl rfl rfl) (by decide +kernel)
theorem d_Mm_lastPlace_76 : decode prog_14_method_41_code 76 = .ok (.aload_n 0, 1) := zo_42 (zd_b zq_prog_14_method_41_code_2 12 rfl rfl rfl)
theorem d_Mm_lastPlace_77 : decode prog_14_method_41_code 77 = .ok (.getfield 30, 3) := zo_180 (d := 0) (e := 30) (zd_b zq_prog_14_method_41_code_2 13 rfl rfl rfl) (zd_b zq_prog_14_method_41_code_2 14 rfl rfl rfl) (zd_b zq_prog_14_method_41_code_2 15 rfl rfl rfl)
theorem d_Mm_lastPlace_80 : decode prog_14_method_41_code 80 = .ok (.iload_n 3, 1) := zo_29 (zd_b zq_prog_14_method_41_code_2 16 rfl rfl rfl)
theorem d_Mm_lastPlace_81 : decode prog_14_method_41_code 81 = .ok (.iaload, 1) := zo_46 (zd_b zq_prog_14_method_41_code_2 17 rfl rfl rfl)
theorem d_Mm_lastPlace_82 : decode prog_14_method_41_code 82 = .ok (.aload_n 0, 1) := zo_42 (zd_b zq_prog_14_method_41_code_2 18 rfl rfl rfl)
theorem d_Mm_lastPlace_83 : decode prog_14_method_41_code 83 = .ok (.getfield 30, 3) := zo_180 (d := 0) (e := 30) (zd_b zq_prog_14_method_41_code_2 19 rfl rfl rfl) (zd_b zq_prog_14_method_41_code_2 20 rfl rfl rfl) (zd_b zq_prog_14_method_41_code_2 21 rfl rfl rfl)
theorem d_Mm_lastPlace_86 : decode prog_14_method_41_code 86 = .ok (.iload_n 2, 1) := zo_28 (zd_b zq_prog_14_method_41_code_2 22 rfl rfl rfl)
theorem d_Mm_lastPlace_87 : decode prog_14_method_41_code 87 = .ok (.iaload, 1) := zo_46 (zd_b zq_prog_14_method_41_code_2 23 rfl rfl rfl)
theorem d_Mm_lastPlace_88 : decode prog_14_method_41_code 88 = .ok (.if_icmp .le 7, 3) := zo_164 (d := 0) (e := 7) (zd_b zq_prog_14_method_41_code_2 24 rfl rfl rfl) (zd_b zq_prog_14_method_41_code_2 25 rfl rfl rfl) (zd_b zq_prog_14_method_41_code_2 26 rfl rfl rfl) (by decide +kernel)
set_option maxHeartbeats 4000000 in
set_option maxRecDepth 100000 in
theorem L_Mm_lastPlaceW_32 (g : zG) (m mp mf mh mn mt mz mc_ mq mgr ml mi mr mm mu mk mx : Nat) (th pt cl wa co_ fi bu ho lh mg wd fpi fal : Int32) (po de : Int64) (f fl he nx mtt fz ic : Nat → Int32) (qn : Nat → Nat) (h : Int32) (hh : 1200 ≤ h ∧ h ≤ 1500) (w0 : zW) (n : Nat) : ∀ (d i : Nat) (fl he nx mtt fz ic : Nat → Int32) (qn : Nat → Nat) (fo : Int32), i ≤ 108 → 108 < i + d → (fo = -1 ∨ ∃ c9 : Nat, c9 < 108 ∧ fo = nI c9) → DV g M_Mm_lastPlace (fun o cs1 => ∃ (v9 th9 : Int32) (fl9 he9 nx9 mt9 fz9 ic9 : Nat → Int32) (qn9 : Nat → Nat), o = .inl (some (.int v9)) ∧ cs1 = [(m, .inr (12, [.int th9, .ref mp, .int pt, .ref mf, .ref mh, .ref mn, .ref mt, .ref mz, .ref mc_, .ref mq, .ref mgr, .int cl, .int wa, .int co_, .int fi, .int bu, .int ho, .ref ml, .ref mi, .ref mr, .int lh, .int mg, .int wd, .int fpi, .int fal, .ref mm, .ref mu, .ref mk, .ref mx, .long po, .long de])), (mp, .inl (1, 108, .inl f)), (mf, .inl (0, 108, .inl fl9)), (mh, .inl (0, 108, .inl he9)), (mt, .inl (0, 108, .inl mt9)), (mz, .inl (0, 108, .inl fz9)), (mn, .inl (0, 108, .inl nx9)), (mc_, .inl (2, 108, .inl ic9)), (mq, .inl (0, 108, .inl (fun k => nI (qn9 k))))]) w0 n 32 [(3, .int (nI i)), (2, .int fo), (0, .ref m)] [] [(m, .inr (12, [.int 0, .ref mp, .int pt, .ref mf, .ref mh, .ref mn, .ref mt, .ref mz, .ref mc_, .ref mq, .ref mgr, .int cl, .int wa, .int co_, .int fi, .int bu, .int ho, .ref ml, .ref mi, .ref mr, .int lh, .int mg, .int wd, .int fpi, .int fal, .ref mm, .ref mu, .ref mk, .ref mx, .long po, .long de])), (mp, .inl (1, 108, .inl f)), (mf, .inl (0, 108, .inl fl)), (mh, .inl (0, 108, .inl he)), (mt, .inl (0, 108, .inl mtt)), (mz, .inl (0, 108, .inl fz)), (mn, .inl (0, 108, .inl nx)), (mc_, .inl (2, 108, .inl ic)), (mq, .inl (0, 108, .inl (fun k => nI (qn k))))] 0 0 := by
  intro d
  induction d with
  | zero => intro i fl he nx mtt fz ic qn fo h1 h2 v1; exact absurd h2 (by omega)
  | succ d ih =>
    intro i fl he nx mtt fz ic qn fo h1 h2 v1
    refine r_iload_n d_Mm_lastPlace_32 rfl 0 rfl ?_
    refine r_bipush d_Mm_lastPlace_33 (v := 108) (by decide) ?_
    refine r_icmp_ge (tgt := 103) d_Mm_lastPlace_35 (by decide) (fun c_35 => ?_) (fun c_35 => ?_)
    · have hn := z_le (a := 108) (by omega) (by decide) c_35
      obtain rfl : i = 108 := by omega
      refine r_aload_n d_Mm_lastPlace_103 rfl 2 rfl ?_
      refine r_iload_n d_Mm_lastPlace_104 rfl 1 rfl ?_
      refine r_iconst d_Mm_lastPlace_105 (v := (-1)) (by decide) ?_
      refine r_icmp_ne (tgt := 113) d_Mm_lastPlace_106 (by decide) (fun c_106 => ?_) (fun c_106 => ?_)
      · refine r_iconst d_Mm_lastPlace_113 (v := 0) (by decide) ?_
        refine r_iconst d_Mm_lastPlace_114 (v := 2) (by decide) ?_
        refine r_callV (As := [.int 0, .int 2]) (rest := []) (csC := [(m, .inr (12, [.int 0, .ref mp, .int pt, .ref mf, .ref mh, .ref mn, .ref mt, .ref mz, .ref mc_, .ref mq, .ref mgr, .int cl, .int wa, .int co_, .int fi, .int bu, .int ho, .ref ml, .ref mi, .ref mr, .int lh, .int mg, .int wd, .int fpi, .int fal, .ref mm, .ref mu, .ref mk, .ref mx, .long po, .long de]))]) (is := [0]) (q0 := 0) rfl rfl ln_Mm_103 w_im_Mm_fails w_se_Mm_fails ok_Mm_lastPlace_Mm_fails d_Mm_lastPlace_115 (C_Mm_fails0 g m mp mf mh mn mt mz mc_ mq mgr ml mi mr mm mu mk mx th pt cl wa co_ fi bu ho lh mg wd fpi fal po de 2) rfl rfl (Nat.le_of_ble_eq_true rfl) rfl (by decide) (by omega) (by omega) (fun E cs1 hx => ?_) (fun v cs1 hx => ?_)
        · exact absurd hx.1 (by simp)
        · obtain ⟨e1, rfl⟩ := hx
          cases e1
          refine ⟨rfl, ?_⟩
          refine r_st (st2 := [.int 0]) rfl ?_
          refine r_cs (cs2 := [(m, .inr (12, [.int 0, .ref mp, .int pt, .ref mf, .ref mh, .ref mn, .ref mt, .ref mz, .ref mc_, .ref mq, .ref mgr, .int cl, .int wa, .int co_, .int fi, .int bu, .int ho, .ref ml, .ref mi, .ref mr, .int lh, .int mg, .int wd, .int fpi, .int fal, .ref mm, .ref mu, .ref mk, .ref mx, .long po, .long de])), (mp, .inl (1, 108, .inl f)), (mf, .inl (0, 108, .inl fl)), (mh, .inl (0, 108, .inl he)), (mt, .inl (0, 108, .inl mtt)), (mz, .inl (0, 108, .inl fz)), (mn, .inl (0, 108, .inl nx)), (mc_, .inl (2, 108, .inl ic)), (mq, .inl (0, 108, .inl (fun k => nI (qn k))))]) rfl ?_
          refine r_if_eq (tgt := 125) d_Mm_lastPlace_118 (by decide) (fun c_118 => ?_) (fun c_118 => ?_)
          · refine r_iload_n d_Mm_lastPlace_125 rfl 1 rfl ?_
            refine r_iret d_Mm_lastPlace_126 rfl rfl ?_
            exact ⟨_, _, _, _, _, _, _, _, _, rfl, rfl⟩
          · exact absurd c_118 (by decide)
      · refine r_iconst d_Mm_lastPlace_109 (v := 1) (by decide) ?_
        refine r_goto (tgt := 114) d_Mm_lastPlace_110 (by decide) ?_
        refine r_iconst d_Mm_lastPlace_114 (v := 2) (by decide) ?_
        refine r_callV (As := [.int 1, .int 2]) (rest := []) (csC := [(m, .inr (12, [.int 0, .ref mp, .int pt, .ref mf, .ref mh, .ref mn, .ref mt, .ref mz, .ref mc_, .ref mq, .ref mgr, .int cl, .int wa, .int co_, .int fi, .int bu, .int ho, .ref ml, .ref mi, .ref mr, .int lh, .int mg, .int wd, .int fpi, .int fal, .ref mm, .ref mu, .ref mk, .ref mx, .long po, .long de]))]) (is := [0]) (q0 := 0) rfl rfl ln_Mm_103 w_im_Mm_fails w_se_Mm_fails ok_Mm_lastPlace_Mm_fails d_Mm_lastPlace_115 (C_Mm_fails2 g m mp mf mh mn mt mz mc_ mq mgr ml mi mr mm mu mk mx th pt cl wa co_ fi bu ho lh mg wd fpi fal po de) rfl rfl (Nat.le_of_ble_eq_true rfl) rfl (by decide) (by omega) (by omega) (fun E cs1 hx => ?_) (fun v cs1 hx => ?_)
        · exact absurd hx.1 (by simp)
        · obtain ⟨e1, rfl⟩ := hx
          cases e1
          refine ⟨rfl, ?_⟩
          refine r_st (st2 := [.int 1]) rfl ?_
          refine r_cs (cs2 := [(m, .inr (12, [.int 2, .ref mp, .int pt, .ref mf, .ref mh, .ref mn, .ref mt, .ref mz, .ref mc_, .ref mq, .ref mgr, .int cl, .int wa, .int co_, .int fi, .int bu, .int ho, .ref ml, .ref mi, .ref mr, .int lh, .int mg, .int wd, .int fpi, .int fal, .ref mm, .ref mu, .ref mk, .ref mx, .long po, .long de])), (mp, .inl (1, 108, .inl f)), (mf, .inl (0, 108, .inl fl)), (mh, .inl (0, 108, .inl he)), (mt, .inl (0, 108, .inl mtt)), (mz, .inl (0, 108, .inl fz)), (mn, .inl (0, 108, .inl nx)), (mc_, .inl (2, 108, .inl ic)), (mq, .inl (0, 108, .inl (fun k => nI (qn k))))]) rfl ?_
          refine r_if_eq (tgt := 125) d_Mm_lastPlace_118 (by decide) (fun c_118 => ?_) (fun c_118 => ?_)
          · exact absurd c_118 (by decide)
          · refine r_iconst d_Mm_lastPlace_121 (v := 0) (by decide) ?_
            refine r_goto (tgt := 126) d_Mm_lastPlace_122 (by decide) ?_
            refine r_iret d_Mm_lastPlace_126 rfl rfl ?_
            exact ⟨_, _, _, _, _, _, _, _, _, rfl, rfl⟩
    · have hn := z_nle (a := 108) (by omega) (by decide) c_35
      refine r_aload_n d_Mm_lastPlace_38 rfl 2 rfl ?_
      refine r_get fs_Mm_7 d_Mm_lastPlace_39 (q0 := 0) rfl rfl ?_
      refine r_iload_n d_Mm_lastPlace_42 rfl 0 rfl ?_
      refine r_cald d_Mm_lastPlace_43 (q0 := 1) rfl (vp_in_nI (by omega) (by omega)) (v := f i) (by rw [nI_clamp (by omega)]) ?_
      refine r_bipush d_Mm_lastPlace_44 (v := 99) (by decide) ?_
      refine r_icmp_ne (tgt := 63) d_Mm_lastPlace_46 (by decide) (fun c_46 => ?_) (fun c_46 => ?_)
      · refine r_iconst d_Mm_lastPlace_63 (v := 0) (by decide) ?_
        refine r_istore (lv' := [(4, .int 0), (3, .int (nI i)), (2, .int fo), (0, .ref m)]) d_Mm_lastPlace_64 (by decide) rfl ?_
        refine r_iload d_Mm_lastPlace_66 0 rfl ?_
        refine r_if_eq (tgt := 95) d_Mm_lastPlace_68 (by decide) (fun c_68 => ?_) (fun c_68 => ?_)
        · refine r_iload_n d_Mm_lastPlace_95 rfl 2 rfl ?_
          refine r_istore_n (lv' := [(2, .int fo), (4, .int 0), (3, .int (nI i)), (0, .ref m)]) d_Mm_lastPlace_96 rfl (by decide) rfl ?_
          refine r_iinc (lv' := [(3, .int (nI (i + 1))), (2, .int fo), (4, .int 0), (0, .ref m)]) (v := nI (i + 1)) d_Mm_lastPlace_97 (j := 2) rfl (nI_add _ _) (by decide) rfl ?_
          refine r_goto (tgt := 32) d_Mm_lastPlace_100 (by decide) ?_
          refine r_lv (lv' := [(3, .int (nI (i + 1))), (2, .int fo), (0, .ref m)]) [0, 1, 3] rfl ?_
          exact ih (i + 1) _ _ _ _ _ _ _ _ (by omega) (by omega) v1
        · exact absurd c_68 (by decide)
      · refine r_aload_n d_Mm_lastPlace_49 rfl 2 rfl ?_
        refine r_get fs_Mm_17 d_Mm_lastPlace_50 (q0 := 0) rfl rfl ?_
        refine r_iload_n d_Mm_lastPlace_53 rfl 0 rfl ?_
        refine r_iald d_Mm_lastPlace_54 (q0 := 2) rfl (vp_in_nI (by omega) (by omega)) (v := fl i) (by rw [nI_clamp (by omega)]) ?_
        refine r_iconst d_Mm_lastPlace_55 (v := (-1)) (by decide) ?_
        refine r_icmp_eq (tgt := 63) d_Mm_lastPlace_56 (by decide) (fun c_56 => ?_) (fun c_56 => ?_)
        · refine r_iconst d_Mm_lastPlace_63 (v := 0) (by decide) ?_
          refine r_istore (lv' := [(4, .int 0), (3, .int (nI i)), (2, .int fo), (0, .ref m)]) d_Mm_lastPlace_64 (by decide) rfl ?_
          refine r_iload d_Mm_lastPlace_66 0 rfl ?_
          refine r_if_eq (tgt := 95) d_Mm_lastPlace_68 (by decide) (fun c_68 => ?_) (fun c_68 => ?_)
          · refine r_iload_n d_Mm_lastPlace_95 rfl 2 rfl ?_
            refine r_istore_n (lv' := [(2, .int fo), (4, .int 0), (3, .int (nI i)), (0, .ref m)]) d_Mm_lastPlace_96 rfl (by decide) rfl ?_
            refine r_iinc (lv' := [(3, .int (nI (i + 1))), (2, .int fo), (4, .int 0), (0, .ref m)]) (v := nI (i + 1)) d_Mm_lastPlace_97 (j := 2) rfl (nI_add _ _) (by decide) rfl ?_
            refine r_goto (tgt := 32) d_Mm_lastPlace_100 (by decide) ?_
            refine r_lv (lv' := [(3, .int (nI (i + 1))), (2, .int fo), (0, .ref m)]) [0, 1, 3] rfl ?_
            exact ih (i + 1) _ _ _ _ _ _ _ _ (by omega) (by omega) v1
          · exact absurd c_68 (by decide)
        · refine r_iconst d_Mm_lastPlace_59 (v := 1) (by decide) ?_
          refine r_goto (tgt := 64) d_Mm_lastPlace_60 (by decide) ?_
          refine r_istore (lv' := [(4, .int 1), (3, .int (nI i)), (2, .int fo), (0, .ref m)]) d_Mm_lastPlace_64 (by decide) rfl ?_
          refine r_iload d_Mm_lastPlace_66 0 rfl ?_
          refine r_if_eq (tgt := 95) d_Mm_lastPlace_68 (by decide) (fun c_68 => ?_) (fun c_68 => ?_)
          · exact absurd c_68 (by decide)
          · refine r_iload_n d_Mm_lastPlace_71 rfl 2 rfl ?_
            refine r_iconst d_Mm_lastPlace_72 (v := (-1)) (by decide) ?_
            refine r_icmp_eq (tgt := 91) d_Mm_lastPlace_73 (by decide) (fun c_73 => ?_) (fun c_73 => ?_)
            · refine r_iload_n d_Mm_lastPlace_91 rfl 1 rfl ?_
              refine r_goto (tgt := 96) d_Mm_lastPlace_92 (by decide) ?_
              refine r_istore_n (lv' := [(2, .int (nI i)), (4, .int 1), (3, .int (nI i)), (0, .ref m)]) d_Mm_lastPlace_96 rfl (by decide) rfl ?_
              refine r_iinc (lv' := [(3, .int (nI (i + 1))), (2, .int (nI i)), (4, .int 1), (0, .ref m)]) (v := nI (i + 1)) d_Mm_lastPlace_97 (j := 2) rfl (nI_add _ _) (by decide) rfl ?_
              refine r_goto (tgt := 32) d_Mm_lastPlace_100 (by decide) ?_
              refine r_lv (lv' := [(3, .int (nI (i + 1))), (2, .int (nI i)), (0, .ref m)]) [0, 1, 3] rfl ?_
              exact ih (i + 1) _ _ _ _ _ _ _ _ (by omega) (by omega) (Or.inr ⟨i, by omega, rfl⟩)
            · obtain ⟨c9, hc9, rfl⟩ := v1.resolve_left c_73
              refine r_aload_n d_Mm_lastPlace_76 rfl 3 rfl ?_
              refine r_get fs_Mm_30 d_Mm_lastPlace_77 (q0 := 0) rfl rfl ?_
              refine r_iload_n d_Mm_lastPlace_80 rfl 1 rfl ?_
              refine r_iald d_Mm_lastPlace_81 (q0 := 5) rfl (vp_in_nI (by omega) (by omega)) (v := fz i) (by rw [nI_clamp (by omega)]) ?_
              refine r_aload_n d_Mm_lastPlace_82 rfl 3 rfl ?_
              refine r_get fs_Mm_30 d_Mm_lastPlace_83 (q0 := 0) rfl rfl ?_
              refine r_iload_n d_Mm_lastPlace_86 rfl 2 rfl ?_
              refine r_iald d_Mm_lastPlace_87 (q0 := 5) rfl (vp_in_nI (by omega) (by omega)) (v := fz c9) (by rw [nI_clamp (by omega)]) ?_
              refine r_icmp_le (tgt := 95) d_Mm_lastPlace_88 (by decide) (fun c_88 => ?_) (fun c_88 => ?_)
              · refine r_iload_n d_Mm_lastPlace_95 rfl 2 rfl ?_
                refine r_istore_n (lv' := [(2, .int (nI c9)), (4, .int 1), (3, .int (nI i)), (0, .ref m)]) d_Mm_lastPlace_96 rfl (by decide) rfl ?_
                refine r_iinc (lv' := [(3, .int (nI (i + 1))), (2, .int (nI c9)), (4, .int 1), (0, .ref m)]) (v := nI (i + 1)) d_Mm_lastPlace_97 (j := 2) rfl (nI_add _ _) (by decide) rfl ?_
                refine r_goto (tgt := 32) d_Mm_lastPlace_100 (by decide) ?_
                refine r_lv (lv' := [(3, .int (nI (i + 1))), (2, .int (nI c9)), (0, .ref m)]) [0, 1, 3] rfl ?_
                exact ih (i + 1) _ _ _ _ _ _ _ _ (by omega) (by omega) (Or.inr ⟨c9, hc9, rfl⟩)
              · refine r_iload_n d_Mm_lastPlace_91 rfl 1 rfl ?_
                refine r_goto (tgt := 96) d_Mm_lastPlace_92 (by decide) ?_
                refine r_istore_n (lv' := [(2, .int (nI i)), (4, .int 1), (3, .int (nI i)), (0, .ref m)]) d_Mm_lastPlace_96 rfl (by decide) rfl ?_
                refine r_iinc (lv' := [(3, .int (nI (i + 1))), (2, .int (nI i)), (4, .int 1), (0, .ref m)]) (v := nI (i + 1)) d_Mm_lastPlace_97 (j := 2) rfl (nI_add _ _) (by decide) rfl ?_
                refine r_goto (tgt := 32) d_Mm_lastPlace_100 (by decide) ?_
                refine r_lv (lv' := [(3, .int (nI (i + 1))), (2, .int (nI i)), (0, .ref m)]) [0, 1, 3] rfl ?_
                exact ih (i + 1) _ _ _ _ _ _ _ _ (by omega) (by omega) (Or.inr ⟨i, by omega, rfl⟩)
set_option maxHeartbeats 4000000 in
set_option maxRecDepth 100000 in
theorem C_Mm_lastPlaceW (g : zG) (m mp mf mh mn mt mz mc_ mq mgr ml mi mr mm mu mk mx : Nat) (th pt cl wa co_ fi bu ho lh mg wd fpi fal : Int32) (po de : Int64) (f fl he nx mtt fz ic : Nat → Int32) (qn : Nat → Nat) (h : Int32) (hh : 1200 ≤ h ∧ h ≤ 1500) : CT g M_Mm_lastPlace [.ref m, .int h] [(m, .inr (12, [.int th, .ref mp, .int pt, .ref mf, .ref mh, .ref mn, .ref mt, .ref mz, .ref mc_, .ref mq, .ref mgr, .int cl, .int wa, .int co_, .int fi, .int bu, .int ho, .ref ml, .ref mi, .ref mr, .int lh, .int mg, .int wd, .int fpi, .int fal, .ref mm, .ref mu, .ref mk, .ref mx, .long po, .long de])), (mp, .inl (1, 108, .inl f)), (mf, .inl (0, 108, .inl fl)), (mh, .inl (0, 108, .inl he)), (mt, .inl (0, 108, .inl mtt)), (mz, .inl (0, 108, .inl fz)), (mn, .inl (0, 108, .inl nx)), (mc_, .inl (2, 108, .inl ic)), (mq, .inl (0, 108, .inl (fun k => nI (qn k))))] (fun o cs1 => ∃ (v9 th9 : Int32) (fl9 he9 nx9 mt9 fz9 ic9 : Nat → Int32) (qn9 : Nat → Nat), o = .inl (some (.int v9)) ∧ cs1 = [(m, .inr (12, [.int th9, .ref mp, .int pt, .ref mf, .ref mh, .ref mn, .ref mt, .ref mz, .ref mc_, .ref mq, .ref mgr, .int cl, .int wa, .int co_, .int fi, .int bu, .int ho, .ref ml, .ref mi, .ref mr, .int lh, .int mg, .int wd, .int fpi, .int fal, .ref mm, .ref mu, .ref mk, .ref mx, .long po, .long de])), (mp, .inl (1, 108, .inl f)), (mf, .inl (0, 108, .inl fl9)), (mh, .inl (0, 108, .inl he9)), (mt, .inl (0, 108, .inl mt9)), (mz, .inl (0, 108, .inl fz9)), (mn, .inl (0, 108, .inl nx9)), (mc_, .inl (2, 108, .inl ic9)), (mq, .inl (0, 108, .inl (fun k => nI (qn9 k))))]) 0 0 := by
  refine z_of (by decide) rfl (Nat.le_of_ble_eq_true rfl) (fun w0 => ?_)
  refine r_lvE (lv2 := [(0, .ref m), (1, .int h)]) rfl ?_
  refine r_aload_n d_Mm_lastPlace_0 rfl 0 rfl ?_
  refine r_iconst d_Mm_lastPlace_1 (v := 0) (by decide) ?_
  refine r_put fp_Mm_84 d_Mm_lastPlace_2 (fun h => nomatch h) rfl rfl (q0 := 0) rfl (Nat.le_of_ble_eq_true rfl) (cs' := [(m, .inr (12, [.int 0, .ref mp, .int pt, .ref mf, .ref mh, .ref mn, .ref mt, .ref mz, .ref mc_, .ref mq, .ref mgr, .int cl, .int wa, .int co_, .int fi, .int bu, .int ho, .ref ml, .ref mi, .ref mr, .int lh, .int mg, .int wd, .int fpi, .int fal, .ref mm, .ref mu, .ref mk, .ref mx, .long po, .long de])), (mp, .inl (1, 108, .inl f)), (mf, .inl (0, 108, .inl fl)), (mh, .inl (0, 108, .inl he)), (mt, .inl (0, 108, .inl mtt)), (mz, .inl (0, 108, .inl fz)), (mn, .inl (0, 108, .inl nx)), (mc_, .inl (2, 108, .inl ic)), (mq, .inl (0, 108, .inl (fun k => nI (qn k))))]) rfl ?_
  refine r_aload_n d_Mm_lastPlace_5 rfl 0 rfl ?_
  refine r_iload_n d_Mm_lastPlace_6 rfl 1 rfl ?_
  refine r_callS (As := [.int h]) (rest := [.ref m]) (csC := []) (is := []) ln_Mm_163 w_st_Mm_noHeat ok_Mm_lastPlace_Mm_noHeat d_Mm_lastPlace_7 (C_Mm_noHeat0 g h hh) rfl rfl (Nat.le_of_ble_eq_true rfl) rfl (by decide) (by omega) (by omega) (fun E cs1 hx => ?_) (fun v cs1 hx => ?_)
  · exact absurd hx.1 (by simp)
  · obtain ⟨e1, rfl⟩ := hx
    cases e1
    refine ⟨rfl, ?_⟩
    refine r_st (st2 := [.int 0, .ref m]) rfl ?_
    refine r_cs (cs2 := [(m, .inr (12, [.int 0, .ref mp, .int pt, .ref mf, .ref mh, .ref mn, .ref mt, .ref mz, .ref mc_, .ref mq, .ref mgr, .int cl, .int wa, .int co_, .int fi, .int bu, .int ho, .ref ml, .ref mi, .ref mr, .int lh, .int mg, .int wd, .int fpi, .int fal, .ref mm, .ref mu, .ref mk, .ref mx, .long po, .long de])), (mp, .inl (1, 108, .inl f)), (mf, .inl (0, 108, .inl fl)), (mh, .inl (0, 108, .inl he)), (mt, .inl (0, 108, .inl mtt)), (mz, .inl (0, 108, .inl fz)), (mn, .inl (0, 108, .inl nx)), (mc_, .inl (2, 108, .inl ic)), (mq, .inl (0, 108, .inl (fun k => nI (qn k))))]) rfl ?_
    refine r_iconst d_Mm_lastPlace_10 (v := 1) (by decide) ?_
    refine r_callV (As := [.int 0, .int 1]) (rest := []) (csC := [(m, .inr (12, [.int 0, .ref mp, .int pt, .ref mf, .ref mh, .ref mn, .ref mt, .ref mz, .ref mc_, .ref mq, .ref mgr, .int cl, .int wa, .int co_, .int fi, .int bu, .int ho, .ref ml, .ref mi, .ref mr, .int lh, .int mg, .int wd, .int fpi, .int fal, .ref mm, .ref mu, .ref mk, .ref mx, .long po, .long de]))]) (is := [0]) (q0 := 0) rfl rfl ln_Mm_103 w_im_Mm_fails w_se_Mm_fails ok_Mm_lastPlace_Mm_fails d_Mm_lastPlace_11 (C_Mm_fails0 g m mp mf mh mn mt mz mc_ mq mgr ml mi mr mm mu mk mx th pt cl wa co_ fi bu ho lh mg wd fpi fal po de 1) rfl rfl (Nat.le_of_ble_eq_true rfl) rfl (by decide) (by omega) (by omega) (fun E cs1 hx => ?_) (fun v cs1 hx => ?_)
    · exact absurd hx.1 (by simp)
    · obtain ⟨e1, rfl⟩ := hx
      cases e1
      refine ⟨rfl, ?_⟩
      refine r_st (st2 := [.int 0]) rfl ?_
      refine r_cs (cs2 := [(m, .inr (12, [.int 0, .ref mp, .int pt, .ref mf, .ref mh, .ref mn, .ref mt, .ref mz, .ref mc_, .ref mq, .ref mgr, .int cl, .int wa, .int co_, .int fi, .int bu, .int ho, .ref ml, .ref mi, .ref mr, .int lh, .int mg, .int wd, .int fpi, .int fal, .ref mm, .ref mu, .ref mk, .ref mx, .long po, .long de])), (mp, .inl (1, 108, .inl f)), (mf, .inl (0, 108, .inl fl)), (mh, .inl (0, 108, .inl he)), (mt, .inl (0, 108, .inl mtt)), (mz, .inl (0, 108, .inl fz)), (mn, .inl (0, 108, .inl nx)), (mc_, .inl (2, 108, .inl ic)), (mq, .inl (0, 108, .inl (fun k => nI (qn k))))]) rfl ?_
      refine r_if_eq (tgt := 19) d_Mm_lastPlace_14 (by decide) (fun c_14 => ?_) (fun c_14 => ?_)
      · refine r_aload_n d_Mm_lastPlace_19 rfl 0 rfl ?_
        refine r_aload_n d_Mm_lastPlace_20 rfl 0 rfl ?_
        refine r_get fs_Mm_7 d_Mm_lastPlace_21 (q0 := 0) rfl rfl ?_
        refine r_iload_n d_Mm_lastPlace_24 rfl 1 rfl ?_
        refine r_callV (As := [.ref mp, .int h]) (rest := []) (csC := [(m, .inr (12, [.int 0, .ref mp, .int pt, .ref mf, .ref mh, .ref mn, .ref mt, .ref mz, .ref mc_, .ref mq, .ref mgr, .int cl, .int wa, .int co_, .int fi, .int bu, .int ho, .ref ml, .ref mi, .ref mr, .int lh, .int mg, .int wd, .int fpi, .int fal, .ref mm, .ref mu, .ref mk, .ref mx, .long po, .long de])), (mp, .inl (1, 108, .inl f)), (mf, .inl (0, 108, .inl fl)), (mh, .inl (0, 108, .inl he)), (mt, .inl (0, 108, .inl mtt)), (mz, .inl (0, 108, .inl fz)), (mn, .inl (0, 108, .inl nx))]) (is := [0, 1, 2, 3, 4, 5, 6]) (q0 := 0) rfl rfl ln_Mm_167 w_im_Mm_freeze w_se_Mm_freeze ok_Mm_lastPlace_Mm_freeze d_Mm_lastPlace_25 (C_Mm_freezeW g m mp mf mh mn mt mz mc_ mq mgr ml mi mr mm mu mk mx 0 pt cl wa co_ fi bu ho lh mg wd fpi fal po de mp f fl he nx mtt fz h) rfl rfl (Nat.le_of_ble_eq_true rfl) rfl (by decide) (by omega) (by omega) (fun E cs1 hx => ?_) (fun v cs1 hx => ?_)
        · obtain ⟨fl9, he9, nx9, mt9, fz9, e1, -⟩ := hx
          cases e1
        · obtain ⟨fl9, he9, nx9, mt9, fz9, e1, rfl⟩ := hx
          cases e1
          refine ⟨rfl, ?_⟩
          refine r_st (st2 := []) rfl ?_
          refine r_cs (cs2 := [(m, .inr (12, [.int 0, .ref mp, .int pt, .ref mf, .ref mh, .ref mn, .ref mt, .ref mz, .ref mc_, .ref mq, .ref mgr, .int cl, .int wa, .int co_, .int fi, .int bu, .int ho, .ref ml, .ref mi, .ref mr, .int lh, .int mg, .int wd, .int fpi, .int fal, .ref mm, .ref mu, .ref mk, .ref mx, .long po, .long de])), (mp, .inl (1, 108, .inl f)), (mf, .inl (0, 108, .inl fl9)), (mh, .inl (0, 108, .inl he9)), (mt, .inl (0, 108, .inl mt9)), (mz, .inl (0, 108, .inl fz9)), (mn, .inl (0, 108, .inl nx9)), (mc_, .inl (2, 108, .inl ic)), (mq, .inl (0, 108, .inl (fun k => nI (qn k))))]) rfl ?_
          refine r_iconst d_Mm_lastPlace_28 (v := (-1)) (by decide) ?_
          refine r_istore_n (lv' := [(2, .int (-1)), (0, .ref m), (1, .int h)]) d_Mm_lastPlace_29 rfl (by decide) rfl ?_
          refine r_iconst d_Mm_lastPlace_30 (v := 0) (by decide) ?_
          refine r_istore_n (lv' := [(3, .int 0), (2, .int (-1)), (0, .ref m), (1, .int h)]) d_Mm_lastPlace_31 rfl (by decide) rfl ?_
          refine r_lv (lv' := [(3, .int 0), (2, .int (-1)), (0, .ref m)]) [0, 1, 2] rfl ?_
          exact L_Mm_lastPlaceW_32 g m mp mf mh mn mt mz mc_ mq mgr ml mi mr mm mu mk mx th pt cl wa co_ fi bu ho lh mg wd fpi fal po de f fl he nx mtt fz ic qn h hh w0 _  (108 + 1) 0 _ _ _ _ _ _ _ _ (Nat.zero_le _) (by omega) (Or.inl rfl)
      · exact absurd c_14 (by decide)
theorem d_Mm_bestFeeder_127 : decode prog_14_method_43_code 127 = .ok (.iconst 0, 1) := zo_3 (zd_b zq_prog_14_method_43_code_3 31 rfl rfl rfl)
theorem d_Mm_bestFeeder_139 : decode prog_14_method_43_code 139 = .ok (.iload_n 2, 1) := zo_28 (zd_b zq_prog_14_method_43_code_4 11 rfl rfl rfl)
theorem d_Mm_bestFeeder_62 : decode prog_14_method_43_code 62 = .ok (.aload_n 0, 1) := zo_42 (zd_b zq_prog_14_method_43_code_1 30 rfl rfl rfl)
theorem d_Mm_bestFeeder_63 : decode prog_14_method_43_code 63 = .ok (.getfield 7, 3) := zo_180 (d := 0) (e := 7) (zd_b zq_prog_14_method_43_code_1 31 rfl rfl rfl) (zd_b zq_prog_14_method_43_code_2 0 rfl rfl rfl) (zd_b zq_prog_14_method_43_code_2 1 rfl rfl rfl)
theorem d_Mm_bestFeeder_66 : decode prog_14_method_43_code 66 = .ok (.iload 4, 2) := zo_21 (d := 4) (zd_b zq_prog_14_method_43_code_2 2 rfl rfl rfl) (zd_b zq_prog_14_method_43_code_2 3 rfl rfl rfl)
theorem d_Mm_bestFeeder_68 : decode prog_14_method_43_code 68 = .ok (.bipush 114, 2) := zo_16 (d := 114) (zd_b zq_prog_14_method_43_code_2 4 rfl rfl rfl) (zd_b zq_prog_14_method_43_code_2 5 rfl rfl rfl) (by decide +kernel)
theorem d_Mm_bestFeeder_70 : decode prog_14_method_43_code 70 = .ok (.castore, 1) := zo_85 (zd_b zq_prog_14_method_43_code_2 6 rfl rfl rfl)
theorem d_Mm_bestFeeder_71 : decode prog_14_method_43_code 71 = .ok (.aload_n 0, 1) := zo_42 (zd_b zq_prog_14_method_43_code_2 7 rfl rfl rfl)
theorem d_Mm_bestFeeder_72 : decode prog_14_method_43_code 72 = .ok (.aload_n 0, 1) := zo_42 (zd_b zq_prog_14_method_43_code_2 8 rfl rfl rfl)
theorem d_Mm_bestFeeder_73 : decode prog_14_method_43_code 73 = .ok (.getfield 7, 3) := zo_180 (d := 0) (e := 7) (zd_b zq_prog_14_method_43_code_2 9 rfl rfl rfl) (zd_b zq_prog_14_method_43_code_2 10 rfl rfl rfl) (zd_b zq_prog_14_method_43_code_2 11 rfl rfl rfl)
theorem d_Mm_bestFeeder_76 : decode prog_14_method_43_code 76 = .ok (.iload_n 1, 1) := zo_27 (zd_b zq_prog_14_method_43_code_2 12 rfl rfl rfl)
theorem d_Mm_bestFeeder_77 : decode prog_14_method_43_code 77 = .ok (.invokevirtual 173, 3) := zo_182 (d := 0) (e := 173) (zd_b zq_prog_14_method_43_code_2 13 rfl rfl rfl) (zd_b zq_prog_14_method_43_code_2 14 rfl rfl rfl) (zd_b zq_prog_14_method_43_code_2 15 rfl rfl rfl)
theorem d_Mm_bestFeeder_80 : decode prog_14_method_43_code 80 = .ok (.istore 5, 2) := zo_54 (d := 5) (zd_b zq_prog_14_method_43_code_2 16 rfl rfl rfl) (zd_b zq_prog_14_method_43_code_2 17 rfl rfl rfl)
theorem d_Mm_bestFeeder_82 : decode prog_14_method_43_code 82 = .ok (.aload_n 0, 1) := zo_42 (zd_b zq_prog_14_method_43_code_2 18 rfl rfl rfl)
theorem d_Mm_bestFeeder_83 : decode prog_14_method_43_code 83 = .ok (.getfield 7, 3) := zo_180 (d := 0) (e := 7) (zd_b zq_prog_14_method_43_code_2 19 rfl rfl rfl) (zd_b zq_prog_14_method_43_code_2 20 rfl rfl rfl) (zd_b zq_prog_14_method_43_code_2 21 rfl rfl rfl)
theorem d_Mm_bestFeeder_86 : decode prog_14_method_43_code 86 = .ok (.iload 4, 2) := zo_21 (d := 4) (zd_b zq_prog_14_method_43_code_2 22 rfl rfl rfl) (zd_b zq_prog_14_method_43_code_2 23 rfl rfl rfl)
theorem d_Mm_bestFeeder_88 : decode prog_14_method_43_code 88 = .ok (.bipush 46, 2) := zo_16 (d := 46) (zd_b zq_prog_14_method_43_code_2 24 rfl rfl rfl) (zd_b zq_prog_14_method_43_code_2 25 rfl rfl rfl) (by decide +kernel)
theorem d_Mm_bestFeeder_90 : decode prog_14_method_43_code 90 = .ok (.castore, 1) := zo_85 (zd_b zq_prog_14_method_43_code_2 26 rfl rfl rfl)
theorem d_Mm_bestFeeder_91 : decode prog_14_method_43_code 91 = .ok (.iload 5, 2) := zo_21 (d := 5) (zd_b zq_prog_14_method_43_code_2 27 rfl rfl rfl) (zd_b zq_prog_14_method_43_code_2 28 rfl rfl rfl)
theorem d_Mm_bestFeeder_93 : decode prog_14_method_43_code 93 = .ok (.iload_n 3, 1) := zo_29 (zd_b zq_prog_14_method_43_code_2 29 rfl rfl rfl)
theorem d_Mm_bestFeeder_94 : decode prog_14_method_43_code 94 = .ok (.if_icmp .ge 8, 3) := zo_162 (d := 0) (e := 8) (zd_b zq_prog_14_method_43_code_2 30 rfl rfl rfl) (zd_b zq_prog_14_method_43_code_2 31 rfl rfl rfl) (zd_b zq_prog_14_method_43_code_3 0 rfl rfl rfl) (by decide +kernel)
theorem d_Mm_bestFeeder_102 : decode prog_14_method_43_code 102 = .ok (.iload_n 2, 1) := zo_28 (zd_b zq_prog_14_method_43_code_3 6 rfl rfl rfl)
theorem d_Mm_bestFeeder_103 : decode prog_14_method_43_code 103 = .ok (.istore_n 2, 1) := zo_61 (zd_b zq_prog_14_method_43_code_3 7 rfl rfl rfl)
theorem d_Mm_bestFeeder_104 : decode prog_14_method_43_code 104 = .ok (.iload_n 3, 1) := zo_29 (zd_b zq_prog_14_method_43_code_3 8 rfl rfl rfl)
theorem d_Mm_bestFeeder_105 : decode prog_14_method_43_code 105 = .ok (.iload 5, 2) := zo_21 (d := 5) (zd_b zq_prog_14_method_43_code_3 9 rfl rfl rfl) (zd_b zq_prog_14_method_43_code_3 10 rfl rfl rfl)
theorem d_Mm_bestFeeder_107 : decode prog_14_method_43_code 107 = .ok (.invokestatic 182, 3) := zo_184 (d := 0) (e := 182) (zd_b zq_prog_14_method_43_code_3 11 rfl rfl rfl) (zd_b zq_prog_14_method_43_code_3 12 rfl rfl rfl) (zd_b zq_prog_14_method_43_code_3 13 rfl rfl rfl)
theorem d_Mm_bestFeeder_110 : decode prog_14_method_43_code 110 = .ok (.istore_n 3, 1) := zo_62 (zd_b zq_prog_14_method_43_code_3 14 rfl rfl rfl)
theorem d_Mm_bestFeeder_97 : decode prog_14_method_43_code 97 = .ok (.iload 4, 2) := zo_21 (d := 4) (zd_b zq_prog_14_method_43_code_3 1 rfl rfl rfl) (zd_b zq_prog_14_method_43_code_3 2 rfl rfl rfl)
theorem d_Mm_bestFeeder_99 : decode prog_14_method_43_code 99 = .ok (.goto 4, 3) := zo_167 (d := 0) (e := 4) (zd_b zq_prog_14_method_43_code_3 3 rfl rfl rfl) (zd_b zq_prog_14_method_43_code_3 4 rfl rfl rfl) (zd_b zq_prog_14_method_43_code_3 5 rfl rfl rfl) (by decide +kernel)
set_option maxHeartbeats 4000000 in
set_option maxRecDepth 100000 in
theorem L_Mm_bestFeederW_34 (g : zG) (m mp mf mh mn mt mz mc_ mq mgr ml mi mr mm mu mk mx : Nat) (th pt cl wa co_ fi bu ho lh mg wd fpi fal : Int32) (po de : Int64) (f fl he nx mtt fz ic : Nat → Int32) (qn : Nat → Nat) (h : Int32) (hh : 1200 ≤ h ∧ h ≤ 1500) (w0 : zW) (n : Nat) : ∀ (d i : Nat) (fl he nx mtt fz ic : Nat → Int32) (qn : Nat → Nat) (few fo : Int32), i ≤ 108 → 108 < i + d → DV g M_Mm_bestFeeder (fun o cs1 => ∃ (v9 th9 : Int32) (fl9 he9 nx9 mt9 fz9 ic9 : Nat → Int32) (qn9 : Nat → Nat), o = .inl (some (.int v9)) ∧ cs1 = [(m, .inr (12, [.int th9, .ref mp, .int pt, .ref mf, .ref mh, .ref mn, .ref mt, .ref mz, .ref mc_, .ref mq, .ref mgr, .int cl, .int wa, .int co_, .int fi, .int bu, .int ho, .ref ml, .ref mi, .ref mr, .int lh, .int mg, .int wd, .int fpi, .int fal, .ref mm, .ref mu, .ref mk, .ref mx, .long po, .long de])), (mp, .inl (1, 108, .inl f)), (mf, .inl (0, 108, .inl fl9)), (mh, .inl (0, 108, .inl he9)), (mt, .inl (0, 108, .inl mt9)), (mz, .inl (0, 108, .inl fz9)), (mn, .inl (0, 108, .inl nx9)), (mc_, .inl (2, 108, .inl ic9)), (mq, .inl (0, 108, .inl (fun k => nI (qn9 k))))]) w0 n 34 [(4, .int (nI i)), (3, .int few), (2, .int fo), (0, .ref m), (1, .int h)] [] [(m, .inr (12, [.int 0, .ref mp, .int pt, .ref mf, .ref mh, .ref mn, .ref mt, .ref mz, .ref mc_, .ref mq, .ref mgr, .int cl, .int wa, .int co_, .int fi, .int bu, .int ho, .ref ml, .ref mi, .ref mr, .int lh, .int mg, .int wd, .int fpi, .int fal, .ref mm, .ref mu, .ref mk, .ref mx, .long po, .long de])), (mp, .inl (1, 108, .inl f)), (mf, .inl (0, 108, .inl fl)), (mh, .inl (0, 108, .inl he)), (mt, .inl (0, 108, .inl mtt)), (mz, .inl (0, 108, .inl fz)), (mn, .inl (0, 108, .inl nx)), (mc_, .inl (2, 108, .inl ic)), (mq, .inl (0, 108, .inl (fun k => nI (qn k))))] 0 0 := by
  intro d
  induction d with
  | zero => intro i fl he nx mtt fz ic qn few fo h1 h2 ; exact absurd h2 (by omega)
  | succ d ih =>
    intro i fl he nx mtt fz ic qn few fo h1 h2 
    refine r_iload d_Mm_bestFeeder_34 0 rfl ?_
    refine r_bipush d_Mm_bestFeeder_36 (v := 108) (by decide) ?_
    refine r_icmp_ge (tgt := 117) d_Mm_bestFeeder_38 (by decide) (fun c_38 => ?_) (fun c_38 => ?_)
    · have hn := z_le (a := 108) (by omega) (by decide) c_38
      obtain rfl : i = 108 := by omega
      refine r_aload_n d_Mm_bestFeeder_117 rfl 3 rfl ?_
      refine r_iload_n d_Mm_bestFeeder_118 rfl 2 rfl ?_
      refine r_iconst d_Mm_bestFeeder_119 (v := (-1)) (by decide) ?_
      refine r_icmp_ne (tgt := 127) d_Mm_bestFeeder_120 (by decide) (fun c_120 => ?_) (fun c_120 => ?_)
      · refine r_iconst d_Mm_bestFeeder_127 (v := 0) (by decide) ?_
        refine r_iconst d_Mm_bestFeeder_128 (v := 2) (by decide) ?_
        refine r_callV (As := [.int 0, .int 2]) (rest := []) (csC := [(m, .inr (12, [.int 0, .ref mp, .int pt, .ref mf, .ref mh, .ref mn, .ref mt, .ref mz, .ref mc_, .ref mq, .ref mgr, .int cl, .int wa, .int co_, .int fi, .int bu, .int ho, .ref ml, .ref mi, .ref mr, .int lh, .int mg, .int wd, .int fpi, .int fal, .ref mm, .ref mu, .ref mk, .ref mx, .long po, .long de]))]) (is := [0]) (q0 := 0) rfl rfl ln_Mm_103 w_im_Mm_fails w_se_Mm_fails ok_Mm_bestFeeder_Mm_fails d_Mm_bestFeeder_129 (C_Mm_fails0 g m mp mf mh mn mt mz mc_ mq mgr ml mi mr mm mu mk mx th pt cl wa co_ fi bu ho lh mg wd fpi fal po de 2) rfl rfl (Nat.le_of_ble_eq_true rfl) rfl (by decide) (by omega) (by omega) (fun E cs1 hx => ?_) (fun v cs1 hx => ?_)
        · exact absurd hx.1 (by simp)
        · obtain ⟨e1, rfl⟩ := hx
          cases e1
          refine ⟨rfl, ?_⟩
          refine r_st (st2 := [.int 0]) rfl ?_
          refine r_cs (cs2 := [(m, .inr (12, [.int 0, .ref mp, .int pt, .ref mf, .ref mh, .ref mn, .ref mt, .ref mz, .ref mc_, .ref mq, .ref mgr, .int cl, .int wa, .int co_, .int fi, .int bu, .int ho, .ref ml, .ref mi, .ref mr, .int lh, .int mg, .int wd, .int fpi, .int fal, .ref mm, .ref mu, .ref mk, .ref mx, .long po, .long de])), (mp, .inl (1, 108, .inl f)), (mf, .inl (0, 108, .inl fl)), (mh, .inl (0, 108, .inl he)), (mt, .inl (0, 108, .inl mtt)), (mz, .inl (0, 108, .inl fz)), (mn, .inl (0, 108, .inl nx)), (mc_, .inl (2, 108, .inl ic)), (mq, .inl (0, 108, .inl (fun k => nI (qn k))))]) rfl ?_
          refine r_if_eq (tgt := 139) d_Mm_bestFeeder_132 (by decide) (fun c_132 => ?_) (fun c_132 => ?_)
          · refine r_iload_n d_Mm_bestFeeder_139 rfl 2 rfl ?_
            refine r_iret d_Mm_bestFeeder_140 rfl rfl ?_
            exact ⟨_, _, _, _, _, _, _, _, _, rfl, rfl⟩
          · exact absurd c_132 (by decide)
      · refine r_iconst d_Mm_bestFeeder_123 (v := 1) (by decide) ?_
        refine r_goto (tgt := 128) d_Mm_bestFeeder_124 (by decide) ?_
        refine r_iconst d_Mm_bestFeeder_128 (v := 2) (by decide) ?_
        refine r_callV (As := [.int 1, .int 2]) (rest := []) (csC := [(m, .inr (12, [.int 0, .ref mp, .int pt, .ref mf, .ref mh, .ref mn, .ref mt, .ref mz, .ref mc_, .ref mq, .ref mgr, .int cl, .int wa, .int co_, .int fi, .int bu, .int ho, .ref ml, .ref mi, .ref mr, .int lh, .int mg, .int wd, .int fpi, .int fal, .ref mm, .ref mu, .ref mk, .ref mx, .long po, .long de]))]) (is := [0]) (q0 := 0) rfl rfl ln_Mm_103 w_im_Mm_fails w_se_Mm_fails ok_Mm_bestFeeder_Mm_fails d_Mm_bestFeeder_129 (C_Mm_fails2 g m mp mf mh mn mt mz mc_ mq mgr ml mi mr mm mu mk mx th pt cl wa co_ fi bu ho lh mg wd fpi fal po de) rfl rfl (Nat.le_of_ble_eq_true rfl) rfl (by decide) (by omega) (by omega) (fun E cs1 hx => ?_) (fun v cs1 hx => ?_)
        · exact absurd hx.1 (by simp)
        · obtain ⟨e1, rfl⟩ := hx
          cases e1
          refine ⟨rfl, ?_⟩
          refine r_st (st2 := [.int 1]) rfl ?_
          refine r_cs (cs2 := [(m, .inr (12, [.int 2, .ref mp, .int pt, .ref mf, .ref mh, .ref mn, .ref mt, .ref mz, .ref mc_, .ref mq, .ref mgr, .int cl, .int wa, .int co_, .int fi, .int bu, .int ho, .ref ml, .ref mi, .ref mr, .int lh, .int mg, .int wd, .int fpi, .int fal, .ref mm, .ref mu, .ref mk, .ref mx, .long po, .long de])), (mp, .inl (1, 108, .inl f)), (mf, .inl (0, 108, .inl fl)), (mh, .inl (0, 108, .inl he)), (mt, .inl (0, 108, .inl mtt)), (mz, .inl (0, 108, .inl fz)), (mn, .inl (0, 108, .inl nx)), (mc_, .inl (2, 108, .inl ic)), (mq, .inl (0, 108, .inl (fun k => nI (qn k))))]) rfl ?_
          refine r_if_eq (tgt := 139) d_Mm_bestFeeder_132 (by decide) (fun c_132 => ?_) (fun c_132 => ?_)
          · exact absurd c_132 (by decide)
          · refine r_iconst d_Mm_bestFeeder_135 (v := 0) (by decide) ?_
            refine r_goto (tgt := 140) d_Mm_bestFeeder_136 (by decide) ?_
            refine r_iret d_Mm_bestFeeder_140 rfl rfl ?_
            exact ⟨_, _, _, _, _, _, _, _, _, rfl, rfl⟩
    · have hn := z_nle (a := 108) (by omega) (by decide) c_38
      refine r_aload_n d_Mm_bestFeeder_41 rfl 3 rfl ?_
      refine r_get fs_Mm_7 d_Mm_bestFeeder_42 (q0 := 0) rfl rfl ?_
      refine r_iload d_Mm_bestFeeder_45 0 rfl ?_
      refine r_cald d_Mm_bestFeeder_47 (q0 := 1) rfl (vp_in_nI (by omega) (by omega)) (v := f i) (by rw [nI_clamp (by omega)]) ?_
      refine r_bipush d_Mm_bestFeeder_48 (v := 46) (by decide) ?_
      refine r_icmp_ne (tgt := 111) d_Mm_bestFeeder_50 (by decide) (fun c_50 => ?_) (fun c_50 => ?_)
      · refine r_iinc (lv' := [(4, .int (nI (i + 1))), (3, .int few), (2, .int fo), (0, .ref m), (1, .int h)]) (v := nI (i + 1)) d_Mm_bestFeeder_111 (j := 0) rfl (nI_add _ _) (by decide) rfl ?_
        refine r_goto (tgt := 34) d_Mm_bestFeeder_114 (by decide) ?_
        exact ih (i + 1) _ _ _ _ _ _ _ _ _ (by omega) (by omega)
      · refine r_aload_n d_Mm_bestFeeder_53 rfl 3 rfl ?_
        refine r_iload d_Mm_bestFeeder_54 0 rfl ?_
        refine r_callV (As := [.int (nI i)]) (rest := []) (csC := [(m, .inr (12, [.int 0, .ref mp, .int pt, .ref mf, .ref mh, .ref mn, .ref mt, .ref mz, .ref mc_, .ref mq, .ref mgr, .int cl, .int wa, .int co_, .int fi, .int bu, .int ho, .ref ml, .ref mi, .ref mr, .int lh, .int mg, .int wd, .int fpi, .int fal, .ref mm, .ref mu, .ref mk, .ref mx, .long po, .long de])), (mp, .inl (1, 108, .inl f))]) (is := [0, 1]) (q0 := 0) rfl rfl ln_Mm_179 w_im_Mm_isBesideCasting w_se_Mm_isBesideCasting ok_Mm_bestFeeder_Mm_isBesideCasting d_Mm_bestFeeder_56 (C_Mm_isBesideCastingW g m mp mf mh mn mt mz mc_ mq mgr ml mi mr mm mu mk mx 0 pt cl wa co_ fi bu ho lh mg wd fpi fal po de f i (by omega)) rfl rfl (Nat.le_of_ble_eq_true rfl) rfl (by decide) (by omega) (by omega) (fun E cs1 hx => ?_) (fun v cs1 hx => ?_)
        · obtain ⟨v9, -, e1, -⟩ := hx
          cases e1
        · obtain ⟨v9, -, e1, rfl⟩ := hx
          cases e1
          refine ⟨rfl, ?_⟩
          refine r_st (st2 := [.int v9]) rfl ?_
          refine r_cs (cs2 := [(m, .inr (12, [.int 0, .ref mp, .int pt, .ref mf, .ref mh, .ref mn, .ref mt, .ref mz, .ref mc_, .ref mq, .ref mgr, .int cl, .int wa, .int co_, .int fi, .int bu, .int ho, .ref ml, .ref mi, .ref mr, .int lh, .int mg, .int wd, .int fpi, .int fal, .ref mm, .ref mu, .ref mk, .ref mx, .long po, .long de])), (mp, .inl (1, 108, .inl f)), (mf, .inl (0, 108, .inl fl)), (mh, .inl (0, 108, .inl he)), (mt, .inl (0, 108, .inl mtt)), (mz, .inl (0, 108, .inl fz)), (mn, .inl (0, 108, .inl nx)), (mc_, .inl (2, 108, .inl ic)), (mq, .inl (0, 108, .inl (fun k => nI (qn k))))]) rfl ?_
          refine r_if_eq (tgt := 111) d_Mm_bestFeeder_59 (by decide) (fun c_59 => ?_) (fun c_59 => ?_)
          · refine r_iinc (lv' := [(4, .int (nI (i + 1))), (3, .int few), (2, .int fo), (0, .ref m), (1, .int h)]) (v := nI (i + 1)) d_Mm_bestFeeder_111 (j := 0) rfl (nI_add _ _) (by decide) rfl ?_
            refine r_goto (tgt := 34) d_Mm_bestFeeder_114 (by decide) ?_
            exact ih (i + 1) _ _ _ _ _ _ _ _ _ (by omega) (by omega)
          · refine r_aload_n d_Mm_bestFeeder_62 rfl 3 rfl ?_
            refine r_get fs_Mm_7 d_Mm_bestFeeder_63 (q0 := 0) rfl rfl ?_
            refine r_iload d_Mm_bestFeeder_66 0 rfl ?_
            refine r_bipush d_Mm_bestFeeder_68 (v := 114) (by decide) ?_
            refine r_cast d_Mm_bestFeeder_70 (q0 := 1) rfl (vp_in_nI (by omega) (by omega)) (f' := upd f i 114) (by rw [nI_clamp (by omega)]; rfl) (cs' := [(m, .inr (12, [.int 0, .ref mp, .int pt, .ref mf, .ref mh, .ref mn, .ref mt, .ref mz, .ref mc_, .ref mq, .ref mgr, .int cl, .int wa, .int co_, .int fi, .int bu, .int ho, .ref ml, .ref mi, .ref mr, .int lh, .int mg, .int wd, .int fpi, .int fal, .ref mm, .ref mu, .ref mk, .ref mx, .long po, .long de])), (mp, .inl (1, 108, .inl (upd f i 114))), (mf, .inl (0, 108, .inl fl)), (mh, .inl (0, 108, .inl he)), (mt, .inl (0, 108, .inl mtt)), (mz, .inl (0, 108, .inl fz)), (mn, .inl (0, 108, .inl nx)), (mc_, .inl (2, 108, .inl ic)), (mq, .inl (0, 108, .inl (fun k => nI (qn k))))]) rfl ?_
            refine r_aload_n d_Mm_bestFeeder_71 rfl 3 rfl ?_
            refine r_aload_n d_Mm_bestFeeder_72 rfl 3 rfl ?_
            refine r_get fs_Mm_7 d_Mm_bestFeeder_73 (q0 := 0) rfl rfl ?_
            refine r_iload_n d_Mm_bestFeeder_76 rfl 4 rfl ?_
            refine r_callV (As := [.ref mp, .int h]) (rest := []) (csC := [(m, .inr (12, [.int 0, .ref mp, .int pt, .ref mf, .ref mh, .ref mn, .ref mt, .ref mz, .ref mc_, .ref mq, .ref mgr, .int cl, .int wa, .int co_, .int fi, .int bu, .int ho, .ref ml, .ref mi, .ref mr, .int lh, .int mg, .int wd, .int fpi, .int fal, .ref mm, .ref mu, .ref mk, .ref mx, .long po, .long de])), (mp, .inl (1, 108, .inl (upd f i 114))), (mf, .inl (0, 108, .inl fl)), (mh, .inl (0, 108, .inl he)), (mt, .inl (0, 108, .inl mtt)), (mz, .inl (0, 108, .inl fz)), (mn, .inl (0, 108, .inl nx)), (mc_, .inl (2, 108, .inl ic)), (mq, .inl (0, 108, .inl (fun k => nI (qn k))))]) (is := [0, 1, 2, 3, 4, 5, 6, 7, 8]) (q0 := 0) rfl rfl ln_Mm_173 w_im_Mm_shrunkOf w_se_Mm_shrunkOf ok_Mm_bestFeeder_Mm_shrunkOf d_Mm_bestFeeder_77 (C_Mm_shrunkOfW g m mp mf mh mn mt mz mc_ mq mgr ml mi mr mm mu mk mx 0 pt cl wa co_ fi bu ho lh mg wd fpi fal po de mp (upd f i 114) fl he nx mtt fz ic qn h) rfl rfl (Nat.le_of_ble_eq_true rfl) rfl (by decide) (by omega) (by omega) (fun E cs1 hx => ?_) (fun v cs1 hx => ?_)
            · obtain ⟨v9, fl9, he9, nx9, mt9, fz9, ic9, qn9, e1, -⟩ := hx
              cases e1
            · obtain ⟨v9, fl9, he9, nx9, mt9, fz9, ic9, qn9, e1, rfl⟩ := hx
              cases e1
              refine ⟨rfl, ?_⟩
              refine r_st (st2 := [.int v9]) rfl ?_
              refine r_cs (cs2 := [(m, .inr (12, [.int 0, .ref mp, .int pt, .ref mf, .ref mh, .ref mn, .ref mt, .ref mz, .ref mc_, .ref mq, .ref mgr, .int cl, .int wa, .int co_, .int fi, .int bu, .int ho, .ref ml, .ref mi, .ref mr, .int lh, .int mg, .int wd, .int fpi, .int fal, .ref mm, .ref mu, .ref mk, .ref mx, .long po, .long de])), (mp, .inl (1, 108, .inl (upd f i 114))), (mf, .inl (0, 108, .inl fl9)), (mh, .inl (0, 108, .inl he9)), (mt, .inl (0, 108, .inl mt9)), (mz, .inl (0, 108, .inl fz9)), (mn, .inl (0, 108, .inl nx9)), (mc_, .inl (2, 108, .inl ic9)), (mq, .inl (0, 108, .inl (fun k => nI (qn9 k))))]) rfl ?_
              refine r_istore (lv' := [(5, .int v9), (4, .int (nI i)), (3, .int few), (2, .int fo), (0, .ref m), (1, .int h)]) d_Mm_bestFeeder_80 (by decide) rfl ?_
              refine r_aload_n d_Mm_bestFeeder_82 rfl 4 rfl ?_
              refine r_get fs_Mm_7 d_Mm_bestFeeder_83 (q0 := 0) rfl rfl ?_
              refine r_iload d_Mm_bestFeeder_86 1 rfl ?_
              refine r_bipush d_Mm_bestFeeder_88 (v := 46) (by decide) ?_
              refine r_cast d_Mm_bestFeeder_90 (q0 := 1) rfl (vp_in_nI (by omega) (by omega)) (f' := f) (by rw [nI_clamp (by omega)]; exact upd_back c_50) (cs' := [(m, .inr (12, [.int 0, .ref mp, .int pt, .ref mf, .ref mh, .ref mn, .ref mt, .ref mz, .ref mc_, .ref mq, .ref mgr, .int cl, .int wa, .int co_, .int fi, .int bu, .int ho, .ref ml, .ref mi, .ref mr, .int lh, .int mg, .int wd, .int fpi, .int fal, .ref mm, .ref mu, .ref mk, .ref mx, .long po, .long de])), (mp, .inl (1, 108, .inl f)), (mf, .inl (0, 108, .inl fl9)), (mh, .inl (0, 108, .inl he9)), (mt, .inl (0, 108, .inl mt9)), (mz, .inl (0, 108, .inl fz9)), (mn, .inl (0, 108, .inl nx9)), (mc_, .inl (2, 108, .inl ic9)), (mq, .inl (0, 108, .inl (fun k => nI (qn9 k))))]) rfl ?_
              refine r_iload d_Mm_bestFeeder_91 0 rfl ?_
              refine r_iload_n d_Mm_bestFeeder_93 rfl 2 rfl ?_
              refine r_icmp_ge (tgt := 102) d_Mm_bestFeeder_94 (by decide) (fun c_94 => ?_) (fun c_94 => ?_)
              · refine r_iload_n d_Mm_bestFeeder_102 rfl 3 rfl ?_
                refine r_istore_n (lv' := [(2, .int fo), (5, .int v9), (4, .int (nI i)), (3, .int few), (0, .ref m), (1, .int h)]) d_Mm_bestFeeder_103 rfl (by decide) rfl ?_
                refine r_iload_n d_Mm_bestFeeder_104 rfl 3 rfl ?_
                refine r_iload d_Mm_bestFeeder_105 1 rfl ?_
                refine r_min (v := (if v9 < few then v9 else few)) ln_Mm_182 w_mmin w_mi w_cmin d_Mm_bestFeeder_107 (by decide) (by decide) (Nat.le_of_ble_eq_true rfl) rfl ?_
                refine r_istore_n (lv' := [(3, .int (if v9 < few then v9 else few)), (2, .int fo), (5, .int v9), (4, .int (nI i)), (0, .ref m), (1, .int h)]) d_Mm_bestFeeder_110 rfl (by decide) rfl ?_
                refine r_iinc (lv' := [(4, .int (nI (i + 1))), (3, .int (if v9 < few then v9 else few)), (2, .int fo), (5, .int v9), (0, .ref m), (1, .int h)]) (v := nI (i + 1)) d_Mm_bestFeeder_111 (j := 3) rfl (nI_add _ _) (by decide) rfl ?_
                refine r_goto (tgt := 34) d_Mm_bestFeeder_114 (by decide) ?_
                refine r_lv (lv' := [(4, .int (nI (i + 1))), (3, .int (if v9 < few then v9 else few)), (2, .int fo), (0, .ref m), (1, .int h)]) [0, 1, 2, 4, 5] rfl ?_
                exact ih (i + 1) _ _ _ _ _ _ _ _ _ (by omega) (by omega)
              · refine r_iload d_Mm_bestFeeder_97 1 rfl ?_
                refine r_goto (tgt := 103) d_Mm_bestFeeder_99 (by decide) ?_
                refine r_istore_n (lv' := [(2, .int (nI i)), (5, .int v9), (4, .int (nI i)), (3, .int few), (0, .ref m), (1, .int h)]) d_Mm_bestFeeder_103 rfl (by decide) rfl ?_
                refine r_iload_n d_Mm_bestFeeder_104 rfl 3 rfl ?_
                refine r_iload d_Mm_bestFeeder_105 1 rfl ?_
                refine r_min (v := (if v9 < few then v9 else few)) ln_Mm_182 w_mmin w_mi w_cmin d_Mm_bestFeeder_107 (by decide) (by decide) (Nat.le_of_ble_eq_true rfl) rfl ?_
                refine r_istore_n (lv' := [(3, .int (if v9 < few then v9 else few)), (2, .int (nI i)), (5, .int v9), (4, .int (nI i)), (0, .ref m), (1, .int h)]) d_Mm_bestFeeder_110 rfl (by decide) rfl ?_
                refine r_iinc (lv' := [(4, .int (nI (i + 1))), (3, .int (if v9 < few then v9 else few)), (2, .int (nI i)), (5, .int v9), (0, .ref m), (1, .int h)]) (v := nI (i + 1)) d_Mm_bestFeeder_111 (j := 3) rfl (nI_add _ _) (by decide) rfl ?_
                refine r_goto (tgt := 34) d_Mm_bestFeeder_114 (by decide) ?_
                refine r_lv (lv' := [(4, .int (nI (i + 1))), (3, .int (if v9 < few then v9 else few)), (2, .int (nI i)), (0, .ref m), (1, .int h)]) [0, 1, 2, 4, 5] rfl ?_
                exact ih (i + 1) _ _ _ _ _ _ _ _ _ (by omega) (by omega)
set_option maxHeartbeats 4000000 in
set_option maxRecDepth 100000 in
theorem C_Mm_bestFeederW (g : zG) (m mp mf mh mn mt mz mc_ mq mgr ml mi mr mm mu mk mx : Nat) (th pt cl wa co_ fi bu ho lh mg wd fpi fal : Int32) (po de : Int64) (f fl he nx mtt fz ic : Nat → Int32) (qn : Nat → Nat) (h : Int32) (hh : 1200 ≤ h ∧ h ≤ 1500) : CT g M_Mm_bestFeeder [.ref m, .int h] [(m, .inr (12, [.int th, .ref mp, .int pt, .ref mf, .ref mh, .ref mn, .ref mt, .ref mz, .ref mc_, .ref mq, .ref mgr, .int cl, .int wa, .int co_, .int fi, .int bu, .int ho, .ref ml, .ref mi, .ref mr, .int lh, .int mg, .int wd, .int fpi, .int fal, .ref mm, .ref mu, .ref mk, .ref mx, .long po, .long de])), (mp, .inl (1, 108, .inl f)), (mf, .inl (0, 108, .inl fl)), (mh, .inl (0, 108, .inl he)), (mt, .inl (0, 108, .inl mtt)), (mz, .inl (0, 108, .inl fz)), (mn, .inl (0, 108, .inl nx)), (mc_, .inl (2, 108, .inl ic)), (mq, .inl (0, 108, .inl (fun k => nI (qn k))))] (fun o cs1 => ∃ (v9 th9 : Int32) (fl9 he9 nx9 mt9 fz9 ic9 : Nat → Int32) (qn9 : Nat → Nat), o = .inl (some (.int v9)) ∧ cs1 = [(m, .inr (12, [.int th9, .ref mp, .int pt, .ref mf, .ref mh, .ref mn, .ref mt, .ref mz, .ref mc_, .ref mq, .ref mgr, .int cl, .int wa, .int co_, .int fi, .int bu, .int ho, .ref ml, .ref mi, .ref mr, .int lh, .int mg, .int wd, .int fpi, .int fal, .ref mm, .ref mu, .ref mk, .ref mx, .long po, .long de])), (mp, .inl (1, 108, .inl f)), (mf, .inl (0, 108, .inl fl9)), (mh, .inl (0, 108, .inl he9)), (mt, .inl (0, 108, .inl mt9)), (mz, .inl (0, 108, .inl fz9)), (mn, .inl (0, 108, .inl nx9)), (mc_, .inl (2, 108, .inl ic9)), (mq, .inl (0, 108, .inl (fun k => nI (qn9 k))))]) 0 0 := by
  refine z_of (by decide) rfl (Nat.le_of_ble_eq_true rfl) (fun w0 => ?_)
  refine r_lvE (lv2 := [(0, .ref m), (1, .int h)]) rfl ?_
  refine r_aload_n d_Mm_bestFeeder_0 rfl 0 rfl ?_
  refine r_iconst d_Mm_bestFeeder_1 (v := 0) (by decide) ?_
  refine r_put fp_Mm_84 d_Mm_bestFeeder_2 (fun h => nomatch h) rfl rfl (q0 := 0) rfl (Nat.le_of_ble_eq_true rfl) (cs' := [(m, .inr (12, [.int 0, .ref mp, .int pt, .ref mf, .ref mh, .ref mn, .ref mt, .ref mz, .ref mc_, .ref mq, .ref mgr, .int cl, .int wa, .int co_, .int fi, .int bu, .int ho, .ref ml, .ref mi, .ref mr, .int lh, .int mg, .int wd, .int fpi, .int fal, .ref mm, .ref mu, .ref mk, .ref mx, .long po, .long de])), (mp, .inl (1, 108, .inl f)), (mf, .inl (0, 108, .inl fl)), (mh, .inl (0, 108, .inl he)), (mt, .inl (0, 108, .inl mtt)), (mz, .inl (0, 108, .inl fz)), (mn, .inl (0, 108, .inl nx)), (mc_, .inl (2, 108, .inl ic)), (mq, .inl (0, 108, .inl (fun k => nI (qn k))))]) rfl ?_
  refine r_aload_n d_Mm_bestFeeder_5 rfl 0 rfl ?_
  refine r_iload_n d_Mm_bestFeeder_6 rfl 1 rfl ?_
  refine r_callS (As := [.int h]) (rest := [.ref m]) (csC := []) (is := []) ln_Mm_163 w_st_Mm_noHeat ok_Mm_bestFeeder_Mm_noHeat d_Mm_bestFeeder_7 (C_Mm_noHeat0 g h hh) rfl rfl (Nat.le_of_ble_eq_true rfl) rfl (by decide) (by omega) (by omega) (fun E cs1 hx => ?_) (fun v cs1 hx => ?_)
  · exact absurd hx.1 (by simp)
  · obtain ⟨e1, rfl⟩ := hx
    cases e1
    refine ⟨rfl, ?_⟩
    refine r_st (st2 := [.int 0, .ref m]) rfl ?_
    refine r_cs (cs2 := [(m, .inr (12, [.int 0, .ref mp, .int pt, .ref mf, .ref mh, .ref mn, .ref mt, .ref mz, .ref mc_, .ref mq, .ref mgr, .int cl, .int wa, .int co_, .int fi, .int bu, .int ho, .ref ml, .ref mi, .ref mr, .int lh, .int mg, .int wd, .int fpi, .int fal, .ref mm, .ref mu, .ref mk, .ref mx, .long po, .long de])), (mp, .inl (1, 108, .inl f)), (mf, .inl (0, 108, .inl fl)), (mh, .inl (0, 108, .inl he)), (mt, .inl (0, 108, .inl mtt)), (mz, .inl (0, 108, .inl fz)), (mn, .inl (0, 108, .inl nx)), (mc_, .inl (2, 108, .inl ic)), (mq, .inl (0, 108, .inl (fun k => nI (qn k))))]) rfl ?_
    refine r_iconst d_Mm_bestFeeder_10 (v := 1) (by decide) ?_
    refine r_callV (As := [.int 0, .int 1]) (rest := []) (csC := [(m, .inr (12, [.int 0, .ref mp, .int pt, .ref mf, .ref mh, .ref mn, .ref mt, .ref mz, .ref mc_, .ref mq, .ref mgr, .int cl, .int wa, .int co_, .int fi, .int bu, .int ho, .ref ml, .ref mi, .ref mr, .int lh, .int mg, .int wd, .int fpi, .int fal, .ref mm, .ref mu, .ref mk, .ref mx, .long po, .long de]))]) (is := [0]) (q0 := 0) rfl rfl ln_Mm_103 w_im_Mm_fails w_se_Mm_fails ok_Mm_bestFeeder_Mm_fails d_Mm_bestFeeder_11 (C_Mm_fails0 g m mp mf mh mn mt mz mc_ mq mgr ml mi mr mm mu mk mx th pt cl wa co_ fi bu ho lh mg wd fpi fal po de 1) rfl rfl (Nat.le_of_ble_eq_true rfl) rfl (by decide) (by omega) (by omega) (fun E cs1 hx => ?_) (fun v cs1 hx => ?_)
    · exact absurd hx.1 (by simp)
    · obtain ⟨e1, rfl⟩ := hx
      cases e1
      refine ⟨rfl, ?_⟩
      refine r_st (st2 := [.int 0]) rfl ?_
      refine r_cs (cs2 := [(m, .inr (12, [.int 0, .ref mp, .int pt, .ref mf, .ref mh, .ref mn, .ref mt, .ref mz, .ref mc_, .ref mq, .ref mgr, .int cl, .int wa, .int co_, .int fi, .int bu, .int ho, .ref ml, .ref mi, .ref mr, .int lh, .int mg, .int wd, .int fpi, .int fal, .ref mm, .ref mu, .ref mk, .ref mx, .long po, .long de])), (mp, .inl (1, 108, .inl f)), (mf, .inl (0, 108, .inl fl)), (mh, .inl (0, 108, .inl he)), (mt, .inl (0, 108, .inl mtt)), (mz, .inl (0, 108, .inl fz)), (mn, .inl (0, 108, .inl nx)), (mc_, .inl (2, 108, .inl ic)), (mq, .inl (0, 108, .inl (fun k => nI (qn k))))]) rfl ?_
      refine r_if_eq (tgt := 19) d_Mm_bestFeeder_14 (by decide) (fun c_14 => ?_) (fun c_14 => ?_)
      · refine r_iconst d_Mm_bestFeeder_19 (v := (-1)) (by decide) ?_
        refine r_istore_n (lv' := [(2, .int (-1)), (0, .ref m), (1, .int h)]) d_Mm_bestFeeder_20 rfl (by decide) rfl ?_
        refine r_aload_n d_Mm_bestFeeder_21 rfl 1 rfl ?_
        refine r_aload_n d_Mm_bestFeeder_22 rfl 1 rfl ?_
        refine r_get fs_Mm_7 d_Mm_bestFeeder_23 (q0 := 0) rfl rfl ?_
        refine r_iload_n d_Mm_bestFeeder_26 rfl 2 rfl ?_
        refine r_callV (As := [.ref mp, .int h]) (rest := []) (csC := [(m, .inr (12, [.int 0, .ref mp, .int pt, .ref mf, .ref mh, .ref mn, .ref mt, .ref mz, .ref mc_, .ref mq, .ref mgr, .int cl, .int wa, .int co_, .int fi, .int bu, .int ho, .ref ml, .ref mi, .ref mr, .int lh, .int mg, .int wd, .int fpi, .int fal, .ref mm, .ref mu, .ref mk, .ref mx, .long po, .long de])), (mp, .inl (1, 108, .inl f)), (mf, .inl (0, 108, .inl fl)), (mh, .inl (0, 108, .inl he)), (mt, .inl (0, 108, .inl mtt)), (mz, .inl (0, 108, .inl fz)), (mn, .inl (0, 108, .inl nx)), (mc_, .inl (2, 108, .inl ic)), (mq, .inl (0, 108, .inl (fun k => nI (qn k))))]) (is := [0, 1, 2, 3, 4, 5, 6, 7, 8]) (q0 := 0) rfl rfl ln_Mm_173 w_im_Mm_shrunkOf w_se_Mm_shrunkOf ok_Mm_bestFeeder_Mm_shrunkOf d_Mm_bestFeeder_27 (C_Mm_shrunkOfW g m mp mf mh mn mt mz mc_ mq mgr ml mi mr mm mu mk mx 0 pt cl wa co_ fi bu ho lh mg wd fpi fal po de mp f fl he nx mtt fz ic qn h) rfl rfl (Nat.le_of_ble_eq_true rfl) rfl (by decide) (by omega) (by omega) (fun E cs1 hx => ?_) (fun v cs1 hx => ?_)
        · obtain ⟨v9, fl9, he9, nx9, mt9, fz9, ic9, qn9, e1, -⟩ := hx
          cases e1
        · obtain ⟨v9, fl9, he9, nx9, mt9, fz9, ic9, qn9, e1, rfl⟩ := hx
          cases e1
          refine ⟨rfl, ?_⟩
          refine r_st (st2 := [.int v9]) rfl ?_
          refine r_cs (cs2 := [(m, .inr (12, [.int 0, .ref mp, .int pt, .ref mf, .ref mh, .ref mn, .ref mt, .ref mz, .ref mc_, .ref mq, .ref mgr, .int cl, .int wa, .int co_, .int fi, .int bu, .int ho, .ref ml, .ref mi, .ref mr, .int lh, .int mg, .int wd, .int fpi, .int fal, .ref mm, .ref mu, .ref mk, .ref mx, .long po, .long de])), (mp, .inl (1, 108, .inl f)), (mf, .inl (0, 108, .inl fl9)), (mh, .inl (0, 108, .inl he9)), (mt, .inl (0, 108, .inl mt9)), (mz, .inl (0, 108, .inl fz9)), (mn, .inl (0, 108, .inl nx9)), (mc_, .inl (2, 108, .inl ic9)), (mq, .inl (0, 108, .inl (fun k => nI (qn9 k))))]) rfl ?_
          refine r_istore_n (lv' := [(3, .int v9), (2, .int (-1)), (0, .ref m), (1, .int h)]) d_Mm_bestFeeder_30 rfl (by decide) rfl ?_
          refine r_iconst d_Mm_bestFeeder_31 (v := 0) (by decide) ?_
          refine r_istore (lv' := [(4, .int 0), (3, .int v9), (2, .int (-1)), (0, .ref m), (1, .int h)]) d_Mm_bestFeeder_32 (by decide) rfl ?_
          exact L_Mm_bestFeederW_34 g m mp mf mh mn mt mz mc_ mq mgr ml mi mr mm mu mk mx th pt cl wa co_ fi bu ho lh mg wd fpi fal po de f fl he nx mtt fz ic qn h hh w0 _  (108 + 1) 0 _ _ _ _ _ _ _ _ _ (Nat.zero_le _) (by omega)
      · exact absurd c_14 (by decide)
