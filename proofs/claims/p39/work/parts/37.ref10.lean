set_option maxHeartbeats 4000000 in
set_option maxRecDepth 100000 in
theorem C_Mm_pool100 (g : zG) (m mp mf mh mn mt mz mc_ mq mgr ml mi mr mm mu mk mx : Nat) (th pt cl wa co_ fi bu ho lh mg wd fpi fal : Int32) (po de : Int64) (ir : Nat → Int32) : CT g M_Mm_pool [.ref m, .int 100] [(m, .inr (12, [.int th, .ref mp, .int pt, .ref mf, .ref mh, .ref mn, .ref mt, .ref mz, .ref mc_, .ref mq, .ref mgr, .int cl, .int wa, .int co_, .int fi, .int bu, .int ho, .ref ml, .ref mi, .ref mr, .int lh, .int mg, .int wd, .int fpi, .int fal, .ref mm, .ref mu, .ref mk, .ref mx, .long po, .long de])), (mi, .inl (0, 4, .inl ir))] (fun o cs1 => o = .inl (some (.int (ir 3))) ∧ cs1 = [(m, .inr (12, [.int 0, .ref mp, .int pt, .ref mf, .ref mh, .ref mn, .ref mt, .ref mz, .ref mc_, .ref mq, .ref mgr, .int cl, .int wa, .int co_, .int fi, .int bu, .int ho, .ref ml, .ref mi, .ref mr, .int lh, .int mg, .int wd, .int fpi, .int fal, .ref mm, .ref mu, .ref mk, .ref mx, .long po, .long de])), (mi, .inl (0, 4, .inl ir))]) 0 0 := by
  refine z_of (by decide) rfl (Nat.le_of_ble_eq_true rfl) (fun w0 => ?_)
  refine r_lvE (lv2 := [(0, .ref m), (1, .int 100)]) rfl ?_
  refine r_aload_n d_Mm_pool_0 rfl 0 rfl ?_
  refine r_iconst d_Mm_pool_1 (v := 0) (by decide) ?_
  refine r_put fp_Mm_84 d_Mm_pool_2 (fun h => nomatch h) rfl rfl (q0 := 0) rfl (Nat.le_of_ble_eq_true rfl) (cs' := [(m, .inr (12, [.int 0, .ref mp, .int pt, .ref mf, .ref mh, .ref mn, .ref mt, .ref mz, .ref mc_, .ref mq, .ref mgr, .int cl, .int wa, .int co_, .int fi, .int bu, .int ho, .ref ml, .ref mi, .ref mr, .int lh, .int mg, .int wd, .int fpi, .int fal, .ref mm, .ref mu, .ref mk, .ref mx, .long po, .long de])), (mi, .inl (0, 4, .inl ir))]) rfl ?_
  refine r_aload_n d_Mm_pool_5 rfl 0 rfl ?_
  refine r_iload_n d_Mm_pool_6 rfl 1 rfl ?_
  refine r_callS (As := [.int 100]) (rest := [.ref m]) (csC := []) (is := []) ln_Mm_269 w_st_Mm_place ok_Mm_pool_Mm_place d_Mm_pool_7 (C_Mm_placeD g) rfl rfl (Nat.le_of_ble_eq_true rfl) rfl (by decide) (by omega) (by omega) (fun E cs1 hx => ?_) (fun v cs1 hx => ?_)
  · exact absurd hx.1 (by simp)
  · obtain ⟨e1, rfl⟩ := hx
    cases e1
    refine ⟨rfl, ?_⟩
    refine r_st (st2 := [.int 3, .ref m]) rfl ?_
    refine r_cs (cs2 := [(m, .inr (12, [.int 0, .ref mp, .int pt, .ref mf, .ref mh, .ref mn, .ref mt, .ref mz, .ref mc_, .ref mq, .ref mgr, .int cl, .int wa, .int co_, .int fi, .int bu, .int ho, .ref ml, .ref mi, .ref mr, .int lh, .int mg, .int wd, .int fpi, .int fal, .ref mm, .ref mu, .ref mk, .ref mx, .long po, .long de])), (mi, .inl (0, 4, .inl ir))]) rfl ?_
    refine r_iconst d_Mm_pool_10 (v := (-1)) (by decide) ?_
    refine r_icmp_ne (tgt := 18) d_Mm_pool_11 (by decide) (fun c_11 => ?_) (fun c_11 => ?_)
    · refine r_iconst d_Mm_pool_18 (v := 0) (by decide) ?_
      refine r_iconst d_Mm_pool_19 (v := 1) (by decide) ?_
      refine r_callV (As := [.int 0, .int 1]) (rest := []) (csC := [(m, .inr (12, [.int 0, .ref mp, .int pt, .ref mf, .ref mh, .ref mn, .ref mt, .ref mz, .ref mc_, .ref mq, .ref mgr, .int cl, .int wa, .int co_, .int fi, .int bu, .int ho, .ref ml, .ref mi, .ref mr, .int lh, .int mg, .int wd, .int fpi, .int fal, .ref mm, .ref mu, .ref mk, .ref mx, .long po, .long de]))]) (is := [0]) (q0 := 0) rfl rfl ln_Mm_103 w_im_Mm_fails w_se_Mm_fails ok_Mm_pool_Mm_fails d_Mm_pool_20 (C_Mm_fails0 g m mp mf mh mn mt mz mc_ mq mgr ml mi mr mm mu mk mx th pt cl wa co_ fi bu ho lh mg wd fpi fal po de 1) rfl rfl (Nat.le_of_ble_eq_true rfl) rfl (by decide) (by omega) (by omega) (fun E cs1 hx => ?_) (fun v cs1 hx => ?_)
      · exact absurd hx.1 (by simp)
      · obtain ⟨e1, rfl⟩ := hx
        cases e1
        refine ⟨rfl, ?_⟩
        refine r_st (st2 := [.int 0]) rfl ?_
        refine r_cs (cs2 := [(m, .inr (12, [.int 0, .ref mp, .int pt, .ref mf, .ref mh, .ref mn, .ref mt, .ref mz, .ref mc_, .ref mq, .ref mgr, .int cl, .int wa, .int co_, .int fi, .int bu, .int ho, .ref ml, .ref mi, .ref mr, .int lh, .int mg, .int wd, .int fpi, .int fal, .ref mm, .ref mu, .ref mk, .ref mx, .long po, .long de])), (mi, .inl (0, 4, .inl ir))]) rfl ?_
        refine r_if_eq (tgt := 30) d_Mm_pool_23 (by decide) (fun c_23 => ?_) (fun c_23 => ?_)
        · refine r_aload_n d_Mm_pool_30 rfl 0 rfl ?_
          refine r_get fs_Mm_62 d_Mm_pool_31 (q0 := 0) rfl rfl ?_
          refine r_iload_n d_Mm_pool_34 rfl 1 rfl ?_
          refine r_callS (As := [.int 100]) (rest := [.ref mi]) (csC := []) (is := []) ln_Mm_269 w_st_Mm_place ok_Mm_pool_Mm_place d_Mm_pool_35 (C_Mm_placeD g) rfl rfl (Nat.le_of_ble_eq_true rfl) rfl (by decide) (by omega) (by omega) (fun E cs1 hx => ?_) (fun v cs1 hx => ?_)
          · exact absurd hx.1 (by simp)
          · obtain ⟨e1, rfl⟩ := hx
            cases e1
            refine ⟨rfl, ?_⟩
            refine r_st (st2 := [.int 3, .ref mi]) rfl ?_
            refine r_cs (cs2 := [(m, .inr (12, [.int 0, .ref mp, .int pt, .ref mf, .ref mh, .ref mn, .ref mt, .ref mz, .ref mc_, .ref mq, .ref mgr, .int cl, .int wa, .int co_, .int fi, .int bu, .int ho, .ref ml, .ref mi, .ref mr, .int lh, .int mg, .int wd, .int fpi, .int fal, .ref mm, .ref mu, .ref mk, .ref mx, .long po, .long de])), (mi, .inl (0, 4, .inl ir))]) rfl ?_
            refine r_iald d_Mm_pool_38 (q0 := 1) rfl (fun q => q.elim (by decide) (by decide)) (v := ir 3) rfl ?_
            refine r_iret d_Mm_pool_39 rfl rfl ?_
            exact ⟨rfl, rfl⟩
        · exact absurd c_23 (by decide)
    · exact absurd c_11 (by decide)
set_option maxHeartbeats 4000000 in
set_option maxRecDepth 100000 in
theorem C_Mm_poolHas100E (g : zG) (m mp mf mh mn mt mz mc_ mq mgr ml mi mr mm mu mk mx : Nat) (th pt cl wa co_ fi bu ho lh mg wd fpi fal : Int32) (po de : Int64) (k : Int32) (hk : z_ix 2 k < 0) : CT g M_Mm_poolHas [.ref m, .int 100, .int k] [(m, .inr (12, [.int th, .ref mp, .int pt, .ref mf, .ref mh, .ref mn, .ref mt, .ref mz, .ref mc_, .ref mq, .ref mgr, .int cl, .int wa, .int co_, .int fi, .int bu, .int ho, .ref ml, .ref mi, .ref mr, .int lh, .int mg, .int wd, .int fpi, .int fal, .ref mm, .ref mu, .ref mk, .ref mx, .long po, .long de]))] (fun o cs1 => o = .inl (some (.int 0)) ∧ cs1 = [(m, .inr (12, [.int 1, .ref mp, .int pt, .ref mf, .ref mh, .ref mn, .ref mt, .ref mz, .ref mc_, .ref mq, .ref mgr, .int cl, .int wa, .int co_, .int fi, .int bu, .int ho, .ref ml, .ref mi, .ref mr, .int lh, .int mg, .int wd, .int fpi, .int fal, .ref mm, .ref mu, .ref mk, .ref mx, .long po, .long de]))]) 0 0 := by
  refine z_of (by decide) rfl (Nat.le_of_ble_eq_true rfl) (fun w0 => ?_)
  refine r_lvE (lv2 := [(0, .ref m), (1, .int 100), (2, .int k)]) rfl ?_
  refine r_aload_n d_Mm_poolHas_0 rfl 0 rfl ?_
  refine r_iconst d_Mm_poolHas_1 (v := 0) (by decide) ?_
  refine r_put fp_Mm_84 d_Mm_poolHas_2 (fun h => nomatch h) rfl rfl (q0 := 0) rfl (Nat.le_of_ble_eq_true rfl) (cs' := [(m, .inr (12, [.int 0, .ref mp, .int pt, .ref mf, .ref mh, .ref mn, .ref mt, .ref mz, .ref mc_, .ref mq, .ref mgr, .int cl, .int wa, .int co_, .int fi, .int bu, .int ho, .ref ml, .ref mi, .ref mr, .int lh, .int mg, .int wd, .int fpi, .int fal, .ref mm, .ref mu, .ref mk, .ref mx, .long po, .long de]))]) rfl ?_
  refine r_aload_n d_Mm_poolHas_5 rfl 0 rfl ?_
  refine r_iload_n d_Mm_poolHas_6 rfl 1 rfl ?_
  refine r_callS (As := [.int 100]) (rest := [.ref m]) (csC := []) (is := []) ln_Mm_269 w_st_Mm_place ok_Mm_poolHas_Mm_place d_Mm_poolHas_7 (C_Mm_placeD g) rfl rfl (Nat.le_of_ble_eq_true rfl) rfl (by decide) (by omega) (by omega) (fun E cs1 hx => ?_) (fun v cs1 hx => ?_)
  · exact absurd hx.1 (by simp)
  · obtain ⟨e1, rfl⟩ := hx
    cases e1
    refine ⟨rfl, ?_⟩
    refine r_st (st2 := [.int 3, .ref m]) rfl ?_
    refine r_cs (cs2 := [(m, .inr (12, [.int 0, .ref mp, .int pt, .ref mf, .ref mh, .ref mn, .ref mt, .ref mz, .ref mc_, .ref mq, .ref mgr, .int cl, .int wa, .int co_, .int fi, .int bu, .int ho, .ref ml, .ref mi, .ref mr, .int lh, .int mg, .int wd, .int fpi, .int fal, .ref mm, .ref mu, .ref mk, .ref mx, .long po, .long de]))]) rfl ?_
    refine r_iconst d_Mm_poolHas_10 (v := (-1)) (by decide) ?_
    refine r_icmp_eq (tgt := 21) d_Mm_poolHas_11 (by decide) (fun c_11 => ?_) (fun c_11 => ?_)
    · exact absurd c_11 (by decide)
    · refine r_iload_n d_Mm_poolHas_14 rfl 2 rfl ?_
      refine r_callS (As := [.int k]) (rest := [.ref m]) (csC := []) (is := []) ln_Mm_246 w_st_Mm_element ok_Mm_poolHas_Mm_element d_Mm_poolHas_15 (C_Mm_element g k) rfl rfl (Nat.le_of_ble_eq_true rfl) rfl (by decide) (by omega) (by omega) (fun E cs1 hx => ?_) (fun v cs1 hx => ?_)
      · exact absurd hx.1 (by simp)
      · obtain ⟨e1, rfl⟩ := hx
        cases e1
        refine ⟨rfl, ?_⟩
        refine r_st (st2 := [.int (z_ix 2 k), .ref m]) rfl ?_
        refine r_cs (cs2 := [(m, .inr (12, [.int 0, .ref mp, .int pt, .ref mf, .ref mh, .ref mn, .ref mt, .ref mz, .ref mc_, .ref mq, .ref mgr, .int cl, .int wa, .int co_, .int fi, .int bu, .int ho, .ref ml, .ref mi, .ref mr, .int lh, .int mg, .int wd, .int fpi, .int fal, .ref mm, .ref mu, .ref mk, .ref mx, .long po, .long de]))]) rfl ?_
        refine r_if_ge (tgt := 25) d_Mm_poolHas_18 (by decide) (fun c_18 => ?_) (fun c_18 => ?_)
        · exact absurd hk (Int32.not_lt.mpr c_18)
        · refine r_iconst d_Mm_poolHas_21 (v := 1) (by decide) ?_
          refine r_goto (tgt := 26) d_Mm_poolHas_22 (by decide) ?_
          refine r_iconst d_Mm_poolHas_26 (v := 1) (by decide) ?_
          refine r_callV (As := [.int 1, .int 1]) (rest := []) (csC := [(m, .inr (12, [.int 0, .ref mp, .int pt, .ref mf, .ref mh, .ref mn, .ref mt, .ref mz, .ref mc_, .ref mq, .ref mgr, .int cl, .int wa, .int co_, .int fi, .int bu, .int ho, .ref ml, .ref mi, .ref mr, .int lh, .int mg, .int wd, .int fpi, .int fal, .ref mm, .ref mu, .ref mk, .ref mx, .long po, .long de]))]) (is := [0]) (q0 := 0) rfl rfl ln_Mm_103 w_im_Mm_fails w_se_Mm_fails ok_Mm_poolHas_Mm_fails d_Mm_poolHas_27 (C_Mm_fails1 g m mp mf mh mn mt mz mc_ mq mgr ml mi mr mm mu mk mx th pt cl wa co_ fi bu ho lh mg wd fpi fal po de) rfl rfl (Nat.le_of_ble_eq_true rfl) rfl (by decide) (by omega) (by omega) (fun E cs1 hx => ?_) (fun v cs1 hx => ?_)
          · exact absurd hx.1 (by simp)
          · obtain ⟨e1, rfl⟩ := hx
            cases e1
            refine ⟨rfl, ?_⟩
            refine r_st (st2 := [.int 1]) rfl ?_
            refine r_cs (cs2 := [(m, .inr (12, [.int 1, .ref mp, .int pt, .ref mf, .ref mh, .ref mn, .ref mt, .ref mz, .ref mc_, .ref mq, .ref mgr, .int cl, .int wa, .int co_, .int fi, .int bu, .int ho, .ref ml, .ref mi, .ref mr, .int lh, .int mg, .int wd, .int fpi, .int fal, .ref mm, .ref mu, .ref mk, .ref mx, .long po, .long de]))]) rfl ?_
            refine r_if_ne (tgt := 58) d_Mm_poolHas_30 (by decide) (fun c_30 => ?_) (fun c_30 => ?_)
            · refine r_iconst d_Mm_poolHas_58 (v := 0) (by decide) ?_
              refine r_iret d_Mm_poolHas_59 rfl rfl ?_
              exact ⟨rfl, rfl⟩
            · exact absurd c_30 (by decide)
set_option maxHeartbeats 4000000 in
set_option maxRecDepth 100000 in
theorem C_Mm_poolHas100F (g : zG) (m mp mf mh mn mt mz mc_ mq mgr ml mi mr mm mu mk mx : Nat) (th pt cl wa co_ fi bu ho lh mg wd fpi fal : Int32) (po de : Int64) (ir : Nat → Int32) (k : Int32) (hk : ¬ z_ix 2 k < 0) (h0 : ir 3 = 0) : CT g M_Mm_poolHas [.ref m, .int 100, .int k] [(m, .inr (12, [.int th, .ref mp, .int pt, .ref mf, .ref mh, .ref mn, .ref mt, .ref mz, .ref mc_, .ref mq, .ref mgr, .int cl, .int wa, .int co_, .int fi, .int bu, .int ho, .ref ml, .ref mi, .ref mr, .int lh, .int mg, .int wd, .int fpi, .int fal, .ref mm, .ref mu, .ref mk, .ref mx, .long po, .long de])), (mi, .inl (0, 4, .inl ir))] (fun o cs1 => o = .inl (some (.int 0)) ∧ cs1 = [(m, .inr (12, [.int 2, .ref mp, .int pt, .ref mf, .ref mh, .ref mn, .ref mt, .ref mz, .ref mc_, .ref mq, .ref mgr, .int cl, .int wa, .int co_, .int fi, .int bu, .int ho, .ref ml, .ref mi, .ref mr, .int lh, .int mg, .int wd, .int fpi, .int fal, .ref mm, .ref mu, .ref mk, .ref mx, .long po, .long de])), (mi, .inl (0, 4, .inl ir))]) 0 0 := by
  refine z_of (by decide) rfl (Nat.le_of_ble_eq_true rfl) (fun w0 => ?_)
  refine r_lvE (lv2 := [(0, .ref m), (1, .int 100), (2, .int k)]) rfl ?_
  refine r_aload_n d_Mm_poolHas_0 rfl 0 rfl ?_
  refine r_iconst d_Mm_poolHas_1 (v := 0) (by decide) ?_
  refine r_put fp_Mm_84 d_Mm_poolHas_2 (fun h => nomatch h) rfl rfl (q0 := 0) rfl (Nat.le_of_ble_eq_true rfl) (cs' := [(m, .inr (12, [.int 0, .ref mp, .int pt, .ref mf, .ref mh, .ref mn, .ref mt, .ref mz, .ref mc_, .ref mq, .ref mgr, .int cl, .int wa, .int co_, .int fi, .int bu, .int ho, .ref ml, .ref mi, .ref mr, .int lh, .int mg, .int wd, .int fpi, .int fal, .ref mm, .ref mu, .ref mk, .ref mx, .long po, .long de])), (mi, .inl (0, 4, .inl ir))]) rfl ?_
  refine r_aload_n d_Mm_poolHas_5 rfl 0 rfl ?_
  refine r_iload_n d_Mm_poolHas_6 rfl 1 rfl ?_
  refine r_callS (As := [.int 100]) (rest := [.ref m]) (csC := []) (is := []) ln_Mm_269 w_st_Mm_place ok_Mm_poolHas_Mm_place d_Mm_poolHas_7 (C_Mm_placeD g) rfl rfl (Nat.le_of_ble_eq_true rfl) rfl (by decide) (by omega) (by omega) (fun E cs1 hx => ?_) (fun v cs1 hx => ?_)
  · exact absurd hx.1 (by simp)
  · obtain ⟨e1, rfl⟩ := hx
    cases e1
    refine ⟨rfl, ?_⟩
    refine r_st (st2 := [.int 3, .ref m]) rfl ?_
    refine r_cs (cs2 := [(m, .inr (12, [.int 0, .ref mp, .int pt, .ref mf, .ref mh, .ref mn, .ref mt, .ref mz, .ref mc_, .ref mq, .ref mgr, .int cl, .int wa, .int co_, .int fi, .int bu, .int ho, .ref ml, .ref mi, .ref mr, .int lh, .int mg, .int wd, .int fpi, .int fal, .ref mm, .ref mu, .ref mk, .ref mx, .long po, .long de])), (mi, .inl (0, 4, .inl ir))]) rfl ?_
    refine r_iconst d_Mm_poolHas_10 (v := (-1)) (by decide) ?_
    refine r_icmp_eq (tgt := 21) d_Mm_poolHas_11 (by decide) (fun c_11 => ?_) (fun c_11 => ?_)
    · exact absurd c_11 (by decide)
    · refine r_iload_n d_Mm_poolHas_14 rfl 2 rfl ?_
      refine r_callS (As := [.int k]) (rest := [.ref m]) (csC := []) (is := []) ln_Mm_246 w_st_Mm_element ok_Mm_poolHas_Mm_element d_Mm_poolHas_15 (C_Mm_element g k) rfl rfl (Nat.le_of_ble_eq_true rfl) rfl (by decide) (by omega) (by omega) (fun E cs1 hx => ?_) (fun v cs1 hx => ?_)
      · exact absurd hx.1 (by simp)
      · obtain ⟨e1, rfl⟩ := hx
        cases e1
        refine ⟨rfl, ?_⟩
        refine r_st (st2 := [.int (z_ix 2 k), .ref m]) rfl ?_
        refine r_cs (cs2 := [(m, .inr (12, [.int 0, .ref mp, .int pt, .ref mf, .ref mh, .ref mn, .ref mt, .ref mz, .ref mc_, .ref mq, .ref mgr, .int cl, .int wa, .int co_, .int fi, .int bu, .int ho, .ref ml, .ref mi, .ref mr, .int lh, .int mg, .int wd, .int fpi, .int fal, .ref mm, .ref mu, .ref mk, .ref mx, .long po, .long de])), (mi, .inl (0, 4, .inl ir))]) rfl ?_
        refine r_if_ge (tgt := 25) d_Mm_poolHas_18 (by decide) (fun c_18 => ?_) (fun c_18 => ?_)
        · refine r_iconst d_Mm_poolHas_25 (v := 0) (by decide) ?_
          refine r_iconst d_Mm_poolHas_26 (v := 1) (by decide) ?_
          refine r_callV (As := [.int 0, .int 1]) (rest := []) (csC := [(m, .inr (12, [.int 0, .ref mp, .int pt, .ref mf, .ref mh, .ref mn, .ref mt, .ref mz, .ref mc_, .ref mq, .ref mgr, .int cl, .int wa, .int co_, .int fi, .int bu, .int ho, .ref ml, .ref mi, .ref mr, .int lh, .int mg, .int wd, .int fpi, .int fal, .ref mm, .ref mu, .ref mk, .ref mx, .long po, .long de]))]) (is := [0]) (q0 := 0) rfl rfl ln_Mm_103 w_im_Mm_fails w_se_Mm_fails ok_Mm_poolHas_Mm_fails d_Mm_poolHas_27 (C_Mm_fails0 g m mp mf mh mn mt mz mc_ mq mgr ml mi mr mm mu mk mx th pt cl wa co_ fi bu ho lh mg wd fpi fal po de 1) rfl rfl (Nat.le_of_ble_eq_true rfl) rfl (by decide) (by omega) (by omega) (fun E cs1 hx => ?_) (fun v cs1 hx => ?_)
          · exact absurd hx.1 (by simp)
          · obtain ⟨e1, rfl⟩ := hx
            cases e1
            refine ⟨rfl, ?_⟩
            refine r_st (st2 := [.int 0]) rfl ?_
            refine r_cs (cs2 := [(m, .inr (12, [.int 0, .ref mp, .int pt, .ref mf, .ref mh, .ref mn, .ref mt, .ref mz, .ref mc_, .ref mq, .ref mgr, .int cl, .int wa, .int co_, .int fi, .int bu, .int ho, .ref ml, .ref mi, .ref mr, .int lh, .int mg, .int wd, .int fpi, .int fal, .ref mm, .ref mu, .ref mk, .ref mx, .long po, .long de])), (mi, .inl (0, 4, .inl ir))]) rfl ?_
            refine r_if_ne (tgt := 58) d_Mm_poolHas_30 (by decide) (fun c_30 => ?_) (fun c_30 => ?_)
            · exact absurd c_30 (by decide)
            · refine r_aload_n d_Mm_poolHas_33 rfl 0 rfl ?_
              refine r_aload_n d_Mm_poolHas_34 rfl 0 rfl ?_
              refine r_get fs_Mm_62 d_Mm_poolHas_35 (q0 := 0) rfl rfl ?_
              refine r_iload_n d_Mm_poolHas_38 rfl 1 rfl ?_
              refine r_callS (As := [.int 100]) (rest := [.ref mi, .ref m]) (csC := []) (is := []) ln_Mm_269 w_st_Mm_place ok_Mm_poolHas_Mm_place d_Mm_poolHas_39 (C_Mm_placeD g) rfl rfl (Nat.le_of_ble_eq_true rfl) rfl (by decide) (by omega) (by omega) (fun E cs1 hx => ?_) (fun v cs1 hx => ?_)
              · exact absurd hx.1 (by simp)
              · obtain ⟨e1, rfl⟩ := hx
                cases e1
                refine ⟨rfl, ?_⟩
                refine r_st (st2 := [.int 3, .ref mi, .ref m]) rfl ?_
                refine r_cs (cs2 := [(m, .inr (12, [.int 0, .ref mp, .int pt, .ref mf, .ref mh, .ref mn, .ref mt, .ref mz, .ref mc_, .ref mq, .ref mgr, .int cl, .int wa, .int co_, .int fi, .int bu, .int ho, .ref ml, .ref mi, .ref mr, .int lh, .int mg, .int wd, .int fpi, .int fal, .ref mm, .ref mu, .ref mk, .ref mx, .long po, .long de])), (mi, .inl (0, 4, .inl ir))]) rfl ?_
                refine r_iald d_Mm_poolHas_42 (q0 := 1) rfl (fun q => q.elim (by decide) (by decide)) (v := ir 3) rfl ?_
                refine r_if_ne (tgt := 50) d_Mm_poolHas_43 (by decide) (fun c_43 => ?_) (fun c_43 => ?_)
                · exact absurd h0 c_43
                · refine r_iconst d_Mm_poolHas_46 (v := 1) (by decide) ?_
                  refine r_goto (tgt := 51) d_Mm_poolHas_47 (by decide) ?_
                  refine r_iconst d_Mm_poolHas_51 (v := 2) (by decide) ?_
                  refine r_callV (As := [.int 1, .int 2]) (rest := []) (csC := [(m, .inr (12, [.int 0, .ref mp, .int pt, .ref mf, .ref mh, .ref mn, .ref mt, .ref mz, .ref mc_, .ref mq, .ref mgr, .int cl, .int wa, .int co_, .int fi, .int bu, .int ho, .ref ml, .ref mi, .ref mr, .int lh, .int mg, .int wd, .int fpi, .int fal, .ref mm, .ref mu, .ref mk, .ref mx, .long po, .long de]))]) (is := [0]) (q0 := 0) rfl rfl ln_Mm_103 w_im_Mm_fails w_se_Mm_fails ok_Mm_poolHas_Mm_fails d_Mm_poolHas_52 (C_Mm_fails2 g m mp mf mh mn mt mz mc_ mq mgr ml mi mr mm mu mk mx th pt cl wa co_ fi bu ho lh mg wd fpi fal po de) rfl rfl (Nat.le_of_ble_eq_true rfl) rfl (by decide) (by omega) (by omega) (fun E cs1 hx => ?_) (fun v cs1 hx => ?_)
                  · exact absurd hx.1 (by simp)
                  · obtain ⟨e1, rfl⟩ := hx
                    cases e1
                    refine ⟨rfl, ?_⟩
                    refine r_st (st2 := [.int 1]) rfl ?_
                    refine r_cs (cs2 := [(m, .inr (12, [.int 2, .ref mp, .int pt, .ref mf, .ref mh, .ref mn, .ref mt, .ref mz, .ref mc_, .ref mq, .ref mgr, .int cl, .int wa, .int co_, .int fi, .int bu, .int ho, .ref ml, .ref mi, .ref mr, .int lh, .int mg, .int wd, .int fpi, .int fal, .ref mm, .ref mu, .ref mk, .ref mx, .long po, .long de])), (mi, .inl (0, 4, .inl ir))]) rfl ?_
                    refine r_if_eq (tgt := 60) d_Mm_poolHas_55 (by decide) (fun c_55 => ?_) (fun c_55 => ?_)
                    · exact absurd c_55 (by decide)
                    · refine r_iconst d_Mm_poolHas_58 (v := 0) (by decide) ?_
                      refine r_iret d_Mm_poolHas_59 rfl rfl ?_
                      exact ⟨rfl, rfl⟩
        · exact absurd (Int32.not_le.mp c_18) hk
abbrev M_Mm_hold : zM := (⟨"IronpourModel", "hold", "(I)I"⟩, prog_14_method_61_code, 3, (Option.some FieldType.int), 2, 42, [])
theorem d_Mm_hold_0 : decode prog_14_method_61_code 0 = .ok (.aload_n 0, 1) := zo_42 (zd_b zq_prog_14_method_61_code_0 0 rfl rfl rfl)
theorem d_Mm_hold_1 : decode prog_14_method_61_code 1 = .ok (.iconst 0, 1) := zo_3 (zd_b zq_prog_14_method_61_code_0 1 rfl rfl rfl)
theorem d_Mm_hold_2 : decode prog_14_method_61_code 2 = .ok (.putfield 84, 3) := zo_181 (d := 0) (e := 84) (zd_b zq_prog_14_method_61_code_0 2 rfl rfl rfl) (zd_b zq_prog_14_method_61_code_0 3 rfl rfl rfl) (zd_b zq_prog_14_method_61_code_0 4 rfl rfl rfl)
theorem d_Mm_hold_5 : decode prog_14_method_61_code 5 = .ok (.aload_n 0, 1) := zo_42 (zd_b zq_prog_14_method_61_code_0 5 rfl rfl rfl)
theorem d_Mm_hold_6 : decode prog_14_method_61_code 6 = .ok (.iload_n 1, 1) := zo_27 (zd_b zq_prog_14_method_61_code_0 6 rfl rfl rfl)
theorem d_Mm_hold_7 : decode prog_14_method_61_code 7 = .ok (.iconst 1, 1) := zo_4 (zd_b zq_prog_14_method_61_code_0 7 rfl rfl rfl)
theorem d_Mm_hold_8 : decode prog_14_method_61_code 8 = .ok (.bipush 120, 2) := zo_16 (d := 120) (zd_b zq_prog_14_method_61_code_0 8 rfl rfl rfl) (zd_b zq_prog_14_method_61_code_0 9 rfl rfl rfl) (by decide +kernel)
theorem d_Mm_hold_10 : decode prog_14_method_61_code 10 = .ok (.invokestatic 87, 3) := zo_184 (d := 0) (e := 87) (zd_b zq_prog_14_method_61_code_0 10 rfl rfl rfl) (zd_b zq_prog_14_method_61_code_0 11 rfl rfl rfl) (zd_b zq_prog_14_method_61_code_0 12 rfl rfl rfl)
theorem ok_Mm_hold_Mm_in : z_ok M_Mm_hold M_Mm_in 3 := ⟨z_mj7 (i := 190) rfl (by decide +kernel), rfl, ⟨by decide +kernel, by decide +kernel, by decide +kernel⟩, ⟨by decide, by decide⟩, z_mj1 (i := 14) rfl (by decide +kernel), rfl⟩
theorem d_Mm_hold_13 : decode prog_14_method_61_code 13 = .ok (.ifCond .ne 7, 3) := zo_154 (d := 0) (e := 7) (zd_b zq_prog_14_method_61_code_0 13 rfl rfl rfl) (zd_b zq_prog_14_method_61_code_0 14 rfl rfl rfl) (zd_b zq_prog_14_method_61_code_0 15 rfl rfl rfl) (by decide +kernel)
theorem d_Mm_hold_16 : decode prog_14_method_61_code 16 = .ok (.iconst 1, 1) := zo_4 (zd_b zq_prog_14_method_61_code_0 16 rfl rfl rfl)
theorem d_Mm_hold_17 : decode prog_14_method_61_code 17 = .ok (.goto 4, 3) := zo_167 (d := 0) (e := 4) (zd_b zq_prog_14_method_61_code_0 17 rfl rfl rfl) (zd_b zq_prog_14_method_61_code_0 18 rfl rfl rfl) (zd_b zq_prog_14_method_61_code_0 19 rfl rfl rfl) (by decide +kernel)
theorem d_Mm_hold_21 : decode prog_14_method_61_code 21 = .ok (.iconst 1, 1) := zo_4 (zd_b zq_prog_14_method_61_code_0 21 rfl rfl rfl)
theorem d_Mm_hold_22 : decode prog_14_method_61_code 22 = .ok (.invokevirtual 103, 3) := zo_182 (d := 0) (e := 103) (zd_b zq_prog_14_method_61_code_0 22 rfl rfl rfl) (zd_b zq_prog_14_method_61_code_0 23 rfl rfl rfl) (zd_b zq_prog_14_method_61_code_0 24 rfl rfl rfl)
theorem ok_Mm_hold_Mm_fails : z_ok M_Mm_hold M_Mm_fails 2 := ⟨z_mj7 (i := 196) rfl (by decide +kernel), rfl, ⟨by decide +kernel, by decide +kernel, by decide +kernel⟩, ⟨by decide, by decide⟩, z_mj1 (i := 14) rfl (by decide +kernel), rfl⟩
theorem d_Mm_hold_25 : decode prog_14_method_61_code 25 = .ok (.ifCond .eq 5, 3) := zo_153 (d := 0) (e := 5) (zd_b zq_prog_14_method_61_code_0 25 rfl rfl rfl) (zd_b zq_prog_14_method_61_code_0 26 rfl rfl rfl) (zd_b zq_prog_14_method_61_code_0 27 rfl rfl rfl) (by decide +kernel)
theorem d_Mm_hold_28 : decode prog_14_method_61_code 28 = .ok (.iconst 0, 1) := zo_3 (zd_b zq_prog_14_method_61_code_0 28 rfl rfl rfl)
theorem d_Mm_hold_29 : decode prog_14_method_61_code 29 = .ok (.ireturn, 1) := zo_172 (zd_b zq_prog_14_method_61_code_0 29 rfl rfl rfl)
