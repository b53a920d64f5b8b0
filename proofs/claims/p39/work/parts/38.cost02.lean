set_option maxHeartbeats 4000000 in
set_option maxRecDepth 100000 in
theorem C_Mm_leastCostE (g : zG) (m mp mf mh mn mt mz mc_ mq mgr ml mi mr mm mu mk mx : Nat) (th pt cl wa co_ fi bu ho lh mg wd fpi fal : Int32) (po de : Int64) (le mo si pp ps pa : Int32) (hw : ¬ ((0 ≤ le ∧ le ≤ 450) ∧ (le ≤ mo ∧ mo ≤ 450) ∧ (0 ≤ si ∧ si ≤ 450) ∧ (1 ≤ pp ∧ pp ≤ 1000) ∧ (1 ≤ ps ∧ ps ≤ 1000) ∧ (1 ≤ pa ∧ pa ≤ 1000))) : CT g M_Mm_leastCost [.ref m, .int le, .int mo, .int si, .int pp, .int ps, .int pa] [(m, .inr (12, [.int th, .ref mp, .int pt, .ref mf, .ref mh, .ref mn, .ref mt, .ref mz, .ref mc_, .ref mq, .ref mgr, .int cl, .int wa, .int co_, .int fi, .int bu, .int ho, .ref ml, .ref mi, .ref mr, .int lh, .int mg, .int wd, .int fpi, .int fal, .ref mm, .ref mu, .ref mk, .ref mx, .long po, .long de]))] (fun o cs1 => o = .inl (some (.int 0)) ∧ cs1 = [(m, .inr (12, [.int 1, .ref mp, .int pt, .ref mf, .ref mh, .ref mn, .ref mt, .ref mz, .ref mc_, .ref mq, .ref mgr, .int cl, .int wa, .int co_, .int fi, .int bu, .int ho, .ref ml, .ref mi, .ref mr, .int lh, .int mg, .int wd, .int fpi, .int fal, .ref mm, .ref mu, .ref mk, .ref mx, .long po, .long de]))]) 0 0 := by
  refine z_of (by decide) rfl (Nat.le_of_ble_eq_true rfl) (fun w0 => ?_)
  refine r_lvE (lv2 := [(0, .ref m), (1, .int le), (2, .int mo), (3, .int si), (4, .int pp), (5, .int ps), (6, .int pa)]) rfl ?_
  refine r_aload_n d_Mm_leastCost_0 rfl 0 rfl ?_
  refine r_iconst d_Mm_leastCost_1 (v := 0) (by decide) ?_
  refine r_put fp_Mm_84 d_Mm_leastCost_2 (fun h => nomatch h) rfl rfl (q0 := 0) rfl (Nat.le_of_ble_eq_true rfl) (cs' := [(m, .inr (12, [.int 0, .ref mp, .int pt, .ref mf, .ref mh, .ref mn, .ref mt, .ref mz, .ref mc_, .ref mq, .ref mgr, .int cl, .int wa, .int co_, .int fi, .int bu, .int ho, .ref ml, .ref mi, .ref mr, .int lh, .int mg, .int wd, .int fpi, .int fal, .ref mm, .ref mu, .ref mk, .ref mx, .long po, .long de]))]) rfl ?_
  refine r_iload_n d_Mm_leastCost_5 rfl 1 rfl ?_
  refine r_iconst d_Mm_leastCost_6 (v := 0) (by decide) ?_
  refine r_sipush d_Mm_leastCost_7 (v := 450) (by decide) ?_
  refine r_callS (As := [.int le, .int 0, .int 450]) (rest := []) (csC := []) (is := []) ln_Mm_87 w_st_Mm_in ok_Mm_leastCost_Mm_in d_Mm_leastCost_10 (C_Mm_in g le 0 450) rfl rfl (Nat.le_of_ble_eq_true rfl) rfl (by decide) (by omega) (by omega) (fun E cs1 hx => ?_) (fun v cs1 hx => ?_)
  · exact absurd hx.1 (by simp)
  · obtain ⟨e1, rfl⟩ := hx
    cases e1
    refine ⟨rfl, ?_⟩
    refine r_st (st2 := [.int (if 0 ≤ le ∧ le ≤ 450 then 1 else 0)]) rfl ?_
    refine r_cs (cs2 := [(m, .inr (12, [.int 0, .ref mp, .int pt, .ref mf, .ref mh, .ref mn, .ref mt, .ref mz, .ref mc_, .ref mq, .ref mgr, .int cl, .int wa, .int co_, .int fi, .int bu, .int ho, .ref ml, .ref mi, .ref mr, .int lh, .int mg, .int wd, .int fpi, .int fal, .ref mm, .ref mu, .ref mk, .ref mx, .long po, .long de]))]) rfl ?_
    refine r_if_eq (tgt := 47) d_Mm_leastCost_13 (by decide) (fun c_13 => ?_) (fun c_13 => ?_)
    · refine r_iconst d_Mm_leastCost_47 (v := 0) (by decide) ?_
      refine r_istore (lv' := [(7, .int 0), (0, .ref m), (1, .int le), (2, .int mo), (3, .int si), (4, .int pp), (5, .int ps), (6, .int pa)]) d_Mm_leastCost_48 (by decide) rfl ?_
      refine r_aload_n d_Mm_leastCost_50 rfl 1 rfl ?_
      refine r_iload d_Mm_leastCost_51 0 rfl ?_
      refine r_if_eq (tgt := 92) d_Mm_leastCost_53 (by decide) (fun c_53 => ?_) (fun c_53 => ?_)
      · refine r_iconst d_Mm_leastCost_92 (v := 1) (by decide) ?_
        refine r_goto (tgt := 97) d_Mm_leastCost_93 (by decide) ?_
        refine r_iconst d_Mm_leastCost_97 (v := 1) (by decide) ?_
        refine r_callV (As := [.int 1, .int 1]) (rest := []) (csC := [(m, .inr (12, [.int 0, .ref mp, .int pt, .ref mf, .ref mh, .ref mn, .ref mt, .ref mz, .ref mc_, .ref mq, .ref mgr, .int cl, .int wa, .int co_, .int fi, .int bu, .int ho, .ref ml, .ref mi, .ref mr, .int lh, .int mg, .int wd, .int fpi, .int fal, .ref mm, .ref mu, .ref mk, .ref mx, .long po, .long de]))]) (is := [0]) (q0 := 0) rfl rfl ln_Mm_103 w_im_Mm_fails w_se_Mm_fails ok_Mm_leastCost_Mm_fails d_Mm_leastCost_98 (C_Mm_fails1 g m mp mf mh mn mt mz mc_ mq mgr ml mi mr mm mu mk mx th pt cl wa co_ fi bu ho lh mg wd fpi fal po de) rfl rfl (Nat.le_of_ble_eq_true rfl) rfl (by decide) (by omega) (by omega) (fun E cs1 hx => ?_) (fun v cs1 hx => ?_)
        · exact absurd hx.1 (by simp)
        · obtain ⟨e1, rfl⟩ := hx
          cases e1
          refine ⟨rfl, ?_⟩
          refine r_st (st2 := [.int 1]) rfl ?_
          refine r_cs (cs2 := [(m, .inr (12, [.int 1, .ref mp, .int pt, .ref mf, .ref mh, .ref mn, .ref mt, .ref mz, .ref mc_, .ref mq, .ref mgr, .int cl, .int wa, .int co_, .int fi, .int bu, .int ho, .ref ml, .ref mi, .ref mr, .int lh, .int mg, .int wd, .int fpi, .int fal, .ref mm, .ref mu, .ref mk, .ref mx, .long po, .long de]))]) rfl ?_
          refine r_if_eq (tgt := 106) d_Mm_leastCost_101 (by decide) (fun c_101 => ?_) (fun c_101 => ?_)
          · exact absurd c_101 (by decide)
          · refine r_iconst d_Mm_leastCost_104 (v := 0) (by decide) ?_
            refine r_iret d_Mm_leastCost_105 rfl rfl ?_
            exact ⟨rfl, rfl⟩
      · exact absurd c_53 (by decide)
    · refine r_iload_n d_Mm_leastCost_16 rfl 2 rfl ?_
      refine r_iconst d_Mm_leastCost_17 (v := 0) (by decide) ?_
      refine r_sipush d_Mm_leastCost_18 (v := 450) (by decide) ?_
      refine r_callS (As := [.int mo, .int 0, .int 450]) (rest := []) (csC := []) (is := []) ln_Mm_87 w_st_Mm_in ok_Mm_leastCost_Mm_in d_Mm_leastCost_21 (C_Mm_in g mo 0 450) rfl rfl (Nat.le_of_ble_eq_true rfl) rfl (by decide) (by omega) (by omega) (fun E cs1 hx => ?_) (fun v cs1 hx => ?_)
      · exact absurd hx.1 (by simp)
      · obtain ⟨e1, rfl⟩ := hx
        cases e1
        refine ⟨rfl, ?_⟩
        refine r_st (st2 := [.int (if 0 ≤ mo ∧ mo ≤ 450 then 1 else 0)]) rfl ?_
        refine r_cs (cs2 := [(m, .inr (12, [.int 0, .ref mp, .int pt, .ref mf, .ref mh, .ref mn, .ref mt, .ref mz, .ref mc_, .ref mq, .ref mgr, .int cl, .int wa, .int co_, .int fi, .int bu, .int ho, .ref ml, .ref mi, .ref mr, .int lh, .int mg, .int wd, .int fpi, .int fal, .ref mm, .ref mu, .ref mk, .ref mx, .long po, .long de]))]) rfl ?_
        refine r_if_eq (tgt := 47) d_Mm_leastCost_24 (by decide) (fun c_24 => ?_) (fun c_24 => ?_)
        · refine r_iconst d_Mm_leastCost_47 (v := 0) (by decide) ?_
          refine r_istore (lv' := [(7, .int 0), (0, .ref m), (1, .int le), (2, .int mo), (3, .int si), (4, .int pp), (5, .int ps), (6, .int pa)]) d_Mm_leastCost_48 (by decide) rfl ?_
          refine r_aload_n d_Mm_leastCost_50 rfl 1 rfl ?_
          refine r_iload d_Mm_leastCost_51 0 rfl ?_
          refine r_if_eq (tgt := 92) d_Mm_leastCost_53 (by decide) (fun c_53 => ?_) (fun c_53 => ?_)
          · refine r_iconst d_Mm_leastCost_92 (v := 1) (by decide) ?_
            refine r_goto (tgt := 97) d_Mm_leastCost_93 (by decide) ?_
            refine r_iconst d_Mm_leastCost_97 (v := 1) (by decide) ?_
            refine r_callV (As := [.int 1, .int 1]) (rest := []) (csC := [(m, .inr (12, [.int 0, .ref mp, .int pt, .ref mf, .ref mh, .ref mn, .ref mt, .ref mz, .ref mc_, .ref mq, .ref mgr, .int cl, .int wa, .int co_, .int fi, .int bu, .int ho, .ref ml, .ref mi, .ref mr, .int lh, .int mg, .int wd, .int fpi, .int fal, .ref mm, .ref mu, .ref mk, .ref mx, .long po, .long de]))]) (is := [0]) (q0 := 0) rfl rfl ln_Mm_103 w_im_Mm_fails w_se_Mm_fails ok_Mm_leastCost_Mm_fails d_Mm_leastCost_98 (C_Mm_fails1 g m mp mf mh mn mt mz mc_ mq mgr ml mi mr mm mu mk mx th pt cl wa co_ fi bu ho lh mg wd fpi fal po de) rfl rfl (Nat.le_of_ble_eq_true rfl) rfl (by decide) (by omega) (by omega) (fun E cs1 hx => ?_) (fun v cs1 hx => ?_)
            · exact absurd hx.1 (by simp)
            · obtain ⟨e1, rfl⟩ := hx
              cases e1
              refine ⟨rfl, ?_⟩
              refine r_st (st2 := [.int 1]) rfl ?_
              refine r_cs (cs2 := [(m, .inr (12, [.int 1, .ref mp, .int pt, .ref mf, .ref mh, .ref mn, .ref mt, .ref mz, .ref mc_, .ref mq, .ref mgr, .int cl, .int wa, .int co_, .int fi, .int bu, .int ho, .ref ml, .ref mi, .ref mr, .int lh, .int mg, .int wd, .int fpi, .int fal, .ref mm, .ref mu, .ref mk, .ref mx, .long po, .long de]))]) rfl ?_
              refine r_if_eq (tgt := 106) d_Mm_leastCost_101 (by decide) (fun c_101 => ?_) (fun c_101 => ?_)
              · exact absurd c_101 (by decide)
              · refine r_iconst d_Mm_leastCost_104 (v := 0) (by decide) ?_
                refine r_iret d_Mm_leastCost_105 rfl rfl ?_
                exact ⟨rfl, rfl⟩
          · exact absurd c_53 (by decide)
        · refine r_iload_n d_Mm_leastCost_27 rfl 3 rfl ?_
          refine r_iconst d_Mm_leastCost_28 (v := 0) (by decide) ?_
          refine r_sipush d_Mm_leastCost_29 (v := 450) (by decide) ?_
          refine r_callS (As := [.int si, .int 0, .int 450]) (rest := []) (csC := []) (is := []) ln_Mm_87 w_st_Mm_in ok_Mm_leastCost_Mm_in d_Mm_leastCost_32 (C_Mm_in g si 0 450) rfl rfl (Nat.le_of_ble_eq_true rfl) rfl (by decide) (by omega) (by omega) (fun E cs1 hx => ?_) (fun v cs1 hx => ?_)
          · exact absurd hx.1 (by simp)
          · obtain ⟨e1, rfl⟩ := hx
            cases e1
            refine ⟨rfl, ?_⟩
            refine r_st (st2 := [.int (if 0 ≤ si ∧ si ≤ 450 then 1 else 0)]) rfl ?_
            refine r_cs (cs2 := [(m, .inr (12, [.int 0, .ref mp, .int pt, .ref mf, .ref mh, .ref mn, .ref mt, .ref mz, .ref mc_, .ref mq, .ref mgr, .int cl, .int wa, .int co_, .int fi, .int bu, .int ho, .ref ml, .ref mi, .ref mr, .int lh, .int mg, .int wd, .int fpi, .int fal, .ref mm, .ref mu, .ref mk, .ref mx, .long po, .long de]))]) rfl ?_
            refine r_if_eq (tgt := 47) d_Mm_leastCost_35 (by decide) (fun c_35 => ?_) (fun c_35 => ?_)
            · refine r_iconst d_Mm_leastCost_47 (v := 0) (by decide) ?_
              refine r_istore (lv' := [(7, .int 0), (0, .ref m), (1, .int le), (2, .int mo), (3, .int si), (4, .int pp), (5, .int ps), (6, .int pa)]) d_Mm_leastCost_48 (by decide) rfl ?_
              refine r_aload_n d_Mm_leastCost_50 rfl 1 rfl ?_
              refine r_iload d_Mm_leastCost_51 0 rfl ?_
              refine r_if_eq (tgt := 92) d_Mm_leastCost_53 (by decide) (fun c_53 => ?_) (fun c_53 => ?_)
              · refine r_iconst d_Mm_leastCost_92 (v := 1) (by decide) ?_
                refine r_goto (tgt := 97) d_Mm_leastCost_93 (by decide) ?_
                refine r_iconst d_Mm_leastCost_97 (v := 1) (by decide) ?_
                refine r_callV (As := [.int 1, .int 1]) (rest := []) (csC := [(m, .inr (12, [.int 0, .ref mp, .int pt, .ref mf, .ref mh, .ref mn, .ref mt, .ref mz, .ref mc_, .ref mq, .ref mgr, .int cl, .int wa, .int co_, .int fi, .int bu, .int ho, .ref ml, .ref mi, .ref mr, .int lh, .int mg, .int wd, .int fpi, .int fal, .ref mm, .ref mu, .ref mk, .ref mx, .long po, .long de]))]) (is := [0]) (q0 := 0) rfl rfl ln_Mm_103 w_im_Mm_fails w_se_Mm_fails ok_Mm_leastCost_Mm_fails d_Mm_leastCost_98 (C_Mm_fails1 g m mp mf mh mn mt mz mc_ mq mgr ml mi mr mm mu mk mx th pt cl wa co_ fi bu ho lh mg wd fpi fal po de) rfl rfl (Nat.le_of_ble_eq_true rfl) rfl (by decide) (by omega) (by omega) (fun E cs1 hx => ?_) (fun v cs1 hx => ?_)
                · exact absurd hx.1 (by simp)
                · obtain ⟨e1, rfl⟩ := hx
                  cases e1
                  refine ⟨rfl, ?_⟩
                  refine r_st (st2 := [.int 1]) rfl ?_
                  refine r_cs (cs2 := [(m, .inr (12, [.int 1, .ref mp, .int pt, .ref mf, .ref mh, .ref mn, .ref mt, .ref mz, .ref mc_, .ref mq, .ref mgr, .int cl, .int wa, .int co_, .int fi, .int bu, .int ho, .ref ml, .ref mi, .ref mr, .int lh, .int mg, .int wd, .int fpi, .int fal, .ref mm, .ref mu, .ref mk, .ref mx, .long po, .long de]))]) rfl ?_
                  refine r_if_eq (tgt := 106) d_Mm_leastCost_101 (by decide) (fun c_101 => ?_) (fun c_101 => ?_)
                  · exact absurd c_101 (by decide)
                  · refine r_iconst d_Mm_leastCost_104 (v := 0) (by decide) ?_
                    refine r_iret d_Mm_leastCost_105 rfl rfl ?_
                    exact ⟨rfl, rfl⟩
              · exact absurd c_53 (by decide)
            · refine r_iload_n d_Mm_leastCost_38 rfl 2 rfl ?_
              refine r_iload_n d_Mm_leastCost_39 rfl 1 rfl ?_
              refine r_icmp_lt (tgt := 47) d_Mm_leastCost_40 (by decide) (fun c_40 => ?_) (fun c_40 => ?_)
              · refine r_iconst d_Mm_leastCost_47 (v := 0) (by decide) ?_
                refine r_istore (lv' := [(7, .int 0), (0, .ref m), (1, .int le), (2, .int mo), (3, .int si), (4, .int pp), (5, .int ps), (6, .int pa)]) d_Mm_leastCost_48 (by decide) rfl ?_
                refine r_aload_n d_Mm_leastCost_50 rfl 1 rfl ?_
                refine r_iload d_Mm_leastCost_51 0 rfl ?_
                refine r_if_eq (tgt := 92) d_Mm_leastCost_53 (by decide) (fun c_53 => ?_) (fun c_53 => ?_)
                · refine r_iconst d_Mm_leastCost_92 (v := 1) (by decide) ?_
                  refine r_goto (tgt := 97) d_Mm_leastCost_93 (by decide) ?_
                  refine r_iconst d_Mm_leastCost_97 (v := 1) (by decide) ?_
                  refine r_callV (As := [.int 1, .int 1]) (rest := []) (csC := [(m, .inr (12, [.int 0, .ref mp, .int pt, .ref mf, .ref mh, .ref mn, .ref mt, .ref mz, .ref mc_, .ref mq, .ref mgr, .int cl, .int wa, .int co_, .int fi, .int bu, .int ho, .ref ml, .ref mi, .ref mr, .int lh, .int mg, .int wd, .int fpi, .int fal, .ref mm, .ref mu, .ref mk, .ref mx, .long po, .long de]))]) (is := [0]) (q0 := 0) rfl rfl ln_Mm_103 w_im_Mm_fails w_se_Mm_fails ok_Mm_leastCost_Mm_fails d_Mm_leastCost_98 (C_Mm_fails1 g m mp mf mh mn mt mz mc_ mq mgr ml mi mr mm mu mk mx th pt cl wa co_ fi bu ho lh mg wd fpi fal po de) rfl rfl (Nat.le_of_ble_eq_true rfl) rfl (by decide) (by omega) (by omega) (fun E cs1 hx => ?_) (fun v cs1 hx => ?_)
                  · exact absurd hx.1 (by simp)
                  · obtain ⟨e1, rfl⟩ := hx
                    cases e1
                    refine ⟨rfl, ?_⟩
                    refine r_st (st2 := [.int 1]) rfl ?_
                    refine r_cs (cs2 := [(m, .inr (12, [.int 1, .ref mp, .int pt, .ref mf, .ref mh, .ref mn, .ref mt, .ref mz, .ref mc_, .ref mq, .ref mgr, .int cl, .int wa, .int co_, .int fi, .int bu, .int ho, .ref ml, .ref mi, .ref mr, .int lh, .int mg, .int wd, .int fpi, .int fal, .ref mm, .ref mu, .ref mk, .ref mx, .long po, .long de]))]) rfl ?_
                    refine r_if_eq (tgt := 106) d_Mm_leastCost_101 (by decide) (fun c_101 => ?_) (fun c_101 => ?_)
                    · exact absurd c_101 (by decide)
                    · refine r_iconst d_Mm_leastCost_104 (v := 0) (by decide) ?_
                      refine r_iret d_Mm_leastCost_105 rfl rfl ?_
                      exact ⟨rfl, rfl⟩
                · exact absurd c_53 (by decide)
              · refine r_iconst d_Mm_leastCost_43 (v := 1) (by decide) ?_
                refine r_goto (tgt := 48) d_Mm_leastCost_44 (by decide) ?_
                refine r_istore (lv' := [(7, .int 1), (0, .ref m), (1, .int le), (2, .int mo), (3, .int si), (4, .int pp), (5, .int ps), (6, .int pa)]) d_Mm_leastCost_48 (by decide) rfl ?_
                refine r_aload_n d_Mm_leastCost_50 rfl 1 rfl ?_
                refine r_iload d_Mm_leastCost_51 0 rfl ?_
                refine r_if_eq (tgt := 92) d_Mm_leastCost_53 (by decide) (fun c_53 => ?_) (fun c_53 => ?_)
                · exact absurd c_53 (by decide)
                · refine r_iload d_Mm_leastCost_56 5 rfl ?_
                  refine r_iconst d_Mm_leastCost_58 (v := 1) (by decide) ?_
                  refine r_sipush d_Mm_leastCost_59 (v := 1000) (by decide) ?_
                  refine r_callS (As := [.int pp, .int 1, .int 1000]) (rest := [.ref m]) (csC := []) (is := []) ln_Mm_87 w_st_Mm_in ok_Mm_leastCost_Mm_in d_Mm_leastCost_62 (C_Mm_in g pp 1 1000) rfl rfl (Nat.le_of_ble_eq_true rfl) rfl (by decide) (by omega) (by omega) (fun E cs1 hx => ?_) (fun v cs1 hx => ?_)
                  · exact absurd hx.1 (by simp)
                  · obtain ⟨e1, rfl⟩ := hx
                    cases e1
                    refine ⟨rfl, ?_⟩
                    refine r_st (st2 := [.int (if 1 ≤ pp ∧ pp ≤ 1000 then 1 else 0), .ref m]) rfl ?_
                    refine r_cs (cs2 := [(m, .inr (12, [.int 0, .ref mp, .int pt, .ref mf, .ref mh, .ref mn, .ref mt, .ref mz, .ref mc_, .ref mq, .ref mgr, .int cl, .int wa, .int co_, .int fi, .int bu, .int ho, .ref ml, .ref mi, .ref mr, .int lh, .int mg, .int wd, .int fpi, .int fal, .ref mm, .ref mu, .ref mk, .ref mx, .long po, .long de]))]) rfl ?_
                    refine r_if_eq (tgt := 92) d_Mm_leastCost_65 (by decide) (fun c_65 => ?_) (fun c_65 => ?_)
                    · refine r_iconst d_Mm_leastCost_92 (v := 1) (by decide) ?_
                      refine r_goto (tgt := 97) d_Mm_leastCost_93 (by decide) ?_
                      refine r_iconst d_Mm_leastCost_97 (v := 1) (by decide) ?_
                      refine r_callV (As := [.int 1, .int 1]) (rest := []) (csC := [(m, .inr (12, [.int 0, .ref mp, .int pt, .ref mf, .ref mh, .ref mn, .ref mt, .ref mz, .ref mc_, .ref mq, .ref mgr, .int cl, .int wa, .int co_, .int fi, .int bu, .int ho, .ref ml, .ref mi, .ref mr, .int lh, .int mg, .int wd, .int fpi, .int fal, .ref mm, .ref mu, .ref mk, .ref mx, .long po, .long de]))]) (is := [0]) (q0 := 0) rfl rfl ln_Mm_103 w_im_Mm_fails w_se_Mm_fails ok_Mm_leastCost_Mm_fails d_Mm_leastCost_98 (C_Mm_fails1 g m mp mf mh mn mt mz mc_ mq mgr ml mi mr mm mu mk mx th pt cl wa co_ fi bu ho lh mg wd fpi fal po de) rfl rfl (Nat.le_of_ble_eq_true rfl) rfl (by decide) (by omega) (by omega) (fun E cs1 hx => ?_) (fun v cs1 hx => ?_)
                      · exact absurd hx.1 (by simp)
                      · obtain ⟨e1, rfl⟩ := hx
                        cases e1
                        refine ⟨rfl, ?_⟩
                        refine r_st (st2 := [.int 1]) rfl ?_
                        refine r_cs (cs2 := [(m, .inr (12, [.int 1, .ref mp, .int pt, .ref mf, .ref mh, .ref mn, .ref mt, .ref mz, .ref mc_, .ref mq, .ref mgr, .int cl, .int wa, .int co_, .int fi, .int bu, .int ho, .ref ml, .ref mi, .ref mr, .int lh, .int mg, .int wd, .int fpi, .int fal, .ref mm, .ref mu, .ref mk, .ref mx, .long po, .long de]))]) rfl ?_
                        refine r_if_eq (tgt := 106) d_Mm_leastCost_101 (by decide) (fun c_101 => ?_) (fun c_101 => ?_)
                        · exact absurd c_101 (by decide)
                        · refine r_iconst d_Mm_leastCost_104 (v := 0) (by decide) ?_
                          refine r_iret d_Mm_leastCost_105 rfl rfl ?_
                          exact ⟨rfl, rfl⟩
                    · refine r_iload d_Mm_leastCost_68 6 rfl ?_
                      refine r_iconst d_Mm_leastCost_70 (v := 1) (by decide) ?_
                      refine r_sipush d_Mm_leastCost_71 (v := 1000) (by decide) ?_
                      refine r_callS (As := [.int ps, .int 1, .int 1000]) (rest := [.ref m]) (csC := []) (is := []) ln_Mm_87 w_st_Mm_in ok_Mm_leastCost_Mm_in d_Mm_leastCost_74 (C_Mm_in g ps 1 1000) rfl rfl (Nat.le_of_ble_eq_true rfl) rfl (by decide) (by omega) (by omega) (fun E cs1 hx => ?_) (fun v cs1 hx => ?_)
                      · exact absurd hx.1 (by simp)
                      · obtain ⟨e1, rfl⟩ := hx
                        cases e1
                        refine ⟨rfl, ?_⟩
                        refine r_st (st2 := [.int (if 1 ≤ ps ∧ ps ≤ 1000 then 1 else 0), .ref m]) rfl ?_
                        refine r_cs (cs2 := [(m, .inr (12, [.int 0, .ref mp, .int pt, .ref mf, .ref mh, .ref mn, .ref mt, .ref mz, .ref mc_, .ref mq, .ref mgr, .int cl, .int wa, .int co_, .int fi, .int bu, .int ho, .ref ml, .ref mi, .ref mr, .int lh, .int mg, .int wd, .int fpi, .int fal, .ref mm, .ref mu, .ref mk, .ref mx, .long po, .long de]))]) rfl ?_
                        refine r_if_eq (tgt := 92) d_Mm_leastCost_77 (by decide) (fun c_77 => ?_) (fun c_77 => ?_)
                        · refine r_iconst d_Mm_leastCost_92 (v := 1) (by decide) ?_
                          refine r_goto (tgt := 97) d_Mm_leastCost_93 (by decide) ?_
                          refine r_iconst d_Mm_leastCost_97 (v := 1) (by decide) ?_
                          refine r_callV (As := [.int 1, .int 1]) (rest := []) (csC := [(m, .inr (12, [.int 0, .ref mp, .int pt, .ref mf, .ref mh, .ref mn, .ref mt, .ref mz, .ref mc_, .ref mq, .ref mgr, .int cl, .int wa, .int co_, .int fi, .int bu, .int ho, .ref ml, .ref mi, .ref mr, .int lh, .int mg, .int wd, .int fpi, .int fal, .ref mm, .ref mu, .ref mk, .ref mx, .long po, .long de]))]) (is := [0]) (q0 := 0) rfl rfl ln_Mm_103 w_im_Mm_fails w_se_Mm_fails ok_Mm_leastCost_Mm_fails d_Mm_leastCost_98 (C_Mm_fails1 g m mp mf mh mn mt mz mc_ mq mgr ml mi mr mm mu mk mx th pt cl wa co_ fi bu ho lh mg wd fpi fal po de) rfl rfl (Nat.le_of_ble_eq_true rfl) rfl (by decide) (by omega) (by omega) (fun E cs1 hx => ?_) (fun v cs1 hx => ?_)
                          · exact absurd hx.1 (by simp)
                          · obtain ⟨e1, rfl⟩ := hx
                            cases e1
                            refine ⟨rfl, ?_⟩
                            refine r_st (st2 := [.int 1]) rfl ?_
                            refine r_cs (cs2 := [(m, .inr (12, [.int 1, .ref mp, .int pt, .ref mf, .ref mh, .ref mn, .ref mt, .ref mz, .ref mc_, .ref mq, .ref mgr, .int cl, .int wa, .int co_, .int fi, .int bu, .int ho, .ref ml, .ref mi, .ref mr, .int lh, .int mg, .int wd, .int fpi, .int fal, .ref mm, .ref mu, .ref mk, .ref mx, .long po, .long de]))]) rfl ?_
                            refine r_if_eq (tgt := 106) d_Mm_leastCost_101 (by decide) (fun c_101 => ?_) (fun c_101 => ?_)
                            · exact absurd c_101 (by decide)
                            · refine r_iconst d_Mm_leastCost_104 (v := 0) (by decide) ?_
                              refine r_iret d_Mm_leastCost_105 rfl rfl ?_
                              exact ⟨rfl, rfl⟩
                        · refine r_iload d_Mm_leastCost_80 7 rfl ?_
                          refine r_iconst d_Mm_leastCost_82 (v := 1) (by decide) ?_
                          refine r_sipush d_Mm_leastCost_83 (v := 1000) (by decide) ?_
                          refine r_callS (As := [.int pa, .int 1, .int 1000]) (rest := [.ref m]) (csC := []) (is := []) ln_Mm_87 w_st_Mm_in ok_Mm_leastCost_Mm_in d_Mm_leastCost_86 (C_Mm_in g pa 1 1000) rfl rfl (Nat.le_of_ble_eq_true rfl) rfl (by decide) (by omega) (by omega) (fun E cs1 hx => ?_) (fun v cs1 hx => ?_)
                          · exact absurd hx.1 (by simp)
                          · obtain ⟨e1, rfl⟩ := hx
                            cases e1
                            refine ⟨rfl, ?_⟩
                            refine r_st (st2 := [.int (if 1 ≤ pa ∧ pa ≤ 1000 then 1 else 0), .ref m]) rfl ?_
                            refine r_cs (cs2 := [(m, .inr (12, [.int 0, .ref mp, .int pt, .ref mf, .ref mh, .ref mn, .ref mt, .ref mz, .ref mc_, .ref mq, .ref mgr, .int cl, .int wa, .int co_, .int fi, .int bu, .int ho, .ref ml, .ref mi, .ref mr, .int lh, .int mg, .int wd, .int fpi, .int fal, .ref mm, .ref mu, .ref mk, .ref mx, .long po, .long de]))]) rfl ?_
                            refine r_if_ne (tgt := 96) d_Mm_leastCost_89 (by decide) (fun c_89 => ?_) (fun c_89 => ?_)
                            · exact absurd ⟨z_b1 c_13, ⟨Int32.not_lt.mp c_40, (z_b1 c_24).2⟩, z_b1 c_35, z_b1 c_65, z_b1 c_77, z_b1 c_89⟩ hw
                            · refine r_iconst d_Mm_leastCost_92 (v := 1) (by decide) ?_
                              refine r_goto (tgt := 97) d_Mm_leastCost_93 (by decide) ?_
                              refine r_iconst d_Mm_leastCost_97 (v := 1) (by decide) ?_
                              refine r_callV (As := [.int 1, .int 1]) (rest := []) (csC := [(m, .inr (12, [.int 0, .ref mp, .int pt, .ref mf, .ref mh, .ref mn, .ref mt, .ref mz, .ref mc_, .ref mq, .ref mgr, .int cl, .int wa, .int co_, .int fi, .int bu, .int ho, .ref ml, .ref mi, .ref mr, .int lh, .int mg, .int wd, .int fpi, .int fal, .ref mm, .ref mu, .ref mk, .ref mx, .long po, .long de]))]) (is := [0]) (q0 := 0) rfl rfl ln_Mm_103 w_im_Mm_fails w_se_Mm_fails ok_Mm_leastCost_Mm_fails d_Mm_leastCost_98 (C_Mm_fails1 g m mp mf mh mn mt mz mc_ mq mgr ml mi mr mm mu mk mx th pt cl wa co_ fi bu ho lh mg wd fpi fal po de) rfl rfl (Nat.le_of_ble_eq_true rfl) rfl (by decide) (by omega) (by omega) (fun E cs1 hx => ?_) (fun v cs1 hx => ?_)
                              · exact absurd hx.1 (by simp)
                              · obtain ⟨e1, rfl⟩ := hx
                                cases e1
                                refine ⟨rfl, ?_⟩
                                refine r_st (st2 := [.int 1]) rfl ?_
                                refine r_cs (cs2 := [(m, .inr (12, [.int 1, .ref mp, .int pt, .ref mf, .ref mh, .ref mn, .ref mt, .ref mz, .ref mc_, .ref mq, .ref mgr, .int cl, .int wa, .int co_, .int fi, .int bu, .int ho, .ref ml, .ref mi, .ref mr, .int lh, .int mg, .int wd, .int fpi, .int fal, .ref mm, .ref mu, .ref mk, .ref mx, .long po, .long de]))]) rfl ?_
                                refine r_if_eq (tgt := 106) d_Mm_leastCost_101 (by decide) (fun c_101 => ?_) (fun c_101 => ?_)
                                · exact absurd c_101 (by decide)
                                · refine r_iconst d_Mm_leastCost_104 (v := 0) (by decide) ?_
                                  refine r_iret d_Mm_leastCost_105 rfl rfl ?_
                                  exact ⟨rfl, rfl⟩
